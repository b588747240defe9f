/-! the model's public methods -/
/-- what a call of the model does: c: the code of its refusal (0: none), v: its answer, σ': the state then -/
def qm_op (D : va_G) (ad : Nat → Nat) (g : qw_G) (c v : Int32) (σ σ' : Nat → Nat → Int32) : Option Value → (Nat → Nat) → qw_G → Prop := fun v' ad' g' => ad = ad' ∧ (∀ t, (t < 100 ∨ 118 ≤ t) → g' t = g t) ∧ ((¬ c = 0 ∧ some (.int 0) = v' ∧ qm_P D σ c ad g') ∨ (c = 0 ∧ some (.int v) = v' ∧ qm_P D σ' c ad g'))
theorem sg_vi {x y : Int32} (h : x = y) : some (Value.int x) = some (Value.int y) := by rw [h]
def sm_are (x1 x2 x3 : Int32) : Int32 := (if (sm_isT (x1)) = 0 then (0 : Int32) else (if (sm_in (x2) ((0 : Int32)) ((3 : Int32))) = 0 then (0 : Int32) else (if (sm_in (x3) ((0 : Int32)) ((4 : Int32))) = 0 then (0 : Int32) else (1 : Int32))))
def sm_csale (σ : Nat → Nat → Int32) (x1 x2 x3 x4 : Int32) : Int32 := if sm_are x1 x2 x3 = 0 then 1 else if sm_in x4 (-1000) 1000 = 0 then 2 else if σ 2 0 = 120 then 3 else 0
def sm_saleS1 (σ : Nat → Nat → Int32) (n : Nat) (x1 x2 x3 x4 : Int32) : Nat → Nat → Int32 := sg_u (va_up (va_up (va_up (va_up σ 3 (upd (σ 3) n x1)) 4 (upd (σ 4) n x2)) 5 (upd (σ 5) n x3)) 6 (upd (σ 6) n x4)) 2 (σ 2 0 + 1)
def sm_saleS (σ : Nat → Nat → Int32) (n : Nat) (x1 x2 x3 x4 : Int32) : Nat → Nat → Int32 := sm_dropS (sm_saleS1 σ n x1 x2 x3 x4) x1.toNatClampNeg 4
theorem sm_are_ok {x1 x2 x3 : Int32} (h : ¬ sm_are x1 x2 x3 = 0) : ¬ sm_isT x1 = 0 ∧ ¬ sm_in x2 0 3 = 0 ∧ ¬ sm_in x3 0 4 = 0 := by
  unfold sm_are at h
  refine ⟨fun z => ?_, fun z => ?_, fun z => ?_⟩ <;> revert h <;> simp [z]
theorem sm_csale_ok {σ : Nat → Nat → Int32} {n : Nat} {x1 x2 x3 x4 : Int32} (hn : σ 2 0 = nI n) (hn2 : n ≤ 120) (h : sm_csale σ x1 x2 x3 x4 = 0) : ∃ t, t < 3 ∧ x1 = nI t ∧ n < 120 ∧ x1.toNatClampNeg = t := by
  unfold sm_csale at h
  by_cases h1 : sm_are x1 x2 x3 = 0
  · rw [if_pos h1] at h; exact absurd h (by decide)
  · rw [if_neg h1] at h
    by_cases h2 : sm_in x4 (-1000) 1000 = 0
    · rw [if_pos h2] at h; exact absurd h (by decide)
    · rw [if_neg h2] at h
      by_cases h3 : σ 2 0 = 120
      · rw [if_pos h3] at h; exact absurd h (by decide)
      · obtain ⟨t, ht, hx⟩ := sm_isT_ok (sm_are_ok h1).1
        refine ⟨t, ht, hx, ?_, by rw [hx, nI_clamp (by omega)]⟩
        have : ¬ n = 120 := fun z => h3 (by rw [hn, z]; rfl)
        omega
set_option maxHeartbeats 4000000 in
set_option maxRecDepth 100000 in
theorem k_X7_sale {l : Launch} (hst : l.stackTraces = false) (D : va_G) (ad : Nat → Nat) (g : qw_G) (σ : Nat → Nat → Int32) (r : Int32) (hM : qm_P D σ r ad g) (n : Nat) (hn : σ 2 0 = nI n) (hn2 : n ≤ 120) (x1 x2 x3 x4 : Int32) : qw_M l yX7_sale [Cond.code yX7_sale cX7_sale 7 (some .int)] { frames := 2, cells := 0, slots := 0, locals := 70 } D ad g [(.ref (ad 100)), (.int x1), (.int x2), (.int x3), (.int x4)] (qm_op D ad g (sm_csale σ x1 x2 x3 x4) (σ 2 0) σ (sm_saleS σ n x1 x2 x3 x4)) 0 0 := by
  refine qw_M.of (maxL := 7) (own := RX7) (lv := [(0, (.ref (ad 100))), (1, (.int x1)), (2, (.int x2)), (3, (.int x3)), (4, (.int x4))]) hst (by decide) rfl rfl (Nat.le_of_ble_eq_true rfl) ?_
  intro p e s m args below meth c A C hin
  have M0_0 : ∀ b0 : Int32, b0 = (if (sm_isT (x1)) = 0 then (0 : Int32) else (if (sm_in (x2) ((0 : Int32)) ((3 : Int32))) = 0 then (0 : Int32) else (if (sm_in (x3) ((0 : Int32)) ((4 : Int32))) = 0 then (0 : Int32) else (1 : Int32)))) → qw_W p l e { frames := 2, cells := 0, slots := 0, locals := 70 } s m args below meth c D A 7 (MQ below (qw_Q (qm_op D ad g (sm_csale σ x1 x2 x3 x4) (σ 2 0) σ (sm_saleS σ n x1 x2 x3 x4)) D A) args s 0 0 A) 0 0 ad g 30 [(0, (.ref (ad 100))), (1, (.int x1)), (2, (.int x2)), (3, (.int x3)), (4, (.int x4))] [(.int b0)] := by
    intro b0 hb0
    refine qr_istore (lv' := [(5, (.int b0)), (0, (.ref (ad 100))), (1, (.int x1)), (2, (.int x2)), (3, (.int x3)), (4, (.int x4))]) C dX7_sale_30 (by decide) rfl ?_
    refine qr_iload C dX7_sale_32 5 rfl ?_
    refine qr_sipush (v := -1000) C dX7_sale_34 (by decide) ?_
    refine qr_sipush (v := 1000) C dX7_sale_37 (by decide) ?_
    refine qr_callS C (na := 3) (As := [(.int x4), (.int (-1000 : Int32)), (.int (1000 : Int32))]) (rest := []) (k_X7_in hst D ad g (x4) ((-1000 : Int32)) ((1000 : Int32))) gi_X7_57 ⟨by decide, by decide, by decide +kernel⟩ rfl rfl (Nat.le_of_ble_eq_true rfl) rfl rfl ⟨Nat.le_of_ble_eq_true rfl, Nat.le_of_ble_eq_true rfl⟩ ⟨Nat.le_of_ble_eq_true rfl, Nat.le_of_ble_eq_true rfl⟩ dX7_sale_40 (fun v ad2 g2 hpo => ?_)
    obtain ⟨rfl, rfl, rfl⟩ := hpo
    refine qr_istore (lv' := [(6, (.int (sm_in (x4) ((-1000 : Int32)) ((1000 : Int32))))), (5, (.int b0)), (0, (.ref (ad 100))), (1, (.int x1)), (2, (.int x2)), (3, (.int x3)), (4, (.int x4))]) C dX7_sale_43 (by decide) rfl ?_
    refine qr_aload_n C dX7_sale_45 rfl 2 rfl ?_
    have M46_1 : ∀ bk : Int32, bk = (if b0 = 0 then (1 : Int32) else (if (sm_in (x4) ((-1000 : Int32)) ((1000 : Int32))) = 0 then (2 : Int32) else (if (σ 2 0) = (120 : Int32) then (3 : Int32) else (0 : Int32)))) → qw_W p l e { frames := 2, cells := 0, slots := 0, locals := 70 } s m args below meth c D A 7 (MQ below (qw_Q (qm_op D ad g (sm_csale σ x1 x2 x3 x4) (σ 2 0) σ (sm_saleS σ n x1 x2 x3 x4)) D A) args s 0 0 A) 0 0 ad g 78 [(6, (.int (sm_in (x4) ((-1000 : Int32)) ((1000 : Int32))))), (5, (.int b0)), (0, (.ref (ad 100))), (1, (.int x1)), (2, (.int x2)), (3, (.int x3)), (4, (.int x4))] [(.int bk), (.ref (ad 100))] := by
      intro bk hbk
      have hbk : bk = sm_csale σ x1 x2 x3 x4 := hbk.trans ((by subst hb0; rfl))
      refine qr_callV C (na := 1) (As := [(.int bk)]) (rest := []) (k_X7_refused hst D ad g σ r hM bk) (100) (hM.1) rfl rfl gi_X7_75 rfl ⟨by decide, by decide, by decide +kernel⟩ rfl rfl (Nat.le_of_ble_eq_true rfl) rfl rfl ⟨Nat.le_of_ble_eq_true rfl, Nat.le_of_ble_eq_true rfl⟩ ⟨Nat.le_of_ble_eq_true rfl, Nat.le_of_ble_eq_true rfl⟩ dX7_sale_78 (fun v ad2 gc3 hpo4 => ?_)
      obtain ⟨rfl, rfl, hM5, hfr6⟩ := hpo4
      refine qr_if_eq C 86 dX7_sale_81 (by decide) (fun c81 => ?_) (fun c81 => ?_)
      · skip
        obtain ⟨t0, ht0, hx1, hn3, hx1c⟩ := sm_csale_ok hn hn2 (hbk.symm.trans (sm_ref0.mp c81))
        refine qr_aload_n C dX7_sale_86 rfl 2 rfl ?_
        refine gf_X7_7 C (100) (hM5.1) rfl rfl dX7_sale_87 ?_
        refine qr_aload_n C dX7_sale_90 rfl 2 rfl ?_
        refine gf_X7_72 C (100) (hM5.1) rfl rfl dX7_sale_91 ?_
        refine qr_iload_n C dX7_sale_94 rfl 3 rfl ?_
        refine qr_iast C (103) (hM5.2.1) rfl (j := n) hn (by omega) rfl dX7_sale_95 ?_
        generalize hg8 : va_up gc3 (103) _ = g7
        have f9 : g7 (103) = some (.inl (D.1 20, 120, .inl (upd (σ 3) (n) x1))) := by rw [← hg8]; exact va_up_self _ _ _
        have f10 : g7 (100) = gc3 (100) := by rw [← hg8]; exact va_up_ne _ _ (by omega)
        have f11 : g7 (104) = gc3 (104) := by rw [← hg8]; exact va_up_ne _ _ (by omega)
        have f12 : g7 (105) = gc3 (105) := by rw [← hg8]; exact va_up_ne _ _ (by omega)
        have f13 : g7 (106) = gc3 (106) := by rw [← hg8]; exact va_up_ne _ _ (by omega)
        have f14 : g7 (107) = gc3 (107) := by rw [← hg8]; exact va_up_ne _ _ (by omega)
        have f15 : g7 (108) = gc3 (108) := by rw [← hg8]; exact va_up_ne _ _ (by omega)
        have f16 : g7 (110) = gc3 (110) := by rw [← hg8]; exact va_up_ne _ _ (by omega)
        have f17 : g7 (111) = gc3 (111) := by rw [← hg8]; exact va_up_ne _ _ (by omega)
        have f18 : g7 (112) = gc3 (112) := by rw [← hg8]; exact va_up_ne _ _ (by omega)
        have f19 : g7 (113) = gc3 (113) := by rw [← hg8]; exact va_up_ne _ _ (by omega)
        have f20 : g7 (114) = gc3 (114) := by rw [← hg8]; exact va_up_ne _ _ (by omega)
        have f21 : g7 (115) = gc3 (115) := by rw [← hg8]; exact va_up_ne _ _ (by omega)
        have f22 : g7 (116) = gc3 (116) := by rw [← hg8]; exact va_up_ne _ _ (by omega)
        have f23 : g7 (117) = gc3 (117) := by rw [← hg8]; exact va_up_ne _ _ (by omega)
        refine qr_aload_n C dX7_sale_96 rfl 2 rfl ?_
        refine gf_X7_13 C (100) ((f10.trans (hM5.1))) rfl rfl dX7_sale_97 ?_
        refine qr_aload_n C dX7_sale_100 rfl 2 rfl ?_
        refine gf_X7_72 C (100) ((f10.trans (hM5.1))) rfl rfl dX7_sale_101 ?_
        refine qr_iload_n C dX7_sale_104 rfl 4 rfl ?_
        refine qr_iast C (104) ((f11.trans (hM5.2.2.1))) rfl (j := n) hn (by omega) rfl dX7_sale_105 ?_
        generalize hg25 : va_up g7 (104) _ = g24
        have f26 : g24 (104) = some (.inl (D.1 20, 120, .inl (upd (σ 4) (n) x2))) := by rw [← hg25]; exact va_up_self _ _ _
        have f27 : g24 (100) = g7 (100) := by rw [← hg25]; exact va_up_ne _ _ (by omega)
        have f28 : g24 (105) = g7 (105) := by rw [← hg25]; exact va_up_ne _ _ (by omega)
        have f29 : g24 (106) = g7 (106) := by rw [← hg25]; exact va_up_ne _ _ (by omega)
        have f30 : g24 (107) = g7 (107) := by rw [← hg25]; exact va_up_ne _ _ (by omega)
        have f31 : g24 (108) = g7 (108) := by rw [← hg25]; exact va_up_ne _ _ (by omega)
        have f32 : g24 (110) = g7 (110) := by rw [← hg25]; exact va_up_ne _ _ (by omega)
        have f33 : g24 (111) = g7 (111) := by rw [← hg25]; exact va_up_ne _ _ (by omega)
        have f34 : g24 (112) = g7 (112) := by rw [← hg25]; exact va_up_ne _ _ (by omega)
        have f35 : g24 (113) = g7 (113) := by rw [← hg25]; exact va_up_ne _ _ (by omega)
        have f36 : g24 (114) = g7 (114) := by rw [← hg25]; exact va_up_ne _ _ (by omega)
        have f37 : g24 (115) = g7 (115) := by rw [← hg25]; exact va_up_ne _ _ (by omega)
        have f38 : g24 (116) = g7 (116) := by rw [← hg25]; exact va_up_ne _ _ (by omega)
        have f39 : g24 (117) = g7 (117) := by rw [← hg25]; exact va_up_ne _ _ (by omega)
        have f40 : g24 (103) = g7 (103) := by rw [← hg25]; exact va_up_ne _ _ (by omega)
        refine qr_aload_n C dX7_sale_106 rfl 2 rfl ?_
        refine gf_X7_16 C (100) ((f27.trans ((f10.trans (hM5.1))))) rfl rfl dX7_sale_107 ?_
        refine qr_aload_n C dX7_sale_110 rfl 2 rfl ?_
        refine gf_X7_72 C (100) ((f27.trans ((f10.trans (hM5.1))))) rfl rfl dX7_sale_111 ?_
        refine qr_iload_n C dX7_sale_114 rfl 5 rfl ?_
        refine qr_iast C (105) ((f28.trans ((f12.trans (hM5.2.2.2.1))))) rfl (j := n) hn (by omega) rfl dX7_sale_115 ?_
        generalize hg42 : va_up g24 (105) _ = g41
        have f43 : g41 (105) = some (.inl (D.1 20, 120, .inl (upd (σ 5) (n) x3))) := by rw [← hg42]; exact va_up_self _ _ _
        have f44 : g41 (100) = g24 (100) := by rw [← hg42]; exact va_up_ne _ _ (by omega)
        have f45 : g41 (106) = g24 (106) := by rw [← hg42]; exact va_up_ne _ _ (by omega)
        have f46 : g41 (107) = g24 (107) := by rw [← hg42]; exact va_up_ne _ _ (by omega)
        have f47 : g41 (108) = g24 (108) := by rw [← hg42]; exact va_up_ne _ _ (by omega)
        have f48 : g41 (110) = g24 (110) := by rw [← hg42]; exact va_up_ne _ _ (by omega)
        have f49 : g41 (111) = g24 (111) := by rw [← hg42]; exact va_up_ne _ _ (by omega)
        have f50 : g41 (112) = g24 (112) := by rw [← hg42]; exact va_up_ne _ _ (by omega)
        have f51 : g41 (113) = g24 (113) := by rw [← hg42]; exact va_up_ne _ _ (by omega)
        have f52 : g41 (114) = g24 (114) := by rw [← hg42]; exact va_up_ne _ _ (by omega)
        have f53 : g41 (115) = g24 (115) := by rw [← hg42]; exact va_up_ne _ _ (by omega)
        have f54 : g41 (116) = g24 (116) := by rw [← hg42]; exact va_up_ne _ _ (by omega)
        have f55 : g41 (117) = g24 (117) := by rw [← hg42]; exact va_up_ne _ _ (by omega)
        have f56 : g41 (103) = g24 (103) := by rw [← hg42]; exact va_up_ne _ _ (by omega)
        have f57 : g41 (104) = g24 (104) := by rw [← hg42]; exact va_up_ne _ _ (by omega)
        refine qr_aload_n C dX7_sale_116 rfl 2 rfl ?_
        refine gf_X7_19 C (100) ((f44.trans ((f27.trans ((f10.trans (hM5.1))))))) rfl rfl dX7_sale_117 ?_
        refine qr_aload_n C dX7_sale_120 rfl 2 rfl ?_
        refine gf_X7_72 C (100) ((f44.trans ((f27.trans ((f10.trans (hM5.1))))))) rfl rfl dX7_sale_121 ?_
        refine qr_iload C dX7_sale_124 6 rfl ?_
        refine qr_iast C (106) ((f45.trans ((f29.trans ((f13.trans (hM5.2.2.2.2.1))))))) rfl (j := n) hn (by omega) rfl dX7_sale_126 ?_
        generalize hg59 : va_up g41 (106) _ = g58
        have f60 : g58 (106) = some (.inl (D.1 20, 120, .inl (upd (σ 6) (n) x4))) := by rw [← hg59]; exact va_up_self _ _ _
        have f61 : g58 (100) = g41 (100) := by rw [← hg59]; exact va_up_ne _ _ (by omega)
        have f62 : g58 (107) = g41 (107) := by rw [← hg59]; exact va_up_ne _ _ (by omega)
        have f63 : g58 (108) = g41 (108) := by rw [← hg59]; exact va_up_ne _ _ (by omega)
        have f64 : g58 (110) = g41 (110) := by rw [← hg59]; exact va_up_ne _ _ (by omega)
        have f65 : g58 (111) = g41 (111) := by rw [← hg59]; exact va_up_ne _ _ (by omega)
        have f66 : g58 (112) = g41 (112) := by rw [← hg59]; exact va_up_ne _ _ (by omega)
        have f67 : g58 (113) = g41 (113) := by rw [← hg59]; exact va_up_ne _ _ (by omega)
        have f68 : g58 (114) = g41 (114) := by rw [← hg59]; exact va_up_ne _ _ (by omega)
        have f69 : g58 (115) = g41 (115) := by rw [← hg59]; exact va_up_ne _ _ (by omega)
        have f70 : g58 (116) = g41 (116) := by rw [← hg59]; exact va_up_ne _ _ (by omega)
        have f71 : g58 (117) = g41 (117) := by rw [← hg59]; exact va_up_ne _ _ (by omega)
        have f72 : g58 (103) = g41 (103) := by rw [← hg59]; exact va_up_ne _ _ (by omega)
        have f73 : g58 (104) = g41 (104) := by rw [← hg59]; exact va_up_ne _ _ (by omega)
        have f74 : g58 (105) = g41 (105) := by rw [← hg59]; exact va_up_ne _ _ (by omega)
        refine qr_aload_n C dX7_sale_127 rfl 2 rfl ?_
        refine qr_dup C dX7_sale_128 rfl ?_
        refine gf_X7_72 C (100) ((f61.trans ((f44.trans ((f27.trans ((f10.trans (hM5.1))))))))) rfl rfl dX7_sale_129 ?_
        refine qr_iconst (v := 1) C dX7_sale_132 (by decide) ?_
        refine qr_iadd C dX7_sale_133 ?_
        refine pf_X7_72 C (100) ((f61.trans ((f44.trans ((f27.trans ((f10.trans (hM5.1))))))))) rfl rfl rfl (Nat.le_of_ble_eq_true rfl) rfl dX7_sale_134 ?_
        generalize hg76 : va_up g58 (100) _ = g75
        have f77 : g75 (100) = some (.inr (6, [(.int bk), (.int (σ 1 0)), (.int ((σ 2 0) + (1 : Int32))), (.ref (ad 103)), (.ref (ad 104)), (.ref (ad 105)), (.ref (ad 106)), (.ref (ad 107)), (.ref (ad 108)), (.int (σ 9 0)), (.ref (ad 110)), (.ref (ad 111)), (.ref (ad 112)), (.ref (ad 113)), (.ref (ad 114)), (.ref (ad 115)), (.ref (ad 116)), (.ref (ad 117)), (.int (σ 18 0)), (.int (σ 19 0))])) := by rw [← hg76]; exact va_up_self _ _ _
        have f78 : g75 (107) = g58 (107) := by rw [← hg76]; exact va_up_ne _ _ (by omega)
        have f79 : g75 (108) = g58 (108) := by rw [← hg76]; exact va_up_ne _ _ (by omega)
        have f80 : g75 (110) = g58 (110) := by rw [← hg76]; exact va_up_ne _ _ (by omega)
        have f81 : g75 (111) = g58 (111) := by rw [← hg76]; exact va_up_ne _ _ (by omega)
        have f82 : g75 (112) = g58 (112) := by rw [← hg76]; exact va_up_ne _ _ (by omega)
        have f83 : g75 (113) = g58 (113) := by rw [← hg76]; exact va_up_ne _ _ (by omega)
        have f84 : g75 (114) = g58 (114) := by rw [← hg76]; exact va_up_ne _ _ (by omega)
        have f85 : g75 (115) = g58 (115) := by rw [← hg76]; exact va_up_ne _ _ (by omega)
        have f86 : g75 (116) = g58 (116) := by rw [← hg76]; exact va_up_ne _ _ (by omega)
        have f87 : g75 (117) = g58 (117) := by rw [← hg76]; exact va_up_ne _ _ (by omega)
        have f88 : g75 (103) = g58 (103) := by rw [← hg76]; exact va_up_ne _ _ (by omega)
        have f89 : g75 (104) = g58 (104) := by rw [← hg76]; exact va_up_ne _ _ (by omega)
        have f90 : g75 (105) = g58 (105) := by rw [← hg76]; exact va_up_ne _ _ (by omega)
        have f91 : g75 (106) = g58 (106) := by rw [← hg76]; exact va_up_ne _ _ (by omega)
        refine qr_aload_n C dX7_sale_137 rfl 2 rfl ?_
        refine qr_iload_n C dX7_sale_138 rfl 3 rfl ?_
        refine qr_iconst (v := 4) C dX7_sale_139 (by decide) ?_
        have hM96 : qm_P D (sm_saleS1 σ n x1 x2 x3 x4) bk ad g75 := ⟨f77, (f88.trans ((f72.trans ((f56.trans ((f40.trans (f9)))))))), (f89.trans ((f73.trans ((f57.trans (f26)))))), (f90.trans ((f74.trans (f43)))), (f91.trans (f60)), (f78.trans ((f62.trans ((f46.trans ((f30.trans ((f14.trans (hM5.2.2.2.2.2.1)))))))))), (f79.trans ((f63.trans ((f47.trans ((f31.trans ((f15.trans (hM5.2.2.2.2.2.2.1)))))))))), (f80.trans ((f64.trans ((f48.trans ((f32.trans ((f16.trans (hM5.2.2.2.2.2.2.2.1)))))))))), (f81.trans ((f65.trans ((f49.trans ((f33.trans ((f17.trans (hM5.2.2.2.2.2.2.2.2.1)))))))))), (f82.trans ((f66.trans ((f50.trans ((f34.trans ((f18.trans (hM5.2.2.2.2.2.2.2.2.2.1)))))))))), (f83.trans ((f67.trans ((f51.trans ((f35.trans ((f19.trans (hM5.2.2.2.2.2.2.2.2.2.2.1)))))))))), (f84.trans ((f68.trans ((f52.trans ((f36.trans ((f20.trans (hM5.2.2.2.2.2.2.2.2.2.2.2.1)))))))))), (f85.trans ((f69.trans ((f53.trans ((f37.trans ((f21.trans (hM5.2.2.2.2.2.2.2.2.2.2.2.2.1)))))))))), (f86.trans ((f70.trans ((f54.trans ((f38.trans ((f22.trans (hM5.2.2.2.2.2.2.2.2.2.2.2.2.2.1)))))))))), (f87.trans ((f71.trans ((f55.trans ((f39.trans ((f23.trans (hM5.2.2.2.2.2.2.2.2.2.2.2.2.2.2))))))))))⟩
        refine qr_callV C (na := 2) (As := [(.int x1), (.int (4 : Int32))]) (rest := []) (k_X7_drop hst D ad g75 (sm_saleS1 σ n x1 x2 x3 x4) bk hM96 (x1) ((4 : Int32)) (t0) (4) ht0 (by omega) hx1 rfl) (100) (f77) rfl rfl gi_X7_78 rfl ⟨by decide, by decide, by decide +kernel⟩ rfl rfl (Nat.le_of_ble_eq_true rfl) rfl rfl ⟨Nat.le_of_ble_eq_true rfl, Nat.le_of_ble_eq_true rfl⟩ ⟨Nat.le_of_ble_eq_true rfl, Nat.le_of_ble_eq_true rfl⟩ dX7_sale_140 (fun v ad2 gc92 hpo93 => ?_)
        obtain ⟨rfl, rfl, hM94, hfr95⟩ := hpo93
        refine qr_pop C dX7_sale_143 rfl ?_
        refine qr_aload_n C dX7_sale_144 rfl 2 rfl ?_
        refine gf_X7_72 C (100) (hM94.1) rfl rfl dX7_sale_145 ?_
        refine qr_iconst (v := 1) C dX7_sale_148 (by decide) ?_
        refine qr_isub C dX7_sale_149 ?_
        exact qr_iret C rfl (Nat.zero_le _) (Nat.zero_le _) dX7_sale_150 ((by subst hbk; exact ⟨rfl, fun t ht => ((hfr95 t ht).trans ((congrFun hg76 t).symm.trans ((va_up_ne _ _ (by omega)).trans ((congrFun hg59 t).symm.trans ((va_up_ne _ _ (by omega)).trans ((congrFun hg42 t).symm.trans ((va_up_ne _ _ (by omega)).trans ((congrFun hg25 t).symm.trans ((va_up_ne _ _ (by omega)).trans ((congrFun hg8 t).symm.trans ((va_up_ne _ _ (by omega)).trans ((hfr6 t ht).trans rfl)))))))))))), Or.inr ⟨sm_ref0.mp c81, sg_vi (by show σ 2 0 = σ 2 0 + 1 - 1; rw [Int32.add_sub_cancel]), (by unfold sm_saleS; rw [hx1c]; exact hM94)⟩⟩))
      · skip
        refine qr_iconst (v := 0) C dX7_sale_84 (by decide) ?_
        exact qr_iret C rfl (Nat.zero_le _) (Nat.zero_le _) dX7_sale_85 ((by subst hbk; exact ⟨rfl, fun t ht => ((hfr6 t ht).trans rfl), Or.inl ⟨fun z => c81 (sm_ref0.mpr z), rfl, hM5⟩⟩))
    refine qr_iload C dX7_sale_46 1 rfl ?_
    refine qr_if_ne C 55 dX7_sale_48 (by decide) (fun c97 => ?_) (fun c97 => ?_)
    · skip
      refine qr_iload C dX7_sale_55 0 rfl ?_
      refine qr_if_ne C 64 dX7_sale_57 (by decide) (fun c98 => ?_) (fun c98 => ?_)
      · skip
        refine qr_aload_n C dX7_sale_64 rfl 2 rfl ?_
        refine gf_X7_72 C (100) (hM.1) rfl rfl dX7_sale_65 ?_
        refine qr_bipush (v := 120) C dX7_sale_68 (by decide) ?_
        refine qr_icmp_ne C 77 dX7_sale_70 (by decide) (fun c99 => ?_) (fun c99 => ?_)
        · skip
          refine qr_iconst (v := 0) C dX7_sale_77 (by decide) ?_
          exact M46_1 _ (by simp only [if_neg c97, if_neg c98, if_neg c99])
        · skip
          refine qr_iconst (v := 3) C dX7_sale_73 (by decide) ?_
          refine qr_goto (tgt := 78) C dX7_sale_74 (by decide) ?_
          exact M46_1 _ (by simp only [if_neg c97, if_neg c98, if_pos c99])
      · skip
        refine qr_iconst (v := 2) C dX7_sale_60 (by decide) ?_
        refine qr_goto (tgt := 78) C dX7_sale_61 (by decide) ?_
        exact M46_1 _ (by simp only [if_neg c97, if_pos c98])
    · skip
      refine qr_iconst (v := 1) C dX7_sale_51 (by decide) ?_
      refine qr_goto (tgt := 78) C dX7_sale_52 (by decide) ?_
      exact M46_1 _ (by simp only [if_pos c97])
  refine qr_iload_n C dX7_sale_0 rfl 1 rfl ?_
  refine qr_callS C (na := 1) (As := [(.int x1)]) (rest := []) (k_X7_isTable hst D ad g (x1)) gi_X7_61 ⟨by decide, by decide, by decide +kernel⟩ rfl rfl (Nat.le_of_ble_eq_true rfl) rfl rfl ⟨Nat.le_of_ble_eq_true rfl, Nat.le_of_ble_eq_true rfl⟩ ⟨Nat.le_of_ble_eq_true rfl, Nat.le_of_ble_eq_true rfl⟩ dX7_sale_1 (fun v ad2 g2 hpo => ?_)
  obtain ⟨rfl, rfl, rfl⟩ := hpo
  refine qr_if_eq C 29 dX7_sale_4 (by decide) (fun c100 => ?_) (fun c100 => ?_)
  · skip
    refine qr_iconst (v := 0) C dX7_sale_29 (by decide) ?_
    exact M0_0 _ (by simp only [if_pos c100])
  · skip
    refine qr_iload_n C dX7_sale_7 rfl 2 rfl ?_
    refine qr_iconst (v := 0) C dX7_sale_8 (by decide) ?_
    refine qr_iconst (v := 3) C dX7_sale_9 (by decide) ?_
    refine qr_callS C (na := 3) (As := [(.int x2), (.int (0 : Int32)), (.int (3 : Int32))]) (rest := []) (k_X7_in hst D ad g (x2) ((0 : Int32)) ((3 : Int32))) gi_X7_57 ⟨by decide, by decide, by decide +kernel⟩ rfl rfl (Nat.le_of_ble_eq_true rfl) rfl rfl ⟨Nat.le_of_ble_eq_true rfl, Nat.le_of_ble_eq_true rfl⟩ ⟨Nat.le_of_ble_eq_true rfl, Nat.le_of_ble_eq_true rfl⟩ dX7_sale_10 (fun v ad2 g2 hpo => ?_)
    obtain ⟨rfl, rfl, rfl⟩ := hpo
    refine qr_if_eq C 29 dX7_sale_13 (by decide) (fun c101 => ?_) (fun c101 => ?_)
    · skip
      refine qr_iconst (v := 0) C dX7_sale_29 (by decide) ?_
      exact M0_0 _ (by simp only [if_neg c100, if_pos c101])
    · skip
      refine qr_iload_n C dX7_sale_16 rfl 3 rfl ?_
      refine qr_iconst (v := 0) C dX7_sale_17 (by decide) ?_
      refine qr_iconst (v := 4) C dX7_sale_18 (by decide) ?_
      refine qr_callS C (na := 3) (As := [(.int x3), (.int (0 : Int32)), (.int (4 : Int32))]) (rest := []) (k_X7_in hst D ad g (x3) ((0 : Int32)) ((4 : Int32))) gi_X7_57 ⟨by decide, by decide, by decide +kernel⟩ rfl rfl (Nat.le_of_ble_eq_true rfl) rfl rfl ⟨Nat.le_of_ble_eq_true rfl, Nat.le_of_ble_eq_true rfl⟩ ⟨Nat.le_of_ble_eq_true rfl, Nat.le_of_ble_eq_true rfl⟩ dX7_sale_19 (fun v ad2 g2 hpo => ?_)
      obtain ⟨rfl, rfl, rfl⟩ := hpo
      refine qr_if_eq C 29 dX7_sale_22 (by decide) (fun c102 => ?_) (fun c102 => ?_)
      · skip
        refine qr_iconst (v := 0) C dX7_sale_29 (by decide) ?_
        exact M0_0 _ (by simp only [if_neg c100, if_neg c101, if_pos c102])
      · skip
        refine qr_iconst (v := 1) C dX7_sale_25 (by decide) ?_
        refine qr_goto (tgt := 30) C dX7_sale_26 (by decide) ?_
        exact M0_0 _ (by simp only [if_neg c100, if_neg c101, if_neg c102])
def sm_ctake (σ : Nat → Nat → Int32) (x1 : Int32) : Int32 := if sm_in x1 0 (σ 2 0 - 1) = 0 then 1 else if σ 7 x1.toNatClampNeg = 0 then 0 else 2
theorem sm_in_n {x y : Int32} {n : Nat} (hn : y = nI n) (hn2 : n ≤ 120) (h : ¬ sm_in x 0 (y - 1) = 0) : ∃ i, i < n ∧ x = nI i := by
  rw [sm_in_i] at h
  have e0 : (0 : Int32).toInt = 0 := by decide
  cases n with
  | zero =>
    subst hn
    have e1 : ((nI 0 : Int32) - 1).toInt = -1 := by decide
    omega
  | succ k =>
    have e1 : (y - 1).toInt = (k : Int) := by rw [hn, nI_pred, nI_toInt (by omega)]
    exact sg_nat (by omega) (by omega) (by omega)
def sm_takeS (σ : Nat → Nat → Int32) (x1 : Int32) : Nat → Nat → Int32 := sm_dropS (va_up σ 7 (upd (σ 7) x1.toNatClampNeg 1)) (σ 3 x1.toNatClampNeg).toNatClampNeg 4
set_option maxHeartbeats 4000000 in
set_option maxRecDepth 100000 in
theorem k_X7_takeBack {l : Launch} (hst : l.stackTraces = false) (D : va_G) (ad : Nat → Nat) (g : qw_G) (σ : Nat → Nat → Int32) (r : Int32) (hM : qm_P D σ r ad g) (n : Nat) (hn : σ 2 0 = nI n) (hn2 : n ≤ 120) (hT : ∀ i, i < n → ∃ t, t < 3 ∧ σ 3 i = nI t) (x1 : Int32) : qw_M l yX7_takeBack [Cond.code yX7_takeBack cX7_takeBack 3 (some .int)] { frames := 2, cells := 0, slots := 0, locals := 70 } D ad g [(.ref (ad 100)), (.int x1)] (qm_op D ad g (sm_ctake σ x1) (σ 6 x1.toNatClampNeg) σ (sm_takeS σ x1)) 0 0 := by
  refine qw_M.of (maxL := 3) (own := RX7) (lv := [(0, (.ref (ad 100))), (1, (.int x1))]) hst (by decide) rfl rfl (Nat.le_of_ble_eq_true rfl) ?_
  intro p e s m args below meth c A C hin
  refine qr_iload_n C dX7_takeBack_0 rfl 1 rfl ?_
  refine qr_iconst (v := 0) C dX7_takeBack_1 (by decide) ?_
  refine qr_aload_n C dX7_takeBack_2 rfl 0 rfl ?_
  refine gf_X7_72 C (100) (hM.1) rfl rfl dX7_takeBack_3 ?_
  refine qr_iconst (v := 1) C dX7_takeBack_6 (by decide) ?_
  refine qr_isub C dX7_takeBack_7 ?_
  refine qr_callS C (na := 3) (As := [(.int x1), (.int (0 : Int32)), (.int ((σ 2 0) - (1 : Int32)))]) (rest := []) (k_X7_in hst D ad g (x1) ((0 : Int32)) (((σ 2 0) - (1 : Int32)))) gi_X7_57 ⟨by decide, by decide, by decide +kernel⟩ rfl rfl (Nat.le_of_ble_eq_true rfl) rfl rfl ⟨Nat.le_of_ble_eq_true rfl, Nat.le_of_ble_eq_true rfl⟩ ⟨Nat.le_of_ble_eq_true rfl, Nat.le_of_ble_eq_true rfl⟩ dX7_takeBack_8 (fun v ad2 g2 hpo => ?_)
  obtain ⟨rfl, rfl, rfl⟩ := hpo
  refine qr_istore_n (lv' := [(2, (.int (sm_in (x1) ((0 : Int32)) (((σ 2 0) - (1 : Int32)))))), (0, (.ref (ad 100))), (1, (.int x1))]) C dX7_takeBack_11 rfl (by decide) rfl ?_
  refine qr_aload_n C dX7_takeBack_12 rfl 1 rfl ?_
  have M13_0 : ∀ bk : Int32, bk = (if (sm_in (x1) ((0 : Int32)) (((σ 2 0) - (1 : Int32)))) = 0 then (1 : Int32) else (if (σ 7 (x1.toNatClampNeg)) = 0 then (0 : Int32) else (2 : Int32))) → qw_W p l e { frames := 2, cells := 0, slots := 0, locals := 70 } s m args below meth c D A 3 (MQ below (qw_Q (qm_op D ad g (sm_ctake σ x1) (σ 6 x1.toNatClampNeg) σ (sm_takeS σ x1)) D A) args s 0 0 A) 0 0 ad g 35 [(2, (.int (sm_in (x1) ((0 : Int32)) (((σ 2 0) - (1 : Int32)))))), (0, (.ref (ad 100))), (1, (.int x1))] [(.int bk), (.ref (ad 100))] := by
    intro bk hbk
    have hbk : bk = sm_ctake σ x1 := hbk.trans (rfl)
    refine qr_callV C (na := 1) (As := [(.int bk)]) (rest := []) (k_X7_refused hst D ad g σ r hM bk) (100) (hM.1) rfl rfl gi_X7_75 rfl ⟨by decide, by decide, by decide +kernel⟩ rfl rfl (Nat.le_of_ble_eq_true rfl) rfl rfl ⟨Nat.le_of_ble_eq_true rfl, Nat.le_of_ble_eq_true rfl⟩ ⟨Nat.le_of_ble_eq_true rfl, Nat.le_of_ble_eq_true rfl⟩ dX7_takeBack_35 (fun v ad2 gc2 hpo3 => ?_)
    obtain ⟨rfl, rfl, hM4, hfr5⟩ := hpo3
    refine qr_if_eq C 43 dX7_takeBack_38 (by decide) (fun c38 => ?_) (fun c38 => ?_)
    · skip
      have hok := hbk.symm.trans (sm_ref0.mp c38)
      have c14 : ¬ sm_in x1 0 (σ 2 0 - 1) = 0 := fun z => absurd ((if_pos z).symm.trans hok) (by decide)
      obtain ⟨i0, hi0, hx1⟩ := sm_in_n hn hn2 c14
      obtain ⟨t0, ht0, htt⟩ := hT i0 hi0
      have hic : x1.toNatClampNeg = i0 := by rw [hx1, nI_clamp (by omega)]
      have htc : (σ 3 i0).toNatClampNeg = t0 := by rw [htt, nI_clamp (by omega)]
      refine qr_aload_n C dX7_takeBack_43 rfl 1 rfl ?_
      refine gf_X7_22 C (100) (hM4.1) rfl rfl dX7_takeBack_44 ?_
      refine qr_iload_n C dX7_takeBack_47 rfl 2 rfl ?_
      refine qr_iconst (v := 1) C dX7_takeBack_48 (by decide) ?_
      refine qr_zast C (107) (hM4.2.2.2.2.2.1) rfl (j := i0) hx1 (by omega) rfl (Or.inr rfl) dX7_takeBack_49 ?_
      generalize hg7 : va_up gc2 (107) _ = g6
      have f8 : g6 (107) = some (.inl (D.1 21, 120, .inl (upd (σ 7) (i0) (1 : Int32)))) := by rw [← hg7]; exact va_up_self _ _ _
      have f9 : g6 (100) = gc2 (100) := by rw [← hg7]; exact va_up_ne _ _ (by omega)
      have f10 : g6 (103) = gc2 (103) := by rw [← hg7]; exact va_up_ne _ _ (by omega)
      have f11 : g6 (104) = gc2 (104) := by rw [← hg7]; exact va_up_ne _ _ (by omega)
      have f12 : g6 (105) = gc2 (105) := by rw [← hg7]; exact va_up_ne _ _ (by omega)
      have f13 : g6 (106) = gc2 (106) := by rw [← hg7]; exact va_up_ne _ _ (by omega)
      have f14 : g6 (108) = gc2 (108) := by rw [← hg7]; exact va_up_ne _ _ (by omega)
      have f15 : g6 (110) = gc2 (110) := by rw [← hg7]; exact va_up_ne _ _ (by omega)
      have f16 : g6 (111) = gc2 (111) := by rw [← hg7]; exact va_up_ne _ _ (by omega)
      have f17 : g6 (112) = gc2 (112) := by rw [← hg7]; exact va_up_ne _ _ (by omega)
      have f18 : g6 (113) = gc2 (113) := by rw [← hg7]; exact va_up_ne _ _ (by omega)
      have f19 : g6 (114) = gc2 (114) := by rw [← hg7]; exact va_up_ne _ _ (by omega)
      have f20 : g6 (115) = gc2 (115) := by rw [← hg7]; exact va_up_ne _ _ (by omega)
      have f21 : g6 (116) = gc2 (116) := by rw [← hg7]; exact va_up_ne _ _ (by omega)
      have f22 : g6 (117) = gc2 (117) := by rw [← hg7]; exact va_up_ne _ _ (by omega)
      refine qr_aload_n C dX7_takeBack_50 rfl 1 rfl ?_
      refine qr_aload_n C dX7_takeBack_51 rfl 1 rfl ?_
      refine gf_X7_7 C (100) ((f9.trans (hM4.1))) rfl rfl dX7_takeBack_52 ?_
      refine qr_iload_n C dX7_takeBack_55 rfl 2 rfl ?_
      refine qr_iald C (x := ((σ 3) (i0))) (103) ((f10.trans (hM4.2.1))) rfl (j := i0) hx1 (by omega) rfl rfl dX7_takeBack_56 ?_
      refine qr_iconst (v := 4) C dX7_takeBack_57 (by decide) ?_
      have hM27 : qm_P D ((va_up σ 7 (upd (σ 7) i0 1))) bk ad g6 := ⟨(f9.trans (hM4.1)), (f10.trans (hM4.2.1)), (f11.trans (hM4.2.2.1)), (f12.trans (hM4.2.2.2.1)), (f13.trans (hM4.2.2.2.2.1)), f8, (f14.trans (hM4.2.2.2.2.2.2.1)), (f15.trans (hM4.2.2.2.2.2.2.2.1)), (f16.trans (hM4.2.2.2.2.2.2.2.2.1)), (f17.trans (hM4.2.2.2.2.2.2.2.2.2.1)), (f18.trans (hM4.2.2.2.2.2.2.2.2.2.2.1)), (f19.trans (hM4.2.2.2.2.2.2.2.2.2.2.2.1)), (f20.trans (hM4.2.2.2.2.2.2.2.2.2.2.2.2.1)), (f21.trans (hM4.2.2.2.2.2.2.2.2.2.2.2.2.2.1)), (f22.trans (hM4.2.2.2.2.2.2.2.2.2.2.2.2.2.2))⟩
      refine qr_callV C (na := 2) (As := [(.int ((σ 3) (i0))), (.int (4 : Int32))]) (rest := []) (k_X7_drop hst D ad g6 ((va_up σ 7 (upd (σ 7) i0 1))) bk hM27 (((σ 3) (i0))) ((4 : Int32)) (t0) (4) ht0 (by omega) htt rfl) (100) ((f9.trans (hM4.1))) rfl rfl gi_X7_78 rfl ⟨by decide, by decide, by decide +kernel⟩ rfl rfl (Nat.le_of_ble_eq_true rfl) rfl rfl ⟨Nat.le_of_ble_eq_true rfl, Nat.le_of_ble_eq_true rfl⟩ ⟨Nat.le_of_ble_eq_true rfl, Nat.le_of_ble_eq_true rfl⟩ dX7_takeBack_58 (fun v ad2 gc23 hpo24 => ?_)
      obtain ⟨rfl, rfl, hM25, hfr26⟩ := hpo24
      refine qr_pop C dX7_takeBack_61 rfl ?_
      refine qr_aload_n C dX7_takeBack_62 rfl 1 rfl ?_
      refine gf_X7_19 C (100) (hM25.1) rfl rfl dX7_takeBack_63 ?_
      refine qr_iload_n C dX7_takeBack_66 rfl 2 rfl ?_
      refine qr_iald C (x := (((sm_dropS ((va_up σ 7 (upd (σ 7) i0 1))) (t0) (4)) 6) (i0))) (106) (hM25.2.2.2.2.1) rfl (j := i0) hx1 (by omega) rfl rfl dX7_takeBack_67 ?_
      exact qr_iret C rfl (Nat.zero_le _) (Nat.zero_le _) dX7_takeBack_68 ((by subst hbk; exact ⟨rfl, fun t ht => ((hfr26 t ht).trans ((congrFun hg7 t).symm.trans ((va_up_ne _ _ (by omega)).trans ((hfr5 t ht).trans rfl)))), Or.inr ⟨sm_ref0.mp c38, sg_vi (by rw [hic]; rfl), (by unfold sm_takeS; rw [hic, htc]; exact hM25)⟩⟩))
    · skip
      refine qr_iconst (v := 0) C dX7_takeBack_41 (by decide) ?_
      exact qr_iret C rfl (Nat.zero_le _) (Nat.zero_le _) dX7_takeBack_42 ((by subst hbk; exact ⟨rfl, fun t ht => ((hfr5 t ht).trans rfl), Or.inl ⟨fun z => c38 (sm_ref0.mpr z), rfl, hM4⟩⟩))
  refine qr_iload_n C dX7_takeBack_13 rfl 0 rfl ?_
  refine qr_if_ne C 21 dX7_takeBack_14 (by decide) (fun c14 => ?_) (fun c14 => ?_)
  · skip
    obtain ⟨i0, hi0, hx1⟩ := sm_in_n hn hn2 c14
    refine qr_aload_n C dX7_takeBack_21 rfl 1 rfl ?_
    refine gf_X7_22 C (100) (hM.1) rfl rfl dX7_takeBack_22 ?_
    refine qr_iload_n C dX7_takeBack_25 rfl 2 rfl ?_
    refine qr_zald C (x := (σ 7 (x1.toNatClampNeg))) (107) (hM.2.2.2.2.2.1) rfl (j := i0) hx1 (by omega) rfl (sg_cl hx1 (by omega)) dX7_takeBack_26 ?_
    refine qr_if_eq C 34 dX7_takeBack_27 (by decide) (fun c28 => ?_) (fun c28 => ?_)
    · skip
      refine qr_iconst (v := 0) C dX7_takeBack_34 (by decide) ?_
      exact M13_0 _ (by simp only [if_neg c14, if_pos c28])
    · skip
      refine qr_iconst (v := 2) C dX7_takeBack_30 (by decide) ?_
      refine qr_goto (tgt := 35) C dX7_takeBack_31 (by decide) ?_
      exact M13_0 _ (by simp only [if_neg c14, if_neg c28])
  · skip
    refine qr_iconst (v := 1) C dX7_takeBack_17 (by decide) ?_
    refine qr_goto (tgt := 35) C dX7_takeBack_18 (by decide) ?_
    exact M13_0 _ (by simp only [if_pos c14])
def sm_cT (x1 : Int32) : Int32 := if sm_isT x1 = 0 then 1 else 0
def sm_not (x : Int32) : Int32 := if x = 0 then 1 else 0
theorem sm_not01 (x : Int32) : sm_not x = 0 ∨ sm_not x = 1 := by unfold sm_not; by_cases h : x = 0 <;> simp [h]
theorem sm_cT_ok {x : Int32} (h : sm_cT x = 0) : ∃ t, t < 3 ∧ x = nI t := sm_isT_ok (fun z => absurd ((if_pos z).symm.trans h) (by decide))
set_option maxHeartbeats 4000000 in
set_option maxRecDepth 100000 in
theorem k_X7_turn {l : Launch} (hst : l.stackTraces = false) (D : va_G) (ad : Nat → Nat) (g : qw_G) (σ : Nat → Nat → Int32) (r : Int32) (hM : qm_P D σ r ad g) (x1 : Int32) : qw_M l yX7_turn [Cond.code yX7_turn cX7_turn 2 (some .boolean)] { frames := 2, cells := 0, slots := 0, locals := 60 } D ad g [(.ref (ad 100)), (.int x1)] (qm_op D ad g (sm_cT x1) (sm_not (σ 8 x1.toNatClampNeg)) σ (va_up σ 8 (upd (σ 8) x1.toNatClampNeg (sm_not (σ 8 x1.toNatClampNeg))))) 0 0 := by
  refine qw_M.of (maxL := 2) (own := RX7) (lv := [(0, (.ref (ad 100))), (1, (.int x1))]) hst (by decide) rfl rfl (Nat.le_of_ble_eq_true rfl) ?_
  intro p e s m args below meth c A C hin
  refine qr_aload_n C dX7_turn_0 rfl 0 rfl ?_
  have M1_0 : ∀ bk : Int32, bk = (if (sm_isT (x1)) = 0 then (1 : Int32) else (0 : Int32)) → qw_W p l e { frames := 2, cells := 0, slots := 0, locals := 60 } s m args below meth c D A 2 (MQ below (qw_Q (qm_op D ad g (sm_cT x1) (sm_not (σ 8 x1.toNatClampNeg)) σ (va_up σ 8 (upd (σ 8) x1.toNatClampNeg (sm_not (σ 8 x1.toNatClampNeg))))) D A) args s 0 0 A) 0 0 ad g 13 [(0, (.ref (ad 100))), (1, (.int x1))] [(.int bk), (.ref (ad 100))] := by
    intro bk hbk
    have hbk : bk = sm_cT x1 := hbk.trans (rfl)
    refine qr_callV C (na := 1) (As := [(.int bk)]) (rest := []) (k_X7_refused hst D ad g σ r hM bk) (100) (hM.1) rfl rfl gi_X7_75 rfl ⟨by decide, by decide, by decide +kernel⟩ rfl rfl (Nat.le_of_ble_eq_true rfl) rfl rfl ⟨Nat.le_of_ble_eq_true rfl, Nat.le_of_ble_eq_true rfl⟩ ⟨Nat.le_of_ble_eq_true rfl, Nat.le_of_ble_eq_true rfl⟩ dX7_turn_13 (fun v ad2 gc2 hpo3 => ?_)
    obtain ⟨rfl, rfl, hM4, hfr5⟩ := hpo3
    refine qr_if_eq C 21 dX7_turn_16 (by decide) (fun c16 => ?_) (fun c16 => ?_)
    · skip
      obtain ⟨i0, hi0, hx1⟩ := sm_cT_ok (hbk.symm.trans (sm_ref0.mp c16))
      have hic : x1.toNatClampNeg = i0 := by rw [hx1, nI_clamp (by omega)]
      refine qr_aload_n C dX7_turn_21 rfl 0 rfl ?_
      refine gf_X7_26 C (100) (hM4.1) rfl rfl dX7_turn_22 ?_
      refine qr_iload_n C dX7_turn_25 rfl 1 rfl ?_
      have M26_5 : ∀ bn : Int32, bn = (if ((σ 8) (i0)) = 0 then (1 : Int32) else (0 : Int32)) → qw_W p l e { frames := 2, cells := 0, slots := 0, locals := 60 } s m args below meth c D A 2 (MQ below (qw_Q (qm_op D ad g (sm_cT x1) (sm_not (σ 8 x1.toNatClampNeg)) σ (va_up σ 8 (upd (σ 8) x1.toNatClampNeg (sm_not (σ 8 x1.toNatClampNeg))))) D A) args s 0 0 A) 0 0 ad gc2 40 [(0, (.ref (ad 100))), (1, (.int x1))] [(.int bn), (.int x1), (.ref (ad 108))] := by
        intro bn hbn
        have hbn : bn = sm_not (σ 8 i0) := hbn.trans (rfl)
        refine qr_zast C (108) (hM4.2.2.2.2.2.2.1) rfl (j := i0) hx1 (by omega) rfl (by rw [hbn]; exact sm_not01 _) dX7_turn_40 ?_
        generalize hg8 : va_up gc2 (108) _ = g7
        have f9 : g7 (108) = some (.inl (D.1 21, 3, .inl (upd (σ 8) (i0) bn))) := by rw [← hg8]; exact va_up_self _ _ _
        have f10 : g7 (100) = gc2 (100) := by rw [← hg8]; exact va_up_ne _ _ (by omega)
        have f11 : g7 (103) = gc2 (103) := by rw [← hg8]; exact va_up_ne _ _ (by omega)
        have f12 : g7 (104) = gc2 (104) := by rw [← hg8]; exact va_up_ne _ _ (by omega)
        have f13 : g7 (105) = gc2 (105) := by rw [← hg8]; exact va_up_ne _ _ (by omega)
        have f14 : g7 (106) = gc2 (106) := by rw [← hg8]; exact va_up_ne _ _ (by omega)
        have f15 : g7 (107) = gc2 (107) := by rw [← hg8]; exact va_up_ne _ _ (by omega)
        have f16 : g7 (110) = gc2 (110) := by rw [← hg8]; exact va_up_ne _ _ (by omega)
        have f17 : g7 (111) = gc2 (111) := by rw [← hg8]; exact va_up_ne _ _ (by omega)
        have f18 : g7 (112) = gc2 (112) := by rw [← hg8]; exact va_up_ne _ _ (by omega)
        have f19 : g7 (113) = gc2 (113) := by rw [← hg8]; exact va_up_ne _ _ (by omega)
        have f20 : g7 (114) = gc2 (114) := by rw [← hg8]; exact va_up_ne _ _ (by omega)
        have f21 : g7 (115) = gc2 (115) := by rw [← hg8]; exact va_up_ne _ _ (by omega)
        have f22 : g7 (116) = gc2 (116) := by rw [← hg8]; exact va_up_ne _ _ (by omega)
        have f23 : g7 (117) = gc2 (117) := by rw [← hg8]; exact va_up_ne _ _ (by omega)
        refine qr_aload_n C dX7_turn_41 rfl 0 rfl ?_
        refine gf_X7_26 C (100) ((f10.trans (hM4.1))) rfl rfl dX7_turn_42 ?_
        refine qr_iload_n C dX7_turn_45 rfl 1 rfl ?_
        refine qr_zald C (x := bn) (108) (f9) rfl (j := i0) hx1 (by omega) rfl (pk_us) dX7_turn_46 ?_
        exact qr_zret C rfl (by rw [hbn]; exact sm_not01 _) (Nat.zero_le _) (Nat.zero_le _) dX7_turn_47 ((by subst hbk; subst hbn; exact ⟨rfl, fun t ht => ((congrFun hg8 t).symm.trans ((va_up_ne _ _ (by omega)).trans ((hfr5 t ht).trans rfl))), Or.inr ⟨sm_ref0.mp c16, sg_vi (by rw [hic]), (by rw [hic]; exact ⟨(f10.trans (hM4.1)), (f11.trans (hM4.2.1)), (f12.trans (hM4.2.2.1)), (f13.trans (hM4.2.2.2.1)), (f14.trans (hM4.2.2.2.2.1)), (f15.trans (hM4.2.2.2.2.2.1)), f9, (f16.trans (hM4.2.2.2.2.2.2.2.1)), (f17.trans (hM4.2.2.2.2.2.2.2.2.1)), (f18.trans (hM4.2.2.2.2.2.2.2.2.2.1)), (f19.trans (hM4.2.2.2.2.2.2.2.2.2.2.1)), (f20.trans (hM4.2.2.2.2.2.2.2.2.2.2.2.1)), (f21.trans (hM4.2.2.2.2.2.2.2.2.2.2.2.2.1)), (f22.trans (hM4.2.2.2.2.2.2.2.2.2.2.2.2.2.1)), (f23.trans (hM4.2.2.2.2.2.2.2.2.2.2.2.2.2.2))⟩)⟩⟩))
      refine qr_aload_n C dX7_turn_26 rfl 0 rfl ?_
      refine gf_X7_26 C (100) (hM4.1) rfl rfl dX7_turn_27 ?_
      refine qr_iload_n C dX7_turn_30 rfl 1 rfl ?_
      refine qr_zald C (x := ((σ 8) (i0))) (108) (hM4.2.2.2.2.2.2.1) rfl (j := i0) hx1 (by omega) rfl rfl dX7_turn_31 ?_
      refine qr_if_ne C 39 dX7_turn_32 (by decide) (fun c24 => ?_) (fun c24 => ?_)
      · skip
        refine qr_iconst (v := 0) C dX7_turn_39 (by decide) ?_
        exact M26_5 _ (by simp only [if_neg c24])
      · skip
        refine qr_iconst (v := 1) C dX7_turn_35 (by decide) ?_
        refine qr_goto (tgt := 40) C dX7_turn_36 (by decide) ?_
        exact M26_5 _ (by simp only [if_pos c24])
    · skip
      refine qr_iconst (v := 0) C dX7_turn_19 (by decide) ?_
      exact qr_zret C rfl (by decide) (Nat.zero_le _) (Nat.zero_le _) dX7_turn_20 ((by subst hbk; exact ⟨rfl, fun t ht => ((hfr5 t ht).trans rfl), Or.inl ⟨fun z => c16 (sm_ref0.mpr z), rfl, hM4⟩⟩))
  refine qr_iload_n C dX7_turn_1 rfl 1 rfl ?_
  refine qr_callS C (na := 1) (As := [(.int x1)]) (rest := [(.ref (ad 100))]) (k_X7_isTable hst D ad g (x1)) gi_X7_61 ⟨by decide, by decide, by decide +kernel⟩ rfl rfl (Nat.le_of_ble_eq_true rfl) rfl rfl ⟨Nat.le_of_ble_eq_true rfl, Nat.le_of_ble_eq_true rfl⟩ ⟨Nat.le_of_ble_eq_true rfl, Nat.le_of_ble_eq_true rfl⟩ dX7_turn_2 (fun v ad2 g2 hpo => ?_)
  obtain ⟨rfl, rfl, rfl⟩ := hpo
  refine qr_if_eq C 12 dX7_turn_5 (by decide) (fun c25 => ?_) (fun c25 => ?_)
  · skip
    refine qr_iconst (v := 1) C dX7_turn_12 (by decide) ?_
    exact M1_0 _ (by simp only [if_pos c25])
  · skip
    refine qr_iconst (v := 0) C dX7_turn_8 (by decide) ?_
    refine qr_goto (tgt := 13) C dX7_turn_9 (by decide) ?_
    exact M1_0 _ (by simp only [if_neg c25])
