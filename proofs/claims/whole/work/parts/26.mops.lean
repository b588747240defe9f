def sm_cB (x1 x2 : Int32) : Int32 := if sm_both x1 x2 = 0 then 1 else 0
theorem sm_both_ok {x1 x2 : Int32} (h : ¬ sm_both x1 x2 = 0) : ∃ t v, t < 3 ∧ x1 = nI t ∧ v < 4 ∧ x2 = nI v ∧ (4 : Int32) * x1 + x2 = nI (4 * t + v) := by
  unfold sm_both at h
  by_cases h1 : sm_isT x1 = 0
  · rw [if_pos h1] at h; exact absurd rfl h
  · rw [if_neg h1] at h
    by_cases h2 : sm_isL x2 = 0
    · rw [if_pos h2] at h; exact absurd rfl h
    · obtain ⟨t, ht, hx⟩ := sm_isT_ok h1
      obtain ⟨v, hv, hx2⟩ := sm_isL_ok h2
      refine ⟨t, v, ht, hx, hv, hx2, ?_⟩
      rw [hx, hx2, show (4 : Int32) = nI 4 from rfl, pk_mul, nI_add]
theorem sm_cB_ok {x1 x2 : Int32} (h : sm_cB x1 x2 = 0) : ∃ t v, t < 3 ∧ x1 = nI t ∧ v < 4 ∧ x2 = nI v ∧ (4 : Int32) * x1 + x2 = nI (4 * t + v) := sm_both_ok (fun z => absurd ((if_pos z).symm.trans h) (by decide))
/-- where the report of a table for a level lies -/
def sm_at (x1 x2 : Int32) : Nat := (4 * x1 + x2).toNatClampNeg
def sm_buildS (σ : Nat → Nat → Int32) (n : Nat) (x1 x2 : Int32) : Nat → Nat → Int32 := va_up (va_up (va_up σ 15 (upd (σ 15) (sm_at x1 x2) 1)) 17 (upd (σ 17) (sm_at x1 x2) (sm_bar σ x1 x2 n))) 16 (upd (σ 16) (sm_at x1 x2) (sm_hidden (sm_bar σ x1 x2 n)))
theorem sm_bar_15 (σ : Nat → Nat → Int32) (A : Nat → Int32) (x1 x2 : Int32) : ∀ n, sm_bar (va_up σ 15 A) x1 x2 n = sm_bar σ x1 x2 n
  | 0 => rfl
  | n + 1 => by
    show sm_bar (va_up σ 15 A) x1 x2 n ||| sm_bterm σ x1 x2 n = sm_bar σ x1 x2 n ||| sm_bterm σ x1 x2 n
    rw [sm_bar_15 σ A x1 x2 n]
set_option maxHeartbeats 4000000 in
set_option maxRecDepth 100000 in
theorem k_X7_build {l : Launch} (hst : l.stackTraces = false) (D : va_G) (ad : Nat → Nat) (g : qw_G) (σ : Nat → Nat → Int32) (r : Int32) (hM : qm_P D σ r ad g) (n : Nat) (hn : σ 9 0 = nI n) (hn2 : n ≤ 40) (x1 x2 : Int32) : qw_M l yX7_build [Cond.code yX7_build cX7_build 4 (some .int)] { frames := 3, cells := 0, slots := 0, locals := 120 } D ad g [(.ref (ad 100)), (.int x1), (.int x2)] (qm_op D ad g (sm_cB x1 x2) (sm_bits (sm_hidden (sm_bar σ x1 x2 n))) σ (sm_buildS σ n x1 x2)) 0 0 := by
  refine qw_M.of (maxL := 4) (own := RX7) (lv := [(0, (.ref (ad 100))), (1, (.int x1)), (2, (.int x2))]) hst (by decide) rfl rfl (Nat.le_of_ble_eq_true rfl) ?_
  intro p e s m args below meth c A C hin
  refine qr_aload_n C dX7_build_0 rfl 0 rfl ?_
  have M1_0 : ∀ bk : Int32, bk = (if (sm_both (x1) (x2)) = 0 then (1 : Int32) else (0 : Int32)) → qw_W p l e { frames := 3, cells := 0, slots := 0, locals := 120 } s m args below meth c D A 4 (MQ below (qw_Q (qm_op D ad g (sm_cB x1 x2) (sm_bits (sm_hidden (sm_bar σ x1 x2 n))) σ (sm_buildS σ n x1 x2)) D A) args s 0 0 A) 0 0 ad g 14 [(0, (.ref (ad 100))), (1, (.int x1)), (2, (.int x2))] [(.int bk), (.ref (ad 100))] := by
    intro bk hbk
    have hbk : bk = sm_cB x1 x2 := hbk.trans (rfl)
    refine qr_callV C (na := 1) (As := [(.int bk)]) (rest := []) (k_X7_refused hst D ad g σ r hM bk) (100) (hM.1) rfl rfl gi_X7_75 rfl ⟨by decide, by decide, by decide +kernel⟩ rfl rfl (Nat.le_of_ble_eq_true rfl) rfl rfl ⟨Nat.le_of_ble_eq_true rfl, Nat.le_of_ble_eq_true rfl⟩ ⟨Nat.le_of_ble_eq_true rfl, Nat.le_of_ble_eq_true rfl⟩ dX7_build_14 (fun v ad2 gc2 hpo3 => ?_)
    obtain ⟨rfl, rfl, hM4, hfr5⟩ := hpo3
    refine qr_if_eq C 22 dX7_build_17 (by decide) (fun c17 => ?_) (fun c17 => ?_)
    · skip
      obtain ⟨t0, v0, ht0, hx1, hv0, hx2, hat⟩ := sm_cB_ok (hbk.symm.trans (sm_ref0.mp c17))
      have hatc : sm_at x1 x2 = 4 * t0 + v0 := by unfold sm_at; rw [hat, nI_clamp (by omega)]
      refine qr_iconst (v := 4) C dX7_build_22 (by decide) ?_
      refine qr_iload_n C dX7_build_23 rfl 1 rfl ?_
      refine qr_imul C dX7_build_24 ?_
      refine qr_iload_n C dX7_build_25 rfl 2 rfl ?_
      refine qr_iadd C dX7_build_26 ?_
      refine qr_istore_n (lv' := [(3, (.int (((4 : Int32) * x1) + x2))), (0, (.ref (ad 100))), (1, (.int x1)), (2, (.int x2))]) C dX7_build_27 rfl (by decide) rfl ?_
      refine qr_aload_n C dX7_build_28 rfl 1 rfl ?_
      refine gf_X7_44 C (100) (hM4.1) rfl rfl dX7_build_29 ?_
      refine qr_iload_n C dX7_build_32 rfl 0 rfl ?_
      refine qr_iconst (v := 1) C dX7_build_33 (by decide) ?_
      refine qr_zast C (115) (hM4.2.2.2.2.2.2.2.2.2.2.2.2.1) rfl (j := 4 * t0 + v0) hat (by omega) rfl (Or.inr rfl) dX7_build_34 ?_
      generalize hg7 : va_up gc2 (115) _ = g6
      have f8 : g6 (115) = some (.inl (D.1 21, 12, .inl (upd (σ 15) (4 * t0 + v0) (1 : Int32)))) := by rw [← hg7]; exact va_up_self _ _ _
      have f9 : g6 (100) = gc2 (100) := by rw [← hg7]; exact va_up_ne _ _ (by omega)
      have f10 : g6 (103) = gc2 (103) := by rw [← hg7]; exact va_up_ne _ _ (by omega)
      have f11 : g6 (104) = gc2 (104) := by rw [← hg7]; exact va_up_ne _ _ (by omega)
      have f12 : g6 (105) = gc2 (105) := by rw [← hg7]; exact va_up_ne _ _ (by omega)
      have f13 : g6 (106) = gc2 (106) := by rw [← hg7]; exact va_up_ne _ _ (by omega)
      have f14 : g6 (107) = gc2 (107) := by rw [← hg7]; exact va_up_ne _ _ (by omega)
      have f15 : g6 (108) = gc2 (108) := by rw [← hg7]; exact va_up_ne _ _ (by omega)
      have f16 : g6 (110) = gc2 (110) := by rw [← hg7]; exact va_up_ne _ _ (by omega)
      have f17 : g6 (111) = gc2 (111) := by rw [← hg7]; exact va_up_ne _ _ (by omega)
      have f18 : g6 (112) = gc2 (112) := by rw [← hg7]; exact va_up_ne _ _ (by omega)
      have f19 : g6 (113) = gc2 (113) := by rw [← hg7]; exact va_up_ne _ _ (by omega)
      have f20 : g6 (114) = gc2 (114) := by rw [← hg7]; exact va_up_ne _ _ (by omega)
      have f21 : g6 (116) = gc2 (116) := by rw [← hg7]; exact va_up_ne _ _ (by omega)
      have f22 : g6 (117) = gc2 (117) := by rw [← hg7]; exact va_up_ne _ _ (by omega)
      refine qr_aload_n C dX7_build_35 rfl 1 rfl ?_
      refine gf_X7_50 C (100) ((f9.trans (hM4.1))) rfl rfl dX7_build_36 ?_
      refine qr_iload_n C dX7_build_39 rfl 0 rfl ?_
      refine qr_aload_n C dX7_build_40 rfl 1 rfl ?_
      refine qr_iload_n C dX7_build_41 rfl 2 rfl ?_
      refine qr_iload_n C dX7_build_42 rfl 3 rfl ?_
      have hM23 : qm_P D (va_up σ 15 (upd (σ 15) (4 * t0 + v0) 1)) bk ad g6 := ⟨(f9.trans (hM4.1)), (f10.trans (hM4.2.1)), (f11.trans (hM4.2.2.1)), (f12.trans (hM4.2.2.2.1)), (f13.trans (hM4.2.2.2.2.1)), (f14.trans (hM4.2.2.2.2.2.1)), (f15.trans (hM4.2.2.2.2.2.2.1)), (f16.trans (hM4.2.2.2.2.2.2.2.1)), (f17.trans (hM4.2.2.2.2.2.2.2.2.1)), (f18.trans (hM4.2.2.2.2.2.2.2.2.2.1)), (f19.trans (hM4.2.2.2.2.2.2.2.2.2.2.1)), (f20.trans (hM4.2.2.2.2.2.2.2.2.2.2.2.1)), f8, (f21.trans (hM4.2.2.2.2.2.2.2.2.2.2.2.2.2.1)), (f22.trans (hM4.2.2.2.2.2.2.2.2.2.2.2.2.2.2))⟩
      refine qr_callV C (na := 2) (As := [(.int x1), (.int x2)]) (rest := [(.int (((4 : Int32) * x1) + x2)), (.ref (ad 117))]) (k_X7_barred hst D ad g6 (va_up σ 15 (upd (σ 15) (4 * t0 + v0) 1)) bk hM23 n hn hn2 (x1) (x2)) (100) ((f9.trans (hM4.1))) rfl rfl gi_X7_104 rfl ⟨by decide, by decide, by decide +kernel⟩ rfl rfl (Nat.le_of_ble_eq_true rfl) rfl rfl ⟨Nat.le_of_ble_eq_true rfl, Nat.le_of_ble_eq_true rfl⟩ ⟨Nat.le_of_ble_eq_true rfl, Nat.le_of_ble_eq_true rfl⟩ dX7_build_43 (fun v ad2 g2 hpo => ?_)
      obtain ⟨rfl, rfl, rfl⟩ := hpo
      refine qr_iast C (117) ((f22.trans (hM4.2.2.2.2.2.2.2.2.2.2.2.2.2.2))) rfl (j := 4 * t0 + v0) hat (by omega) rfl dX7_build_46 ?_
      generalize hg25 : va_up g6 (117) _ = g24
      have f26 : g24 (117) = some (.inl (D.1 20, 12, .inl (upd (σ 17) (4 * t0 + v0) (sm_bar (va_up σ 15 (upd (σ 15) (4 * t0 + v0) 1)) (x1) (x2) n)))) := by rw [← hg25]; exact va_up_self _ _ _
      have f27 : g24 (100) = g6 (100) := by rw [← hg25]; exact va_up_ne _ _ (by omega)
      have f28 : g24 (103) = g6 (103) := by rw [← hg25]; exact va_up_ne _ _ (by omega)
      have f29 : g24 (104) = g6 (104) := by rw [← hg25]; exact va_up_ne _ _ (by omega)
      have f30 : g24 (105) = g6 (105) := by rw [← hg25]; exact va_up_ne _ _ (by omega)
      have f31 : g24 (106) = g6 (106) := by rw [← hg25]; exact va_up_ne _ _ (by omega)
      have f32 : g24 (107) = g6 (107) := by rw [← hg25]; exact va_up_ne _ _ (by omega)
      have f33 : g24 (108) = g6 (108) := by rw [← hg25]; exact va_up_ne _ _ (by omega)
      have f34 : g24 (110) = g6 (110) := by rw [← hg25]; exact va_up_ne _ _ (by omega)
      have f35 : g24 (111) = g6 (111) := by rw [← hg25]; exact va_up_ne _ _ (by omega)
      have f36 : g24 (112) = g6 (112) := by rw [← hg25]; exact va_up_ne _ _ (by omega)
      have f37 : g24 (113) = g6 (113) := by rw [← hg25]; exact va_up_ne _ _ (by omega)
      have f38 : g24 (114) = g6 (114) := by rw [← hg25]; exact va_up_ne _ _ (by omega)
      have f39 : g24 (116) = g6 (116) := by rw [← hg25]; exact va_up_ne _ _ (by omega)
      have f40 : g24 (115) = g6 (115) := by rw [← hg25]; exact va_up_ne _ _ (by omega)
      refine qr_aload_n C dX7_build_47 rfl 1 rfl ?_
      refine gf_X7_47 C (100) ((f27.trans ((f9.trans (hM4.1))))) rfl rfl dX7_build_48 ?_
      refine qr_iload_n C dX7_build_51 rfl 0 rfl ?_
      refine qr_aload_n C dX7_build_52 rfl 1 rfl ?_
      refine gf_X7_50 C (100) ((f27.trans ((f9.trans (hM4.1))))) rfl rfl dX7_build_53 ?_
      refine qr_iload_n C dX7_build_56 rfl 0 rfl ?_
      refine qr_iald C (x := (sm_bar (va_up σ 15 (upd (σ 15) (4 * t0 + v0) 1)) (x1) (x2) n)) (117) (f26) rfl (j := 4 * t0 + v0) hat (by omega) rfl (pk_us) dX7_build_57 ?_
      refine qr_callS C (na := 1) (As := [(.int (sm_bar (va_up σ 15 (upd (σ 15) (4 * t0 + v0) 1)) (x1) (x2) n))]) (rest := [(.int (((4 : Int32) * x1) + x2)), (.ref (ad 116))]) (k_X7_hidden hst D ad g24 ((sm_bar (va_up σ 15 (upd (σ 15) (4 * t0 + v0) 1)) (x1) (x2) n))) gi_X7_120 ⟨by decide, by decide, by decide +kernel⟩ rfl rfl (Nat.le_of_ble_eq_true rfl) rfl rfl ⟨Nat.le_of_ble_eq_true rfl, Nat.le_of_ble_eq_true rfl⟩ ⟨Nat.le_of_ble_eq_true rfl, Nat.le_of_ble_eq_true rfl⟩ dX7_build_58 (fun v ad2 g2 hpo => ?_)
      obtain ⟨rfl, rfl, rfl⟩ := hpo
      refine qr_iast C (116) ((f39.trans ((f21.trans (hM4.2.2.2.2.2.2.2.2.2.2.2.2.2.1))))) rfl (j := 4 * t0 + v0) hat (by omega) rfl dX7_build_61 ?_
      generalize hg42 : va_up g24 (116) _ = g41
      have f43 : g41 (116) = some (.inl (D.1 20, 12, .inl (upd (σ 16) (4 * t0 + v0) (sm_hidden ((sm_bar (va_up σ 15 (upd (σ 15) (4 * t0 + v0) 1)) (x1) (x2) n)))))) := by rw [← hg42]; exact va_up_self _ _ _
      have f44 : g41 (100) = g24 (100) := by rw [← hg42]; exact va_up_ne _ _ (by omega)
      have f45 : g41 (103) = g24 (103) := by rw [← hg42]; exact va_up_ne _ _ (by omega)
      have f46 : g41 (104) = g24 (104) := by rw [← hg42]; exact va_up_ne _ _ (by omega)
      have f47 : g41 (105) = g24 (105) := by rw [← hg42]; exact va_up_ne _ _ (by omega)
      have f48 : g41 (106) = g24 (106) := by rw [← hg42]; exact va_up_ne _ _ (by omega)
      have f49 : g41 (107) = g24 (107) := by rw [← hg42]; exact va_up_ne _ _ (by omega)
      have f50 : g41 (108) = g24 (108) := by rw [← hg42]; exact va_up_ne _ _ (by omega)
      have f51 : g41 (110) = g24 (110) := by rw [← hg42]; exact va_up_ne _ _ (by omega)
      have f52 : g41 (111) = g24 (111) := by rw [← hg42]; exact va_up_ne _ _ (by omega)
      have f53 : g41 (112) = g24 (112) := by rw [← hg42]; exact va_up_ne _ _ (by omega)
      have f54 : g41 (113) = g24 (113) := by rw [← hg42]; exact va_up_ne _ _ (by omega)
      have f55 : g41 (114) = g24 (114) := by rw [← hg42]; exact va_up_ne _ _ (by omega)
      have f56 : g41 (115) = g24 (115) := by rw [← hg42]; exact va_up_ne _ _ (by omega)
      have f57 : g41 (117) = g24 (117) := by rw [← hg42]; exact va_up_ne _ _ (by omega)
      refine qr_aload_n C dX7_build_62 rfl 1 rfl ?_
      refine gf_X7_47 C (100) ((f44.trans ((f27.trans ((f9.trans (hM4.1))))))) rfl rfl dX7_build_63 ?_
      refine qr_iload_n C dX7_build_66 rfl 0 rfl ?_
      refine qr_iald C (x := (sm_hidden ((sm_bar (va_up σ 15 (upd (σ 15) (4 * t0 + v0) 1)) (x1) (x2) n)))) (116) (f43) rfl (j := 4 * t0 + v0) hat (by omega) rfl (pk_us) dX7_build_67 ?_
      refine qr_callS C (na := 1) (As := [(.int (sm_hidden ((sm_bar (va_up σ 15 (upd (σ 15) (4 * t0 + v0) 1)) (x1) (x2) n))))]) (rest := []) (k_X7_bits hst D ad g41 ((sm_hidden ((sm_bar (va_up σ 15 (upd (σ 15) (4 * t0 + v0) 1)) (x1) (x2) n))))) gi_X7_113 ⟨by decide, by decide, by decide +kernel⟩ rfl rfl (Nat.le_of_ble_eq_true rfl) rfl rfl ⟨Nat.le_of_ble_eq_true rfl, Nat.le_of_ble_eq_true rfl⟩ ⟨Nat.le_of_ble_eq_true rfl, Nat.le_of_ble_eq_true rfl⟩ dX7_build_68 (fun v ad2 g2 hpo => ?_)
      obtain ⟨rfl, rfl, rfl⟩ := hpo
      exact qr_iret C rfl (Nat.zero_le _) (Nat.zero_le _) dX7_build_71 ((by subst hbk; exact ⟨rfl, fun t ht => ((congrFun hg42 t).symm.trans ((va_up_ne _ _ (by omega)).trans ((congrFun hg25 t).symm.trans ((va_up_ne _ _ (by omega)).trans ((congrFun hg7 t).symm.trans ((va_up_ne _ _ (by omega)).trans ((hfr5 t ht).trans rfl))))))), Or.inr ⟨sm_ref0.mp c17, sg_vi (by rw [sm_bar_15]), (by unfold sm_buildS; rw [hatc, ← sm_bar_15 σ (upd (σ 15) (4 * t0 + v0) 1)]; exact ⟨(f44.trans ((f27.trans ((f9.trans (hM4.1)))))), (f45.trans ((f28.trans ((f10.trans (hM4.2.1)))))), (f46.trans ((f29.trans ((f11.trans (hM4.2.2.1)))))), (f47.trans ((f30.trans ((f12.trans (hM4.2.2.2.1)))))), (f48.trans ((f31.trans ((f13.trans (hM4.2.2.2.2.1)))))), (f49.trans ((f32.trans ((f14.trans (hM4.2.2.2.2.2.1)))))), (f50.trans ((f33.trans ((f15.trans (hM4.2.2.2.2.2.2.1)))))), (f51.trans ((f34.trans ((f16.trans (hM4.2.2.2.2.2.2.2.1)))))), (f52.trans ((f35.trans ((f17.trans (hM4.2.2.2.2.2.2.2.2.1)))))), (f53.trans ((f36.trans ((f18.trans (hM4.2.2.2.2.2.2.2.2.2.1)))))), (f54.trans ((f37.trans ((f19.trans (hM4.2.2.2.2.2.2.2.2.2.2.1)))))), (f55.trans ((f38.trans ((f20.trans (hM4.2.2.2.2.2.2.2.2.2.2.2.1)))))), (f56.trans ((f40.trans (f8)))), f43, (f57.trans (f26))⟩)⟩⟩))
    · skip
      refine qr_iconst (v := 0) C dX7_build_20 (by decide) ?_
      exact qr_iret C rfl (Nat.zero_le _) (Nat.zero_le _) dX7_build_21 ((by subst hbk; exact ⟨rfl, fun t ht => ((hfr5 t ht).trans rfl), Or.inl ⟨fun z => c17 (sm_ref0.mpr z), rfl, hM4⟩⟩))
  refine qr_iload_n C dX7_build_1 rfl 1 rfl ?_
  refine qr_iload_n C dX7_build_2 rfl 2 rfl ?_
  refine qr_callS C (na := 2) (As := [(.int x1), (.int x2)]) (rest := [(.ref (ad 100))]) (k_X7_areBoth hst D ad g (x1) (x2)) gi_X7_117 ⟨by decide, by decide, by decide +kernel⟩ rfl rfl (Nat.le_of_ble_eq_true rfl) rfl rfl ⟨Nat.le_of_ble_eq_true rfl, Nat.le_of_ble_eq_true rfl⟩ ⟨Nat.le_of_ble_eq_true rfl, Nat.le_of_ble_eq_true rfl⟩ dX7_build_3 (fun v ad2 g2 hpo => ?_)
  obtain ⟨rfl, rfl, rfl⟩ := hpo
  refine qr_if_eq C 13 dX7_build_6 (by decide) (fun c58 => ?_) (fun c58 => ?_)
  · skip
    refine qr_iconst (v := 1) C dX7_build_13 (by decide) ?_
    exact M1_0 _ (by simp only [if_pos c58])
  · skip
    refine qr_iconst (v := 0) C dX7_build_9 (by decide) ?_
    refine qr_goto (tgt := 14) C dX7_build_10 (by decide) ?_
    exact M1_0 _ (by simp only [if_neg c58])
def sm_b0 (x : Int32) : Int32 := if x = 0 then 0 else 1
set_option maxHeartbeats 4000000 in
set_option maxRecDepth 100000 in
theorem k_X7_isBuilt {l : Launch} (hst : l.stackTraces = false) (D : va_G) (ad : Nat → Nat) (g : qw_G) (σ : Nat → Nat → Int32) (r : Int32) (hM : qm_P D σ r ad g) (x1 x2 : Int32) : qw_M l yX7_isBuilt [Cond.code yX7_isBuilt cX7_isBuilt 3 (some .boolean)] { frames := 3, cells := 0, slots := 0, locals := 100 } D ad g [(.ref (ad 100)), (.int x1), (.int x2)] (qm_op D ad g (sm_cB x1 x2) (sm_b0 (σ 15 (sm_at x1 x2))) σ σ) 0 0 := by
  refine qw_M.of (maxL := 3) (own := RX7) (lv := [(0, (.ref (ad 100))), (1, (.int x1)), (2, (.int x2))]) hst (by decide) rfl rfl (Nat.le_of_ble_eq_true rfl) ?_
  intro p e s m args below meth c A C hin
  refine qr_aload_n C dX7_isBuilt_0 rfl 0 rfl ?_
  have M1_0 : ∀ bk : Int32, bk = (if (sm_both (x1) (x2)) = 0 then (1 : Int32) else (0 : Int32)) → qw_W p l e { frames := 3, cells := 0, slots := 0, locals := 100 } s m args below meth c D A 3 (MQ below (qw_Q (qm_op D ad g (sm_cB x1 x2) (sm_b0 (σ 15 (sm_at x1 x2))) σ σ) D A) args s 0 0 A) 0 0 ad g 14 [(0, (.ref (ad 100))), (1, (.int x1)), (2, (.int x2))] [(.int bk), (.ref (ad 100))] := by
    intro bk hbk
    have hbk : bk = sm_cB x1 x2 := hbk.trans (rfl)
    refine qr_callV C (na := 1) (As := [(.int bk)]) (rest := []) (k_X7_refused hst D ad g σ r hM bk) (100) (hM.1) rfl rfl gi_X7_75 rfl ⟨by decide, by decide, by decide +kernel⟩ rfl rfl (Nat.le_of_ble_eq_true rfl) rfl rfl ⟨Nat.le_of_ble_eq_true rfl, Nat.le_of_ble_eq_true rfl⟩ ⟨Nat.le_of_ble_eq_true rfl, Nat.le_of_ble_eq_true rfl⟩ dX7_isBuilt_14 (fun v ad2 gc2 hpo3 => ?_)
    obtain ⟨rfl, rfl, hM4, hfr5⟩ := hpo3
    refine qr_if_ne C 37 dX7_isBuilt_17 (by decide) (fun c17 => ?_) (fun c17 => ?_)
    · skip
      refine qr_iconst (v := 0) C dX7_isBuilt_37 (by decide) ?_
      exact qr_zret C rfl (by decide) (Nat.zero_le _) (Nat.zero_le _) dX7_isBuilt_38 ((by subst hbk; exact ⟨rfl, fun t ht => ((hfr5 t ht).trans rfl), Or.inl ⟨fun z => c17 (sm_ref0.mpr z), rfl, hM4⟩⟩))
    · skip
      obtain ⟨t0, v0, ht0, hx1, hv0, hx2, hat⟩ := sm_cB_ok (hbk.symm.trans (sm_ref0.mp c17))
      have hatc : sm_at x1 x2 = 4 * t0 + v0 := by unfold sm_at; rw [hat, nI_clamp (by omega)]
      refine qr_aload_n C dX7_isBuilt_20 rfl 0 rfl ?_
      refine gf_X7_44 C (100) (hM4.1) rfl rfl dX7_isBuilt_21 ?_
      refine qr_iconst (v := 4) C dX7_isBuilt_24 (by decide) ?_
      refine qr_iload_n C dX7_isBuilt_25 rfl 1 rfl ?_
      refine qr_imul C dX7_isBuilt_26 ?_
      refine qr_iload_n C dX7_isBuilt_27 rfl 2 rfl ?_
      refine qr_iadd C dX7_isBuilt_28 ?_
      refine qr_zald C (x := ((σ 15) (4 * t0 + v0))) (115) (hM4.2.2.2.2.2.2.2.2.2.2.2.2.1) rfl (j := 4 * t0 + v0) hat (by omega) rfl rfl dX7_isBuilt_29 ?_
      refine qr_if_eq C 37 dX7_isBuilt_30 (by decide) (fun c30 => ?_) (fun c30 => ?_)
      · skip
        refine qr_iconst (v := 0) C dX7_isBuilt_37 (by decide) ?_
        exact qr_zret C rfl (by decide) (Nat.zero_le _) (Nat.zero_le _) dX7_isBuilt_38 ((by subst hbk; exact ⟨rfl, fun t ht => ((hfr5 t ht).trans rfl), Or.inr ⟨sm_ref0.mp c17, sg_vi (by rw [hatc]; exact if_pos c30), ⟨hM4.1, hM4.2.1, hM4.2.2.1, hM4.2.2.2.1, hM4.2.2.2.2.1, hM4.2.2.2.2.2.1, hM4.2.2.2.2.2.2.1, hM4.2.2.2.2.2.2.2.1, hM4.2.2.2.2.2.2.2.2.1, hM4.2.2.2.2.2.2.2.2.2.1, hM4.2.2.2.2.2.2.2.2.2.2.1, hM4.2.2.2.2.2.2.2.2.2.2.2.1, hM4.2.2.2.2.2.2.2.2.2.2.2.2.1, hM4.2.2.2.2.2.2.2.2.2.2.2.2.2.1, hM4.2.2.2.2.2.2.2.2.2.2.2.2.2.2⟩⟩⟩))
      · skip
        refine qr_iconst (v := 1) C dX7_isBuilt_33 (by decide) ?_
        refine qr_goto (tgt := 38) C dX7_isBuilt_34 (by decide) ?_
        exact qr_zret C rfl (by decide) (Nat.zero_le _) (Nat.zero_le _) dX7_isBuilt_38 ((by subst hbk; exact ⟨rfl, fun t ht => ((hfr5 t ht).trans rfl), Or.inr ⟨sm_ref0.mp c17, sg_vi (by rw [hatc]; exact if_neg c30), ⟨hM4.1, hM4.2.1, hM4.2.2.1, hM4.2.2.2.1, hM4.2.2.2.2.1, hM4.2.2.2.2.2.1, hM4.2.2.2.2.2.2.1, hM4.2.2.2.2.2.2.2.1, hM4.2.2.2.2.2.2.2.2.1, hM4.2.2.2.2.2.2.2.2.2.1, hM4.2.2.2.2.2.2.2.2.2.2.1, hM4.2.2.2.2.2.2.2.2.2.2.2.1, hM4.2.2.2.2.2.2.2.2.2.2.2.2.1, hM4.2.2.2.2.2.2.2.2.2.2.2.2.2.1, hM4.2.2.2.2.2.2.2.2.2.2.2.2.2.2⟩⟩⟩))
  refine qr_iload_n C dX7_isBuilt_1 rfl 1 rfl ?_
  refine qr_iload_n C dX7_isBuilt_2 rfl 2 rfl ?_
  refine qr_callS C (na := 2) (As := [(.int x1), (.int x2)]) (rest := [(.ref (ad 100))]) (k_X7_areBoth hst D ad g (x1) (x2)) gi_X7_117 ⟨by decide, by decide, by decide +kernel⟩ rfl rfl (Nat.le_of_ble_eq_true rfl) rfl rfl ⟨Nat.le_of_ble_eq_true rfl, Nat.le_of_ble_eq_true rfl⟩ ⟨Nat.le_of_ble_eq_true rfl, Nat.le_of_ble_eq_true rfl⟩ dX7_isBuilt_3 (fun v ad2 g2 hpo => ?_)
  obtain ⟨rfl, rfl, rfl⟩ := hpo
  refine qr_if_eq C 13 dX7_isBuilt_6 (by decide) (fun c6 => ?_) (fun c6 => ?_)
  · skip
    refine qr_iconst (v := 1) C dX7_isBuilt_13 (by decide) ?_
    exact M1_0 _ (by simp only [if_pos c6])
  · skip
    refine qr_iconst (v := 0) C dX7_isBuilt_9 (by decide) ?_
    refine qr_goto (tgt := 14) C dX7_isBuilt_10 (by decide) ?_
    exact M1_0 _ (by simp only [if_neg c6])
def sm_are2 (σ : Nat → Nat → Int32) (x1 x2 x3 x4 : Int32) : Int32 := if sm_isL x2 = 0 then 0 else if sm_ent σ x1 x3 x4 = -1 then 0 else 1
def sm_cshown (σ : Nat → Nat → Int32) (x1 x2 x3 x4 : Int32) : Int32 := if sm_are2 σ x1 x2 x3 x4 = 0 then 1 else if σ 15 (sm_at x1 x2) = 0 then 2 else 0
def sm_shown (σ : Nat → Nat → Int32) (n : Nat) (x1 x2 x3 x4 : Int32) : Int32 := if sm_bit (σ 16 (sm_at x1 x2)) (sm_ent σ x1 x3 x4) = 1 then -1000000000 else sm_sumO σ x1 (sm_ent σ x1 x3 x4) n
theorem sm_are2_ok {σ : Nat → Nat → Int32} {x1 x2 x3 x4 : Int32} (h : ¬ sm_are2 σ x1 x2 x3 x4 = 0) : ¬ sm_both x1 x2 = 0 := by
  unfold sm_are2 at h
  unfold sm_both
  by_cases h1 : sm_isL x2 = 0
  · rw [if_pos h1] at h; exact absurd rfl h
  · rw [if_neg h1] at h
    by_cases h2 : sm_ent σ x1 x3 x4 = -1
    · rw [if_pos h2] at h; exact absurd rfl h
    · have h3 : ¬ sm_isT x1 = 0 := fun z => h2 (if_pos z)
      rw [if_neg h3, if_neg h1]; decide
theorem sm_cshown_ok {σ : Nat → Nat → Int32} {x1 x2 x3 x4 : Int32} (h : sm_cshown σ x1 x2 x3 x4 = 0) : ¬ sm_both x1 x2 = 0 := sm_are2_ok (fun z => absurd ((if_pos z).symm.trans h) (by decide))
set_option maxRecDepth 20000 in
theorem gk_hid : (Cond.constant RX7 123 (-1000000000)) ∈ qw_Ts := by decide +kernel
theorem sm_hid_lit : (-1000000000 : Int32) = -1000000000 := rfl
set_option maxHeartbeats 4000000 in
set_option maxRecDepth 100000 in
theorem k_X7_shown {l : Launch} (hst : l.stackTraces = false) (D : va_G) (ad : Nat → Nat) (g : qw_G) (σ : Nat → Nat → Int32) (r : Int32) (hM : qm_P D σ r ad g) (n : Nat) (hn : σ 2 0 = nI n) (hn2 : n ≤ 120) (x1 x2 x3 x4 : Int32) : qw_M l yX7_shown [Cond.code yX7_shown cX7_shown 7 (some .int)] { frames := 3, cells := 0, slots := 0, locals := 100 } D ad g [(.ref (ad 100)), (.int x1), (.int x2), (.int x3), (.int x4)] (qm_op D ad g (sm_cshown σ x1 x2 x3 x4) (sm_shown σ n x1 x2 x3 x4) σ σ) 0 0 := by
  refine qw_M.of (maxL := 7) (own := RX7) (lv := [(0, (.ref (ad 100))), (1, (.int x1)), (2, (.int x2)), (3, (.int x3)), (4, (.int x4))]) hst (by decide) rfl rfl (Nat.le_of_ble_eq_true rfl) ?_
  intro p e s m args below meth c A C hin
  refine qr_aload_n C dX7_shown_0 rfl 0 rfl ?_
  refine qr_iload_n C dX7_shown_1 rfl 1 rfl ?_
  refine qr_iload_n C dX7_shown_2 rfl 3 rfl ?_
  refine qr_iload C dX7_shown_3 4 rfl ?_
  refine qr_callV C (na := 3) (As := [(.int x1), (.int x3), (.int x4)]) (rest := []) (k_X7_entryOf hst D ad g σ r hM (x1) (x3) (x4)) (100) (hM.1) rfl rfl gi_X7_82 rfl ⟨by decide, by decide, by decide +kernel⟩ rfl rfl (Nat.le_of_ble_eq_true rfl) rfl rfl ⟨Nat.le_of_ble_eq_true rfl, Nat.le_of_ble_eq_true rfl⟩ ⟨Nat.le_of_ble_eq_true rfl, Nat.le_of_ble_eq_true rfl⟩ dX7_shown_5 (fun v ad2 g2 hpo => ?_)
  obtain ⟨rfl, rfl, rfl⟩ := hpo
  refine qr_istore (lv' := [(5, (.int (sm_ent σ (x1) (x3) (x4)))), (0, (.ref (ad 100))), (1, (.int x1)), (2, (.int x2)), (3, (.int x3)), (4, (.int x4))]) C dX7_shown_8 (by decide) rfl ?_
  have M10_0 : ∀ b10 : Int32, b10 = (if (sm_isL (x2)) = 0 then (0 : Int32) else (if (sm_ent σ (x1) (x3) (x4)) = (-1 : Int32) then (0 : Int32) else (1 : Int32))) → qw_W p l e { frames := 3, cells := 0, slots := 0, locals := 100 } s m args below meth c D A 7 (MQ below (qw_Q (qm_op D ad g (sm_cshown σ x1 x2 x3 x4) (sm_shown σ n x1 x2 x3 x4) σ σ) D A) args s 0 0 A) 0 0 ad g 28 [(5, (.int (sm_ent σ (x1) (x3) (x4)))), (0, (.ref (ad 100))), (1, (.int x1)), (2, (.int x2)), (3, (.int x3)), (4, (.int x4))] [(.int b10)] := by
    intro b10 hb10
    have hb10 : b10 = sm_are2 σ x1 x2 x3 x4 := hb10.trans (rfl)
    refine qr_istore (lv' := [(6, (.int b10)), (5, (.int (sm_ent σ (x1) (x3) (x4)))), (0, (.ref (ad 100))), (1, (.int x1)), (2, (.int x2)), (3, (.int x3)), (4, (.int x4))]) C dX7_shown_28 (by decide) rfl ?_
    refine qr_aload_n C dX7_shown_30 rfl 2 rfl ?_
    have M31_1 : ∀ bk : Int32, bk = (if b10 = 0 then (1 : Int32) else (if (σ 15 (sm_at x1 x2)) = 0 then (2 : Int32) else (0 : Int32))) → qw_W p l e { frames := 3, cells := 0, slots := 0, locals := 100 } s m args below meth c D A 7 (MQ below (qw_Q (qm_op D ad g (sm_cshown σ x1 x2 x3 x4) (sm_shown σ n x1 x2 x3 x4) σ σ) D A) args s 0 0 A) 0 0 ad g 58 [(6, (.int b10)), (5, (.int (sm_ent σ (x1) (x3) (x4)))), (0, (.ref (ad 100))), (1, (.int x1)), (2, (.int x2)), (3, (.int x3)), (4, (.int x4))] [(.int bk), (.ref (ad 100))] := by
      intro bk hbk
      have hbk : bk = sm_cshown σ x1 x2 x3 x4 := hbk.trans ((by subst hb10; rfl))
      refine qr_callV C (na := 1) (As := [(.int bk)]) (rest := []) (k_X7_refused hst D ad g σ r hM bk) (100) (hM.1) rfl rfl gi_X7_75 rfl ⟨by decide, by decide, by decide +kernel⟩ rfl rfl (Nat.le_of_ble_eq_true rfl) rfl rfl ⟨Nat.le_of_ble_eq_true rfl, Nat.le_of_ble_eq_true rfl⟩ ⟨Nat.le_of_ble_eq_true rfl, Nat.le_of_ble_eq_true rfl⟩ dX7_shown_58 (fun v ad2 gc3 hpo4 => ?_)
      obtain ⟨rfl, rfl, hM5, hfr6⟩ := hpo4
      refine qr_if_eq C 66 dX7_shown_61 (by decide) (fun c61 => ?_) (fun c61 => ?_)
      · skip
        obtain ⟨t0, v0, ht0, hx1, hv0, hx2, hat⟩ := sm_both_ok (sm_cshown_ok (hbk.symm.trans (sm_ref0.mp c61)))
        have hatc : sm_at x1 x2 = 4 * t0 + v0 := by unfold sm_at; rw [hat, nI_clamp (by omega)]
        refine qr_aload_n C dX7_shown_66 rfl 2 rfl ?_
        refine gf_X7_47 C (100) (hM5.1) rfl rfl dX7_shown_67 ?_
        refine qr_iconst (v := 4) C dX7_shown_70 (by decide) ?_
        refine qr_iload_n C dX7_shown_71 rfl 3 rfl ?_
        refine qr_imul C dX7_shown_72 ?_
        refine qr_iload_n C dX7_shown_73 rfl 4 rfl ?_
        refine qr_iadd C dX7_shown_74 ?_
        refine qr_iald C (x := (σ 16 (sm_at x1 x2))) (116) (hM5.2.2.2.2.2.2.2.2.2.2.2.2.2.1) rfl (j := 4 * t0 + v0) hat (by omega) rfl (by rw [hatc]) dX7_shown_75 ?_
        refine qr_iload C dX7_shown_76 1 rfl ?_
        refine qr_ishr C dX7_shown_78 ?_
        refine qr_iconst (v := 1) C dX7_shown_79 (by decide) ?_
        refine qr_iand C dX7_shown_80 ?_
        refine qr_iconst (v := 1) C dX7_shown_81 (by decide) ?_
        refine qr_icmp_ne C 90 dX7_shown_82 (by decide) (fun c82 => ?_) (fun c82 => ?_)
        · skip
          refine qr_aload_n C dX7_shown_90 rfl 2 rfl ?_
          refine qr_iload_n C dX7_shown_91 rfl 3 rfl ?_
          refine qr_iload C dX7_shown_92 1 rfl ?_
          refine qr_callV C (na := 2) (As := [(.int x1), (.int (sm_ent σ (x1) (x3) (x4)))]) (rest := []) (k_X7_sumOf hst D ad gc3 σ bk hM5 n hn hn2 (x1) ((sm_ent σ (x1) (x3) (x4)))) (100) (hM5.1) rfl rfl gi_X7_86 rfl ⟨by decide, by decide, by decide +kernel⟩ rfl rfl (Nat.le_of_ble_eq_true rfl) rfl rfl ⟨Nat.le_of_ble_eq_true rfl, Nat.le_of_ble_eq_true rfl⟩ ⟨Nat.le_of_ble_eq_true rfl, Nat.le_of_ble_eq_true rfl⟩ dX7_shown_94 (fun v ad2 g2 hpo => ?_)
          obtain ⟨rfl, rfl, rfl⟩ := hpo
          exact qr_iret C rfl (Nat.zero_le _) (Nat.zero_le _) dX7_shown_97 ((by subst hbk; exact ⟨rfl, fun t ht => ((hfr6 t ht).trans rfl), Or.inr ⟨sm_ref0.mp c61, sg_vi (if_neg c82), ⟨hM5.1, hM5.2.1, hM5.2.2.1, hM5.2.2.2.1, hM5.2.2.2.2.1, hM5.2.2.2.2.2.1, hM5.2.2.2.2.2.2.1, hM5.2.2.2.2.2.2.2.1, hM5.2.2.2.2.2.2.2.2.1, hM5.2.2.2.2.2.2.2.2.2.1, hM5.2.2.2.2.2.2.2.2.2.2.1, hM5.2.2.2.2.2.2.2.2.2.2.2.1, hM5.2.2.2.2.2.2.2.2.2.2.2.2.1, hM5.2.2.2.2.2.2.2.2.2.2.2.2.2.1, hM5.2.2.2.2.2.2.2.2.2.2.2.2.2.2⟩⟩⟩))
        · skip
          refine qr_ldc (v := -1000000000) C (gk_hid) dX7_shown_85 ?_
          refine qr_goto (tgt := 97) C dX7_shown_87 (by decide) ?_
          exact qr_iret C rfl (Nat.zero_le _) (Nat.zero_le _) dX7_shown_97 ((by subst hbk; exact ⟨rfl, fun t ht => ((hfr6 t ht).trans rfl), Or.inr ⟨sm_ref0.mp c61, sg_vi (if_pos c82), ⟨hM5.1, hM5.2.1, hM5.2.2.1, hM5.2.2.2.1, hM5.2.2.2.2.1, hM5.2.2.2.2.2.1, hM5.2.2.2.2.2.2.1, hM5.2.2.2.2.2.2.2.1, hM5.2.2.2.2.2.2.2.2.1, hM5.2.2.2.2.2.2.2.2.2.1, hM5.2.2.2.2.2.2.2.2.2.2.1, hM5.2.2.2.2.2.2.2.2.2.2.2.1, hM5.2.2.2.2.2.2.2.2.2.2.2.2.1, hM5.2.2.2.2.2.2.2.2.2.2.2.2.2.1, hM5.2.2.2.2.2.2.2.2.2.2.2.2.2.2⟩⟩⟩))
      · skip
        refine qr_iconst (v := 0) C dX7_shown_64 (by decide) ?_
        exact qr_iret C rfl (Nat.zero_le _) (Nat.zero_le _) dX7_shown_65 ((by subst hbk; exact ⟨rfl, fun t ht => ((hfr6 t ht).trans rfl), Or.inl ⟨fun z => c61 (sm_ref0.mpr z), rfl, hM5⟩⟩))
    refine qr_iload C dX7_shown_31 0 rfl ?_
    refine qr_if_ne C 40 dX7_shown_33 (by decide) (fun c33 => ?_) (fun c33 => ?_)
    · skip
      obtain ⟨t0, v0, ht0, hx1, hv0, hx2, hat⟩ := sm_both_ok (sm_are2_ok (fun z => c33 (hb10.trans z)))
      have hatc : sm_at x1 x2 = 4 * t0 + v0 := by unfold sm_at; rw [hat, nI_clamp (by omega)]
      refine qr_aload_n C dX7_shown_40 rfl 2 rfl ?_
      refine gf_X7_44 C (100) (hM.1) rfl rfl dX7_shown_41 ?_
      refine qr_iconst (v := 4) C dX7_shown_44 (by decide) ?_
      refine qr_iload_n C dX7_shown_45 rfl 3 rfl ?_
      refine qr_imul C dX7_shown_46 ?_
      refine qr_iload_n C dX7_shown_47 rfl 4 rfl ?_
      refine qr_iadd C dX7_shown_48 ?_
      refine qr_zald C (x := (σ 15 (sm_at x1 x2))) (115) (hM.2.2.2.2.2.2.2.2.2.2.2.2.1) rfl (j := 4 * t0 + v0) hat (by omega) rfl (by rw [hatc]) dX7_shown_49 ?_
      refine qr_if_eq C 57 dX7_shown_50 (by decide) (fun c7 => ?_) (fun c7 => ?_)
      · skip
        refine qr_iconst (v := 2) C dX7_shown_57 (by decide) ?_
        exact M31_1 _ (by simp only [if_neg c33, if_pos c7])
      · skip
        refine qr_iconst (v := 0) C dX7_shown_53 (by decide) ?_
        refine qr_goto (tgt := 58) C dX7_shown_54 (by decide) ?_
        exact M31_1 _ (by simp only [if_neg c33, if_neg c7])
    · skip
      refine qr_iconst (v := 1) C dX7_shown_36 (by decide) ?_
      refine qr_goto (tgt := 58) C dX7_shown_37 (by decide) ?_
      exact M31_1 _ (by simp only [if_pos c33])
  refine qr_iload_n C dX7_shown_10 rfl 3 rfl ?_
  refine qr_callS C (na := 1) (As := [(.int x2)]) (rest := []) (k_X7_isLevel hst D ad g (x2)) gi_X7_101 ⟨by decide, by decide, by decide +kernel⟩ rfl rfl (Nat.le_of_ble_eq_true rfl) rfl rfl ⟨Nat.le_of_ble_eq_true rfl, Nat.le_of_ble_eq_true rfl⟩ ⟨Nat.le_of_ble_eq_true rfl, Nat.le_of_ble_eq_true rfl⟩ dX7_shown_11 (fun v ad2 g2 hpo => ?_)
  obtain ⟨rfl, rfl, rfl⟩ := hpo
  refine qr_if_eq C 27 dX7_shown_14 (by decide) (fun c8 => ?_) (fun c8 => ?_)
  · skip
    refine qr_iconst (v := 0) C dX7_shown_27 (by decide) ?_
    exact M10_0 _ (by simp only [if_pos c8])
  · skip
    refine qr_iload C dX7_shown_17 0 rfl ?_
    refine qr_iconst (v := -1) C dX7_shown_19 (by decide) ?_
    refine qr_icmp_eq C 27 dX7_shown_20 (by decide) (fun c9 => ?_) (fun c9 => ?_)
    · skip
      refine qr_iconst (v := 0) C dX7_shown_27 (by decide) ?_
      exact M10_0 _ (by simp only [if_neg c8, if_pos c9])
    · skip
      refine qr_iconst (v := 1) C dX7_shown_23 (by decide) ?_
      refine qr_goto (tgt := 28) C dX7_shown_24 (by decide) ?_
      exact M10_0 _ (by simp only [if_neg c8, if_neg c9])
def sm_cwhy (σ : Nat → Nat → Int32) (x1 x2 x3 x4 : Int32) : Int32 := if sm_isL x2 = 0 then 1 else if sm_ent σ x1 x3 x4 = -1 then 1 else 0
def sm_why (σ : Nat → Nat → Int32) (x1 x2 x3 x4 : Int32) : Int32 := if σ 15 (sm_at x1 x2) = 0 then 3 else if sm_bit (σ 17 (sm_at x1 x2)) (sm_ent σ x1 x3 x4) = 1 then 1 else if sm_bit (σ 16 (sm_at x1 x2)) (sm_ent σ x1 x3 x4) = 1 then 2 else 0
theorem sm_cwhy_ok {σ : Nat → Nat → Int32} {x1 x2 x3 x4 : Int32} (h : sm_cwhy σ x1 x2 x3 x4 = 0) : ¬ sm_both x1 x2 = 0 := by
  refine sm_are2_ok (σ := σ) (x3 := x3) (x4 := x4) (fun z => ?_)
  unfold sm_cwhy at h
  unfold sm_are2 at z
  by_cases h1 : sm_isL x2 = 0
  · rw [if_pos h1] at h; exact absurd h (by decide)
  · rw [if_neg h1] at h z
    by_cases h2 : sm_ent σ x1 x3 x4 = -1
    · rw [if_pos h2] at h; exact absurd h (by decide)
    · rw [if_neg h2] at z; exact absurd z (by decide)
set_option maxHeartbeats 4000000 in
set_option maxRecDepth 100000 in
theorem k_X7_why {l : Launch} (hst : l.stackTraces = false) (D : va_G) (ad : Nat → Nat) (g : qw_G) (σ : Nat → Nat → Int32) (r : Int32) (hM : qm_P D σ r ad g) (x1 x2 x3 x4 : Int32) : qw_M l yX7_why [Cond.code yX7_why cX7_why 7 (some .int)] { frames := 3, cells := 0, slots := 0, locals := 100 } D ad g [(.ref (ad 100)), (.int x1), (.int x2), (.int x3), (.int x4)] (qm_op D ad g (sm_cwhy σ x1 x2 x3 x4) (sm_why σ x1 x2 x3 x4) σ σ) 0 0 := by
  refine qw_M.of (maxL := 7) (own := RX7) (lv := [(0, (.ref (ad 100))), (1, (.int x1)), (2, (.int x2)), (3, (.int x3)), (4, (.int x4))]) hst (by decide) rfl rfl (Nat.le_of_ble_eq_true rfl) ?_
  intro p e s m args below meth c A C hin
  refine qr_aload_n C dX7_why_0 rfl 0 rfl ?_
  refine qr_iload_n C dX7_why_1 rfl 1 rfl ?_
  refine qr_iload_n C dX7_why_2 rfl 3 rfl ?_
  refine qr_iload C dX7_why_3 4 rfl ?_
  refine qr_callV C (na := 3) (As := [(.int x1), (.int x3), (.int x4)]) (rest := []) (k_X7_entryOf hst D ad g σ r hM (x1) (x3) (x4)) (100) (hM.1) rfl rfl gi_X7_82 rfl ⟨by decide, by decide, by decide +kernel⟩ rfl rfl (Nat.le_of_ble_eq_true rfl) rfl rfl ⟨Nat.le_of_ble_eq_true rfl, Nat.le_of_ble_eq_true rfl⟩ ⟨Nat.le_of_ble_eq_true rfl, Nat.le_of_ble_eq_true rfl⟩ dX7_why_5 (fun v ad2 g2 hpo => ?_)
  obtain ⟨rfl, rfl, rfl⟩ := hpo
  refine qr_istore (lv' := [(5, (.int (sm_ent σ (x1) (x3) (x4)))), (0, (.ref (ad 100))), (1, (.int x1)), (2, (.int x2)), (3, (.int x3)), (4, (.int x4))]) C dX7_why_8 (by decide) rfl ?_
  refine qr_aload_n C dX7_why_10 rfl 1 rfl ?_
  have M11_0 : ∀ bk : Int32, bk = (if (sm_isL (x2)) = 0 then (1 : Int32) else (if (sm_ent σ (x1) (x3) (x4)) = (-1 : Int32) then (1 : Int32) else (0 : Int32))) → qw_W p l e { frames := 3, cells := 0, slots := 0, locals := 100 } s m args below meth c D A 7 (MQ below (qw_Q (qm_op D ad g (sm_cwhy σ x1 x2 x3 x4) (sm_why σ x1 x2 x3 x4) σ σ) D A) args s 0 0 A) 0 0 ad g 29 [(5, (.int (sm_ent σ (x1) (x3) (x4)))), (0, (.ref (ad 100))), (1, (.int x1)), (2, (.int x2)), (3, (.int x3)), (4, (.int x4))] [(.int bk), (.ref (ad 100))] := by
    intro bk hbk
    have hbk : bk = sm_cwhy σ x1 x2 x3 x4 := hbk.trans (rfl)
    refine qr_callV C (na := 1) (As := [(.int bk)]) (rest := []) (k_X7_refused hst D ad g σ r hM bk) (100) (hM.1) rfl rfl gi_X7_75 rfl ⟨by decide, by decide, by decide +kernel⟩ rfl rfl (Nat.le_of_ble_eq_true rfl) rfl rfl ⟨Nat.le_of_ble_eq_true rfl, Nat.le_of_ble_eq_true rfl⟩ ⟨Nat.le_of_ble_eq_true rfl, Nat.le_of_ble_eq_true rfl⟩ dX7_why_29 (fun v ad2 gc2 hpo3 => ?_)
    obtain ⟨rfl, rfl, hM4, hfr5⟩ := hpo3
    refine qr_if_eq C 37 dX7_why_32 (by decide) (fun c32 => ?_) (fun c32 => ?_)
    · skip
      obtain ⟨t0, v0, ht0, hx1, hv0, hx2, hat⟩ := sm_both_ok (sm_cwhy_ok (hbk.symm.trans (sm_ref0.mp c32)))
      have hatc : sm_at x1 x2 = 4 * t0 + v0 := by unfold sm_at; rw [hat, nI_clamp (by omega)]
      refine qr_iconst (v := 4) C dX7_why_37 (by decide) ?_
      refine qr_iload_n C dX7_why_38 rfl 2 rfl ?_
      refine qr_imul C dX7_why_39 ?_
      refine qr_iload_n C dX7_why_40 rfl 3 rfl ?_
      refine qr_iadd C dX7_why_41 ?_
      refine qr_istore (lv' := [(6, (.int (((4 : Int32) * x1) + x2))), (5, (.int (sm_ent σ (x1) (x3) (x4)))), (0, (.ref (ad 100))), (1, (.int x1)), (2, (.int x2)), (3, (.int x3)), (4, (.int x4))]) C dX7_why_42 (by decide) rfl ?_
      refine qr_aload_n C dX7_why_44 rfl 2 rfl ?_
      refine gf_X7_44 C (100) (hM4.1) rfl rfl dX7_why_45 ?_
      refine qr_iload C dX7_why_48 0 rfl ?_
      refine qr_zald C (x := (σ 15 (sm_at x1 x2))) (115) (hM4.2.2.2.2.2.2.2.2.2.2.2.2.1) rfl (j := 4 * t0 + v0) hat (by omega) rfl (by rw [hatc]) dX7_why_50 ?_
      refine qr_if_ne C 56 dX7_why_51 (by decide) (fun c51 => ?_) (fun c51 => ?_)
      · skip
        refine qr_aload_n C dX7_why_56 rfl 2 rfl ?_
        refine gf_X7_50 C (100) (hM4.1) rfl rfl dX7_why_57 ?_
        refine qr_iload C dX7_why_60 0 rfl ?_
        refine qr_iald C (x := (σ 17 (sm_at x1 x2))) (117) (hM4.2.2.2.2.2.2.2.2.2.2.2.2.2.2) rfl (j := 4 * t0 + v0) hat (by omega) rfl (by rw [hatc]) dX7_why_62 ?_
        refine qr_iload C dX7_why_63 1 rfl ?_
        refine qr_ishr C dX7_why_65 ?_
        refine qr_iconst (v := 1) C dX7_why_66 (by decide) ?_
        refine qr_iand C dX7_why_67 ?_
        refine qr_iconst (v := 1) C dX7_why_68 (by decide) ?_
        refine qr_icmp_ne C 76 dX7_why_69 (by decide) (fun c69 => ?_) (fun c69 => ?_)
        · skip
          refine qr_aload_n C dX7_why_76 rfl 2 rfl ?_
          refine gf_X7_47 C (100) (hM4.1) rfl rfl dX7_why_77 ?_
          refine qr_iload C dX7_why_80 0 rfl ?_
          refine qr_iald C (x := (σ 16 (sm_at x1 x2))) (116) (hM4.2.2.2.2.2.2.2.2.2.2.2.2.2.1) rfl (j := 4 * t0 + v0) hat (by omega) rfl (by rw [hatc]) dX7_why_82 ?_
          refine qr_iload C dX7_why_83 1 rfl ?_
          refine qr_ishr C dX7_why_85 ?_
          refine qr_iconst (v := 1) C dX7_why_86 (by decide) ?_
          refine qr_iand C dX7_why_87 ?_
          refine qr_iconst (v := 1) C dX7_why_88 (by decide) ?_
          refine qr_icmp_ne C 96 dX7_why_89 (by decide) (fun c89 => ?_) (fun c89 => ?_)
          · skip
            refine qr_iconst (v := 0) C dX7_why_96 (by decide) ?_
            exact qr_iret C rfl (Nat.zero_le _) (Nat.zero_le _) dX7_why_97 ((by subst hbk; exact ⟨rfl, fun t ht => ((hfr5 t ht).trans rfl), Or.inr ⟨sm_ref0.mp c32, sg_vi ((if_neg c51).trans ((if_neg c69).trans (if_neg c89))), ⟨hM4.1, hM4.2.1, hM4.2.2.1, hM4.2.2.2.1, hM4.2.2.2.2.1, hM4.2.2.2.2.2.1, hM4.2.2.2.2.2.2.1, hM4.2.2.2.2.2.2.2.1, hM4.2.2.2.2.2.2.2.2.1, hM4.2.2.2.2.2.2.2.2.2.1, hM4.2.2.2.2.2.2.2.2.2.2.1, hM4.2.2.2.2.2.2.2.2.2.2.2.1, hM4.2.2.2.2.2.2.2.2.2.2.2.2.1, hM4.2.2.2.2.2.2.2.2.2.2.2.2.2.1, hM4.2.2.2.2.2.2.2.2.2.2.2.2.2.2⟩⟩⟩))
          · skip
            refine qr_iconst (v := 2) C dX7_why_92 (by decide) ?_
            refine qr_goto (tgt := 97) C dX7_why_93 (by decide) ?_
            exact qr_iret C rfl (Nat.zero_le _) (Nat.zero_le _) dX7_why_97 ((by subst hbk; exact ⟨rfl, fun t ht => ((hfr5 t ht).trans rfl), Or.inr ⟨sm_ref0.mp c32, sg_vi ((if_neg c51).trans ((if_neg c69).trans (if_pos c89))), ⟨hM4.1, hM4.2.1, hM4.2.2.1, hM4.2.2.2.1, hM4.2.2.2.2.1, hM4.2.2.2.2.2.1, hM4.2.2.2.2.2.2.1, hM4.2.2.2.2.2.2.2.1, hM4.2.2.2.2.2.2.2.2.1, hM4.2.2.2.2.2.2.2.2.2.1, hM4.2.2.2.2.2.2.2.2.2.2.1, hM4.2.2.2.2.2.2.2.2.2.2.2.1, hM4.2.2.2.2.2.2.2.2.2.2.2.2.1, hM4.2.2.2.2.2.2.2.2.2.2.2.2.2.1, hM4.2.2.2.2.2.2.2.2.2.2.2.2.2.2⟩⟩⟩))
        · skip
          refine qr_iconst (v := 1) C dX7_why_72 (by decide) ?_
          refine qr_goto (tgt := 97) C dX7_why_73 (by decide) ?_
          exact qr_iret C rfl (Nat.zero_le _) (Nat.zero_le _) dX7_why_97 ((by subst hbk; exact ⟨rfl, fun t ht => ((hfr5 t ht).trans rfl), Or.inr ⟨sm_ref0.mp c32, sg_vi ((if_neg c51).trans (if_pos c69)), ⟨hM4.1, hM4.2.1, hM4.2.2.1, hM4.2.2.2.1, hM4.2.2.2.2.1, hM4.2.2.2.2.2.1, hM4.2.2.2.2.2.2.1, hM4.2.2.2.2.2.2.2.1, hM4.2.2.2.2.2.2.2.2.1, hM4.2.2.2.2.2.2.2.2.2.1, hM4.2.2.2.2.2.2.2.2.2.2.1, hM4.2.2.2.2.2.2.2.2.2.2.2.1, hM4.2.2.2.2.2.2.2.2.2.2.2.2.1, hM4.2.2.2.2.2.2.2.2.2.2.2.2.2.1, hM4.2.2.2.2.2.2.2.2.2.2.2.2.2.2⟩⟩⟩))
      · skip
        refine qr_iconst (v := 3) C dX7_why_54 (by decide) ?_
        exact qr_iret C rfl (Nat.zero_le _) (Nat.zero_le _) dX7_why_55 ((by subst hbk; exact ⟨rfl, fun t ht => ((hfr5 t ht).trans rfl), Or.inr ⟨sm_ref0.mp c32, sg_vi (if_pos c51), ⟨hM4.1, hM4.2.1, hM4.2.2.1, hM4.2.2.2.1, hM4.2.2.2.2.1, hM4.2.2.2.2.2.1, hM4.2.2.2.2.2.2.1, hM4.2.2.2.2.2.2.2.1, hM4.2.2.2.2.2.2.2.2.1, hM4.2.2.2.2.2.2.2.2.2.1, hM4.2.2.2.2.2.2.2.2.2.2.1, hM4.2.2.2.2.2.2.2.2.2.2.2.1, hM4.2.2.2.2.2.2.2.2.2.2.2.2.1, hM4.2.2.2.2.2.2.2.2.2.2.2.2.2.1, hM4.2.2.2.2.2.2.2.2.2.2.2.2.2.2⟩⟩⟩))
    · skip
      refine qr_iconst (v := 0) C dX7_why_35 (by decide) ?_
      exact qr_iret C rfl (Nat.zero_le _) (Nat.zero_le _) dX7_why_36 ((by subst hbk; exact ⟨rfl, fun t ht => ((hfr5 t ht).trans rfl), Or.inl ⟨fun z => c32 (sm_ref0.mpr z), rfl, hM4⟩⟩))
  refine qr_iload_n C dX7_why_11 rfl 3 rfl ?_
  refine qr_callS C (na := 1) (As := [(.int x2)]) (rest := [(.ref (ad 100))]) (k_X7_isLevel hst D ad g (x2)) gi_X7_101 ⟨by decide, by decide, by decide +kernel⟩ rfl rfl (Nat.le_of_ble_eq_true rfl) rfl rfl ⟨Nat.le_of_ble_eq_true rfl, Nat.le_of_ble_eq_true rfl⟩ ⟨Nat.le_of_ble_eq_true rfl, Nat.le_of_ble_eq_true rfl⟩ dX7_why_12 (fun v ad2 g2 hpo => ?_)
  obtain ⟨rfl, rfl, rfl⟩ := hpo
  refine qr_if_eq C 28 dX7_why_15 (by decide) (fun c6 => ?_) (fun c6 => ?_)
  · skip
    refine qr_iconst (v := 1) C dX7_why_28 (by decide) ?_
    exact M11_0 _ (by simp only [if_pos c6])
  · skip
    refine qr_iload C dX7_why_18 0 rfl ?_
    refine qr_iconst (v := -1) C dX7_why_20 (by decide) ?_
    refine qr_icmp_eq C 28 dX7_why_21 (by decide) (fun c7 => ?_) (fun c7 => ?_)
    · skip
      refine qr_iconst (v := 1) C dX7_why_28 (by decide) ?_
      exact M11_0 _ (by simp only [if_neg c6, if_pos c7])
    · skip
      refine qr_iconst (v := 0) C dX7_why_24 (by decide) ?_
      refine qr_goto (tgt := 29) C dX7_why_25 (by decide) ?_
      exact M11_0 _ (by simp only [if_neg c6, if_neg c7])
def sm_cread (σ : Nat → Nat → Int32) (x1 x2 : Int32) : Int32 := if sm_both x1 x2 = 0 then 1 else if σ 15 (sm_at x1 x2) = 0 then 2 else 0
def sm_rd1 (σ : Nat → Nat → Int32) (x1 : Int32) (k : Nat) : Int32 := if σ 3 k = x1 then (if σ 7 k = 0 then 1 else 0) else 0
def sm_read (σ : Nat → Nat → Int32) (x1 : Int32) (n : Nat) : Int32 := sg_it (fun k s => s + sm_rd1 σ x1 k) 0 n
theorem sm_cread_ok {σ : Nat → Nat → Int32} {x1 x2 : Int32} (h : sm_cread σ x1 x2 = 0) : ¬ sm_both x1 x2 = 0 := fun z => absurd ((if_pos z).symm.trans h) (by decide)
set_option maxHeartbeats 4000000 in
set_option maxRecDepth 100000 in
theorem k_X7_read {l : Launch} (hst : l.stackTraces = false) (D : va_G) (ad : Nat → Nat) (g : qw_G) (σ : Nat → Nat → Int32) (r : Int32) (hM : qm_P D σ r ad g) (n : Nat) (hn : σ 2 0 = nI n) (hn2 : n ≤ 120) (x1 x2 : Int32) : qw_M l yX7_read [Cond.code yX7_read cX7_read 6 (some .int)] { frames := 3, cells := 0, slots := 0, locals := 100 } D ad g [(.ref (ad 100)), (.int x1), (.int x2)] (qm_op D ad g (sm_cread σ x1 x2) (sm_read σ x1 n) σ σ) 0 0 := by
  refine qw_M.of (maxL := 6) (own := RX7) (lv := [(0, (.ref (ad 100))), (1, (.int x1)), (2, (.int x2))]) hst (by decide) rfl rfl (Nat.le_of_ble_eq_true rfl) ?_
  intro p e s m args below meth c A C hin
  refine qr_iload_n C dX7_read_0 rfl 1 rfl ?_
  refine qr_iload_n C dX7_read_1 rfl 2 rfl ?_
  refine qr_callS C (na := 2) (As := [(.int x1), (.int x2)]) (rest := []) (k_X7_areBoth hst D ad g (x1) (x2)) gi_X7_117 ⟨by decide, by decide, by decide +kernel⟩ rfl rfl (Nat.le_of_ble_eq_true rfl) rfl rfl ⟨Nat.le_of_ble_eq_true rfl, Nat.le_of_ble_eq_true rfl⟩ ⟨Nat.le_of_ble_eq_true rfl, Nat.le_of_ble_eq_true rfl⟩ dX7_read_2 (fun v ad2 g2 hpo => ?_)
  obtain ⟨rfl, rfl, rfl⟩ := hpo
  refine qr_istore_n (lv' := [(3, (.int (sm_both (x1) (x2)))), (0, (.ref (ad 100))), (1, (.int x1)), (2, (.int x2))]) C dX7_read_5 rfl (by decide) rfl ?_
  refine qr_aload_n C dX7_read_6 rfl 1 rfl ?_
  have M7_0 : ∀ bk : Int32, bk = (if (sm_both (x1) (x2)) = 0 then (1 : Int32) else (if (σ 15 (sm_at x1 x2)) = 0 then (2 : Int32) else (0 : Int32))) → qw_W p l e { frames := 3, cells := 0, slots := 0, locals := 100 } s m args below meth c D A 6 (MQ below (qw_Q (qm_op D ad g (sm_cread σ x1 x2) (sm_read σ x1 n) σ σ) D A) args s 0 0 A) 0 0 ad g 33 [(3, (.int (sm_both (x1) (x2)))), (0, (.ref (ad 100))), (1, (.int x1)), (2, (.int x2))] [(.int bk), (.ref (ad 100))] := by
    intro bk hbk
    have hbk : bk = sm_cread σ x1 x2 := hbk.trans (rfl)
    refine qr_callV C (na := 1) (As := [(.int bk)]) (rest := []) (k_X7_refused hst D ad g σ r hM bk) (100) (hM.1) rfl rfl gi_X7_75 rfl ⟨by decide, by decide, by decide +kernel⟩ rfl rfl (Nat.le_of_ble_eq_true rfl) rfl rfl ⟨Nat.le_of_ble_eq_true rfl, Nat.le_of_ble_eq_true rfl⟩ ⟨Nat.le_of_ble_eq_true rfl, Nat.le_of_ble_eq_true rfl⟩ dX7_read_33 (fun v ad2 gc2 hpo3 => ?_)
    obtain ⟨rfl, rfl, hM4, hfr5⟩ := hpo3
    refine qr_if_eq C 41 dX7_read_36 (by decide) (fun c36 => ?_) (fun c36 => ?_)
    · skip
      refine qr_iconst (v := 0) C dX7_read_41 (by decide) ?_
      refine qr_istore (lv' := [(4, (.int (0 : Int32))), (3, (.int (sm_both (x1) (x2)))), (0, (.ref (ad 100))), (1, (.int x1)), (2, (.int x2))]) C dX7_read_42 (by decide) rfl ?_
      refine qr_iconst (v := 0) C dX7_read_44 (by decide) ?_
      refine qr_istore (lv' := [(5, (.int (0 : Int32))), (4, (.int (0 : Int32))), (3, (.int (sm_both (x1) (x2)))), (0, (.ref (ad 100))), (1, (.int x1)), (2, (.int x2))]) C dX7_read_45 (by decide) rfl ?_
      have L47 : ∀ (j47 i47 : Nat) (ac : Int32), i47 + j47 = n → ac = sm_read σ x1 i47 → qw_W p l e { frames := 3, cells := 0, slots := 0, locals := 100 } s m args below meth c D A 6 (MQ below (qw_Q (qm_op D ad g (sm_cread σ x1 x2) (sm_read σ x1 n) σ σ) D A) args s 0 0 A) 0 0 ad gc2 47 [(0, (.ref (ad 100))), (1, (.int x1)), (4, (.int ac)), (5, (.int (nI i47)))] [] := by
        intro j47
        induction j47 with
        | zero =>
          intro i47 ac hi47 hac
          obtain rfl : n = i47 := by omega
          refine qr_iload C dX7_read_47 3 rfl ?_
          refine qr_aload_n C dX7_read_49 rfl 0 rfl ?_
          refine gf_X7_72 C (100) (hM4.1) rfl rfl dX7_read_50 ?_
          refine qr_icmp_ge_t C 93 dX7_read_53 (by decide) ((sg_le (n) (n) hn rfl (by omega) (by omega)).mpr (Nat.le_refl _)) ?_
          refine qr_iload C dX7_read_93 2 rfl ?_
          exact qr_iret C rfl (Nat.zero_le _) (Nat.zero_le _) dX7_read_95 ((by subst hbk; exact ⟨rfl, fun t ht => ((hfr5 t ht).trans rfl), Or.inr ⟨sm_ref0.mp c36, sg_vi hac.symm, ⟨hM4.1, hM4.2.1, hM4.2.2.1, hM4.2.2.2.1, hM4.2.2.2.2.1, hM4.2.2.2.2.2.1, hM4.2.2.2.2.2.2.1, hM4.2.2.2.2.2.2.2.1, hM4.2.2.2.2.2.2.2.2.1, hM4.2.2.2.2.2.2.2.2.2.1, hM4.2.2.2.2.2.2.2.2.2.2.1, hM4.2.2.2.2.2.2.2.2.2.2.2.1, hM4.2.2.2.2.2.2.2.2.2.2.2.2.1, hM4.2.2.2.2.2.2.2.2.2.2.2.2.2.1, hM4.2.2.2.2.2.2.2.2.2.2.2.2.2.2⟩⟩⟩))
        | succ j47 ih47 =>
          intro i47 ac hi47 hac
          refine qr_iload C dX7_read_47 3 rfl ?_
          refine qr_aload_n C dX7_read_49 rfl 0 rfl ?_
          refine gf_X7_72 C (100) (hM4.1) rfl rfl dX7_read_50 ?_
          refine qr_icmp_ge_f C 93 dX7_read_53 (by decide) (fun z => absurd ((sg_le (n) (i47) hn rfl (by omega) (by omega)).mp z) (by omega)) ?_
          refine qr_iload C dX7_read_56 2 rfl ?_
          have M58_5 : ∀ bt : Int32, bt = (if ((σ 3) (i47)) = x1 then (if ((σ 7) (i47)) = 0 then (1 : Int32) else (0 : Int32)) else (0 : Int32)) → qw_W p l e { frames := 3, cells := 0, slots := 0, locals := 100 } s m args below meth c D A 6 (MQ below (qw_Q (qm_op D ad g (sm_cread σ x1 x2) (sm_read σ x1 n) σ σ) D A) args s 0 0 A) 0 0 ad gc2 84 [(0, (.ref (ad 100))), (1, (.int x1)), (4, (.int ac)), (5, (.int (nI i47)))] [(.int bt), (.int ac)] := by
            intro bt hbt
            refine qr_iadd C dX7_read_84 ?_
            refine qr_istore (lv' := [(4, (.int (ac + bt))), (0, (.ref (ad 100))), (1, (.int x1)), (5, (.int (nI i47)))]) C dX7_read_85 (by decide) rfl ?_
            refine qr_iinc (v := (nI (i47 + 1))) (lv' := [(5, (.int (nI (i47 + 1)))), (4, (.int (ac + bt))), (0, (.ref (ad 100))), (1, (.int x1))]) C dX7_read_87 (w := 3) rfl (nI_1 _) (by decide) rfl ?_
            refine qr_goto (tgt := 47) C dX7_read_90 (by decide) ?_
            refine qw_pick [2, 3, 1, 0] (lv' := [(0, (.ref (ad 100))), (1, (.int x1)), (4, (.int (ac + bt))), (5, (.int (nI (i47 + 1))))]) rfl ?_
            exact ih47 (i47 + 1) (ac + bt) (by omega) (by subst hac; subst hbt; rfl)
          refine qr_aload_n C dX7_read_58 rfl 0 rfl ?_
          refine gf_X7_7 C (100) (hM4.1) rfl rfl dX7_read_59 ?_
          refine qr_iload C dX7_read_62 3 rfl ?_
          refine qr_iald C (x := ((σ 3) (i47))) (103) (hM4.2.1) rfl (j := i47) rfl (by omega) rfl rfl dX7_read_64 ?_
          refine qr_iload_n C dX7_read_65 rfl 1 rfl ?_
          refine qr_icmp_ne C 83 dX7_read_66 (by decide) (fun c7 => ?_) (fun c7 => ?_)
          · skip
            refine qr_iconst (v := 0) C dX7_read_83 (by decide) ?_
            exact M58_5 _ (by simp only [if_neg c7])
          · skip
            refine qr_aload_n C dX7_read_69 rfl 0 rfl ?_
            refine gf_X7_22 C (100) (hM4.1) rfl rfl dX7_read_70 ?_
            refine qr_iload C dX7_read_73 3 rfl ?_
            refine qr_zald C (x := ((σ 7) (i47))) (107) (hM4.2.2.2.2.2.1) rfl (j := i47) rfl (by omega) rfl rfl dX7_read_75 ?_
            refine qr_if_ne C 83 dX7_read_76 (by decide) (fun c8 => ?_) (fun c8 => ?_)
            · skip
              refine qr_iconst (v := 0) C dX7_read_83 (by decide) ?_
              exact M58_5 _ (by simp only [if_pos c7, if_neg c8])
            · skip
              refine qr_iconst (v := 1) C dX7_read_79 (by decide) ?_
              refine qr_goto (tgt := 84) C dX7_read_80 (by decide) ?_
              exact M58_5 _ (by simp only [if_pos c7, if_pos c8])
      refine qw_pick [3, 4, 1, 0] (lv' := [(0, (.ref (ad 100))), (1, (.int x1)), (4, (.int (0 : Int32))), (5, (.int (0 : Int32)))]) rfl ?_
      exact L47 (n) 0 (0 : Int32) (by omega) rfl
    · skip
      refine qr_iconst (v := 0) C dX7_read_39 (by decide) ?_
      exact qr_iret C rfl (Nat.zero_le _) (Nat.zero_le _) dX7_read_40 ((by subst hbk; exact ⟨rfl, fun t ht => ((hfr5 t ht).trans rfl), Or.inl ⟨fun z => c36 (sm_ref0.mpr z), rfl, hM4⟩⟩))
  refine qr_iload_n C dX7_read_7 rfl 0 rfl ?_
  refine qr_if_ne C 15 dX7_read_8 (by decide) (fun c8 => ?_) (fun c8 => ?_)
  · skip
    obtain ⟨t0, v0, ht0, hx1, hv0, hx2, hat⟩ := sm_both_ok (c8)
    have hatc : sm_at x1 x2 = 4 * t0 + v0 := by unfold sm_at; rw [hat, nI_clamp (by omega)]
    refine qr_aload_n C dX7_read_15 rfl 1 rfl ?_
    refine gf_X7_44 C (100) (hM.1) rfl rfl dX7_read_16 ?_
    refine qr_iconst (v := 4) C dX7_read_19 (by decide) ?_
    refine qr_iload_n C dX7_read_20 rfl 2 rfl ?_
    refine qr_imul C dX7_read_21 ?_
    refine qr_iload_n C dX7_read_22 rfl 3 rfl ?_
    refine qr_iadd C dX7_read_23 ?_
    refine qr_zald C (x := (σ 15 (sm_at x1 x2))) (115) (hM.2.2.2.2.2.2.2.2.2.2.2.2.1) rfl (j := 4 * t0 + v0) hat (by omega) rfl (by rw [hatc]) dX7_read_24 ?_
    refine qr_if_eq C 32 dX7_read_25 (by decide) (fun c9 => ?_) (fun c9 => ?_)
    · skip
      refine qr_iconst (v := 2) C dX7_read_32 (by decide) ?_
      exact M7_0 _ (by simp only [if_neg c8, if_pos c9])
    · skip
      refine qr_iconst (v := 0) C dX7_read_28 (by decide) ?_
      refine qr_goto (tgt := 33) C dX7_read_29 (by decide) ?_
      exact M7_0 _ (by simp only [if_neg c8, if_neg c9])
  · skip
    refine qr_iconst (v := 1) C dX7_read_11 (by decide) ?_
    refine qr_goto (tgt := 33) C dX7_read_12 (by decide) ?_
    exact M7_0 _ (by simp only [if_pos c8])
set_option maxHeartbeats 4000000 in
set_option maxRecDepth 100000 in
theorem k_X7_dropped {l : Launch} (hst : l.stackTraces = false) (D : va_G) (ad : Nat → Nat) (g : qw_G) (σ : Nat → Nat → Int32) (r : Int32) (hM : qm_P D σ r ad g)  : qw_M l yX7_dropped [Cond.code yX7_dropped cX7_dropped 1 (some .int)] { frames := 0, cells := 0, slots := 0, locals := 0 } D ad g [(.ref (ad 100))] (qm_to D ad g (some (.int (σ 18 0))) σ 0) 0 0 := by
  refine qw_M.of (maxL := 1) (own := RX7) (lv := [(0, (.ref (ad 100)))]) hst (by decide) rfl rfl (Nat.le_of_ble_eq_true rfl) ?_
  intro p e s m args below meth c A C hin
  refine qr_aload_n C dX7_dropped_0 rfl 0 rfl ?_
  refine qr_iconst (v := 0) C dX7_dropped_1 (by decide) ?_
  refine pf_X7_53 C (100) (hM.1) rfl rfl rfl (Nat.le_of_ble_eq_true rfl) rfl dX7_dropped_2 ?_
  generalize hg2 : va_up g (100) _ = g1
  have f3 : g1 (100) = some (.inr (6, [(.int (0 : Int32)), (.int (σ 1 0)), (.int (σ 2 0)), (.ref (ad 103)), (.ref (ad 104)), (.ref (ad 105)), (.ref (ad 106)), (.ref (ad 107)), (.ref (ad 108)), (.int (σ 9 0)), (.ref (ad 110)), (.ref (ad 111)), (.ref (ad 112)), (.ref (ad 113)), (.ref (ad 114)), (.ref (ad 115)), (.ref (ad 116)), (.ref (ad 117)), (.int (σ 18 0)), (.int (σ 19 0))])) := by rw [← hg2]; exact va_up_self _ _ _
  have f4 : g1 (103) = g (103) := by rw [← hg2]; exact va_up_ne _ _ (by omega)
  have f5 : g1 (104) = g (104) := by rw [← hg2]; exact va_up_ne _ _ (by omega)
  have f6 : g1 (105) = g (105) := by rw [← hg2]; exact va_up_ne _ _ (by omega)
  have f7 : g1 (106) = g (106) := by rw [← hg2]; exact va_up_ne _ _ (by omega)
  have f8 : g1 (107) = g (107) := by rw [← hg2]; exact va_up_ne _ _ (by omega)
  have f9 : g1 (108) = g (108) := by rw [← hg2]; exact va_up_ne _ _ (by omega)
  have f10 : g1 (110) = g (110) := by rw [← hg2]; exact va_up_ne _ _ (by omega)
  have f11 : g1 (111) = g (111) := by rw [← hg2]; exact va_up_ne _ _ (by omega)
  have f12 : g1 (112) = g (112) := by rw [← hg2]; exact va_up_ne _ _ (by omega)
  have f13 : g1 (113) = g (113) := by rw [← hg2]; exact va_up_ne _ _ (by omega)
  have f14 : g1 (114) = g (114) := by rw [← hg2]; exact va_up_ne _ _ (by omega)
  have f15 : g1 (115) = g (115) := by rw [← hg2]; exact va_up_ne _ _ (by omega)
  have f16 : g1 (116) = g (116) := by rw [← hg2]; exact va_up_ne _ _ (by omega)
  have f17 : g1 (117) = g (117) := by rw [← hg2]; exact va_up_ne _ _ (by omega)
  refine qr_aload_n C dX7_dropped_5 rfl 0 rfl ?_
  refine gf_X7_69 C (100) (f3) rfl rfl dX7_dropped_6 ?_
  exact qr_iret C rfl (Nat.zero_le _) (Nat.zero_le _) dX7_dropped_9 (⟨rfl, rfl, ⟨f3, (f4.trans (hM.2.1)), (f5.trans (hM.2.2.1)), (f6.trans (hM.2.2.2.1)), (f7.trans (hM.2.2.2.2.1)), (f8.trans (hM.2.2.2.2.2.1)), (f9.trans (hM.2.2.2.2.2.2.1)), (f10.trans (hM.2.2.2.2.2.2.2.1)), (f11.trans (hM.2.2.2.2.2.2.2.2.1)), (f12.trans (hM.2.2.2.2.2.2.2.2.2.1)), (f13.trans (hM.2.2.2.2.2.2.2.2.2.2.1)), (f14.trans (hM.2.2.2.2.2.2.2.2.2.2.2.1)), (f15.trans (hM.2.2.2.2.2.2.2.2.2.2.2.2.1)), (f16.trans (hM.2.2.2.2.2.2.2.2.2.2.2.2.2.1)), (f17.trans (hM.2.2.2.2.2.2.2.2.2.2.2.2.2.2))⟩, fun t ht => ((congrFun hg2 t).symm.trans ((va_up_ne _ _ (by omega)).trans rfl))⟩)
def sm_cE (x1 x2 : Int32) : Int32 := if sm_isE x1 x2 = 0 then 1 else 0
theorem sm_cE01 (x1 x2 : Int32) : sm_ref (sm_cE x1 x2) = 0 ∨ sm_ref (sm_cE x1 x2) = 1 := sm_ref01 _
def sm_mk (σ : Nat → Nat → Int32) (x1 x2 : Int32) : Int32 := σ 19 0 ^^^ (1 <<< ((6 * x1 + x2) &&& 31))
def sm_known (σ : Nat → Nat → Int32) (x1 x2 : Int32) : Int32 := if sm_bit (σ 19 0) (6 * x1 + x2) = 0 then 1 else if sm_found (σ 19 0) (6 * x1 + x2) = 0 then 0 else 1
theorem sm_known01 (σ : Nat → Nat → Int32) (x1 x2 : Int32) : sm_known σ x1 x2 = 0 ∨ sm_known σ x1 x2 = 1 := by unfold sm_known; by_cases h : sm_bit (σ 19 0) (6 * x1 + x2) = 0 <;> by_cases h2 : sm_found (σ 19 0) (6 * x1 + x2) = 0 <;> simp [h, h2]
set_option maxHeartbeats 4000000 in
set_option maxRecDepth 100000 in
theorem k_X7_noEntry {l : Launch} (hst : l.stackTraces = false) (D : va_G) (ad : Nat → Nat) (g : qw_G) (σ : Nat → Nat → Int32) (r : Int32) (hM : qm_P D σ r ad g) (x1 x2 : Int32) : qw_M l yX7_noEntry [Cond.code yX7_noEntry cX7_noEntry 3 (some .boolean)] { frames := 2, cells := 0, slots := 0, locals := 70 } D ad g [(.ref (ad 100)), (.int x1), (.int x2)] (qm_to D ad g (some (.int (sm_ref (sm_cE x1 x2)))) σ (sm_cE x1 x2)) 0 0 := by
  refine qw_M.of (maxL := 3) (own := RX7) (lv := [(0, (.ref (ad 100))), (1, (.int x1)), (2, (.int x2))]) hst (by decide) rfl rfl (Nat.le_of_ble_eq_true rfl) ?_
  intro p e s m args below meth c A C hin
  refine qr_aload_n C dX7_noEntry_0 rfl 0 rfl ?_
  have M1_0 : ∀ bk : Int32, bk = (if (sm_isE (x1) (x2)) = 0 then (1 : Int32) else (0 : Int32)) → qw_W p l e { frames := 2, cells := 0, slots := 0, locals := 70 } s m args below meth c D A 3 (MQ below (qw_Q (qm_to D ad g (some (.int (sm_ref (sm_cE x1 x2)))) σ (sm_cE x1 x2)) D A) args s 0 0 A) 0 0 ad g 14 [(0, (.ref (ad 100))), (1, (.int x1)), (2, (.int x2))] [(.int bk), (.ref (ad 100))] := by
    intro bk hbk
    have hbk : bk = sm_cE x1 x2 := hbk.trans (rfl)
    refine qr_callV C (na := 1) (As := [(.int bk)]) (rest := []) (k_X7_refused hst D ad g σ r hM bk) (100) (hM.1) rfl rfl gi_X7_75 rfl ⟨by decide, by decide, by decide +kernel⟩ rfl rfl (Nat.le_of_ble_eq_true rfl) rfl rfl ⟨Nat.le_of_ble_eq_true rfl, Nat.le_of_ble_eq_true rfl⟩ ⟨Nat.le_of_ble_eq_true rfl, Nat.le_of_ble_eq_true rfl⟩ dX7_noEntry_14 (fun v ad2 gc2 hpo3 => ?_)
    obtain ⟨rfl, rfl, hM4, hfr5⟩ := hpo3
    exact qr_zret C rfl (sm_ref01 _) (Nat.zero_le _) (Nat.zero_le _) dX7_noEntry_17 ((by subst hbk; exact ⟨rfl, rfl, hM4, fun t ht => ((hfr5 t ht).trans rfl)⟩))
  refine qr_iload_n C dX7_noEntry_1 rfl 1 rfl ?_
  refine qr_iload_n C dX7_noEntry_2 rfl 2 rfl ?_
  refine qr_callS C (na := 2) (As := [(.int x1), (.int x2)]) (rest := [(.ref (ad 100))]) (k_X7_isEntry hst D ad g (x1) (x2)) gi_X7_65 ⟨by decide, by decide, by decide +kernel⟩ rfl rfl (Nat.le_of_ble_eq_true rfl) rfl rfl ⟨Nat.le_of_ble_eq_true rfl, Nat.le_of_ble_eq_true rfl⟩ ⟨Nat.le_of_ble_eq_true rfl, Nat.le_of_ble_eq_true rfl⟩ dX7_noEntry_3 (fun v ad2 g2 hpo => ?_)
  obtain ⟨rfl, rfl, rfl⟩ := hpo
  refine qr_if_eq C 13 dX7_noEntry_6 (by decide) (fun c6 => ?_) (fun c6 => ?_)
  · skip
    refine qr_iconst (v := 1) C dX7_noEntry_13 (by decide) ?_
    exact M1_0 _ (by simp only [if_pos c6])
  · skip
    refine qr_iconst (v := 0) C dX7_noEntry_9 (by decide) ?_
    refine qr_goto (tgt := 14) C dX7_noEntry_10 (by decide) ?_
    exact M1_0 _ (by simp only [if_neg c6])
set_option maxHeartbeats 4000000 in
set_option maxRecDepth 100000 in
theorem k_X7_mark {l : Launch} (hst : l.stackTraces = false) (D : va_G) (ad : Nat → Nat) (g : qw_G) (σ : Nat → Nat → Int32) (r : Int32) (hM : qm_P D σ r ad g) (x1 x2 : Int32) : qw_M l yX7_mark [Cond.code yX7_mark cX7_mark 3 (some .boolean)] { frames := 3, cells := 0, slots := 0, locals := 100 } D ad g [(.ref (ad 100)), (.int x1), (.int x2)] (qm_op D ad g (sm_cE x1 x2) (sm_b1 (sm_bit (sm_mk σ x1 x2) (6 * x1 + x2))) σ (sg_u σ 19 (sm_mk σ x1 x2))) 0 0 := by
  refine qw_M.of (maxL := 3) (own := RX7) (lv := [(0, (.ref (ad 100))), (1, (.int x1)), (2, (.int x2))]) hst (by decide) rfl rfl (Nat.le_of_ble_eq_true rfl) ?_
  intro p e s m args below meth c A C hin
  refine qr_aload_n C dX7_mark_0 rfl 0 rfl ?_
  refine qr_iload_n C dX7_mark_1 rfl 1 rfl ?_
  refine qr_iload_n C dX7_mark_2 rfl 2 rfl ?_
  refine qr_callV C (na := 2) (As := [(.int x1), (.int x2)]) (rest := []) (k_X7_noEntry hst D ad g σ r hM x1 x2) (100) (hM.1) rfl rfl gi_X7_124 rfl ⟨by decide, by decide, by decide +kernel⟩ rfl rfl (Nat.le_of_ble_eq_true rfl) rfl rfl ⟨Nat.le_of_ble_eq_true rfl, Nat.le_of_ble_eq_true rfl⟩ ⟨Nat.le_of_ble_eq_true rfl, Nat.le_of_ble_eq_true rfl⟩ dX7_mark_3 (fun v ad2 gc1 hpo2 => ?_)
  obtain ⟨rfl, rfl, hM3, hfr4⟩ := hpo2
  refine qr_if_eq C 11 dX7_mark_6 (by decide) (fun c6 => ?_) (fun c6 => ?_)
  · skip
    refine qr_aload_n C dX7_mark_11 rfl 0 rfl ?_
    refine qr_dup C dX7_mark_12 rfl ?_
    refine gf_X7_127 C (100) (hM3.1) rfl rfl dX7_mark_13 ?_
    refine qr_iconst (v := 1) C dX7_mark_16 (by decide) ?_
    refine qr_bipush (v := 6) C dX7_mark_17 (by decide) ?_
    refine qr_iload_n C dX7_mark_19 rfl 1 rfl ?_
    refine qr_imul C dX7_mark_20 ?_
    refine qr_iload_n C dX7_mark_21 rfl 2 rfl ?_
    refine qr_iadd C dX7_mark_22 ?_
    refine qr_ishl C dX7_mark_23 ?_
    refine qr_ixor C dX7_mark_24 ?_
    refine pf_X7_127 C (100) (hM3.1) rfl rfl rfl (Nat.le_of_ble_eq_true rfl) rfl dX7_mark_25 ?_
    generalize hg6 : va_up gc1 (100) _ = g5
    have f7 : g5 (100) = some (.inr (6, [(.int (sm_cE x1 x2)), (.int (σ 1 0)), (.int (σ 2 0)), (.ref (ad 103)), (.ref (ad 104)), (.ref (ad 105)), (.ref (ad 106)), (.ref (ad 107)), (.ref (ad 108)), (.int (σ 9 0)), (.ref (ad 110)), (.ref (ad 111)), (.ref (ad 112)), (.ref (ad 113)), (.ref (ad 114)), (.ref (ad 115)), (.ref (ad 116)), (.ref (ad 117)), (.int (σ 18 0)), (.int ((σ 19 0) ^^^ ((1 : Int32) <<< ((((6 : Int32) * x1) + x2) &&& 31))))])) := by rw [← hg6]; exact va_up_self _ _ _
    have f8 : g5 (103) = gc1 (103) := by rw [← hg6]; exact va_up_ne _ _ (by omega)
    have f9 : g5 (104) = gc1 (104) := by rw [← hg6]; exact va_up_ne _ _ (by omega)
    have f10 : g5 (105) = gc1 (105) := by rw [← hg6]; exact va_up_ne _ _ (by omega)
    have f11 : g5 (106) = gc1 (106) := by rw [← hg6]; exact va_up_ne _ _ (by omega)
    have f12 : g5 (107) = gc1 (107) := by rw [← hg6]; exact va_up_ne _ _ (by omega)
    have f13 : g5 (108) = gc1 (108) := by rw [← hg6]; exact va_up_ne _ _ (by omega)
    have f14 : g5 (110) = gc1 (110) := by rw [← hg6]; exact va_up_ne _ _ (by omega)
    have f15 : g5 (111) = gc1 (111) := by rw [← hg6]; exact va_up_ne _ _ (by omega)
    have f16 : g5 (112) = gc1 (112) := by rw [← hg6]; exact va_up_ne _ _ (by omega)
    have f17 : g5 (113) = gc1 (113) := by rw [← hg6]; exact va_up_ne _ _ (by omega)
    have f18 : g5 (114) = gc1 (114) := by rw [← hg6]; exact va_up_ne _ _ (by omega)
    have f19 : g5 (115) = gc1 (115) := by rw [← hg6]; exact va_up_ne _ _ (by omega)
    have f20 : g5 (116) = gc1 (116) := by rw [← hg6]; exact va_up_ne _ _ (by omega)
    have f21 : g5 (117) = gc1 (117) := by rw [← hg6]; exact va_up_ne _ _ (by omega)
    refine qr_aload_n C dX7_mark_28 rfl 0 rfl ?_
    refine gf_X7_127 C (100) (f7) rfl rfl dX7_mark_29 ?_
    refine qr_bipush (v := 6) C dX7_mark_32 (by decide) ?_
    refine qr_iload_n C dX7_mark_34 rfl 1 rfl ?_
    refine qr_imul C dX7_mark_35 ?_
    refine qr_iload_n C dX7_mark_36 rfl 2 rfl ?_
    refine qr_iadd C dX7_mark_37 ?_
    refine qr_ishr C dX7_mark_38 ?_
    refine qr_iconst (v := 1) C dX7_mark_39 (by decide) ?_
    refine qr_iand C dX7_mark_40 ?_
    refine qr_iconst (v := 1) C dX7_mark_41 (by decide) ?_
    refine qr_icmp_ne C 49 dX7_mark_42 (by decide) (fun c42 => ?_) (fun c42 => ?_)
    · skip
      refine qr_iconst (v := 0) C dX7_mark_49 (by decide) ?_
      exact qr_zret C rfl (by decide) (Nat.zero_le _) (Nat.zero_le _) dX7_mark_50 ((by exact ⟨rfl, fun t ht => ((congrFun hg6 t).symm.trans ((va_up_ne _ _ (by omega)).trans ((hfr4 t ht).trans rfl))), Or.inr ⟨sm_ref0.mp c6, sg_vi (if_neg c42), ⟨f7, (f8.trans (hM3.2.1)), (f9.trans (hM3.2.2.1)), (f10.trans (hM3.2.2.2.1)), (f11.trans (hM3.2.2.2.2.1)), (f12.trans (hM3.2.2.2.2.2.1)), (f13.trans (hM3.2.2.2.2.2.2.1)), (f14.trans (hM3.2.2.2.2.2.2.2.1)), (f15.trans (hM3.2.2.2.2.2.2.2.2.1)), (f16.trans (hM3.2.2.2.2.2.2.2.2.2.1)), (f17.trans (hM3.2.2.2.2.2.2.2.2.2.2.1)), (f18.trans (hM3.2.2.2.2.2.2.2.2.2.2.2.1)), (f19.trans (hM3.2.2.2.2.2.2.2.2.2.2.2.2.1)), (f20.trans (hM3.2.2.2.2.2.2.2.2.2.2.2.2.2.1)), (f21.trans (hM3.2.2.2.2.2.2.2.2.2.2.2.2.2.2))⟩⟩⟩))
    · skip
      refine qr_iconst (v := 1) C dX7_mark_45 (by decide) ?_
      refine qr_goto (tgt := 50) C dX7_mark_46 (by decide) ?_
      exact qr_zret C rfl (by decide) (Nat.zero_le _) (Nat.zero_le _) dX7_mark_50 ((by exact ⟨rfl, fun t ht => ((congrFun hg6 t).symm.trans ((va_up_ne _ _ (by omega)).trans ((hfr4 t ht).trans rfl))), Or.inr ⟨sm_ref0.mp c6, sg_vi (if_pos c42), ⟨f7, (f8.trans (hM3.2.1)), (f9.trans (hM3.2.2.1)), (f10.trans (hM3.2.2.2.1)), (f11.trans (hM3.2.2.2.2.1)), (f12.trans (hM3.2.2.2.2.2.1)), (f13.trans (hM3.2.2.2.2.2.2.1)), (f14.trans (hM3.2.2.2.2.2.2.2.1)), (f15.trans (hM3.2.2.2.2.2.2.2.2.1)), (f16.trans (hM3.2.2.2.2.2.2.2.2.2.1)), (f17.trans (hM3.2.2.2.2.2.2.2.2.2.2.1)), (f18.trans (hM3.2.2.2.2.2.2.2.2.2.2.2.1)), (f19.trans (hM3.2.2.2.2.2.2.2.2.2.2.2.2.1)), (f20.trans (hM3.2.2.2.2.2.2.2.2.2.2.2.2.2.1)), (f21.trans (hM3.2.2.2.2.2.2.2.2.2.2.2.2.2.2))⟩⟩⟩))
  · skip
    refine qr_iconst (v := 0) C dX7_mark_9 (by decide) ?_
    exact qr_zret C rfl (by decide) (Nat.zero_le _) (Nat.zero_le _) dX7_mark_10 (⟨rfl, fun t ht => ((hfr4 t ht).trans rfl), Or.inl ⟨fun z => c6 (sm_ref0.mpr z), rfl, hM3⟩⟩)
set_option maxHeartbeats 4000000 in
set_option maxRecDepth 100000 in
theorem k_X7_clear {l : Launch} (hst : l.stackTraces = false) (D : va_G) (ad : Nat → Nat) (g : qw_G) (σ : Nat → Nat → Int32) (r : Int32) (hM : qm_P D σ r ad g)  : qw_M l yX7_clear [Cond.code yX7_clear cX7_clear 2 (some .int)] { frames := 1, cells := 0, slots := 0, locals := 40 } D ad g [(.ref (ad 100))] (qm_to D ad g (some (.int (sm_bits (σ 19 0)))) (sg_u σ 19 0) 0) 0 0 := by
  refine qw_M.of (maxL := 2) (own := RX7) (lv := [(0, (.ref (ad 100)))]) hst (by decide) rfl rfl (Nat.le_of_ble_eq_true rfl) ?_
  intro p e s m args below meth c A C hin
  refine qr_aload_n C dX7_clear_0 rfl 0 rfl ?_
  refine qr_iconst (v := 0) C dX7_clear_1 (by decide) ?_
  refine pf_X7_53 C (100) (hM.1) rfl rfl rfl (Nat.le_of_ble_eq_true rfl) rfl dX7_clear_2 ?_
  generalize hg2 : va_up g (100) _ = g1
  have f3 : g1 (100) = some (.inr (6, [(.int (0 : Int32)), (.int (σ 1 0)), (.int (σ 2 0)), (.ref (ad 103)), (.ref (ad 104)), (.ref (ad 105)), (.ref (ad 106)), (.ref (ad 107)), (.ref (ad 108)), (.int (σ 9 0)), (.ref (ad 110)), (.ref (ad 111)), (.ref (ad 112)), (.ref (ad 113)), (.ref (ad 114)), (.ref (ad 115)), (.ref (ad 116)), (.ref (ad 117)), (.int (σ 18 0)), (.int (σ 19 0))])) := by rw [← hg2]; exact va_up_self _ _ _
  have f4 : g1 (103) = g (103) := by rw [← hg2]; exact va_up_ne _ _ (by omega)
  have f5 : g1 (104) = g (104) := by rw [← hg2]; exact va_up_ne _ _ (by omega)
  have f6 : g1 (105) = g (105) := by rw [← hg2]; exact va_up_ne _ _ (by omega)
  have f7 : g1 (106) = g (106) := by rw [← hg2]; exact va_up_ne _ _ (by omega)
  have f8 : g1 (107) = g (107) := by rw [← hg2]; exact va_up_ne _ _ (by omega)
  have f9 : g1 (108) = g (108) := by rw [← hg2]; exact va_up_ne _ _ (by omega)
  have f10 : g1 (110) = g (110) := by rw [← hg2]; exact va_up_ne _ _ (by omega)
  have f11 : g1 (111) = g (111) := by rw [← hg2]; exact va_up_ne _ _ (by omega)
  have f12 : g1 (112) = g (112) := by rw [← hg2]; exact va_up_ne _ _ (by omega)
  have f13 : g1 (113) = g (113) := by rw [← hg2]; exact va_up_ne _ _ (by omega)
  have f14 : g1 (114) = g (114) := by rw [← hg2]; exact va_up_ne _ _ (by omega)
  have f15 : g1 (115) = g (115) := by rw [← hg2]; exact va_up_ne _ _ (by omega)
  have f16 : g1 (116) = g (116) := by rw [← hg2]; exact va_up_ne _ _ (by omega)
  have f17 : g1 (117) = g (117) := by rw [← hg2]; exact va_up_ne _ _ (by omega)
  refine qr_aload_n C dX7_clear_5 rfl 0 rfl ?_
  refine gf_X7_127 C (100) (f3) rfl rfl dX7_clear_6 ?_
  refine qr_callS C (na := 1) (As := [(.int (σ 19 0))]) (rest := []) (k_X7_bits hst D ad g1 ((σ 19 0))) gi_X7_113 ⟨by decide, by decide, by decide +kernel⟩ rfl rfl (Nat.le_of_ble_eq_true rfl) rfl rfl ⟨Nat.le_of_ble_eq_true rfl, Nat.le_of_ble_eq_true rfl⟩ ⟨Nat.le_of_ble_eq_true rfl, Nat.le_of_ble_eq_true rfl⟩ dX7_clear_9 (fun v ad2 g2 hpo => ?_)
  obtain ⟨rfl, rfl, rfl⟩ := hpo
  refine qr_istore_n (lv' := [(1, (.int (sm_bits ((σ 19 0))))), (0, (.ref (ad 100)))]) C dX7_clear_12 rfl (by decide) rfl ?_
  refine qr_aload_n C dX7_clear_13 rfl 1 rfl ?_
  refine qr_iconst (v := 0) C dX7_clear_14 (by decide) ?_
  refine pf_X7_127 C (100) (f3) rfl rfl rfl (Nat.le_of_ble_eq_true rfl) rfl dX7_clear_15 ?_
  generalize hg19 : va_up g1 (100) _ = g18
  have f20 : g18 (100) = some (.inr (6, [(.int (0 : Int32)), (.int (σ 1 0)), (.int (σ 2 0)), (.ref (ad 103)), (.ref (ad 104)), (.ref (ad 105)), (.ref (ad 106)), (.ref (ad 107)), (.ref (ad 108)), (.int (σ 9 0)), (.ref (ad 110)), (.ref (ad 111)), (.ref (ad 112)), (.ref (ad 113)), (.ref (ad 114)), (.ref (ad 115)), (.ref (ad 116)), (.ref (ad 117)), (.int (σ 18 0)), (.int (0 : Int32))])) := by rw [← hg19]; exact va_up_self _ _ _
  have f21 : g18 (103) = g1 (103) := by rw [← hg19]; exact va_up_ne _ _ (by omega)
  have f22 : g18 (104) = g1 (104) := by rw [← hg19]; exact va_up_ne _ _ (by omega)
  have f23 : g18 (105) = g1 (105) := by rw [← hg19]; exact va_up_ne _ _ (by omega)
  have f24 : g18 (106) = g1 (106) := by rw [← hg19]; exact va_up_ne _ _ (by omega)
  have f25 : g18 (107) = g1 (107) := by rw [← hg19]; exact va_up_ne _ _ (by omega)
  have f26 : g18 (108) = g1 (108) := by rw [← hg19]; exact va_up_ne _ _ (by omega)
  have f27 : g18 (110) = g1 (110) := by rw [← hg19]; exact va_up_ne _ _ (by omega)
  have f28 : g18 (111) = g1 (111) := by rw [← hg19]; exact va_up_ne _ _ (by omega)
  have f29 : g18 (112) = g1 (112) := by rw [← hg19]; exact va_up_ne _ _ (by omega)
  have f30 : g18 (113) = g1 (113) := by rw [← hg19]; exact va_up_ne _ _ (by omega)
  have f31 : g18 (114) = g1 (114) := by rw [← hg19]; exact va_up_ne _ _ (by omega)
  have f32 : g18 (115) = g1 (115) := by rw [← hg19]; exact va_up_ne _ _ (by omega)
  have f33 : g18 (116) = g1 (116) := by rw [← hg19]; exact va_up_ne _ _ (by omega)
  have f34 : g18 (117) = g1 (117) := by rw [← hg19]; exact va_up_ne _ _ (by omega)
  refine qr_iload_n C dX7_clear_18 rfl 0 rfl ?_
  exact qr_iret C rfl (Nat.zero_le _) (Nat.zero_le _) dX7_clear_19 (⟨rfl, rfl, ⟨f20, (f21.trans ((f4.trans (hM.2.1)))), (f22.trans ((f5.trans (hM.2.2.1)))), (f23.trans ((f6.trans (hM.2.2.2.1)))), (f24.trans ((f7.trans (hM.2.2.2.2.1)))), (f25.trans ((f8.trans (hM.2.2.2.2.2.1)))), (f26.trans ((f9.trans (hM.2.2.2.2.2.2.1)))), (f27.trans ((f10.trans (hM.2.2.2.2.2.2.2.1)))), (f28.trans ((f11.trans (hM.2.2.2.2.2.2.2.2.1)))), (f29.trans ((f12.trans (hM.2.2.2.2.2.2.2.2.2.1)))), (f30.trans ((f13.trans (hM.2.2.2.2.2.2.2.2.2.2.1)))), (f31.trans ((f14.trans (hM.2.2.2.2.2.2.2.2.2.2.2.1)))), (f32.trans ((f15.trans (hM.2.2.2.2.2.2.2.2.2.2.2.2.1)))), (f33.trans ((f16.trans (hM.2.2.2.2.2.2.2.2.2.2.2.2.2.1)))), (f34.trans ((f17.trans (hM.2.2.2.2.2.2.2.2.2.2.2.2.2.2))))⟩, fun t ht => ((congrFun hg19 t).symm.trans ((va_up_ne _ _ (by omega)).trans ((congrFun hg2 t).symm.trans ((va_up_ne _ _ (by omega)).trans rfl))))⟩)
set_option maxHeartbeats 4000000 in
set_option maxRecDepth 100000 in
theorem k_X7_isKnown {l : Launch} (hst : l.stackTraces = false) (D : va_G) (ad : Nat → Nat) (g : qw_G) (σ : Nat → Nat → Int32) (r : Int32) (hM : qm_P D σ r ad g) (x1 x2 : Int32) : qw_M l yX7_isKnown [Cond.code yX7_isKnown cX7_isKnown 4 (some .boolean)] { frames := 3, cells := 0, slots := 0, locals := 100 } D ad g [(.ref (ad 100)), (.int x1), (.int x2)] (qm_op D ad g (sm_cE x1 x2) (sm_known σ x1 x2) σ σ) 0 0 := by
  refine qw_M.of (maxL := 4) (own := RX7) (lv := [(0, (.ref (ad 100))), (1, (.int x1)), (2, (.int x2))]) hst (by decide) rfl rfl (Nat.le_of_ble_eq_true rfl) ?_
  intro p e s m args below meth c A C hin
  refine qr_aload_n C dX7_isKnown_0 rfl 0 rfl ?_
  refine qr_iload_n C dX7_isKnown_1 rfl 1 rfl ?_
  refine qr_iload_n C dX7_isKnown_2 rfl 2 rfl ?_
  refine qr_callV C (na := 2) (As := [(.int x1), (.int x2)]) (rest := []) (k_X7_noEntry hst D ad g σ r hM x1 x2) (100) (hM.1) rfl rfl gi_X7_124 rfl ⟨by decide, by decide, by decide +kernel⟩ rfl rfl (Nat.le_of_ble_eq_true rfl) rfl rfl ⟨Nat.le_of_ble_eq_true rfl, Nat.le_of_ble_eq_true rfl⟩ ⟨Nat.le_of_ble_eq_true rfl, Nat.le_of_ble_eq_true rfl⟩ dX7_isKnown_3 (fun v ad2 gc1 hpo2 => ?_)
  obtain ⟨rfl, rfl, hM3, hfr4⟩ := hpo2
  refine qr_if_eq C 11 dX7_isKnown_6 (by decide) (fun c6 => ?_) (fun c6 => ?_)
  · skip
    refine qr_bipush (v := 6) C dX7_isKnown_11 (by decide) ?_
    refine qr_iload_n C dX7_isKnown_13 rfl 1 rfl ?_
    refine qr_imul C dX7_isKnown_14 ?_
    refine qr_iload_n C dX7_isKnown_15 rfl 2 rfl ?_
    refine qr_iadd C dX7_isKnown_16 ?_
    refine qr_istore_n (lv' := [(3, (.int (((6 : Int32) * x1) + x2))), (0, (.ref (ad 100))), (1, (.int x1)), (2, (.int x2))]) C dX7_isKnown_17 rfl (by decide) rfl ?_
    refine qr_aload_n C dX7_isKnown_18 rfl 1 rfl ?_
    refine gf_X7_127 C (100) (hM3.1) rfl rfl dX7_isKnown_19 ?_
    refine qr_iload_n C dX7_isKnown_22 rfl 0 rfl ?_
    refine qr_ishr C dX7_isKnown_23 ?_
    refine qr_iconst (v := 1) C dX7_isKnown_24 (by decide) ?_
    refine qr_iand C dX7_isKnown_25 ?_
    refine qr_if_eq C 40 dX7_isKnown_26 (by decide) (fun c26 => ?_) (fun c26 => ?_)
    · skip
      refine qr_iconst (v := 1) C dX7_isKnown_40 (by decide) ?_
      refine qr_goto (tgt := 45) C dX7_isKnown_41 (by decide) ?_
      exact qr_zret C rfl (by decide) (Nat.zero_le _) (Nat.zero_le _) dX7_isKnown_45 ((by exact ⟨rfl, fun t ht => ((hfr4 t ht).trans rfl), Or.inr ⟨sm_ref0.mp c6, sg_vi (if_pos c26), ⟨hM3.1, hM3.2.1, hM3.2.2.1, hM3.2.2.2.1, hM3.2.2.2.2.1, hM3.2.2.2.2.2.1, hM3.2.2.2.2.2.2.1, hM3.2.2.2.2.2.2.2.1, hM3.2.2.2.2.2.2.2.2.1, hM3.2.2.2.2.2.2.2.2.2.1, hM3.2.2.2.2.2.2.2.2.2.2.1, hM3.2.2.2.2.2.2.2.2.2.2.2.1, hM3.2.2.2.2.2.2.2.2.2.2.2.2.1, hM3.2.2.2.2.2.2.2.2.2.2.2.2.2.1, hM3.2.2.2.2.2.2.2.2.2.2.2.2.2.2⟩⟩⟩))
    · skip
      refine qr_aload_n C dX7_isKnown_29 rfl 1 rfl ?_
      refine gf_X7_127 C (100) (hM3.1) rfl rfl dX7_isKnown_30 ?_
      refine qr_iload_n C dX7_isKnown_33 rfl 0 rfl ?_
      refine qr_callS C (na := 2) (As := [(.int (σ 19 0)), (.int (((6 : Int32) * x1) + x2))]) (rest := []) (k_X7_isFound hst D ad gc1 ((σ 19 0)) ((((6 : Int32) * x1) + x2))) gi_X7_107 ⟨by decide, by decide, by decide +kernel⟩ rfl rfl (Nat.le_of_ble_eq_true rfl) rfl rfl ⟨Nat.le_of_ble_eq_true rfl, Nat.le_of_ble_eq_true rfl⟩ ⟨Nat.le_of_ble_eq_true rfl, Nat.le_of_ble_eq_true rfl⟩ dX7_isKnown_34 (fun v ad2 g2 hpo => ?_)
      obtain ⟨rfl, rfl, rfl⟩ := hpo
      refine qr_if_eq C 44 dX7_isKnown_37 (by decide) (fun c37 => ?_) (fun c37 => ?_)
      · skip
        refine qr_iconst (v := 0) C dX7_isKnown_44 (by decide) ?_
        exact qr_zret C rfl (by decide) (Nat.zero_le _) (Nat.zero_le _) dX7_isKnown_45 ((by exact ⟨rfl, fun t ht => ((hfr4 t ht).trans rfl), Or.inr ⟨sm_ref0.mp c6, sg_vi ((if_neg c26).trans (if_pos c37)), ⟨hM3.1, hM3.2.1, hM3.2.2.1, hM3.2.2.2.1, hM3.2.2.2.2.1, hM3.2.2.2.2.2.1, hM3.2.2.2.2.2.2.1, hM3.2.2.2.2.2.2.2.1, hM3.2.2.2.2.2.2.2.2.1, hM3.2.2.2.2.2.2.2.2.2.1, hM3.2.2.2.2.2.2.2.2.2.2.1, hM3.2.2.2.2.2.2.2.2.2.2.2.1, hM3.2.2.2.2.2.2.2.2.2.2.2.2.1, hM3.2.2.2.2.2.2.2.2.2.2.2.2.2.1, hM3.2.2.2.2.2.2.2.2.2.2.2.2.2.2⟩⟩⟩))
      · skip
        refine qr_iconst (v := 1) C dX7_isKnown_40 (by decide) ?_
        refine qr_goto (tgt := 45) C dX7_isKnown_41 (by decide) ?_
        exact qr_zret C rfl (by decide) (Nat.zero_le _) (Nat.zero_le _) dX7_isKnown_45 ((by exact ⟨rfl, fun t ht => ((hfr4 t ht).trans rfl), Or.inr ⟨sm_ref0.mp c6, sg_vi ((if_neg c26).trans (if_neg c37)), ⟨hM3.1, hM3.2.1, hM3.2.2.1, hM3.2.2.2.1, hM3.2.2.2.2.1, hM3.2.2.2.2.2.1, hM3.2.2.2.2.2.2.1, hM3.2.2.2.2.2.2.2.1, hM3.2.2.2.2.2.2.2.2.1, hM3.2.2.2.2.2.2.2.2.2.1, hM3.2.2.2.2.2.2.2.2.2.2.1, hM3.2.2.2.2.2.2.2.2.2.2.2.1, hM3.2.2.2.2.2.2.2.2.2.2.2.2.1, hM3.2.2.2.2.2.2.2.2.2.2.2.2.2.1, hM3.2.2.2.2.2.2.2.2.2.2.2.2.2.2⟩⟩⟩))
  · skip
    refine qr_iconst (v := 0) C dX7_isKnown_9 (by decide) ?_
    exact qr_zret C rfl (by decide) (Nat.zero_le _) (Nat.zero_le _) dX7_isKnown_10 (⟨rfl, fun t ht => ((hfr4 t ht).trans rfl), Or.inl ⟨fun z => c6 (sm_ref0.mpr z), rfl, hM3⟩⟩)
set_option maxHeartbeats 4000000 in
set_option maxRecDepth 100000 in
theorem k_X7_isKnownBySolving {l : Launch} (hst : l.stackTraces = false) (D : va_G) (ad : Nat → Nat) (g : qw_G) (σ : Nat → Nat → Int32) (r : Int32) (hM : qm_P D σ r ad g) (x1 x2 : Int32) : qw_M l yX7_isKnownBySolving [Cond.code yX7_isKnownBySolving cX7_isKnownBySolving 3 (some .boolean)] { frames := 4, cells := 0, slots := 0, locals := 130 } D ad g [(.ref (ad 100)), (.int x1), (.int x2)] (qm_op D ad g (sm_cE x1 x2) (sm_known σ x1 x2) σ σ) 0 0 := by
  refine qw_M.of (maxL := 3) (own := RX7) (lv := [(0, (.ref (ad 100))), (1, (.int x1)), (2, (.int x2))]) hst (by decide) rfl rfl (Nat.le_of_ble_eq_true rfl) ?_
  intro p e s m args below meth c A C hin
  refine qr_aload_n C dX7_isKnownBySolving_0 rfl 0 rfl ?_
  refine qr_iload_n C dX7_isKnownBySolving_1 rfl 1 rfl ?_
  refine qr_iload_n C dX7_isKnownBySolving_2 rfl 2 rfl ?_
  refine qr_callV C (na := 2) (As := [(.int x1), (.int x2)]) (rest := []) (k_X7_isKnown hst D ad g σ r hM x1 x2) (100) (hM.1) rfl rfl gi_X7_130 rfl ⟨by decide, by decide, by decide +kernel⟩ rfl rfl (Nat.le_of_ble_eq_true rfl) rfl rfl ⟨Nat.le_of_ble_eq_true rfl, Nat.le_of_ble_eq_true rfl⟩ ⟨Nat.le_of_ble_eq_true rfl, Nat.le_of_ble_eq_true rfl⟩ dX7_isKnownBySolving_3 (fun v ad2 gc1 hpo2 => ?_)
  obtain ⟨rfl, hfr3, hx4⟩ := hpo2
  rcases hx4 with ⟨hc, rfl, hM1⟩ | ⟨hc, rfl, hM1⟩
  · skip
    exact qr_zret C rfl (by decide) (Nat.zero_le _) (Nat.zero_le _) dX7_isKnownBySolving_6 (⟨rfl, fun t ht => ((hfr3 t ht).trans rfl), Or.inl ⟨hc, rfl, hM1⟩⟩)
  · skip
    exact qr_zret C rfl (sm_known01 _ _ _) (Nat.zero_le _) (Nat.zero_le _) dX7_isKnownBySolving_6 (⟨rfl, fun t ht => ((hfr3 t ht).trans rfl), Or.inr ⟨hc, rfl, hM1⟩⟩)
set_option maxHeartbeats 4000000 in
set_option maxRecDepth 100000 in
theorem k_X7_cover {l : Launch} (hst : l.stackTraces = false) (D : va_G) (ad : Nat → Nat) (g : qw_G) (σ : Nat → Nat → Int32) (r : Int32) (hM : qm_P D σ r ad g)  : qw_M l yX7_cover [Cond.code yX7_cover cX7_cover 2 (some .int)] { frames := 2, cells := 0, slots := 0, locals := 80 } D ad g [(.ref (ad 100))] (qm_to D ad g (some (.int (sm_bits (sm_hidden (σ 19 0)) - sm_bits (σ 19 0)))) (sg_u σ 19 (sm_hidden (σ 19 0))) 0) 0 0 := by
  refine qw_M.of (maxL := 2) (own := RX7) (lv := [(0, (.ref (ad 100)))]) hst (by decide) rfl rfl (Nat.le_of_ble_eq_true rfl) ?_
  intro p e s m args below meth c A C hin
  refine qr_aload_n C dX7_cover_0 rfl 0 rfl ?_
  refine qr_iconst (v := 0) C dX7_cover_1 (by decide) ?_
  refine pf_X7_53 C (100) (hM.1) rfl rfl rfl (Nat.le_of_ble_eq_true rfl) rfl dX7_cover_2 ?_
  generalize hg2 : va_up g (100) _ = g1
  have f3 : g1 (100) = some (.inr (6, [(.int (0 : Int32)), (.int (σ 1 0)), (.int (σ 2 0)), (.ref (ad 103)), (.ref (ad 104)), (.ref (ad 105)), (.ref (ad 106)), (.ref (ad 107)), (.ref (ad 108)), (.int (σ 9 0)), (.ref (ad 110)), (.ref (ad 111)), (.ref (ad 112)), (.ref (ad 113)), (.ref (ad 114)), (.ref (ad 115)), (.ref (ad 116)), (.ref (ad 117)), (.int (σ 18 0)), (.int (σ 19 0))])) := by rw [← hg2]; exact va_up_self _ _ _
  have f4 : g1 (103) = g (103) := by rw [← hg2]; exact va_up_ne _ _ (by omega)
  have f5 : g1 (104) = g (104) := by rw [← hg2]; exact va_up_ne _ _ (by omega)
  have f6 : g1 (105) = g (105) := by rw [← hg2]; exact va_up_ne _ _ (by omega)
  have f7 : g1 (106) = g (106) := by rw [← hg2]; exact va_up_ne _ _ (by omega)
  have f8 : g1 (107) = g (107) := by rw [← hg2]; exact va_up_ne _ _ (by omega)
  have f9 : g1 (108) = g (108) := by rw [← hg2]; exact va_up_ne _ _ (by omega)
  have f10 : g1 (110) = g (110) := by rw [← hg2]; exact va_up_ne _ _ (by omega)
  have f11 : g1 (111) = g (111) := by rw [← hg2]; exact va_up_ne _ _ (by omega)
  have f12 : g1 (112) = g (112) := by rw [← hg2]; exact va_up_ne _ _ (by omega)
  have f13 : g1 (113) = g (113) := by rw [← hg2]; exact va_up_ne _ _ (by omega)
  have f14 : g1 (114) = g (114) := by rw [← hg2]; exact va_up_ne _ _ (by omega)
  have f15 : g1 (115) = g (115) := by rw [← hg2]; exact va_up_ne _ _ (by omega)
  have f16 : g1 (116) = g (116) := by rw [← hg2]; exact va_up_ne _ _ (by omega)
  have f17 : g1 (117) = g (117) := by rw [← hg2]; exact va_up_ne _ _ (by omega)
  refine qr_aload_n C dX7_cover_5 rfl 0 rfl ?_
  refine gf_X7_127 C (100) (f3) rfl rfl dX7_cover_6 ?_
  refine qr_callS C (na := 1) (As := [(.int (σ 19 0))]) (rest := []) (k_X7_bits hst D ad g1 ((σ 19 0))) gi_X7_113 ⟨by decide, by decide, by decide +kernel⟩ rfl rfl (Nat.le_of_ble_eq_true rfl) rfl rfl ⟨Nat.le_of_ble_eq_true rfl, Nat.le_of_ble_eq_true rfl⟩ ⟨Nat.le_of_ble_eq_true rfl, Nat.le_of_ble_eq_true rfl⟩ dX7_cover_9 (fun v ad2 g2 hpo => ?_)
  obtain ⟨rfl, rfl, rfl⟩ := hpo
  refine qr_istore_n (lv' := [(1, (.int (sm_bits ((σ 19 0))))), (0, (.ref (ad 100)))]) C dX7_cover_12 rfl (by decide) rfl ?_
  refine qr_aload_n C dX7_cover_13 rfl 1 rfl ?_
  refine qr_aload_n C dX7_cover_14 rfl 1 rfl ?_
  refine gf_X7_127 C (100) (f3) rfl rfl dX7_cover_15 ?_
  refine qr_callS C (na := 1) (As := [(.int (σ 19 0))]) (rest := [(.ref (ad 100))]) (k_X7_hidden hst D ad g1 ((σ 19 0))) gi_X7_120 ⟨by decide, by decide, by decide +kernel⟩ rfl rfl (Nat.le_of_ble_eq_true rfl) rfl rfl ⟨Nat.le_of_ble_eq_true rfl, Nat.le_of_ble_eq_true rfl⟩ ⟨Nat.le_of_ble_eq_true rfl, Nat.le_of_ble_eq_true rfl⟩ dX7_cover_18 (fun v ad2 g2 hpo => ?_)
  obtain ⟨rfl, rfl, rfl⟩ := hpo
  refine pf_X7_127 C (100) (f3) rfl rfl rfl (Nat.le_of_ble_eq_true rfl) rfl dX7_cover_21 ?_
  generalize hg19 : va_up g1 (100) _ = g18
  have f20 : g18 (100) = some (.inr (6, [(.int (0 : Int32)), (.int (σ 1 0)), (.int (σ 2 0)), (.ref (ad 103)), (.ref (ad 104)), (.ref (ad 105)), (.ref (ad 106)), (.ref (ad 107)), (.ref (ad 108)), (.int (σ 9 0)), (.ref (ad 110)), (.ref (ad 111)), (.ref (ad 112)), (.ref (ad 113)), (.ref (ad 114)), (.ref (ad 115)), (.ref (ad 116)), (.ref (ad 117)), (.int (σ 18 0)), (.int (sm_hidden ((σ 19 0))))])) := by rw [← hg19]; exact va_up_self _ _ _
  have f21 : g18 (103) = g1 (103) := by rw [← hg19]; exact va_up_ne _ _ (by omega)
  have f22 : g18 (104) = g1 (104) := by rw [← hg19]; exact va_up_ne _ _ (by omega)
  have f23 : g18 (105) = g1 (105) := by rw [← hg19]; exact va_up_ne _ _ (by omega)
  have f24 : g18 (106) = g1 (106) := by rw [← hg19]; exact va_up_ne _ _ (by omega)
  have f25 : g18 (107) = g1 (107) := by rw [← hg19]; exact va_up_ne _ _ (by omega)
  have f26 : g18 (108) = g1 (108) := by rw [← hg19]; exact va_up_ne _ _ (by omega)
  have f27 : g18 (110) = g1 (110) := by rw [← hg19]; exact va_up_ne _ _ (by omega)
  have f28 : g18 (111) = g1 (111) := by rw [← hg19]; exact va_up_ne _ _ (by omega)
  have f29 : g18 (112) = g1 (112) := by rw [← hg19]; exact va_up_ne _ _ (by omega)
  have f30 : g18 (113) = g1 (113) := by rw [← hg19]; exact va_up_ne _ _ (by omega)
  have f31 : g18 (114) = g1 (114) := by rw [← hg19]; exact va_up_ne _ _ (by omega)
  have f32 : g18 (115) = g1 (115) := by rw [← hg19]; exact va_up_ne _ _ (by omega)
  have f33 : g18 (116) = g1 (116) := by rw [← hg19]; exact va_up_ne _ _ (by omega)
  have f34 : g18 (117) = g1 (117) := by rw [← hg19]; exact va_up_ne _ _ (by omega)
  refine qr_aload_n C dX7_cover_24 rfl 1 rfl ?_
  refine gf_X7_127 C (100) (f20) rfl rfl dX7_cover_25 ?_
  refine qr_callS C (na := 1) (As := [(.int (sm_hidden ((σ 19 0))))]) (rest := []) (k_X7_bits hst D ad g18 ((sm_hidden ((σ 19 0))))) gi_X7_113 ⟨by decide, by decide, by decide +kernel⟩ rfl rfl (Nat.le_of_ble_eq_true rfl) rfl rfl ⟨Nat.le_of_ble_eq_true rfl, Nat.le_of_ble_eq_true rfl⟩ ⟨Nat.le_of_ble_eq_true rfl, Nat.le_of_ble_eq_true rfl⟩ dX7_cover_28 (fun v ad2 g2 hpo => ?_)
  obtain ⟨rfl, rfl, rfl⟩ := hpo
  refine qr_iload_n C dX7_cover_31 rfl 0 rfl ?_
  refine qr_isub C dX7_cover_32 ?_
  exact qr_iret C rfl (Nat.zero_le _) (Nat.zero_le _) dX7_cover_33 (⟨rfl, rfl, ⟨f20, (f21.trans ((f4.trans (hM.2.1)))), (f22.trans ((f5.trans (hM.2.2.1)))), (f23.trans ((f6.trans (hM.2.2.2.1)))), (f24.trans ((f7.trans (hM.2.2.2.2.1)))), (f25.trans ((f8.trans (hM.2.2.2.2.2.1)))), (f26.trans ((f9.trans (hM.2.2.2.2.2.2.1)))), (f27.trans ((f10.trans (hM.2.2.2.2.2.2.2.1)))), (f28.trans ((f11.trans (hM.2.2.2.2.2.2.2.2.1)))), (f29.trans ((f12.trans (hM.2.2.2.2.2.2.2.2.2.1)))), (f30.trans ((f13.trans (hM.2.2.2.2.2.2.2.2.2.2.1)))), (f31.trans ((f14.trans (hM.2.2.2.2.2.2.2.2.2.2.2.1)))), (f32.trans ((f15.trans (hM.2.2.2.2.2.2.2.2.2.2.2.2.1)))), (f33.trans ((f16.trans (hM.2.2.2.2.2.2.2.2.2.2.2.2.2.1)))), (f34.trans ((f17.trans (hM.2.2.2.2.2.2.2.2.2.2.2.2.2.2))))⟩, fun t ht => ((congrFun hg19 t).symm.trans ((va_up_ne _ _ (by omega)).trans ((congrFun hg2 t).symm.trans ((va_up_ne _ _ (by omega)).trans rfl))))⟩)
