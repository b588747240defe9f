/-! the model: its fields and arrays hold σ; r: which exception its latest call told -/
def qm_P (D : va_G) (σ : Nat → Nat → Int32) (r : Int32) (ad : Nat → Nat) (g : qw_G) : Prop :=
  g 100 = some (.inr (6, [(.int r), (.int (σ 1 0)), (.int (σ 2 0)), (.ref (ad 103)), (.ref (ad 104)), (.ref (ad 105)), (.ref (ad 106)), (.ref (ad 107)), (.ref (ad 108)), (.int (σ 9 0)), (.ref (ad 110)), (.ref (ad 111)), (.ref (ad 112)), (.ref (ad 113)), (.ref (ad 114)), (.ref (ad 115)), (.ref (ad 116)), (.ref (ad 117)), (.int (σ 18 0)), (.int (σ 19 0))])) ∧
  g 103 = some (.inl (D.1 20, 120, .inl (σ 3))) ∧
  g 104 = some (.inl (D.1 20, 120, .inl (σ 4))) ∧
  g 105 = some (.inl (D.1 20, 120, .inl (σ 5))) ∧
  g 106 = some (.inl (D.1 20, 120, .inl (σ 6))) ∧
  g 107 = some (.inl (D.1 21, 120, .inl (σ 7))) ∧
  g 108 = some (.inl (D.1 21, 3, .inl (σ 8))) ∧
  g 110 = some (.inl (D.1 20, 40, .inl (σ 10))) ∧
  g 111 = some (.inl (D.1 20, 40, .inl (σ 11))) ∧
  g 112 = some (.inl (D.1 20, 40, .inl (σ 12))) ∧
  g 113 = some (.inl (D.1 20, 40, .inl (σ 13))) ∧
  g 114 = some (.inl (D.1 21, 40, .inl (σ 14))) ∧
  g 115 = some (.inl (D.1 21, 12, .inl (σ 15))) ∧
  g 116 = some (.inl (D.1 20, 12, .inl (σ 16))) ∧
  g 117 = some (.inl (D.1 20, 12, .inl (σ 17)))
def qm_to (D : va_G) (ad : Nat → Nat) (g : qw_G) (v : Option Value) (σ : Nat → Nat → Int32) (r : Int32) : Option Value → (Nat → Nat) → qw_G → Prop := fun v' ad' g' => v = v' ∧ ad = ad' ∧ qm_P D σ r ad g' ∧ ∀ t, (t < 100 ∨ 118 ≤ t) → g' t = g t
def sm_ref (x : Int32) : Int32 := if x = 0 then 0 else 1
theorem sm_ref0 {x : Int32} : sm_ref x = 0 ↔ x = 0 := by unfold sm_ref; by_cases h : x = 0 <;> simp [h]
theorem sm_ref01 (x : Int32) : sm_ref x = 0 ∨ sm_ref x = 1 := by unfold sm_ref; by_cases h : x = 0 <;> simp [h]
/-- the scalar k of the state -/
def sg_u (σ : Nat → Nat → Int32) (k : Nat) (v : Int32) : Nat → Nat → Int32 := va_up σ k (fun _ => v)
theorem sm_in_i {v lo hi : Int32} : sm_in v lo hi = 0 ↔ ¬ (lo.toInt ≤ v.toInt ∧ v.toInt ≤ hi.toInt) := by
  unfold sm_in
  by_cases h : v < lo <;> by_cases h2 : hi < v <;> simp [h, h2] <;> rw [Int32.lt_iff_toInt_lt] at h h2 <;> omega
theorem sg_nat {x : Int32} {n : Nat} (h : 0 ≤ x.toInt) (h2 : x.toInt < n) (hn : n < 2147483648) : ∃ j, j < n ∧ x = nI j := by
  refine ⟨x.toInt.toNat, by omega, ?_⟩
  apply Int32.toInt_inj.mp
  rw [nI_toInt (by omega)]
  omega
theorem sm_isT_ok {x : Int32} (h : ¬ sm_isT x = 0) : ∃ t, t < 3 ∧ x = nI t := by
  unfold sm_isT at h
  rw [sm_in_i] at h
  have e0 : (0 : Int32).toInt = 0 := by decide
  have e2 : (2 : Int32).toInt = 2 := by decide
  exact sg_nat (n := 3) (by omega) (by omega) (by omega)
theorem sm_isL_ok {x : Int32} (h : ¬ sm_isL x = 0) : ∃ t, t < 4 ∧ x = nI t := by
  unfold sm_isL at h
  rw [sm_in_i] at h
  have e0 : (0 : Int32).toInt = 0 := by decide
  have e2 : (3 : Int32).toInt = 3 := by decide
  exact sg_nat (n := 4) (by omega) (by omega) (by omega)
theorem sm_isE_ok {x y : Int32} (h : ¬ sm_isE x y = 0) : (∃ t, t < 5 ∧ x = nI t) ∧ ∃ t, t < 6 ∧ y = nI t := by
  unfold sm_isE at h
  by_cases h1 : sm_in x 0 4 = 0
  · exact absurd (if_pos h1) h
  · by_cases h2 : sm_in y 0 5 = 0
    · exact absurd ((if_neg h1).trans (if_pos h2)) h
    · rw [sm_in_i] at h1 h2
      have e0 : (0 : Int32).toInt = 0 := by decide
      have e2 : (4 : Int32).toInt = 4 := by decide
      have e3 : (5 : Int32).toInt = 5 := by decide
      exact ⟨sg_nat (n := 5) (by omega) (by omega) (by omega), sg_nat (n := 6) (by omega) (by omega) (by omega)⟩
theorem sg_cl {f : Nat → Int32} {x : Int32} {j : Nat} (h : x = nI j) (hj : j < 2147483648) : f j = f x.toNatClampNeg := by rw [h, nI_clamp hj]
set_option maxHeartbeats 4000000 in
set_option maxRecDepth 100000 in
theorem k_X7_thrown {l : Launch} (hst : l.stackTraces = false) (D : va_G) (ad : Nat → Nat) (g : qw_G) (σ : Nat → Nat → Int32) (r : Int32) (hM : qm_P D σ r ad g)  : qw_M l yX7_thrown [Cond.code yX7_thrown cX7_thrown 1 (some .int)] { frames := 0, cells := 0, slots := 0, locals := 0 } D ad g [(.ref (ad 100))] (qw_kp ad g (some (.int r))) 0 0 := by
  refine qw_M.of (maxL := 1) (own := RX7) (lv := [(0, (.ref (ad 100)))]) hst (by decide) rfl rfl (Nat.le_of_ble_eq_true rfl) ?_
  intro p e s m args below meth c A C hin
  refine qr_aload_n C dX7_thrown_0 rfl 0 rfl ?_
  refine gf_X7_53 C (100) (hM.1) rfl rfl dX7_thrown_1 ?_
  exact qr_iret C rfl (Nat.zero_le _) (Nat.zero_le _) dX7_thrown_4 (qw_kpn rfl)
set_option maxHeartbeats 4000000 in
set_option maxRecDepth 100000 in
theorem k_X7_refused {l : Launch} (hst : l.stackTraces = false) (D : va_G) (ad : Nat → Nat) (g : qw_G) (σ : Nat → Nat → Int32) (r : Int32) (hM : qm_P D σ r ad g) (x1 : Int32) : qw_M l yX7_refused [Cond.code yX7_refused cX7_refused 2 (some .boolean)] { frames := 0, cells := 0, slots := 0, locals := 0 } D ad g [(.ref (ad 100)), (.int x1)] (qm_to D ad g (some (.int (sm_ref x1))) σ x1) 0 0 := by
  refine qw_M.of (maxL := 2) (own := RX7) (lv := [(0, (.ref (ad 100))), (1, (.int x1))]) hst (by decide) rfl rfl (Nat.le_of_ble_eq_true rfl) ?_
  intro p e s m args below meth c A C hin
  refine qr_aload_n C dX7_refused_0 rfl 0 rfl ?_
  refine qr_iload_n C dX7_refused_1 rfl 1 rfl ?_
  refine pf_X7_53 C (100) (hM.1) rfl rfl rfl (Nat.le_of_ble_eq_true rfl) rfl dX7_refused_2 ?_
  generalize hg2 : va_up g (100) _ = g1
  have f3 : g1 (100) = some (.inr (6, [(.int x1), (.int (σ 1 0)), (.int (σ 2 0)), (.ref (ad 103)), (.ref (ad 104)), (.ref (ad 105)), (.ref (ad 106)), (.ref (ad 107)), (.ref (ad 108)), (.int (σ 9 0)), (.ref (ad 110)), (.ref (ad 111)), (.ref (ad 112)), (.ref (ad 113)), (.ref (ad 114)), (.ref (ad 115)), (.ref (ad 116)), (.ref (ad 117)), (.int (σ 18 0)), (.int (σ 19 0))])) := by rw [← hg2]; exact va_up_self _ _ _
  have f4 : g1 (103) = g (103) := by rw [← hg2]; exact va_up_ne _ _ (by omega)
  have f5 : g1 (104) = g (104) := by rw [← hg2]; exact va_up_ne _ _ (by omega)
  have f6 : g1 (105) = g (105) := by rw [← hg2]; exact va_up_ne _ _ (by omega)
  have f7 : g1 (106) = g (106) := by rw [← hg2]; exact va_up_ne _ _ (by omega)
  have f8 : g1 (107) = g (107) := by rw [← hg2]; exact va_up_ne _ _ (by omega)
  have f9 : g1 (108) = g (108) := by rw [← hg2]; exact va_up_ne _ _ (by omega)
  have f10 : g1 (110) = g (110) := by rw [← hg2]; exact va_up_ne _ _ (by omega)
  have f11 : g1 (111) = g (111) := by rw [← hg2]; exact va_up_ne _ _ (by omega)
  have f12 : g1 (112) = g (112) := by rw [← hg2]; exact va_up_ne _ _ (by omega)
  have f13 : g1 (113) = g (113) := by rw [← hg2]; exact va_up_ne _ _ (by omega)
  have f14 : g1 (114) = g (114) := by rw [← hg2]; exact va_up_ne _ _ (by omega)
  have f15 : g1 (115) = g (115) := by rw [← hg2]; exact va_up_ne _ _ (by omega)
  have f16 : g1 (116) = g (116) := by rw [← hg2]; exact va_up_ne _ _ (by omega)
  have f17 : g1 (117) = g (117) := by rw [← hg2]; exact va_up_ne _ _ (by omega)
  refine qr_iload_n C dX7_refused_5 rfl 1 rfl ?_
  refine qr_if_eq C 13 dX7_refused_6 (by decide) (fun c18 => ?_) (fun c18 => ?_)
  · skip
    refine qr_iconst (v := 0) C dX7_refused_13 (by decide) ?_
    exact qr_zret C rfl (by decide) (Nat.zero_le _) (Nat.zero_le _) dX7_refused_14 (⟨congrArg (fun z => some (Value.int z)) (by simp only [sm_ref, if_pos c18]), rfl, ⟨f3, (f4.trans (hM.2.1)), (f5.trans (hM.2.2.1)), (f6.trans (hM.2.2.2.1)), (f7.trans (hM.2.2.2.2.1)), (f8.trans (hM.2.2.2.2.2.1)), (f9.trans (hM.2.2.2.2.2.2.1)), (f10.trans (hM.2.2.2.2.2.2.2.1)), (f11.trans (hM.2.2.2.2.2.2.2.2.1)), (f12.trans (hM.2.2.2.2.2.2.2.2.2.1)), (f13.trans (hM.2.2.2.2.2.2.2.2.2.2.1)), (f14.trans (hM.2.2.2.2.2.2.2.2.2.2.2.1)), (f15.trans (hM.2.2.2.2.2.2.2.2.2.2.2.2.1)), (f16.trans (hM.2.2.2.2.2.2.2.2.2.2.2.2.2.1)), (f17.trans (hM.2.2.2.2.2.2.2.2.2.2.2.2.2.2))⟩, fun t ht => ((congrFun hg2 t).symm.trans ((va_up_ne _ _ (by omega)).trans rfl))⟩)
  · skip
    refine qr_iconst (v := 1) C dX7_refused_9 (by decide) ?_
    refine qr_goto (tgt := 14) C dX7_refused_10 (by decide) ?_
    exact qr_zret C rfl (by decide) (Nat.zero_le _) (Nat.zero_le _) dX7_refused_14 (⟨congrArg (fun z => some (Value.int z)) (by simp only [sm_ref, if_neg c18]), rfl, ⟨f3, (f4.trans (hM.2.1)), (f5.trans (hM.2.2.1)), (f6.trans (hM.2.2.2.1)), (f7.trans (hM.2.2.2.2.1)), (f8.trans (hM.2.2.2.2.2.1)), (f9.trans (hM.2.2.2.2.2.2.1)), (f10.trans (hM.2.2.2.2.2.2.2.1)), (f11.trans (hM.2.2.2.2.2.2.2.2.1)), (f12.trans (hM.2.2.2.2.2.2.2.2.2.1)), (f13.trans (hM.2.2.2.2.2.2.2.2.2.2.1)), (f14.trans (hM.2.2.2.2.2.2.2.2.2.2.2.1)), (f15.trans (hM.2.2.2.2.2.2.2.2.2.2.2.2.1)), (f16.trans (hM.2.2.2.2.2.2.2.2.2.2.2.2.2.1)), (f17.trans (hM.2.2.2.2.2.2.2.2.2.2.2.2.2.2))⟩, fun t ht => ((congrFun hg2 t).symm.trans ((va_up_ne _ _ (by omega)).trans rfl))⟩)
def sm_row (σ : Nat → Nat → Int32) (x1 x2 x3 : Int32) : Int32 := if σ 8 x1.toNatClampNeg = 0 then x2 else x3
def sm_ent (σ : Nat → Nat → Int32) (x1 x2 x3 : Int32) : Int32 := if sm_isT x1 = 0 then -1 else if sm_isE (sm_row σ x1 x2 x3) (sm_row σ x1 x3 x2) = 0 then -1 else 6 * sm_row σ x1 x2 x3 + sm_row σ x1 x3 x2
set_option maxHeartbeats 4000000 in
set_option maxRecDepth 100000 in
theorem k_X7_entryOf {l : Launch} (hst : l.stackTraces = false) (D : va_G) (ad : Nat → Nat) (g : qw_G) (σ : Nat → Nat → Int32) (r : Int32) (hM : qm_P D σ r ad g) (x1 x2 x3 : Int32) : qw_M l yX7_entryOf [Cond.code yX7_entryOf cX7_entryOf 6 (some .int)] { frames := 2, cells := 0, slots := 0, locals := 60 } D ad g [(.ref (ad 100)), (.int x1), (.int x2), (.int x3)] (qw_kp ad g (some (.int (sm_ent σ x1 x2 x3)))) 0 0 := by
  refine qw_M.of (maxL := 6) (own := RX7) (lv := [(0, (.ref (ad 100))), (1, (.int x1)), (2, (.int x2)), (3, (.int x3))]) hst (by decide) rfl rfl (Nat.le_of_ble_eq_true rfl) ?_
  intro p e s m args below meth c A C hin
  refine qr_iload_n C dX7_entryOf_0 rfl 1 rfl ?_
  refine qr_callS C (na := 1) (As := [(.int x1)]) (rest := []) (k_X7_isTable hst D ad g (x1)) gi_X7_61 ⟨by decide, by decide, by decide +kernel⟩ rfl rfl (Nat.le_of_ble_eq_true rfl) rfl rfl ⟨Nat.le_of_ble_eq_true rfl, Nat.le_of_ble_eq_true rfl⟩ ⟨Nat.le_of_ble_eq_true rfl, Nat.le_of_ble_eq_true rfl⟩ dX7_entryOf_1 (fun v ad2 g2 hpo => ?_)
  obtain ⟨rfl, rfl, rfl⟩ := hpo
  refine qr_if_ne C 9 dX7_entryOf_4 (by decide) (fun c4 => ?_) (fun c4 => ?_)
  · skip
    obtain ⟨t, ht, hx1⟩ := sm_isT_ok c4
    have M9_0 : ∀ b9 : Int32, b9 = (if (σ 8 (x1.toNatClampNeg)) = 0 then x2 else x3) → qw_W p l e { frames := 2, cells := 0, slots := 0, locals := 60 } s m args below meth c D A 6 (MQ below (qw_Q (qw_kp ad g (some (.int (sm_ent σ x1 x2 x3)))) D A) args s 0 0 A) 0 0 ad g 23 [(0, (.ref (ad 100))), (1, (.int x1)), (2, (.int x2)), (3, (.int x3))] [(.int b9)] := by
      intro b9 hb9
      have hb9 : b9 = sm_row σ x1 x2 x3 := hb9.trans (rfl)
      refine qr_istore (lv' := [(4, (.int b9)), (0, (.ref (ad 100))), (1, (.int x1)), (2, (.int x2)), (3, (.int x3))]) C dX7_entryOf_23 (by decide) rfl ?_
      have M25_1 : ∀ b25 : Int32, b25 = (if (σ 8 (x1.toNatClampNeg)) = 0 then x3 else x2) → qw_W p l e { frames := 2, cells := 0, slots := 0, locals := 60 } s m args below meth c D A 6 (MQ below (qw_Q (qw_kp ad g (some (.int (sm_ent σ x1 x2 x3)))) D A) args s 0 0 A) 0 0 ad g 39 [(4, (.int b9)), (0, (.ref (ad 100))), (1, (.int x1)), (2, (.int x2)), (3, (.int x3))] [(.int b25)] := by
        intro b25 hb25
        have hb25 : b25 = sm_row σ x1 x3 x2 := hb25.trans (rfl)
        refine qr_istore (lv' := [(5, (.int b25)), (4, (.int b9)), (0, (.ref (ad 100))), (1, (.int x1)), (2, (.int x2)), (3, (.int x3))]) C dX7_entryOf_39 (by decide) rfl ?_
        refine qr_iload C dX7_entryOf_41 1 rfl ?_
        refine qr_iload C dX7_entryOf_43 0 rfl ?_
        refine qr_callS C (na := 2) (As := [(.int b9), (.int b25)]) (rest := []) (k_X7_isEntry hst D ad g (b9) (b25)) gi_X7_65 ⟨by decide, by decide, by decide +kernel⟩ rfl rfl (Nat.le_of_ble_eq_true rfl) rfl rfl ⟨Nat.le_of_ble_eq_true rfl, Nat.le_of_ble_eq_true rfl⟩ ⟨Nat.le_of_ble_eq_true rfl, Nat.le_of_ble_eq_true rfl⟩ dX7_entryOf_45 (fun v ad2 g2 hpo => ?_)
        obtain ⟨rfl, rfl, rfl⟩ := hpo
        refine qr_if_eq C 62 dX7_entryOf_48 (by decide) (fun c3 => ?_) (fun c3 => ?_)
        · skip
          refine qr_iconst (v := -1) C dX7_entryOf_62 (by decide) ?_
          exact qr_iret C rfl (Nat.zero_le _) (Nat.zero_le _) dX7_entryOf_63 (qw_kpn (by subst hb9; subst hb25; exact (if_neg c4).trans (if_pos c3)))
        · skip
          refine qr_bipush (v := 6) C dX7_entryOf_51 (by decide) ?_
          refine qr_iload C dX7_entryOf_53 1 rfl ?_
          refine qr_imul C dX7_entryOf_55 ?_
          refine qr_iload C dX7_entryOf_56 0 rfl ?_
          refine qr_iadd C dX7_entryOf_58 ?_
          refine qr_goto (tgt := 63) C dX7_entryOf_59 (by decide) ?_
          exact qr_iret C rfl (Nat.zero_le _) (Nat.zero_le _) dX7_entryOf_63 (qw_kpn (by subst hb9; subst hb25; exact (if_neg c4).trans (if_neg c3)))
      refine qr_aload_n C dX7_entryOf_25 rfl 1 rfl ?_
      refine gf_X7_26 C (100) (hM.1) rfl rfl dX7_entryOf_26 ?_
      refine qr_iload_n C dX7_entryOf_29 rfl 2 rfl ?_
      refine qr_zald C (x := (σ 8 (x1.toNatClampNeg))) (108) (hM.2.2.2.2.2.2.1) rfl (j := t) hx1 (by omega) rfl (sg_cl hx1 (by omega)) dX7_entryOf_30 ?_
      refine qr_if_eq C 38 dX7_entryOf_31 (by decide) (fun c4 => ?_) (fun c4 => ?_)
      · skip
        refine qr_iload_n C dX7_entryOf_38 rfl 4 rfl ?_
        exact M25_1 _ (by simp only [if_pos c4])
      · skip
        refine qr_iload_n C dX7_entryOf_34 rfl 3 rfl ?_
        refine qr_goto (tgt := 39) C dX7_entryOf_35 (by decide) ?_
        exact M25_1 _ (by simp only [if_neg c4])
    refine qr_aload_n C dX7_entryOf_9 rfl 0 rfl ?_
    refine gf_X7_26 C (100) (hM.1) rfl rfl dX7_entryOf_10 ?_
    refine qr_iload_n C dX7_entryOf_13 rfl 1 rfl ?_
    refine qr_zald C (x := (σ 8 (x1.toNatClampNeg))) (108) (hM.2.2.2.2.2.2.1) rfl (j := t) hx1 (by omega) rfl (sg_cl hx1 (by omega)) dX7_entryOf_14 ?_
    refine qr_if_eq C 22 dX7_entryOf_15 (by decide) (fun c5 => ?_) (fun c5 => ?_)
    · skip
      refine qr_iload_n C dX7_entryOf_22 rfl 2 rfl ?_
      exact M9_0 _ (by simp only [if_pos c5])
    · skip
      refine qr_iload_n C dX7_entryOf_18 rfl 3 rfl ?_
      refine qr_goto (tgt := 23) C dX7_entryOf_19 (by decide) ?_
      exact M9_0 _ (by simp only [if_neg c5])
  · skip
    refine qr_iconst (v := -1) C dX7_entryOf_7 (by decide) ?_
    exact qr_iret C rfl (Nat.zero_le _) (Nat.zero_le _) dX7_entryOf_8 (qw_kpn (if_pos c4))
def sm_dstep (t k : Nat) (s : Int32 × (Nat → Int32)) : Int32 × (Nat → Int32) := (s.1 + (if s.2 (4 * t + k) = 0 then 0 else 1), upd s.2 (4 * t + k) 0)
def sm_drop (t : Nat) (A : Nat → Int32) (L : Nat) : Int32 × (Nat → Int32) := sg_it (sm_dstep t) (0, A) L
def sm_dropS (σ : Nat → Nat → Int32) (t L : Nat) : Nat → Nat → Int32 := sg_u (va_up σ 15 (sm_drop t (σ 15) L).2) 18 (σ 18 0 + (sm_drop t (σ 15) L).1)
theorem sg_ix {a b c d : Nat} : nI 4 * nI a + nI b = nI (4 * a + b) := by rw [pk_mul, nI_add]
set_option maxHeartbeats 4000000 in
set_option maxRecDepth 100000 in
theorem k_X7_drop {l : Launch} (hst : l.stackTraces = false) (D : va_G) (ad : Nat → Nat) (g : qw_G) (σ : Nat → Nat → Int32) (r : Int32) (hM : qm_P D σ r ad g) (x1 x2 : Int32) (t L : Nat) (ht : t < 3) (hL : L < 5) (hx1 : x1 = nI t) (hx2 : x2 = nI L) : qw_M l yX7_drop [Cond.code yX7_drop cX7_drop 5 (some .int)] { frames := 0, cells := 0, slots := 0, locals := 0 } D ad g [(.ref (ad 100)), (.int x1), (.int x2)] (qm_to D ad g (some (.int (sm_drop t (σ 15) L).1)) (sm_dropS σ t L) r) 0 0 := by
  refine qw_M.of (maxL := 5) (own := RX7) (lv := [(0, (.ref (ad 100))), (1, (.int x1)), (2, (.int x2))]) hst (by decide) rfl rfl (Nat.le_of_ble_eq_true rfl) ?_
  intro p e s m args below meth c A C hin
  refine qr_iconst (v := 0) C dX7_drop_0 (by decide) ?_
  refine qr_istore_n (lv' := [(3, (.int (0 : Int32))), (0, (.ref (ad 100))), (1, (.int x1)), (2, (.int x2))]) C dX7_drop_1 rfl (by decide) rfl ?_
  refine qr_iconst (v := 0) C dX7_drop_2 (by decide) ?_
  refine qr_istore (lv' := [(4, (.int (0 : Int32))), (3, (.int (0 : Int32))), (0, (.ref (ad 100))), (1, (.int x1)), (2, (.int x2))]) C dX7_drop_3 (by decide) rfl ?_
  have L5 : ∀ (j5 i5 : Nat) (gl5 : qw_G) (nn : Int32), i5 + j5 = L → nn = (sm_drop t (σ 15) i5).1 → (qm_P D (va_up σ 15 (sm_drop t (σ 15) i5).2) r ad gl5 ∧ ∀ t, (t < 100 ∨ 118 ≤ t) → gl5 t = g t) → qw_W p l e { frames := 0, cells := 0, slots := 0, locals := 0 } s m args below meth c D A 5 (MQ below (qw_Q (qm_to D ad g (some (.int (sm_drop t (σ 15) L).1)) (sm_dropS σ t L) r) D A) args s 0 0 A) 0 0 ad gl5 5 [(0, (.ref (ad 100))), (1, (.int x1)), (2, (.int x2)), (3, (.int nn)), (4, (.int (nI i5)))] [] := by
    intro j5
    induction j5 with
    | zero =>
      intro i5 gl5 nn hi5 hnn hw5
      obtain rfl : L = i5 := by omega
      obtain ⟨hM5, hfr5⟩ := hw5
      refine qr_iload C dX7_drop_5 4 rfl ?_
      refine qr_iload_n C dX7_drop_7 rfl 2 rfl ?_
      refine qr_icmp_ge_t C 51 dX7_drop_8 (by decide) ((sg_le (L) (L) hx2 rfl (by omega) (by omega)).mpr (Nat.le_refl _)) ?_
      refine qr_aload_n C dX7_drop_51 rfl 0 rfl ?_
      refine qr_dup C dX7_drop_52 rfl ?_
      refine gf_X7_69 C (100) (hM5.1) rfl rfl dX7_drop_53 ?_
      refine qr_iload_n C dX7_drop_56 rfl 3 rfl ?_
      refine qr_iadd C dX7_drop_57 ?_
      refine pf_X7_69 C (100) (hM5.1) rfl rfl rfl (Nat.le_of_ble_eq_true rfl) rfl dX7_drop_58 ?_
      generalize hg2 : va_up gl5 (100) _ = g1
      have f3 : g1 (100) = some (.inr (6, [(.int r), (.int ((va_up σ 15 (sm_drop t (σ 15) L).2) 1 0)), (.int ((va_up σ 15 (sm_drop t (σ 15) L).2) 2 0)), (.ref (ad 103)), (.ref (ad 104)), (.ref (ad 105)), (.ref (ad 106)), (.ref (ad 107)), (.ref (ad 108)), (.int ((va_up σ 15 (sm_drop t (σ 15) L).2) 9 0)), (.ref (ad 110)), (.ref (ad 111)), (.ref (ad 112)), (.ref (ad 113)), (.ref (ad 114)), (.ref (ad 115)), (.ref (ad 116)), (.ref (ad 117)), (.int (((va_up σ 15 (sm_drop t (σ 15) L).2) 18 0) + nn)), (.int ((va_up σ 15 (sm_drop t (σ 15) L).2) 19 0))])) := by rw [← hg2]; exact va_up_self _ _ _
      have f4 : g1 (103) = gl5 (103) := by rw [← hg2]; exact va_up_ne _ _ (by omega)
      have f5 : g1 (104) = gl5 (104) := by rw [← hg2]; exact va_up_ne _ _ (by omega)
      have f6 : g1 (105) = gl5 (105) := by rw [← hg2]; exact va_up_ne _ _ (by omega)
      have f7 : g1 (106) = gl5 (106) := by rw [← hg2]; exact va_up_ne _ _ (by omega)
      have f8 : g1 (107) = gl5 (107) := by rw [← hg2]; exact va_up_ne _ _ (by omega)
      have f9 : g1 (108) = gl5 (108) := by rw [← hg2]; exact va_up_ne _ _ (by omega)
      have f10 : g1 (110) = gl5 (110) := by rw [← hg2]; exact va_up_ne _ _ (by omega)
      have f11 : g1 (111) = gl5 (111) := by rw [← hg2]; exact va_up_ne _ _ (by omega)
      have f12 : g1 (112) = gl5 (112) := by rw [← hg2]; exact va_up_ne _ _ (by omega)
      have f13 : g1 (113) = gl5 (113) := by rw [← hg2]; exact va_up_ne _ _ (by omega)
      have f14 : g1 (114) = gl5 (114) := by rw [← hg2]; exact va_up_ne _ _ (by omega)
      have f15 : g1 (115) = gl5 (115) := by rw [← hg2]; exact va_up_ne _ _ (by omega)
      have f16 : g1 (116) = gl5 (116) := by rw [← hg2]; exact va_up_ne _ _ (by omega)
      have f17 : g1 (117) = gl5 (117) := by rw [← hg2]; exact va_up_ne _ _ (by omega)
      refine qr_iload_n C dX7_drop_61 rfl 3 rfl ?_
      exact qr_iret C rfl (Nat.zero_le _) (Nat.zero_le _) dX7_drop_62 ((by subst hnn; exact ⟨rfl, rfl, ⟨f3, (f4.trans (hM5.2.1)), (f5.trans (hM5.2.2.1)), (f6.trans (hM5.2.2.2.1)), (f7.trans (hM5.2.2.2.2.1)), (f8.trans (hM5.2.2.2.2.2.1)), (f9.trans (hM5.2.2.2.2.2.2.1)), (f10.trans (hM5.2.2.2.2.2.2.2.1)), (f11.trans (hM5.2.2.2.2.2.2.2.2.1)), (f12.trans (hM5.2.2.2.2.2.2.2.2.2.1)), (f13.trans (hM5.2.2.2.2.2.2.2.2.2.2.1)), (f14.trans (hM5.2.2.2.2.2.2.2.2.2.2.2.1)), (f15.trans (hM5.2.2.2.2.2.2.2.2.2.2.2.2.1)), (f16.trans (hM5.2.2.2.2.2.2.2.2.2.2.2.2.2.1)), (f17.trans (hM5.2.2.2.2.2.2.2.2.2.2.2.2.2.2))⟩, fun t ht => ((congrFun hg2 t).symm.trans ((va_up_ne _ _ (by omega)).trans ((hfr5 t ht).trans rfl)))⟩))
    | succ j5 ih5 =>
      intro i5 gl5 nn hi5 hnn hw5
      obtain ⟨hM5, hfr5⟩ := hw5
      refine qr_iload C dX7_drop_5 4 rfl ?_
      refine qr_iload_n C dX7_drop_7 rfl 2 rfl ?_
      refine qr_icmp_ge_f C 51 dX7_drop_8 (by decide) (fun z => absurd ((sg_le (L) (i5) hx2 rfl (by omega) (by omega)).mp z) (by omega)) ?_
      refine qr_iload_n C dX7_drop_11 rfl 3 rfl ?_
      have M12_17 : ∀ b12 : Int32, b12 = (if (((va_up σ 15 (sm_drop t (σ 15) i5).2) 15) (4 * t + i5)) = 0 then (0 : Int32) else (1 : Int32)) → qw_W p l e { frames := 0, cells := 0, slots := 0, locals := 0 } s m args below meth c D A 5 (MQ below (qw_Q (qm_to D ad g (some (.int (sm_drop t (σ 15) L).1)) (sm_dropS σ t L) r) D A) args s 0 0 A) 0 0 ad gl5 31 [(0, (.ref (ad 100))), (1, (.int x1)), (2, (.int x2)), (3, (.int nn)), (4, (.int (nI i5)))] [(.int b12), (.int nn)] := by
        intro b12 hb12
        refine qr_iadd C dX7_drop_31 ?_
        refine qr_istore_n (lv' := [(3, (.int (nn + b12))), (0, (.ref (ad 100))), (1, (.int x1)), (2, (.int x2)), (4, (.int (nI i5)))]) C dX7_drop_32 rfl (by decide) rfl ?_
        refine qr_aload_n C dX7_drop_33 rfl 1 rfl ?_
        refine gf_X7_44 C (100) (hM5.1) rfl rfl dX7_drop_34 ?_
        refine qr_iconst (v := 4) C dX7_drop_37 (by decide) ?_
        refine qr_iload_n C dX7_drop_38 rfl 2 rfl ?_
        refine qr_imul C dX7_drop_39 ?_
        refine qr_iload C dX7_drop_40 4 rfl ?_
        refine qr_iadd C dX7_drop_42 ?_
        refine qr_iconst (v := 0) C dX7_drop_43 (by decide) ?_
        refine qr_zast C (115) (hM5.2.2.2.2.2.2.2.2.2.2.2.2.1) rfl (j := 4 * t + i5) (by rw [hx1, show (4 : Int32) = nI 4 from rfl, pk_mul, nI_add]) (by omega) rfl (Or.inl rfl) dX7_drop_44 ?_
        generalize hg20 : va_up gl5 (115) _ = g19
        have f21 : g19 (115) = some (.inl (D.1 21, 12, .inl (upd ((va_up σ 15 (sm_drop t (σ 15) i5).2) 15) (4 * t + i5) (0 : Int32)))) := by rw [← hg20]; exact va_up_self _ _ _
        have f22 : g19 (100) = gl5 (100) := by rw [← hg20]; exact va_up_ne _ _ (by omega)
        have f23 : g19 (103) = gl5 (103) := by rw [← hg20]; exact va_up_ne _ _ (by omega)
        have f24 : g19 (104) = gl5 (104) := by rw [← hg20]; exact va_up_ne _ _ (by omega)
        have f25 : g19 (105) = gl5 (105) := by rw [← hg20]; exact va_up_ne _ _ (by omega)
        have f26 : g19 (106) = gl5 (106) := by rw [← hg20]; exact va_up_ne _ _ (by omega)
        have f27 : g19 (107) = gl5 (107) := by rw [← hg20]; exact va_up_ne _ _ (by omega)
        have f28 : g19 (108) = gl5 (108) := by rw [← hg20]; exact va_up_ne _ _ (by omega)
        have f29 : g19 (110) = gl5 (110) := by rw [← hg20]; exact va_up_ne _ _ (by omega)
        have f30 : g19 (111) = gl5 (111) := by rw [← hg20]; exact va_up_ne _ _ (by omega)
        have f31 : g19 (112) = gl5 (112) := by rw [← hg20]; exact va_up_ne _ _ (by omega)
        have f32 : g19 (113) = gl5 (113) := by rw [← hg20]; exact va_up_ne _ _ (by omega)
        have f33 : g19 (114) = gl5 (114) := by rw [← hg20]; exact va_up_ne _ _ (by omega)
        have f34 : g19 (116) = gl5 (116) := by rw [← hg20]; exact va_up_ne _ _ (by omega)
        have f35 : g19 (117) = gl5 (117) := by rw [← hg20]; exact va_up_ne _ _ (by omega)
        refine qr_iinc (v := (nI (i5 + 1))) (lv' := [(4, (.int (nI (i5 + 1)))), (3, (.int (nn + b12))), (0, (.ref (ad 100))), (1, (.int x1)), (2, (.int x2))]) C dX7_drop_45 (w := 4) rfl (nI_1 _) (by decide) rfl ?_
        refine qr_goto (tgt := 5) C dX7_drop_48 (by decide) ?_
        refine qw_pick [2, 3, 4, 1, 0] (lv' := [(0, (.ref (ad 100))), (1, (.int x1)), (2, (.int x2)), (3, (.int (nn + b12))), (4, (.int (nI (i5 + 1))))]) rfl ?_
        exact ih5 (i5 + 1) g19 (nn + b12) (by omega) (by subst hnn; subst hb12; rfl) ⟨⟨(f22.trans (hM5.1)), (f23.trans (hM5.2.1)), (f24.trans (hM5.2.2.1)), (f25.trans (hM5.2.2.2.1)), (f26.trans (hM5.2.2.2.2.1)), (f27.trans (hM5.2.2.2.2.2.1)), (f28.trans (hM5.2.2.2.2.2.2.1)), (f29.trans (hM5.2.2.2.2.2.2.2.1)), (f30.trans (hM5.2.2.2.2.2.2.2.2.1)), (f31.trans (hM5.2.2.2.2.2.2.2.2.2.1)), (f32.trans (hM5.2.2.2.2.2.2.2.2.2.2.1)), (f33.trans (hM5.2.2.2.2.2.2.2.2.2.2.2.1)), f21, (f34.trans (hM5.2.2.2.2.2.2.2.2.2.2.2.2.2.1)), (f35.trans (hM5.2.2.2.2.2.2.2.2.2.2.2.2.2.2))⟩, fun t1 ht => ((congrFun hg20 t1).symm.trans ((va_up_ne _ _ (by omega)).trans ((hfr5 t1 ht).trans rfl)))⟩
      refine qr_aload_n C dX7_drop_12 rfl 0 rfl ?_
      refine gf_X7_44 C (100) (hM5.1) rfl rfl dX7_drop_13 ?_
      refine qr_iconst (v := 4) C dX7_drop_16 (by decide) ?_
      refine qr_iload_n C dX7_drop_17 rfl 1 rfl ?_
      refine qr_imul C dX7_drop_18 ?_
      refine qr_iload C dX7_drop_19 4 rfl ?_
      refine qr_iadd C dX7_drop_21 ?_
      refine qr_zald C (x := (((va_up σ 15 (sm_drop t (σ 15) i5).2) 15) (4 * t + i5))) (115) (hM5.2.2.2.2.2.2.2.2.2.2.2.2.1) rfl (j := 4 * t + i5) (by rw [hx1, show (4 : Int32) = nI 4 from rfl, pk_mul, nI_add]) (by omega) rfl rfl dX7_drop_22 ?_
      refine qr_if_eq C 30 dX7_drop_23 (by decide) (fun c36 => ?_) (fun c36 => ?_)
      · skip
        refine qr_iconst (v := 0) C dX7_drop_30 (by decide) ?_
        exact M12_17 _ (by simp only [if_pos c36])
      · skip
        refine qr_iconst (v := 1) C dX7_drop_26 (by decide) ?_
        refine qr_goto (tgt := 31) C dX7_drop_27 (by decide) ?_
        exact M12_17 _ (by simp only [if_neg c36])
  refine qw_pick [2, 3, 4, 1, 0] (lv' := [(0, (.ref (ad 100))), (1, (.int x1)), (2, (.int x2)), (3, (.int (0 : Int32))), (4, (.int (0 : Int32)))]) rfl ?_
  exact L5 (L) 0 g (0 : Int32) (by omega) rfl ⟨hM, fun _ _ => rfl⟩
def sm_isS (σ : Nat → Nat → Int32) (x1 x2 : Int32) (k : Nat) : Int32 := (if ((σ 3) (k)) = x1 then (if ((σ 7) (k)) = 0 then (if (x2 / (6 : Int32)) = (4 : Int32) then (if (x2 - x2 / (6 : Int32) * (6 : Int32)) = (5 : Int32) then (1 : Int32) else (if ((σ 5) (k)) = (x2 - x2 / (6 : Int32) * (6 : Int32)) then (1 : Int32) else (0 : Int32))) else (if ((σ 4) (k)) = (x2 / (6 : Int32)) then (if (x2 - x2 / (6 : Int32) * (6 : Int32)) = (5 : Int32) then (1 : Int32) else (if ((σ 5) (k)) = (x2 - x2 / (6 : Int32) * (6 : Int32)) then (1 : Int32) else (0 : Int32))) else (0 : Int32))) else (0 : Int32)) else (0 : Int32))
def sm_sumO (σ : Nat → Nat → Int32) (x1 x2 : Int32) (n : Nat) : Int32 := sg_it (fun k s => s + (if sm_isS σ x1 x2 k = 0 then 0 else σ 6 k)) 0 n
set_option maxHeartbeats 4000000 in
set_option maxRecDepth 100000 in
theorem k_X7_sumOf {l : Launch} (hst : l.stackTraces = false) (D : va_G) (ad : Nat → Nat) (g : qw_G) (σ : Nat → Nat → Int32) (r : Int32) (hM : qm_P D σ r ad g) (n : Nat) (hn : σ 2 0 = nI n) (hn2 : n ≤ 120) (x1 x2 : Int32) : qw_M l yX7_sumOf [Cond.code yX7_sumOf cX7_sumOf 8 (some .int)] { frames := 0, cells := 0, slots := 0, locals := 0 } D ad g [(.ref (ad 100)), (.int x1), (.int x2)] (qw_kp ad g (some (.int (sm_sumO σ x1 x2 n)))) 0 0 := by
  refine qw_M.of (maxL := 8) (own := RX7) (lv := [(0, (.ref (ad 100))), (1, (.int x1)), (2, (.int x2))]) hst (by decide) rfl rfl (Nat.le_of_ble_eq_true rfl) ?_
  intro p e s m args below meth c A C hin
  refine qr_iload_n C dX7_sumOf_0 rfl 2 rfl ?_
  refine qr_bipush (v := 6) C dX7_sumOf_1 (by decide) ?_
  refine qr_idiv C dX7_sumOf_3 (by decide) ?_
  refine qr_istore_n (lv' := [(3, (.int (x2 / (6 : Int32)))), (0, (.ref (ad 100))), (1, (.int x1)), (2, (.int x2))]) C dX7_sumOf_4 rfl (by decide) rfl ?_
  refine qr_iload_n C dX7_sumOf_5 rfl 3 rfl ?_
  refine qr_bipush (v := 6) C dX7_sumOf_6 (by decide) ?_
  refine qr_irem C dX7_sumOf_8 (by decide) ?_
  refine qr_istore (lv' := [(4, (.int (x2 - x2 / (6 : Int32) * (6 : Int32)))), (3, (.int (x2 / (6 : Int32)))), (0, (.ref (ad 100))), (1, (.int x1)), (2, (.int x2))]) C dX7_sumOf_9 (by decide) rfl ?_
  refine qr_iconst (v := 0) C dX7_sumOf_11 (by decide) ?_
  refine qr_istore (lv' := [(5, (.int (0 : Int32))), (4, (.int (x2 - x2 / (6 : Int32) * (6 : Int32)))), (3, (.int (x2 / (6 : Int32)))), (0, (.ref (ad 100))), (1, (.int x1)), (2, (.int x2))]) C dX7_sumOf_12 (by decide) rfl ?_
  refine qr_iconst (v := 0) C dX7_sumOf_14 (by decide) ?_
  refine qr_istore (lv' := [(6, (.int (0 : Int32))), (5, (.int (0 : Int32))), (4, (.int (x2 - x2 / (6 : Int32) * (6 : Int32)))), (3, (.int (x2 / (6 : Int32)))), (0, (.ref (ad 100))), (1, (.int x1)), (2, (.int x2))]) C dX7_sumOf_15 (by decide) rfl ?_
  have L17 : ∀ (j17 i17 : Nat) (ac : Int32), i17 + j17 = n → ac = sm_sumO σ x1 x2 i17 → qw_W p l e { frames := 0, cells := 0, slots := 0, locals := 0 } s m args below meth c D A 8 (MQ below (qw_Q (qw_kp ad g (some (.int (sm_sumO σ x1 x2 n)))) D A) args s 0 0 A) 0 0 ad g 17 [(0, (.ref (ad 100))), (1, (.int x1)), (2, (.int x2)), (3, (.int (x2 / (6 : Int32)))), (4, (.int (x2 - x2 / (6 : Int32) * (6 : Int32)))), (5, (.int ac)), (6, (.int (nI i17)))] [] := by
    intro j17
    induction j17 with
    | zero =>
      intro i17 ac hi17 hac
      obtain rfl : n = i17 := by omega
      refine qr_iload C dX7_sumOf_17 6 rfl ?_
      refine qr_aload_n C dX7_sumOf_19 rfl 0 rfl ?_
      refine gf_X7_72 C (100) (hM.1) rfl rfl dX7_sumOf_20 ?_
      refine qr_icmp_ge_t C 115 dX7_sumOf_23 (by decide) ((sg_le (n) (n) hn rfl (by omega) (by omega)).mpr (Nat.le_refl _)) ?_
      refine qr_iload C dX7_sumOf_115 5 rfl ?_
      exact qr_iret C rfl (Nat.zero_le _) (Nat.zero_le _) dX7_sumOf_117 (qw_kpn hac.symm)
    | succ j17 ih17 =>
      intro i17 ac hi17 hac
      refine qr_iload C dX7_sumOf_17 6 rfl ?_
      refine qr_aload_n C dX7_sumOf_19 rfl 0 rfl ?_
      refine gf_X7_72 C (100) (hM.1) rfl rfl dX7_sumOf_20 ?_
      refine qr_icmp_ge_f C 115 dX7_sumOf_23 (by decide) (fun z => absurd ((sg_le (n) (i17) hn rfl (by omega) (by omega)).mp z) (by omega)) ?_
      have M26_0 : ∀ bs : Int32, bs = (if ((σ 3) (i17)) = x1 then (if ((σ 7) (i17)) = 0 then (if (x2 / (6 : Int32)) = (4 : Int32) then (if (x2 - x2 / (6 : Int32) * (6 : Int32)) = (5 : Int32) then (1 : Int32) else (if ((σ 5) (i17)) = (x2 - x2 / (6 : Int32) * (6 : Int32)) then (1 : Int32) else (0 : Int32))) else (if ((σ 4) (i17)) = (x2 / (6 : Int32)) then (if (x2 - x2 / (6 : Int32) * (6 : Int32)) = (5 : Int32) then (1 : Int32) else (if ((σ 5) (i17)) = (x2 - x2 / (6 : Int32) * (6 : Int32)) then (1 : Int32) else (0 : Int32))) else (0 : Int32))) else (0 : Int32)) else (0 : Int32)) → qw_W p l e { frames := 0, cells := 0, slots := 0, locals := 0 } s m args below meth c D A 8 (MQ below (qw_Q (qw_kp ad g (some (.int (sm_sumO σ x1 x2 n)))) D A) args s 0 0 A) 0 0 ad g 86 [(0, (.ref (ad 100))), (1, (.int x1)), (2, (.int x2)), (3, (.int (x2 / (6 : Int32)))), (4, (.int (x2 - x2 / (6 : Int32) * (6 : Int32)))), (5, (.int ac)), (6, (.int (nI i17)))] [(.int bs)] := by
        intro bs hbs
        refine qr_istore (lv' := [(7, (.int bs)), (0, (.ref (ad 100))), (1, (.int x1)), (2, (.int x2)), (3, (.int (x2 / (6 : Int32)))), (4, (.int (x2 - x2 / (6 : Int32) * (6 : Int32)))), (5, (.int ac)), (6, (.int (nI i17)))]) C dX7_sumOf_86 (by decide) rfl ?_
        refine qr_iload C dX7_sumOf_88 6 rfl ?_
        have M90_1 : ∀ bt : Int32, bt = (if bs = 0 then (0 : Int32) else ((σ 6) (i17))) → qw_W p l e { frames := 0, cells := 0, slots := 0, locals := 0 } s m args below meth c D A 8 (MQ below (qw_Q (qw_kp ad g (some (.int (sm_sumO σ x1 x2 n)))) D A) args s 0 0 A) 0 0 ad g 106 [(7, (.int bs)), (0, (.ref (ad 100))), (1, (.int x1)), (2, (.int x2)), (3, (.int (x2 / (6 : Int32)))), (4, (.int (x2 - x2 / (6 : Int32) * (6 : Int32)))), (5, (.int ac)), (6, (.int (nI i17)))] [(.int bt), (.int ac)] := by
          intro bt hbt
          refine qr_iadd C dX7_sumOf_106 ?_
          refine qr_istore (lv' := [(5, (.int (ac + bt))), (7, (.int bs)), (0, (.ref (ad 100))), (1, (.int x1)), (2, (.int x2)), (3, (.int (x2 / (6 : Int32)))), (4, (.int (x2 - x2 / (6 : Int32) * (6 : Int32)))), (6, (.int (nI i17)))]) C dX7_sumOf_107 (by decide) rfl ?_
          refine qr_iinc (v := (nI (i17 + 1))) (lv' := [(6, (.int (nI (i17 + 1)))), (5, (.int (ac + bt))), (7, (.int bs)), (0, (.ref (ad 100))), (1, (.int x1)), (2, (.int x2)), (3, (.int (x2 / (6 : Int32)))), (4, (.int (x2 - x2 / (6 : Int32) * (6 : Int32))))]) C dX7_sumOf_109 (w := 7) rfl (nI_1 _) (by decide) rfl ?_
          refine qr_goto (tgt := 17) C dX7_sumOf_112 (by decide) ?_
          refine qw_pick [3, 4, 5, 6, 7, 1, 0] (lv' := [(0, (.ref (ad 100))), (1, (.int x1)), (2, (.int x2)), (3, (.int (x2 / (6 : Int32)))), (4, (.int (x2 - x2 / (6 : Int32) * (6 : Int32)))), (5, (.int (ac + bt))), (6, (.int (nI (i17 + 1))))]) rfl ?_
          exact ih17 (i17 + 1) (ac + bt) (by omega) (by subst hac; subst hbt; subst hbs; rfl)
        refine qr_iload C dX7_sumOf_90 0 rfl ?_
        refine qr_if_eq C 105 dX7_sumOf_92 (by decide) (fun c3 => ?_) (fun c3 => ?_)
        · skip
          refine qr_iconst (v := 0) C dX7_sumOf_105 (by decide) ?_
          exact M90_1 _ (by simp only [if_pos c3])
        · skip
          refine qr_aload_n C dX7_sumOf_95 rfl 1 rfl ?_
          refine gf_X7_19 C (100) (hM.1) rfl rfl dX7_sumOf_96 ?_
          refine qr_iload C dX7_sumOf_99 7 rfl ?_
          refine qr_iald C (x := ((σ 6) (i17))) (106) (hM.2.2.2.2.1) rfl (j := i17) rfl (by omega) rfl rfl dX7_sumOf_101 ?_
          refine qr_goto (tgt := 106) C dX7_sumOf_102 (by decide) ?_
          exact M90_1 _ (by simp only [if_neg c3])
      refine qr_aload_n C dX7_sumOf_26 rfl 0 rfl ?_
      refine gf_X7_7 C (100) (hM.1) rfl rfl dX7_sumOf_27 ?_
      refine qr_iload C dX7_sumOf_30 6 rfl ?_
      refine qr_iald C (x := ((σ 3) (i17))) (103) (hM.2.1) rfl (j := i17) rfl (by omega) rfl rfl dX7_sumOf_32 ?_
      refine qr_iload_n C dX7_sumOf_33 rfl 1 rfl ?_
      refine qr_icmp_ne C 85 dX7_sumOf_34 (by decide) (fun c4 => ?_) (fun c4 => ?_)
      · skip
        refine qr_iconst (v := 0) C dX7_sumOf_85 (by decide) ?_
        exact M26_0 _ (by simp only [if_neg c4])
      · skip
        refine qr_aload_n C dX7_sumOf_37 rfl 0 rfl ?_
        refine gf_X7_22 C (100) (hM.1) rfl rfl dX7_sumOf_38 ?_
        refine qr_iload C dX7_sumOf_41 6 rfl ?_
        refine qr_zald C (x := ((σ 7) (i17))) (107) (hM.2.2.2.2.2.1) rfl (j := i17) rfl (by omega) rfl rfl dX7_sumOf_43 ?_
        refine qr_if_ne C 85 dX7_sumOf_44 (by decide) (fun c5 => ?_) (fun c5 => ?_)
        · skip
          refine qr_iconst (v := 0) C dX7_sumOf_85 (by decide) ?_
          exact M26_0 _ (by simp only [if_pos c4, if_neg c5])
        · skip
          refine qr_iload_n C dX7_sumOf_47 rfl 3 rfl ?_
          refine qr_iconst (v := 4) C dX7_sumOf_48 (by decide) ?_
          refine qr_icmp_eq C 63 dX7_sumOf_49 (by decide) (fun c6 => ?_) (fun c6 => ?_)
          · skip
            refine qr_iload C dX7_sumOf_63 4 rfl ?_
            refine qr_iconst (v := 5) C dX7_sumOf_65 (by decide) ?_
            refine qr_icmp_eq C 81 dX7_sumOf_66 (by decide) (fun c7 => ?_) (fun c7 => ?_)
            · skip
              refine qr_iconst (v := 1) C dX7_sumOf_81 (by decide) ?_
              refine qr_goto (tgt := 86) C dX7_sumOf_82 (by decide) ?_
              exact M26_0 _ (by simp only [if_pos c4, if_pos c5, if_pos c6, if_pos c7])
            · skip
              refine qr_aload_n C dX7_sumOf_69 rfl 0 rfl ?_
              refine gf_X7_16 C (100) (hM.1) rfl rfl dX7_sumOf_70 ?_
              refine qr_iload C dX7_sumOf_73 6 rfl ?_
              refine qr_iald C (x := ((σ 5) (i17))) (105) (hM.2.2.2.1) rfl (j := i17) rfl (by omega) rfl rfl dX7_sumOf_75 ?_
              refine qr_iload C dX7_sumOf_76 4 rfl ?_
              refine qr_icmp_ne C 85 dX7_sumOf_78 (by decide) (fun c8 => ?_) (fun c8 => ?_)
              · skip
                refine qr_iconst (v := 0) C dX7_sumOf_85 (by decide) ?_
                exact M26_0 _ (by simp only [if_pos c4, if_pos c5, if_pos c6, if_neg c7, if_neg c8])
              · skip
                refine qr_iconst (v := 1) C dX7_sumOf_81 (by decide) ?_
                refine qr_goto (tgt := 86) C dX7_sumOf_82 (by decide) ?_
                exact M26_0 _ (by simp only [if_pos c4, if_pos c5, if_pos c6, if_neg c7, if_pos c8])
          · skip
            refine qr_aload_n C dX7_sumOf_52 rfl 0 rfl ?_
            refine gf_X7_13 C (100) (hM.1) rfl rfl dX7_sumOf_53 ?_
            refine qr_iload C dX7_sumOf_56 6 rfl ?_
            refine qr_iald C (x := ((σ 4) (i17))) (104) (hM.2.2.1) rfl (j := i17) rfl (by omega) rfl rfl dX7_sumOf_58 ?_
            refine qr_iload_n C dX7_sumOf_59 rfl 3 rfl ?_
            refine qr_icmp_ne C 85 dX7_sumOf_60 (by decide) (fun c9 => ?_) (fun c9 => ?_)
            · skip
              refine qr_iconst (v := 0) C dX7_sumOf_85 (by decide) ?_
              exact M26_0 _ (by simp only [if_pos c4, if_pos c5, if_neg c6, if_neg c9])
            · skip
              refine qr_iload C dX7_sumOf_63 4 rfl ?_
              refine qr_iconst (v := 5) C dX7_sumOf_65 (by decide) ?_
              refine qr_icmp_eq C 81 dX7_sumOf_66 (by decide) (fun c10 => ?_) (fun c10 => ?_)
              · skip
                refine qr_iconst (v := 1) C dX7_sumOf_81 (by decide) ?_
                refine qr_goto (tgt := 86) C dX7_sumOf_82 (by decide) ?_
                exact M26_0 _ (by simp only [if_pos c4, if_pos c5, if_neg c6, if_pos c9, if_pos c10])
              · skip
                refine qr_aload_n C dX7_sumOf_69 rfl 0 rfl ?_
                refine gf_X7_16 C (100) (hM.1) rfl rfl dX7_sumOf_70 ?_
                refine qr_iload C dX7_sumOf_73 6 rfl ?_
                refine qr_iald C (x := ((σ 5) (i17))) (105) (hM.2.2.2.1) rfl (j := i17) rfl (by omega) rfl rfl dX7_sumOf_75 ?_
                refine qr_iload C dX7_sumOf_76 4 rfl ?_
                refine qr_icmp_ne C 85 dX7_sumOf_78 (by decide) (fun c11 => ?_) (fun c11 => ?_)
                · skip
                  refine qr_iconst (v := 0) C dX7_sumOf_85 (by decide) ?_
                  exact M26_0 _ (by simp only [if_pos c4, if_pos c5, if_neg c6, if_pos c9, if_neg c10, if_neg c11])
                · skip
                  refine qr_iconst (v := 1) C dX7_sumOf_81 (by decide) ?_
                  refine qr_goto (tgt := 86) C dX7_sumOf_82 (by decide) ?_
                  exact M26_0 _ (by simp only [if_pos c4, if_pos c5, if_neg c6, if_pos c9, if_neg c10, if_pos c11])
  refine qw_pick [4, 5, 6, 3, 2, 1, 0] (lv' := [(0, (.ref (ad 100))), (1, (.int x1)), (2, (.int x2)), (3, (.int (x2 / (6 : Int32)))), (4, (.int (x2 - x2 / (6 : Int32) * (6 : Int32)))), (5, (.int (0 : Int32))), (6, (.int (0 : Int32)))]) rfl ?_
  exact L17 (n) 0 (0 : Int32) (by omega) rfl
def sm_lasts (σ : Nat → Nat → Int32) (k : Nat) : Int32 := if σ 14 k = 0 then (if σ 13 k ≤ σ 1 0 then 0 else 1) else 0
set_option maxHeartbeats 4000000 in
set_option maxRecDepth 100000 in
theorem k_X7_lasts {l : Launch} (hst : l.stackTraces = false) (D : va_G) (ad : Nat → Nat) (g : qw_G) (σ : Nat → Nat → Int32) (r : Int32) (hM : qm_P D σ r ad g) (x1 : Int32) (k : Nat) (hk : k < 40) (hx1 : x1 = nI k) : qw_M l yX7_lasts [Cond.code yX7_lasts cX7_lasts 2 (some .boolean)] { frames := 0, cells := 0, slots := 0, locals := 0 } D ad g [(.ref (ad 100)), (.int x1)] (qw_kp ad g (some (.int (sm_lasts σ k)))) 0 0 := by
  refine qw_M.of (maxL := 2) (own := RX7) (lv := [(0, (.ref (ad 100))), (1, (.int x1))]) hst (by decide) rfl rfl (Nat.le_of_ble_eq_true rfl) ?_
  intro p e s m args below meth c A C hin
  refine qr_aload_n C dX7_lasts_0 rfl 0 rfl ?_
  refine gf_X7_41 C (100) (hM.1) rfl rfl dX7_lasts_1 ?_
  refine qr_iload_n C dX7_lasts_4 rfl 1 rfl ?_
  refine qr_zald C (x := ((σ 14) (k))) (114) (hM.2.2.2.2.2.2.2.2.2.2.2.1) rfl (j := k) hx1 (by omega) rfl rfl dX7_lasts_5 ?_
  refine qr_if_ne C 26 dX7_lasts_6 (by decide) (fun c1 => ?_) (fun c1 => ?_)
  · skip
    refine qr_iconst (v := 0) C dX7_lasts_26 (by decide) ?_
    exact qr_zret C rfl (by decide) (Nat.zero_le _) (Nat.zero_le _) dX7_lasts_27 (qw_kpn (by simp only [sm_lasts, if_neg c1]))
  · skip
    refine qr_aload_n C dX7_lasts_9 rfl 0 rfl ?_
    refine gf_X7_92 C (100) (hM.1) rfl rfl dX7_lasts_10 ?_
    refine qr_aload_n C dX7_lasts_13 rfl 0 rfl ?_
    refine gf_X7_38 C (100) (hM.1) rfl rfl dX7_lasts_14 ?_
    refine qr_iload_n C dX7_lasts_17 rfl 1 rfl ?_
    refine qr_iald C (x := ((σ 13) (k))) (113) (hM.2.2.2.2.2.2.2.2.2.2.1) rfl (j := k) hx1 (by omega) rfl rfl dX7_lasts_18 ?_
    refine qr_icmp_ge C 26 dX7_lasts_19 (by decide) (fun c2 => ?_) (fun c2 => ?_)
    · skip
      refine qr_iconst (v := 0) C dX7_lasts_26 (by decide) ?_
      exact qr_zret C rfl (by decide) (Nat.zero_le _) (Nat.zero_le _) dX7_lasts_27 (qw_kpn (by simp only [sm_lasts, if_pos c1, if_pos c2]))
    · skip
      refine qr_iconst (v := 1) C dX7_lasts_22 (by decide) ?_
      refine qr_goto (tgt := 27) C dX7_lasts_23 (by decide) ?_
      exact qr_zret C rfl (by decide) (Nat.zero_le _) (Nat.zero_le _) dX7_lasts_27 (qw_kpn (by simp only [sm_lasts, if_pos c1, if_neg c2]))
theorem sm_lasts01 (σ : Nat → Nat → Int32) (k : Nat) : sm_lasts σ k = 0 ∨ sm_lasts σ k = 1 := by unfold sm_lasts; by_cases h : σ 14 k = 0 <;> by_cases h2 : σ 13 k ≤ σ 1 0 <;> simp [h, h2]
def sm_bterm (σ : Nat → Nat → Int32) (x1 x2 : Int32) (k : Nat) : Int32 := if sm_lasts σ k = 0 then 0 else if σ 10 k = x1 then (if σ 12 k ≤ x2 then 0 else 1 <<< (σ 11 k &&& 31)) else 0
def sm_bar (σ : Nat → Nat → Int32) (x1 x2 : Int32) (n : Nat) : Int32 := sg_it (fun k s => s ||| sm_bterm σ x1 x2 k) 0 n
set_option maxHeartbeats 4000000 in
set_option maxRecDepth 100000 in
theorem k_X7_barred {l : Launch} (hst : l.stackTraces = false) (D : va_G) (ad : Nat → Nat) (g : qw_G) (σ : Nat → Nat → Int32) (r : Int32) (hM : qm_P D σ r ad g) (n : Nat) (hn : σ 9 0 = nI n) (hn2 : n ≤ 40) (x1 x2 : Int32) : qw_M l yX7_barred [Cond.code yX7_barred cX7_barred 5 (some .int)] { frames := 1, cells := 0, slots := 0, locals := 40 } D ad g [(.ref (ad 100)), (.int x1), (.int x2)] (qw_kp ad g (some (.int (sm_bar σ x1 x2 n)))) 0 0 := by
  refine qw_M.of (maxL := 5) (own := RX7) (lv := [(0, (.ref (ad 100))), (1, (.int x1)), (2, (.int x2))]) hst (by decide) rfl rfl (Nat.le_of_ble_eq_true rfl) ?_
  intro p e s m args below meth c A C hin
  refine qr_iconst (v := 0) C dX7_barred_0 (by decide) ?_
  refine qr_istore_n (lv' := [(3, (.int (0 : Int32))), (0, (.ref (ad 100))), (1, (.int x1)), (2, (.int x2))]) C dX7_barred_1 rfl (by decide) rfl ?_
  refine qr_iconst (v := 0) C dX7_barred_2 (by decide) ?_
  refine qr_istore (lv' := [(4, (.int (0 : Int32))), (3, (.int (0 : Int32))), (0, (.ref (ad 100))), (1, (.int x1)), (2, (.int x2))]) C dX7_barred_3 (by decide) rfl ?_
  have L5 : ∀ (j5 i5 : Nat) (ac : Int32), i5 + j5 = n → ac = sm_bar σ x1 x2 i5 → qw_W p l e { frames := 1, cells := 0, slots := 0, locals := 40 } s m args below meth c D A 5 (MQ below (qw_Q (qw_kp ad g (some (.int (sm_bar σ x1 x2 n)))) D A) args s 0 0 A) 0 0 ad g 5 [(0, (.ref (ad 100))), (1, (.int x1)), (2, (.int x2)), (3, (.int ac)), (4, (.int (nI i5)))] [] := by
    intro j5
    induction j5 with
    | zero =>
      intro i5 ac hi5 hac
      obtain rfl : n = i5 := by omega
      refine qr_iload C dX7_barred_5 4 rfl ?_
      refine qr_aload_n C dX7_barred_7 rfl 0 rfl ?_
      refine gf_X7_95 C (100) (hM.1) rfl rfl dX7_barred_8 ?_
      refine qr_icmp_ge_t C 67 dX7_barred_11 (by decide) ((sg_le (n) (n) hn rfl (by omega) (by omega)).mpr (Nat.le_refl _)) ?_
      refine qr_iload_n C dX7_barred_67 rfl 3 rfl ?_
      exact qr_iret C rfl (Nat.zero_le _) (Nat.zero_le _) dX7_barred_68 (qw_kpn hac.symm)
    | succ j5 ih5 =>
      intro i5 ac hi5 hac
      refine qr_iload C dX7_barred_5 4 rfl ?_
      refine qr_aload_n C dX7_barred_7 rfl 0 rfl ?_
      refine gf_X7_95 C (100) (hM.1) rfl rfl dX7_barred_8 ?_
      refine qr_icmp_ge_f C 67 dX7_barred_11 (by decide) (fun z => absurd ((sg_le (n) (i5) hn rfl (by omega) (by omega)).mp z) (by omega)) ?_
      refine qr_iload_n C dX7_barred_14 rfl 3 rfl ?_
      have M15_0 : ∀ bt : Int32, bt = (if (sm_lasts σ (i5)) = 0 then (0 : Int32) else (if ((σ 10) (i5)) = x1 then (if ((σ 12) (i5)) ≤ x2 then (0 : Int32) else ((1 : Int32) <<< (((σ 11) (i5)) &&& 31))) else (0 : Int32))) → qw_W p l e { frames := 1, cells := 0, slots := 0, locals := 40 } s m args below meth c D A 5 (MQ below (qw_Q (qw_kp ad g (some (.int (sm_bar σ x1 x2 n)))) D A) args s 0 0 A) 0 0 ad g 59 [(0, (.ref (ad 100))), (1, (.int x1)), (2, (.int x2)), (3, (.int ac)), (4, (.int (nI i5)))] [(.int bt), (.int ac)] := by
        intro bt hbt
        refine qr_ior C dX7_barred_59 ?_
        refine qr_istore_n (lv' := [(3, (.int (ac ||| bt))), (0, (.ref (ad 100))), (1, (.int x1)), (2, (.int x2)), (4, (.int (nI i5)))]) C dX7_barred_60 rfl (by decide) rfl ?_
        refine qr_iinc (v := (nI (i5 + 1))) (lv' := [(4, (.int (nI (i5 + 1)))), (3, (.int (ac ||| bt))), (0, (.ref (ad 100))), (1, (.int x1)), (2, (.int x2))]) C dX7_barred_61 (w := 4) rfl (nI_1 _) (by decide) rfl ?_
        refine qr_goto (tgt := 5) C dX7_barred_64 (by decide) ?_
        refine qw_pick [2, 3, 4, 1, 0] (lv' := [(0, (.ref (ad 100))), (1, (.int x1)), (2, (.int x2)), (3, (.int (ac ||| bt))), (4, (.int (nI (i5 + 1))))]) rfl ?_
        exact ih5 (i5 + 1) (ac ||| bt) (by omega) (by subst hac; subst hbt; rfl)
      refine qr_aload_n C dX7_barred_15 rfl 0 rfl ?_
      refine qr_iload C dX7_barred_16 4 rfl ?_
      refine qr_callV C (na := 1) (As := [(.int (nI i5))]) (rest := [(.int ac)]) (k_X7_lasts hst D ad g σ r hM (nI i5) i5 (by omega) rfl) (100) (hM.1) rfl rfl gi_X7_98 rfl ⟨by decide, by decide, by decide +kernel⟩ rfl rfl (Nat.le_of_ble_eq_true rfl) rfl rfl ⟨Nat.le_of_ble_eq_true rfl, Nat.le_of_ble_eq_true rfl⟩ ⟨Nat.le_of_ble_eq_true rfl, Nat.le_of_ble_eq_true rfl⟩ dX7_barred_18 (fun v ad2 g2 hpo => ?_)
      obtain ⟨rfl, rfl, rfl⟩ := hpo
      refine qr_if_eq C 58 dX7_barred_21 (by decide) (fun c2 => ?_) (fun c2 => ?_)
      · skip
        refine qr_iconst (v := 0) C dX7_barred_58 (by decide) ?_
        exact M15_0 _ (by simp only [if_pos c2])
      · skip
        refine qr_aload_n C dX7_barred_24 rfl 0 rfl ?_
        refine gf_X7_29 C (100) (hM.1) rfl rfl dX7_barred_25 ?_
        refine qr_iload C dX7_barred_28 4 rfl ?_
        refine qr_iald C (x := ((σ 10) (i5))) (110) (hM.2.2.2.2.2.2.2.1) rfl (j := i5) rfl (by omega) rfl rfl dX7_barred_30 ?_
        refine qr_iload_n C dX7_barred_31 rfl 1 rfl ?_
        refine qr_icmp_ne C 58 dX7_barred_32 (by decide) (fun c3 => ?_) (fun c3 => ?_)
        · skip
          refine qr_iconst (v := 0) C dX7_barred_58 (by decide) ?_
          exact M15_0 _ (by simp only [if_neg c2, if_neg c3])
        · skip
          refine qr_aload_n C dX7_barred_35 rfl 0 rfl ?_
          refine gf_X7_35 C (100) (hM.1) rfl rfl dX7_barred_36 ?_
          refine qr_iload C dX7_barred_39 4 rfl ?_
          refine qr_iald C (x := ((σ 12) (i5))) (112) (hM.2.2.2.2.2.2.2.2.2.1) rfl (j := i5) rfl (by omega) rfl rfl dX7_barred_41 ?_
          refine qr_iload_n C dX7_barred_42 rfl 2 rfl ?_
          refine qr_icmp_le C 58 dX7_barred_43 (by decide) (fun c4 => ?_) (fun c4 => ?_)
          · skip
            refine qr_iconst (v := 0) C dX7_barred_58 (by decide) ?_
            exact M15_0 _ (by simp only [if_neg c2, if_pos c3, if_pos c4])
          · skip
            refine qr_iconst (v := 1) C dX7_barred_46 (by decide) ?_
            refine qr_aload_n C dX7_barred_47 rfl 0 rfl ?_
            refine gf_X7_32 C (100) (hM.1) rfl rfl dX7_barred_48 ?_
            refine qr_iload C dX7_barred_51 4 rfl ?_
            refine qr_iald C (x := ((σ 11) (i5))) (111) (hM.2.2.2.2.2.2.2.2.1) rfl (j := i5) rfl (by omega) rfl rfl dX7_barred_53 ?_
            refine qr_ishl C dX7_barred_54 ?_
            refine qr_goto (tgt := 59) C dX7_barred_55 (by decide) ?_
            exact M15_0 _ (by simp only [if_neg c2, if_pos c3, if_neg c4])
  refine qw_pick [2, 3, 4, 1, 0] (lv' := [(0, (.ref (ad 100))), (1, (.int x1)), (2, (.int x2)), (3, (.int (0 : Int32))), (4, (.int (0 : Int32)))]) rfl ?_
  exact L5 (n) 0 (0 : Int32) (by omega) rfl
