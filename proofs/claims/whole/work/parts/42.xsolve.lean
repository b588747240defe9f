/-! the equations: written, solved, asked -/
theorem cq_first_le {p : Nat → Bool} {n : Nat} : cq_first p n ≤ n := by
  induction n with
  | zero => exact Nat.le_refl _
  | succ n ih =>
    unfold cq_first
    by_cases h : cq_first p n < n
    · rw [if_pos h]; omega
    · rw [if_neg h]
      by_cases h2 : p n = true
      · rw [if_pos h2]; omega
      · rw [if_neg h2]; omega
def cq_w (h : Int32) (r c : Nat) : Int32 := if sg_has h (nI c) = 0 then 0 else if r = c / 6 then (if nI (c % 6) = 5 then -1 else 1) else if r = 5 + c % 6 then (if nI (c / 6) = 4 then -1 else 1) else 0
theorem cq_w_step {M1 : Nat → Nat → Int32} {h : Int32} {i : Nat} (h1 : ∀ r c, r < 11 → c < i → M1 r c = cq_w h r c) (h0 : ∀ r, r < 11 → M1 r i = 0) (hi : i < 30) (hh : ¬ sg_has h (nI i) = 0) {v1 v2 : Int32} (hv1 : v1 = if nI (i % 6) = 5 then -1 else 1) (hv2 : v2 = if nI (i / 6) = 4 then -1 else 1) : ∀ r c, r < 11 → c < i + 1 → (va_up (va_up M1 (i / 6) (upd (M1 (i / 6)) i v1)) (5 + i % 6) (upd ((va_up M1 (i / 6) (upd (M1 (i / 6)) i v1)) (5 + i % 6)) i v2)) r c = cq_w h r c := by
  intro r c hr hc
  have hd : i / 6 ≠ 5 + i % 6 := by omega
  have ec : ∀ (F : Nat → Int32) (v : Int32), c ≠ i → upd F i v c = F c := fun F v e => if_neg e
  have es : ∀ (F : Nat → Int32) (v : Int32), upd F i v i = v := fun F v => if_pos rfl
  by_cases e : c = i
  · subst e
    by_cases e1 : r = 5 + c % 6
    · subst e1
      rw [va_up_self, es]
      unfold cq_w
      rw [if_neg hh, if_neg (Ne.symm hd), if_pos rfl, hv2]
    · rw [va_up_ne _ _ e1]
      by_cases e2 : r = c / 6
      · subst e2
        rw [va_up_self, es]
        unfold cq_w
        rw [if_neg hh, if_pos rfl, hv1]
      · rw [va_up_ne _ _ e2, h0 r hr]
        unfold cq_w
        rw [if_neg hh, if_neg e2, if_neg e1]
  · have hc2 : c < i := by omega
    rw [← h1 r c hr hc2]
    by_cases e1 : r = 5 + i % 6
    · subst e1
      rw [va_up_self, ec _ _ e, va_up_ne _ _ (Ne.symm hd)]
    · rw [va_up_ne _ _ e1]
      by_cases e2 : r = i / 6
      · subst e2
        rw [va_up_self, ec _ _ e]
      · rw [va_up_ne _ _ e2]
theorem cq_w_step0 {M1 : Nat → Nat → Int32} {h : Int32} {i : Nat} (h1 : ∀ r c, r < 11 → c < i → M1 r c = cq_w h r c) (h0 : ∀ r, r < 11 → M1 r i = 0) (hh : sg_has h (nI i) = 0) : ∀ r c, r < 11 → c < i + 1 → M1 r c = cq_w h r c := by
  intro r c hr hc
  by_cases e : c = i
  · subst e
    rw [h0 r hr]; unfold cq_w; rw [if_pos hh]
  · exact h1 r c hr (by omega)
theorem cq_w_zero {M1 : Nat → Nat → Int32} {h : Int32} {i j : Nat} (h1 : ∀ r c, r < 11 → c < i → M1 r c = cq_w h r c) (h0 : ∀ r, r < j → M1 r i = 0) : (∀ r c, r < 11 → c < i → (va_up M1 j (upd (M1 j) i 0)) r c = cq_w h r c) ∧ ∀ r, r < j + 1 → (va_up M1 j (upd (M1 j) i 0)) r i = 0 := by
  refine ⟨fun r c hr hc => ?_, fun r hr => ?_⟩
  · rw [← h1 r c hr hc]
    by_cases e : r = j
    · subst e; rw [va_up_self]; exact if_neg (by omega)
    · rw [va_up_ne _ _ e]
  · by_cases e : r = j
    · subst e; rw [va_up_self]; exact if_pos rfl
    · rw [va_up_ne _ _ e]; exact h0 r (by omega)
def qx_wrp (D : va_G) (ad : Nat → Nat) (g : qw_G) (nS nE : Nat) (χ : Nat → Nat → Int32) (x1 : Int32) : Option Value → (Nat → Nat) → qw_G → Prop := fun v' ad' g' => ∃ M0 : Nat → Nat → Int32, (∀ r c, r < 11 → c < 30 → M0 r c = cq_w x1 r c) ∧ none = v' ∧ ad = ad' ∧ qx_P D (qw_upN χ 60 11 M0) nS nE ad' g' ∧ ∀ t, (100 ≤ t ∧ t < 1000) → g' t = g t
set_option maxHeartbeats 4000000 in
set_option maxRecDepth 100000 in
theorem k_X2_write {l : Launch} (hst : l.stackTraces = false) (D : va_G) (ad : Nat → Nat) (g : qw_G) (χ M : Nat → Nat → Int32) (nS nE : Nat) (hX : qx_P D (qw_upN χ 60 11 M) nS nE ad g) (x1 : Int32) : qw_M l yX2_write [Cond.code yX2_write cX2_write 6 none] { frames := 1, cells := 0, slots := 0, locals := 40 } D ad g [(.ref (ad 4)), (.int x1)] (qx_wrp D ad g nS nE χ x1) 0 0 := by
  refine qw_M.of (maxL := 6) (own := RX2) (lv := [(0, (.ref (ad 4))), (1, (.int x1))]) hst (by decide) rfl rfl (Nat.le_of_ble_eq_true rfl) ?_
  intro p e s m args below meth c A C hin
  refine qr_iconst (v := 0) C dX2_write_0 (by decide) ?_
  refine qr_istore_n (lv' := [(2, (.int (0 : Int32))), (0, (.ref (ad 4))), (1, (.int x1))]) C dX2_write_1 rfl (by decide) rfl ?_
  have L2 : ∀ (j2 i2 : Nat) (gl2 : qw_G) , i2 + j2 = 30 → (∃ M0 : Nat → Nat → Int32, (∀ r c, r < 11 → c < i2 → M0 r c = cq_w x1 r c) ∧ qx_P D (qw_upN χ 60 11 M0) nS nE ad gl2 ∧ ∀ t, (100 ≤ t ∧ t < 1000) → gl2 t = g t) → qw_W p l e { frames := 1, cells := 0, slots := 0, locals := 40 } s m args below meth c D A 6 (MQ below (qw_Q (qx_wrp D ad g nS nE χ x1) D A) args s 0 0 A) 0 0 ad gl2 2 [(0, (.ref (ad 4))), (1, (.int x1)), (2, (.int (nI i2)))] [] := by
    intro j2
    induction j2 with
    | zero =>
      intro i2 gl2  hi2  hw2
      obtain rfl : 30 = i2 := by omega
      obtain ⟨M0, hM0, hX2, hfr2⟩ := hw2
      refine qr_iload_n C dX2_write_2 rfl 2 rfl ?_
      refine qr_bipush (v := 30) C dX2_write_3 (by decide) ?_
      refine qr_icmp_ge_t C 99 dX2_write_5 (by decide) ((sg_le (30) (30) rfl rfl (by omega) (by omega)).mpr (Nat.le_refl _)) ?_
      exact qr_vret C rfl (Nat.le_of_ble_eq_true rfl) (Nat.le_of_ble_eq_true rfl) dX2_write_99 (⟨M0, hM0, rfl, rfl, hX2, fun t1 ht1 => ((hfr2 t1 ht1).trans rfl)⟩)
    | succ j2 ih2 =>
      intro i2 gl2  hi2  hw2
      obtain ⟨M0, hM0, hX2, hfr2⟩ := hw2
      refine qr_iload_n C dX2_write_2 rfl 2 rfl ?_
      refine qr_bipush (v := 30) C dX2_write_3 (by decide) ?_
      refine qr_icmp_ge_f C 99 dX2_write_5 (by decide) (fun z => absurd ((sg_le (30) (i2) rfl rfl (by omega) (by omega)).mp z) (by omega)) ?_
      refine qr_iload_n C dX2_write_8 rfl 2 rfl ?_
      refine qr_bipush (v := 6) C dX2_write_9 (by decide) ?_
      refine qr_idiv C dX2_write_11 (by decide) ?_
      refine qr_istore_n (lv' := [(3, (.int ((nI i2) / (6 : Int32)))), (0, (.ref (ad 4))), (1, (.int x1)), (2, (.int (nI i2)))]) C dX2_write_12 rfl (by decide) rfl ?_
      refine qr_iload_n C dX2_write_13 rfl 3 rfl ?_
      refine qr_bipush (v := 6) C dX2_write_14 (by decide) ?_
      refine qr_irem C dX2_write_16 (by decide) ?_
      refine qr_istore (lv' := [(4, (.int ((nI i2) - (nI i2) / (6 : Int32) * (6 : Int32)))), (3, (.int ((nI i2) / (6 : Int32)))), (0, (.ref (ad 4))), (1, (.int x1)), (2, (.int (nI i2)))]) C dX2_write_17 (by decide) rfl ?_
      have hdv : (nI i2) / (6 : Int32) = nI (i2 / 6) := by rw [show (6 : Int32) = nI 6 from rfl]; exact pk_div (by omega) (by decide) (by decide)
      have hrm : (nI i2) - (nI i2) / (6 : Int32) * (6 : Int32) = nI (i2 % 6) := by rw [show (6 : Int32) = nI 6 from rfl]; exact pk_rem (by omega) (by decide) (by decide)
      refine qw_to (lv' := [(4, (.int (nI (i2 % 6)))), (3, (.int (nI (i2 / 6)))), (0, (.ref (ad 4))), (1, (.int x1)), (2, (.int (nI i2)))]) (st' := []) rfl rfl (by rw [hrm, hdv]) rfl ?_
      refine qr_iconst (v := 0) C dX2_write_19 (by decide) ?_
      refine qr_istore (lv' := [(5, (.int (0 : Int32))), (4, (.int (nI (i2 % 6)))), (3, (.int (nI (i2 / 6)))), (0, (.ref (ad 4))), (1, (.int x1)), (2, (.int (nI i2)))]) C dX2_write_20 (by decide) rfl ?_
      have L22 : ∀ (j22 i22 : Nat) (gl22 : qw_G) , i22 + j22 = 11 → (∃ M1 : Nat → Nat → Int32, ((∀ r c, r < 11 → c < i2 → M1 r c = cq_w x1 r c) ∧ ∀ r, r < i22 → M1 r i2 = 0) ∧ qx_P D (qw_upN χ 60 11 M1) nS nE ad gl22 ∧ ∀ t, (100 ≤ t ∧ t < 1000) → gl22 t = g t) → qw_W p l e { frames := 1, cells := 0, slots := 0, locals := 40 } s m args below meth c D A 6 (MQ below (qw_Q (qx_wrp D ad g nS nE χ x1) D A) args s 0 0 A) 0 0 ad gl22 22 [(0, (.ref (ad 4))), (1, (.int x1)), (2, (.int (nI i2))), (3, (.int (nI (i2 / 6)))), (4, (.int (nI (i2 % 6)))), (5, (.int (nI i22)))] [] := by
        intro j22
        induction j22 with
        | zero =>
          intro i22 gl22  hi22  hw22
          obtain rfl : 11 = i22 := by omega
          obtain ⟨M1, hM1, hX3, hfr3⟩ := hw22
          refine qr_iload C dX2_write_22 5 rfl ?_
          refine qr_bipush (v := 11) C dX2_write_24 (by decide) ?_
          refine qr_icmp_ge_t C 45 dX2_write_26 (by decide) ((sg_le (11) (11) rfl rfl (by omega) (by omega)).mpr (Nat.le_refl _)) ?_
          refine qr_iload_n C dX2_write_45 rfl 1 rfl ?_
          refine qr_iload_n C dX2_write_46 rfl 2 rfl ?_
          refine qr_callNS C (na := 2) (As := [(.int x1), (.int (nI i2))]) (rest := []) (k_X6_contains hst D ad gl22 (x1) ((nI i2))) gi_X2_27.1 gi_X2_27.2.1 gi_X2_27.2.2.1 gi_X2_27.2.2.2 ⟨by decide, by decide, by decide +kernel⟩ rfl rfl (Nat.le_of_ble_eq_true rfl) rfl rfl ⟨Nat.le_of_ble_eq_true rfl, Nat.le_of_ble_eq_true rfl⟩ ⟨Nat.le_of_ble_eq_true rfl, Nat.le_of_ble_eq_true rfl⟩ dX2_write_47 (fun v ad2 gc1 hpo2 => ?_)
          obtain ⟨rfl, rfl, rfl⟩ := hpo2
          refine qr_if_eq C 93 dX2_write_50 (by decide) (fun c50 => ?_) (fun c50 => ?_)
          · skip
            refine qr_iinc (v := (nI (i2 + 1))) (lv' := [(2, (.int (nI (i2 + 1)))), (0, (.ref (ad 4))), (1, (.int x1)), (3, (.int (nI (i2 / 6)))), (4, (.int (nI (i2 % 6)))), (5, (.int (nI (11))))]) C dX2_write_93 (w := 2) rfl (nI_1 _) (by decide) rfl ?_
            refine qr_goto (tgt := 2) C dX2_write_96 (by decide) ?_
            refine qw_pick [1, 2, 0] (lv' := [(0, (.ref (ad 4))), (1, (.int x1)), (2, (.int (nI (i2 + 1))))]) rfl ?_
            exact ih2 (i2 + 1) gl22  (by omega) ⟨_, cq_w_step0 hM1.1 hM1.2 c50, hX3, fun t1 ht1 => ((hfr3 t1 ht1).trans rfl)⟩
          · skip
            refine qr_aload_n C dX2_write_53 rfl 0 rfl ?_
            refine gf_X2_13 C (4) (qx_eq hX3) rfl rfl dX2_write_54 ?_
            refine qr_iload_n C dX2_write_57 rfl 3 rfl ?_
            refine qr_aald C 7 rfl rfl (5) (qx_fa hX3) rfl (j := (i2 / 6)) rfl (by omega) rfl (if_pos (by omega)) dX2_write_58 ?_
            refine qr_iload_n C dX2_write_59 rfl 2 rfl ?_
            have M60_2 : ∀ v1 : Int32, v1 = (if (nI (i2 % 6)) = (5 : Int32) then (-1 : Int32) else (1 : Int32)) → qw_W p l e { frames := 1, cells := 0, slots := 0, locals := 40 } s m args below meth c D A 6 (MQ below (qw_Q (qx_wrp D ad g nS nE χ x1) D A) args s 0 0 A) 0 0 ad gl22 71 [(0, (.ref (ad 4))), (1, (.int x1)), (2, (.int (nI i2))), (3, (.int (nI (i2 / 6)))), (4, (.int (nI (i2 % 6)))), (5, (.int (nI (11))))] [(.int v1), (.int (nI i2)), (.ref (ad (60 + (i2 / 6))))] := by
              intro v1 hv1
              refine qr_iast C ((60 + (i2 / 6))) (qF_fr hX3 (i2 / 6) (by omega)) rfl (j := i2) rfl (by omega) rfl dX2_write_71 ?_
              generalize hg5 : va_up gl22 ((60 + (i2 / 6))) _ = g4
              have hX6 : qx_P D (qw_upN χ 60 11 (va_up M1 (i2 / 6) (upd (M1 (i2 / 6)) (i2) v1))) nS nE ad g4 := by rw [← hg5]; exact qF_w hX3 (i2 / 6) (by omega) (upd (M1 (i2 / 6)) (i2) v1)
              refine qr_aload_n C dX2_write_72 rfl 0 rfl ?_
              refine gf_X2_13 C (4) (qx_eq hX6) rfl rfl dX2_write_73 ?_
              refine qr_iconst (v := 5) C dX2_write_76 (by decide) ?_
              refine qr_iload C dX2_write_77 4 rfl ?_
              refine qr_iadd C dX2_write_79 ?_
              refine qr_aald C 7 rfl rfl (5) (qx_fa hX6) rfl (j := (5 + i2 % 6)) (by rw [show (5 : Int32) = nI 5 from rfl, nI_add]) (by omega) rfl (if_pos (by omega)) dX2_write_80 ?_
              refine qr_iload_n C dX2_write_81 rfl 2 rfl ?_
              have M82_6 : ∀ v2 : Int32, v2 = (if (nI (i2 / 6)) = (4 : Int32) then (-1 : Int32) else (1 : Int32)) → qw_W p l e { frames := 1, cells := 0, slots := 0, locals := 40 } s m args below meth c D A 6 (MQ below (qw_Q (qx_wrp D ad g nS nE χ x1) D A) args s 0 0 A) 0 0 ad g4 92 [(0, (.ref (ad 4))), (1, (.int x1)), (2, (.int (nI i2))), (3, (.int (nI (i2 / 6)))), (4, (.int (nI (i2 % 6)))), (5, (.int (nI (11))))] [(.int v2), (.int (nI i2)), (.ref (ad (60 + (5 + i2 % 6))))] := by
                intro v2 hv2
                refine qr_iast C ((60 + (5 + i2 % 6))) (qF_fr hX6 (5 + i2 % 6) (by omega)) rfl (j := i2) rfl (by omega) rfl dX2_write_92 ?_
                generalize hg9 : va_up g4 ((60 + (5 + i2 % 6))) _ = g8
                have hX10 : qx_P D (qw_upN χ 60 11 (va_up (va_up M1 (i2 / 6) (upd (M1 (i2 / 6)) (i2) v1)) (5 + i2 % 6) (upd ((va_up M1 (i2 / 6) (upd (M1 (i2 / 6)) (i2) v1)) (5 + i2 % 6)) (i2) v2))) nS nE ad g8 := by rw [← hg9]; exact qF_w hX6 (5 + i2 % 6) (by omega) (upd ((va_up M1 (i2 / 6) (upd (M1 (i2 / 6)) (i2) v1)) (5 + i2 % 6)) (i2) v2)
                refine qr_iinc (v := (nI (i2 + 1))) (lv' := [(2, (.int (nI (i2 + 1)))), (0, (.ref (ad 4))), (1, (.int x1)), (3, (.int (nI (i2 / 6)))), (4, (.int (nI (i2 % 6)))), (5, (.int (nI (11))))]) C dX2_write_93 (w := 2) rfl (nI_1 _) (by decide) rfl ?_
                refine qr_goto (tgt := 2) C dX2_write_96 (by decide) ?_
                refine qw_pick [1, 2, 0] (lv' := [(0, (.ref (ad 4))), (1, (.int x1)), (2, (.int (nI (i2 + 1))))]) rfl ?_
                exact ih2 (i2 + 1) g8  (by omega) ⟨_, cq_w_step hM1.1 hM1.2 (by omega) c50 hv1 hv2, hX10, fun t1 ht1 => ((congrFun hg9 t1).symm.trans ((va_up_ne _ _ (by omega)).trans ((congrFun hg5 t1).symm.trans ((va_up_ne _ _ (by omega)).trans ((hfr3 t1 ht1).trans rfl)))))⟩
              refine qr_iload_n C dX2_write_82 rfl 3 rfl ?_
              refine qr_iconst (v := 4) C dX2_write_83 (by decide) ?_
              refine qr_icmp_ne C 91 dX2_write_84 (by decide) (fun c11 => ?_) (fun c11 => ?_)
              · skip
                refine qr_iconst (v := 1) C dX2_write_91 (by decide) ?_
                exact M82_6 _ (by simp only [if_neg c11])
              · skip
                refine qr_iconst (v := -1) C dX2_write_87 (by decide) ?_
                refine qr_goto (tgt := 92) C dX2_write_88 (by decide) ?_
                exact M82_6 _ (by simp only [if_pos c11])
            refine qr_iload C dX2_write_60 4 rfl ?_
            refine qr_iconst (v := 5) C dX2_write_62 (by decide) ?_
            refine qr_icmp_ne C 70 dX2_write_63 (by decide) (fun c12 => ?_) (fun c12 => ?_)
            · skip
              refine qr_iconst (v := 1) C dX2_write_70 (by decide) ?_
              exact M60_2 _ (by simp only [if_neg c12])
            · skip
              refine qr_iconst (v := -1) C dX2_write_66 (by decide) ?_
              refine qr_goto (tgt := 71) C dX2_write_67 (by decide) ?_
              exact M60_2 _ (by simp only [if_pos c12])
        | succ j22 ih22 =>
          intro i22 gl22  hi22  hw22
          obtain ⟨M1, hM1, hX3, hfr3⟩ := hw22
          refine qr_iload C dX2_write_22 5 rfl ?_
          refine qr_bipush (v := 11) C dX2_write_24 (by decide) ?_
          refine qr_icmp_ge_f C 45 dX2_write_26 (by decide) (fun z => absurd ((sg_le (11) (i22) rfl rfl (by omega) (by omega)).mp z) (by omega)) ?_
          refine qr_aload_n C dX2_write_29 rfl 0 rfl ?_
          refine gf_X2_13 C (4) (qx_eq hX3) rfl rfl dX2_write_30 ?_
          refine qr_iload C dX2_write_33 5 rfl ?_
          refine qr_aald C 7 rfl rfl (5) (qx_fa hX3) rfl (j := i22) rfl (by omega) rfl (if_pos (by omega)) dX2_write_35 ?_
          refine qr_iload_n C dX2_write_36 rfl 2 rfl ?_
          refine qr_iconst (v := 0) C dX2_write_37 (by decide) ?_
          refine qr_iast C ((60 + i22)) (qF_fr hX3 i22 (by omega)) rfl (j := i2) rfl (by omega) rfl dX2_write_38 ?_
          generalize hg14 : va_up gl22 ((60 + i22)) _ = g13
          have hX15 : qx_P D (qw_upN χ 60 11 (va_up M1 i22 (upd (M1 i22) (i2) (0 : Int32)))) nS nE ad g13 := by rw [← hg14]; exact qF_w hX3 i22 (by omega) (upd (M1 i22) (i2) (0 : Int32))
          refine qr_iinc (v := (nI (i22 + 1))) (lv' := [(5, (.int (nI (i22 + 1)))), (0, (.ref (ad 4))), (1, (.int x1)), (2, (.int (nI i2))), (3, (.int (nI (i2 / 6)))), (4, (.int (nI (i2 % 6))))]) C dX2_write_39 (w := 5) rfl (nI_1 _) (by decide) rfl ?_
          refine qr_goto (tgt := 22) C dX2_write_42 (by decide) ?_
          refine qw_pick [1, 2, 3, 4, 5, 0] (lv' := [(0, (.ref (ad 4))), (1, (.int x1)), (2, (.int (nI i2))), (3, (.int (nI (i2 / 6)))), (4, (.int (nI (i2 % 6)))), (5, (.int (nI (i22 + 1))))]) rfl ?_
          exact ih22 (i22 + 1) g13  (by omega) ⟨_, cq_w_zero hM1.1 hM1.2, hX15, fun t1 ht1 => ((congrFun hg14 t1).symm.trans ((va_up_ne _ _ (by omega)).trans ((hfr3 t1 ht1).trans rfl)))⟩
      refine qw_pick [3, 4, 5, 2, 1, 0] (lv' := [(0, (.ref (ad 4))), (1, (.int x1)), (2, (.int (nI i2))), (3, (.int (nI (i2 / 6)))), (4, (.int (nI (i2 % 6)))), (5, (.int (0 : Int32)))]) rfl ?_
      exact L22 (11) 0 gl2  (by omega) ⟨M0, ⟨hM0, fun r h => absurd h (by omega)⟩, hX2, hfr2⟩
  refine qw_pick [1, 2, 0] (lv' := [(0, (.ref (ad 4))), (1, (.int x1)), (2, (.int (0 : Int32)))]) rfl ?_
  exact L2 (30) 0 g  (by omega) ⟨M, fun r c _ h => absurd h (by omega), hX, fun _ _ => rfl⟩
def cq_sstep (e : Nat) (s : Int32 × (Nat → Nat → Int32)) : Int32 × (Nat → Nat → Int32) := if cq_first (cq_hit s.2 e s.1) 11 < 11 then (s.1 ||| (1 <<< (nI (cq_first (cq_hit s.2 e s.1) 11) &&& 31)), cq_rem s.2 e (cq_first (cq_hit s.2 e s.1) 11)) else s
def cq_ss (M : Nat → Nat → Int32) (n : Nat) : Int32 × (Nat → Nat → Int32) := sg_it cq_sstep (0, M) n
def cq_solve (M : Nat → Nat → Int32) : Nat → Nat → Int32 := (cq_ss M 30).2
theorem sg_it_s {α : Type} (f : Nat → α → α) (x : α) (n : Nat) : sg_it f x (n + 1) = f n (sg_it f x n) := rfl
theorem cq_ss_s {M : Nat → Nat → Int32} {n : Nat} : cq_ss M (n + 1) = cq_sstep n (cq_ss M n) := by
  unfold cq_ss
  exact sg_it_s _ _ _
theorem cq_sstep_p {s : Int32 × (Nat → Nat → Int32)} {i F : Nat} (h : cq_first (cq_hit s.2 i s.1) 11 = F) (hF : F < 11) : cq_sstep i s = (s.1 ||| (1 <<< (nI F &&& 31)), cq_rem s.2 i F) := by
  unfold cq_sstep
  rw [h, if_pos hF]
theorem cq_sstep_n {s : Int32 × (Nat → Nat → Int32)} {i F : Nat} (h : cq_first (cq_hit s.2 i s.1) 11 = F) (hF : ¬ F < 11) : cq_sstep i s = s := by
  unfold cq_sstep
  rw [h, if_neg hF]
theorem cq_sst1 {M : Nat → Nat → Int32} {i F : Nat} (h : cq_first (cq_hit (cq_ss M i).2 i (cq_ss M i).1) 11 = F) (hF : F < 11) : cq_ss M (i + 1) = ((cq_ss M i).1 ||| (1 <<< (nI F &&& 31)), cq_rem (cq_ss M i).2 i F) := by
  rw [cq_ss_s]
  exact cq_sstep_p h hF
theorem cq_sst0 {M : Nat → Nat → Int32} {i F : Nat} (h : cq_first (cq_hit (cq_ss M i).2 i (cq_ss M i).1) 11 = F) (hF : ¬ F < 11) : cq_ss M (i + 1) = cq_ss M i := by
  rw [cq_ss_s]
  exact cq_sstep_n h hF
noncomputable def cq_det (M : Nat → Nat → Int32) (e : Nat) : Int32 := @ite Int32 (∀ k, k < 11 → cq_tells M k e = 0) (Classical.propDecidable _) 0 1
set_option maxHeartbeats 4000000 in
set_option maxRecDepth 100000 in
theorem k_X2_solve {l : Launch} (hst : l.stackTraces = false) (D : va_G) (ad : Nat → Nat) (g : qw_G) (χ M : Nat → Nat → Int32) (nS nE : Nat) (hX : qx_P D (qw_upN χ 60 11 M) nS nE ad g)  : qw_M l yX2_solve [Cond.code yX2_solve cX2_solve 4 none] { frames := 2, cells := 0, slots := 0, locals := 80 } D ad g [(.ref (ad 4))] (qx_to D ad g nS nE none (qw_upN χ 60 11 (cq_solve M))) 0 0 := by
  refine qw_M.of (maxL := 4) (own := RX2) (lv := [(0, (.ref (ad 4)))]) hst (by decide) rfl rfl (Nat.le_of_ble_eq_true rfl) ?_
  intro p e s m args below meth c A C hin
  refine qr_iconst (v := 0) C dX2_solve_0 (by decide) ?_
  refine qr_istore_n (lv' := [(1, (.int (0 : Int32))), (0, (.ref (ad 4)))]) C dX2_solve_1 rfl (by decide) rfl ?_
  refine qr_iconst (v := 0) C dX2_solve_2 (by decide) ?_
  refine qr_istore_n (lv' := [(2, (.int (0 : Int32))), (1, (.int (0 : Int32))), (0, (.ref (ad 4)))]) C dX2_solve_3 rfl (by decide) rfl ?_
  have L4 : ∀ (j4 i4 : Nat) (gl4 : qw_G) (ac : Int32), i4 + j4 = 30 → ac = (cq_ss M i4).1 → (qx_P D (qw_upN χ 60 11 (cq_ss M i4).2) nS nE ad gl4 ∧ ∀ t, (100 ≤ t ∧ t < 1000) → gl4 t = g t) → qw_W p l e { frames := 2, cells := 0, slots := 0, locals := 80 } s m args below meth c D A 4 (MQ below (qw_Q (qx_to D ad g nS nE none (qw_upN χ 60 11 (cq_solve M))) D A) args s 0 0 A) 0 0 ad gl4 4 [(0, (.ref (ad 4))), (1, (.int ac)), (2, (.int (nI i4)))] [] := by
    intro j4
    induction j4 with
    | zero =>
      intro i4 gl4 ac hi4 hac hw4
      obtain rfl : 30 = i4 := by omega
      obtain ⟨hX2, hfr2⟩ := hw4
      refine qr_iload_n C dX2_solve_4 rfl 2 rfl ?_
      refine qr_bipush (v := 30) C dX2_solve_5 (by decide) ?_
      refine qr_icmp_ge_t C 41 dX2_solve_7 (by decide) ((sg_le (30) (30) rfl rfl (by omega) (by omega)).mpr (Nat.le_refl _)) ?_
      exact qr_vret C rfl (Nat.le_of_ble_eq_true rfl) (Nat.le_of_ble_eq_true rfl) dX2_solve_41 (⟨rfl, rfl, hX2, fun t1 ht1 => ((hfr2 t1 ht1).trans rfl)⟩)
    | succ j4 ih4 =>
      intro i4 gl4 ac hi4 hac hw4
      obtain ⟨hX2, hfr2⟩ := hw4
      refine qr_iload_n C dX2_solve_4 rfl 2 rfl ?_
      refine qr_bipush (v := 30) C dX2_solve_5 (by decide) ?_
      refine qr_icmp_ge_f C 41 dX2_solve_7 (by decide) (fun z => absurd ((sg_le (30) (i4) rfl rfl (by omega) (by omega)).mp z) (by omega)) ?_
      refine qr_aload_n C dX2_solve_10 rfl 0 rfl ?_
      refine qr_iload_n C dX2_solve_11 rfl 2 rfl ?_
      refine qr_iload_n C dX2_solve_12 rfl 1 rfl ?_
      refine qr_callV C (na := 2) (As := [(.int (nI i4)), (.int ac)]) (rest := []) (k_X2_unspentWith hst D ad gl4 χ ((cq_ss M i4).2) nS nE hX2 i4 (nI i4) ac (by omega) rfl) (4) (qx_eq hX2) rfl rfl gi_X2_30 rfl ⟨by decide, by decide, by decide +kernel⟩ rfl rfl (Nat.le_of_ble_eq_true rfl) rfl rfl ⟨Nat.le_of_ble_eq_true rfl, Nat.le_of_ble_eq_true rfl⟩ ⟨Nat.le_of_ble_eq_true rfl, Nat.le_of_ble_eq_true rfl⟩ dX2_solve_13 (fun v ad2 gc1 hpo2 => ?_)
      obtain ⟨rfl, rfl, rfl⟩ := hpo2
      have hFl : cq_first (cq_hit (cq_ss M i4).2 i4 ac) 11 ≤ 11 := cq_first_le
      generalize hFq : cq_first (cq_hit (cq_ss M i4).2 i4 ac) 11 = F at hFl ⊢
      rw [hac] at hFq
      refine qr_istore_n (lv' := [(3, (.int (nI F))), (0, (.ref (ad 4))), (1, (.int ac)), (2, (.int (nI i4)))]) C dX2_solve_16 rfl (by decide) rfl ?_
      refine qr_iload_n C dX2_solve_17 rfl 0 rfl ?_
      refine qr_bipush (v := 11) C dX2_solve_18 (by decide) ?_
      refine qr_icmp_ge C 35 dX2_solve_20 (by decide) (fun c20 => ?_) (fun c20 => ?_)
      · skip
        have hF : ¬ F < 11 := fun q => absurd ((sg_le 11 F rfl rfl (by omega) (by omega)).mp c20) (by omega)
        refine qr_iinc (v := (nI (i4 + 1))) (lv' := [(2, (.int (nI (i4 + 1)))), (3, (.int (nI F))), (0, (.ref (ad 4))), (1, (.int ac))]) C dX2_solve_35 (w := 3) rfl (nI_1 _) (by decide) rfl ?_
        refine qr_goto (tgt := 4) C dX2_solve_38 (by decide) ?_
        refine qw_pick [2, 3, 0] (lv' := [(0, (.ref (ad 4))), (1, (.int ac)), (2, (.int (nI (i4 + 1))))]) rfl ?_
        exact ih4 (i4 + 1) gl4 ac (by omega) (by rw [cq_sst0 hFq hF]; exact hac) ⟨(by rw [cq_sst0 hFq hF]; exact hX2), fun t1 ht1 => ((hfr2 t1 ht1).trans rfl)⟩
      · skip
        have hF : F < 11 := Nat.lt_of_not_le (fun q => c20 ((sg_le 11 F rfl rfl (by omega) (by omega)).mpr q))
        refine qr_iload_n C dX2_solve_23 rfl 2 rfl ?_
        refine qr_iconst (v := 1) C dX2_solve_24 (by decide) ?_
        refine qr_iload_n C dX2_solve_25 rfl 0 rfl ?_
        refine qr_ishl C dX2_solve_26 ?_
        refine qr_ior C dX2_solve_27 ?_
        refine qr_istore_n (lv' := [(1, (.int (ac ||| ((1 : Int32) <<< ((nI F) &&& 31))))), (3, (.int (nI F))), (0, (.ref (ad 4))), (2, (.int (nI i4)))]) C dX2_solve_28 rfl (by decide) rfl ?_
        refine qr_aload_n C dX2_solve_29 rfl 2 rfl ?_
        refine qr_iload_n C dX2_solve_30 rfl 3 rfl ?_
        refine qr_iload_n C dX2_solve_31 rfl 1 rfl ?_
        refine qr_callV C (na := 2) (As := [(.int (nI i4)), (.int (nI F))]) (rest := []) (k_X2_removeFromOthers hst D ad gl4 χ ((cq_ss M i4).2) nS nE hX2 i4 F (nI i4) (nI F) (by omega) hF rfl rfl) (4) (qx_eq hX2) rfl rfl gi_X2_34 rfl ⟨by decide, by decide, by decide +kernel⟩ rfl rfl (Nat.le_of_ble_eq_true rfl) rfl rfl ⟨Nat.le_of_ble_eq_true rfl, Nat.le_of_ble_eq_true rfl⟩ ⟨Nat.le_of_ble_eq_true rfl, Nat.le_of_ble_eq_true rfl⟩ dX2_solve_32 (fun v ad2 gc3 hpo4 => ?_)
        obtain ⟨rfl, rfl, hX5, hfr6⟩ := hpo4
        refine qr_iinc (v := (nI (i4 + 1))) (lv' := [(2, (.int (nI (i4 + 1)))), (1, (.int (ac ||| ((1 : Int32) <<< ((nI F) &&& 31))))), (3, (.int (nI F))), (0, (.ref (ad 4)))]) C dX2_solve_35 (w := 3) rfl (nI_1 _) (by decide) rfl ?_
        refine qr_goto (tgt := 4) C dX2_solve_38 (by decide) ?_
        refine qw_pick [3, 1, 0] (lv' := [(0, (.ref (ad 4))), (1, (.int (ac ||| ((1 : Int32) <<< ((nI F) &&& 31))))), (2, (.int (nI (i4 + 1))))]) rfl ?_
        exact ih4 (i4 + 1) gc3 (ac ||| ((1 : Int32) <<< ((nI F) &&& 31))) (by omega) (by rw [cq_sst1 hFq hF]; exact congrArg (fun q => q ||| (1 <<< (nI F &&& 31))) hac) ⟨(by rw [cq_sst1 hFq hF]; exact hX5), fun t1 ht1 => ((hfr6 t1 ht1).trans ((hfr2 t1 ht1).trans rfl))⟩
  refine qw_pick [2, 1, 0] (lv' := [(0, (.ref (ad 4))), (1, (.int (0 : Int32))), (2, (.int (0 : Int32)))]) rfl ?_
  exact L4 (30) 0 g (0 : Int32) (by omega) rfl ⟨hX, fun _ _ => rfl⟩
def qx_detp (D : va_G) (ad : Nat → Nat) (g : qw_G) (nS nE : Nat) (χ : Nat → Nat → Int32) (x1 : Int32) (e : Nat) : Option Value → (Nat → Nat) → qw_G → Prop := fun v' ad' g' => ∃ M0 : Nat → Nat → Int32, (∀ r c, r < 11 → c < 30 → M0 r c = cq_w x1 r c) ∧ some (.int (cq_det (cq_solve M0) e)) = v' ∧ ad = ad' ∧ qx_P D (qw_upN χ 60 11 (cq_solve M0)) nS nE ad' g' ∧ ∀ t, (100 ≤ t ∧ t < 1000) → g' t = g t
set_option maxHeartbeats 4000000 in
set_option maxRecDepth 100000 in
theorem k_X2_determine {l : Launch} (hst : l.stackTraces = false) (D : va_G) (ad : Nat → Nat) (g : qw_G) (χ M : Nat → Nat → Int32) (nS nE : Nat) (hX : qx_P D (qw_upN χ 60 11 M) nS nE ad g) (e1 : Nat) (x1 x2 : Int32) (he : e1 < 30) (hx2 : x2 = nI e1) : qw_M l yX2_determine [Cond.code yX2_determine cX2_determine 4 (some .boolean)] { frames := 3, cells := 0, slots := 0, locals := 120 } D ad g [(.ref (ad 4)), (.int x1), (.int x2)] (qx_detp D ad g nS nE χ x1 e1) 0 0 := by
  refine qw_M.of (maxL := 4) (own := RX2) (lv := [(0, (.ref (ad 4))), (1, (.int x1)), (2, (.int x2))]) hst (by decide) rfl rfl (Nat.le_of_ble_eq_true rfl) ?_
  intro p e s m args below meth c A C hin
  refine qr_aload_n C dX2_determine_0 rfl 0 rfl ?_
  refine qr_iload_n C dX2_determine_1 rfl 1 rfl ?_
  refine qr_callV C (na := 1) (As := [(.int x1)]) (rest := []) (k_X2_write hst D ad g χ M nS nE hX (x1)) (4) (qx_eq hX) rfl rfl gi_X2_16 rfl ⟨by decide, by decide, by decide +kernel⟩ rfl rfl (Nat.le_of_ble_eq_true rfl) rfl rfl ⟨Nat.le_of_ble_eq_true rfl, Nat.le_of_ble_eq_true rfl⟩ ⟨Nat.le_of_ble_eq_true rfl, Nat.le_of_ble_eq_true rfl⟩ dX2_determine_2 (fun v ad2 gw hpw => ?_)
  obtain ⟨M0, hM0, rfl, rfl, hXw, hfw⟩ := hpw
  refine qr_aload_n C dX2_determine_5 rfl 0 rfl ?_
  refine qr_callV C (na := 0) (As := []) (rest := []) (k_X2_solve hst D ad gw χ M0 nS nE hXw) (4) (qx_eq hXw) rfl rfl gi_X2_20 rfl ⟨by decide, by decide, by decide +kernel⟩ rfl rfl (Nat.le_of_ble_eq_true rfl) rfl rfl ⟨Nat.le_of_ble_eq_true rfl, Nat.le_of_ble_eq_true rfl⟩ ⟨Nat.le_of_ble_eq_true rfl, Nat.le_of_ble_eq_true rfl⟩ dX2_determine_6 (fun v ad2 gs hps => ?_)
  obtain ⟨rfl, rfl, hXs, hfs⟩ := hps
  refine qr_iconst (v := 0) C dX2_determine_9 (by decide) ?_
  refine qr_istore_n (lv' := [(3, (.int (0 : Int32))), (0, (.ref (ad 4))), (1, (.int x1)), (2, (.int x2))]) C dX2_determine_10 rfl (by decide) rfl ?_
  have L11 : ∀ (j11 i11 : Nat) , i11 + j11 = 11 → (∀ k, k < i11 → cq_tells (cq_solve M0) k e1 = 0) → qw_W p l e { frames := 3, cells := 0, slots := 0, locals := 120 } s m args below meth c D A 4 (MQ below (qw_Q (qx_detp D ad g nS nE χ x1 e1) D A) args s 0 0 A) 0 0 ad gs 11 [(0, (.ref (ad 4))), (1, (.int x1)), (2, (.int x2)), (3, (.int (nI i11)))] [] := by
    intro j11
    induction j11 with
    | zero =>
      intro i11  hi11  hw11
      obtain rfl : 11 = i11 := by omega
      refine qr_iload_n C dX2_determine_11 rfl 3 rfl ?_
      refine qr_bipush (v := 11) C dX2_determine_12 (by decide) ?_
      refine qr_icmp_ge_t C 34 dX2_determine_14 (by decide) ((sg_le (11) (11) rfl rfl (by omega) (by omega)).mpr (Nat.le_refl _)) ?_
      refine qr_iconst (v := 0) C dX2_determine_34 (by decide) ?_
      exact qr_zret C rfl (by decide) (Nat.le_of_ble_eq_true rfl) (Nat.le_of_ble_eq_true rfl) dX2_determine_35 (⟨M0, hM0, sg_vi (if_pos hw11), rfl, hXs, fun t1 ht1 => ((hfs t1 ht1).trans ((hfw t1 ht1).trans rfl))⟩)
    | succ j11 ih11 =>
      intro i11  hi11  hw11
      refine qr_iload_n C dX2_determine_11 rfl 3 rfl ?_
      refine qr_bipush (v := 11) C dX2_determine_12 (by decide) ?_
      refine qr_icmp_ge_f C 34 dX2_determine_14 (by decide) (fun z => absurd ((sg_le (11) (i11) rfl rfl (by omega) (by omega)).mp z) (by omega)) ?_
      refine qr_aload_n C dX2_determine_17 rfl 0 rfl ?_
      refine qr_iload_n C dX2_determine_18 rfl 3 rfl ?_
      refine qr_iload_n C dX2_determine_19 rfl 2 rfl ?_
      refine qr_callV C (na := 2) (As := [(.int (nI i11)), (.int x2)]) (rest := []) (k_X2_tellsOnly hst D ad gs χ (cq_solve M0) nS nE hXs i11 e1 (nI i11) x2 (by omega) he rfl hx2) (4) (qx_eq hXs) rfl rfl gi_X2_23 rfl ⟨by decide, by decide, by decide +kernel⟩ rfl rfl (Nat.le_of_ble_eq_true rfl) rfl rfl ⟨Nat.le_of_ble_eq_true rfl, Nat.le_of_ble_eq_true rfl⟩ ⟨Nat.le_of_ble_eq_true rfl, Nat.le_of_ble_eq_true rfl⟩ dX2_determine_20 (fun v ad2 gc1 hpo2 => ?_)
      obtain ⟨rfl, rfl, rfl⟩ := hpo2
      refine qr_if_eq C 28 dX2_determine_23 (by decide) (fun c23 => ?_) (fun c23 => ?_)
      · skip
        refine qr_iinc (v := (nI (i11 + 1))) (lv' := [(3, (.int (nI (i11 + 1)))), (0, (.ref (ad 4))), (1, (.int x1)), (2, (.int x2))]) C dX2_determine_28 (w := 3) rfl (nI_1 _) (by decide) rfl ?_
        refine qr_goto (tgt := 11) C dX2_determine_31 (by decide) ?_
        refine qw_pick [1, 2, 3, 0] (lv' := [(0, (.ref (ad 4))), (1, (.int x1)), (2, (.int x2)), (3, (.int (nI (i11 + 1))))]) rfl ?_
        exact ih11 (i11 + 1)  (by omega) (sg_ls hw11 c23)
      · skip
        refine qr_iconst (v := 1) C dX2_determine_26 (by decide) ?_
        exact qr_zret C rfl (by decide) (Nat.le_of_ble_eq_true rfl) (Nat.le_of_ble_eq_true rfl) dX2_determine_27 (⟨M0, hM0, sg_vi (if_neg (fun h => c23 (h i11 (by omega)))), rfl, hXs, fun t1 ht1 => ((hfs t1 ht1).trans ((hfw t1 ht1).trans rfl))⟩)
  refine qw_pick [1, 2, 3, 0] (lv' := [(0, (.ref (ad 4))), (1, (.int x1)), (2, (.int x2)), (3, (.int (0 : Int32)))]) rfl ?_
  exact L11 (11) 0  (by omega) (fun k hk => absurd hk (by omega))
noncomputable def cx_kbs (χ M0 : Nat → Nat → Int32) (x1 x2 : Int32) : Int32 := if sg_has (χ 4 0) (x1 * 6 + x2) = 0 then 1 else cq_det (cq_solve M0) (x1 * 6 + x2).toNatClampNeg
theorem cq_det01 (M : Nat → Nat → Int32) (e : Nat) : cq_det M e = 0 ∨ cq_det M e = 1 := by
  by_cases h : ∀ k, k < 11 → cq_tells M k e = 0
  · exact Or.inl (if_pos h)
  · exact Or.inr (if_neg h)
def qx_kbp (D : va_G) (ad : Nat → Nat) (g : qw_G) (nS nE : Nat) (χ : Nat → Nat → Int32) (c x1 x2 : Int32) : Option Value → (Nat → Nat) → qw_G → Prop := fun v' ad' g' => ∃ M0 M' : Nat → Nat → Int32, c = 0 ∧ (∀ r k, r < 11 → k < 30 → M0 r k = cq_w (χ 4 0) r k) ∧ some (.int (cx_kbs χ M0 x1 x2)) = v' ∧ ad = ad' ∧ qx_P D (qw_upN χ 60 11 M') nS nE ad' g' ∧ ∀ t, (100 ≤ t ∧ t < 1000) → g' t = g t
def cx_kb (x1 x2 : Int32) : Int32 := if cx_eat x1 x2 = 0 then 0 else 1
set_option maxHeartbeats 4000000 in
set_option maxRecDepth 100000 in
theorem k_X6_isKnownBySolving {l : Launch} (hst : l.stackTraces = false) (D : va_G) (ad : Nat → Nat) (g : qw_G) (χ : Nat → Nat → Int32) (nS nE : Nat) (hX : qx_P D χ nS nE ad g) (x1 x2 : Int32) : qw_T l yX6_isKnownBySolving [Cond.code yX6_isKnownBySolving cX6_isKnownBySolving 4 (some .boolean)] { frames := 7, cells := 2, slots := 12, locals := 180 } D ad g [(.ref (ad 0)), (.int x1), (.int x2)] (qx_kbp D ad g nS nE χ (cx_kb x1 x2) x1 x2) (qx_px (cx_kb x1 x2)) 2 12 := by
  refine qw_T.of (maxL := 4) (own := RX6) (lv := [(0, (.ref (ad 0))), (1, (.int x1)), (2, (.int x2))]) hst (by decide) rfl rfl (Nat.le_of_ble_eq_true rfl) ?_
  intro p e s m args below meth c A C hnt
  have hb := (qx_ct hX).2.2
  refine qr_iload_n C dX6_isKnownBySolving_0 rfl 1 rfl ?_
  refine qr_iload_n C dX6_isKnownBySolving_1 rfl 2 rfl ?_
  refine qr_callSX C (na := 2) (As := [(.int x1), (.int x2)]) (rest := []) (k_X6_entryAt hst D ad g χ nS nE hX x1 x2) gi_X6_195 ⟨by decide, by decide, by decide +kernel⟩ rfl rfl (Nat.le_of_ble_eq_true rfl) rfl rfl ⟨Nat.le_of_ble_eq_true rfl, Nat.le_of_ble_eq_true rfl⟩ ⟨Nat.le_of_ble_eq_true rfl, Nat.le_of_ble_eq_true rfl⟩ dX6_isKnownBySolving_2 (fun E hE => by obtain ⟨rfl, hc⟩ := hE; exact qr_out C hnt (Or.inl ⟨rfl, by simp only [cx_kb, if_neg hc]⟩) (Nat.le_of_ble_eq_true rfl) (Nat.le_of_ble_eq_true rfl)) (fun v ad2 gc1 hpo2 => ?_)
  obtain ⟨a0, b0, ha0, hb0, ha0x, hb0x, hc2, rfl, rfl, rfl⟩ := hpo2
  refine qr_istore_n (lv' := [(3, (.int (nI (a0 * 6 + b0)))), (0, (.ref (ad 0))), (1, (.int x1)), (2, (.int x2))]) C dX6_isKnownBySolving_5 rfl (by decide) rfl ?_
  refine qr_aload_n C dX6_isKnownBySolving_6 rfl 1 rfl ?_
  refine gf_X6_198 C (0) (qx_x hX) rfl rfl dX6_isKnownBySolving_7 ?_
  refine qr_iload_n C dX6_isKnownBySolving_10 rfl 0 rfl ?_
  refine qr_callS C (na := 2) (As := [(.int (χ 4 0)), (.int (nI (a0 * 6 + b0)))]) (rest := []) (k_X6_contains hst D ad g ((χ 4 0)) ((nI (a0 * 6 + b0)))) gi_X6_147 ⟨by decide, by decide, by decide +kernel⟩ rfl rfl (Nat.le_of_ble_eq_true rfl) rfl rfl ⟨Nat.le_of_ble_eq_true rfl, Nat.le_of_ble_eq_true rfl⟩ ⟨Nat.le_of_ble_eq_true rfl, Nat.le_of_ble_eq_true rfl⟩ dX6_isKnownBySolving_11 (fun v ad2 gc3 hpo4 => ?_)
  obtain ⟨rfl, rfl, rfl⟩ := hpo4
  refine qr_if_eq C 32 dX6_isKnownBySolving_14 (by decide) (fun c14 => ?_) (fun c14 => ?_)
  · skip
    refine qr_iconst (v := 1) C dX6_isKnownBySolving_32 (by decide) ?_
    refine qr_goto (tgt := 37) C dX6_isKnownBySolving_33 (by decide) ?_
    exact qr_zretX C rfl (by decide) (Nat.le_of_ble_eq_true rfl) (Nat.le_of_ble_eq_true rfl) dX6_isKnownBySolving_37 (⟨cq_w (χ 4 0), fun i => χ (60 + i), by simp only [cx_kb, if_pos hc2], fun _ _ _ _ => rfl, sg_vi ((if_pos (by rw [sg_rc ha0x hb0x]; exact c14))), rfl, by rw [qF_self]; exact hX, fun t1 ht1 => rfl⟩)
  · skip
    refine qr_aload_n C dX6_isKnownBySolving_17 rfl 1 rfl ?_
    refine gf_X6_31 C (0) (qx_x hX) rfl rfl dX6_isKnownBySolving_18 ?_
    refine qr_aload_n C dX6_isKnownBySolving_21 rfl 1 rfl ?_
    refine gf_X6_198 C (0) (qx_x hX) rfl rfl dX6_isKnownBySolving_22 ?_
    refine qr_iload_n C dX6_isKnownBySolving_25 rfl 0 rfl ?_
    refine qr_callNV C (na := 2) (As := [(.int (χ 4 0)), (.int (nI (a0 * 6 + b0)))]) (rest := []) (k_X2_determine hst D ad g χ (fun i => χ (60 + i)) nS nE (by rw [qF_self]; exact hX) (a0 * 6 + b0) ((χ 4 0)) ((nI (a0 * 6 + b0))) (by omega) rfl) (4) (qx_eq hX) rfl rfl gi_X6_204.1 gi_X6_204.2.1 gi_X6_204.2.2.1 gi_X6_204.2.2.2.1 gi_X6_204.2.2.2.2 ⟨by decide, by decide, by decide +kernel⟩ rfl rfl (Nat.le_of_ble_eq_true rfl) rfl rfl ⟨Nat.le_of_ble_eq_true rfl, Nat.le_of_ble_eq_true rfl⟩ ⟨Nat.le_of_ble_eq_true rfl, Nat.le_of_ble_eq_true rfl⟩ dX6_isKnownBySolving_26 (fun v ad2 gd hpd => ?_)
    obtain ⟨M0, hM0, rfl, rfl, hXd, hfd⟩ := hpd
    refine qr_if_eq C 36 dX6_isKnownBySolving_29 (by decide) (fun c29 => ?_) (fun c29 => ?_)
    · skip
      refine qr_iconst (v := 0) C dX6_isKnownBySolving_36 (by decide) ?_
      exact qr_zretX C rfl (by decide) (Nat.le_of_ble_eq_true rfl) (Nat.le_of_ble_eq_true rfl) dX6_isKnownBySolving_37 (⟨M0, cq_solve M0, by simp only [cx_kb, if_pos hc2], hM0, sg_vi ((if_neg (by rw [sg_rc ha0x hb0x]; exact c14)).trans (by rw [sg_rc ha0x hb0x, nI_clamp (by omega)]; exact c29)), rfl, hXd, fun t1 ht1 => ((hfd t1 ht1).trans rfl)⟩)
    · skip
      refine qr_iconst (v := 1) C dX6_isKnownBySolving_32 (by decide) ?_
      refine qr_goto (tgt := 37) C dX6_isKnownBySolving_33 (by decide) ?_
      exact qr_zretX C rfl (by decide) (Nat.le_of_ble_eq_true rfl) (Nat.le_of_ble_eq_true rfl) dX6_isKnownBySolving_37 (⟨M0, cq_solve M0, by simp only [cx_kb, if_pos hc2], hM0, sg_vi ((if_neg (by rw [sg_rc ha0x hb0x]; exact c14)).trans (by rw [sg_rc ha0x hb0x, nI_clamp (by omega)]; exact (cq_det01 _ _).resolve_left c29)), rfl, hXd, fun t1 ht1 => ((hfd t1 ht1).trans rfl)⟩)
