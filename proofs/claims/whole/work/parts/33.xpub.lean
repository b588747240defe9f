/-! the class's public methods that make nothing -/
def qx_op (D : va_G) (ad : Nat → Nat) (g : qw_G) (nS nE : Nat) (c v : Int32) (χ : Nat → Nat → Int32) : Option Value → (Nat → Nat) → qw_G → Prop := fun v' ad' g' => c = 0 ∧ some (.int v) = v' ∧ ad = ad' ∧ qx_P D χ nS nE ad g' ∧ ∀ t, (100 ≤ t ∧ t < 1000) → g' t = g t
def cx_sum (χ : Nat → Nat → Int32) (x1 x2 x3 : Int32) : Int32 := (if cx_ent χ x1 x2 x3 = 0 then 0 else 1)
set_option maxHeartbeats 4000000 in
set_option maxRecDepth 100000 in
theorem k_X6_sum {l : Launch} (hst : l.stackTraces = false) (D : va_G) (ad : Nat → Nat) (g : qw_G) (χ : Nat → Nat → Int32) (nS nE : Nat) (hX : qx_P D χ nS nE ad g) (x1 x2 x3 : Int32) : qw_T l yX6_sum [Cond.code yX6_sum cX6_sum 5 (some .int)] { frames := 8, cells := 3, slots := 18, locals := 150 } D ad g [(.ref (ad 0)), (.int x1), (.int x2), (.int x3)] (qx_op D ad g nS nE (cx_sum χ x1 x2 x3) (χ (10 + x1.toNatClampNeg) (cx_entv χ x1 x2 x3).toNatClampNeg) (χ)) (qx_px (cx_sum χ x1 x2 x3)) 3 18 := by
  refine qw_T.of (maxL := 5) (own := RX6) (lv := [(0, (.ref (ad 0))), (1, (.int x1)), (2, (.int x2)), (3, (.int x3))]) hst (by decide) rfl rfl (Nat.le_of_ble_eq_true rfl) ?_
  intro p e s m args below meth c A C hnt
  have hb := (qx_ct hX).2.2
  refine qr_aload_n C dX6_sum_0 rfl 0 rfl ?_
  refine qr_iload_n C dX6_sum_1 rfl 1 rfl ?_
  refine qr_iload_n C dX6_sum_2 rfl 2 rfl ?_
  refine qr_iload_n C dX6_sum_3 rfl 3 rfl ?_
  refine qr_callVX C (na := 3) (As := [(.int x1), (.int x2), (.int x3)]) (rest := []) (k_X6_entryOfTable hst D ad g χ nS nE hX x1 x2 x3) (0) (qx_x hX) rfl rfl gi_X6_97 rfl ⟨by decide, by decide, by decide +kernel⟩ rfl rfl (Nat.le_of_ble_eq_true rfl) rfl rfl ⟨Nat.le_of_ble_eq_true rfl, Nat.le_of_ble_eq_true rfl⟩ ⟨Nat.le_of_ble_eq_true rfl, Nat.le_of_ble_eq_true rfl⟩ dX6_sum_4 (fun E hE => by obtain ⟨rfl, hc⟩ := hE; exact qr_out C hnt (Or.inl ⟨rfl, by simp only [cx_sum, if_neg hc]⟩) (Nat.le_of_ble_eq_true rfl) (Nat.le_of_ble_eq_true rfl)) (fun v ad2 gc1 hpo2 => ?_)
  obtain ⟨t0, a0, b0, ht0, ha0, hb0, ht0x, hent, hc4, rfl, rfl, rfl⟩ := hpo2
  have ht0xc : x1.toNatClampNeg = t0 := by rw [ht0x, nI_clamp (by omega)]
  have hentc : (cx_entv χ x1 x2 x3).toNatClampNeg = a0 * 6 + b0 := by rw [hent, nI_clamp (by omega)]
  refine qr_istore (lv' := [(4, (.int (nI (a0 * 6 + b0)))), (0, (.ref (ad 0))), (1, (.int x1)), (2, (.int x2)), (3, (.int x3))]) C dX6_sum_7 (by decide) rfl ?_
  refine qr_aload_n C dX6_sum_9 rfl 1 rfl ?_
  refine gf_X6_11 C (0) (qx_x hX) rfl rfl dX6_sum_10 ?_
  refine qr_iload_n C dX6_sum_13 rfl 2 rfl ?_
  refine qr_aald C 3 rfl rfl (1) (qx_ta hX) rfl (j := t0) ht0x (by omega) rfl (if_pos (by omega)) dX6_sum_14 ?_
  refine gf_X6_101 C ((10 + t0)) (qx_tb hX t0 (by omega)) rfl rfl dX6_sum_15 ?_
  refine qr_iload C dX6_sum_18 0 rfl ?_
  refine qr_iald C (x := ((χ (10 + t0)) ((a0 * 6 + b0)))) ((13 + t0)) (qx_su hX t0 (by omega)) rfl (j := (a0 * 6 + b0)) rfl (by omega) rfl rfl dX6_sum_20 ?_
  exact qr_iretX C rfl (Nat.le_of_ble_eq_true rfl) (Nat.le_of_ble_eq_true rfl) dX6_sum_21 (⟨by simp only [cx_sum, if_pos hc4, ite_self], sg_vi (by rw [ht0xc, hentc]), rfl, hX, fun t1 ht1 => rfl⟩)
def cx_sstep (χ : Nat → Nat → Int32) (x1 e : Int32) (k : Nat) (s : Int32) : Int32 := if χ 40 k = x1 then (if cx_counts (χ 41 k) (χ 42 k) (χ 44 k) e = 0 then s else s + χ 43 k) else s
def cx_sfs (χ : Nat → Nat → Int32) (x1 e : Int32) (n : Nat) : Int32 := sg_it (cx_sstep χ x1 e) 0 n
def cx_sfsC (χ : Nat → Nat → Int32) (x1 x2 x3 : Int32) : Int32 := if cx_ent χ x1 x2 x3 = 0 then 0 else 1
set_option maxHeartbeats 4000000 in
set_option maxRecDepth 100000 in
theorem k_X6_sumFromSales {l : Launch} (hst : l.stackTraces = false) (D : va_G) (ad : Nat → Nat) (g : qw_G) (χ : Nat → Nat → Int32) (nS nE : Nat) (hX : qx_P D χ nS nE ad g) (x1 x2 x3 : Int32) : qw_T l yX6_sumFromSales [Cond.code yX6_sumFromSales cX6_sumFromSales 7 (some .int)] { frames := 8, cells := 3, slots := 18, locals := 150 } D ad g [(.ref (ad 0)), (.int x1), (.int x2), (.int x3)] (qx_op D ad g nS nE (cx_sfsC χ x1 x2 x3) (cx_sfs χ x1 (cx_entv χ x1 x2 x3) nS) χ) (qx_px (cx_sfsC χ x1 x2 x3)) 3 18 := by
  refine qw_T.of (maxL := 7) (own := RX6) (lv := [(0, (.ref (ad 0))), (1, (.int x1)), (2, (.int x2)), (3, (.int x3))]) hst (by decide) rfl rfl (Nat.le_of_ble_eq_true rfl) ?_
  intro p e s m args below meth c A C hnt
  have hb := (qx_ct hX).2.2
  refine qr_aload_n C dX6_sumFromSales_0 rfl 0 rfl ?_
  refine qr_iload_n C dX6_sumFromSales_1 rfl 1 rfl ?_
  refine qr_iload_n C dX6_sumFromSales_2 rfl 2 rfl ?_
  refine qr_iload_n C dX6_sumFromSales_3 rfl 3 rfl ?_
  refine qr_callVX C (na := 3) (As := [(.int x1), (.int x2), (.int x3)]) (rest := []) (k_X6_entryOfTable hst D ad g χ nS nE hX x1 x2 x3) (0) (qx_x hX) rfl rfl gi_X6_97 rfl ⟨by decide, by decide, by decide +kernel⟩ rfl rfl (Nat.le_of_ble_eq_true rfl) rfl rfl ⟨Nat.le_of_ble_eq_true rfl, Nat.le_of_ble_eq_true rfl⟩ ⟨Nat.le_of_ble_eq_true rfl, Nat.le_of_ble_eq_true rfl⟩ dX6_sumFromSales_4 (fun E hE => by obtain ⟨rfl, hc⟩ := hE; exact qr_out C hnt (Or.inl ⟨rfl, by simp only [cx_sfsC, if_neg hc]⟩) (Nat.le_of_ble_eq_true rfl) (Nat.le_of_ble_eq_true rfl)) (fun v ad2 gc1 hpo2 => ?_)
  obtain ⟨t0, a0, b0, ht0, ha0, hb0, ht0x, hent, hc4, rfl, rfl, rfl⟩ := hpo2
  have ht0xc : x1.toNatClampNeg = t0 := by rw [ht0x, nI_clamp (by omega)]
  have hentc : (cx_entv χ x1 x2 x3).toNatClampNeg = a0 * 6 + b0 := by rw [hent, nI_clamp (by omega)]
  refine qr_istore (lv' := [(4, (.int (nI (a0 * 6 + b0)))), (0, (.ref (ad 0))), (1, (.int x1)), (2, (.int x2)), (3, (.int x3))]) C dX6_sumFromSales_7 (by decide) rfl ?_
  refine qr_iconst (v := 0) C dX6_sumFromSales_9 (by decide) ?_
  refine qr_istore (lv' := [(5, (.int (0 : Int32))), (4, (.int (nI (a0 * 6 + b0)))), (0, (.ref (ad 0))), (1, (.int x1)), (2, (.int x2)), (3, (.int x3))]) C dX6_sumFromSales_10 (by decide) rfl ?_
  refine qr_iconst (v := 0) C dX6_sumFromSales_12 (by decide) ?_
  refine qr_istore (lv' := [(6, (.int (0 : Int32))), (5, (.int (0 : Int32))), (4, (.int (nI (a0 * 6 + b0)))), (0, (.ref (ad 0))), (1, (.int x1)), (2, (.int x2)), (3, (.int x3))]) C dX6_sumFromSales_13 (by decide) rfl ?_
  have L15 : ∀ (j15 i15 : Nat) (ac : Int32), i15 + j15 = nS → ac = cx_sfs χ x1 (nI (a0 * 6 + b0)) i15 → qw_W p l e { frames := 8, cells := 3, slots := 18, locals := 150 } s m args below meth c D A 7 (vx_MQ below (qw_Q (qx_op D ad g nS nE (cx_sfsC χ x1 x2 x3) (cx_sfs χ x1 (cx_entv χ x1 x2 x3) nS) χ) D A) (qw_X (qx_px (cx_sfsC χ x1 x2 x3)) D A ad g) args s 3 18 A) (0 + 2) (0 + 12) ad g 15 [(0, (.ref (ad 0))), (1, (.int x1)), (2, (.int x2)), (3, (.int x3)), (4, (.int (nI (a0 * 6 + b0)))), (5, (.int ac)), (6, (.int (nI i15)))] [] := by
    intro j15
    induction j15 with
    | zero =>
      intro i15 ac hi15 hac
      obtain rfl : nS = i15 := by omega
      refine qr_iload C dX6_sumFromSales_15 6 rfl ?_
      refine qr_aload_n C dX6_sumFromSales_17 rfl 0 rfl ?_
      refine gf_X6_51 C (0) (qx_x hX) rfl rfl dX6_sumFromSales_18 ?_
      refine qr_icmp_ge_t C 74 dX6_sumFromSales_21 (by decide) ((sg_le (nS) (nS) (qx_ct hX).1 rfl (by omega) (by omega)).mpr (Nat.le_refl _)) ?_
      refine qr_iload C dX6_sumFromSales_74 5 rfl ?_
      exact qr_iretX C rfl (Nat.le_of_ble_eq_true rfl) (Nat.le_of_ble_eq_true rfl) dX6_sumFromSales_76 (⟨by simp only [cx_sfsC, if_pos hc4, ite_self], sg_vi (by rw [hent]; exact hac.symm), rfl, hX, fun t1 ht1 => rfl⟩)
    | succ j15 ih15 =>
      intro i15 ac hi15 hac
      refine qr_iload C dX6_sumFromSales_15 6 rfl ?_
      refine qr_aload_n C dX6_sumFromSales_17 rfl 0 rfl ?_
      refine gf_X6_51 C (0) (qx_x hX) rfl rfl dX6_sumFromSales_18 ?_
      refine qr_icmp_ge_f C 74 dX6_sumFromSales_21 (by decide) (fun z => absurd ((sg_le (nS) (i15) (qx_ct hX).1 rfl (by omega) (by omega)).mp z) (by omega)) ?_
      refine qr_aload_n C dX6_sumFromSales_24 rfl 0 rfl ?_
      refine gf_X6_18 C (0) (qx_x hX) rfl rfl dX6_sumFromSales_25 ?_
      refine qr_iload C dX6_sumFromSales_28 6 rfl ?_
      refine qr_aald C 4 rfl rfl (2) (qx_sa hX) rfl (j := i15) rfl (by omega) rfl (if_pos (by omega)) dX6_sumFromSales_30 ?_
      refine gf_X6_82 C ((1000 + i15)) (qx_sl hX i15 (by omega)) rfl rfl dX6_sumFromSales_31 ?_
      refine qr_iload_n C dX6_sumFromSales_34 rfl 1 rfl ?_
      refine qr_icmp_ne C 68 dX6_sumFromSales_35 (by decide) (fun c35 => ?_) (fun c35 => ?_)
      · skip
        refine qr_iinc (v := (nI (i15 + 1))) (lv' := [(6, (.int (nI (i15 + 1)))), (0, (.ref (ad 0))), (1, (.int x1)), (2, (.int x2)), (3, (.int x3)), (4, (.int (nI (a0 * 6 + b0)))), (5, (.int ac))]) C dX6_sumFromSales_68 (w := 6) rfl (nI_1 _) (by decide) rfl ?_
        refine qr_goto (tgt := 15) C dX6_sumFromSales_71 (by decide) ?_
        refine qw_pick [1, 2, 3, 4, 5, 6, 0] (lv' := [(0, (.ref (ad 0))), (1, (.int x1)), (2, (.int x2)), (3, (.int x3)), (4, (.int (nI (a0 * 6 + b0)))), (5, (.int ac)), (6, (.int (nI (i15 + 1))))]) rfl ?_
        exact ih15 (i15 + 1) ac (by omega) (by subst hac; exact (if_neg c35).symm)
      · skip
        refine qr_aload_n C dX6_sumFromSales_38 rfl 0 rfl ?_
        refine gf_X6_18 C (0) (qx_x hX) rfl rfl dX6_sumFromSales_39 ?_
        refine qr_iload C dX6_sumFromSales_42 6 rfl ?_
        refine qr_aald C 4 rfl rfl (2) (qx_sa hX) rfl (j := i15) rfl (by omega) rfl (if_pos (by omega)) dX6_sumFromSales_44 ?_
        refine qr_iload C dX6_sumFromSales_45 4 rfl ?_
        refine qr_callNV C (na := 1) (As := [(.int (nI (a0 * 6 + b0)))]) (rest := []) (k_X4_countsIn hst D ad g (1000 + i15) ((χ 40 i15)) ((χ 41 i15)) ((χ 42 i15)) ((χ 43 i15)) ((χ 44 i15)) (qx_sl hX i15 (by omega)) ((nI (a0 * 6 + b0)))) ((1000 + i15)) (qx_sl hX i15 (by omega)) rfl rfl gi_X6_105.1 gi_X6_105.2.1 gi_X6_105.2.2.1 gi_X6_105.2.2.2.1 gi_X6_105.2.2.2.2 ⟨by decide, by decide, by decide +kernel⟩ rfl rfl (Nat.le_of_ble_eq_true rfl) rfl rfl ⟨Nat.le_of_ble_eq_true rfl, Nat.le_of_ble_eq_true rfl⟩ ⟨Nat.le_of_ble_eq_true rfl, Nat.le_of_ble_eq_true rfl⟩ dX6_sumFromSales_47 (fun v ad2 gc3 hpo4 => ?_)
        obtain ⟨rfl, rfl, rfl⟩ := hpo4
        refine qr_if_eq C 68 dX6_sumFromSales_50 (by decide) (fun c50 => ?_) (fun c50 => ?_)
        · skip
          refine qr_iinc (v := (nI (i15 + 1))) (lv' := [(6, (.int (nI (i15 + 1)))), (0, (.ref (ad 0))), (1, (.int x1)), (2, (.int x2)), (3, (.int x3)), (4, (.int (nI (a0 * 6 + b0)))), (5, (.int ac))]) C dX6_sumFromSales_68 (w := 6) rfl (nI_1 _) (by decide) rfl ?_
          refine qr_goto (tgt := 15) C dX6_sumFromSales_71 (by decide) ?_
          refine qw_pick [1, 2, 3, 4, 5, 6, 0] (lv' := [(0, (.ref (ad 0))), (1, (.int x1)), (2, (.int x2)), (3, (.int x3)), (4, (.int (nI (a0 * 6 + b0)))), (5, (.int ac)), (6, (.int (nI (i15 + 1))))]) rfl ?_
          exact ih15 (i15 + 1) ac (by omega) (by subst hac; exact ((if_pos c35).trans (if_pos c50)).symm)
        · skip
          refine qr_iload C dX6_sumFromSales_53 5 rfl ?_
          refine qr_aload_n C dX6_sumFromSales_55 rfl 0 rfl ?_
          refine gf_X6_18 C (0) (qx_x hX) rfl rfl dX6_sumFromSales_56 ?_
          refine qr_iload C dX6_sumFromSales_59 6 rfl ?_
          refine qr_aald C 4 rfl rfl (2) (qx_sa hX) rfl (j := i15) rfl (by omega) rfl (if_pos (by omega)) dX6_sumFromSales_61 ?_
          refine gf_X6_91 C ((1000 + i15)) (qx_sl hX i15 (by omega)) rfl rfl dX6_sumFromSales_62 ?_
          refine qr_iadd C dX6_sumFromSales_65 ?_
          refine qr_istore (lv' := [(5, (.int (ac + (χ 43 i15)))), (0, (.ref (ad 0))), (1, (.int x1)), (2, (.int x2)), (3, (.int x3)), (4, (.int (nI (a0 * 6 + b0)))), (6, (.int (nI i15)))]) C dX6_sumFromSales_66 (by decide) rfl ?_
          refine qr_iinc (v := (nI (i15 + 1))) (lv' := [(6, (.int (nI (i15 + 1)))), (5, (.int (ac + (χ 43 i15)))), (0, (.ref (ad 0))), (1, (.int x1)), (2, (.int x2)), (3, (.int x3)), (4, (.int (nI (a0 * 6 + b0))))]) C dX6_sumFromSales_68 (w := 6) rfl (nI_1 _) (by decide) rfl ?_
          refine qr_goto (tgt := 15) C dX6_sumFromSales_71 (by decide) ?_
          refine qw_pick [2, 3, 4, 5, 6, 1, 0] (lv' := [(0, (.ref (ad 0))), (1, (.int x1)), (2, (.int x2)), (3, (.int x3)), (4, (.int (nI (a0 * 6 + b0)))), (5, (.int (ac + (χ 43 i15)))), (6, (.int (nI (i15 + 1))))]) rfl ?_
          exact ih15 (i15 + 1) (ac + (χ 43 i15)) (by omega) (by subst hac; exact ((if_pos c35).trans (if_neg c50)).symm)
  refine qw_pick [3, 4, 5, 6, 2, 1, 0] (lv' := [(0, (.ref (ad 0))), (1, (.int x1)), (2, (.int x2)), (3, (.int x3)), (4, (.int (nI (a0 * 6 + b0)))), (5, (.int (0 : Int32))), (6, (.int (0 : Int32)))]) rfl ?_
  exact L15 (nS) 0 (0 : Int32) (by omega) rfl
def cx_turn (x1 : Int32) : Int32 := if cx_tab x1 = 0 then 0 else 1
set_option maxHeartbeats 4000000 in
set_option maxRecDepth 100000 in
theorem k_X6_turn {l : Launch} (hst : l.stackTraces = false) (D : va_G) (ad : Nat → Nat) (g : qw_G) (χ : Nat → Nat → Int32) (nS nE : Nat) (hX : qx_P D χ nS nE ad g) (x1 : Int32) : qw_T l yX6_turn [Cond.code yX6_turn cX6_turn 3 (some .boolean)] { frames := 7, cells := 2, slots := 12, locals := 120 } D ad g [(.ref (ad 0)), (.int x1)] (qx_op D ad g nS nE (cx_turn x1) (sm_not (χ 5 x1.toNatClampNeg)) (va_up χ 5 (upd (χ 5) x1.toNatClampNeg (sm_not (χ 5 x1.toNatClampNeg))))) (qx_px (cx_turn x1)) 2 12 := by
  refine qw_T.of (maxL := 3) (own := RX6) (lv := [(0, (.ref (ad 0))), (1, (.int x1))]) hst (by decide) rfl rfl (Nat.le_of_ble_eq_true rfl) ?_
  intro p e s m args below meth c A C hnt
  have hb := (qx_ct hX).2.2
  refine qr_aload_n C dX6_turn_0 rfl 0 rfl ?_
  refine qr_iload_n C dX6_turn_1 rfl 1 rfl ?_
  refine qr_callVX C (na := 1) (As := [(.int x1)]) (rest := []) (k_X6_tableAt hst D ad g χ nS nE hX x1) (0) (qx_x hX) rfl rfl gi_X6_35 rfl ⟨by decide, by decide, by decide +kernel⟩ rfl rfl (Nat.le_of_ble_eq_true rfl) rfl rfl ⟨Nat.le_of_ble_eq_true rfl, Nat.le_of_ble_eq_true rfl⟩ ⟨Nat.le_of_ble_eq_true rfl, Nat.le_of_ble_eq_true rfl⟩ dX6_turn_2 (fun E hE => by obtain ⟨rfl, hc⟩ := hE; exact qr_out C hnt (Or.inl ⟨rfl, by simp only [cx_turn, if_neg hc]⟩) (Nat.le_of_ble_eq_true rfl) (Nat.le_of_ble_eq_true rfl)) (fun v ad2 gc1 hpo2 => ?_)
  obtain ⟨t, ht, htx, hc2, rfl, rfl, rfl⟩ := hpo2
  have htxc : x1.toNatClampNeg = t := by rw [htx, nI_clamp (by omega)]
  refine qr_astore_n (lv' := [(2, (.ref (ad (10 + t)))), (0, (.ref (ad 0))), (1, (.int x1))]) C dX6_turn_5 rfl (by decide) rfl ?_
  refine qr_aload_n C dX6_turn_6 rfl 0 rfl ?_
  have M7_2 : ∀ bn : Int32, bn = (if (χ 5 t) = 0 then (1 : Int32) else (0 : Int32)) → qw_W p l e { frames := 7, cells := 2, slots := 12, locals := 120 } s m args below meth c D A 3 (vx_MQ below (qw_Q (qx_op D ad g nS nE (cx_turn x1) (sm_not (χ 5 x1.toNatClampNeg)) (va_up χ 5 (upd (χ 5) x1.toNatClampNeg (sm_not (χ 5 x1.toNatClampNeg))))) D A) (qw_X (qx_px (cx_turn x1)) D A ad g) args s 2 12 A) (0 + 1) (0 + 6) ad g 19 [(2, (.ref (ad (10 + t)))), (0, (.ref (ad 0))), (1, (.int x1))] [(.int bn), (.ref (ad (10 + t)))] := by
    intro bn hbn
    have hbn : bn = sm_not (χ 5 t) := hbn.trans (rfl)
    refine pf_X6_94 C ((10 + t)) (qx_tb hX t (by omega)) rfl (qw_b01 (by rw [hbn]; exact sm_not01 _)).2.1 (qw_b01 (by rw [hbn]; exact sm_not01 _)).2.2 (Nat.le_of_ble_eq_true rfl) rfl dX6_turn_19 ?_
    generalize hg5 : va_up g ((10 + t)) _ = g4
    have hX6 : qx_P D (va_up χ 5 (upd (χ 5) t bn)) nS nE ad g4 := by rw [← hg5]; exact qx_w_turn hX t (by omega) bn
    refine qr_aload_n C dX6_turn_22 rfl 0 rfl ?_
    refine gf_X6_94 C ((10 + t)) (qx_tb hX6 t (by omega)) rfl rfl dX6_turn_23 ?_
    exact qr_zretX C rfl (by rw [show (va_up χ 5 (upd (χ 5) t bn)) 5 t = bn from pk_us, hbn]; exact sm_not01 _) (Nat.le_of_ble_eq_true rfl) (Nat.le_of_ble_eq_true rfl) dX6_turn_26 ((by subst hbn; exact ⟨by simp only [cx_turn, if_pos hc2, ite_self], sg_vi (by rw [htxc]; exact pk_us.symm), rfl, (by rw [htxc]; exact hX6), fun t1 ht1 => ((congrFun hg5 t1).symm.trans ((va_up_ne _ _ (by omega)).trans rfl))⟩))
  refine qr_aload_n C dX6_turn_7 rfl 0 rfl ?_
  refine gf_X6_94 C ((10 + t)) (qx_tb hX t (by omega)) rfl rfl dX6_turn_8 ?_
  refine qr_if_ne C 18 dX6_turn_11 (by decide) (fun c7 => ?_) (fun c7 => ?_)
  · skip
    refine qr_iconst (v := 0) C dX6_turn_18 (by decide) ?_
    exact M7_2 _ (by simp only [if_neg c7])
  · skip
    refine qr_iconst (v := 1) C dX6_turn_14 (by decide) ?_
    refine qr_goto (tgt := 19) C dX6_turn_15 (by decide) ?_
    exact M7_2 _ (by simp only [if_pos c7])
def cx_isE (χ : Nat → Nat → Int32) (x1 x2 x3 x4 : Int32) : Int32 := (if cx_ent χ x1 x2 x3 = 0 then (if cx_lev x4 = 0 then 0 else 1) else 1)
set_option maxHeartbeats 4000000 in
set_option maxRecDepth 100000 in
theorem k_X6_isEmbargoed {l : Launch} (hst : l.stackTraces = false) (D : va_G) (ad : Nat → Nat) (g : qw_G) (χ : Nat → Nat → Int32) (nS nE : Nat) (hX : qx_P D χ nS nE ad g) (x1 x2 x3 x4 : Int32) : qw_T l yX6_isEmbargoed [Cond.code yX6_isEmbargoed cX6_isEmbargoed 6 (some .boolean)] { frames := 8, cells := 3, slots := 18, locals := 150 } D ad g [(.ref (ad 0)), (.int x1), (.int x2), (.int x3), (.int x4)] (qx_op D ad g nS nE (cx_isE χ x1 x2 x3 x4) (sg_has (cx_bar χ x1 x4 nE) (cx_entv χ x1 x2 x3)) (χ)) (qx_px (cx_isE χ x1 x2 x3 x4)) 3 18 := by
  refine qw_T.of (maxL := 6) (own := RX6) (lv := [(0, (.ref (ad 0))), (1, (.int x1)), (2, (.int x2)), (3, (.int x3)), (4, (.int x4))]) hst (by decide) rfl rfl (Nat.le_of_ble_eq_true rfl) ?_
  intro p e s m args below meth c A C hnt
  have hb := (qx_ct hX).2.2
  refine qr_aload_n C dX6_isEmbargoed_0 rfl 0 rfl ?_
  refine qr_iload_n C dX6_isEmbargoed_1 rfl 1 rfl ?_
  refine qr_iload_n C dX6_isEmbargoed_2 rfl 2 rfl ?_
  refine qr_iload_n C dX6_isEmbargoed_3 rfl 3 rfl ?_
  refine qr_callVX C (na := 3) (As := [(.int x1), (.int x2), (.int x3)]) (rest := []) (k_X6_entryOfTable hst D ad g χ nS nE hX x1 x2 x3) (0) (qx_x hX) rfl rfl gi_X6_97 rfl ⟨by decide, by decide, by decide +kernel⟩ rfl rfl (Nat.le_of_ble_eq_true rfl) rfl rfl ⟨Nat.le_of_ble_eq_true rfl, Nat.le_of_ble_eq_true rfl⟩ ⟨Nat.le_of_ble_eq_true rfl, Nat.le_of_ble_eq_true rfl⟩ dX6_isEmbargoed_4 (fun E hE => by obtain ⟨rfl, hc⟩ := hE; exact qr_out C hnt (Or.inl ⟨rfl, by simp only [cx_isE, if_neg hc]⟩) (Nat.le_of_ble_eq_true rfl) (Nat.le_of_ble_eq_true rfl)) (fun v ad2 gc1 hpo2 => ?_)
  obtain ⟨t0, a0, b0, ht0, ha0, hb0, ht0x, hent, hc4, rfl, rfl, rfl⟩ := hpo2
  have ht0xc : x1.toNatClampNeg = t0 := by rw [ht0x, nI_clamp (by omega)]
  have hentc : (cx_entv χ x1 x2 x3).toNatClampNeg = a0 * 6 + b0 := by rw [hent, nI_clamp (by omega)]
  refine qr_istore (lv' := [(5, (.int (nI (a0 * 6 + b0)))), (0, (.ref (ad 0))), (1, (.int x1)), (2, (.int x2)), (3, (.int x3)), (4, (.int x4))]) C dX6_isEmbargoed_7 (by decide) rfl ?_
  refine qr_iload C dX6_isEmbargoed_9 5 rfl ?_
  refine qr_callSX C (na := 1) (As := [(.int x4)]) (rest := []) (k_X6_refuseStrangeLevel hst D ad g χ nS nE hX x4) gi_X6_139 ⟨by decide, by decide, by decide +kernel⟩ rfl rfl (Nat.le_of_ble_eq_true rfl) rfl rfl ⟨Nat.le_of_ble_eq_true rfl, Nat.le_of_ble_eq_true rfl⟩ ⟨Nat.le_of_ble_eq_true rfl, Nat.le_of_ble_eq_true rfl⟩ dX6_isEmbargoed_11 (fun E hE => by obtain ⟨rfl, hc⟩ := hE; exact qr_out C hnt (Or.inl ⟨rfl, by simp only [cx_isE, if_pos hc4, if_neg hc]⟩) (Nat.le_of_ble_eq_true rfl) (Nat.le_of_ble_eq_true rfl)) (fun v ad2 gc3 hpo4 => ?_)
  obtain ⟨v0, hv0, hv0x, hc11, rfl, rfl, rfl⟩ := hpo4
  refine qr_aload_n C dX6_isEmbargoed_14 rfl 1 rfl ?_
  refine qr_iload_n C dX6_isEmbargoed_15 rfl 2 rfl ?_
  refine qr_iload C dX6_isEmbargoed_16 5 rfl ?_
  refine qr_callV C (na := 2) (As := [(.int x1), (.int x4)]) (rest := []) (k_X6_embargoedFor hst D ad g χ nS nE hX (x1) (x4)) (0) (qx_x hX) rfl rfl gi_X6_143 rfl ⟨by decide, by decide, by decide +kernel⟩ rfl rfl (Nat.le_of_ble_eq_true rfl) rfl rfl ⟨Nat.le_of_ble_eq_true rfl, Nat.le_of_ble_eq_true rfl⟩ ⟨Nat.le_of_ble_eq_true rfl, Nat.le_of_ble_eq_true rfl⟩ dX6_isEmbargoed_18 (fun v ad2 gc5 hpo6 => ?_)
  obtain ⟨rfl, rfl, rfl⟩ := hpo6
  refine qr_iload C dX6_isEmbargoed_21 0 rfl ?_
  refine qr_callS C (na := 2) (As := [(.int (cx_bar χ (x1) (x4) nE)), (.int (nI (a0 * 6 + b0)))]) (rest := []) (k_X6_contains hst D ad g ((cx_bar χ (x1) (x4) nE)) ((nI (a0 * 6 + b0)))) gi_X6_147 ⟨by decide, by decide, by decide +kernel⟩ rfl rfl (Nat.le_of_ble_eq_true rfl) rfl rfl ⟨Nat.le_of_ble_eq_true rfl, Nat.le_of_ble_eq_true rfl⟩ ⟨Nat.le_of_ble_eq_true rfl, Nat.le_of_ble_eq_true rfl⟩ dX6_isEmbargoed_23 (fun v ad2 gc7 hpo8 => ?_)
  obtain ⟨rfl, rfl, rfl⟩ := hpo8
  exact qr_zretX C rfl (sg_has01 _ _) (Nat.le_of_ble_eq_true rfl) (Nat.le_of_ble_eq_true rfl) dX6_isEmbargoed_26 (⟨by simp only [cx_isE, if_pos hc4, if_pos hc11, ite_self], sg_vi (by rw [hent]), rfl, hX, fun t1 ht1 => rfl⟩)
def cx_build (x1 x2 : Int32) : Int32 := if cx_rep x1 x2 = 0 then 0 else 1
set_option maxHeartbeats 4000000 in
set_option maxRecDepth 100000 in
theorem k_X6_build {l : Launch} (hst : l.stackTraces = false) (D : va_G) (ad : Nat → Nat) (g : qw_G) (χ : Nat → Nat → Int32) (nS nE : Nat) (hX : qx_P D χ nS nE ad g) (x1 x2 : Int32) : qw_T l yX6_build [Cond.code yX6_build cX6_build 5 (some .int)] { frames := 8, cells := 3, slots := 18, locals := 150 } D ad g [(.ref (ad 0)), (.int x1), (.int x2)] (qx_op D ad g nS nE (cx_build x1 x2) (sg_bc (sg_around (cx_bar χ x1 x2 nE))) (cx_fill χ x1.toNatClampNeg (sm_at x1 x2) (cx_bar χ x1 x2 nE) (sg_around (cx_bar χ x1 x2 nE)))) (qx_px (cx_build x1 x2)) 3 18 := by
  refine qw_T.of (maxL := 5) (own := RX6) (lv := [(0, (.ref (ad 0))), (1, (.int x1)), (2, (.int x2))]) hst (by decide) rfl rfl (Nat.le_of_ble_eq_true rfl) ?_
  intro p e s m args below meth c A C hnt
  have hb := (qx_ct hX).2.2
  refine qr_aload_n C dX6_build_0 rfl 0 rfl ?_
  refine qr_iload_n C dX6_build_1 rfl 1 rfl ?_
  refine qr_iload_n C dX6_build_2 rfl 2 rfl ?_
  refine qr_callVX C (na := 2) (As := [(.int x1), (.int x2)]) (rest := []) (k_X6_reportAt hst D ad g χ nS nE hX x1 x2) (0) (qx_x hX) rfl rfl gi_X6_156 rfl ⟨by decide, by decide, by decide +kernel⟩ rfl rfl (Nat.le_of_ble_eq_true rfl) rfl rfl ⟨Nat.le_of_ble_eq_true rfl, Nat.le_of_ble_eq_true rfl⟩ ⟨Nat.le_of_ble_eq_true rfl, Nat.le_of_ble_eq_true rfl⟩ dX6_build_3 (fun E hE => by obtain ⟨rfl, hc⟩ := hE; exact qr_out C hnt (Or.inl ⟨rfl, by simp only [cx_build, if_neg hc]⟩) (Nat.le_of_ble_eq_true rfl) (Nat.le_of_ble_eq_true rfl)) (fun v ad2 gc1 hpo2 => ?_)
  obtain ⟨t0, v0, ht0, hv0, ht0x, hv0x, hc3, rfl, rfl, rfl⟩ := hpo2
  have hatc : sm_at x1 x2 = 4 * t0 + v0 := by unfold sm_at; rw [ht0x, hv0x, show (4 : Int32) = nI 4 from rfl, pk_mul, nI_add, nI_clamp (by omega)]
  refine qr_astore_n (lv' := [(3, (.ref (ad (20 + (4 * t0 + v0))))), (0, (.ref (ad 0))), (1, (.int x1)), (2, (.int x2))]) C dX6_build_6 rfl (by decide) rfl ?_
  refine qr_aload_n C dX6_build_7 rfl 1 rfl ?_
  refine qr_iload_n C dX6_build_8 rfl 2 rfl ?_
  refine qr_iload_n C dX6_build_9 rfl 3 rfl ?_
  refine qr_callV C (na := 2) (As := [(.int x1), (.int x2)]) (rest := []) (k_X6_embargoedFor hst D ad g χ nS nE hX (x1) (x2)) (0) (qx_x hX) rfl rfl gi_X6_143 rfl ⟨by decide, by decide, by decide +kernel⟩ rfl rfl (Nat.le_of_ble_eq_true rfl) rfl rfl ⟨Nat.le_of_ble_eq_true rfl, Nat.le_of_ble_eq_true rfl⟩ ⟨Nat.le_of_ble_eq_true rfl, Nat.le_of_ble_eq_true rfl⟩ dX6_build_10 (fun v ad2 gc3 hpo4 => ?_)
  obtain ⟨rfl, rfl, rfl⟩ := hpo4
  refine qr_istore (lv' := [(4, (.int (cx_bar χ (x1) (x2) nE))), (3, (.ref (ad (20 + (4 * t0 + v0))))), (0, (.ref (ad 0))), (1, (.int x1)), (2, (.int x2))]) C dX6_build_13 (by decide) rfl ?_
  refine qr_aload_n C dX6_build_15 rfl 1 rfl ?_
  refine qr_aload_n C dX6_build_16 rfl 2 rfl ?_
  refine gf_X6_11 C (0) (qx_x hX) rfl rfl dX6_build_17 ?_
  refine qr_iload_n C dX6_build_20 rfl 3 rfl ?_
  refine qr_aald C 3 rfl rfl (1) (qx_ta hX) rfl (j := t0) ht0x (by omega) rfl (if_pos (by omega)) dX6_build_21 ?_
  refine qr_iload C dX6_build_22 0 rfl ?_
  refine qr_iload C dX6_build_24 0 rfl ?_
  refine qr_callNS C (na := 1) (As := [(.int (cx_bar χ (x1) (x2) nE))]) (rest := [(.int (cx_bar χ (x1) (x2) nE)), (.ref (ad (10 + t0))), (.ref (ad (20 + (4 * t0 + v0))))]) (k_X0_around hst D ad g ((cx_bar χ (x1) (x2) nE))) gi_X6_160.1 gi_X6_160.2.1 gi_X6_160.2.2.1 gi_X6_160.2.2.2 ⟨by decide, by decide, by decide +kernel⟩ rfl rfl (Nat.le_of_ble_eq_true rfl) rfl rfl ⟨Nat.le_of_ble_eq_true rfl, Nat.le_of_ble_eq_true rfl⟩ ⟨Nat.le_of_ble_eq_true rfl, Nat.le_of_ble_eq_true rfl⟩ dX6_build_26 (fun v ad2 gc5 hpo6 => ?_)
  obtain ⟨rfl, rfl, rfl⟩ := hpo6
  refine qr_callNV C (na := 3) (As := [(.ref (ad (10 + t0))), (.int (cx_bar χ (x1) (x2) nE)), (.int (sg_around ((cx_bar χ (x1) (x2) nE))))]) (rest := []) (k_X3_fill hst D ad g χ nS nE hX t0 (4 * t0 + v0) ht0 (by omega) ((cx_bar χ (x1) (x2) nE)) ((sg_around ((cx_bar χ (x1) (x2) nE))))) ((20 + (4 * t0 + v0))) (qx_rp hX (4 * t0 + v0) (by omega)) rfl rfl gi_X6_166.1 gi_X6_166.2.1 gi_X6_166.2.2.1 gi_X6_166.2.2.2.1 gi_X6_166.2.2.2.2 ⟨by decide, by decide, by decide +kernel⟩ rfl rfl (Nat.le_of_ble_eq_true rfl) rfl rfl ⟨Nat.le_of_ble_eq_true rfl, Nat.le_of_ble_eq_true rfl⟩ ⟨Nat.le_of_ble_eq_true rfl, Nat.le_of_ble_eq_true rfl⟩ dX6_build_29 (fun v ad2 gc7 hpo8 => ?_)
  obtain ⟨rfl, rfl, hX9, hfr10⟩ := hpo8
  refine qr_aload_n C dX6_build_32 rfl 1 rfl ?_
  refine gf_X6_172 C ((20 + (4 * t0 + v0))) (qx_rp hX9 (4 * t0 + v0) (by omega)) rfl rfl dX6_build_33 ?_
  refine qr_callS C (na := 1) (As := [(.int ((cx_fill χ t0 (4 * t0 + v0) ((cx_bar χ (x1) (x2) nE)) ((sg_around ((cx_bar χ (x1) (x2) nE))))) 9 (4 * t0 + v0)))]) (rest := []) (k_J6_bitCount_0f7a4 hst D ad gc7 (((cx_fill χ t0 (4 * t0 + v0) ((cx_bar χ (x1) (x2) nE)) ((sg_around ((cx_bar χ (x1) (x2) nE))))) 9 (4 * t0 + v0)))) gi_X6_175 ⟨by decide, by decide, by decide +kernel⟩ rfl rfl (Nat.le_of_ble_eq_true rfl) rfl rfl ⟨Nat.le_of_ble_eq_true rfl, Nat.le_of_ble_eq_true rfl⟩ ⟨Nat.le_of_ble_eq_true rfl, Nat.le_of_ble_eq_true rfl⟩ dX6_build_36 (fun v ad2 gc11 hpo12 => ?_)
  obtain ⟨rfl, rfl, rfl⟩ := hpo12
  exact qr_iretX C rfl (Nat.le_of_ble_eq_true rfl) (Nat.le_of_ble_eq_true rfl) dX6_build_39 (⟨by simp only [cx_build, if_pos hc3, hatc, ite_self], sg_vi (congrArg sg_bc pk_us.symm), rfl, (by rw [hatc, show x1.toNatClampNeg = t0 by rw [ht0x, nI_clamp (by omega)]]; exact hX9), fun t1 ht1 => ((hfr10 t1 ht1).trans rfl)⟩)
def cx_isB (x1 x2 : Int32) : Int32 := (if cx_rep x1 x2 = 0 then 0 else 1)
set_option maxHeartbeats 4000000 in
set_option maxRecDepth 100000 in
theorem k_X6_isBuilt {l : Launch} (hst : l.stackTraces = false) (D : va_G) (ad : Nat → Nat) (g : qw_G) (χ : Nat → Nat → Int32) (nS nE : Nat) (hX : qx_P D χ nS nE ad g) (x1 x2 : Int32) (h7 : ∀ j, χ 7 j = 0 ∨ χ 7 j = 1) : qw_T l yX6_isBuilt [Cond.code yX6_isBuilt cX6_isBuilt 3 (some .boolean)] { frames := 8, cells := 3, slots := 18, locals := 150 } D ad g [(.ref (ad 0)), (.int x1), (.int x2)] (qx_op D ad g nS nE (cx_isB x1 x2) (χ 7 (sm_at x1 x2)) (χ)) (qx_px (cx_isB x1 x2)) 3 18 := by
  refine qw_T.of (maxL := 3) (own := RX6) (lv := [(0, (.ref (ad 0))), (1, (.int x1)), (2, (.int x2))]) hst (by decide) rfl rfl (Nat.le_of_ble_eq_true rfl) ?_
  intro p e s m args below meth c A C hnt
  have hb := (qx_ct hX).2.2
  refine qr_aload_n C dX6_isBuilt_0 rfl 0 rfl ?_
  refine qr_iload_n C dX6_isBuilt_1 rfl 1 rfl ?_
  refine qr_iload_n C dX6_isBuilt_2 rfl 2 rfl ?_
  refine qr_callVX C (na := 2) (As := [(.int x1), (.int x2)]) (rest := []) (k_X6_reportAt hst D ad g χ nS nE hX x1 x2) (0) (qx_x hX) rfl rfl gi_X6_156 rfl ⟨by decide, by decide, by decide +kernel⟩ rfl rfl (Nat.le_of_ble_eq_true rfl) rfl rfl ⟨Nat.le_of_ble_eq_true rfl, Nat.le_of_ble_eq_true rfl⟩ ⟨Nat.le_of_ble_eq_true rfl, Nat.le_of_ble_eq_true rfl⟩ dX6_isBuilt_3 (fun E hE => by obtain ⟨rfl, hc⟩ := hE; exact qr_out C hnt (Or.inl ⟨rfl, by simp only [cx_isB, if_neg hc]⟩) (Nat.le_of_ble_eq_true rfl) (Nat.le_of_ble_eq_true rfl)) (fun v ad2 gc1 hpo2 => ?_)
  obtain ⟨t0, v0, ht0, hv0, ht0x, hv0x, hc3, rfl, rfl, rfl⟩ := hpo2
  have hatc : sm_at x1 x2 = 4 * t0 + v0 := by unfold sm_at; rw [ht0x, hv0x, show (4 : Int32) = nI 4 from rfl, pk_mul, nI_add, nI_clamp (by omega)]
  refine gf_X6_180 C ((20 + (4 * t0 + v0))) (qx_rp hX (4 * t0 + v0) (by omega)) rfl rfl dX6_isBuilt_6 ?_
  exact qr_zretX C rfl (h7 _) (Nat.le_of_ble_eq_true rfl) (Nat.le_of_ble_eq_true rfl) dX6_isBuilt_9 (⟨by simp only [cx_isB, if_pos hc3, hatc, ite_self], sg_vi (by rw [hatc]), rfl, hX, fun t1 ht1 => rfl⟩)
set_option maxRecDepth 20000 in
theorem gk_hid6 : (Cond.constant RX6 185 (-1000000000)) ∈ qw_Ts := by decide +kernel
def cx_shownV (χ : Nat → Nat → Int32) (x1 x2 x3 x4 : Int32) : Int32 := if sg_has (χ 9 (sm_at x1 x2)) (cx_entv χ x1 x3 x4) = 0 then χ (20 + sm_at x1 x2) (cx_entv χ x1 x3 x4).toNatClampNeg else -1000000000
def cx_whyV (χ : Nat → Nat → Int32) (x1 x2 x3 x4 : Int32) : Int32 := if χ 7 (sm_at x1 x2) = 0 then 3 else if sg_has (χ 8 (sm_at x1 x2)) (cx_entv χ x1 x3 x4) = 0 then (if sg_has (χ 9 (sm_at x1 x2)) (cx_entv χ x1 x3 x4) = 0 then 0 else 2) else 1
def cx_shown (χ : Nat → Nat → Int32) (x1 x2 x3 x4 : Int32) : Int32 := (if cx_rep x1 x2 = 0 then (if cx_ent χ x1 x3 x4 = 0 then (if (χ 7 (sm_at x1 x2)) = 0 then 3 else (if (sg_has ((χ 9 (sm_at x1 x2))) ((cx_entv χ x1 x3 x4))) = 0 then 0 else 0)) else 1) else 1)
set_option maxHeartbeats 4000000 in
set_option maxRecDepth 100000 in
theorem k_X6_shown {l : Launch} (hst : l.stackTraces = false) (D : va_G) (ad : Nat → Nat) (g : qw_G) (χ : Nat → Nat → Int32) (nS nE : Nat) (hX : qx_P D χ nS nE ad g) (x1 x2 x3 x4 : Int32) : qw_T l yX6_shown [Cond.code yX6_shown cX6_shown 7 (some .int)] { frames := 8, cells := 5, slots := 30, locals := 150 } D ad g [(.ref (ad 0)), (.int x1), (.int x2), (.int x3), (.int x4)] (qx_op D ad g nS nE (cx_shown χ x1 x2 x3 x4) (cx_shownV χ x1 x2 x3 x4) (χ)) (qx_px (cx_shown χ x1 x2 x3 x4)) 5 30 := by
  refine qw_T.of (maxL := 7) (own := RX6) (lv := [(0, (.ref (ad 0))), (1, (.int x1)), (2, (.int x2)), (3, (.int x3)), (4, (.int x4))]) hst (by decide) rfl rfl (Nat.le_of_ble_eq_true rfl) ?_
  intro p e s m args below meth c A C hnt
  have hb := (qx_ct hX).2.2
  refine qr_aload_n C dX6_shown_0 rfl 0 rfl ?_
  refine qr_iload_n C dX6_shown_1 rfl 1 rfl ?_
  refine qr_iload_n C dX6_shown_2 rfl 2 rfl ?_
  refine qr_callVX C (na := 2) (As := [(.int x1), (.int x2)]) (rest := []) (k_X6_reportAt hst D ad g χ nS nE hX x1 x2) (0) (qx_x hX) rfl rfl gi_X6_156 rfl ⟨by decide, by decide, by decide +kernel⟩ rfl rfl (Nat.le_of_ble_eq_true rfl) rfl rfl ⟨Nat.le_of_ble_eq_true rfl, Nat.le_of_ble_eq_true rfl⟩ ⟨Nat.le_of_ble_eq_true rfl, Nat.le_of_ble_eq_true rfl⟩ dX6_shown_3 (fun E hE => by obtain ⟨rfl, hc⟩ := hE; exact qr_out C hnt (Or.inl ⟨rfl, by simp only [cx_shown, if_neg hc]⟩) (Nat.le_of_ble_eq_true rfl) (Nat.le_of_ble_eq_true rfl)) (fun v ad2 gc1 hpo2 => ?_)
  obtain ⟨t0, v0, ht0, hv0, ht0x, hv0x, hc3, rfl, rfl, rfl⟩ := hpo2
  have hatc : sm_at x1 x2 = 4 * t0 + v0 := by unfold sm_at; rw [ht0x, hv0x, show (4 : Int32) = nI 4 from rfl, pk_mul, nI_add, nI_clamp (by omega)]
  refine qr_astore (lv' := [(5, (.ref (ad (20 + (4 * t0 + v0))))), (0, (.ref (ad 0))), (1, (.int x1)), (2, (.int x2)), (3, (.int x3)), (4, (.int x4))]) C dX6_shown_6 (by decide) rfl ?_
  refine qr_aload_n C dX6_shown_8 rfl 1 rfl ?_
  refine qr_iload_n C dX6_shown_9 rfl 2 rfl ?_
  refine qr_iload_n C dX6_shown_10 rfl 4 rfl ?_
  refine qr_iload C dX6_shown_11 5 rfl ?_
  refine qr_callVX C (na := 3) (As := [(.int x1), (.int x3), (.int x4)]) (rest := []) (k_X6_entryOfTable hst D ad g χ nS nE hX x1 x3 x4) (0) (qx_x hX) rfl rfl gi_X6_97 rfl ⟨by decide, by decide, by decide +kernel⟩ rfl rfl (Nat.le_of_ble_eq_true rfl) rfl rfl ⟨Nat.le_of_ble_eq_true rfl, Nat.le_of_ble_eq_true rfl⟩ ⟨Nat.le_of_ble_eq_true rfl, Nat.le_of_ble_eq_true rfl⟩ dX6_shown_13 (fun E hE => by obtain ⟨rfl, hc⟩ := hE; exact qr_out C hnt (Or.inl ⟨rfl, by simp only [cx_shown, if_pos hc3, hatc, if_neg hc]⟩) (Nat.le_of_ble_eq_true rfl) (Nat.le_of_ble_eq_true rfl)) (fun v ad2 gc3 hpo4 => ?_)
  obtain ⟨t2, a0, b0, ht2, ha0, hb0, ht2x, hent, hc13, rfl, rfl, rfl⟩ := hpo4
  have ht2xc : x1.toNatClampNeg = t2 := by rw [ht2x, nI_clamp (by omega)]
  have hentc : (cx_entv χ x1 x3 x4).toNatClampNeg = a0 * 6 + b0 := by rw [hent, nI_clamp (by omega)]
  refine qr_istore (lv' := [(6, (.int (nI (a0 * 6 + b0)))), (5, (.ref (ad (20 + (4 * t0 + v0))))), (0, (.ref (ad 0))), (1, (.int x1)), (2, (.int x2)), (3, (.int x3)), (4, (.int x4))]) C dX6_shown_16 (by decide) rfl ?_
  refine qr_aload C dX6_shown_18 1 rfl ?_
  refine gf_X6_180 C ((20 + (4 * t0 + v0))) (qx_rp hX (4 * t0 + v0) (by omega)) rfl rfl dX6_shown_20 ?_
  refine qr_if_ne C 36 dX6_shown_23 (by decide) (fun c23 => ?_) (fun c23 => ?_)
  · skip
    refine qr_aload C dX6_shown_36 1 rfl ?_
    refine gf_X6_172 C ((20 + (4 * t0 + v0))) (qx_rp hX (4 * t0 + v0) (by omega)) rfl rfl dX6_shown_38 ?_
    refine qr_iload C dX6_shown_41 0 rfl ?_
    refine qr_callS C (na := 2) (As := [(.int (χ 9 (4 * t0 + v0))), (.int (nI (a0 * 6 + b0)))]) (rest := []) (k_X6_contains hst D ad g ((χ 9 (4 * t0 + v0))) ((nI (a0 * 6 + b0)))) gi_X6_147 ⟨by decide, by decide, by decide +kernel⟩ rfl rfl (Nat.le_of_ble_eq_true rfl) rfl rfl ⟨Nat.le_of_ble_eq_true rfl, Nat.le_of_ble_eq_true rfl⟩ ⟨Nat.le_of_ble_eq_true rfl, Nat.le_of_ble_eq_true rfl⟩ dX6_shown_43 (fun v ad2 gc5 hpo6 => ?_)
    obtain ⟨rfl, rfl, rfl⟩ := hpo6
    refine qr_if_eq C 54 dX6_shown_46 (by decide) (fun c46 => ?_) (fun c46 => ?_)
    · skip
      refine qr_aload C dX6_shown_54 1 rfl ?_
      refine gf_X6_186 C ((20 + (4 * t0 + v0))) (qx_rp hX (4 * t0 + v0) (by omega)) rfl rfl dX6_shown_56 ?_
      refine qr_iload C dX6_shown_59 0 rfl ?_
      refine qr_iald C (x := ((χ (20 + (4 * t0 + v0))) ((a0 * 6 + b0)))) ((40 + (4 * t0 + v0))) (qx_nu hX (4 * t0 + v0) (by omega)) rfl (j := (a0 * 6 + b0)) rfl (by omega) rfl rfl dX6_shown_61 ?_
      exact qr_iretX C rfl (Nat.le_of_ble_eq_true rfl) (Nat.le_of_ble_eq_true rfl) dX6_shown_62 (⟨by simp only [cx_shown, if_pos hc3, hatc, if_pos hc13, if_neg c23, ite_self], sg_vi (by unfold cx_shownV; rw [hatc, hentc, hent]; exact if_pos c46), rfl, hX, fun t1 ht1 => rfl⟩)
    · skip
      refine qr_ldc (v := -1000000000) C (gk_hid6) dX6_shown_49 ?_
      refine qr_goto (tgt := 62) C dX6_shown_51 (by decide) ?_
      exact qr_iretX C rfl (Nat.le_of_ble_eq_true rfl) (Nat.le_of_ble_eq_true rfl) dX6_shown_62 (⟨by simp only [cx_shown, if_pos hc3, hatc, if_pos hc13, if_neg c23, ite_self], sg_vi (by unfold cx_shownV; rw [hatc, hentc, hent]; exact if_neg c46), rfl, hX, fun t1 ht1 => rfl⟩)
  · skip
    exact qr_throw3 C hnt (is := 183) (tx := "there is no report") (by decide) (Or.inr (Or.inr ⟨rfl, by simp only [cx_shown, if_pos hc3, hatc, if_pos hc13, if_pos c23]⟩)) dX6_shown_26 dX6_shown_29 dX6_shown_30 dX6_shown_32 dX6_shown_35 (Nat.le_of_ble_eq_true rfl) (Nat.le_of_ble_eq_true rfl) (Nat.le_of_ble_eq_true rfl) (Nat.le_of_ble_eq_true rfl) (Nat.le_of_ble_eq_true rfl) (Nat.le_of_ble_eq_true rfl)
def cx_whyC (χ : Nat → Nat → Int32) (x1 x2 x3 x4 : Int32) : Int32 := if cx_rep x1 x2 = 0 then (if cx_ent χ x1 x3 x4 = 0 then 0 else 1) else 1
set_option maxHeartbeats 4000000 in
set_option maxRecDepth 100000 in
theorem k_X6_why {l : Launch} (hst : l.stackTraces = false) (D : va_G) (ad : Nat → Nat) (g : qw_G) (χ : Nat → Nat → Int32) (nS nE : Nat) (hX : qx_P D χ nS nE ad g) (x1 x2 x3 x4 : Int32) : qw_T l yX6_why [Cond.code yX6_why cX6_why 7 (some .int)] { frames := 8, cells := 5, slots := 30, locals := 150 } D ad g [(.ref (ad 0)), (.int x1), (.int x2), (.int x3), (.int x4)] (qx_op D ad g nS nE (cx_whyC χ x1 x2 x3 x4) (cx_whyV χ x1 x2 x3 x4) χ) (qx_px (cx_whyC χ x1 x2 x3 x4)) 5 30 := by
  refine qw_T.of (maxL := 7) (own := RX6) (lv := [(0, (.ref (ad 0))), (1, (.int x1)), (2, (.int x2)), (3, (.int x3)), (4, (.int x4))]) hst (by decide) rfl rfl (Nat.le_of_ble_eq_true rfl) ?_
  intro p e s m args below meth c A C hnt
  have hb := (qx_ct hX).2.2
  refine qr_aload_n C dX6_why_0 rfl 0 rfl ?_
  refine qr_iload_n C dX6_why_1 rfl 1 rfl ?_
  refine qr_iload_n C dX6_why_2 rfl 2 rfl ?_
  refine qr_callVX C (na := 2) (As := [(.int x1), (.int x2)]) (rest := []) (k_X6_reportAt hst D ad g χ nS nE hX x1 x2) (0) (qx_x hX) rfl rfl gi_X6_156 rfl ⟨by decide, by decide, by decide +kernel⟩ rfl rfl (Nat.le_of_ble_eq_true rfl) rfl rfl ⟨Nat.le_of_ble_eq_true rfl, Nat.le_of_ble_eq_true rfl⟩ ⟨Nat.le_of_ble_eq_true rfl, Nat.le_of_ble_eq_true rfl⟩ dX6_why_3 (fun E hE => by obtain ⟨rfl, hc⟩ := hE; exact qr_out C hnt (Or.inl ⟨rfl, by simp only [cx_whyC, if_neg hc]⟩) (Nat.le_of_ble_eq_true rfl) (Nat.le_of_ble_eq_true rfl)) (fun v ad2 gc1 hpo2 => ?_)
  obtain ⟨t0, v0, ht0, hv0, ht0x, hv0x, hc3, rfl, rfl, rfl⟩ := hpo2
  have hatc : sm_at x1 x2 = 4 * t0 + v0 := by unfold sm_at; rw [ht0x, hv0x, show (4 : Int32) = nI 4 from rfl, pk_mul, nI_add, nI_clamp (by omega)]
  refine qr_astore (lv' := [(5, (.ref (ad (20 + (4 * t0 + v0))))), (0, (.ref (ad 0))), (1, (.int x1)), (2, (.int x2)), (3, (.int x3)), (4, (.int x4))]) C dX6_why_6 (by decide) rfl ?_
  refine qr_aload_n C dX6_why_8 rfl 1 rfl ?_
  refine qr_iload_n C dX6_why_9 rfl 2 rfl ?_
  refine qr_iload_n C dX6_why_10 rfl 4 rfl ?_
  refine qr_iload C dX6_why_11 5 rfl ?_
  refine qr_callVX C (na := 3) (As := [(.int x1), (.int x3), (.int x4)]) (rest := []) (k_X6_entryOfTable hst D ad g χ nS nE hX x1 x3 x4) (0) (qx_x hX) rfl rfl gi_X6_97 rfl ⟨by decide, by decide, by decide +kernel⟩ rfl rfl (Nat.le_of_ble_eq_true rfl) rfl rfl ⟨Nat.le_of_ble_eq_true rfl, Nat.le_of_ble_eq_true rfl⟩ ⟨Nat.le_of_ble_eq_true rfl, Nat.le_of_ble_eq_true rfl⟩ dX6_why_13 (fun E hE => by obtain ⟨rfl, hc⟩ := hE; exact qr_out C hnt (Or.inl ⟨rfl, by simp only [cx_whyC, if_pos hc3, hatc, if_neg hc]⟩) (Nat.le_of_ble_eq_true rfl) (Nat.le_of_ble_eq_true rfl)) (fun v ad2 gc3 hpo4 => ?_)
  obtain ⟨t2, a0, b0, ht2, ha0, hb0, ht2x, hent, hc13, rfl, rfl, rfl⟩ := hpo4
  have ht2xc : x1.toNatClampNeg = t2 := by rw [ht2x, nI_clamp (by omega)]
  have hentc : (cx_entv χ x1 x3 x4).toNatClampNeg = a0 * 6 + b0 := by rw [hent, nI_clamp (by omega)]
  refine qr_istore (lv' := [(6, (.int (nI (a0 * 6 + b0)))), (5, (.ref (ad (20 + (4 * t0 + v0))))), (0, (.ref (ad 0))), (1, (.int x1)), (2, (.int x2)), (3, (.int x3)), (4, (.int x4))]) C dX6_why_16 (by decide) rfl ?_
  refine qr_aload C dX6_why_18 1 rfl ?_
  refine gf_X6_180 C ((20 + (4 * t0 + v0))) (qx_rp hX (4 * t0 + v0) (by omega)) rfl rfl dX6_why_20 ?_
  refine qr_if_ne C 28 dX6_why_23 (by decide) (fun c23 => ?_) (fun c23 => ?_)
  · skip
    refine qr_aload C dX6_why_28 1 rfl ?_
    refine gf_X6_189 C ((20 + (4 * t0 + v0))) (qx_rp hX (4 * t0 + v0) (by omega)) rfl rfl dX6_why_30 ?_
    refine qr_iload C dX6_why_33 0 rfl ?_
    refine qr_callS C (na := 2) (As := [(.int (χ 8 (4 * t0 + v0))), (.int (nI (a0 * 6 + b0)))]) (rest := []) (k_X6_contains hst D ad g ((χ 8 (4 * t0 + v0))) ((nI (a0 * 6 + b0)))) gi_X6_147 ⟨by decide, by decide, by decide +kernel⟩ rfl rfl (Nat.le_of_ble_eq_true rfl) rfl rfl ⟨Nat.le_of_ble_eq_true rfl, Nat.le_of_ble_eq_true rfl⟩ ⟨Nat.le_of_ble_eq_true rfl, Nat.le_of_ble_eq_true rfl⟩ dX6_why_35 (fun v ad2 gc5 hpo6 => ?_)
    obtain ⟨rfl, rfl, rfl⟩ := hpo6
    refine qr_if_eq C 43 dX6_why_38 (by decide) (fun c38 => ?_) (fun c38 => ?_)
    · skip
      refine qr_aload C dX6_why_43 1 rfl ?_
      refine gf_X6_172 C ((20 + (4 * t0 + v0))) (qx_rp hX (4 * t0 + v0) (by omega)) rfl rfl dX6_why_45 ?_
      refine qr_iload C dX6_why_48 0 rfl ?_
      refine qr_callS C (na := 2) (As := [(.int (χ 9 (4 * t0 + v0))), (.int (nI (a0 * 6 + b0)))]) (rest := []) (k_X6_contains hst D ad g ((χ 9 (4 * t0 + v0))) ((nI (a0 * 6 + b0)))) gi_X6_147 ⟨by decide, by decide, by decide +kernel⟩ rfl rfl (Nat.le_of_ble_eq_true rfl) rfl rfl ⟨Nat.le_of_ble_eq_true rfl, Nat.le_of_ble_eq_true rfl⟩ ⟨Nat.le_of_ble_eq_true rfl, Nat.le_of_ble_eq_true rfl⟩ dX6_why_50 (fun v ad2 gc7 hpo8 => ?_)
      obtain ⟨rfl, rfl, rfl⟩ := hpo8
      refine qr_if_eq C 60 dX6_why_53 (by decide) (fun c53 => ?_) (fun c53 => ?_)
      · skip
        refine qr_iconst (v := 0) C dX6_why_60 (by decide) ?_
        exact qr_iretX C rfl (Nat.le_of_ble_eq_true rfl) (Nat.le_of_ble_eq_true rfl) dX6_why_61 (⟨by simp only [cx_whyC, if_pos hc3, hatc, if_pos hc13, ite_self], sg_vi (by unfold cx_whyV; rw [hatc, hent]; exact (if_neg c23).trans ((if_pos c38).trans (if_pos c53))), rfl, hX, fun t1 ht1 => rfl⟩)
      · skip
        refine qr_iconst (v := 2) C dX6_why_56 (by decide) ?_
        refine qr_goto (tgt := 61) C dX6_why_57 (by decide) ?_
        exact qr_iretX C rfl (Nat.le_of_ble_eq_true rfl) (Nat.le_of_ble_eq_true rfl) dX6_why_61 (⟨by simp only [cx_whyC, if_pos hc3, hatc, if_pos hc13, ite_self], sg_vi (by unfold cx_whyV; rw [hatc, hent]; exact (if_neg c23).trans ((if_pos c38).trans (if_neg c53))), rfl, hX, fun t1 ht1 => rfl⟩)
    · skip
      refine qr_iconst (v := 1) C dX6_why_41 (by decide) ?_
      exact qr_iretX C rfl (Nat.le_of_ble_eq_true rfl) (Nat.le_of_ble_eq_true rfl) dX6_why_42 (⟨by simp only [cx_whyC, if_pos hc3, hatc, if_pos hc13, ite_self], sg_vi (by unfold cx_whyV; rw [hatc, hent]; exact (if_neg c23).trans (if_neg c38)), rfl, hX, fun t1 ht1 => rfl⟩)
  · skip
    refine qr_iconst (v := 3) C dX6_why_26 (by decide) ?_
    exact qr_iretX C rfl (Nat.le_of_ble_eq_true rfl) (Nat.le_of_ble_eq_true rfl) dX6_why_27 (⟨by simp only [cx_whyC, if_pos hc3, hatc, if_pos hc13, ite_self], sg_vi (by unfold cx_whyV; rw [hatc, hent]; exact if_pos c23), rfl, hX, fun t1 ht1 => rfl⟩)
def cx_read (χ : Nat → Nat → Int32) (x1 x2 : Int32) : Int32 := (if cx_rep x1 x2 = 0 then (if (χ 7 (sm_at x1 x2)) = 0 then 3 else 0) else 1)
set_option maxHeartbeats 4000000 in
set_option maxRecDepth 100000 in
theorem k_X6_read {l : Launch} (hst : l.stackTraces = false) (D : va_G) (ad : Nat → Nat) (g : qw_G) (χ : Nat → Nat → Int32) (nS nE : Nat) (hX : qx_P D χ nS nE ad g) (x1 x2 : Int32) : qw_T l yX6_read [Cond.code yX6_read cX6_read 4 (some .int)] { frames := 8, cells := 3, slots := 18, locals := 150 } D ad g [(.ref (ad 0)), (.int x1), (.int x2)] (qx_op D ad g nS nE (cx_read χ x1 x2) (χ 13 (sm_at x1 x2)) (χ)) (qx_px (cx_read χ x1 x2)) 3 18 := by
  refine qw_T.of (maxL := 4) (own := RX6) (lv := [(0, (.ref (ad 0))), (1, (.int x1)), (2, (.int x2))]) hst (by decide) rfl rfl (Nat.le_of_ble_eq_true rfl) ?_
  intro p e s m args below meth c A C hnt
  have hb := (qx_ct hX).2.2
  refine qr_aload_n C dX6_read_0 rfl 0 rfl ?_
  refine qr_iload_n C dX6_read_1 rfl 1 rfl ?_
  refine qr_iload_n C dX6_read_2 rfl 2 rfl ?_
  refine qr_callVX C (na := 2) (As := [(.int x1), (.int x2)]) (rest := []) (k_X6_reportAt hst D ad g χ nS nE hX x1 x2) (0) (qx_x hX) rfl rfl gi_X6_156 rfl ⟨by decide, by decide, by decide +kernel⟩ rfl rfl (Nat.le_of_ble_eq_true rfl) rfl rfl ⟨Nat.le_of_ble_eq_true rfl, Nat.le_of_ble_eq_true rfl⟩ ⟨Nat.le_of_ble_eq_true rfl, Nat.le_of_ble_eq_true rfl⟩ dX6_read_3 (fun E hE => by obtain ⟨rfl, hc⟩ := hE; exact qr_out C hnt (Or.inl ⟨rfl, by simp only [cx_read, if_neg hc]⟩) (Nat.le_of_ble_eq_true rfl) (Nat.le_of_ble_eq_true rfl)) (fun v ad2 gc1 hpo2 => ?_)
  obtain ⟨t0, v0, ht0, hv0, ht0x, hv0x, hc3, rfl, rfl, rfl⟩ := hpo2
  have hatc : sm_at x1 x2 = 4 * t0 + v0 := by unfold sm_at; rw [ht0x, hv0x, show (4 : Int32) = nI 4 from rfl, pk_mul, nI_add, nI_clamp (by omega)]
  refine qr_astore_n (lv' := [(3, (.ref (ad (20 + (4 * t0 + v0))))), (0, (.ref (ad 0))), (1, (.int x1)), (2, (.int x2))]) C dX6_read_6 rfl (by decide) rfl ?_
  refine qr_aload_n C dX6_read_7 rfl 0 rfl ?_
  refine gf_X6_180 C ((20 + (4 * t0 + v0))) (qx_rp hX (4 * t0 + v0) (by omega)) rfl rfl dX6_read_8 ?_
  refine qr_if_ne C 24 dX6_read_11 (by decide) (fun c11 => ?_) (fun c11 => ?_)
  · skip
    refine qr_aload_n C dX6_read_24 rfl 0 rfl ?_
    refine gf_X6_192 C ((20 + (4 * t0 + v0))) (qx_rp hX (4 * t0 + v0) (by omega)) rfl rfl dX6_read_25 ?_
    exact qr_iretX C rfl (Nat.le_of_ble_eq_true rfl) (Nat.le_of_ble_eq_true rfl) dX6_read_28 (⟨by simp only [cx_read, if_pos hc3, hatc, if_neg c11, ite_self], sg_vi (by rw [hatc]), rfl, hX, fun t1 ht1 => rfl⟩)
  · skip
    exact qr_throw3 C hnt (is := 183) (tx := "there is no report") (by decide) (Or.inr (Or.inr ⟨rfl, by simp only [cx_read, if_pos hc3, hatc, if_pos c11]⟩)) dX6_read_14 dX6_read_17 dX6_read_18 dX6_read_20 dX6_read_23 (Nat.le_of_ble_eq_true rfl) (Nat.le_of_ble_eq_true rfl) (Nat.le_of_ble_eq_true rfl) (Nat.le_of_ble_eq_true rfl) (Nat.le_of_ble_eq_true rfl) (Nat.le_of_ble_eq_true rfl)
set_option maxHeartbeats 4000000 in
set_option maxRecDepth 100000 in
theorem k_X6_dropped {l : Launch} (hst : l.stackTraces = false) (D : va_G) (ad : Nat → Nat) (g : qw_G) (χ : Nat → Nat → Int32) (nS nE : Nat) (hX : qx_P D χ nS nE ad g)  : qw_M l yX6_dropped [Cond.code yX6_dropped cX6_dropped 1 (some .int)] { frames := 0, cells := 0, slots := 0, locals := 0 } D ad g [(.ref (ad 0))] (qw_kp ad g (some (.int (χ 3 0)))) 0 0 := by
  refine qw_M.of (maxL := 1) (own := RX6) (lv := [(0, (.ref (ad 0)))]) hst (by decide) rfl rfl (Nat.le_of_ble_eq_true rfl) ?_
  intro p e s m args below meth c A C hin
  have hb := (qx_ct hX).2.2
  refine qr_aload_n C dX6_dropped_0 rfl 0 rfl ?_
  refine gf_X6_153 C (0) (qx_x hX) rfl rfl dX6_dropped_1 ?_
  exact qr_iret C rfl (Nat.le_of_ble_eq_true rfl) (Nat.le_of_ble_eq_true rfl) dX6_dropped_4 (qw_kpn rfl)
def cx_mark (x1 x2 : Int32) : Int32 := if cx_eat x1 x2 = 0 then 0 else 1
def cx_mk (χ : Nat → Nat → Int32) (x1 x2 : Int32) : Int32 := χ 4 0 ^^^ (1 <<< ((x1 * 6 + x2) &&& 31))
set_option maxHeartbeats 4000000 in
set_option maxRecDepth 100000 in
theorem k_X6_mark {l : Launch} (hst : l.stackTraces = false) (D : va_G) (ad : Nat → Nat) (g : qw_G) (χ : Nat → Nat → Int32) (nS nE : Nat) (hX : qx_P D χ nS nE ad g) (x1 x2 : Int32) : qw_T l yX6_mark [Cond.code yX6_mark cX6_mark 4 (some .boolean)] { frames := 7, cells := 2, slots := 12, locals := 120 } D ad g [(.ref (ad 0)), (.int x1), (.int x2)] (qx_op D ad g nS nE (cx_mark x1 x2) (sg_has (cx_mk χ x1 x2) (x1 * 6 + x2)) (sg_u χ 4 (cx_mk χ x1 x2))) (qx_px (cx_mark x1 x2)) 2 12 := by
  refine qw_T.of (maxL := 4) (own := RX6) (lv := [(0, (.ref (ad 0))), (1, (.int x1)), (2, (.int x2))]) hst (by decide) rfl rfl (Nat.le_of_ble_eq_true rfl) ?_
  intro p e s m args below meth c A C hnt
  have hb := (qx_ct hX).2.2
  refine qr_iload_n C dX6_mark_0 rfl 1 rfl ?_
  refine qr_iload_n C dX6_mark_1 rfl 2 rfl ?_
  refine qr_callSX C (na := 2) (As := [(.int x1), (.int x2)]) (rest := []) (k_X6_entryAt hst D ad g χ nS nE hX x1 x2) gi_X6_195 ⟨by decide, by decide, by decide +kernel⟩ rfl rfl (Nat.le_of_ble_eq_true rfl) rfl rfl ⟨Nat.le_of_ble_eq_true rfl, Nat.le_of_ble_eq_true rfl⟩ ⟨Nat.le_of_ble_eq_true rfl, Nat.le_of_ble_eq_true rfl⟩ dX6_mark_2 (fun E hE => by obtain ⟨rfl, hc⟩ := hE; exact qr_out C hnt (Or.inl ⟨rfl, by simp only [cx_mark, if_neg hc]⟩) (Nat.le_of_ble_eq_true rfl) (Nat.le_of_ble_eq_true rfl)) (fun v ad2 gc1 hpo2 => ?_)
  obtain ⟨a0, b0, ha0, hb0, ha0x, hb0x, hc2, rfl, rfl, rfl⟩ := hpo2
  refine qr_istore_n (lv' := [(3, (.int (nI (a0 * 6 + b0)))), (0, (.ref (ad 0))), (1, (.int x1)), (2, (.int x2))]) C dX6_mark_5 rfl (by decide) rfl ?_
  refine qr_aload_n C dX6_mark_6 rfl 1 rfl ?_
  refine qr_dup C dX6_mark_7 rfl ?_
  refine gf_X6_198 C (0) (qx_x hX) rfl rfl dX6_mark_8 ?_
  refine qr_iconst (v := 1) C dX6_mark_11 (by decide) ?_
  refine qr_iload_n C dX6_mark_12 rfl 0 rfl ?_
  refine qr_ishl C dX6_mark_13 ?_
  refine qr_ixor C dX6_mark_14 ?_
  refine pf_X6_198 C (0) (qx_x hX) rfl rfl rfl (Nat.le_of_ble_eq_true rfl) rfl dX6_mark_15 ?_
  generalize hg4 : va_up g (0) _ = g3
  have hX5 : qx_P D (sg_u χ 4 ((χ 4 0) ^^^ ((1 : Int32) <<< ((nI (a0 * 6 + b0)) &&& 31)))) nS nE ad g3 := by rw [← hg4]; exact qx_w_mrk hX ((χ 4 0) ^^^ ((1 : Int32) <<< ((nI (a0 * 6 + b0)) &&& 31)))
  refine qr_aload_n C dX6_mark_18 rfl 1 rfl ?_
  refine gf_X6_198 C (0) (qx_x hX5) rfl rfl dX6_mark_19 ?_
  refine qr_iload_n C dX6_mark_22 rfl 0 rfl ?_
  refine qr_callS C (na := 2) (As := [(.int ((sg_u χ 4 ((χ 4 0) ^^^ ((1 : Int32) <<< ((nI (a0 * 6 + b0)) &&& 31)))) 4 0)), (.int (nI (a0 * 6 + b0)))]) (rest := []) (k_X6_contains hst D ad g3 (((sg_u χ 4 ((χ 4 0) ^^^ ((1 : Int32) <<< ((nI (a0 * 6 + b0)) &&& 31)))) 4 0)) ((nI (a0 * 6 + b0)))) gi_X6_147 ⟨by decide, by decide, by decide +kernel⟩ rfl rfl (Nat.le_of_ble_eq_true rfl) rfl rfl ⟨Nat.le_of_ble_eq_true rfl, Nat.le_of_ble_eq_true rfl⟩ ⟨Nat.le_of_ble_eq_true rfl, Nat.le_of_ble_eq_true rfl⟩ dX6_mark_23 (fun v ad2 gc6 hpo7 => ?_)
  obtain ⟨rfl, rfl, rfl⟩ := hpo7
  exact qr_zretX C rfl (sg_has01 _ _) (Nat.le_of_ble_eq_true rfl) (Nat.le_of_ble_eq_true rfl) dX6_mark_26 (⟨by simp only [cx_mark, if_pos hc2, ite_self], sg_vi (by unfold cx_mk; rw [sg_rc ha0x hb0x]; rfl), rfl, (by unfold cx_mk; rw [sg_rc ha0x hb0x]; exact hX5), fun t1 ht1 => ((congrFun hg4 t1).symm.trans ((va_up_ne _ _ (by omega)).trans rfl))⟩)
set_option maxHeartbeats 4000000 in
set_option maxRecDepth 100000 in
theorem k_X6_clear {l : Launch} (hst : l.stackTraces = false) (D : va_G) (ad : Nat → Nat) (g : qw_G) (χ : Nat → Nat → Int32) (nS nE : Nat) (hX : qx_P D χ nS nE ad g)  : qw_M l yX6_clear [Cond.code yX6_clear cX6_clear 2 (some .int)] { frames := 1, cells := 0, slots := 0, locals := 40 } D ad g [(.ref (ad 0))] (qx_to D ad g nS nE (some (.int (sg_bc (χ 4 0)))) (sg_u χ 4 0)) 0 0 := by
  refine qw_M.of (maxL := 2) (own := RX6) (lv := [(0, (.ref (ad 0)))]) hst (by decide) rfl rfl (Nat.le_of_ble_eq_true rfl) ?_
  intro p e s m args below meth c A C hin
  have hb := (qx_ct hX).2.2
  refine qr_aload_n C dX6_clear_0 rfl 0 rfl ?_
  refine gf_X6_198 C (0) (qx_x hX) rfl rfl dX6_clear_1 ?_
  refine qr_callS C (na := 1) (As := [(.int (χ 4 0))]) (rest := []) (k_J6_bitCount_0f7a4 hst D ad g ((χ 4 0))) gi_X6_175 ⟨by decide, by decide, by decide +kernel⟩ rfl rfl (Nat.le_of_ble_eq_true rfl) rfl rfl ⟨Nat.le_of_ble_eq_true rfl, Nat.le_of_ble_eq_true rfl⟩ ⟨Nat.le_of_ble_eq_true rfl, Nat.le_of_ble_eq_true rfl⟩ dX6_clear_4 (fun v ad2 gc1 hpo2 => ?_)
  obtain ⟨rfl, rfl, rfl⟩ := hpo2
  refine qr_istore_n (lv' := [(1, (.int (sg_bc ((χ 4 0))))), (0, (.ref (ad 0)))]) C dX6_clear_7 rfl (by decide) rfl ?_
  refine qr_aload_n C dX6_clear_8 rfl 1 rfl ?_
  refine qr_iconst (v := 0) C dX6_clear_9 (by decide) ?_
  refine pf_X6_198 C (0) (qx_x hX) rfl rfl rfl (Nat.le_of_ble_eq_true rfl) rfl dX6_clear_10 ?_
  generalize hg4 : va_up g (0) _ = g3
  have hX5 : qx_P D (sg_u χ 4 (0 : Int32)) nS nE ad g3 := by rw [← hg4]; exact qx_w_mrk hX (0 : Int32)
  refine qr_iload_n C dX6_clear_13 rfl 0 rfl ?_
  exact qr_iret C rfl (Nat.le_of_ble_eq_true rfl) (Nat.le_of_ble_eq_true rfl) dX6_clear_14 (⟨rfl, rfl, hX5, fun t1 ht1 => ((congrFun hg4 t1).symm.trans ((va_up_ne _ _ (by omega)).trans rfl))⟩)
def cx_known (χ : Nat → Nat → Int32) (x1 x2 : Int32) : Int32 := if sg_has (χ 4 0) (x1 * 6 + x2) = 0 then 1 else if sg_round (χ 4 0) (x1 * 6 + x2) = 0 then 1 else 0
set_option maxHeartbeats 4000000 in
set_option maxRecDepth 100000 in
theorem k_X6_isKnown {l : Launch} (hst : l.stackTraces = false) (D : va_G) (ad : Nat → Nat) (g : qw_G) (χ : Nat → Nat → Int32) (nS nE : Nat) (hX : qx_P D χ nS nE ad g) (x1 x2 : Int32) : qw_T l yX6_isKnown [Cond.code yX6_isKnown cX6_isKnown 4 (some .boolean)] { frames := 7, cells := 2, slots := 12, locals := 120 } D ad g [(.ref (ad 0)), (.int x1), (.int x2)] (qx_op D ad g nS nE (cx_mark x1 x2) (cx_known χ x1 x2) χ) (qx_px (cx_mark x1 x2)) 2 12 := by
  refine qw_T.of (maxL := 4) (own := RX6) (lv := [(0, (.ref (ad 0))), (1, (.int x1)), (2, (.int x2))]) hst (by decide) rfl rfl (Nat.le_of_ble_eq_true rfl) ?_
  intro p e s m args below meth c A C hnt
  have hb := (qx_ct hX).2.2
  refine qr_iload_n C dX6_isKnown_0 rfl 1 rfl ?_
  refine qr_iload_n C dX6_isKnown_1 rfl 2 rfl ?_
  refine qr_callSX C (na := 2) (As := [(.int x1), (.int x2)]) (rest := []) (k_X6_entryAt hst D ad g χ nS nE hX x1 x2) gi_X6_195 ⟨by decide, by decide, by decide +kernel⟩ rfl rfl (Nat.le_of_ble_eq_true rfl) rfl rfl ⟨Nat.le_of_ble_eq_true rfl, Nat.le_of_ble_eq_true rfl⟩ ⟨Nat.le_of_ble_eq_true rfl, Nat.le_of_ble_eq_true rfl⟩ dX6_isKnown_2 (fun E hE => by obtain ⟨rfl, hc⟩ := hE; exact qr_out C hnt (Or.inl ⟨rfl, by simp only [cx_mark, if_neg hc]⟩) (Nat.le_of_ble_eq_true rfl) (Nat.le_of_ble_eq_true rfl)) (fun v ad2 gc1 hpo2 => ?_)
  obtain ⟨a0, b0, ha0, hb0, ha0x, hb0x, hc2, rfl, rfl, rfl⟩ := hpo2
  refine qr_istore_n (lv' := [(3, (.int (nI (a0 * 6 + b0)))), (0, (.ref (ad 0))), (1, (.int x1)), (2, (.int x2))]) C dX6_isKnown_5 rfl (by decide) rfl ?_
  refine qr_aload_n C dX6_isKnown_6 rfl 1 rfl ?_
  refine gf_X6_198 C (0) (qx_x hX) rfl rfl dX6_isKnown_7 ?_
  refine qr_iload_n C dX6_isKnown_10 rfl 0 rfl ?_
  refine qr_callS C (na := 2) (As := [(.int (χ 4 0)), (.int (nI (a0 * 6 + b0)))]) (rest := []) (k_X6_contains hst D ad g ((χ 4 0)) ((nI (a0 * 6 + b0)))) gi_X6_147 ⟨by decide, by decide, by decide +kernel⟩ rfl rfl (Nat.le_of_ble_eq_true rfl) rfl rfl ⟨Nat.le_of_ble_eq_true rfl, Nat.le_of_ble_eq_true rfl⟩ ⟨Nat.le_of_ble_eq_true rfl, Nat.le_of_ble_eq_true rfl⟩ dX6_isKnown_11 (fun v ad2 gc3 hpo4 => ?_)
  obtain ⟨rfl, rfl, rfl⟩ := hpo4
  refine qr_if_eq C 28 dX6_isKnown_14 (by decide) (fun c14 => ?_) (fun c14 => ?_)
  · skip
    refine qr_iconst (v := 1) C dX6_isKnown_28 (by decide) ?_
    refine qr_goto (tgt := 33) C dX6_isKnown_29 (by decide) ?_
    exact qr_zretX C rfl (by decide) (Nat.le_of_ble_eq_true rfl) (Nat.le_of_ble_eq_true rfl) dX6_isKnown_33 (⟨by simp only [cx_mark, if_pos hc2, ite_self], sg_vi (by unfold cx_known; rw [sg_rc ha0x hb0x]; exact if_pos c14), rfl, hX, fun t1 ht1 => rfl⟩)
  · skip
    refine qr_aload_n C dX6_isKnown_17 rfl 1 rfl ?_
    refine gf_X6_198 C (0) (qx_x hX) rfl rfl dX6_isKnown_18 ?_
    refine qr_iload_n C dX6_isKnown_21 rfl 0 rfl ?_
    refine qr_callNS C (na := 2) (As := [(.int (χ 4 0)), (.int (nI (a0 * 6 + b0)))]) (rest := []) (k_X0_isOnRound hst D ad g ((χ 4 0)) ((nI (a0 * 6 + b0)))) gi_X6_201.1 gi_X6_201.2.1 gi_X6_201.2.2.1 gi_X6_201.2.2.2 ⟨by decide, by decide, by decide +kernel⟩ rfl rfl (Nat.le_of_ble_eq_true rfl) rfl rfl ⟨Nat.le_of_ble_eq_true rfl, Nat.le_of_ble_eq_true rfl⟩ ⟨Nat.le_of_ble_eq_true rfl, Nat.le_of_ble_eq_true rfl⟩ dX6_isKnown_22 (fun v ad2 gc5 hpo6 => ?_)
    obtain ⟨rfl, rfl, rfl⟩ := hpo6
    refine qr_if_ne C 32 dX6_isKnown_25 (by decide) (fun c25 => ?_) (fun c25 => ?_)
    · skip
      refine qr_iconst (v := 0) C dX6_isKnown_32 (by decide) ?_
      exact qr_zretX C rfl (by decide) (Nat.le_of_ble_eq_true rfl) (Nat.le_of_ble_eq_true rfl) dX6_isKnown_33 (⟨by simp only [cx_mark, if_pos hc2, ite_self], sg_vi (by unfold cx_known; rw [sg_rc ha0x hb0x]; exact (if_neg c14).trans (if_neg c25)), rfl, hX, fun t1 ht1 => rfl⟩)
    · skip
      refine qr_iconst (v := 1) C dX6_isKnown_28 (by decide) ?_
      refine qr_goto (tgt := 33) C dX6_isKnown_29 (by decide) ?_
      exact qr_zretX C rfl (by decide) (Nat.le_of_ble_eq_true rfl) (Nat.le_of_ble_eq_true rfl) dX6_isKnown_33 (⟨by simp only [cx_mark, if_pos hc2, ite_self], sg_vi (by unfold cx_known; rw [sg_rc ha0x hb0x]; exact (if_neg c14).trans (if_pos c25)), rfl, hX, fun t1 ht1 => rfl⟩)
set_option maxHeartbeats 4000000 in
set_option maxRecDepth 100000 in
theorem k_X6_cover {l : Launch} (hst : l.stackTraces = false) (D : va_G) (ad : Nat → Nat) (g : qw_G) (χ : Nat → Nat → Int32) (nS nE : Nat) (hX : qx_P D χ nS nE ad g)  : qw_M l yX6_cover [Cond.code yX6_cover cX6_cover 2 (some .int)] { frames := 3, cells := 0, slots := 0, locals := 100 } D ad g [(.ref (ad 0))] (qx_to D ad g nS nE (some (.int (sg_bc (sg_around (χ 4 0)) - sg_bc (χ 4 0)))) (sg_u χ 4 (sg_around (χ 4 0)))) 0 0 := by
  refine qw_M.of (maxL := 2) (own := RX6) (lv := [(0, (.ref (ad 0)))]) hst (by decide) rfl rfl (Nat.le_of_ble_eq_true rfl) ?_
  intro p e s m args below meth c A C hin
  have hb := (qx_ct hX).2.2
  refine qr_aload_n C dX6_cover_0 rfl 0 rfl ?_
  refine gf_X6_198 C (0) (qx_x hX) rfl rfl dX6_cover_1 ?_
  refine qr_callS C (na := 1) (As := [(.int (χ 4 0))]) (rest := []) (k_J6_bitCount_0f7a4 hst D ad g ((χ 4 0))) gi_X6_175 ⟨by decide, by decide, by decide +kernel⟩ rfl rfl (Nat.le_of_ble_eq_true rfl) rfl rfl ⟨Nat.le_of_ble_eq_true rfl, Nat.le_of_ble_eq_true rfl⟩ ⟨Nat.le_of_ble_eq_true rfl, Nat.le_of_ble_eq_true rfl⟩ dX6_cover_4 (fun v ad2 gc1 hpo2 => ?_)
  obtain ⟨rfl, rfl, rfl⟩ := hpo2
  refine qr_istore_n (lv' := [(1, (.int (sg_bc ((χ 4 0))))), (0, (.ref (ad 0)))]) C dX6_cover_7 rfl (by decide) rfl ?_
  refine qr_aload_n C dX6_cover_8 rfl 1 rfl ?_
  refine qr_aload_n C dX6_cover_9 rfl 1 rfl ?_
  refine gf_X6_198 C (0) (qx_x hX) rfl rfl dX6_cover_10 ?_
  refine qr_callNS C (na := 1) (As := [(.int (χ 4 0))]) (rest := [(.ref (ad 0))]) (k_X0_around hst D ad g ((χ 4 0))) gi_X6_160.1 gi_X6_160.2.1 gi_X6_160.2.2.1 gi_X6_160.2.2.2 ⟨by decide, by decide, by decide +kernel⟩ rfl rfl (Nat.le_of_ble_eq_true rfl) rfl rfl ⟨Nat.le_of_ble_eq_true rfl, Nat.le_of_ble_eq_true rfl⟩ ⟨Nat.le_of_ble_eq_true rfl, Nat.le_of_ble_eq_true rfl⟩ dX6_cover_13 (fun v ad2 gc3 hpo4 => ?_)
  obtain ⟨rfl, rfl, rfl⟩ := hpo4
  refine pf_X6_198 C (0) (qx_x hX) rfl rfl rfl (Nat.le_of_ble_eq_true rfl) rfl dX6_cover_16 ?_
  generalize hg6 : va_up g (0) _ = g5
  have hX7 : qx_P D (sg_u χ 4 (sg_around ((χ 4 0)))) nS nE ad g5 := by rw [← hg6]; exact qx_w_mrk hX (sg_around ((χ 4 0)))
  refine qr_aload_n C dX6_cover_19 rfl 1 rfl ?_
  refine gf_X6_198 C (0) (qx_x hX7) rfl rfl dX6_cover_20 ?_
  refine qr_callS C (na := 1) (As := [(.int ((sg_u χ 4 (sg_around ((χ 4 0)))) 4 0))]) (rest := []) (k_J6_bitCount_0f7a4 hst D ad g5 (((sg_u χ 4 (sg_around ((χ 4 0)))) 4 0))) gi_X6_175 ⟨by decide, by decide, by decide +kernel⟩ rfl rfl (Nat.le_of_ble_eq_true rfl) rfl rfl ⟨Nat.le_of_ble_eq_true rfl, Nat.le_of_ble_eq_true rfl⟩ ⟨Nat.le_of_ble_eq_true rfl, Nat.le_of_ble_eq_true rfl⟩ dX6_cover_23 (fun v ad2 gc8 hpo9 => ?_)
  obtain ⟨rfl, rfl, rfl⟩ := hpo9
  refine qr_iload_n C dX6_cover_26 rfl 0 rfl ?_
  refine qr_isub C dX6_cover_27 ?_
  exact qr_iret C rfl (Nat.le_of_ble_eq_true rfl) (Nat.le_of_ble_eq_true rfl) dX6_cover_28 (⟨rfl, rfl, hX7, fun t1 ht1 => ((congrFun hg6 t1).symm.trans ((va_up_ne _ _ (by omega)).trans rfl))⟩)
