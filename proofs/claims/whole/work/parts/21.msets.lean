def sm_in (x0 x1 x2 : Int32) : Int32 := (if x0 < x1 then (0 : Int32) else (if x2 < x0 then (0 : Int32) else (1 : Int32)))
set_option maxHeartbeats 4000000 in
set_option maxRecDepth 100000 in
theorem k_X7_in {l : Launch} (hst : l.stackTraces = false) (D : va_G) (ad : Nat → Nat) (g : qw_G) (x0 x1 x2 : Int32) : qw_M l yX7_in [Cond.code yX7_in cX7_in 3 (some .boolean)] { frames := 0, cells := 0, slots := 0, locals := 0 } D ad g [(.int x0), (.int x1), (.int x2)] (qw_kp ad g (some (.int (sm_in x0 x1 x2)))) 0 0 := by
  refine qw_M.of (maxL := 3) (own := RX7) (lv := [(0, (.int x0)), (1, (.int x1)), (2, (.int x2))]) hst (by decide) rfl rfl (Nat.le_of_ble_eq_true rfl) ?_
  intro p e s m args below meth c A C hin
  refine qr_iload_n C dX7_in_0 rfl 0 rfl ?_
  refine qr_iload_n C dX7_in_1 rfl 1 rfl ?_
  refine qr_icmp_lt C 14 dX7_in_2 (by decide) (fun c1 => ?_) (fun c1 => ?_)
  · skip
    refine qr_iconst (v := 0) C dX7_in_14 (by decide) ?_
    exact qr_zret C rfl (by decide) (Nat.zero_le _) (Nat.zero_le _) dX7_in_15 (qw_kpn (by simp only [sm_in, if_pos c1]))
  · skip
    refine qr_iload_n C dX7_in_5 rfl 0 rfl ?_
    refine qr_iload_n C dX7_in_6 rfl 2 rfl ?_
    refine qr_icmp_gt C 14 dX7_in_7 (by decide) (fun c2 => ?_) (fun c2 => ?_)
    · skip
      refine qr_iconst (v := 0) C dX7_in_14 (by decide) ?_
      exact qr_zret C rfl (by decide) (Nat.zero_le _) (Nat.zero_le _) dX7_in_15 (qw_kpn (by simp only [sm_in, if_neg c1, if_pos c2]))
    · skip
      refine qr_iconst (v := 1) C dX7_in_10 (by decide) ?_
      refine qr_goto (tgt := 15) C dX7_in_11 (by decide) ?_
      exact qr_zret C rfl (by decide) (Nat.zero_le _) (Nat.zero_le _) dX7_in_15 (qw_kpn (by simp only [sm_in, if_neg c1, if_neg c2]))
theorem sm_in01 (x0 x1 x2 : Int32) : sm_in x0 x1 x2 = 0 ∨ sm_in x0 x1 x2 = 1 := by unfold sm_in; by_cases h : x0 < x1 <;> by_cases h2 : x2 < x0 <;> simp [h, h2]
def sm_isT (x0 : Int32) : Int32 := (sm_in (x0) ((0 : Int32)) ((2 : Int32)))
set_option maxHeartbeats 4000000 in
set_option maxRecDepth 100000 in
theorem k_X7_isTable {l : Launch} (hst : l.stackTraces = false) (D : va_G) (ad : Nat → Nat) (g : qw_G) (x0 : Int32) : qw_M l yX7_isTable [Cond.code yX7_isTable cX7_isTable 1 (some .boolean)] { frames := 1, cells := 0, slots := 0, locals := 30 } D ad g [(.int x0)] (qw_kp ad g (some (.int (sm_isT x0)))) 0 0 := by
  refine qw_M.of (maxL := 1) (own := RX7) (lv := [(0, (.int x0))]) hst (by decide) rfl rfl (Nat.le_of_ble_eq_true rfl) ?_
  intro p e s m args below meth c A C hin
  refine qr_iload_n C dX7_isTable_0 rfl 0 rfl ?_
  refine qr_iconst (v := 0) C dX7_isTable_1 (by decide) ?_
  refine qr_iconst (v := 2) C dX7_isTable_2 (by decide) ?_
  refine qr_callS C (na := 3) (As := [(.int x0), (.int (0 : Int32)), (.int (2 : Int32))]) (rest := []) (k_X7_in hst D ad g (x0) ((0 : Int32)) ((2 : Int32))) gi_X7_57 ⟨by decide, by decide, by decide +kernel⟩ rfl rfl (Nat.le_of_ble_eq_true rfl) rfl rfl ⟨Nat.le_of_ble_eq_true rfl, Nat.le_of_ble_eq_true rfl⟩ ⟨Nat.le_of_ble_eq_true rfl, Nat.le_of_ble_eq_true rfl⟩ dX7_isTable_3 (fun v ad2 g2 hpo => ?_)
  obtain ⟨rfl, rfl, rfl⟩ := hpo
  exact qr_zret C rfl (sm_in01 _ _ _) (Nat.zero_le _) (Nat.zero_le _) dX7_isTable_6 (qw_kpn rfl)
def sm_isL (x0 : Int32) : Int32 := (sm_in (x0) ((0 : Int32)) ((3 : Int32)))
set_option maxHeartbeats 4000000 in
set_option maxRecDepth 100000 in
theorem k_X7_isLevel {l : Launch} (hst : l.stackTraces = false) (D : va_G) (ad : Nat → Nat) (g : qw_G) (x0 : Int32) : qw_M l yX7_isLevel [Cond.code yX7_isLevel cX7_isLevel 1 (some .boolean)] { frames := 1, cells := 0, slots := 0, locals := 30 } D ad g [(.int x0)] (qw_kp ad g (some (.int (sm_isL x0)))) 0 0 := by
  refine qw_M.of (maxL := 1) (own := RX7) (lv := [(0, (.int x0))]) hst (by decide) rfl rfl (Nat.le_of_ble_eq_true rfl) ?_
  intro p e s m args below meth c A C hin
  refine qr_iload_n C dX7_isLevel_0 rfl 0 rfl ?_
  refine qr_iconst (v := 0) C dX7_isLevel_1 (by decide) ?_
  refine qr_iconst (v := 3) C dX7_isLevel_2 (by decide) ?_
  refine qr_callS C (na := 3) (As := [(.int x0), (.int (0 : Int32)), (.int (3 : Int32))]) (rest := []) (k_X7_in hst D ad g (x0) ((0 : Int32)) ((3 : Int32))) gi_X7_57 ⟨by decide, by decide, by decide +kernel⟩ rfl rfl (Nat.le_of_ble_eq_true rfl) rfl rfl ⟨Nat.le_of_ble_eq_true rfl, Nat.le_of_ble_eq_true rfl⟩ ⟨Nat.le_of_ble_eq_true rfl, Nat.le_of_ble_eq_true rfl⟩ dX7_isLevel_3 (fun v ad2 g2 hpo => ?_)
  obtain ⟨rfl, rfl, rfl⟩ := hpo
  exact qr_zret C rfl (sm_in01 _ _ _) (Nat.zero_le _) (Nat.zero_le _) dX7_isLevel_6 (qw_kpn rfl)
def sm_isE (x0 x1 : Int32) : Int32 := (if (sm_in (x0) ((0 : Int32)) ((4 : Int32))) = 0 then (0 : Int32) else (if (sm_in (x1) ((0 : Int32)) ((5 : Int32))) = 0 then (0 : Int32) else (1 : Int32)))
set_option maxHeartbeats 4000000 in
set_option maxRecDepth 100000 in
theorem k_X7_isEntry {l : Launch} (hst : l.stackTraces = false) (D : va_G) (ad : Nat → Nat) (g : qw_G) (x0 x1 : Int32) : qw_M l yX7_isEntry [Cond.code yX7_isEntry cX7_isEntry 2 (some .boolean)] { frames := 1, cells := 0, slots := 0, locals := 30 } D ad g [(.int x0), (.int x1)] (qw_kp ad g (some (.int (sm_isE x0 x1)))) 0 0 := by
  refine qw_M.of (maxL := 2) (own := RX7) (lv := [(0, (.int x0)), (1, (.int x1))]) hst (by decide) rfl rfl (Nat.le_of_ble_eq_true rfl) ?_
  intro p e s m args below meth c A C hin
  refine qr_iload_n C dX7_isEntry_0 rfl 0 rfl ?_
  refine qr_iconst (v := 0) C dX7_isEntry_1 (by decide) ?_
  refine qr_iconst (v := 4) C dX7_isEntry_2 (by decide) ?_
  refine qr_callS C (na := 3) (As := [(.int x0), (.int (0 : Int32)), (.int (4 : Int32))]) (rest := []) (k_X7_in hst D ad g (x0) ((0 : Int32)) ((4 : Int32))) gi_X7_57 ⟨by decide, by decide, by decide +kernel⟩ rfl rfl (Nat.le_of_ble_eq_true rfl) rfl rfl ⟨Nat.le_of_ble_eq_true rfl, Nat.le_of_ble_eq_true rfl⟩ ⟨Nat.le_of_ble_eq_true rfl, Nat.le_of_ble_eq_true rfl⟩ dX7_isEntry_3 (fun v ad2 g2 hpo => ?_)
  obtain ⟨rfl, rfl, rfl⟩ := hpo
  refine qr_if_eq C 22 dX7_isEntry_6 (by decide) (fun c1 => ?_) (fun c1 => ?_)
  · skip
    refine qr_iconst (v := 0) C dX7_isEntry_22 (by decide) ?_
    exact qr_zret C rfl (by decide) (Nat.zero_le _) (Nat.zero_le _) dX7_isEntry_23 (qw_kpn (by simp only [sm_isE, if_pos c1]))
  · skip
    refine qr_iload_n C dX7_isEntry_9 rfl 1 rfl ?_
    refine qr_iconst (v := 0) C dX7_isEntry_10 (by decide) ?_
    refine qr_iconst (v := 5) C dX7_isEntry_11 (by decide) ?_
    refine qr_callS C (na := 3) (As := [(.int x1), (.int (0 : Int32)), (.int (5 : Int32))]) (rest := []) (k_X7_in hst D ad g (x1) ((0 : Int32)) ((5 : Int32))) gi_X7_57 ⟨by decide, by decide, by decide +kernel⟩ rfl rfl (Nat.le_of_ble_eq_true rfl) rfl rfl ⟨Nat.le_of_ble_eq_true rfl, Nat.le_of_ble_eq_true rfl⟩ ⟨Nat.le_of_ble_eq_true rfl, Nat.le_of_ble_eq_true rfl⟩ dX7_isEntry_12 (fun v ad2 g2 hpo => ?_)
    obtain ⟨rfl, rfl, rfl⟩ := hpo
    refine qr_if_eq C 22 dX7_isEntry_15 (by decide) (fun c2 => ?_) (fun c2 => ?_)
    · skip
      refine qr_iconst (v := 0) C dX7_isEntry_22 (by decide) ?_
      exact qr_zret C rfl (by decide) (Nat.zero_le _) (Nat.zero_le _) dX7_isEntry_23 (qw_kpn (by simp only [sm_isE, if_neg c1, if_pos c2]))
    · skip
      refine qr_iconst (v := 1) C dX7_isEntry_18 (by decide) ?_
      refine qr_goto (tgt := 23) C dX7_isEntry_19 (by decide) ?_
      exact qr_zret C rfl (by decide) (Nat.zero_le _) (Nat.zero_le _) dX7_isEntry_23 (qw_kpn (by simp only [sm_isE, if_neg c1, if_neg c2]))
def sm_both (x0 x1 : Int32) : Int32 := (if (sm_isT (x0)) = 0 then (0 : Int32) else (if (sm_isL (x1)) = 0 then (0 : Int32) else (1 : Int32)))
set_option maxHeartbeats 4000000 in
set_option maxRecDepth 100000 in
theorem k_X7_areBoth {l : Launch} (hst : l.stackTraces = false) (D : va_G) (ad : Nat → Nat) (g : qw_G) (x0 x1 : Int32) : qw_M l yX7_areBoth [Cond.code yX7_areBoth cX7_areBoth 2 (some .boolean)] { frames := 2, cells := 0, slots := 0, locals := 60 } D ad g [(.int x0), (.int x1)] (qw_kp ad g (some (.int (sm_both x0 x1)))) 0 0 := by
  refine qw_M.of (maxL := 2) (own := RX7) (lv := [(0, (.int x0)), (1, (.int x1))]) hst (by decide) rfl rfl (Nat.le_of_ble_eq_true rfl) ?_
  intro p e s m args below meth c A C hin
  refine qr_iload_n C dX7_areBoth_0 rfl 0 rfl ?_
  refine qr_callS C (na := 1) (As := [(.int x0)]) (rest := []) (k_X7_isTable hst D ad g (x0)) gi_X7_61 ⟨by decide, by decide, by decide +kernel⟩ rfl rfl (Nat.le_of_ble_eq_true rfl) rfl rfl ⟨Nat.le_of_ble_eq_true rfl, Nat.le_of_ble_eq_true rfl⟩ ⟨Nat.le_of_ble_eq_true rfl, Nat.le_of_ble_eq_true rfl⟩ dX7_areBoth_1 (fun v ad2 g2 hpo => ?_)
  obtain ⟨rfl, rfl, rfl⟩ := hpo
  refine qr_if_eq C 18 dX7_areBoth_4 (by decide) (fun c1 => ?_) (fun c1 => ?_)
  · skip
    refine qr_iconst (v := 0) C dX7_areBoth_18 (by decide) ?_
    exact qr_zret C rfl (by decide) (Nat.zero_le _) (Nat.zero_le _) dX7_areBoth_19 (qw_kpn (by simp only [sm_both, if_pos c1]))
  · skip
    refine qr_iload_n C dX7_areBoth_7 rfl 1 rfl ?_
    refine qr_callS C (na := 1) (As := [(.int x1)]) (rest := []) (k_X7_isLevel hst D ad g (x1)) gi_X7_101 ⟨by decide, by decide, by decide +kernel⟩ rfl rfl (Nat.le_of_ble_eq_true rfl) rfl rfl ⟨Nat.le_of_ble_eq_true rfl, Nat.le_of_ble_eq_true rfl⟩ ⟨Nat.le_of_ble_eq_true rfl, Nat.le_of_ble_eq_true rfl⟩ dX7_areBoth_8 (fun v ad2 g2 hpo => ?_)
    obtain ⟨rfl, rfl, rfl⟩ := hpo
    refine qr_if_eq C 18 dX7_areBoth_11 (by decide) (fun c2 => ?_) (fun c2 => ?_)
    · skip
      refine qr_iconst (v := 0) C dX7_areBoth_18 (by decide) ?_
      exact qr_zret C rfl (by decide) (Nat.zero_le _) (Nat.zero_le _) dX7_areBoth_19 (qw_kpn (by simp only [sm_both, if_neg c1, if_pos c2]))
    · skip
      refine qr_iconst (v := 1) C dX7_areBoth_14 (by decide) ?_
      refine qr_goto (tgt := 19) C dX7_areBoth_15 (by decide) ?_
      exact qr_zret C rfl (by decide) (Nat.zero_le _) (Nat.zero_le _) dX7_areBoth_19 (qw_kpn (by simp only [sm_both, if_neg c1, if_neg c2]))
def sm_cov (x0 x1 x2 : Int32) : Int32 := ((((1 : Int32) <<< ((((6 : Int32) * (x0 / (6 : Int32))) + x2) &&& 31)) ||| ((1 : Int32) <<< ((((6 : Int32) * x1) + (x0 - x0 / (6 : Int32) * (6 : Int32))) &&& 31))) ||| ((1 : Int32) <<< ((((6 : Int32) * x1) + x2) &&& 31)))
set_option maxHeartbeats 4000000 in
set_option maxRecDepth 100000 in
theorem k_X7_covers {l : Launch} (hst : l.stackTraces = false) (D : va_G) (ad : Nat → Nat) (g : qw_G) (x0 x1 x2 : Int32) : qw_M l yX7_covers [Cond.code yX7_covers cX7_covers 3 (some .int)] { frames := 0, cells := 0, slots := 0, locals := 0 } D ad g [(.int x0), (.int x1), (.int x2)] (qw_kp ad g (some (.int (sm_cov x0 x1 x2)))) 0 0 := by
  refine qw_M.of (maxL := 3) (own := RX7) (lv := [(0, (.int x0)), (1, (.int x1)), (2, (.int x2))]) hst (by decide) rfl rfl (Nat.le_of_ble_eq_true rfl) ?_
  intro p e s m args below meth c A C hin
  refine qr_iconst (v := 1) C dX7_covers_0 (by decide) ?_
  refine qr_bipush (v := 6) C dX7_covers_1 (by decide) ?_
  refine qr_iload_n C dX7_covers_3 rfl 0 rfl ?_
  refine qr_bipush (v := 6) C dX7_covers_4 (by decide) ?_
  refine qr_idiv C dX7_covers_6 (by decide) ?_
  refine qr_imul C dX7_covers_7 ?_
  refine qr_iload_n C dX7_covers_8 rfl 2 rfl ?_
  refine qr_iadd C dX7_covers_9 ?_
  refine qr_ishl C dX7_covers_10 ?_
  refine qr_iconst (v := 1) C dX7_covers_11 (by decide) ?_
  refine qr_bipush (v := 6) C dX7_covers_12 (by decide) ?_
  refine qr_iload_n C dX7_covers_14 rfl 1 rfl ?_
  refine qr_imul C dX7_covers_15 ?_
  refine qr_iload_n C dX7_covers_16 rfl 0 rfl ?_
  refine qr_bipush (v := 6) C dX7_covers_17 (by decide) ?_
  refine qr_irem C dX7_covers_19 (by decide) ?_
  refine qr_iadd C dX7_covers_20 ?_
  refine qr_ishl C dX7_covers_21 ?_
  refine qr_ior C dX7_covers_22 ?_
  refine qr_iconst (v := 1) C dX7_covers_23 (by decide) ?_
  refine qr_bipush (v := 6) C dX7_covers_24 (by decide) ?_
  refine qr_iload_n C dX7_covers_26 rfl 1 rfl ?_
  refine qr_imul C dX7_covers_27 ?_
  refine qr_iload_n C dX7_covers_28 rfl 2 rfl ?_
  refine qr_iadd C dX7_covers_29 ?_
  refine qr_ishl C dX7_covers_30 ?_
  refine qr_ior C dX7_covers_31 ?_
  exact qr_iret C rfl (Nat.zero_le _) (Nat.zero_le _) dX7_covers_32 (qw_kpn rfl)
def sm_bit (s k : Int32) : Int32 := (s >>> (k &&& 31)) &&& 1
def sm_bits (s : Int32) : Int32 := sg_it (fun k n => n + sm_bit s (nI k)) 0 30
set_option maxHeartbeats 4000000 in
set_option maxRecDepth 100000 in
theorem k_X7_bits {l : Launch} (hst : l.stackTraces = false) (D : va_G) (ad : Nat → Nat) (g : qw_G) (x0 : Int32) : qw_M l yX7_bits [Cond.code yX7_bits cX7_bits 3 (some .int)] { frames := 0, cells := 0, slots := 0, locals := 0 } D ad g [(.int x0)] (qw_kp ad g (some (.int (sm_bits x0)))) 0 0 := by
  refine qw_M.of (maxL := 3) (own := RX7) (lv := [(0, (.int x0))]) hst (by decide) rfl rfl (Nat.le_of_ble_eq_true rfl) ?_
  intro p e s m args below meth c A C hin
  refine qr_iconst (v := 0) C dX7_bits_0 (by decide) ?_
  refine qr_istore_n (lv' := [(1, (.int (0 : Int32))), (0, (.int x0))]) C dX7_bits_1 rfl (by decide) rfl ?_
  refine qr_iconst (v := 0) C dX7_bits_2 (by decide) ?_
  refine qr_istore_n (lv' := [(2, (.int (0 : Int32))), (1, (.int (0 : Int32))), (0, (.int x0))]) C dX7_bits_3 rfl (by decide) rfl ?_
  have L4 : ∀ (j4 i4 : Nat) (h : Int32), i4 + j4 = 30 → h = sg_it (fun k n => n + sm_bit x0 (nI k)) 0 i4 → qw_W p l e { frames := 0, cells := 0, slots := 0, locals := 0 } s m args below meth c D A 3 (MQ below (qw_Q (qw_kp ad g (some (.int (sm_bits x0)))) D A) args s 0 0 A) 0 0 ad g 4 [(0, (.int x0)), (1, (.int h)), (2, (.int (nI i4)))] [] := by
    intro j4
    induction j4 with
    | zero =>
      intro i4 h hi4 hh
      obtain rfl : i4 = 30 := by omega
      refine qr_iload_n C dX7_bits_4 rfl 2 rfl ?_
      refine qr_bipush (v := 30) C dX7_bits_5 (by decide) ?_
      refine qr_icmp_ge_t C 24 dX7_bits_7 (by decide) ((sg_le (30) (30) rfl rfl (by omega) (by omega)).mpr (Nat.le_refl _)) ?_
      refine qr_iload_n C dX7_bits_24 rfl 1 rfl ?_
      exact qr_iret C rfl (Nat.zero_le _) (Nat.zero_le _) dX7_bits_25 (qw_kpn hh.symm)
    | succ j4 ih4 =>
      intro i4 h hi4 hh
      refine qr_iload_n C dX7_bits_4 rfl 2 rfl ?_
      refine qr_bipush (v := 30) C dX7_bits_5 (by decide) ?_
      refine qr_icmp_ge_f C 24 dX7_bits_7 (by decide) (fun z => absurd ((sg_le (30) (i4) rfl rfl (by omega) (by omega)).mp z) (by omega)) ?_
      refine qr_iload_n C dX7_bits_10 rfl 1 rfl ?_
      refine qr_iload_n C dX7_bits_11 rfl 0 rfl ?_
      refine qr_iload_n C dX7_bits_12 rfl 2 rfl ?_
      refine qr_ishr C dX7_bits_13 ?_
      refine qr_iconst (v := 1) C dX7_bits_14 (by decide) ?_
      refine qr_iand C dX7_bits_15 ?_
      refine qr_iadd C dX7_bits_16 ?_
      refine qr_istore_n (lv' := [(1, (.int (h + ((x0 >>> ((nI i4) &&& 31)) &&& (1 : Int32))))), (0, (.int x0)), (2, (.int (nI i4)))]) C dX7_bits_17 rfl (by decide) rfl ?_
      refine qr_iinc (v := (nI (i4 + 1))) (lv' := [(2, (.int (nI (i4 + 1)))), (1, (.int (h + ((x0 >>> ((nI i4) &&& 31)) &&& (1 : Int32))))), (0, (.int x0))]) C dX7_bits_18 (w := 2) rfl (nI_1 _) (by decide) rfl ?_
      refine qr_goto (tgt := 4) C dX7_bits_21 (by decide) ?_
      refine qw_pick [2, 1, 0] (lv' := [(0, (.int x0)), (1, (.int (h + ((x0 >>> ((nI i4) &&& 31)) &&& (1 : Int32))))), (2, (.int (nI (i4 + 1))))]) rfl ?_
      exact ih4 (i4 + 1) (h + ((x0 >>> ((nI i4) &&& 31)) &&& (1 : Int32))) (by omega) (by subst hh; rfl)
  refine qw_pick [2, 1, 0] (lv' := [(0, (.int x0)), (1, (.int (0 : Int32))), (2, (.int (0 : Int32)))]) rfl ?_
  exact L4 (30) 0 (0 : Int32) (by omega) rfl
/-- one entry of a round of isFound: (rows, columns) -/
def sm_is (oth : Int32) (k : Nat) : Int32 := if sm_bit oth (nI k) = 1 then 1 else 0
def sm_hs (s : Int32 × Int32) (k : Nat) : Int32 := if sm_bit s.1 (nI k / 6) = 1 then 1 else if sm_bit s.2 (nI k - nI k / 6 * 6) = 1 then 1 else 0
def sm_fst (oth : Int32) (k : Nat) (s : Int32 × Int32) : Int32 × Int32 :=
  (s.1 ||| (if sm_is oth k = 0 then (0 : Int32) else if sm_hs s k = 0 then 0 else 1 <<< ((nI k / 6) &&& 31) : Int32), s.2 ||| (if sm_is oth k = 0 then (0 : Int32) else if sm_hs s k = 0 then 0 else 1 <<< ((nI k - nI k / 6 * 6) &&& 31) : Int32))
def sm_frd (oth : Int32) (s : Int32 × Int32) : Int32 × Int32 := sg_it (sm_fst oth) s 30
def sm_frs (h e : Int32) : Int32 × Int32 := sg_it (fun _ s => sm_frd (sg_oth h e) s) (1 <<< ((e / 6) &&& 31), 0) 11
def sm_found (h e : Int32) : Int32 := if sm_bit (sm_frs h e).2 (e - e / 6 * 6) = 0 then 1 else 0
theorem sm_found01 (h e : Int32) : sm_found h e = 0 ∨ sm_found h e = 1 := by unfold sm_found; by_cases q : sm_bit (sm_frs h e).2 (e - e / 6 * 6) = 0 <;> simp [q]
set_option maxHeartbeats 4000000 in
set_option maxRecDepth 100000 in
theorem k_X7_isFound {l : Launch} (hst : l.stackTraces = false) (D : va_G) (ad : Nat → Nat) (g : qw_G) (x0 x1 : Int32) : qw_M l yX7_isFound [Cond.code yX7_isFound cX7_isFound 9 (some .boolean)] { frames := 0, cells := 0, slots := 0, locals := 0 } D ad g [(.int x0), (.int x1)] (qw_kp ad g (some (.int (sm_found x0 x1)))) 0 0 := by
  refine qw_M.of (maxL := 9) (own := RX7) (lv := [(0, (.int x0)), (1, (.int x1))]) hst (by decide) rfl rfl (Nat.le_of_ble_eq_true rfl) ?_
  intro p e s m args below meth c A C hin
  refine qr_iload_n C dX7_isFound_0 rfl 0 rfl ?_
  refine qr_iconst (v := 1) C dX7_isFound_1 (by decide) ?_
  refine qr_iload_n C dX7_isFound_2 rfl 1 rfl ?_
  refine qr_ishl C dX7_isFound_3 ?_
  refine qr_iconst (v := -1) C dX7_isFound_4 (by decide) ?_
  refine qr_ixor C dX7_isFound_5 ?_
  refine qr_iand C dX7_isFound_6 ?_
  refine qr_istore_n (lv' := [(2, (.int (x0 &&& (((1 : Int32) <<< (x1 &&& 31)) ^^^ (-1 : Int32))))), (0, (.int x0)), (1, (.int x1))]) C dX7_isFound_7 rfl (by decide) rfl ?_
  refine qr_iconst (v := 1) C dX7_isFound_8 (by decide) ?_
  refine qr_iload_n C dX7_isFound_9 rfl 2 rfl ?_
  refine qr_bipush (v := 6) C dX7_isFound_10 (by decide) ?_
  refine qr_idiv C dX7_isFound_12 (by decide) ?_
  refine qr_ishl C dX7_isFound_13 ?_
  refine qr_istore_n (lv' := [(3, (.int ((1 : Int32) <<< ((x1 / (6 : Int32)) &&& 31)))), (2, (.int (x0 &&& (((1 : Int32) <<< (x1 &&& 31)) ^^^ (-1 : Int32))))), (0, (.int x0)), (1, (.int x1))]) C dX7_isFound_14 rfl (by decide) rfl ?_
  refine qr_iconst (v := 0) C dX7_isFound_15 (by decide) ?_
  refine qr_istore (lv' := [(4, (.int (0 : Int32))), (3, (.int ((1 : Int32) <<< ((x1 / (6 : Int32)) &&& 31)))), (2, (.int (x0 &&& (((1 : Int32) <<< (x1 &&& 31)) ^^^ (-1 : Int32))))), (0, (.int x0)), (1, (.int x1))]) C dX7_isFound_16 (by decide) rfl ?_
  refine qr_iconst (v := 0) C dX7_isFound_18 (by decide) ?_
  refine qr_istore (lv' := [(5, (.int (0 : Int32))), (4, (.int (0 : Int32))), (3, (.int ((1 : Int32) <<< ((x1 / (6 : Int32)) &&& 31)))), (2, (.int (x0 &&& (((1 : Int32) <<< (x1 &&& 31)) ^^^ (-1 : Int32))))), (0, (.int x0)), (1, (.int x1))]) C dX7_isFound_19 (by decide) rfl ?_
  have L21 : ∀ (j21 i21 : Nat) (fa : Int32) (fb : Int32), i21 + j21 = 11 → fa = (sg_it (fun _ s => sm_frd (sg_oth x0 x1) s) (1 <<< ((x1 / 6) &&& 31), 0) i21).1 → fb = (sg_it (fun _ s => sm_frd (sg_oth x0 x1) s) (1 <<< ((x1 / 6) &&& 31), 0) i21).2 → qw_W p l e { frames := 0, cells := 0, slots := 0, locals := 0 } s m args below meth c D A 9 (MQ below (qw_Q (qw_kp ad g (some (.int (sm_found x0 x1)))) D A) args s 0 0 A) 0 0 ad g 21 [(0, (.int x0)), (1, (.int x1)), (2, (.int (x0 &&& (((1 : Int32) <<< (x1 &&& 31)) ^^^ (-1 : Int32))))), (3, (.int fa)), (4, (.int fb)), (5, (.int (nI i21)))] [] := by
    intro j21
    induction j21 with
    | zero =>
      intro i21 fa fb hi21 hfa hfb
      obtain rfl : i21 = 11 := by omega
      refine qr_iload C dX7_isFound_21 5 rfl ?_
      refine qr_bipush (v := 11) C dX7_isFound_23 (by decide) ?_
      refine qr_icmp_ge_t C 151 dX7_isFound_25 (by decide) ((sg_le (11) (11) rfl rfl (by omega) (by omega)).mpr (Nat.le_refl _)) ?_
      refine qr_iload C dX7_isFound_151 4 rfl ?_
      refine qr_iload_n C dX7_isFound_153 rfl 1 rfl ?_
      refine qr_bipush (v := 6) C dX7_isFound_154 (by decide) ?_
      refine qr_irem C dX7_isFound_156 (by decide) ?_
      refine qr_ishr C dX7_isFound_157 ?_
      refine qr_iconst (v := 1) C dX7_isFound_158 (by decide) ?_
      refine qr_iand C dX7_isFound_159 ?_
      refine qr_if_ne C 167 dX7_isFound_160 (by decide) (fun c1 => ?_) (fun c1 => ?_)
      · skip
        refine qr_iconst (v := 0) C dX7_isFound_167 (by decide) ?_
        exact qr_zret C rfl (by decide) (Nat.zero_le _) (Nat.zero_le _) dX7_isFound_168 (qw_kpn (by have e : sm_frs x0 x1 = (fa, fb) := Prod.ext hfa.symm hfb.symm; simp only [sm_found, e]; exact if_neg c1))
      · skip
        refine qr_iconst (v := 1) C dX7_isFound_163 (by decide) ?_
        refine qr_goto (tgt := 168) C dX7_isFound_164 (by decide) ?_
        exact qr_zret C rfl (by decide) (Nat.zero_le _) (Nat.zero_le _) dX7_isFound_168 (qw_kpn (by have e : sm_frs x0 x1 = (fa, fb) := Prod.ext hfa.symm hfb.symm; simp only [sm_found, e]; exact if_pos c1))
    | succ j21 ih21 =>
      intro i21 fa fb hi21 hfa hfb
      refine qr_iload C dX7_isFound_21 5 rfl ?_
      refine qr_bipush (v := 11) C dX7_isFound_23 (by decide) ?_
      refine qr_icmp_ge_f C 151 dX7_isFound_25 (by decide) (fun z => absurd ((sg_le (11) (i21) rfl rfl (by omega) (by omega)).mp z) (by omega)) ?_
      refine qr_iconst (v := 0) C dX7_isFound_28 (by decide) ?_
      refine qr_istore (lv' := [(6, (.int (0 : Int32))), (0, (.int x0)), (1, (.int x1)), (2, (.int (x0 &&& (((1 : Int32) <<< (x1 &&& 31)) ^^^ (-1 : Int32))))), (3, (.int fa)), (4, (.int fb)), (5, (.int (nI i21)))]) C dX7_isFound_29 (by decide) rfl ?_
      have L31 : ∀ (j31 i31 : Nat) (fu : Int32) (fv : Int32), i31 + j31 = 30 → fu = (sg_it (sm_fst (sg_oth x0 x1)) (fa, fb) i31).1 → fv = (sg_it (sm_fst (sg_oth x0 x1)) (fa, fb) i31).2 → qw_W p l e { frames := 0, cells := 0, slots := 0, locals := 0 } s m args below meth c D A 9 (MQ below (qw_Q (qw_kp ad g (some (.int (sm_found x0 x1)))) D A) args s 0 0 A) 0 0 ad g 31 [(0, (.int x0)), (1, (.int x1)), (2, (.int (x0 &&& (((1 : Int32) <<< (x1 &&& 31)) ^^^ (-1 : Int32))))), (3, (.int fu)), (4, (.int fv)), (5, (.int (nI i21))), (6, (.int (nI i31)))] [] := by
        intro j31
        induction j31 with
        | zero =>
          intro i31 fu fv hi31 hfu hfv
          obtain rfl : i31 = 30 := by omega
          refine qr_iload C dX7_isFound_31 6 rfl ?_
          refine qr_bipush (v := 30) C dX7_isFound_33 (by decide) ?_
          refine qr_icmp_ge_t C 145 dX7_isFound_35 (by decide) ((sg_le (30) (30) rfl rfl (by omega) (by omega)).mpr (Nat.le_refl _)) ?_
          refine qr_iinc (v := (nI (i21 + 1))) (lv' := [(5, (.int (nI (i21 + 1)))), (0, (.int x0)), (1, (.int x1)), (2, (.int (x0 &&& (((1 : Int32) <<< (x1 &&& 31)) ^^^ (-1 : Int32))))), (3, (.int fu)), (4, (.int fv)), (6, (.int (nI (30))))]) C dX7_isFound_145 (w := 5) rfl (nI_1 _) (by decide) rfl ?_
          refine qr_goto (tgt := 21) C dX7_isFound_148 (by decide) ?_
          refine qw_pick [1, 2, 3, 4, 5, 0] (lv' := [(0, (.int x0)), (1, (.int x1)), (2, (.int (x0 &&& (((1 : Int32) <<< (x1 &&& 31)) ^^^ (-1 : Int32))))), (3, (.int fu)), (4, (.int fv)), (5, (.int (nI (i21 + 1))))]) rfl ?_
          exact ih21 (i21 + 1) fu fv (by omega) (by show fu = (sg_it (sm_fst (sg_oth x0 x1)) (sg_it (fun _ s => sm_frd (sg_oth x0 x1) s) (1 <<< ((x1 / 6) &&& 31), 0) i21) 30).1; rw [show sg_it (fun _ s => sm_frd (sg_oth x0 x1) s) (1 <<< ((x1 / 6) &&& 31), 0) i21 = (fa, fb) from Prod.ext hfa.symm hfb.symm]; exact hfu) (by show fv = (sg_it (sm_fst (sg_oth x0 x1)) (sg_it (fun _ s => sm_frd (sg_oth x0 x1) s) (1 <<< ((x1 / 6) &&& 31), 0) i21) 30).2; rw [show sg_it (fun _ s => sm_frd (sg_oth x0 x1) s) (1 <<< ((x1 / 6) &&& 31), 0) i21 = (fa, fb) from Prod.ext hfa.symm hfb.symm]; exact hfv)
        | succ j31 ih31 =>
          intro i31 fu fv hi31 hfu hfv
          refine qr_iload C dX7_isFound_31 6 rfl ?_
          refine qr_bipush (v := 30) C dX7_isFound_33 (by decide) ?_
          refine qr_icmp_ge_f C 145 dX7_isFound_35 (by decide) (fun z => absurd ((sg_le (30) (i31) rfl rfl (by omega) (by omega)).mp z) (by omega)) ?_
          have M38_1 : ∀ b38 : Int32, b38 = (if (((x0 &&& (((1 : Int32) <<< (x1 &&& 31)) ^^^ (-1 : Int32))) >>> ((nI i31) &&& 31)) &&& (1 : Int32)) = (1 : Int32) then (1 : Int32) else (0 : Int32)) → qw_W p l e { frames := 0, cells := 0, slots := 0, locals := 0 } s m args below meth c D A 9 (MQ below (qw_Q (qw_kp ad g (some (.int (sm_found x0 x1)))) D A) args s 0 0 A) 0 0 ad g 53 [(0, (.int x0)), (1, (.int x1)), (2, (.int (x0 &&& (((1 : Int32) <<< (x1 &&& 31)) ^^^ (-1 : Int32))))), (3, (.int fu)), (4, (.int fv)), (5, (.int (nI i21))), (6, (.int (nI i31)))] [(.int b38)] := by
            intro b38 hb38
            refine qr_istore (lv' := [(7, (.int b38)), (0, (.int x0)), (1, (.int x1)), (2, (.int (x0 &&& (((1 : Int32) <<< (x1 &&& 31)) ^^^ (-1 : Int32))))), (3, (.int fu)), (4, (.int fv)), (5, (.int (nI i21))), (6, (.int (nI i31)))]) C dX7_isFound_53 (by decide) rfl ?_
            have M55_2 : ∀ b55 : Int32, b55 = (if ((fu >>> (((nI i31) / (6 : Int32)) &&& 31)) &&& (1 : Int32)) = (1 : Int32) then (1 : Int32) else (if ((fv >>> (((nI i31) - (nI i31) / (6 : Int32) * (6 : Int32)) &&& 31)) &&& (1 : Int32)) = (1 : Int32) then (1 : Int32) else (0 : Int32))) → qw_W p l e { frames := 0, cells := 0, slots := 0, locals := 0 } s m args below meth c D A 9 (MQ below (qw_Q (qw_kp ad g (some (.int (sm_found x0 x1)))) D A) args s 0 0 A) 0 0 ad g 87 [(7, (.int b38)), (0, (.int x0)), (1, (.int x1)), (2, (.int (x0 &&& (((1 : Int32) <<< (x1 &&& 31)) ^^^ (-1 : Int32))))), (3, (.int fu)), (4, (.int fv)), (5, (.int (nI i21))), (6, (.int (nI i31)))] [(.int b55)] := by
              intro b55 hb55
              refine qr_istore (lv' := [(8, (.int b55)), (7, (.int b38)), (0, (.int x0)), (1, (.int x1)), (2, (.int (x0 &&& (((1 : Int32) <<< (x1 &&& 31)) ^^^ (-1 : Int32))))), (3, (.int fu)), (4, (.int fv)), (5, (.int (nI i21))), (6, (.int (nI i31)))]) C dX7_isFound_87 (by decide) rfl ?_
              refine qr_iload_n C dX7_isFound_89 rfl 5 rfl ?_
              have M90_3 : ∀ hrw0 : Int32, hrw0 = (if b38 = 0 then (0 : Int32) else (if b55 = 0 then (0 : Int32) else ((1 : Int32) <<< (((nI i31) / (6 : Int32)) &&& 31)))) → qw_W p l e { frames := 0, cells := 0, slots := 0, locals := 0 } s m args below meth c D A 9 (MQ below (qw_Q (qw_kp ad g (some (.int (sm_found x0 x1)))) D A) args s 0 0 A) 0 0 ad g 111 [(8, (.int b55)), (7, (.int b38)), (0, (.int x0)), (1, (.int x1)), (2, (.int (x0 &&& (((1 : Int32) <<< (x1 &&& 31)) ^^^ (-1 : Int32))))), (3, (.int fu)), (4, (.int fv)), (5, (.int (nI i21))), (6, (.int (nI i31)))] [(.int hrw0), (.int fu)] := by
                intro hrw0 hhrw0
                have hrw := hhrw0
                refine qr_ior C dX7_isFound_111 ?_
                refine qr_istore_n (lv' := [(3, (.int (fu ||| hrw0))), (8, (.int b55)), (7, (.int b38)), (0, (.int x0)), (1, (.int x1)), (2, (.int (x0 &&& (((1 : Int32) <<< (x1 &&& 31)) ^^^ (-1 : Int32))))), (4, (.int fv)), (5, (.int (nI i21))), (6, (.int (nI i31)))]) C dX7_isFound_112 rfl (by decide) rfl ?_
                refine qr_iload C dX7_isFound_113 6 rfl ?_
                have M115_4 : ∀ hcl0 : Int32, hcl0 = (if b38 = 0 then (0 : Int32) else (if b55 = 0 then (0 : Int32) else ((1 : Int32) <<< (((nI i31) - (nI i31) / (6 : Int32) * (6 : Int32)) &&& 31)))) → qw_W p l e { frames := 0, cells := 0, slots := 0, locals := 0 } s m args below meth c D A 9 (MQ below (qw_Q (qw_kp ad g (some (.int (sm_found x0 x1)))) D A) args s 0 0 A) 0 0 ad g 136 [(3, (.int (fu ||| hrw0))), (8, (.int b55)), (7, (.int b38)), (0, (.int x0)), (1, (.int x1)), (2, (.int (x0 &&& (((1 : Int32) <<< (x1 &&& 31)) ^^^ (-1 : Int32))))), (4, (.int fv)), (5, (.int (nI i21))), (6, (.int (nI i31)))] [(.int hcl0), (.int fv)] := by
                  intro hcl0 hhcl0
                  have hcl := hhcl0
                  refine qr_ior C dX7_isFound_136 ?_
                  refine qr_istore (lv' := [(4, (.int (fv ||| hcl0))), (3, (.int (fu ||| hrw0))), (8, (.int b55)), (7, (.int b38)), (0, (.int x0)), (1, (.int x1)), (2, (.int (x0 &&& (((1 : Int32) <<< (x1 &&& 31)) ^^^ (-1 : Int32))))), (5, (.int (nI i21))), (6, (.int (nI i31)))]) C dX7_isFound_137 (by decide) rfl ?_
                  refine qr_iinc (v := (nI (i31 + 1))) (lv' := [(6, (.int (nI (i31 + 1)))), (4, (.int (fv ||| hcl0))), (3, (.int (fu ||| hrw0))), (8, (.int b55)), (7, (.int b38)), (0, (.int x0)), (1, (.int x1)), (2, (.int (x0 &&& (((1 : Int32) <<< (x1 &&& 31)) ^^^ (-1 : Int32))))), (5, (.int (nI i21)))]) C dX7_isFound_139 (w := 8) rfl (nI_1 _) (by decide) rfl ?_
                  refine qr_goto (tgt := 31) C dX7_isFound_142 (by decide) ?_
                  refine qw_pick [5, 6, 7, 2, 1, 8, 0] (lv' := [(0, (.int x0)), (1, (.int x1)), (2, (.int (x0 &&& (((1 : Int32) <<< (x1 &&& 31)) ^^^ (-1 : Int32))))), (3, (.int (fu ||| hrw0))), (4, (.int (fv ||| hcl0))), (5, (.int (nI i21))), (6, (.int (nI (i31 + 1))))]) rfl ?_
                  exact ih31 (i31 + 1) (fu ||| hrw0) (fv ||| hcl0) (by omega) (by have e : sg_it (sm_fst (sg_oth x0 x1)) (fa, fb) (i31 + 1) = sm_fst (sg_oth x0 x1) i31 (fu, fv) := (by show sm_fst (sg_oth x0 x1) i31 (sg_it (sm_fst (sg_oth x0 x1)) (fa, fb) i31) = _; rw [show sg_it (sm_fst (sg_oth x0 x1)) (fa, fb) i31 = (fu, fv) from Prod.ext hfu.symm hfv.symm]); rw [e, hrw, hb55, hb38]; rfl) (by have e : sg_it (sm_fst (sg_oth x0 x1)) (fa, fb) (i31 + 1) = sm_fst (sg_oth x0 x1) i31 (fu, fv) := (by show sm_fst (sg_oth x0 x1) i31 (sg_it (sm_fst (sg_oth x0 x1)) (fa, fb) i31) = _; rw [show sg_it (sm_fst (sg_oth x0 x1)) (fa, fb) i31 = (fu, fv) from Prod.ext hfu.symm hfv.symm]); rw [e, hcl, hb55, hb38]; rfl)
                refine qr_iload C dX7_isFound_115 2 rfl ?_
                refine qr_if_eq C 135 dX7_isFound_117 (by decide) (fun c6 => ?_) (fun c6 => ?_)
                · skip
                  refine qr_iconst (v := 0) C dX7_isFound_135 (by decide) ?_
                  exact M115_4 _ (by simp only [if_pos c6])
                · skip
                  refine qr_iload C dX7_isFound_120 1 rfl ?_
                  refine qr_if_eq C 135 dX7_isFound_122 (by decide) (fun c7 => ?_) (fun c7 => ?_)
                  · skip
                    refine qr_iconst (v := 0) C dX7_isFound_135 (by decide) ?_
                    exact M115_4 _ (by simp only [if_neg c6, if_pos c7])
                  · skip
                    refine qr_iconst (v := 1) C dX7_isFound_125 (by decide) ?_
                    refine qr_iload C dX7_isFound_126 8 rfl ?_
                    refine qr_bipush (v := 6) C dX7_isFound_128 (by decide) ?_
                    refine qr_irem C dX7_isFound_130 (by decide) ?_
                    refine qr_ishl C dX7_isFound_131 ?_
                    refine qr_goto (tgt := 136) C dX7_isFound_132 (by decide) ?_
                    exact M115_4 _ (by simp only [if_neg c6, if_neg c7])
              refine qr_iload C dX7_isFound_90 1 rfl ?_
              refine qr_if_eq C 110 dX7_isFound_92 (by decide) (fun c8 => ?_) (fun c8 => ?_)
              · skip
                refine qr_iconst (v := 0) C dX7_isFound_110 (by decide) ?_
                exact M90_3 _ (by simp only [if_pos c8])
              · skip
                refine qr_iload C dX7_isFound_95 0 rfl ?_
                refine qr_if_eq C 110 dX7_isFound_97 (by decide) (fun c9 => ?_) (fun c9 => ?_)
                · skip
                  refine qr_iconst (v := 0) C dX7_isFound_110 (by decide) ?_
                  exact M90_3 _ (by simp only [if_neg c8, if_pos c9])
                · skip
                  refine qr_iconst (v := 1) C dX7_isFound_100 (by decide) ?_
                  refine qr_iload C dX7_isFound_101 8 rfl ?_
                  refine qr_bipush (v := 6) C dX7_isFound_103 (by decide) ?_
                  refine qr_idiv C dX7_isFound_105 (by decide) ?_
                  refine qr_ishl C dX7_isFound_106 ?_
                  refine qr_goto (tgt := 111) C dX7_isFound_107 (by decide) ?_
                  exact M90_3 _ (by simp only [if_neg c8, if_neg c9])
            refine qr_iload_n C dX7_isFound_55 rfl 4 rfl ?_
            refine qr_iload C dX7_isFound_56 7 rfl ?_
            refine qr_bipush (v := 6) C dX7_isFound_58 (by decide) ?_
            refine qr_idiv C dX7_isFound_60 (by decide) ?_
            refine qr_ishr C dX7_isFound_61 ?_
            refine qr_iconst (v := 1) C dX7_isFound_62 (by decide) ?_
            refine qr_iand C dX7_isFound_63 ?_
            refine qr_iconst (v := 1) C dX7_isFound_64 (by decide) ?_
            refine qr_icmp_eq C 82 dX7_isFound_65 (by decide) (fun c10 => ?_) (fun c10 => ?_)
            · skip
              refine qr_iconst (v := 1) C dX7_isFound_82 (by decide) ?_
              refine qr_goto (tgt := 87) C dX7_isFound_83 (by decide) ?_
              exact M55_2 _ (by simp only [if_pos c10])
            · skip
              refine qr_iload C dX7_isFound_68 5 rfl ?_
              refine qr_iload C dX7_isFound_70 7 rfl ?_
              refine qr_bipush (v := 6) C dX7_isFound_72 (by decide) ?_
              refine qr_irem C dX7_isFound_74 (by decide) ?_
              refine qr_ishr C dX7_isFound_75 ?_
              refine qr_iconst (v := 1) C dX7_isFound_76 (by decide) ?_
              refine qr_iand C dX7_isFound_77 ?_
              refine qr_iconst (v := 1) C dX7_isFound_78 (by decide) ?_
              refine qr_icmp_ne C 86 dX7_isFound_79 (by decide) (fun c11 => ?_) (fun c11 => ?_)
              · skip
                refine qr_iconst (v := 0) C dX7_isFound_86 (by decide) ?_
                exact M55_2 _ (by simp only [if_neg c10, if_neg c11])
              · skip
                refine qr_iconst (v := 1) C dX7_isFound_82 (by decide) ?_
                refine qr_goto (tgt := 87) C dX7_isFound_83 (by decide) ?_
                exact M55_2 _ (by simp only [if_neg c10, if_pos c11])
          refine qr_iload_n C dX7_isFound_38 rfl 2 rfl ?_
          refine qr_iload C dX7_isFound_39 6 rfl ?_
          refine qr_ishr C dX7_isFound_41 ?_
          refine qr_iconst (v := 1) C dX7_isFound_42 (by decide) ?_
          refine qr_iand C dX7_isFound_43 ?_
          refine qr_iconst (v := 1) C dX7_isFound_44 (by decide) ?_
          refine qr_icmp_ne C 52 dX7_isFound_45 (by decide) (fun c12 => ?_) (fun c12 => ?_)
          · skip
            refine qr_iconst (v := 0) C dX7_isFound_52 (by decide) ?_
            exact M38_1 _ (by simp only [if_neg c12])
          · skip
            refine qr_iconst (v := 1) C dX7_isFound_48 (by decide) ?_
            refine qr_goto (tgt := 53) C dX7_isFound_49 (by decide) ?_
            exact M38_1 _ (by simp only [if_pos c12])
      refine qw_pick [1, 2, 3, 4, 5, 6, 0] (lv' := [(0, (.int x0)), (1, (.int x1)), (2, (.int (x0 &&& (((1 : Int32) <<< (x1 &&& 31)) ^^^ (-1 : Int32))))), (3, (.int fa)), (4, (.int fb)), (5, (.int (nI i21))), (6, (.int (0 : Int32)))]) rfl ?_
      exact L31 (30) 0 fa fb (by omega) rfl rfl
  refine qw_pick [4, 5, 3, 2, 1, 0] (lv' := [(0, (.int x0)), (1, (.int x1)), (2, (.int (x0 &&& (((1 : Int32) <<< (x1 &&& 31)) ^^^ (-1 : Int32))))), (3, (.int ((1 : Int32) <<< ((x1 / (6 : Int32)) &&& 31)))), (4, (.int (0 : Int32))), (5, (.int (0 : Int32)))]) rfl ?_
  exact L21 (11) 0 ((1 : Int32) <<< ((x1 / (6 : Int32)) &&& 31)) (0 : Int32) (by omega) rfl rfl
def sm_hst (h : Int32) (e k : Nat) (s : Int32 × Int32) : Int32 × Int32 :=
  if (if nI k / 6 = nI e / 6 then (0 : Int32) else if nI k - nI k / 6 * 6 = nI e - nI e / 6 * 6 then 0 else 1) = 0 then s else
    if s.2 ≤ sm_bits (sm_cov (nI e) (nI k / 6) (nI k - nI k / 6 * 6) &&& (h ^^^ (-1))) then s else (sm_cov (nI e) (nI k / 6) (nI k - nI k / 6 * 6), sm_bits (sm_cov (nI e) (nI k / 6) (nI k - nI k / 6 * 6) &&& (h ^^^ (-1))))
def sm_best (h : Int32) (e : Nat) : Int32 × Int32 := sg_it (sm_hst h e) (0, 30) 30
def sm_hid1 (x0 : Int32) (e : Nat) (h : Int32) : Int32 := if sm_bit x0 (nI e) = 1 then (if sm_found h (nI e) = 0 then h else h ||| (sm_best h e).1) else h
def sm_hidden (x0 : Int32) : Int32 := sg_it (sm_hid1 x0) x0 30
set_option maxHeartbeats 4000000 in
set_option maxRecDepth 100000 in
theorem k_X7_hidden {l : Launch} (hst : l.stackTraces = false) (D : va_G) (ad : Nat → Nat) (g : qw_G) (x0 : Int32) : qw_M l yX7_hidden [Cond.code yX7_hidden cX7_hidden 9 (some .int)] { frames := 1, cells := 0, slots := 0, locals := 40 } D ad g [(.int x0)] (qw_kp ad g (some (.int (sm_hidden x0)))) 0 0 := by
  refine qw_M.of (maxL := 9) (own := RX7) (lv := [(0, (.int x0))]) hst (by decide) rfl rfl (Nat.le_of_ble_eq_true rfl) ?_
  intro p e s m args below meth c A C hin
  refine qr_iload_n C dX7_hidden_0 rfl 0 rfl ?_
  refine qr_istore_n (lv' := [(1, (.int x0)), (0, (.int x0))]) C dX7_hidden_1 rfl (by decide) rfl ?_
  refine qr_iconst (v := 0) C dX7_hidden_2 (by decide) ?_
  refine qr_istore_n (lv' := [(2, (.int (0 : Int32))), (1, (.int x0)), (0, (.int x0))]) C dX7_hidden_3 rfl (by decide) rfl ?_
  have L4 : ∀ (j4 i4 : Nat) (h : Int32), i4 + j4 = 30 → h = sg_it (sm_hid1 x0) x0 i4 → qw_W p l e { frames := 1, cells := 0, slots := 0, locals := 40 } s m args below meth c D A 9 (MQ below (qw_Q (qw_kp ad g (some (.int (sm_hidden x0)))) D A) args s 0 0 A) 0 0 ad g 4 [(0, (.int x0)), (1, (.int h)), (2, (.int (nI i4)))] [] := by
    intro j4
    induction j4 with
    | zero =>
      intro i4 h hi4 hh
      obtain rfl : i4 = 30 := by omega
      refine qr_iload_n C dX7_hidden_4 rfl 2 rfl ?_
      refine qr_bipush (v := 30) C dX7_hidden_5 (by decide) ?_
      refine qr_icmp_ge_t C 136 dX7_hidden_7 (by decide) ((sg_le (30) (30) rfl rfl (by omega) (by omega)).mpr (Nat.le_refl _)) ?_
      refine qr_iload_n C dX7_hidden_136 rfl 1 rfl ?_
      exact qr_iret C rfl (Nat.zero_le _) (Nat.zero_le _) dX7_hidden_137 (qw_kpn hh.symm)
    | succ j4 ih4 =>
      intro i4 h hi4 hh
      refine qr_iload_n C dX7_hidden_4 rfl 2 rfl ?_
      refine qr_bipush (v := 30) C dX7_hidden_5 (by decide) ?_
      refine qr_icmp_ge_f C 136 dX7_hidden_7 (by decide) (fun z => absurd ((sg_le (30) (i4) rfl rfl (by omega) (by omega)).mp z) (by omega)) ?_
      refine qr_iload_n C dX7_hidden_10 rfl 0 rfl ?_
      refine qr_iload_n C dX7_hidden_11 rfl 2 rfl ?_
      refine qr_ishr C dX7_hidden_12 ?_
      refine qr_iconst (v := 1) C dX7_hidden_13 (by decide) ?_
      refine qr_iand C dX7_hidden_14 ?_
      refine qr_iconst (v := 1) C dX7_hidden_15 (by decide) ?_
      refine qr_icmp_ne C 130 dX7_hidden_16 (by decide) (fun c16 => ?_) (fun c16 => ?_)
      · skip
        refine qr_iinc (v := (nI (i4 + 1))) (lv' := [(2, (.int (nI (i4 + 1)))), (0, (.int x0)), (1, (.int h))]) C dX7_hidden_130 (w := 2) rfl (nI_1 _) (by decide) rfl ?_
        refine qr_goto (tgt := 4) C dX7_hidden_133 (by decide) ?_
        refine qw_pick [1, 2, 0] (lv' := [(0, (.int x0)), (1, (.int h)), (2, (.int (nI (i4 + 1))))]) rfl ?_
        exact ih4 (i4 + 1) h (by omega) (by have e : sg_it (sm_hid1 x0) x0 (i4 + 1) = sm_hid1 x0 i4 h := (by subst hh; rfl); rw [e]; exact (if_neg c16).symm)
      · skip
        refine qr_iload_n C dX7_hidden_19 rfl 1 rfl ?_
        refine qr_iload_n C dX7_hidden_20 rfl 2 rfl ?_
        refine qr_callS C (na := 2) (As := [(.int h), (.int (nI i4))]) (rest := []) (k_X7_isFound hst D ad g (h) ((nI i4))) gi_X7_107 ⟨by decide, by decide, by decide +kernel⟩ rfl rfl (Nat.le_of_ble_eq_true rfl) rfl rfl ⟨Nat.le_of_ble_eq_true rfl, Nat.le_of_ble_eq_true rfl⟩ ⟨Nat.le_of_ble_eq_true rfl, Nat.le_of_ble_eq_true rfl⟩ dX7_hidden_21 (fun v ad2 g2 hpo => ?_)
        obtain ⟨rfl, rfl, rfl⟩ := hpo
        refine qr_if_eq C 130 dX7_hidden_24 (by decide) (fun c24 => ?_) (fun c24 => ?_)
        · skip
          refine qr_iinc (v := (nI (i4 + 1))) (lv' := [(2, (.int (nI (i4 + 1)))), (0, (.int x0)), (1, (.int h))]) C dX7_hidden_130 (w := 2) rfl (nI_1 _) (by decide) rfl ?_
          refine qr_goto (tgt := 4) C dX7_hidden_133 (by decide) ?_
          refine qw_pick [1, 2, 0] (lv' := [(0, (.int x0)), (1, (.int h)), (2, (.int (nI (i4 + 1))))]) rfl ?_
          exact ih4 (i4 + 1) h (by omega) (by have e : sg_it (sm_hid1 x0) x0 (i4 + 1) = sm_hid1 x0 i4 h := (by subst hh; rfl); rw [e]; exact (Eq.trans (if_pos c16) (if_pos c24)).symm)
        · skip
          refine qr_iconst (v := 0) C dX7_hidden_27 (by decide) ?_
          refine qr_istore_n (lv' := [(3, (.int (0 : Int32))), (0, (.int x0)), (1, (.int h)), (2, (.int (nI i4)))]) C dX7_hidden_28 rfl (by decide) rfl ?_
          refine qr_bipush (v := 30) C dX7_hidden_29 (by decide) ?_
          refine qr_istore (lv' := [(4, (.int (30 : Int32))), (3, (.int (0 : Int32))), (0, (.int x0)), (1, (.int h)), (2, (.int (nI i4)))]) C dX7_hidden_31 (by decide) rfl ?_
          refine qr_iconst (v := 0) C dX7_hidden_33 (by decide) ?_
          refine qr_istore (lv' := [(5, (.int (0 : Int32))), (4, (.int (30 : Int32))), (3, (.int (0 : Int32))), (0, (.int x0)), (1, (.int h)), (2, (.int (nI i4)))]) C dX7_hidden_34 (by decide) rfl ?_
          have L36 : ∀ (j36 i36 : Nat) (fb : Int32) (fl : Int32), i36 + j36 = 30 → fb = (sg_it (sm_hst h i4) (0, 30) i36).1 → fl = (sg_it (sm_hst h i4) (0, 30) i36).2 → qw_W p l e { frames := 1, cells := 0, slots := 0, locals := 40 } s m args below meth c D A 9 (MQ below (qw_Q (qw_kp ad g (some (.int (sm_hidden x0)))) D A) args s 0 0 A) 0 0 ad g 36 [(0, (.int x0)), (1, (.int h)), (2, (.int (nI i4))), (3, (.int fb)), (4, (.int fl)), (5, (.int (nI i36)))] [] := by
            intro j36
            induction j36 with
            | zero =>
              intro i36 fb fl hi36 hfb hfl
              obtain rfl : i36 = 30 := by omega
              refine qr_iload C dX7_hidden_36 5 rfl ?_
              refine qr_bipush (v := 30) C dX7_hidden_38 (by decide) ?_
              refine qr_icmp_ge_t C 126 dX7_hidden_40 (by decide) ((sg_le (30) (30) rfl rfl (by omega) (by omega)).mpr (Nat.le_refl _)) ?_
              refine qr_iload_n C dX7_hidden_126 rfl 1 rfl ?_
              refine qr_iload_n C dX7_hidden_127 rfl 3 rfl ?_
              refine qr_ior C dX7_hidden_128 ?_
              refine qr_istore_n (lv' := [(1, (.int (h ||| fb))), (0, (.int x0)), (2, (.int (nI i4))), (3, (.int fb)), (4, (.int fl)), (5, (.int (nI (30))))]) C dX7_hidden_129 rfl (by decide) rfl ?_
              refine qr_iinc (v := (nI (i4 + 1))) (lv' := [(2, (.int (nI (i4 + 1)))), (1, (.int (h ||| fb))), (0, (.int x0)), (3, (.int fb)), (4, (.int fl)), (5, (.int (nI (30))))]) C dX7_hidden_130 (w := 2) rfl (nI_1 _) (by decide) rfl ?_
              refine qr_goto (tgt := 4) C dX7_hidden_133 (by decide) ?_
              refine qw_pick [2, 1, 0] (lv' := [(0, (.int x0)), (1, (.int (h ||| fb))), (2, (.int (nI (i4 + 1))))]) rfl ?_
              exact ih4 (i4 + 1) (h ||| fb) (by omega) (by have e : sg_it (sm_hid1 x0) x0 (i4 + 1) = sm_hid1 x0 i4 h := (by subst hh; rfl); rw [e, hfb]; exact (Eq.trans (if_pos c16) (if_neg c24)).symm)
            | succ j36 ih36 =>
              intro i36 fb fl hi36 hfb hfl
              refine qr_iload C dX7_hidden_36 5 rfl ?_
              refine qr_bipush (v := 30) C dX7_hidden_38 (by decide) ?_
              refine qr_icmp_ge_f C 126 dX7_hidden_40 (by decide) (fun z => absurd ((sg_le (30) (i36) rfl rfl (by omega) (by omega)).mp z) (by omega)) ?_
              have M43_0 : ∀ bi : Int32, bi = (if ((nI i36) / (6 : Int32)) = ((nI i4) / (6 : Int32)) then (0 : Int32) else (if ((nI i36) - (nI i36) / (6 : Int32) * (6 : Int32)) = ((nI i4) - (nI i4) / (6 : Int32) * (6 : Int32)) then (0 : Int32) else (1 : Int32))) → qw_W p l e { frames := 1, cells := 0, slots := 0, locals := 40 } s m args below meth c D A 9 (MQ below (qw_Q (qw_kp ad g (some (.int (sm_hidden x0)))) D A) args s 0 0 A) 0 0 ad g 72 [(0, (.int x0)), (1, (.int h)), (2, (.int (nI i4))), (3, (.int fb)), (4, (.int fl)), (5, (.int (nI i36)))] [(.int bi)] := by
                intro bi hbi
                refine qr_istore (lv' := [(6, (.int bi)), (0, (.int x0)), (1, (.int h)), (2, (.int (nI i4))), (3, (.int fb)), (4, (.int fl)), (5, (.int (nI i36)))]) C dX7_hidden_72 (by decide) rfl ?_
                refine qr_iload_n C dX7_hidden_74 rfl 3 rfl ?_
                refine qr_iload C dX7_hidden_75 6 rfl ?_
                refine qr_bipush (v := 6) C dX7_hidden_77 (by decide) ?_
                refine qr_idiv C dX7_hidden_79 (by decide) ?_
                refine qr_iload C dX7_hidden_80 6 rfl ?_
                refine qr_bipush (v := 6) C dX7_hidden_82 (by decide) ?_
                refine qr_irem C dX7_hidden_84 (by decide) ?_
                refine qr_callS C (na := 3) (As := [(.int (nI i4)), (.int ((nI i36) / (6 : Int32))), (.int ((nI i36) - (nI i36) / (6 : Int32) * (6 : Int32)))]) (rest := []) (k_X7_covers hst D ad g ((nI i4)) (((nI i36) / (6 : Int32))) (((nI i36) - (nI i36) / (6 : Int32) * (6 : Int32)))) gi_X7_110 ⟨by decide, by decide, by decide +kernel⟩ rfl rfl (Nat.le_of_ble_eq_true rfl) rfl rfl ⟨Nat.le_of_ble_eq_true rfl, Nat.le_of_ble_eq_true rfl⟩ ⟨Nat.le_of_ble_eq_true rfl, Nat.le_of_ble_eq_true rfl⟩ dX7_hidden_85 (fun v ad2 g2 hpo => ?_)
                obtain ⟨rfl, rfl, rfl⟩ := hpo
                refine qr_istore (lv' := [(7, (.int (sm_cov ((nI i4)) (((nI i36) / (6 : Int32))) (((nI i36) - (nI i36) / (6 : Int32) * (6 : Int32)))))), (6, (.int bi)), (0, (.int x0)), (1, (.int h)), (2, (.int (nI i4))), (3, (.int fb)), (4, (.int fl)), (5, (.int (nI i36)))]) C dX7_hidden_88 (by decide) rfl ?_
                refine qr_iload C dX7_hidden_90 0 rfl ?_
                refine qr_iload_n C dX7_hidden_92 rfl 3 rfl ?_
                refine qr_iconst (v := -1) C dX7_hidden_93 (by decide) ?_
                refine qr_ixor C dX7_hidden_94 ?_
                refine qr_iand C dX7_hidden_95 ?_
                refine qr_callS C (na := 1) (As := [(.int ((sm_cov ((nI i4)) (((nI i36) / (6 : Int32))) (((nI i36) - (nI i36) / (6 : Int32) * (6 : Int32)))) &&& (h ^^^ (-1 : Int32))))]) (rest := []) (k_X7_bits hst D ad g (((sm_cov ((nI i4)) (((nI i36) / (6 : Int32))) (((nI i36) - (nI i36) / (6 : Int32) * (6 : Int32)))) &&& (h ^^^ (-1 : Int32))))) gi_X7_113 ⟨by decide, by decide, by decide +kernel⟩ rfl rfl (Nat.le_of_ble_eq_true rfl) rfl rfl ⟨Nat.le_of_ble_eq_true rfl, Nat.le_of_ble_eq_true rfl⟩ ⟨Nat.le_of_ble_eq_true rfl, Nat.le_of_ble_eq_true rfl⟩ dX7_hidden_96 (fun v ad2 g2 hpo => ?_)
                obtain ⟨rfl, rfl, rfl⟩ := hpo
                refine qr_istore (lv' := [(8, (.int (sm_bits (((sm_cov ((nI i4)) (((nI i36) / (6 : Int32))) (((nI i36) - (nI i36) / (6 : Int32) * (6 : Int32)))) &&& (h ^^^ (-1 : Int32))))))), (7, (.int (sm_cov ((nI i4)) (((nI i36) / (6 : Int32))) (((nI i36) - (nI i36) / (6 : Int32) * (6 : Int32)))))), (6, (.int bi)), (0, (.int x0)), (1, (.int h)), (2, (.int (nI i4))), (3, (.int fb)), (4, (.int fl)), (5, (.int (nI i36)))]) C dX7_hidden_99 (by decide) rfl ?_
                refine qr_iload C dX7_hidden_101 2 rfl ?_
                refine qr_if_eq C 120 dX7_hidden_103 (by decide) (fun c103 => ?_) (fun c103 => ?_)
                · skip
                  refine qr_iinc (v := (nI (i36 + 1))) (lv' := [(5, (.int (nI (i36 + 1)))), (8, (.int (sm_bits (((sm_cov ((nI i4)) (((nI i36) / (6 : Int32))) (((nI i36) - (nI i36) / (6 : Int32) * (6 : Int32)))) &&& (h ^^^ (-1 : Int32))))))), (7, (.int (sm_cov ((nI i4)) (((nI i36) / (6 : Int32))) (((nI i36) - (nI i36) / (6 : Int32) * (6 : Int32)))))), (6, (.int bi)), (0, (.int x0)), (1, (.int h)), (2, (.int (nI i4))), (3, (.int fb)), (4, (.int fl))]) C dX7_hidden_120 (w := 8) rfl (nI_1 _) (by decide) rfl ?_
                  refine qr_goto (tgt := 36) C dX7_hidden_123 (by decide) ?_
                  refine qw_pick [4, 5, 6, 7, 8, 0] (lv' := [(0, (.int x0)), (1, (.int h)), (2, (.int (nI i4))), (3, (.int fb)), (4, (.int fl)), (5, (.int (nI (i36 + 1))))]) rfl ?_
                  exact ih36 (i36 + 1) fb fl (by omega) (by have e : sg_it (sm_hst h i4) (0, 30) (i36 + 1) = sm_hst h i4 i36 (fb, fl) := (by show sm_hst h i4 i36 (sg_it (sm_hst h i4) (0, 30) i36) = _; rw [show sg_it (sm_hst h i4) (0, 30) i36 = (fb, fl) from Prod.ext hfb.symm hfl.symm]); rw [e]; simp only [sm_hst, if_pos (hbi.symm.trans c103)]) (by have e : sg_it (sm_hst h i4) (0, 30) (i36 + 1) = sm_hst h i4 i36 (fb, fl) := (by show sm_hst h i4 i36 (sg_it (sm_hst h i4) (0, 30) i36) = _; rw [show sg_it (sm_hst h i4) (0, 30) i36 = (fb, fl) from Prod.ext hfb.symm hfl.symm]); rw [e]; simp only [sm_hst, if_pos (hbi.symm.trans c103)])
                · skip
                  refine qr_iload C dX7_hidden_106 0 rfl ?_
                  refine qr_iload C dX7_hidden_108 7 rfl ?_
                  refine qr_icmp_ge C 120 dX7_hidden_110 (by decide) (fun c110 => ?_) (fun c110 => ?_)
                  · skip
                    refine qr_iinc (v := (nI (i36 + 1))) (lv' := [(5, (.int (nI (i36 + 1)))), (8, (.int (sm_bits (((sm_cov ((nI i4)) (((nI i36) / (6 : Int32))) (((nI i36) - (nI i36) / (6 : Int32) * (6 : Int32)))) &&& (h ^^^ (-1 : Int32))))))), (7, (.int (sm_cov ((nI i4)) (((nI i36) / (6 : Int32))) (((nI i36) - (nI i36) / (6 : Int32) * (6 : Int32)))))), (6, (.int bi)), (0, (.int x0)), (1, (.int h)), (2, (.int (nI i4))), (3, (.int fb)), (4, (.int fl))]) C dX7_hidden_120 (w := 8) rfl (nI_1 _) (by decide) rfl ?_
                    refine qr_goto (tgt := 36) C dX7_hidden_123 (by decide) ?_
                    refine qw_pick [4, 5, 6, 7, 8, 0] (lv' := [(0, (.int x0)), (1, (.int h)), (2, (.int (nI i4))), (3, (.int fb)), (4, (.int fl)), (5, (.int (nI (i36 + 1))))]) rfl ?_
                    exact ih36 (i36 + 1) fb fl (by omega) (by have e : sg_it (sm_hst h i4) (0, 30) (i36 + 1) = sm_hst h i4 i36 (fb, fl) := (by show sm_hst h i4 i36 (sg_it (sm_hst h i4) (0, 30) i36) = _; rw [show sg_it (sm_hst h i4) (0, 30) i36 = (fb, fl) from Prod.ext hfb.symm hfl.symm]); rw [e]; simp only [sm_hst, if_neg (fun z => c103 (hbi.trans z)), if_pos c110]) (by have e : sg_it (sm_hst h i4) (0, 30) (i36 + 1) = sm_hst h i4 i36 (fb, fl) := (by show sm_hst h i4 i36 (sg_it (sm_hst h i4) (0, 30) i36) = _; rw [show sg_it (sm_hst h i4) (0, 30) i36 = (fb, fl) from Prod.ext hfb.symm hfl.symm]); rw [e]; simp only [sm_hst, if_neg (fun z => c103 (hbi.trans z)), if_pos c110])
                  · skip
                    refine qr_iload C dX7_hidden_113 0 rfl ?_
                    refine qr_istore (lv' := [(4, (.int (sm_bits (((sm_cov ((nI i4)) (((nI i36) / (6 : Int32))) (((nI i36) - (nI i36) / (6 : Int32) * (6 : Int32)))) &&& (h ^^^ (-1 : Int32))))))), (8, (.int (sm_bits (((sm_cov ((nI i4)) (((nI i36) / (6 : Int32))) (((nI i36) - (nI i36) / (6 : Int32) * (6 : Int32)))) &&& (h ^^^ (-1 : Int32))))))), (7, (.int (sm_cov ((nI i4)) (((nI i36) / (6 : Int32))) (((nI i36) - (nI i36) / (6 : Int32) * (6 : Int32)))))), (6, (.int bi)), (0, (.int x0)), (1, (.int h)), (2, (.int (nI i4))), (3, (.int fb)), (5, (.int (nI i36)))]) C dX7_hidden_115 (by decide) rfl ?_
                    refine qr_iload C dX7_hidden_117 2 rfl ?_
                    refine qr_istore_n (lv' := [(3, (.int (sm_cov ((nI i4)) (((nI i36) / (6 : Int32))) (((nI i36) - (nI i36) / (6 : Int32) * (6 : Int32)))))), (4, (.int (sm_bits (((sm_cov ((nI i4)) (((nI i36) / (6 : Int32))) (((nI i36) - (nI i36) / (6 : Int32) * (6 : Int32)))) &&& (h ^^^ (-1 : Int32))))))), (8, (.int (sm_bits (((sm_cov ((nI i4)) (((nI i36) / (6 : Int32))) (((nI i36) - (nI i36) / (6 : Int32) * (6 : Int32)))) &&& (h ^^^ (-1 : Int32))))))), (7, (.int (sm_cov ((nI i4)) (((nI i36) / (6 : Int32))) (((nI i36) - (nI i36) / (6 : Int32) * (6 : Int32)))))), (6, (.int bi)), (0, (.int x0)), (1, (.int h)), (2, (.int (nI i4))), (5, (.int (nI i36)))]) C dX7_hidden_119 rfl (by decide) rfl ?_
                    refine qr_iinc (v := (nI (i36 + 1))) (lv' := [(5, (.int (nI (i36 + 1)))), (3, (.int (sm_cov ((nI i4)) (((nI i36) / (6 : Int32))) (((nI i36) - (nI i36) / (6 : Int32) * (6 : Int32)))))), (4, (.int (sm_bits (((sm_cov ((nI i4)) (((nI i36) / (6 : Int32))) (((nI i36) - (nI i36) / (6 : Int32) * (6 : Int32)))) &&& (h ^^^ (-1 : Int32))))))), (8, (.int (sm_bits (((sm_cov ((nI i4)) (((nI i36) / (6 : Int32))) (((nI i36) - (nI i36) / (6 : Int32) * (6 : Int32)))) &&& (h ^^^ (-1 : Int32))))))), (7, (.int (sm_cov ((nI i4)) (((nI i36) / (6 : Int32))) (((nI i36) - (nI i36) / (6 : Int32) * (6 : Int32)))))), (6, (.int bi)), (0, (.int x0)), (1, (.int h)), (2, (.int (nI i4)))]) C dX7_hidden_120 (w := 8) rfl (nI_1 _) (by decide) rfl ?_
                    refine qr_goto (tgt := 36) C dX7_hidden_123 (by decide) ?_
                    refine qw_pick [6, 7, 8, 1, 2, 0] (lv' := [(0, (.int x0)), (1, (.int h)), (2, (.int (nI i4))), (3, (.int (sm_cov ((nI i4)) (((nI i36) / (6 : Int32))) (((nI i36) - (nI i36) / (6 : Int32) * (6 : Int32)))))), (4, (.int (sm_bits (((sm_cov ((nI i4)) (((nI i36) / (6 : Int32))) (((nI i36) - (nI i36) / (6 : Int32) * (6 : Int32)))) &&& (h ^^^ (-1 : Int32))))))), (5, (.int (nI (i36 + 1))))]) rfl ?_
                    exact ih36 (i36 + 1) (sm_cov ((nI i4)) (((nI i36) / (6 : Int32))) (((nI i36) - (nI i36) / (6 : Int32) * (6 : Int32)))) (sm_bits (((sm_cov ((nI i4)) (((nI i36) / (6 : Int32))) (((nI i36) - (nI i36) / (6 : Int32) * (6 : Int32)))) &&& (h ^^^ (-1 : Int32))))) (by omega) (by have e : sg_it (sm_hst h i4) (0, 30) (i36 + 1) = sm_hst h i4 i36 (fb, fl) := (by show sm_hst h i4 i36 (sg_it (sm_hst h i4) (0, 30) i36) = _; rw [show sg_it (sm_hst h i4) (0, 30) i36 = (fb, fl) from Prod.ext hfb.symm hfl.symm]); rw [e]; simp only [sm_hst, if_neg (fun z => c103 (hbi.trans z)), if_neg c110]) (by have e : sg_it (sm_hst h i4) (0, 30) (i36 + 1) = sm_hst h i4 i36 (fb, fl) := (by show sm_hst h i4 i36 (sg_it (sm_hst h i4) (0, 30) i36) = _; rw [show sg_it (sm_hst h i4) (0, 30) i36 = (fb, fl) from Prod.ext hfb.symm hfl.symm]); rw [e]; simp only [sm_hst, if_neg (fun z => c103 (hbi.trans z)), if_neg c110])
              refine qr_iload C dX7_hidden_43 5 rfl ?_
              refine qr_bipush (v := 6) C dX7_hidden_45 (by decide) ?_
              refine qr_idiv C dX7_hidden_47 (by decide) ?_
              refine qr_iload_n C dX7_hidden_48 rfl 2 rfl ?_
              refine qr_bipush (v := 6) C dX7_hidden_49 (by decide) ?_
              refine qr_idiv C dX7_hidden_51 (by decide) ?_
              refine qr_icmp_eq C 71 dX7_hidden_52 (by decide) (fun c2 => ?_) (fun c2 => ?_)
              · skip
                refine qr_iconst (v := 0) C dX7_hidden_71 (by decide) ?_
                exact M43_0 _ (by simp only [if_pos c2])
              · skip
                refine qr_iload C dX7_hidden_55 5 rfl ?_
                refine qr_bipush (v := 6) C dX7_hidden_57 (by decide) ?_
                refine qr_irem C dX7_hidden_59 (by decide) ?_
                refine qr_iload_n C dX7_hidden_60 rfl 2 rfl ?_
                refine qr_bipush (v := 6) C dX7_hidden_61 (by decide) ?_
                refine qr_irem C dX7_hidden_63 (by decide) ?_
                refine qr_icmp_eq C 71 dX7_hidden_64 (by decide) (fun c3 => ?_) (fun c3 => ?_)
                · skip
                  refine qr_iconst (v := 0) C dX7_hidden_71 (by decide) ?_
                  exact M43_0 _ (by simp only [if_neg c2, if_pos c3])
                · skip
                  refine qr_iconst (v := 1) C dX7_hidden_67 (by decide) ?_
                  refine qr_goto (tgt := 72) C dX7_hidden_68 (by decide) ?_
                  exact M43_0 _ (by simp only [if_neg c2, if_neg c3])
          refine qw_pick [3, 4, 5, 2, 1, 0] (lv' := [(0, (.int x0)), (1, (.int h)), (2, (.int (nI i4))), (3, (.int (0 : Int32))), (4, (.int (30 : Int32))), (5, (.int (0 : Int32)))]) rfl ?_
          exact L36 (30) 0 (0 : Int32) (30 : Int32) (by omega) rfl rfl
  refine qw_pick [2, 1, 0] (lv' := [(0, (.int x0)), (1, (.int x0)), (2, (.int (0 : Int32)))]) rfl ?_
  exact L4 (30) 0 x0 (by omega) rfl
