set_option maxHeartbeats 4000000 in
set_option maxRecDepth 100000 in
theorem k_X6_contains {l : Launch} (hst : l.stackTraces = false) (D : va_G) (ad : Nat → Nat) (g : qw_G) (x0 x1 : Int32) : qw_M l yX6_contains [Cond.code yX6_contains cX6_contains 2 (some .boolean)] { frames := 0, cells := 0, slots := 0, locals := 0 } D ad g [(.int x0), (.int x1)] (qw_kp ad g (some (.int (sg_has x0 x1)))) 0 0 := by
  refine qw_M.of (maxL := 2) (own := RX6) (lv := [(0, (.int x0)), (1, (.int x1))]) hst (by decide) rfl rfl (Nat.le_of_ble_eq_true rfl) ?_
  intro p e s m args below meth c A C hin
  refine qr_iload_n C dX6_contains_0 rfl 0 rfl ?_
  refine qr_iconst (v := 1) C dX6_contains_1 (by decide) ?_
  refine qr_iload_n C dX6_contains_2 rfl 1 rfl ?_
  refine qr_ishl C dX6_contains_3 ?_
  refine qr_iand C dX6_contains_4 ?_
  refine qr_if_eq C 12 dX6_contains_5 (by decide) (fun c1 => ?_) (fun c1 => ?_)
  · skip
    refine qr_iconst (v := 0) C dX6_contains_12 (by decide) ?_
    exact qr_zret C rfl (by first | exact Or.inr rfl | exact Or.inl rfl) (Nat.zero_le _) (Nat.zero_le _) dX6_contains_13 (qw_kpn (by first | exact if_pos c1 | exact if_neg c1))
  · skip
    refine qr_iconst (v := 1) C dX6_contains_8 (by decide) ?_
    refine qr_goto (tgt := 13) C dX6_contains_9 (by decide) ?_
    exact qr_zret C rfl (by first | exact Or.inr rfl | exact Or.inl rfl) (Nat.zero_le _) (Nat.zero_le _) dX6_contains_13 (qw_kpn (by first | exact if_pos c1 | exact if_neg c1))
set_option maxHeartbeats 4000000 in
set_option maxRecDepth 100000 in
theorem k_X0_columnsOf {l : Launch} (hst : l.stackTraces = false) (D : va_G) (ad : Nat → Nat) (g : qw_G) (x0 x1 : Int32) : qw_M l yX0_columnsOf [Cond.code yX0_columnsOf cX0_columnsOf 2 (some .int)] { frames := 0, cells := 0, slots := 0, locals := 0 } D ad g [(.int x0), (.int x1)] (qw_kp ad g (some (.int (sg_cols x0 x1)))) 0 0 := by
  refine qw_M.of (maxL := 2) (own := RX0) (lv := [(0, (.int x0)), (1, (.int x1))]) hst (by decide) rfl rfl (Nat.le_of_ble_eq_true rfl) ?_
  intro p e s m args below meth c A C hin
  refine qr_iload_n C dX0_columnsOf_0 rfl 0 rfl ?_
  refine qr_iload_n C dX0_columnsOf_1 rfl 1 rfl ?_
  refine qr_bipush (v := 6) C dX0_columnsOf_2 (by decide) ?_
  refine qr_imul C dX0_columnsOf_4 ?_
  refine qr_ishr C dX0_columnsOf_5 ?_
  refine qr_bipush (v := 63) C dX0_columnsOf_6 (by decide) ?_
  refine qr_iand C dX0_columnsOf_8 ?_
  exact qr_iret C rfl (Nat.zero_le _) (Nat.zero_le _) dX0_columnsOf_9 (qw_kpn rfl)
set_option maxHeartbeats 4000000 in
set_option maxRecDepth 100000 in
theorem k_X0_cornersOf {l : Launch} (hst : l.stackTraces = false) (D : va_G) (ad : Nat → Nat) (g : qw_G) (x0 x1 x2 : Int32) : qw_M l yX0_cornersOf [Cond.code yX0_cornersOf cX0_cornersOf 6 (some .int)] { frames := 0, cells := 0, slots := 0, locals := 0 } D ad g [(.int x0), (.int x1), (.int x2)] (qw_kp ad g (some (.int (sg_corners x0 x1 x2)))) 0 0 := by
  refine qw_M.of (maxL := 6) (own := RX0) (lv := [(0, (.int x0)), (1, (.int x1)), (2, (.int x2))]) hst (by decide) rfl rfl (Nat.le_of_ble_eq_true rfl) ?_
  intro p e s m args below meth c A C hin
  refine qr_iload_n C dX0_cornersOf_0 rfl 0 rfl ?_
  refine qr_bipush (v := 6) C dX0_cornersOf_1 (by decide) ?_
  refine qr_idiv C dX0_cornersOf_3 (by decide) ?_
  refine qr_bipush (v := 6) C dX0_cornersOf_4 (by decide) ?_
  refine qr_imul C dX0_cornersOf_6 ?_
  refine qr_iload_n C dX0_cornersOf_7 rfl 2 rfl ?_
  refine qr_iadd C dX0_cornersOf_8 ?_
  refine qr_istore_n (lv' := [(3, (.int (((x0 / (6 : Int32)) * (6 : Int32)) + x2))), (0, (.int x0)), (1, (.int x1)), (2, (.int x2))]) C dX0_cornersOf_9 rfl (by decide) rfl ?_
  refine qr_iload_n C dX0_cornersOf_10 rfl 2 rfl ?_
  refine qr_bipush (v := 6) C dX0_cornersOf_11 (by decide) ?_
  refine qr_imul C dX0_cornersOf_13 ?_
  refine qr_iload_n C dX0_cornersOf_14 rfl 1 rfl ?_
  refine qr_bipush (v := 6) C dX0_cornersOf_15 (by decide) ?_
  refine qr_irem C dX0_cornersOf_17 (by decide) ?_
  refine qr_iadd C dX0_cornersOf_18 ?_
  refine qr_istore (lv' := [(4, (.int ((x1 * (6 : Int32)) + (x0 - x0 / (6 : Int32) * (6 : Int32))))), (3, (.int (((x0 / (6 : Int32)) * (6 : Int32)) + x2))), (0, (.int x0)), (1, (.int x1)), (2, (.int x2))]) C dX0_cornersOf_19 (by decide) rfl ?_
  refine qr_iload_n C dX0_cornersOf_21 rfl 3 rfl ?_
  refine qr_bipush (v := 6) C dX0_cornersOf_22 (by decide) ?_
  refine qr_imul C dX0_cornersOf_24 ?_
  refine qr_iload_n C dX0_cornersOf_25 rfl 4 rfl ?_
  refine qr_iadd C dX0_cornersOf_26 ?_
  refine qr_istore (lv' := [(5, (.int ((x1 * (6 : Int32)) + x2))), (4, (.int ((x1 * (6 : Int32)) + (x0 - x0 / (6 : Int32) * (6 : Int32))))), (3, (.int (((x0 / (6 : Int32)) * (6 : Int32)) + x2))), (0, (.int x0)), (1, (.int x1)), (2, (.int x2))]) C dX0_cornersOf_27 (by decide) rfl ?_
  refine qr_iconst (v := 1) C dX0_cornersOf_29 (by decide) ?_
  refine qr_iload_n C dX0_cornersOf_30 rfl 2 rfl ?_
  refine qr_ishl C dX0_cornersOf_31 ?_
  refine qr_iconst (v := 1) C dX0_cornersOf_32 (by decide) ?_
  refine qr_iload C dX0_cornersOf_33 1 rfl ?_
  refine qr_ishl C dX0_cornersOf_35 ?_
  refine qr_ior C dX0_cornersOf_36 ?_
  refine qr_iconst (v := 1) C dX0_cornersOf_37 (by decide) ?_
  refine qr_iload C dX0_cornersOf_38 0 rfl ?_
  refine qr_ishl C dX0_cornersOf_40 ?_
  refine qr_ior C dX0_cornersOf_41 ?_
  exact qr_iret C rfl (Nat.zero_le _) (Nat.zero_le _) dX0_cornersOf_42 (qw_kpn rfl)
set_option maxHeartbeats 4000000 in
set_option maxRecDepth 100000 in
theorem k_J6_bitCount_0f7a4 {l : Launch} (hst : l.stackTraces = false) (D : va_G) (ad : Nat → Nat) (g : qw_G) (x0 : Int32) : qw_M l yJ6_bitCount_0f7a4 [Cond.code yJ6_bitCount_0f7a4 cJ6_bitCount_0f7a4 1 (some .int)] { frames := 0, cells := 0, slots := 0, locals := 0 } D ad g [(.int x0)] (qw_kp ad g (some (.int (sg_bc x0)))) 0 0 := by
  refine qw_M.of (maxL := 1) (own := RJ6) (lv := [(0, (.int x0))]) hst (by decide) rfl rfl (Nat.le_of_ble_eq_true rfl) ?_
  intro p e s m args below meth c A C hin
  refine qr_iload_n C dJ6_bitCount_0f7a4_0 rfl 0 rfl ?_
  refine qr_iload_n C dJ6_bitCount_0f7a4_1 rfl 0 rfl ?_
  refine qr_iconst (v := 1) C dJ6_bitCount_0f7a4_2 (by decide) ?_
  refine qr_iushr C dJ6_bitCount_0f7a4_3 ?_
  refine qr_ldcw (v := 1431655765) C (gk_bits.1) dJ6_bitCount_0f7a4_4 ?_
  refine qr_iand C dJ6_bitCount_0f7a4_7 ?_
  refine qr_isub C dJ6_bitCount_0f7a4_8 ?_
  refine qr_istore_n (lv' := [(0, (.int (x0 - (((x0.toUInt32 >>> ((1 : Int32).toUInt32 &&& Int32.toUInt32 31)).toInt32) &&& (1431655765 : Int32)))))]) C dJ6_bitCount_0f7a4_9 rfl (by decide) rfl ?_
  refine qr_iload_n C dJ6_bitCount_0f7a4_10 rfl 0 rfl ?_
  refine qr_ldcw (v := 858993459) C (gk_bits.2.1) dJ6_bitCount_0f7a4_11 ?_
  refine qr_iand C dJ6_bitCount_0f7a4_14 ?_
  refine qr_iload_n C dJ6_bitCount_0f7a4_15 rfl 0 rfl ?_
  refine qr_iconst (v := 2) C dJ6_bitCount_0f7a4_16 (by decide) ?_
  refine qr_iushr C dJ6_bitCount_0f7a4_17 ?_
  refine qr_ldcw (v := 858993459) C (gk_bits.2.1) dJ6_bitCount_0f7a4_18 ?_
  refine qr_iand C dJ6_bitCount_0f7a4_21 ?_
  refine qr_iadd C dJ6_bitCount_0f7a4_22 ?_
  refine qr_istore_n (lv' := [(0, (.int (((x0 - (((x0.toUInt32 >>> ((1 : Int32).toUInt32 &&& Int32.toUInt32 31)).toInt32) &&& (1431655765 : Int32))) &&& (858993459 : Int32)) + ((((x0 - (((x0.toUInt32 >>> ((1 : Int32).toUInt32 &&& Int32.toUInt32 31)).toInt32) &&& (1431655765 : Int32))).toUInt32 >>> ((2 : Int32).toUInt32 &&& Int32.toUInt32 31)).toInt32) &&& (858993459 : Int32)))))]) C dJ6_bitCount_0f7a4_23 rfl (by decide) rfl ?_
  refine qr_iload_n C dJ6_bitCount_0f7a4_24 rfl 0 rfl ?_
  refine qr_iload_n C dJ6_bitCount_0f7a4_25 rfl 0 rfl ?_
  refine qr_iconst (v := 4) C dJ6_bitCount_0f7a4_26 (by decide) ?_
  refine qr_iushr C dJ6_bitCount_0f7a4_27 ?_
  refine qr_iadd C dJ6_bitCount_0f7a4_28 ?_
  refine qr_ldcw (v := 252645135) C (gk_bits.2.2) dJ6_bitCount_0f7a4_29 ?_
  refine qr_iand C dJ6_bitCount_0f7a4_32 ?_
  refine qr_istore_n (lv' := [(0, (.int (((((x0 - (((x0.toUInt32 >>> ((1 : Int32).toUInt32 &&& Int32.toUInt32 31)).toInt32) &&& (1431655765 : Int32))) &&& (858993459 : Int32)) + ((((x0 - (((x0.toUInt32 >>> ((1 : Int32).toUInt32 &&& Int32.toUInt32 31)).toInt32) &&& (1431655765 : Int32))).toUInt32 >>> ((2 : Int32).toUInt32 &&& Int32.toUInt32 31)).toInt32) &&& (858993459 : Int32))) + (((((x0 - (((x0.toUInt32 >>> ((1 : Int32).toUInt32 &&& Int32.toUInt32 31)).toInt32) &&& (1431655765 : Int32))) &&& (858993459 : Int32)) + ((((x0 - (((x0.toUInt32 >>> ((1 : Int32).toUInt32 &&& Int32.toUInt32 31)).toInt32) &&& (1431655765 : Int32))).toUInt32 >>> ((2 : Int32).toUInt32 &&& Int32.toUInt32 31)).toInt32) &&& (858993459 : Int32))).toUInt32 >>> ((4 : Int32).toUInt32 &&& Int32.toUInt32 31)).toInt32)) &&& (252645135 : Int32))))]) C dJ6_bitCount_0f7a4_33 rfl (by decide) rfl ?_
  refine qr_iload_n C dJ6_bitCount_0f7a4_34 rfl 0 rfl ?_
  refine qr_iload_n C dJ6_bitCount_0f7a4_35 rfl 0 rfl ?_
  refine qr_bipush (v := 8) C dJ6_bitCount_0f7a4_36 (by decide) ?_
  refine qr_iushr C dJ6_bitCount_0f7a4_38 ?_
  refine qr_iadd C dJ6_bitCount_0f7a4_39 ?_
  refine qr_istore_n (lv' := [(0, (.int ((((((x0 - (((x0.toUInt32 >>> ((1 : Int32).toUInt32 &&& Int32.toUInt32 31)).toInt32) &&& (1431655765 : Int32))) &&& (858993459 : Int32)) + ((((x0 - (((x0.toUInt32 >>> ((1 : Int32).toUInt32 &&& Int32.toUInt32 31)).toInt32) &&& (1431655765 : Int32))).toUInt32 >>> ((2 : Int32).toUInt32 &&& Int32.toUInt32 31)).toInt32) &&& (858993459 : Int32))) + (((((x0 - (((x0.toUInt32 >>> ((1 : Int32).toUInt32 &&& Int32.toUInt32 31)).toInt32) &&& (1431655765 : Int32))) &&& (858993459 : Int32)) + ((((x0 - (((x0.toUInt32 >>> ((1 : Int32).toUInt32 &&& Int32.toUInt32 31)).toInt32) &&& (1431655765 : Int32))).toUInt32 >>> ((2 : Int32).toUInt32 &&& Int32.toUInt32 31)).toInt32) &&& (858993459 : Int32))).toUInt32 >>> ((4 : Int32).toUInt32 &&& Int32.toUInt32 31)).toInt32)) &&& (252645135 : Int32)) + (((((((x0 - (((x0.toUInt32 >>> ((1 : Int32).toUInt32 &&& Int32.toUInt32 31)).toInt32) &&& (1431655765 : Int32))) &&& (858993459 : Int32)) + ((((x0 - (((x0.toUInt32 >>> ((1 : Int32).toUInt32 &&& Int32.toUInt32 31)).toInt32) &&& (1431655765 : Int32))).toUInt32 >>> ((2 : Int32).toUInt32 &&& Int32.toUInt32 31)).toInt32) &&& (858993459 : Int32))) + (((((x0 - (((x0.toUInt32 >>> ((1 : Int32).toUInt32 &&& Int32.toUInt32 31)).toInt32) &&& (1431655765 : Int32))) &&& (858993459 : Int32)) + ((((x0 - (((x0.toUInt32 >>> ((1 : Int32).toUInt32 &&& Int32.toUInt32 31)).toInt32) &&& (1431655765 : Int32))).toUInt32 >>> ((2 : Int32).toUInt32 &&& Int32.toUInt32 31)).toInt32) &&& (858993459 : Int32))).toUInt32 >>> ((4 : Int32).toUInt32 &&& Int32.toUInt32 31)).toInt32)) &&& (252645135 : Int32)).toUInt32 >>> ((8 : Int32).toUInt32 &&& Int32.toUInt32 31)).toInt32))))]) C dJ6_bitCount_0f7a4_40 rfl (by decide) rfl ?_
  refine qr_iload_n C dJ6_bitCount_0f7a4_41 rfl 0 rfl ?_
  refine qr_iload_n C dJ6_bitCount_0f7a4_42 rfl 0 rfl ?_
  refine qr_bipush (v := 16) C dJ6_bitCount_0f7a4_43 (by decide) ?_
  refine qr_iushr C dJ6_bitCount_0f7a4_45 ?_
  refine qr_iadd C dJ6_bitCount_0f7a4_46 ?_
  refine qr_istore_n (lv' := [(0, (.int (((((((x0 - (((x0.toUInt32 >>> ((1 : Int32).toUInt32 &&& Int32.toUInt32 31)).toInt32) &&& (1431655765 : Int32))) &&& (858993459 : Int32)) + ((((x0 - (((x0.toUInt32 >>> ((1 : Int32).toUInt32 &&& Int32.toUInt32 31)).toInt32) &&& (1431655765 : Int32))).toUInt32 >>> ((2 : Int32).toUInt32 &&& Int32.toUInt32 31)).toInt32) &&& (858993459 : Int32))) + (((((x0 - (((x0.toUInt32 >>> ((1 : Int32).toUInt32 &&& Int32.toUInt32 31)).toInt32) &&& (1431655765 : Int32))) &&& (858993459 : Int32)) + ((((x0 - (((x0.toUInt32 >>> ((1 : Int32).toUInt32 &&& Int32.toUInt32 31)).toInt32) &&& (1431655765 : Int32))).toUInt32 >>> ((2 : Int32).toUInt32 &&& Int32.toUInt32 31)).toInt32) &&& (858993459 : Int32))).toUInt32 >>> ((4 : Int32).toUInt32 &&& Int32.toUInt32 31)).toInt32)) &&& (252645135 : Int32)) + (((((((x0 - (((x0.toUInt32 >>> ((1 : Int32).toUInt32 &&& Int32.toUInt32 31)).toInt32) &&& (1431655765 : Int32))) &&& (858993459 : Int32)) + ((((x0 - (((x0.toUInt32 >>> ((1 : Int32).toUInt32 &&& Int32.toUInt32 31)).toInt32) &&& (1431655765 : Int32))).toUInt32 >>> ((2 : Int32).toUInt32 &&& Int32.toUInt32 31)).toInt32) &&& (858993459 : Int32))) + (((((x0 - (((x0.toUInt32 >>> ((1 : Int32).toUInt32 &&& Int32.toUInt32 31)).toInt32) &&& (1431655765 : Int32))) &&& (858993459 : Int32)) + ((((x0 - (((x0.toUInt32 >>> ((1 : Int32).toUInt32 &&& Int32.toUInt32 31)).toInt32) &&& (1431655765 : Int32))).toUInt32 >>> ((2 : Int32).toUInt32 &&& Int32.toUInt32 31)).toInt32) &&& (858993459 : Int32))).toUInt32 >>> ((4 : Int32).toUInt32 &&& Int32.toUInt32 31)).toInt32)) &&& (252645135 : Int32)).toUInt32 >>> ((8 : Int32).toUInt32 &&& Int32.toUInt32 31)).toInt32)) + ((((((((x0 - (((x0.toUInt32 >>> ((1 : Int32).toUInt32 &&& Int32.toUInt32 31)).toInt32) &&& (1431655765 : Int32))) &&& (858993459 : Int32)) + ((((x0 - (((x0.toUInt32 >>> ((1 : Int32).toUInt32 &&& Int32.toUInt32 31)).toInt32) &&& (1431655765 : Int32))).toUInt32 >>> ((2 : Int32).toUInt32 &&& Int32.toUInt32 31)).toInt32) &&& (858993459 : Int32))) + (((((x0 - (((x0.toUInt32 >>> ((1 : Int32).toUInt32 &&& Int32.toUInt32 31)).toInt32) &&& (1431655765 : Int32))) &&& (858993459 : Int32)) + ((((x0 - (((x0.toUInt32 >>> ((1 : Int32).toUInt32 &&& Int32.toUInt32 31)).toInt32) &&& (1431655765 : Int32))).toUInt32 >>> ((2 : Int32).toUInt32 &&& Int32.toUInt32 31)).toInt32) &&& (858993459 : Int32))).toUInt32 >>> ((4 : Int32).toUInt32 &&& Int32.toUInt32 31)).toInt32)) &&& (252645135 : Int32)) + (((((((x0 - (((x0.toUInt32 >>> ((1 : Int32).toUInt32 &&& Int32.toUInt32 31)).toInt32) &&& (1431655765 : Int32))) &&& (858993459 : Int32)) + ((((x0 - (((x0.toUInt32 >>> ((1 : Int32).toUInt32 &&& Int32.toUInt32 31)).toInt32) &&& (1431655765 : Int32))).toUInt32 >>> ((2 : Int32).toUInt32 &&& Int32.toUInt32 31)).toInt32) &&& (858993459 : Int32))) + (((((x0 - (((x0.toUInt32 >>> ((1 : Int32).toUInt32 &&& Int32.toUInt32 31)).toInt32) &&& (1431655765 : Int32))) &&& (858993459 : Int32)) + ((((x0 - (((x0.toUInt32 >>> ((1 : Int32).toUInt32 &&& Int32.toUInt32 31)).toInt32) &&& (1431655765 : Int32))).toUInt32 >>> ((2 : Int32).toUInt32 &&& Int32.toUInt32 31)).toInt32) &&& (858993459 : Int32))).toUInt32 >>> ((4 : Int32).toUInt32 &&& Int32.toUInt32 31)).toInt32)) &&& (252645135 : Int32)).toUInt32 >>> ((8 : Int32).toUInt32 &&& Int32.toUInt32 31)).toInt32)).toUInt32 >>> ((16 : Int32).toUInt32 &&& Int32.toUInt32 31)).toInt32))))]) C dJ6_bitCount_0f7a4_47 rfl (by decide) rfl ?_
  refine qr_iload_n C dJ6_bitCount_0f7a4_48 rfl 0 rfl ?_
  refine qr_bipush (v := 63) C dJ6_bitCount_0f7a4_49 (by decide) ?_
  refine qr_iand C dJ6_bitCount_0f7a4_51 ?_
  exact qr_iret C rfl (Nat.zero_le _) (Nat.zero_le _) dJ6_bitCount_0f7a4_52 (qw_kpn rfl)
set_option maxHeartbeats 4000000 in
set_option maxRecDepth 100000 in
theorem k_X0_isOnRound {l : Launch} (hst : l.stackTraces = false) (D : va_G) (ad : Nat → Nat) (g : qw_G) (x0 x1 : Int32) : qw_M l yX0_isOnRound [Cond.code yX0_isOnRound cX0_isOnRound 7 (some .boolean)] { frames := 1, cells := 0, slots := 0, locals := 30 } D ad g [(.int x0), (.int x1)] (qw_kp ad g (some (.int (sg_round x0 x1)))) 0 0 := by
  refine qw_M.of (maxL := 7) (own := RX0) (lv := [(0, (.int x0)), (1, (.int x1))]) hst (by decide) rfl rfl (Nat.le_of_ble_eq_true rfl) ?_
  intro p e s m args below meth c A C hin
  refine qr_iload_n C dX0_isOnRound_0 rfl 0 rfl ?_
  refine qr_iconst (v := 1) C dX0_isOnRound_1 (by decide) ?_
  refine qr_iload_n C dX0_isOnRound_2 rfl 1 rfl ?_
  refine qr_ishl C dX0_isOnRound_3 ?_
  refine qr_iconst (v := -1) C dX0_isOnRound_4 (by decide) ?_
  refine qr_ixor C dX0_isOnRound_5 ?_
  refine qr_iand C dX0_isOnRound_6 ?_
  refine qr_istore_n (lv' := [(2, (.int (x0 &&& (((1 : Int32) <<< (x1 &&& 31)) ^^^ (-1 : Int32))))), (0, (.int x0)), (1, (.int x1))]) C dX0_isOnRound_7 rfl (by decide) rfl ?_
  refine qr_iload_n C dX0_isOnRound_8 rfl 0 rfl ?_
  refine qr_iload_n C dX0_isOnRound_9 rfl 2 rfl ?_
  refine qr_bipush (v := 6) C dX0_isOnRound_10 (by decide) ?_
  refine qr_idiv C dX0_isOnRound_12 (by decide) ?_
  refine qr_callS C (na := 2) (As := [(.int (x0 &&& (((1 : Int32) <<< (x1 &&& 31)) ^^^ (-1 : Int32)))), (.int (x1 / (6 : Int32)))]) (rest := []) (k_X0_columnsOf hst D ad g (sg_oth x0 x1) (x1 / 6)) gi_X0_22 ⟨by decide, by decide, by decide +kernel⟩ rfl rfl (Nat.le_of_ble_eq_true rfl) rfl rfl ⟨Nat.le_of_ble_eq_true rfl, Nat.le_of_ble_eq_true rfl⟩ ⟨Nat.le_of_ble_eq_true rfl, Nat.le_of_ble_eq_true rfl⟩ dX0_isOnRound_13 (fun v ad2 g2 hpo => ?_)
  obtain ⟨rfl, rfl, rfl⟩ := hpo
  refine qr_istore_n (lv' := [(3, (.int (sg_cols (sg_oth x0 x1) (x1 / 6)))), (2, (.int (x0 &&& (((1 : Int32) <<< (x1 &&& 31)) ^^^ (-1 : Int32))))), (0, (.int x0)), (1, (.int x1))]) C dX0_isOnRound_16 rfl (by decide) rfl ?_
  refine qr_iconst (v := 0) C dX0_isOnRound_17 (by decide) ?_
  refine qr_istore (lv' := [(4, (.int (0 : Int32))), (3, (.int (sg_cols (sg_oth x0 x1) (x1 / 6)))), (2, (.int (x0 &&& (((1 : Int32) <<< (x1 &&& 31)) ^^^ (-1 : Int32))))), (0, (.int x0)), (1, (.int x1))]) C dX0_isOnRound_18 (by decide) rfl ?_
  have L20 : ∀ (j20 i20 : Nat) (r : Int32), i20 + j20 = 5 → r = sg_it (fun _ x => sg_rpass (sg_oth x0 x1) x) (sg_cols (sg_oth x0 x1) (x1 / 6)) i20 → qw_W p l e { frames := 1, cells := 0, slots := 0, locals := 30 } s m args below meth c D A 7 (MQ below (qw_Q (qw_kp ad g (some (.int (sg_round x0 x1)))) D A) args s 0 0 A) 0 0 ad g 20 [(0, (.int x0)), (1, (.int x1)), (2, (.int (x0 &&& (((1 : Int32) <<< (x1 &&& 31)) ^^^ (-1 : Int32))))), (3, (.int r)), (4, (.int (nI i20)))] [] := by
    intro j20
    induction j20 with
    | zero =>
      intro i20 r hi20 hr
      obtain rfl : i20 = 5 := by omega
      refine qr_iload C dX0_isOnRound_20 4 rfl ?_
      refine qr_iconst (v := 5) C dX0_isOnRound_22 (by decide) ?_
      refine qr_icmp_ge_t C 67 dX0_isOnRound_23 (by decide) ((sg_le (5) (5) rfl rfl (by omega) (by omega)).mpr (Nat.le_refl _)) ?_
      refine qr_iload_n C dX0_isOnRound_67 rfl 3 rfl ?_
      refine qr_iload_n C dX0_isOnRound_68 rfl 1 rfl ?_
      refine qr_bipush (v := 6) C dX0_isOnRound_69 (by decide) ?_
      refine qr_irem C dX0_isOnRound_71 (by decide) ?_
      refine qr_callNS C (na := 2) (As := [(.int r), (.int (x1 - x1 / (6 : Int32) * (6 : Int32)))]) (rest := []) (k_X6_contains hst D ad g r (x1 - x1 / 6 * 6)) gi_X0_9.1 gi_X0_9.2.1 gi_X0_9.2.2.1 gi_X0_9.2.2.2 ⟨by decide, by decide, by decide +kernel⟩ rfl rfl (Nat.le_of_ble_eq_true rfl) rfl rfl ⟨Nat.le_of_ble_eq_true rfl, Nat.le_of_ble_eq_true rfl⟩ ⟨Nat.le_of_ble_eq_true rfl, Nat.le_of_ble_eq_true rfl⟩ dX0_isOnRound_72 (fun v ad2 g2 hpo => ?_)
      obtain ⟨rfl, rfl, rfl⟩ := hpo
      exact qr_zret C rfl (sg_has01 _ _) (Nat.zero_le _) (Nat.zero_le _) dX0_isOnRound_75 (qw_kpn (by subst hr; rfl))
    | succ j20 ih20 =>
      intro i20 r hi20 hr
      refine qr_iload C dX0_isOnRound_20 4 rfl ?_
      refine qr_iconst (v := 5) C dX0_isOnRound_22 (by decide) ?_
      refine qr_icmp_ge_f C 67 dX0_isOnRound_23 (by decide) (fun z => absurd ((sg_le (5) (i20) rfl rfl (by omega) (by omega)).mp z) (by omega)) ?_
      refine qr_iconst (v := 0) C dX0_isOnRound_26 (by decide) ?_
      refine qr_istore (lv' := [(5, (.int (0 : Int32))), (0, (.int x0)), (1, (.int x1)), (2, (.int (x0 &&& (((1 : Int32) <<< (x1 &&& 31)) ^^^ (-1 : Int32))))), (3, (.int r)), (4, (.int (nI i20)))]) C dX0_isOnRound_27 (by decide) rfl ?_
      have L29 : ∀ (j29 i29 : Nat) (q : Int32), i29 + j29 = 5 → q = sg_it (sg_rstep (sg_oth x0 x1)) r i29 → qw_W p l e { frames := 1, cells := 0, slots := 0, locals := 30 } s m args below meth c D A 7 (MQ below (qw_Q (qw_kp ad g (some (.int (sg_round x0 x1)))) D A) args s 0 0 A) 0 0 ad g 29 [(0, (.int x0)), (1, (.int x1)), (2, (.int (x0 &&& (((1 : Int32) <<< (x1 &&& 31)) ^^^ (-1 : Int32))))), (3, (.int q)), (4, (.int (nI i20))), (5, (.int (nI i29)))] [] := by
        intro j29
        induction j29 with
        | zero =>
          intro i29 q hi29 hq
          obtain rfl : i29 = 5 := by omega
          refine qr_iload C dX0_isOnRound_29 5 rfl ?_
          refine qr_iconst (v := 5) C dX0_isOnRound_31 (by decide) ?_
          refine qr_icmp_ge_t C 61 dX0_isOnRound_32 (by decide) ((sg_le (5) (5) rfl rfl (by omega) (by omega)).mpr (Nat.le_refl _)) ?_
          refine qr_iinc (v := (nI (i20 + 1))) (lv' := [(4, (.int (nI (i20 + 1)))), (0, (.int x0)), (1, (.int x1)), (2, (.int (x0 &&& (((1 : Int32) <<< (x1 &&& 31)) ^^^ (-1 : Int32))))), (3, (.int q)), (5, (.int (nI (5))))]) C dX0_isOnRound_61 (w := 4) rfl (nI_1 _) (by decide) rfl ?_
          refine qr_goto (tgt := 20) C dX0_isOnRound_64 (by decide) ?_
          refine qw_pick [1, 2, 3, 4, 0] (lv' := [(0, (.int x0)), (1, (.int x1)), (2, (.int (x0 &&& (((1 : Int32) <<< (x1 &&& 31)) ^^^ (-1 : Int32))))), (3, (.int q)), (4, (.int (nI (i20 + 1))))]) rfl ?_
          exact ih20 (i20 + 1) q (by omega) (by subst hr; exact hq)
        | succ j29 ih29 =>
          intro i29 q hi29 hq
          refine qr_iload C dX0_isOnRound_29 5 rfl ?_
          refine qr_iconst (v := 5) C dX0_isOnRound_31 (by decide) ?_
          refine qr_icmp_ge_f C 61 dX0_isOnRound_32 (by decide) (fun z => absurd ((sg_le (5) (i29) rfl rfl (by omega) (by omega)).mp z) (by omega)) ?_
          refine qr_iload_n C dX0_isOnRound_35 rfl 2 rfl ?_
          refine qr_iload C dX0_isOnRound_36 5 rfl ?_
          refine qr_callS C (na := 2) (As := [(.int (x0 &&& (((1 : Int32) <<< (x1 &&& 31)) ^^^ (-1 : Int32)))), (.int (nI i29))]) (rest := []) (k_X0_columnsOf hst D ad g (sg_oth x0 x1) (nI i29)) gi_X0_22 ⟨by decide, by decide, by decide +kernel⟩ rfl rfl (Nat.le_of_ble_eq_true rfl) rfl rfl ⟨Nat.le_of_ble_eq_true rfl, Nat.le_of_ble_eq_true rfl⟩ ⟨Nat.le_of_ble_eq_true rfl, Nat.le_of_ble_eq_true rfl⟩ dX0_isOnRound_38 (fun v ad2 g2 hpo => ?_)
          obtain ⟨rfl, rfl, rfl⟩ := hpo
          refine qr_istore (lv' := [(6, (.int (sg_cols (sg_oth x0 x1) (nI i29)))), (0, (.int x0)), (1, (.int x1)), (2, (.int (x0 &&& (((1 : Int32) <<< (x1 &&& 31)) ^^^ (-1 : Int32))))), (3, (.int q)), (4, (.int (nI i20))), (5, (.int (nI i29)))]) C dX0_isOnRound_41 (by decide) rfl ?_
          refine qr_iload C dX0_isOnRound_43 0 rfl ?_
          refine qr_iload_n C dX0_isOnRound_45 rfl 4 rfl ?_
          refine qr_iand C dX0_isOnRound_46 ?_
          refine qr_if_eq C 55 dX0_isOnRound_47 (by decide) (fun c47 => ?_) (fun c47 => ?_)
          · skip
            refine qr_iinc (v := (nI (i29 + 1))) (lv' := [(5, (.int (nI (i29 + 1)))), (6, (.int (sg_cols (sg_oth x0 x1) (nI i29)))), (0, (.int x0)), (1, (.int x1)), (2, (.int (x0 &&& (((1 : Int32) <<< (x1 &&& 31)) ^^^ (-1 : Int32))))), (3, (.int q)), (4, (.int (nI i20)))]) C dX0_isOnRound_55 (w := 6) rfl (nI_1 _) (by decide) rfl ?_
            refine qr_goto (tgt := 29) C dX0_isOnRound_58 (by decide) ?_
            refine qw_pick [2, 3, 4, 5, 6, 0] (lv' := [(0, (.int x0)), (1, (.int x1)), (2, (.int (x0 &&& (((1 : Int32) <<< (x1 &&& 31)) ^^^ (-1 : Int32))))), (3, (.int q)), (4, (.int (nI i20))), (5, (.int (nI (i29 + 1))))]) rfl ?_
            exact ih29 (i29 + 1) q (by omega) (by subst hq; exact (if_pos c47).symm)
          · skip
            refine qr_iload_n C dX0_isOnRound_50 rfl 4 rfl ?_
            refine qr_iload C dX0_isOnRound_51 0 rfl ?_
            refine qr_ior C dX0_isOnRound_53 ?_
            refine qr_istore_n (lv' := [(3, (.int (q ||| (sg_cols (sg_oth x0 x1) (nI i29))))), (6, (.int (sg_cols (sg_oth x0 x1) (nI i29)))), (0, (.int x0)), (1, (.int x1)), (2, (.int (x0 &&& (((1 : Int32) <<< (x1 &&& 31)) ^^^ (-1 : Int32))))), (4, (.int (nI i20))), (5, (.int (nI i29)))]) C dX0_isOnRound_54 rfl (by decide) rfl ?_
            refine qr_iinc (v := (nI (i29 + 1))) (lv' := [(5, (.int (nI (i29 + 1)))), (3, (.int (q ||| (sg_cols (sg_oth x0 x1) (nI i29))))), (6, (.int (sg_cols (sg_oth x0 x1) (nI i29)))), (0, (.int x0)), (1, (.int x1)), (2, (.int (x0 &&& (((1 : Int32) <<< (x1 &&& 31)) ^^^ (-1 : Int32))))), (4, (.int (nI i20)))]) C dX0_isOnRound_55 (w := 6) rfl (nI_1 _) (by decide) rfl ?_
            refine qr_goto (tgt := 29) C dX0_isOnRound_58 (by decide) ?_
            refine qw_pick [3, 4, 5, 1, 6, 0] (lv' := [(0, (.int x0)), (1, (.int x1)), (2, (.int (x0 &&& (((1 : Int32) <<< (x1 &&& 31)) ^^^ (-1 : Int32))))), (3, (.int (q ||| (sg_cols (sg_oth x0 x1) (nI i29))))), (4, (.int (nI i20))), (5, (.int (nI (i29 + 1))))]) rfl ?_
            exact ih29 (i29 + 1) (q ||| (sg_cols (sg_oth x0 x1) (nI i29))) (by omega) (by subst hq; exact (if_neg c47).symm)
      refine qw_pick [1, 2, 3, 4, 5, 0] (lv' := [(0, (.int x0)), (1, (.int x1)), (2, (.int (x0 &&& (((1 : Int32) <<< (x1 &&& 31)) ^^^ (-1 : Int32))))), (3, (.int r)), (4, (.int (nI i20))), (5, (.int (0 : Int32)))]) rfl ?_
      exact L29 (5) 0 r (by omega) rfl
  refine qw_pick [3, 4, 2, 1, 0] (lv' := [(0, (.int x0)), (1, (.int x1)), (2, (.int (x0 &&& (((1 : Int32) <<< (x1 &&& 31)) ^^^ (-1 : Int32))))), (3, (.int (sg_cols (sg_oth x0 x1) (x1 / 6)))), (4, (.int (0 : Int32)))]) rfl ?_
  exact L20 (5) 0 (sg_cols (sg_oth x0 x1) (x1 / 6)) (by omega) rfl
set_option maxHeartbeats 4000000 in
set_option maxRecDepth 100000 in
theorem k_X0_fewestCovers {l : Launch} (hst : l.stackTraces = false) (D : va_G) (ad : Nat → Nat) (g : qw_G) (x0 x1 : Int32) : qw_M l yX0_fewestCovers [Cond.code yX0_fewestCovers cX0_fewestCovers 8 (some .int)] { frames := 1, cells := 0, slots := 0, locals := 30 } D ad g [(.int x0), (.int x1)] (qw_kp ad g (some (.int (sg_few x0 x1).2))) 0 0 := by
  refine qw_M.of (maxL := 8) (own := RX0) (lv := [(0, (.int x0)), (1, (.int x1))]) hst (by decide) rfl rfl (Nat.le_of_ble_eq_true rfl) ?_
  intro p e s m args below meth c A C hin
  refine qr_iconst (v := 4) C dX0_fewestCovers_0 (by decide) ?_
  refine qr_istore_n (lv' := [(2, (.int (4 : Int32))), (0, (.int x0)), (1, (.int x1))]) C dX0_fewestCovers_1 rfl (by decide) rfl ?_
  refine qr_iconst (v := 0) C dX0_fewestCovers_2 (by decide) ?_
  refine qr_istore_n (lv' := [(3, (.int (0 : Int32))), (2, (.int (4 : Int32))), (0, (.int x0)), (1, (.int x1))]) C dX0_fewestCovers_3 rfl (by decide) rfl ?_
  refine qr_iconst (v := 0) C dX0_fewestCovers_4 (by decide) ?_
  refine qr_istore (lv' := [(4, (.int (0 : Int32))), (3, (.int (0 : Int32))), (2, (.int (4 : Int32))), (0, (.int x0)), (1, (.int x1))]) C dX0_fewestCovers_5 (by decide) rfl ?_
  have L7 : ∀ (j7 i7 : Nat) (fa : Int32) (fb : Int32), i7 + j7 = 5 → fa = (sg_it (fun row s => sg_it (fun col s => sg_fstep x0 x1 row col s) s 6) (4, 0) i7).1 → fb = (sg_it (fun row s => sg_it (fun col s => sg_fstep x0 x1 row col s) s 6) (4, 0) i7).2 → qw_W p l e { frames := 1, cells := 0, slots := 0, locals := 30 } s m args below meth c D A 8 (MQ below (qw_Q (qw_kp ad g (some (.int (sg_few x0 x1).2))) D A) args s 0 0 A) 0 0 ad g 7 [(0, (.int x0)), (1, (.int x1)), (2, (.int fa)), (3, (.int fb)), (4, (.int (nI i7)))] [] := by
    intro j7
    induction j7 with
    | zero =>
      intro i7 fa fb hi7 hfa hfb
      obtain rfl : i7 = 5 := by omega
      refine qr_iload C dX0_fewestCovers_7 4 rfl ?_
      refine qr_iconst (v := 5) C dX0_fewestCovers_9 (by decide) ?_
      refine qr_icmp_ge_t C 86 dX0_fewestCovers_10 (by decide) ((sg_le (5) (5) rfl rfl (by omega) (by omega)).mpr (Nat.le_refl _)) ?_
      refine qr_iload_n C dX0_fewestCovers_86 rfl 3 rfl ?_
      exact qr_iret C rfl (Nat.zero_le _) (Nat.zero_le _) dX0_fewestCovers_87 (qw_kpn hfb.symm)
    | succ j7 ih7 =>
      intro i7 fa fb hi7 hfa hfb
      refine qr_iload C dX0_fewestCovers_7 4 rfl ?_
      refine qr_iconst (v := 5) C dX0_fewestCovers_9 (by decide) ?_
      refine qr_icmp_ge_f C 86 dX0_fewestCovers_10 (by decide) (fun z => absurd ((sg_le (5) (i7) rfl rfl (by omega) (by omega)).mp z) (by omega)) ?_
      refine qr_iconst (v := 0) C dX0_fewestCovers_13 (by decide) ?_
      refine qr_istore (lv' := [(5, (.int (0 : Int32))), (0, (.int x0)), (1, (.int x1)), (2, (.int fa)), (3, (.int fb)), (4, (.int (nI i7)))]) C dX0_fewestCovers_14 (by decide) rfl ?_
      have L16 : ∀ (j16 i16 : Nat) (fu : Int32) (fv : Int32), i16 + j16 = 6 → fu = (sg_it (fun col s => sg_fstep x0 x1 i7 col s) (fa, fb) i16).1 → fv = (sg_it (fun col s => sg_fstep x0 x1 i7 col s) (fa, fb) i16).2 → qw_W p l e { frames := 1, cells := 0, slots := 0, locals := 30 } s m args below meth c D A 8 (MQ below (qw_Q (qw_kp ad g (some (.int (sg_few x0 x1).2))) D A) args s 0 0 A) 0 0 ad g 16 [(0, (.int x0)), (1, (.int x1)), (2, (.int fu)), (3, (.int fv)), (4, (.int (nI i7))), (5, (.int (nI i16)))] [] := by
        intro j16
        induction j16 with
        | zero =>
          intro i16 fu fv hi16 hfu hfv
          obtain rfl : i16 = 6 := by omega
          refine qr_iload C dX0_fewestCovers_16 5 rfl ?_
          refine qr_bipush (v := 6) C dX0_fewestCovers_18 (by decide) ?_
          refine qr_icmp_ge_t C 80 dX0_fewestCovers_20 (by decide) ((sg_le (6) (6) rfl rfl (by omega) (by omega)).mpr (Nat.le_refl _)) ?_
          refine qr_iinc (v := (nI (i7 + 1))) (lv' := [(4, (.int (nI (i7 + 1)))), (0, (.int x0)), (1, (.int x1)), (2, (.int fu)), (3, (.int fv)), (5, (.int (nI (6))))]) C dX0_fewestCovers_80 (w := 4) rfl (nI_1 _) (by decide) rfl ?_
          refine qr_goto (tgt := 7) C dX0_fewestCovers_83 (by decide) ?_
          refine qw_pick [1, 2, 3, 4, 0] (lv' := [(0, (.int x0)), (1, (.int x1)), (2, (.int fu)), (3, (.int fv)), (4, (.int (nI (i7 + 1))))]) rfl ?_
          exact ih7 (i7 + 1) fu fv (by omega) (by show fu = (sg_it (fun col s => sg_fstep x0 x1 i7 col s) (sg_it (fun row s => sg_it (fun col s => sg_fstep x0 x1 row col s) s 6) (4, 0) i7) 6).1; rw [show sg_it (fun row s => sg_it (fun col s => sg_fstep x0 x1 row col s) s 6) (4, 0) i7 = (fa, fb) from Prod.ext hfa.symm hfb.symm]; exact hfu) (by show fv = (sg_it (fun col s => sg_fstep x0 x1 i7 col s) (sg_it (fun row s => sg_it (fun col s => sg_fstep x0 x1 row col s) s 6) (4, 0) i7) 6).2; rw [show sg_it (fun row s => sg_it (fun col s => sg_fstep x0 x1 row col s) s 6) (4, 0) i7 = (fa, fb) from Prod.ext hfa.symm hfb.symm]; exact hfv)
        | succ j16 ih16 =>
          intro i16 fu fv hi16 hfu hfv
          refine qr_iload C dX0_fewestCovers_16 5 rfl ?_
          refine qr_bipush (v := 6) C dX0_fewestCovers_18 (by decide) ?_
          refine qr_icmp_ge_f C 80 dX0_fewestCovers_20 (by decide) (fun z => absurd ((sg_le (6) (i16) rfl rfl (by omega) (by omega)).mp z) (by omega)) ?_
          refine qr_iload C dX0_fewestCovers_23 4 rfl ?_
          refine qr_iload_n C dX0_fewestCovers_25 rfl 1 rfl ?_
          refine qr_bipush (v := 6) C dX0_fewestCovers_26 (by decide) ?_
          refine qr_idiv C dX0_fewestCovers_28 (by decide) ?_
          refine qr_icmp_eq C 74 dX0_fewestCovers_29 (by decide) (fun c29 => ?_) (fun c29 => ?_)
          · skip
            refine qr_iinc (v := (nI (i16 + 1))) (lv' := [(5, (.int (nI (i16 + 1)))), (0, (.int x0)), (1, (.int x1)), (2, (.int fu)), (3, (.int fv)), (4, (.int (nI i7)))]) C dX0_fewestCovers_74 (w := 5) rfl (nI_1 _) (by decide) rfl ?_
            refine qr_goto (tgt := 16) C dX0_fewestCovers_77 (by decide) ?_
            refine qw_pick [1, 2, 3, 4, 5, 0] (lv' := [(0, (.int x0)), (1, (.int x1)), (2, (.int fu)), (3, (.int fv)), (4, (.int (nI i7))), (5, (.int (nI (i16 + 1))))]) rfl ?_
            exact ih16 (i16 + 1) fu fv (by omega) (by have e : sg_it (fun col s => sg_fstep x0 x1 i7 col s) (fa, fb) (i16 + 1) = sg_fstep x0 x1 i7 i16 (fu, fv) := (by show sg_fstep x0 x1 i7 i16 (sg_it (fun col s => sg_fstep x0 x1 i7 col s) (fa, fb) i16) = _; rw [show sg_it (fun col s => sg_fstep x0 x1 i7 col s) (fa, fb) i16 = (fu, fv) from Prod.ext hfu.symm hfv.symm]); rw [e]; simp only [sg_fstep, if_pos c29]) (by have e : sg_it (fun col s => sg_fstep x0 x1 i7 col s) (fa, fb) (i16 + 1) = sg_fstep x0 x1 i7 i16 (fu, fv) := (by show sg_fstep x0 x1 i7 i16 (sg_it (fun col s => sg_fstep x0 x1 i7 col s) (fa, fb) i16) = _; rw [show sg_it (fun col s => sg_fstep x0 x1 i7 col s) (fa, fb) i16 = (fu, fv) from Prod.ext hfu.symm hfv.symm]); rw [e]; simp only [sg_fstep, if_pos c29])
          · skip
            refine qr_iload C dX0_fewestCovers_32 5 rfl ?_
            refine qr_iload_n C dX0_fewestCovers_34 rfl 1 rfl ?_
            refine qr_bipush (v := 6) C dX0_fewestCovers_35 (by decide) ?_
            refine qr_irem C dX0_fewestCovers_37 (by decide) ?_
            refine qr_icmp_eq C 74 dX0_fewestCovers_38 (by decide) (fun c38 => ?_) (fun c38 => ?_)
            · skip
              refine qr_iinc (v := (nI (i16 + 1))) (lv' := [(5, (.int (nI (i16 + 1)))), (0, (.int x0)), (1, (.int x1)), (2, (.int fu)), (3, (.int fv)), (4, (.int (nI i7)))]) C dX0_fewestCovers_74 (w := 5) rfl (nI_1 _) (by decide) rfl ?_
              refine qr_goto (tgt := 16) C dX0_fewestCovers_77 (by decide) ?_
              refine qw_pick [1, 2, 3, 4, 5, 0] (lv' := [(0, (.int x0)), (1, (.int x1)), (2, (.int fu)), (3, (.int fv)), (4, (.int (nI i7))), (5, (.int (nI (i16 + 1))))]) rfl ?_
              exact ih16 (i16 + 1) fu fv (by omega) (by have e : sg_it (fun col s => sg_fstep x0 x1 i7 col s) (fa, fb) (i16 + 1) = sg_fstep x0 x1 i7 i16 (fu, fv) := (by show sg_fstep x0 x1 i7 i16 (sg_it (fun col s => sg_fstep x0 x1 i7 col s) (fa, fb) i16) = _; rw [show sg_it (fun col s => sg_fstep x0 x1 i7 col s) (fa, fb) i16 = (fu, fv) from Prod.ext hfu.symm hfv.symm]); rw [e]; simp only [sg_fstep, if_neg c29, if_pos c38]) (by have e : sg_it (fun col s => sg_fstep x0 x1 i7 col s) (fa, fb) (i16 + 1) = sg_fstep x0 x1 i7 i16 (fu, fv) := (by show sg_fstep x0 x1 i7 i16 (sg_it (fun col s => sg_fstep x0 x1 i7 col s) (fa, fb) i16) = _; rw [show sg_it (fun col s => sg_fstep x0 x1 i7 col s) (fa, fb) i16 = (fu, fv) from Prod.ext hfu.symm hfv.symm]); rw [e]; simp only [sg_fstep, if_neg c29, if_pos c38])
            · skip
              refine qr_iload_n C dX0_fewestCovers_41 rfl 1 rfl ?_
              refine qr_iload C dX0_fewestCovers_42 4 rfl ?_
              refine qr_iload C dX0_fewestCovers_44 5 rfl ?_
              refine qr_callS C (na := 3) (As := [(.int x1), (.int (nI i7)), (.int (nI i16))]) (rest := []) (k_X0_cornersOf hst D ad g x1 (nI i7) (nI i16)) gi_X0_25 ⟨by decide, by decide, by decide +kernel⟩ rfl rfl (Nat.le_of_ble_eq_true rfl) rfl rfl ⟨Nat.le_of_ble_eq_true rfl, Nat.le_of_ble_eq_true rfl⟩ ⟨Nat.le_of_ble_eq_true rfl, Nat.le_of_ble_eq_true rfl⟩ dX0_fewestCovers_46 (fun v ad2 g2 hpo => ?_)
              obtain ⟨rfl, rfl, rfl⟩ := hpo
              refine qr_istore (lv' := [(6, (.int (sg_corners x1 (nI i7) (nI i16)))), (0, (.int x0)), (1, (.int x1)), (2, (.int fu)), (3, (.int fv)), (4, (.int (nI i7))), (5, (.int (nI i16)))]) C dX0_fewestCovers_49 (by decide) rfl ?_
              refine qr_iload C dX0_fewestCovers_51 0 rfl ?_
              refine qr_iload_n C dX0_fewestCovers_53 rfl 1 rfl ?_
              refine qr_iconst (v := -1) C dX0_fewestCovers_54 (by decide) ?_
              refine qr_ixor C dX0_fewestCovers_55 ?_
              refine qr_iand C dX0_fewestCovers_56 ?_
              refine qr_callS C (na := 1) (As := [(.int ((sg_corners x1 (nI i7) (nI i16)) &&& (x0 ^^^ (-1 : Int32))))]) (rest := []) (k_J6_bitCount_0f7a4 hst D ad g (sg_corners x1 (nI i7) (nI i16) &&& (x0 ^^^ (-1)))) gi_X0_29 ⟨by decide, by decide, by decide +kernel⟩ rfl rfl (Nat.le_of_ble_eq_true rfl) rfl rfl ⟨Nat.le_of_ble_eq_true rfl, Nat.le_of_ble_eq_true rfl⟩ ⟨Nat.le_of_ble_eq_true rfl, Nat.le_of_ble_eq_true rfl⟩ dX0_fewestCovers_57 (fun v ad2 g2 hpo => ?_)
              obtain ⟨rfl, rfl, rfl⟩ := hpo
              refine qr_istore (lv' := [(7, (.int (sg_bc (sg_corners x1 (nI i7) (nI i16) &&& (x0 ^^^ (-1)))))), (6, (.int (sg_corners x1 (nI i7) (nI i16)))), (0, (.int x0)), (1, (.int x1)), (2, (.int fu)), (3, (.int fv)), (4, (.int (nI i7))), (5, (.int (nI i16)))]) C dX0_fewestCovers_60 (by decide) rfl ?_
              refine qr_iload C dX0_fewestCovers_62 0 rfl ?_
              refine qr_iload_n C dX0_fewestCovers_64 rfl 4 rfl ?_
              refine qr_icmp_ge C 74 dX0_fewestCovers_65 (by decide) (fun c65 => ?_) (fun c65 => ?_)
              · skip
                refine qr_iinc (v := (nI (i16 + 1))) (lv' := [(5, (.int (nI (i16 + 1)))), (7, (.int (sg_bc (sg_corners x1 (nI i7) (nI i16) &&& (x0 ^^^ (-1)))))), (6, (.int (sg_corners x1 (nI i7) (nI i16)))), (0, (.int x0)), (1, (.int x1)), (2, (.int fu)), (3, (.int fv)), (4, (.int (nI i7)))]) C dX0_fewestCovers_74 (w := 7) rfl (nI_1 _) (by decide) rfl ?_
                refine qr_goto (tgt := 16) C dX0_fewestCovers_77 (by decide) ?_
                refine qw_pick [3, 4, 5, 6, 7, 0] (lv' := [(0, (.int x0)), (1, (.int x1)), (2, (.int fu)), (3, (.int fv)), (4, (.int (nI i7))), (5, (.int (nI (i16 + 1))))]) rfl ?_
                exact ih16 (i16 + 1) fu fv (by omega) (by have e : sg_it (fun col s => sg_fstep x0 x1 i7 col s) (fa, fb) (i16 + 1) = sg_fstep x0 x1 i7 i16 (fu, fv) := (by show sg_fstep x0 x1 i7 i16 (sg_it (fun col s => sg_fstep x0 x1 i7 col s) (fa, fb) i16) = _; rw [show sg_it (fun col s => sg_fstep x0 x1 i7 col s) (fa, fb) i16 = (fu, fv) from Prod.ext hfu.symm hfv.symm]); rw [e]; simp only [sg_fstep, if_neg c29, if_neg c38, if_pos c65]) (by have e : sg_it (fun col s => sg_fstep x0 x1 i7 col s) (fa, fb) (i16 + 1) = sg_fstep x0 x1 i7 i16 (fu, fv) := (by show sg_fstep x0 x1 i7 i16 (sg_it (fun col s => sg_fstep x0 x1 i7 col s) (fa, fb) i16) = _; rw [show sg_it (fun col s => sg_fstep x0 x1 i7 col s) (fa, fb) i16 = (fu, fv) from Prod.ext hfu.symm hfv.symm]); rw [e]; simp only [sg_fstep, if_neg c29, if_neg c38, if_pos c65])
              · skip
                refine qr_iload C dX0_fewestCovers_68 0 rfl ?_
                refine qr_istore_n (lv' := [(2, (.int (sg_bc (sg_corners x1 (nI i7) (nI i16) &&& (x0 ^^^ (-1)))))), (7, (.int (sg_bc (sg_corners x1 (nI i7) (nI i16) &&& (x0 ^^^ (-1)))))), (6, (.int (sg_corners x1 (nI i7) (nI i16)))), (0, (.int x0)), (1, (.int x1)), (3, (.int fv)), (4, (.int (nI i7))), (5, (.int (nI i16)))]) C dX0_fewestCovers_70 rfl (by decide) rfl ?_
                refine qr_iload C dX0_fewestCovers_71 2 rfl ?_
                refine qr_istore_n (lv' := [(3, (.int (sg_corners x1 (nI i7) (nI i16)))), (2, (.int (sg_bc (sg_corners x1 (nI i7) (nI i16) &&& (x0 ^^^ (-1)))))), (7, (.int (sg_bc (sg_corners x1 (nI i7) (nI i16) &&& (x0 ^^^ (-1)))))), (6, (.int (sg_corners x1 (nI i7) (nI i16)))), (0, (.int x0)), (1, (.int x1)), (4, (.int (nI i7))), (5, (.int (nI i16)))]) C dX0_fewestCovers_73 rfl (by decide) rfl ?_
                refine qr_iinc (v := (nI (i16 + 1))) (lv' := [(5, (.int (nI (i16 + 1)))), (3, (.int (sg_corners x1 (nI i7) (nI i16)))), (2, (.int (sg_bc (sg_corners x1 (nI i7) (nI i16) &&& (x0 ^^^ (-1)))))), (7, (.int (sg_bc (sg_corners x1 (nI i7) (nI i16) &&& (x0 ^^^ (-1)))))), (6, (.int (sg_corners x1 (nI i7) (nI i16)))), (0, (.int x0)), (1, (.int x1)), (4, (.int (nI i7)))]) C dX0_fewestCovers_74 (w := 7) rfl (nI_1 _) (by decide) rfl ?_
                refine qr_goto (tgt := 16) C dX0_fewestCovers_77 (by decide) ?_
                refine qw_pick [5, 6, 2, 1, 7, 0] (lv' := [(0, (.int x0)), (1, (.int x1)), (2, (.int (sg_bc (sg_corners x1 (nI i7) (nI i16) &&& (x0 ^^^ (-1)))))), (3, (.int (sg_corners x1 (nI i7) (nI i16)))), (4, (.int (nI i7))), (5, (.int (nI (i16 + 1))))]) rfl ?_
                exact ih16 (i16 + 1) (sg_bc (sg_corners x1 (nI i7) (nI i16) &&& (x0 ^^^ (-1)))) (sg_corners x1 (nI i7) (nI i16)) (by omega) (by have e : sg_it (fun col s => sg_fstep x0 x1 i7 col s) (fa, fb) (i16 + 1) = sg_fstep x0 x1 i7 i16 (fu, fv) := (by show sg_fstep x0 x1 i7 i16 (sg_it (fun col s => sg_fstep x0 x1 i7 col s) (fa, fb) i16) = _; rw [show sg_it (fun col s => sg_fstep x0 x1 i7 col s) (fa, fb) i16 = (fu, fv) from Prod.ext hfu.symm hfv.symm]); rw [e]; simp only [sg_fstep, if_neg c29, if_neg c38, if_neg c65]) (by have e : sg_it (fun col s => sg_fstep x0 x1 i7 col s) (fa, fb) (i16 + 1) = sg_fstep x0 x1 i7 i16 (fu, fv) := (by show sg_fstep x0 x1 i7 i16 (sg_it (fun col s => sg_fstep x0 x1 i7 col s) (fa, fb) i16) = _; rw [show sg_it (fun col s => sg_fstep x0 x1 i7 col s) (fa, fb) i16 = (fu, fv) from Prod.ext hfu.symm hfv.symm]); rw [e]; simp only [sg_fstep, if_neg c29, if_neg c38, if_neg c65])
      refine qw_pick [1, 2, 3, 4, 5, 0] (lv' := [(0, (.int x0)), (1, (.int x1)), (2, (.int fa)), (3, (.int fb)), (4, (.int (nI i7))), (5, (.int (0 : Int32)))]) rfl ?_
      exact L16 (6) 0 fa fb (by omega) rfl rfl
  refine qw_pick [3, 4, 2, 1, 0] (lv' := [(0, (.int x0)), (1, (.int x1)), (2, (.int (4 : Int32))), (3, (.int (0 : Int32))), (4, (.int (0 : Int32)))]) rfl ?_
  exact L7 (5) 0 (4 : Int32) (0 : Int32) (by omega) rfl rfl
set_option maxHeartbeats 4000000 in
set_option maxRecDepth 100000 in
theorem k_X0_around {l : Launch} (hst : l.stackTraces = false) (D : va_G) (ad : Nat → Nat) (g : qw_G) (x0 : Int32) : qw_M l yX0_around [Cond.code yX0_around cX0_around 3 (some .int)] { frames := 2, cells := 0, slots := 0, locals := 60 } D ad g [(.int x0)] (qw_kp ad g (some (.int (sg_around x0)))) 0 0 := by
  refine qw_M.of (maxL := 3) (own := RX0) (lv := [(0, (.int x0))]) hst (by decide) rfl rfl (Nat.le_of_ble_eq_true rfl) ?_
  intro p e s m args below meth c A C hin
  refine qr_iload_n C dX0_around_0 rfl 0 rfl ?_
  refine qr_istore_n (lv' := [(1, (.int x0)), (0, (.int x0))]) C dX0_around_1 rfl (by decide) rfl ?_
  refine qr_iconst (v := 0) C dX0_around_2 (by decide) ?_
  refine qr_istore_n (lv' := [(2, (.int (0 : Int32))), (1, (.int x0)), (0, (.int x0))]) C dX0_around_3 rfl (by decide) rfl ?_
  have L4 : ∀ (j4 i4 : Nat) (h : Int32), i4 + j4 = 30 → h = sg_it (sg_astep x0) x0 i4 → qw_W p l e { frames := 2, cells := 0, slots := 0, locals := 60 } s m args below meth c D A 3 (MQ below (qw_Q (qw_kp ad g (some (.int (sg_around x0)))) D A) args s 0 0 A) 0 0 ad g 4 [(0, (.int x0)), (1, (.int h)), (2, (.int (nI i4)))] [] := by
    intro j4
    induction j4 with
    | zero =>
      intro i4 h hi4 hh
      obtain rfl : i4 = 30 := by omega
      refine qr_iload_n C dX0_around_4 rfl 2 rfl ?_
      refine qr_bipush (v := 30) C dX0_around_5 (by decide) ?_
      refine qr_icmp_ge_t C 40 dX0_around_7 (by decide) ((sg_le (30) (30) rfl rfl (by omega) (by omega)).mpr (Nat.le_refl _)) ?_
      refine qr_iload_n C dX0_around_40 rfl 1 rfl ?_
      exact qr_iret C rfl (Nat.zero_le _) (Nat.zero_le _) dX0_around_41 (qw_kpn hh.symm)
    | succ j4 ih4 =>
      intro i4 h hi4 hh
      refine qr_iload_n C dX0_around_4 rfl 2 rfl ?_
      refine qr_bipush (v := 30) C dX0_around_5 (by decide) ?_
      refine qr_icmp_ge_f C 40 dX0_around_7 (by decide) (fun z => absurd ((sg_le (30) (i4) rfl rfl (by omega) (by omega)).mp z) (by omega)) ?_
      refine qr_iload_n C dX0_around_10 rfl 0 rfl ?_
      refine qr_iload_n C dX0_around_11 rfl 2 rfl ?_
      refine qr_callNS C (na := 2) (As := [(.int x0), (.int (nI i4))]) (rest := []) (k_X6_contains hst D ad g x0 (nI i4)) gi_X0_9.1 gi_X0_9.2.1 gi_X0_9.2.2.1 gi_X0_9.2.2.2 ⟨by decide, by decide, by decide +kernel⟩ rfl rfl (Nat.le_of_ble_eq_true rfl) rfl rfl ⟨Nat.le_of_ble_eq_true rfl, Nat.le_of_ble_eq_true rfl⟩ ⟨Nat.le_of_ble_eq_true rfl, Nat.le_of_ble_eq_true rfl⟩ dX0_around_12 (fun v ad2 g2 hpo => ?_)
      obtain ⟨rfl, rfl, rfl⟩ := hpo
      refine qr_if_eq C 34 dX0_around_15 (by decide) (fun c15 => ?_) (fun c15 => ?_)
      · skip
        refine qr_iinc (v := (nI (i4 + 1))) (lv' := [(2, (.int (nI (i4 + 1)))), (0, (.int x0)), (1, (.int h))]) C dX0_around_34 (w := 2) rfl (nI_1 _) (by decide) rfl ?_
        refine qr_goto (tgt := 4) C dX0_around_37 (by decide) ?_
        refine qw_pick [1, 2, 0] (lv' := [(0, (.int x0)), (1, (.int h)), (2, (.int (nI (i4 + 1))))]) rfl ?_
        exact ih4 (i4 + 1) h (by omega) (by subst hh; show _ = sg_astep x0 i4 (sg_it (sg_astep x0) x0 i4); simp only [sg_astep, if_pos c15])
      · skip
        refine qr_iload_n C dX0_around_18 rfl 1 rfl ?_
        refine qr_iload_n C dX0_around_19 rfl 2 rfl ?_
        refine qr_callS C (na := 2) (As := [(.int h), (.int (nI i4))]) (rest := []) (k_X0_isOnRound hst D ad g h (nI i4)) gi_X0_13 ⟨by decide, by decide, by decide +kernel⟩ rfl rfl (Nat.le_of_ble_eq_true rfl) rfl rfl ⟨Nat.le_of_ble_eq_true rfl, Nat.le_of_ble_eq_true rfl⟩ ⟨Nat.le_of_ble_eq_true rfl, Nat.le_of_ble_eq_true rfl⟩ dX0_around_20 (fun v ad2 g2 hpo => ?_)
        obtain ⟨rfl, rfl, rfl⟩ := hpo
        refine qr_if_ne C 34 dX0_around_23 (by decide) (fun c23 => ?_) (fun c23 => ?_)
        · skip
          refine qr_iinc (v := (nI (i4 + 1))) (lv' := [(2, (.int (nI (i4 + 1)))), (0, (.int x0)), (1, (.int h))]) C dX0_around_34 (w := 2) rfl (nI_1 _) (by decide) rfl ?_
          refine qr_goto (tgt := 4) C dX0_around_37 (by decide) ?_
          refine qw_pick [1, 2, 0] (lv' := [(0, (.int x0)), (1, (.int h)), (2, (.int (nI (i4 + 1))))]) rfl ?_
          exact ih4 (i4 + 1) h (by omega) (by subst hh; show _ = sg_astep x0 i4 (sg_it (sg_astep x0) x0 i4); simp only [sg_astep, if_neg c15, if_neg c23])
        · skip
          refine qr_iload_n C dX0_around_26 rfl 1 rfl ?_
          refine qr_iload_n C dX0_around_27 rfl 1 rfl ?_
          refine qr_iload_n C dX0_around_28 rfl 2 rfl ?_
          refine qr_callS C (na := 2) (As := [(.int h), (.int (nI i4))]) (rest := [(.int h)]) (k_X0_fewestCovers hst D ad g h (nI i4)) gi_X0_18 ⟨by decide, by decide, by decide +kernel⟩ rfl rfl (Nat.le_of_ble_eq_true rfl) rfl rfl ⟨Nat.le_of_ble_eq_true rfl, Nat.le_of_ble_eq_true rfl⟩ ⟨Nat.le_of_ble_eq_true rfl, Nat.le_of_ble_eq_true rfl⟩ dX0_around_29 (fun v ad2 g2 hpo => ?_)
          obtain ⟨rfl, rfl, rfl⟩ := hpo
          refine qr_ior C dX0_around_32 ?_
          refine qr_istore_n (lv' := [(1, (.int (h ||| (sg_few h (nI i4)).2))), (0, (.int x0)), (2, (.int (nI i4)))]) C dX0_around_33 rfl (by decide) rfl ?_
          refine qr_iinc (v := (nI (i4 + 1))) (lv' := [(2, (.int (nI (i4 + 1)))), (1, (.int (h ||| (sg_few h (nI i4)).2))), (0, (.int x0))]) C dX0_around_34 (w := 2) rfl (nI_1 _) (by decide) rfl ?_
          refine qr_goto (tgt := 4) C dX0_around_37 (by decide) ?_
          refine qw_pick [2, 1, 0] (lv' := [(0, (.int x0)), (1, (.int (h ||| (sg_few h (nI i4)).2))), (2, (.int (nI (i4 + 1))))]) rfl ?_
          exact ih4 (i4 + 1) (h ||| (sg_few h (nI i4)).2) (by omega) (by subst hh; show _ = sg_astep x0 i4 (sg_it (sg_astep x0) x0 i4); simp only [sg_astep, if_neg c15, if_pos c23])
  refine qw_pick [2, 1, 0] (lv' := [(0, (.int x0)), (1, (.int x0)), (2, (.int (0 : Int32)))]) rfl ?_
  exact L4 (30) 0 x0 (by omega) rfl
