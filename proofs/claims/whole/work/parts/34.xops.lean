/-! takeBack, lift, pass -/
def cx_take (χ : Nat → Nat → Int32) (x1 : Int32) : Int32 := if x1 < 0 then 1 else if x1 < χ 0 0 then (if χ 44 x1.toNatClampNeg = 0 then 0 else 3) else 1
def cx_unsold (χ : Nat → Nat → Int32) (i t a b : Nat) : Nat → Nat → Int32 := cx_dropS (va_up (va_up (va_up χ 44 (upd (χ 44) i 1)) (10 + t) (cx_enter (χ (10 + t)) a b (-χ 43 i))) 6 (upd (χ 6) t (χ 6 t - 1))) t 4
def cx_takeS (χ : Nat → Nat → Int32) (i : Nat) : Nat → Nat → Int32 := cx_unsold χ i (χ 40 i).toNatClampNeg (χ 41 i).toNatClampNeg (χ 42 i).toNatClampNeg
set_option maxHeartbeats 4000000 in
set_option maxRecDepth 100000 in
theorem k_X6_takeBack {l : Launch} (hst : l.stackTraces = false) (D : va_G) (ad : Nat → Nat) (g : qw_G) (χ : Nat → Nat → Int32) (nS nE : Nat) (hX : qx_P D χ nS nE ad g) (hS : ∀ i, i < nS → ∃ t a b, t < 3 ∧ a < 4 ∧ b < 5 ∧ χ 40 i = nI t ∧ χ 41 i = nI a ∧ χ 42 i = nI b) (x1 : Int32) : qw_T l yX6_takeBack [Cond.code yX6_takeBack cX6_takeBack 4 (some .int)] { frames := 8, cells := 5, slots := 30, locals := 150 } D ad g [(.ref (ad 0)), (.int x1)] (qx_op D ad g nS nE (cx_take χ x1) (χ 43 x1.toNatClampNeg) (cx_takeS χ x1.toNatClampNeg)) (qx_px (cx_take χ x1)) 5 30 := by
  refine qw_T.of (maxL := 4) (own := RX6) (lv := [(0, (.ref (ad 0))), (1, (.int x1))]) hst (by decide) rfl rfl (Nat.le_of_ble_eq_true rfl) ?_
  intro p e s m args below meth c A C hnt
  have hb := (qx_ct hX).2.2
  refine qr_iload_n C dX6_takeBack_0 rfl 1 rfl ?_
  refine qr_if_lt C 12 dX6_takeBack_1 (by decide) (fun c1 => ?_) (fun c1 => ?_)
  · skip
    exact qr_throw1 C hnt (is := 74) (tx := "no such sale") (by decide) (Or.inl ⟨rfl, by simp only [cx_take, if_pos c1, ite_self]⟩) dX6_takeBack_12 dX6_takeBack_15 dX6_takeBack_16 dX6_takeBack_18 dX6_takeBack_21 (Nat.le_of_ble_eq_true rfl) (Nat.le_of_ble_eq_true rfl) (Nat.le_of_ble_eq_true rfl) (Nat.le_of_ble_eq_true rfl) (Nat.le_of_ble_eq_true rfl) (Nat.le_of_ble_eq_true rfl)
  · skip
    refine qr_iload_n C dX6_takeBack_4 rfl 1 rfl ?_
    refine qr_aload_n C dX6_takeBack_5 rfl 0 rfl ?_
    refine gf_X6_51 C (0) (qx_x hX) rfl rfl dX6_takeBack_6 ?_
    refine qr_icmp_lt C 22 dX6_takeBack_9 (by decide) (fun c9 => ?_) (fun c9 => ?_)
    · skip
      obtain ⟨i, hi, hx1i⟩ := sg_rng (n := nS) (by rw [(qx_ct hX).1]; exact nI_toInt (by omega)) (by omega) c1 c9
      have hx1ic : x1.toNatClampNeg = i := by rw [hx1i, nI_clamp (by omega)]
      obtain ⟨kt, ka, kb, hkt, hka, hkb, hktx, hkax, hkbx⟩ := hS i hi
      have e10 : ∀ F : Nat → Int32, (va_up χ 44 F) (10 + kt) = χ (10 + kt) := fun F => va_up_ne _ _ (by omega)
      have e6 : ∀ (F G : Nat → Int32), (va_up (va_up χ 44 F) (10 + kt) G) 6 = χ 6 := fun F G => (va_up_ne _ _ (by omega)).trans (va_up_ne _ _ (by decide))
      have e43 : ∀ F G H : Nat → Int32, (cx_dropS (va_up (va_up (va_up χ 44 F) (10 + kt) G) 6 H) kt 4) 43 = χ 43 := fun F G H => (show (cx_dropS (va_up (va_up (va_up χ 44 F) (10 + kt) G) 6 H) kt 4) 43 = (va_up (va_up χ 44 F) (10 + kt) G) 43 from rfl).trans (va_up_ne _ _ (by omega))
      refine qr_aload_n C dX6_takeBack_22 rfl 0 rfl ?_
      refine gf_X6_18 C (0) (qx_x hX) rfl rfl dX6_takeBack_23 ?_
      refine qr_iload_n C dX6_takeBack_26 rfl 1 rfl ?_
      refine qr_aald C 4 rfl rfl (2) (qx_sa hX) rfl (j := i) hx1i (by omega) rfl (if_pos (by omega)) dX6_takeBack_27 ?_
      refine qr_astore_n (lv' := [(2, (.ref (ad (1000 + i)))), (0, (.ref (ad 0))), (1, (.int x1))]) C dX6_takeBack_28 rfl (by decide) rfl ?_
      refine qr_aload_n C dX6_takeBack_29 rfl 0 rfl ?_
      refine gf_X6_76 C ((1000 + i)) (qx_sl hX i (by omega)) rfl rfl dX6_takeBack_30 ?_
      refine qr_if_eq C 46 dX6_takeBack_33 (by decide) (fun c33 => ?_) (fun c33 => ?_)
      · skip
        refine qr_aload_n C dX6_takeBack_46 rfl 1 rfl ?_
        refine gf_X6_11 C (0) (qx_x hX) rfl rfl dX6_takeBack_47 ?_
        refine qr_aload_n C dX6_takeBack_50 rfl 0 rfl ?_
        refine gf_X6_82 C ((1000 + i)) (qx_sl hX i (by omega)) rfl rfl dX6_takeBack_51 ?_
        refine qr_aald C 3 rfl rfl (1) (qx_ta hX) rfl (j := kt) hktx (by omega) rfl (if_pos (by omega)) dX6_takeBack_54 ?_
        refine qr_astore_n (lv' := [(3, (.ref (ad (10 + kt)))), (2, (.ref (ad (1000 + i)))), (0, (.ref (ad 0))), (1, (.int x1))]) C dX6_takeBack_55 rfl (by decide) rfl ?_
        refine qr_aload_n C dX6_takeBack_56 rfl 1 rfl ?_
        refine qr_iconst (v := 1) C dX6_takeBack_57 (by decide) ?_
        refine pf_X6_76 C ((1000 + i)) (qx_sl hX i (by omega)) rfl (qw_b01 (Or.inr rfl)).2.1 (qw_b01 (Or.inr rfl)).2.2 (Nat.le_of_ble_eq_true rfl) rfl dX6_takeBack_58 ?_
        generalize hg2 : va_up g ((1000 + i)) _ = g1
        have hX3 : qx_P D (va_up χ 44 (upd (χ 44) i (1 : Int32))) nS nE ad g1 := by rw [← hg2]; exact qx_w_tkn hX i (by omega) (1 : Int32)
        refine qr_aload_n C dX6_takeBack_61 rfl 0 rfl ?_
        refine qr_aload_n C dX6_takeBack_62 rfl 1 rfl ?_
        refine gf_X6_85 C ((1000 + i)) (qx_sl hX3 i (by omega)) rfl rfl dX6_takeBack_63 ?_
        refine qr_aload_n C dX6_takeBack_66 rfl 1 rfl ?_
        refine gf_X6_88 C ((1000 + i)) (qx_sl hX3 i (by omega)) rfl rfl dX6_takeBack_67 ?_
        refine qr_aload_n C dX6_takeBack_70 rfl 1 rfl ?_
        refine gf_X6_91 C ((1000 + i)) (qx_sl hX3 i (by omega)) rfl rfl dX6_takeBack_71 ?_
        refine qr_ineg C dX6_takeBack_74 ?_
        refine qr_callNV C (na := 3) (As := [(.int ((va_up χ 44 (upd (χ 44) i (1 : Int32))) 41 i)), (.int ((va_up χ 44 (upd (χ 44) i (1 : Int32))) 42 i)), (.int (-((va_up χ 44 (upd (χ 44) i (1 : Int32))) 43 i)))]) (rest := []) (k_X5_enter hst D ad g1 (va_up χ 44 (upd (χ 44) i (1 : Int32))) nS nE hX3 kt ka kb hkt hka hkb (((va_up χ 44 (upd (χ 44) i (1 : Int32))) 41 i)) (((va_up χ 44 (upd (χ 44) i (1 : Int32))) 42 i)) ((-((va_up χ 44 (upd (χ 44) i (1 : Int32))) 43 i))) hkax hkbx) ((10 + kt)) (qx_tb hX3 kt (by omega)) rfl rfl gi_X6_63.1 gi_X6_63.2.1 gi_X6_63.2.2.1 gi_X6_63.2.2.2.1 gi_X6_63.2.2.2.2 ⟨by decide, by decide, by decide +kernel⟩ rfl rfl (Nat.le_of_ble_eq_true rfl) rfl rfl ⟨Nat.le_of_ble_eq_true rfl, Nat.le_of_ble_eq_true rfl⟩ ⟨Nat.le_of_ble_eq_true rfl, Nat.le_of_ble_eq_true rfl⟩ dX6_takeBack_75 (fun v ad2 gc4 hpo5 => ?_)
        obtain ⟨rfl, rfl, hX6, hfr7⟩ := hpo5
        refine qr_aload_n C dX6_takeBack_78 rfl 0 rfl ?_
        refine qr_dup C dX6_takeBack_79 rfl ?_
        refine gf_X6_67 C ((10 + kt)) (qx_tb hX6 kt (by omega)) rfl rfl dX6_takeBack_80 ?_
        refine qr_iconst (v := 1) C dX6_takeBack_83 (by decide) ?_
        refine qr_isub C dX6_takeBack_84 ?_
        refine pf_X6_67 C ((10 + kt)) (qx_tb hX6 kt (by omega)) rfl rfl rfl (Nat.le_of_ble_eq_true rfl) rfl dX6_takeBack_85 ?_
        generalize hg9 : va_up gc4 ((10 + kt)) _ = g8
        have hX10 : qx_P D (va_up (va_up (va_up χ 44 (upd (χ 44) i (1 : Int32))) (10 + kt) (cx_enter ((va_up χ 44 (upd (χ 44) i (1 : Int32))) (10 + kt)) ka kb ((-((va_up χ 44 (upd (χ 44) i (1 : Int32))) 43 i))))) 6 (upd ((va_up (va_up χ 44 (upd (χ 44) i (1 : Int32))) (10 + kt) (cx_enter ((va_up χ 44 (upd (χ 44) i (1 : Int32))) (10 + kt)) ka kb ((-((va_up χ 44 (upd (χ 44) i (1 : Int32))) 43 i))))) 6) kt (((va_up (va_up χ 44 (upd (χ 44) i (1 : Int32))) (10 + kt) (cx_enter ((va_up χ 44 (upd (χ 44) i (1 : Int32))) (10 + kt)) ka kb ((-((va_up χ 44 (upd (χ 44) i (1 : Int32))) 43 i))))) 6 kt) - (1 : Int32)))) nS nE ad g8 := by rw [← hg9]; exact qx_w_stand hX6 kt (by omega) (((va_up (va_up χ 44 (upd (χ 44) i (1 : Int32))) (10 + kt) (cx_enter ((va_up χ 44 (upd (χ 44) i (1 : Int32))) (10 + kt)) ka kb ((-((va_up χ 44 (upd (χ 44) i (1 : Int32))) 43 i))))) 6 kt) - (1 : Int32))
        refine qr_aload_n C dX6_takeBack_88 rfl 2 rfl ?_
        refine qr_aload_n C dX6_takeBack_89 rfl 0 rfl ?_
        refine qr_iconst (v := 4) C dX6_takeBack_90 (by decide) ?_
        skip
        refine qr_callV C (na := 2) (As := [(.ref (ad (10 + kt))), (.int (4 : Int32))]) (rest := []) (k_X6_dropBelow hst D ad g8 (va_up (va_up (va_up χ 44 (upd (χ 44) i (1 : Int32))) (10 + kt) (cx_enter ((va_up χ 44 (upd (χ 44) i (1 : Int32))) (10 + kt)) ka kb ((-((va_up χ 44 (upd (χ 44) i (1 : Int32))) 43 i))))) 6 (upd ((va_up (va_up χ 44 (upd (χ 44) i (1 : Int32))) (10 + kt) (cx_enter ((va_up χ 44 (upd (χ 44) i (1 : Int32))) (10 + kt)) ka kb ((-((va_up χ 44 (upd (χ 44) i (1 : Int32))) 43 i))))) 6) kt (((va_up (va_up χ 44 (upd (χ 44) i (1 : Int32))) (10 + kt) (cx_enter ((va_up χ 44 (upd (χ 44) i (1 : Int32))) (10 + kt)) ka kb ((-((va_up χ 44 (upd (χ 44) i (1 : Int32))) 43 i))))) 6 kt) - (1 : Int32)))) nS nE hX10 kt 4 hkt (by omega) ((4 : Int32)) rfl) (0) (qx_x hX10) rfl rfl gi_X6_70 rfl ⟨by decide, by decide, by decide +kernel⟩ rfl rfl (Nat.le_of_ble_eq_true rfl) rfl rfl ⟨Nat.le_of_ble_eq_true rfl, Nat.le_of_ble_eq_true rfl⟩ ⟨Nat.le_of_ble_eq_true rfl, Nat.le_of_ble_eq_true rfl⟩ dX6_takeBack_91 (fun v ad2 gc11 hpo12 => ?_)
        obtain ⟨rfl, rfl, hX13, hfr14⟩ := hpo12
        refine qr_aload_n C dX6_takeBack_94 rfl 1 rfl ?_
        refine gf_X6_91 C ((1000 + i)) (qx_sl hX13 i (by omega)) rfl rfl dX6_takeBack_95 ?_
        exact qr_iretX C rfl (Nat.le_of_ble_eq_true rfl) (Nat.le_of_ble_eq_true rfl) dX6_takeBack_98 (⟨by simp only [cx_take, if_neg c1, if_pos c9, hx1ic, if_pos c33], sg_vi (by rw [hx1ic]; exact (congrFun (e43 _ _ _) i).symm), rfl, by have h9 := hX13; simp only [e10, e6] at h9; unfold cx_takeS; rw [hx1ic, hktx, hkax, hkbx, nI_clamp (by omega), nI_clamp (by omega), nI_clamp (by omega)]; exact h9, fun t1 ht1 => ((hfr14 t1 ht1).trans ((congrFun hg9 t1).symm.trans ((va_up_ne _ _ (by omega)).trans ((hfr7 t1 ht1).trans ((congrFun hg2 t1).symm.trans ((va_up_ne _ _ (by omega)).trans rfl))))))⟩)
      · skip
        exact qr_throw3 C hnt (is := 80) (tx := "the sale was taken back") (by decide) (Or.inr (Or.inr ⟨rfl, by simp only [cx_take, if_neg c1, if_pos c9, hx1ic, if_neg c33]⟩)) dX6_takeBack_36 dX6_takeBack_39 dX6_takeBack_40 dX6_takeBack_42 dX6_takeBack_45 (Nat.le_of_ble_eq_true rfl) (Nat.le_of_ble_eq_true rfl) (Nat.le_of_ble_eq_true rfl) (Nat.le_of_ble_eq_true rfl) (Nat.le_of_ble_eq_true rfl) (Nat.le_of_ble_eq_true rfl)
    · skip
      exact qr_throw1 C hnt (is := 74) (tx := "no such sale") (by decide) (Or.inl ⟨rfl, by simp only [cx_take, if_neg c1, if_neg c9, ite_self]⟩) dX6_takeBack_12 dX6_takeBack_15 dX6_takeBack_16 dX6_takeBack_18 dX6_takeBack_21 (Nat.le_of_ble_eq_true rfl) (Nat.le_of_ble_eq_true rfl) (Nat.le_of_ble_eq_true rfl) (Nat.le_of_ble_eq_true rfl) (Nat.le_of_ble_eq_true rfl) (Nat.le_of_ble_eq_true rfl)
def cx_lift (χ : Nat → Nat → Int32) (x1 : Int32) : Int32 := if x1 < 0 then 1 else if x1 < χ 1 0 then (if cx_lasts (χ 48 x1.toNatClampNeg) (χ 49 x1.toNatClampNeg) (χ 2 0) = 0 then 3 else 0) else 1
def cx_liftS (χ : Nat → Nat → Int32) (i : Nat) : Nat → Nat → Int32 := cx_dropS (va_up χ 49 (upd (χ 49) i 1)) (χ 45 i).toNatClampNeg (χ 47 i).toNatClampNeg
set_option maxHeartbeats 4000000 in
set_option maxRecDepth 100000 in
theorem k_X6_lift {l : Launch} (hst : l.stackTraces = false) (D : va_G) (ad : Nat → Nat) (g : qw_G) (χ : Nat → Nat → Int32) (nS nE : Nat) (hX : qx_P D χ nS nE ad g) (hE : ∀ i, i < nE → ∃ t v, t < 3 ∧ v < 5 ∧ χ 45 i = nI t ∧ χ 47 i = nI v) (x1 : Int32) : qw_T l yX6_lift [Cond.code yX6_lift cX6_lift 3 (some .int)] { frames := 8, cells := 5, slots := 30, locals := 150 } D ad g [(.ref (ad 0)), (.int x1)] (qx_op D ad g nS nE (cx_lift χ x1) (χ 48 x1.toNatClampNeg - χ 2 0) (cx_liftS χ x1.toNatClampNeg)) (qx_px (cx_lift χ x1)) 5 30 := by
  refine qw_T.of (maxL := 3) (own := RX6) (lv := [(0, (.ref (ad 0))), (1, (.int x1))]) hst (by decide) rfl rfl (Nat.le_of_ble_eq_true rfl) ?_
  intro p e s m args below meth c A C hnt
  have hb := (qx_ct hX).2.2
  refine qr_iload_n C dX6_lift_0 rfl 1 rfl ?_
  refine qr_if_lt C 12 dX6_lift_1 (by decide) (fun c1 => ?_) (fun c1 => ?_)
  · skip
    exact qr_throw1 C hnt (is := 122) (tx := "no such embargo") (by decide) (Or.inl ⟨rfl, by simp only [cx_lift, if_pos c1, ite_self]⟩) dX6_lift_12 dX6_lift_15 dX6_lift_16 dX6_lift_18 dX6_lift_21 (Nat.le_of_ble_eq_true rfl) (Nat.le_of_ble_eq_true rfl) (Nat.le_of_ble_eq_true rfl) (Nat.le_of_ble_eq_true rfl) (Nat.le_of_ble_eq_true rfl) (Nat.le_of_ble_eq_true rfl)
  · skip
    refine qr_iload_n C dX6_lift_4 rfl 1 rfl ?_
    refine qr_aload_n C dX6_lift_5 rfl 0 rfl ?_
    refine gf_X6_113 C (0) (qx_x hX) rfl rfl dX6_lift_6 ?_
    refine qr_icmp_lt C 22 dX6_lift_9 (by decide) (fun c9 => ?_) (fun c9 => ?_)
    · skip
      obtain ⟨i, hi, hx1i⟩ := sg_rng (n := nE) (by rw [(qx_ct hX).2.1]; exact nI_toInt (by omega)) (by omega) c1 c9
      have hx1ic : x1.toNatClampNeg = i := by rw [hx1i, nI_clamp (by omega)]
      obtain ⟨kt, kv, hkt, hkv, hktx, hkvx⟩ := hE i hi
      refine qr_aload_n C dX6_lift_22 rfl 0 rfl ?_
      refine gf_X6_24 C (0) (qx_x hX) rfl rfl dX6_lift_23 ?_
      refine qr_iload_n C dX6_lift_26 rfl 1 rfl ?_
      refine qr_aald C 5 rfl rfl (3) (qx_ea hX) rfl (j := i) hx1i (by omega) rfl (if_pos (by omega)) dX6_lift_27 ?_
      refine qr_astore_n (lv' := [(2, (.ref (ad (2000 + i)))), (0, (.ref (ad 0))), (1, (.int x1))]) C dX6_lift_28 rfl (by decide) rfl ?_
      refine qr_aload_n C dX6_lift_29 rfl 0 rfl ?_
      refine qr_aload_n C dX6_lift_30 rfl 1 rfl ?_
      refine gf_X6_118 C (0) (qx_x hX) rfl rfl dX6_lift_31 ?_
      refine qr_callNV C (na := 1) (As := [(.int (χ 2 0))]) (rest := []) (k_X1_lastsAt hst D ad g (2000 + i) ((χ 45 i)) ((χ 46 i)) ((χ 47 i)) ((χ 48 i)) ((χ 49 i)) (qx_em hX i (by omega)) ((χ 2 0))) ((2000 + i)) (qx_em hX i (by omega)) rfl rfl gi_X6_124.1 gi_X6_124.2.1 gi_X6_124.2.2.1 gi_X6_124.2.2.2.1 gi_X6_124.2.2.2.2 ⟨by decide, by decide, by decide +kernel⟩ rfl rfl (Nat.le_of_ble_eq_true rfl) rfl rfl ⟨Nat.le_of_ble_eq_true rfl, Nat.le_of_ble_eq_true rfl⟩ ⟨Nat.le_of_ble_eq_true rfl, Nat.le_of_ble_eq_true rfl⟩ dX6_lift_34 (fun v ad2 gc1 hpo2 => ?_)
      obtain ⟨rfl, rfl, rfl⟩ := hpo2
      refine qr_if_ne C 50 dX6_lift_37 (by decide) (fun c37 => ?_) (fun c37 => ?_)
      · skip
        refine qr_aload_n C dX6_lift_50 rfl 0 rfl ?_
        refine qr_iconst (v := 1) C dX6_lift_51 (by decide) ?_
        refine pf_X6_129 C ((2000 + i)) (qx_em hX i (by omega)) rfl (qw_b01 (Or.inr rfl)).2.1 (qw_b01 (Or.inr rfl)).2.2 (Nat.le_of_ble_eq_true rfl) rfl dX6_lift_52 ?_
        generalize hg4 : va_up g ((2000 + i)) _ = g3
        have hX5 : qx_P D (va_up χ 49 (upd (χ 49) i (1 : Int32))) nS nE ad g3 := by rw [← hg4]; exact qx_w_lft hX i (by omega) (1 : Int32)
        refine qr_aload_n C dX6_lift_55 rfl 1 rfl ?_
        refine qr_aload_n C dX6_lift_56 rfl 1 rfl ?_
        refine gf_X6_11 C (0) (qx_x hX5) rfl rfl dX6_lift_57 ?_
        refine qr_aload_n C dX6_lift_60 rfl 0 rfl ?_
        refine gf_X6_132 C ((2000 + i)) (qx_em hX5 i (by omega)) rfl rfl dX6_lift_61 ?_
        refine qr_aald C 3 rfl rfl (1) (qx_ta hX5) rfl (j := kt) hktx (by omega) rfl (if_pos (by omega)) dX6_lift_64 ?_
        refine qr_aload_n C dX6_lift_65 rfl 0 rfl ?_
        refine gf_X6_133 C ((2000 + i)) (qx_em hX5 i (by omega)) rfl rfl dX6_lift_66 ?_
        skip
        refine qr_callV C (na := 2) (As := [(.ref (ad (10 + kt))), (.int ((va_up χ 49 (upd (χ 49) i (1 : Int32))) 47 i))]) (rest := []) (k_X6_dropBelow hst D ad g3 (va_up χ 49 (upd (χ 49) i (1 : Int32))) nS nE hX5 kt kv hkt hkv (((va_up χ 49 (upd (χ 49) i (1 : Int32))) 47 i)) hkvx) (0) (qx_x hX5) rfl rfl gi_X6_70 rfl ⟨by decide, by decide, by decide +kernel⟩ rfl rfl (Nat.le_of_ble_eq_true rfl) rfl rfl ⟨Nat.le_of_ble_eq_true rfl, Nat.le_of_ble_eq_true rfl⟩ ⟨Nat.le_of_ble_eq_true rfl, Nat.le_of_ble_eq_true rfl⟩ dX6_lift_69 (fun v ad2 gc6 hpo7 => ?_)
        obtain ⟨rfl, rfl, hX8, hfr9⟩ := hpo7
        refine qr_aload_n C dX6_lift_72 rfl 0 rfl ?_
        refine gf_X6_136 C ((2000 + i)) (qx_em hX8 i (by omega)) rfl rfl dX6_lift_73 ?_
        refine qr_aload_n C dX6_lift_76 rfl 1 rfl ?_
        refine gf_X6_118 C (0) (qx_x hX8) rfl rfl dX6_lift_77 ?_
        refine qr_isub C dX6_lift_80 ?_
        exact qr_iretX C rfl (Nat.le_of_ble_eq_true rfl) (Nat.le_of_ble_eq_true rfl) dX6_lift_81 (⟨by simp only [cx_lift, if_neg c1, if_pos c9, hx1ic, if_neg c37], sg_vi (by rw [hx1ic]; rfl), rfl, by unfold cx_liftS; rw [hx1ic, hktx, hkvx, nI_clamp (by omega), nI_clamp (by omega)]; exact hX8, fun t1 ht1 => ((hfr9 t1 ht1).trans ((congrFun hg4 t1).symm.trans ((va_up_ne _ _ (by omega)).trans rfl)))⟩)
      · skip
        exact qr_throw3 C hnt (is := 127) (tx := "the embargo does not last") (by decide) (Or.inr (Or.inr ⟨rfl, by simp only [cx_lift, if_neg c1, if_pos c9, hx1ic, if_pos c37]⟩)) dX6_lift_40 dX6_lift_43 dX6_lift_44 dX6_lift_46 dX6_lift_49 (Nat.le_of_ble_eq_true rfl) (Nat.le_of_ble_eq_true rfl) (Nat.le_of_ble_eq_true rfl) (Nat.le_of_ble_eq_true rfl) (Nat.le_of_ble_eq_true rfl) (Nat.le_of_ble_eq_true rfl)
    · skip
      exact qr_throw1 C hnt (is := 122) (tx := "no such embargo") (by decide) (Or.inl ⟨rfl, by simp only [cx_lift, if_neg c1, if_neg c9, ite_self]⟩) dX6_lift_12 dX6_lift_15 dX6_lift_16 dX6_lift_18 dX6_lift_21 (Nat.le_of_ble_eq_true rfl) (Nat.le_of_ble_eq_true rfl) (Nat.le_of_ble_eq_true rfl) (Nat.le_of_ble_eq_true rfl) (Nat.le_of_ble_eq_true rfl) (Nat.le_of_ble_eq_true rfl)
def cx_pass (χ : Nat → Nat → Int32) (x1 : Int32) : Int32 := if x1 < 1 then 2 else if x1 ≤ 100 then (if χ 2 0 + x1 ≤ 10000 then 0 else 3) else 2
def cx_pstep (χ : Nat → Nat → Int32) (x1 : Int32) (k : Nat) (s : (Nat → Int32) × Int32) : (Nat → Int32) × Int32 := if cx_lasts (χ 48 k) (χ 49 k) (χ 2 0) = 0 then s else if cx_lasts (χ 48 k) (χ 49 k) (χ 2 0 + x1) = 0 then cx_drop (χ 45 k).toNatClampNeg s.1 s.2 (χ 47 k).toNatClampNeg else s
def cx_passB (χ : Nat → Nat → Int32) (x1 : Int32) (n : Nat) : (Nat → Int32) × Int32 := sg_it (cx_pstep χ x1) (χ 7, χ 3 0) n
def cx_passS (χ : Nat → Nat → Int32) (x1 : Int32) (n : Nat) : Nat → Nat → Int32 := sg_u (cx_dS χ (cx_passB χ x1 n)) 2 (χ 2 0 + x1)
theorem cx_dropdS (χ : Nat → Nat → Int32) (s : (Nat → Int32) × Int32) (t L : Nat) : cx_dropS (cx_dS χ s) t L = cx_dS χ (cx_drop t s.1 s.2 L) := cx_dS2 χ s _ _
theorem sg_nlt {x y : Int32} (h : y ≤ x) (h2 : x < y) : False := by rw [Int32.le_iff_toInt_le] at h; rw [Int32.lt_iff_toInt_lt] at h2; omega
set_option maxHeartbeats 4000000 in
set_option maxRecDepth 100000 in
theorem k_X6_pass {l : Launch} (hst : l.stackTraces = false) (D : va_G) (ad : Nat → Nat) (g : qw_G) (χ : Nat → Nat → Int32) (nS nE : Nat) (hX : qx_P D χ nS nE ad g) (hE : ∀ i, i < nE → ∃ t v, t < 3 ∧ v < 5 ∧ χ 45 i = nI t ∧ χ 47 i = nI v) (x1 : Int32) : qw_T l yX6_pass [Cond.code yX6_pass cX6_pass 6 (some .int)] { frames := 8, cells := 5, slots := 30, locals := 150 } D ad g [(.ref (ad 0)), (.int x1)] (qx_op D ad g nS nE (cx_pass χ x1) ((cx_passB χ x1 nE).2 - χ 3 0) (cx_passS χ x1 nE)) (qx_px (cx_pass χ x1)) 5 30 := by
  refine qw_T.of (maxL := 6) (own := RX6) (lv := [(0, (.ref (ad 0))), (1, (.int x1))]) hst (by decide) rfl rfl (Nat.le_of_ble_eq_true rfl) ?_
  intro p e s m args below meth c A C hnt
  have hb := (qx_ct hX).2.2
  refine qr_iload_n C dX6_pass_0 rfl 1 rfl ?_
  refine qr_iconst (v := 1) C dX6_pass_1 (by decide) ?_
  refine qr_icmp_lt C 11 dX6_pass_2 (by decide) (fun c2 => ?_) (fun c2 => ?_)
  · skip
    exact qr_throw2 C hnt (is := 111) (tx := "hours is out of range") (by decide) (Or.inr (Or.inl ⟨rfl, by simp only [cx_pass, if_pos c2, ite_self]⟩)) dX6_pass_11 dX6_pass_14 dX6_pass_15 dX6_pass_17 dX6_pass_20 (Nat.le_of_ble_eq_true rfl) (Nat.le_of_ble_eq_true rfl) (Nat.le_of_ble_eq_true rfl) (Nat.le_of_ble_eq_true rfl) (Nat.le_of_ble_eq_true rfl) (Nat.le_of_ble_eq_true rfl)
  · skip
    refine qr_iload_n C dX6_pass_5 rfl 1 rfl ?_
    refine qr_bipush (v := 100) C dX6_pass_6 (by decide) ?_
    refine qr_icmp_le C 21 dX6_pass_8 (by decide) (fun c8 => ?_) (fun c8 => ?_)
    · skip
      refine qr_aload_n C dX6_pass_21 rfl 0 rfl ?_
      refine gf_X6_118 C (0) (qx_x hX) rfl rfl dX6_pass_22 ?_
      refine qr_iload_n C dX6_pass_25 rfl 1 rfl ?_
      refine qr_iadd C dX6_pass_26 ?_
      refine qr_sipush (v := 10000) C dX6_pass_27 (by decide) ?_
      refine qr_icmp_le C 43 dX6_pass_30 (by decide) (fun c30 => ?_) (fun c30 => ?_)
      · skip
        refine qr_aload_n C dX6_pass_43 rfl 0 rfl ?_
        refine gf_X6_153 C (0) (qx_x hX) rfl rfl dX6_pass_44 ?_
        refine qr_istore_n (lv' := [(2, (.int (χ 3 0))), (0, (.ref (ad 0))), (1, (.int x1))]) C dX6_pass_47 rfl (by decide) rfl ?_
        refine qr_aload_n C dX6_pass_48 rfl 1 rfl ?_
        refine gf_X6_118 C (0) (qx_x hX) rfl rfl dX6_pass_49 ?_
        refine qr_iload_n C dX6_pass_52 rfl 2 rfl ?_
        refine qr_iadd C dX6_pass_53 ?_
        refine qr_istore_n (lv' := [(3, (.int ((χ 2 0) + x1))), (2, (.int (χ 3 0))), (0, (.ref (ad 0))), (1, (.int x1))]) C dX6_pass_54 rfl (by decide) rfl ?_
        refine qr_iconst (v := 0) C dX6_pass_55 (by decide) ?_
        refine qr_istore (lv' := [(4, (.int (0 : Int32))), (3, (.int ((χ 2 0) + x1))), (2, (.int (χ 3 0))), (0, (.ref (ad 0))), (1, (.int x1))]) C dX6_pass_56 (by decide) rfl ?_
        have L58 : ∀ (j58 i58 : Nat) (gl58 : qw_G) , i58 + j58 = nE → (qx_P D (cx_dS χ (cx_passB χ x1 i58)) nS nE ad gl58 ∧ ∀ t, (100 ≤ t ∧ t < 1000) → gl58 t = g t) → qw_W p l e { frames := 8, cells := 5, slots := 30, locals := 150 } s m args below meth c D A 6 (vx_MQ below (qw_Q (qx_op D ad g nS nE (cx_pass χ x1) ((cx_passB χ x1 nE).2 - χ 3 0) (cx_passS χ x1 nE)) D A) (qw_X (qx_px (cx_pass χ x1)) D A ad g) args s 5 30 A) 0 0 ad gl58 58 [(0, (.ref (ad 0))), (1, (.int x1)), (2, (.int (χ 3 0))), (3, (.int ((χ 2 0) + x1))), (4, (.int (nI i58)))] [] := by
          intro j58
          induction j58 with
          | zero =>
            intro i58 gl58  hi58  hw58
            obtain rfl : nE = i58 := by omega
            obtain ⟨hX2, hfr2⟩ := hw58
            refine qr_iload C dX6_pass_58 4 rfl ?_
            refine qr_aload_n C dX6_pass_60 rfl 0 rfl ?_
            refine gf_X6_113 C (0) (qx_x hX2) rfl rfl dX6_pass_61 ?_
            refine qr_icmp_ge_t C 122 dX6_pass_64 (by decide) ((sg_le (nE) (nE) (qx_ct hX2).2.1 rfl (by omega) (by omega)).mpr (Nat.le_refl _)) ?_
            refine qr_aload_n C dX6_pass_122 rfl 0 rfl ?_
            refine qr_iload_n C dX6_pass_123 rfl 3 rfl ?_
            refine pf_X6_118 C (0) (qx_x hX2) rfl rfl rfl (Nat.le_of_ble_eq_true rfl) rfl dX6_pass_124 ?_
            generalize hg2 : va_up gl58 (0) _ = g1
            have hX3 : qx_P D (sg_u (cx_dS χ (cx_passB χ x1 nE)) 2 ((χ 2 0) + x1)) nS nE ad g1 := by rw [← hg2]; exact qx_w_now hX2 ((χ 2 0) + x1)
            refine qr_aload_n C dX6_pass_127 rfl 0 rfl ?_
            refine gf_X6_153 C (0) (qx_x hX3) rfl rfl dX6_pass_128 ?_
            refine qr_iload_n C dX6_pass_131 rfl 2 rfl ?_
            refine qr_isub C dX6_pass_132 ?_
            exact qr_iretX C rfl (Nat.le_of_ble_eq_true rfl) (Nat.le_of_ble_eq_true rfl) dX6_pass_133 (⟨by simp only [cx_pass, if_neg c2, if_pos c8, if_pos c30], rfl, rfl, hX3, fun t1 ht1 => ((congrFun hg2 t1).symm.trans ((va_up_ne _ _ (by omega)).trans ((hfr2 t1 ht1).trans rfl)))⟩)
          | succ j58 ih58 =>
            intro i58 gl58  hi58  hw58
            obtain ⟨hX2, hfr2⟩ := hw58
            refine qr_iload C dX6_pass_58 4 rfl ?_
            refine qr_aload_n C dX6_pass_60 rfl 0 rfl ?_
            refine gf_X6_113 C (0) (qx_x hX2) rfl rfl dX6_pass_61 ?_
            refine qr_icmp_ge_f C 122 dX6_pass_64 (by decide) (fun z => absurd ((sg_le (nE) (i58) (qx_ct hX2).2.1 rfl (by omega) (by omega)).mp z) (by omega)) ?_
            refine qr_aload_n C dX6_pass_67 rfl 0 rfl ?_
            refine gf_X6_24 C (0) (qx_x hX2) rfl rfl dX6_pass_68 ?_
            refine qr_iload C dX6_pass_71 4 rfl ?_
            refine qr_aald C 5 rfl rfl (3) (qx_ea hX2) rfl (j := i58) rfl (by omega) rfl (if_pos (by omega)) dX6_pass_73 ?_
            obtain ⟨kt, kv, hkt, hkv, hktx, hkvx⟩ := hE i58 (by omega)
            refine qr_astore (lv' := [(5, (.ref (ad (2000 + i58)))), (0, (.ref (ad 0))), (1, (.int x1)), (2, (.int (χ 3 0))), (3, (.int ((χ 2 0) + x1))), (4, (.int (nI i58)))]) C dX6_pass_74 (by decide) rfl ?_
            refine qr_aload C dX6_pass_76 0 rfl ?_
            refine qr_aload_n C dX6_pass_78 rfl 1 rfl ?_
            refine gf_X6_118 C (0) (qx_x hX2) rfl rfl dX6_pass_79 ?_
            refine qr_callNV C (na := 1) (As := [(.int ((cx_dS χ (cx_passB χ x1 i58)) 2 0))]) (rest := []) (k_X1_lastsAt hst D ad gl58 (2000 + i58) (((cx_dS χ (cx_passB χ x1 i58)) 45 i58)) (((cx_dS χ (cx_passB χ x1 i58)) 46 i58)) (((cx_dS χ (cx_passB χ x1 i58)) 47 i58)) (((cx_dS χ (cx_passB χ x1 i58)) 48 i58)) (((cx_dS χ (cx_passB χ x1 i58)) 49 i58)) (qx_em hX2 i58 (by omega)) (((cx_dS χ (cx_passB χ x1 i58)) 2 0))) ((2000 + i58)) (qx_em hX2 i58 (by omega)) rfl rfl gi_X6_124.1 gi_X6_124.2.1 gi_X6_124.2.2.1 gi_X6_124.2.2.2.1 gi_X6_124.2.2.2.2 ⟨by decide, by decide, by decide +kernel⟩ rfl rfl (Nat.le_of_ble_eq_true rfl) rfl rfl ⟨Nat.le_of_ble_eq_true rfl, Nat.le_of_ble_eq_true rfl⟩ ⟨Nat.le_of_ble_eq_true rfl, Nat.le_of_ble_eq_true rfl⟩ dX6_pass_82 (fun v ad2 gc4 hpo5 => ?_)
            obtain ⟨rfl, rfl, rfl⟩ := hpo5
            refine qr_if_eq C 116 dX6_pass_85 (by decide) (fun c85 => ?_) (fun c85 => ?_)
            · skip
              refine qr_iinc (v := (nI (i58 + 1))) (lv' := [(4, (.int (nI (i58 + 1)))), (5, (.ref (ad (2000 + i58)))), (0, (.ref (ad 0))), (1, (.int x1)), (2, (.int (χ 3 0))), (3, (.int ((χ 2 0) + x1)))]) C dX6_pass_116 (w := 5) rfl (nI_1 _) (by decide) rfl ?_
              refine qr_goto (tgt := 58) C dX6_pass_119 (by decide) ?_
              refine qw_pick [2, 3, 4, 5, 0] (lv' := [(0, (.ref (ad 0))), (1, (.int x1)), (2, (.int (χ 3 0))), (3, (.int ((χ 2 0) + x1))), (4, (.int (nI (i58 + 1))))]) rfl ?_
              exact ih58 (i58 + 1) gl58  (by omega) ⟨(by rw [show (cx_passB χ x1 (i58 + 1)) = (cx_passB χ x1 i58) from if_pos c85]; exact hX2), fun t1 ht1 => ((hfr2 t1 ht1).trans rfl)⟩
            · skip
              refine qr_aload C dX6_pass_88 0 rfl ?_
              refine qr_iload_n C dX6_pass_90 rfl 4 rfl ?_
              refine qr_callNV C (na := 1) (As := [(.int ((χ 2 0) + x1))]) (rest := []) (k_X1_lastsAt hst D ad gl58 (2000 + i58) (((cx_dS χ (cx_passB χ x1 i58)) 45 i58)) (((cx_dS χ (cx_passB χ x1 i58)) 46 i58)) (((cx_dS χ (cx_passB χ x1 i58)) 47 i58)) (((cx_dS χ (cx_passB χ x1 i58)) 48 i58)) (((cx_dS χ (cx_passB χ x1 i58)) 49 i58)) (qx_em hX2 i58 (by omega)) (((χ 2 0) + x1))) ((2000 + i58)) (qx_em hX2 i58 (by omega)) rfl rfl gi_X6_124.1 gi_X6_124.2.1 gi_X6_124.2.2.1 gi_X6_124.2.2.2.1 gi_X6_124.2.2.2.2 ⟨by decide, by decide, by decide +kernel⟩ rfl rfl (Nat.le_of_ble_eq_true rfl) rfl rfl ⟨Nat.le_of_ble_eq_true rfl, Nat.le_of_ble_eq_true rfl⟩ ⟨Nat.le_of_ble_eq_true rfl, Nat.le_of_ble_eq_true rfl⟩ dX6_pass_91 (fun v ad2 gc6 hpo7 => ?_)
              obtain ⟨rfl, rfl, rfl⟩ := hpo7
              refine qr_if_ne C 116 dX6_pass_94 (by decide) (fun c94 => ?_) (fun c94 => ?_)
              · skip
                refine qr_iinc (v := (nI (i58 + 1))) (lv' := [(4, (.int (nI (i58 + 1)))), (5, (.ref (ad (2000 + i58)))), (0, (.ref (ad 0))), (1, (.int x1)), (2, (.int (χ 3 0))), (3, (.int ((χ 2 0) + x1)))]) C dX6_pass_116 (w := 5) rfl (nI_1 _) (by decide) rfl ?_
                refine qr_goto (tgt := 58) C dX6_pass_119 (by decide) ?_
                refine qw_pick [2, 3, 4, 5, 0] (lv' := [(0, (.ref (ad 0))), (1, (.int x1)), (2, (.int (χ 3 0))), (3, (.int ((χ 2 0) + x1))), (4, (.int (nI (i58 + 1))))]) rfl ?_
                exact ih58 (i58 + 1) gl58  (by omega) ⟨(by rw [show (cx_passB χ x1 (i58 + 1)) = (cx_passB χ x1 i58) from (if_neg c85).trans (if_neg c94)]; exact hX2), fun t1 ht1 => ((hfr2 t1 ht1).trans rfl)⟩
              · skip
                refine qr_aload_n C dX6_pass_97 rfl 1 rfl ?_
                refine qr_aload_n C dX6_pass_98 rfl 1 rfl ?_
                refine gf_X6_11 C (0) (qx_x hX2) rfl rfl dX6_pass_99 ?_
                refine qr_aload C dX6_pass_102 0 rfl ?_
                refine gf_X6_132 C ((2000 + i58)) (qx_em hX2 i58 (by omega)) rfl rfl dX6_pass_104 ?_
                refine qr_aald C 3 rfl rfl (1) (qx_ta hX2) rfl (j := kt) hktx (by omega) rfl (if_pos (by omega)) dX6_pass_107 ?_
                refine qr_aload C dX6_pass_108 0 rfl ?_
                refine gf_X6_133 C ((2000 + i58)) (qx_em hX2 i58 (by omega)) rfl rfl dX6_pass_110 ?_
                skip
                refine qr_callV C (na := 2) (As := [(.ref (ad (10 + kt))), (.int ((cx_dS χ (cx_passB χ x1 i58)) 47 i58))]) (rest := []) (k_X6_dropBelow hst D ad gl58 (cx_dS χ (cx_passB χ x1 i58)) nS nE hX2 kt kv hkt hkv (((cx_dS χ (cx_passB χ x1 i58)) 47 i58)) hkvx) (0) (qx_x hX2) rfl rfl gi_X6_70 rfl ⟨by decide, by decide, by decide +kernel⟩ rfl rfl (Nat.le_of_ble_eq_true rfl) rfl rfl ⟨Nat.le_of_ble_eq_true rfl, Nat.le_of_ble_eq_true rfl⟩ ⟨Nat.le_of_ble_eq_true rfl, Nat.le_of_ble_eq_true rfl⟩ dX6_pass_113 (fun v ad2 gc8 hpo9 => ?_)
                obtain ⟨rfl, rfl, hX10, hfr11⟩ := hpo9
                refine qr_iinc (v := (nI (i58 + 1))) (lv' := [(4, (.int (nI (i58 + 1)))), (5, (.ref (ad (2000 + i58)))), (0, (.ref (ad 0))), (1, (.int x1)), (2, (.int (χ 3 0))), (3, (.int ((χ 2 0) + x1)))]) C dX6_pass_116 (w := 5) rfl (nI_1 _) (by decide) rfl ?_
                refine qr_goto (tgt := 58) C dX6_pass_119 (by decide) ?_
                refine qw_pick [2, 3, 4, 5, 0] (lv' := [(0, (.ref (ad 0))), (1, (.int x1)), (2, (.int (χ 3 0))), (3, (.int ((χ 2 0) + x1))), (4, (.int (nI (i58 + 1))))]) rfl ?_
                exact ih58 (i58 + 1) gc8  (by omega) ⟨(by rw [show (cx_passB χ x1 (i58 + 1)) = _ from (if_neg c85).trans (if_pos c94), hktx, hkvx, nI_clamp (by omega), nI_clamp (by omega)]; have h9 := hX10; rw [cx_dropdS] at h9; exact h9), fun t1 ht1 => ((hfr11 t1 ht1).trans ((hfr2 t1 ht1).trans rfl))⟩
        refine qw_pick [3, 4, 2, 1, 0] (lv' := [(0, (.ref (ad 0))), (1, (.int x1)), (2, (.int (χ 3 0))), (3, (.int ((χ 2 0) + x1))), (4, (.int (0 : Int32)))]) rfl ?_
        exact L58 (nE) 0 g  (by omega) ⟨cx_dS0 χ hX, fun _ _ => rfl⟩
      · skip
        exact qr_throw3 C hnt (is := 151) (tx := "it would be behind 10000") (by decide) (Or.inr (Or.inr ⟨rfl, by simp only [cx_pass, if_neg c2, if_pos c8, if_neg c30]⟩)) dX6_pass_33 dX6_pass_36 dX6_pass_37 dX6_pass_39 dX6_pass_42 (Nat.le_of_ble_eq_true rfl) (Nat.le_of_ble_eq_true rfl) (Nat.le_of_ble_eq_true rfl) (Nat.le_of_ble_eq_true rfl) (Nat.le_of_ble_eq_true rfl) (Nat.le_of_ble_eq_true rfl)
    · skip
      exact qr_throw2 C hnt (is := 111) (tx := "hours is out of range") (by decide) (Or.inr (Or.inl ⟨rfl, by simp only [cx_pass, if_neg c2, if_neg c8, ite_self]⟩)) dX6_pass_11 dX6_pass_14 dX6_pass_15 dX6_pass_17 dX6_pass_20 (Nat.le_of_ble_eq_true rfl) (Nat.le_of_ble_eq_true rfl) (Nat.le_of_ble_eq_true rfl) (Nat.le_of_ble_eq_true rfl) (Nat.le_of_ble_eq_true rfl) (Nat.le_of_ble_eq_true rfl)
