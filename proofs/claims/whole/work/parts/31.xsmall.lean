/-! the class's small methods -/
def qx_to (D : va_G) (ad : Nat → Nat) (g : qw_G) (nS nE : Nat) (v : Option Value) (χ : Nat → Nat → Int32) : Option Value → (Nat → Nat) → qw_G → Prop := fun v' ad' g' => v = v' ∧ ad = ad' ∧ qx_P D χ nS nE ad g' ∧ ∀ t, (100 ≤ t ∧ t < 1000) → g' t = g t
/-- throws IndexOutOfBoundsException, where c isn't 0 -/
def qx_p1 (c : Int32) : String → Prop := fun E => E = qw_E1 ∧ ¬ c = 0
def qx_px (c : Int32) : String → Prop := fun E => (E = qw_E1 ∧ c = 1) ∨ (E = qw_E2 ∧ c = 2) ∨ (E = qw_E3 ∧ c = 3)
theorem sg_rng {x b : Int32} {n : Nat} (hb : b.toInt = n) (hn : n < 2147483648) (h : ¬ x < 0) (h2 : x < b) : ∃ j, j < n ∧ x = nI j := by
  rw [Int32.lt_iff_toInt_lt] at h h2
  have e0 : (0 : Int32).toInt = 0 := by decide
  exact sg_nat (by omega) (by omega) hn
def cx_lasts (a3 a4 x1 : Int32) : Int32 := (if a4 = 0 then (if a3 ≤ x1 then (0 : Int32) else (1 : Int32)) else (0 : Int32))
set_option maxHeartbeats 4000000 in
set_option maxRecDepth 100000 in
theorem k_X1_lastsAt {l : Launch} (hst : l.stackTraces = false) (D : va_G) (ad : Nat → Nat) (g : qw_G) (u : Nat) (a0 a1 a2 a3 a4 : Int32) (hu : g u = some (.inr (0, [.int a0, .int a1, .int a2, .int a3, .int a4]))) (x1 : Int32) : qw_M l yX1_lastsAt [Cond.code yX1_lastsAt cX1_lastsAt 2 (some .boolean)] { frames := 0, cells := 0, slots := 0, locals := 0 } D ad g [(.ref (ad u)), (.int x1)] (qw_kp ad g (some (.int (cx_lasts a3 a4 x1)))) 0 0 := by
  refine qw_M.of (maxL := 2) (own := RX1) (lv := [(0, (.ref (ad u))), (1, (.int x1))]) hst (by decide) rfl rfl (Nat.le_of_ble_eq_true rfl) ?_
  intro p e s m args below meth c A C hin
  refine qr_aload_n C dX1_lastsAt_0 rfl 0 rfl ?_
  refine gf_X1_22 C (u) (hu) rfl rfl dX1_lastsAt_1 ?_
  refine qr_if_ne C 19 dX1_lastsAt_4 (by decide) (fun c1 => ?_) (fun c1 => ?_)
  · skip
    refine qr_iconst (v := 0) C dX1_lastsAt_19 (by decide) ?_
    exact qr_zret C rfl (by decide) (Nat.le_of_ble_eq_true rfl) (Nat.le_of_ble_eq_true rfl) dX1_lastsAt_20 (qw_kpn (by simp only [cx_lasts, if_neg c1]))
  · skip
    refine qr_iload_n C dX1_lastsAt_7 rfl 1 rfl ?_
    refine qr_aload_n C dX1_lastsAt_8 rfl 0 rfl ?_
    refine gf_X1_19 C (u) (hu) rfl rfl dX1_lastsAt_9 ?_
    refine qr_icmp_ge C 19 dX1_lastsAt_12 (by decide) (fun c2 => ?_) (fun c2 => ?_)
    · skip
      refine qr_iconst (v := 0) C dX1_lastsAt_19 (by decide) ?_
      exact qr_zret C rfl (by decide) (Nat.le_of_ble_eq_true rfl) (Nat.le_of_ble_eq_true rfl) dX1_lastsAt_20 (qw_kpn (by simp only [cx_lasts, if_pos c1, if_pos c2]))
    · skip
      refine qr_iconst (v := 1) C dX1_lastsAt_15 (by decide) ?_
      refine qr_goto (tgt := 20) C dX1_lastsAt_16 (by decide) ?_
      exact qr_zret C rfl (by decide) (Nat.le_of_ble_eq_true rfl) (Nat.le_of_ble_eq_true rfl) dX1_lastsAt_20 (qw_kpn (by simp only [cx_lasts, if_pos c1, if_neg c2]))
def cx_counts (a1 a2 a4 x1 : Int32) : Int32 := (if a4 = 0 then (if (x1 / (6 : Int32)) = (4 : Int32) then (if (x1 - x1 / (6 : Int32) * (6 : Int32)) = (5 : Int32) then (1 : Int32) else (if (x1 - x1 / (6 : Int32) * (6 : Int32)) = a2 then (1 : Int32) else (0 : Int32))) else (if (x1 / (6 : Int32)) = a1 then (if (x1 - x1 / (6 : Int32) * (6 : Int32)) = (5 : Int32) then (1 : Int32) else (if (x1 - x1 / (6 : Int32) * (6 : Int32)) = a2 then (1 : Int32) else (0 : Int32))) else (0 : Int32))) else (0 : Int32))
set_option maxHeartbeats 4000000 in
set_option maxRecDepth 100000 in
theorem k_X4_countsIn {l : Launch} (hst : l.stackTraces = false) (D : va_G) (ad : Nat → Nat) (g : qw_G) (u : Nat) (a0 a1 a2 a3 a4 : Int32) (hu : g u = some (.inr (3, [.int a0, .int a1, .int a2, .int a3, .int a4]))) (x1 : Int32) : qw_M l yX4_countsIn [Cond.code yX4_countsIn cX4_countsIn 4 (some .boolean)] { frames := 0, cells := 0, slots := 0, locals := 0 } D ad g [(.ref (ad u)), (.int x1)] (qw_kp ad g (some (.int (cx_counts a1 a2 a4 x1)))) 0 0 := by
  refine qw_M.of (maxL := 4) (own := RX4) (lv := [(0, (.ref (ad u))), (1, (.int x1))]) hst (by decide) rfl rfl (Nat.le_of_ble_eq_true rfl) ?_
  intro p e s m args below meth c A C hin
  refine qr_iload_n C dX4_countsIn_0 rfl 1 rfl ?_
  refine qr_bipush (v := 6) C dX4_countsIn_1 (by decide) ?_
  refine qr_idiv C dX4_countsIn_3 (by decide) ?_
  refine qr_istore_n (lv' := [(2, (.int (x1 / (6 : Int32)))), (0, (.ref (ad u))), (1, (.int x1))]) C dX4_countsIn_4 rfl (by decide) rfl ?_
  refine qr_iload_n C dX4_countsIn_5 rfl 2 rfl ?_
  refine qr_bipush (v := 6) C dX4_countsIn_6 (by decide) ?_
  refine qr_irem C dX4_countsIn_8 (by decide) ?_
  refine qr_istore_n (lv' := [(3, (.int (x1 - x1 / (6 : Int32) * (6 : Int32)))), (2, (.int (x1 / (6 : Int32)))), (0, (.ref (ad u))), (1, (.int x1))]) C dX4_countsIn_9 rfl (by decide) rfl ?_
  refine qr_aload_n C dX4_countsIn_10 rfl 2 rfl ?_
  refine gf_X4_24 C (u) (hu) rfl rfl dX4_countsIn_11 ?_
  refine qr_if_ne C 47 dX4_countsIn_14 (by decide) (fun c1 => ?_) (fun c1 => ?_)
  · skip
    refine qr_iconst (v := 0) C dX4_countsIn_47 (by decide) ?_
    exact qr_zret C rfl (by decide) (Nat.le_of_ble_eq_true rfl) (Nat.le_of_ble_eq_true rfl) dX4_countsIn_48 (qw_kpn (by simp only [cx_counts, if_neg c1]))
  · skip
    refine qr_iload_n C dX4_countsIn_17 rfl 1 rfl ?_
    refine qr_iconst (v := 4) C dX4_countsIn_18 (by decide) ?_
    refine qr_icmp_eq C 30 dX4_countsIn_19 (by decide) (fun c2 => ?_) (fun c2 => ?_)
    · skip
      refine qr_iload_n C dX4_countsIn_30 rfl 0 rfl ?_
      refine qr_iconst (v := 5) C dX4_countsIn_31 (by decide) ?_
      refine qr_icmp_eq C 43 dX4_countsIn_32 (by decide) (fun c3 => ?_) (fun c3 => ?_)
      · skip
        refine qr_iconst (v := 1) C dX4_countsIn_43 (by decide) ?_
        refine qr_goto (tgt := 48) C dX4_countsIn_44 (by decide) ?_
        exact qr_zret C rfl (by decide) (Nat.le_of_ble_eq_true rfl) (Nat.le_of_ble_eq_true rfl) dX4_countsIn_48 (qw_kpn (by simp only [cx_counts, if_pos c1, if_pos c2, if_pos c3]))
      · skip
        refine qr_iload_n C dX4_countsIn_35 rfl 0 rfl ?_
        refine qr_aload_n C dX4_countsIn_36 rfl 2 rfl ?_
        refine gf_X4_18 C (u) (hu) rfl rfl dX4_countsIn_37 ?_
        refine qr_icmp_ne C 47 dX4_countsIn_40 (by decide) (fun c4 => ?_) (fun c4 => ?_)
        · skip
          refine qr_iconst (v := 0) C dX4_countsIn_47 (by decide) ?_
          exact qr_zret C rfl (by decide) (Nat.le_of_ble_eq_true rfl) (Nat.le_of_ble_eq_true rfl) dX4_countsIn_48 (qw_kpn (by simp only [cx_counts, if_pos c1, if_pos c2, if_neg c3, if_neg c4]))
        · skip
          refine qr_iconst (v := 1) C dX4_countsIn_43 (by decide) ?_
          refine qr_goto (tgt := 48) C dX4_countsIn_44 (by decide) ?_
          exact qr_zret C rfl (by decide) (Nat.le_of_ble_eq_true rfl) (Nat.le_of_ble_eq_true rfl) dX4_countsIn_48 (qw_kpn (by simp only [cx_counts, if_pos c1, if_pos c2, if_neg c3, if_pos c4]))
    · skip
      refine qr_iload_n C dX4_countsIn_22 rfl 1 rfl ?_
      refine qr_aload_n C dX4_countsIn_23 rfl 2 rfl ?_
      refine gf_X4_15 C (u) (hu) rfl rfl dX4_countsIn_24 ?_
      refine qr_icmp_ne C 47 dX4_countsIn_27 (by decide) (fun c5 => ?_) (fun c5 => ?_)
      · skip
        refine qr_iconst (v := 0) C dX4_countsIn_47 (by decide) ?_
        exact qr_zret C rfl (by decide) (Nat.le_of_ble_eq_true rfl) (Nat.le_of_ble_eq_true rfl) dX4_countsIn_48 (qw_kpn (by simp only [cx_counts, if_pos c1, if_neg c2, if_neg c5]))
      · skip
        refine qr_iload_n C dX4_countsIn_30 rfl 0 rfl ?_
        refine qr_iconst (v := 5) C dX4_countsIn_31 (by decide) ?_
        refine qr_icmp_eq C 43 dX4_countsIn_32 (by decide) (fun c6 => ?_) (fun c6 => ?_)
        · skip
          refine qr_iconst (v := 1) C dX4_countsIn_43 (by decide) ?_
          refine qr_goto (tgt := 48) C dX4_countsIn_44 (by decide) ?_
          exact qr_zret C rfl (by decide) (Nat.le_of_ble_eq_true rfl) (Nat.le_of_ble_eq_true rfl) dX4_countsIn_48 (qw_kpn (by simp only [cx_counts, if_pos c1, if_neg c2, if_pos c5, if_pos c6]))
        · skip
          refine qr_iload_n C dX4_countsIn_35 rfl 0 rfl ?_
          refine qr_aload_n C dX4_countsIn_36 rfl 2 rfl ?_
          refine gf_X4_18 C (u) (hu) rfl rfl dX4_countsIn_37 ?_
          refine qr_icmp_ne C 47 dX4_countsIn_40 (by decide) (fun c7 => ?_) (fun c7 => ?_)
          · skip
            refine qr_iconst (v := 0) C dX4_countsIn_47 (by decide) ?_
            exact qr_zret C rfl (by decide) (Nat.le_of_ble_eq_true rfl) (Nat.le_of_ble_eq_true rfl) dX4_countsIn_48 (qw_kpn (by simp only [cx_counts, if_pos c1, if_neg c2, if_pos c5, if_neg c6, if_neg c7]))
          · skip
            refine qr_iconst (v := 1) C dX4_countsIn_43 (by decide) ?_
            refine qr_goto (tgt := 48) C dX4_countsIn_44 (by decide) ?_
            exact qr_zret C rfl (by decide) (Nat.le_of_ble_eq_true rfl) (Nat.le_of_ble_eq_true rfl) dX4_countsIn_48 (qw_kpn (by simp only [cx_counts, if_pos c1, if_neg c2, if_pos c5, if_neg c6, if_pos c7]))
def cx_tab (x1 : Int32) : Int32 := (if x1 < 0 then 1 else (if x1 < (3 : Int32) then 0 else 1))
theorem cx_tab_ok {x : Int32} (h : cx_tab x = 0) : ∃ t, t < 3 ∧ x = nI t := by
  unfold cx_tab at h
  by_cases h1 : x < 0
  · rw [if_pos h1] at h; exact absurd h (by decide)
  · rw [if_neg h1] at h
    by_cases h2 : x < 3
    · exact sg_rng (n := 3) (by decide) (by omega) h1 h2
    · rw [if_neg h2] at h; exact absurd h (by decide)
def qx_tabp (ad : Nat → Nat) (g : qw_G) (x1 : Int32) : Option Value → (Nat → Nat) → qw_G → Prop := fun v' ad' g' => ∃ t, t < 3 ∧ x1 = nI t ∧ cx_tab x1 = 0 ∧ some (.ref (ad (10 + t))) = v' ∧ ad = ad' ∧ g = g'
set_option maxHeartbeats 4000000 in
set_option maxRecDepth 100000 in
theorem k_X6_tableAt {l : Launch} (hst : l.stackTraces = false) (D : va_G) (ad : Nat → Nat) (g : qw_G) (χ : Nat → Nat → Int32) (nS nE : Nat) (hX : qx_P D χ nS nE ad g) (x1 : Int32) : qw_T l yX6_tableAt [Cond.code yX6_tableAt cX6_tableAt 2 (some (.object "Pivotforge$Table"))] { frames := 6, cells := 1, slots := 6, locals := 90 } D ad g [(.ref (ad 0)), (.int x1)] (qx_tabp ad g x1) (qx_p1 (cx_tab x1)) 1 6 := by
  refine qw_T.of (maxL := 2) (own := RX6) (lv := [(0, (.ref (ad 0))), (1, (.int x1))]) hst (by decide) rfl rfl (Nat.le_of_ble_eq_true rfl) ?_
  intro p e s m args below meth c A C hnt
  have hb := (qx_ct hX).2.2
  refine qr_iload_n C dX6_tableAt_0 rfl 1 rfl ?_
  refine qr_if_lt C 9 dX6_tableAt_1 (by decide) (fun c1 => ?_) (fun c1 => ?_)
  · skip
    exact qr_throw1 C hnt (is := 207) (tx := "no such table") (by decide) (⟨rfl, by simp only [cx_tab, if_pos c1]; decide⟩) dX6_tableAt_9 dX6_tableAt_12 dX6_tableAt_13 dX6_tableAt_15 dX6_tableAt_18 (Nat.le_of_ble_eq_true rfl) (Nat.le_of_ble_eq_true rfl) (Nat.le_of_ble_eq_true rfl) (Nat.le_of_ble_eq_true rfl) (Nat.le_of_ble_eq_true rfl) (Nat.le_of_ble_eq_true rfl)
  · skip
    refine qr_iload_n C dX6_tableAt_4 rfl 1 rfl ?_
    refine qr_iconst (v := 3) C dX6_tableAt_5 (by decide) ?_
    refine qr_icmp_lt C 19 dX6_tableAt_6 (by decide) (fun c6 => ?_) (fun c6 => ?_)
    · skip
      obtain ⟨t, ht, hx1⟩ := sg_rng (n := 3) (by decide) (by omega) c1 c6
      refine qr_aload_n C dX6_tableAt_19 rfl 0 rfl ?_
      refine gf_X6_11 C (0) (qx_x hX) rfl rfl dX6_tableAt_20 ?_
      refine qr_iload_n C dX6_tableAt_23 rfl 1 rfl ?_
      refine qr_aald C 3 rfl rfl (1) (qx_ta hX) rfl (j := t) hx1 (by omega) rfl (if_pos (by omega)) dX6_tableAt_24 ?_
      exact qr_aretX C rfl (Nat.le_of_ble_eq_true rfl) (Nat.le_of_ble_eq_true rfl) dX6_tableAt_25 (⟨t, ht, hx1, by simp only [cx_tab, if_neg c1, if_pos c6], rfl, rfl, rfl⟩)
    · skip
      exact qr_throw1 C hnt (is := 207) (tx := "no such table") (by decide) (⟨rfl, by simp only [cx_tab, if_neg c1, if_neg c6]; decide⟩) dX6_tableAt_9 dX6_tableAt_12 dX6_tableAt_13 dX6_tableAt_15 dX6_tableAt_18 (Nat.le_of_ble_eq_true rfl) (Nat.le_of_ble_eq_true rfl) (Nat.le_of_ble_eq_true rfl) (Nat.le_of_ble_eq_true rfl) (Nat.le_of_ble_eq_true rfl) (Nat.le_of_ble_eq_true rfl)
def cx_lev (x0 : Int32) : Int32 := (if x0 < 0 then 1 else (if x0 < (4 : Int32) then 0 else 1))
theorem cx_lev_ok {x : Int32} (h : cx_lev x = 0) : ∃ t, t < 4 ∧ x = nI t := by
  unfold cx_lev at h
  by_cases h1 : x < 0
  · rw [if_pos h1] at h; exact absurd h (by decide)
  · rw [if_neg h1] at h
    by_cases h2 : x < 4
    · exact sg_rng (n := 4) (by decide) (by omega) h1 h2
    · rw [if_neg h2] at h; exact absurd h (by decide)
def qx_levp (ad : Nat → Nat) (g : qw_G) (x0 : Int32) : Option Value → (Nat → Nat) → qw_G → Prop := fun v' ad' g' => ∃ t, t < 4 ∧ x0 = nI t ∧ cx_lev x0 = 0 ∧ none = v' ∧ ad = ad' ∧ g = g'
set_option maxHeartbeats 4000000 in
set_option maxRecDepth 100000 in
theorem k_X6_refuseStrangeLevel {l : Launch} (hst : l.stackTraces = false) (D : va_G) (ad : Nat → Nat) (g : qw_G) (χ : Nat → Nat → Int32) (nS nE : Nat) (hX : qx_P D χ nS nE ad g) (x0 : Int32) : qw_T l yX6_refuseStrangeLevel [Cond.code yX6_refuseStrangeLevel cX6_refuseStrangeLevel 1 none] { frames := 6, cells := 1, slots := 6, locals := 90 } D ad g [(.int x0)] (qx_levp ad g x0) (qx_p1 (cx_lev x0)) 1 6 := by
  refine qw_T.of (maxL := 1) (own := RX6) (lv := [(0, (.int x0))]) hst (by decide) rfl rfl (Nat.le_of_ble_eq_true rfl) ?_
  intro p e s m args below meth c A C hnt
  have hb := (qx_ct hX).2.2
  refine qr_iload_n C dX6_refuseStrangeLevel_0 rfl 0 rfl ?_
  refine qr_if_lt C 9 dX6_refuseStrangeLevel_1 (by decide) (fun c1 => ?_) (fun c1 => ?_)
  · skip
    exact qr_throw1 C hnt (is := 213) (tx := "no such level") (by decide) (⟨rfl, by simp only [cx_lev, if_pos c1]; decide⟩) dX6_refuseStrangeLevel_9 dX6_refuseStrangeLevel_12 dX6_refuseStrangeLevel_13 dX6_refuseStrangeLevel_15 dX6_refuseStrangeLevel_18 (Nat.le_of_ble_eq_true rfl) (Nat.le_of_ble_eq_true rfl) (Nat.le_of_ble_eq_true rfl) (Nat.le_of_ble_eq_true rfl) (Nat.le_of_ble_eq_true rfl) (Nat.le_of_ble_eq_true rfl)
  · skip
    refine qr_iload_n C dX6_refuseStrangeLevel_4 rfl 0 rfl ?_
    refine qr_iconst (v := 4) C dX6_refuseStrangeLevel_5 (by decide) ?_
    refine qr_icmp_lt C 19 dX6_refuseStrangeLevel_6 (by decide) (fun c6 => ?_) (fun c6 => ?_)
    · skip
      obtain ⟨t, ht, hx0⟩ := sg_rng (n := 4) (by decide) (by omega) c1 c6
      exact qr_vretX C rfl (Nat.le_of_ble_eq_true rfl) (Nat.le_of_ble_eq_true rfl) dX6_refuseStrangeLevel_19 (⟨t, ht, hx0, by simp only [cx_lev, if_neg c1, if_pos c6], rfl, rfl, rfl⟩)
    · skip
      exact qr_throw1 C hnt (is := 213) (tx := "no such level") (by decide) (⟨rfl, by simp only [cx_lev, if_neg c1, if_neg c6]; decide⟩) dX6_refuseStrangeLevel_9 dX6_refuseStrangeLevel_12 dX6_refuseStrangeLevel_13 dX6_refuseStrangeLevel_15 dX6_refuseStrangeLevel_18 (Nat.le_of_ble_eq_true rfl) (Nat.le_of_ble_eq_true rfl) (Nat.le_of_ble_eq_true rfl) (Nat.le_of_ble_eq_true rfl) (Nat.le_of_ble_eq_true rfl) (Nat.le_of_ble_eq_true rfl)
def cx_eat (x0 x1 : Int32) : Int32 := (if x0 < 0 then 1 else (if (5 : Int32) ≤ x0 then 1 else (if x1 < 0 then 1 else (if x1 < (6 : Int32) then 0 else 1))))
def qx_eatp (ad : Nat → Nat) (g : qw_G) (x0 x1 : Int32) : Option Value → (Nat → Nat) → qw_G → Prop := fun v' ad' g' => ∃ a b, a < 5 ∧ b < 6 ∧ x0 = nI a ∧ x1 = nI b ∧ cx_eat x0 x1 = 0 ∧ some (.int (nI (a * 6 + b))) = v' ∧ ad = ad' ∧ g = g'
theorem sg_rc {x y : Int32} {a b : Nat} (h : x = nI a) (h2 : y = nI b) : x * 6 + y = nI (a * 6 + b) := by rw [h, h2, show (6 : Int32) = nI 6 from rfl, pk_mul, nI_add]
theorem sg_lt5 {x : Int32} (h : ¬ (5 : Int32) ≤ x) : x < 5 := by rw [Int32.le_iff_toInt_le] at h; rw [Int32.lt_iff_toInt_lt]; omega
set_option maxHeartbeats 4000000 in
set_option maxRecDepth 100000 in
theorem k_X6_entryAt {l : Launch} (hst : l.stackTraces = false) (D : va_G) (ad : Nat → Nat) (g : qw_G) (χ : Nat → Nat → Int32) (nS nE : Nat) (hX : qx_P D χ nS nE ad g) (x0 x1 : Int32) : qw_T l yX6_entryAt [Cond.code yX6_entryAt cX6_entryAt 2 (some .int)] { frames := 6, cells := 1, slots := 6, locals := 90 } D ad g [(.int x0), (.int x1)] (qx_eatp ad g x0 x1) (qx_p1 (cx_eat x0 x1)) 1 6 := by
  refine qw_T.of (maxL := 2) (own := RX6) (lv := [(0, (.int x0)), (1, (.int x1))]) hst (by decide) rfl rfl (Nat.le_of_ble_eq_true rfl) ?_
  intro p e s m args below meth c A C hnt
  have hb := (qx_ct hX).2.2
  refine qr_iload_n C dX6_entryAt_0 rfl 0 rfl ?_
  refine qr_if_lt C 19 dX6_entryAt_1 (by decide) (fun c1 => ?_) (fun c1 => ?_)
  · skip
    exact qr_throw1 C hnt (is := 215) (tx := "no such entry") (by decide) (⟨rfl, by simp only [cx_eat, if_pos c1]; decide⟩) dX6_entryAt_19 dX6_entryAt_22 dX6_entryAt_23 dX6_entryAt_25 dX6_entryAt_28 (Nat.le_of_ble_eq_true rfl) (Nat.le_of_ble_eq_true rfl) (Nat.le_of_ble_eq_true rfl) (Nat.le_of_ble_eq_true rfl) (Nat.le_of_ble_eq_true rfl) (Nat.le_of_ble_eq_true rfl)
  · skip
    refine qr_iload_n C dX6_entryAt_4 rfl 0 rfl ?_
    refine qr_iconst (v := 5) C dX6_entryAt_5 (by decide) ?_
    refine qr_icmp_ge C 19 dX6_entryAt_6 (by decide) (fun c6 => ?_) (fun c6 => ?_)
    · skip
      exact qr_throw1 C hnt (is := 215) (tx := "no such entry") (by decide) (⟨rfl, by simp only [cx_eat, if_neg c1, if_pos c6]; decide⟩) dX6_entryAt_19 dX6_entryAt_22 dX6_entryAt_23 dX6_entryAt_25 dX6_entryAt_28 (Nat.le_of_ble_eq_true rfl) (Nat.le_of_ble_eq_true rfl) (Nat.le_of_ble_eq_true rfl) (Nat.le_of_ble_eq_true rfl) (Nat.le_of_ble_eq_true rfl) (Nat.le_of_ble_eq_true rfl)
    · skip
      obtain ⟨a, ha, hx0⟩ := sg_rng (n := 5) (by decide) (by omega) c1 (sg_lt5 c6)
      refine qr_iload_n C dX6_entryAt_9 rfl 1 rfl ?_
      refine qr_if_lt C 19 dX6_entryAt_10 (by decide) (fun c10 => ?_) (fun c10 => ?_)
      · skip
        exact qr_throw1 C hnt (is := 215) (tx := "no such entry") (by decide) (⟨rfl, by simp only [cx_eat, if_neg c1, if_neg c6, if_pos c10]; decide⟩) dX6_entryAt_19 dX6_entryAt_22 dX6_entryAt_23 dX6_entryAt_25 dX6_entryAt_28 (Nat.le_of_ble_eq_true rfl) (Nat.le_of_ble_eq_true rfl) (Nat.le_of_ble_eq_true rfl) (Nat.le_of_ble_eq_true rfl) (Nat.le_of_ble_eq_true rfl) (Nat.le_of_ble_eq_true rfl)
      · skip
        refine qr_iload_n C dX6_entryAt_13 rfl 1 rfl ?_
        refine qr_bipush (v := 6) C dX6_entryAt_14 (by decide) ?_
        refine qr_icmp_lt C 29 dX6_entryAt_16 (by decide) (fun c16 => ?_) (fun c16 => ?_)
        · skip
          obtain ⟨b, hb2, hx1⟩ := sg_rng (n := 6) (by decide) (by omega) c10 c16
          refine qr_iload_n C dX6_entryAt_29 rfl 0 rfl ?_
          refine qr_bipush (v := 6) C dX6_entryAt_30 (by decide) ?_
          refine qr_imul C dX6_entryAt_32 ?_
          refine qr_iload_n C dX6_entryAt_33 rfl 1 rfl ?_
          refine qr_iadd C dX6_entryAt_34 ?_
          exact qr_iretX C rfl (Nat.le_of_ble_eq_true rfl) (Nat.le_of_ble_eq_true rfl) dX6_entryAt_35 (⟨a, b, ha, hb2, hx0, hx1, by simp only [cx_eat, if_neg c1, if_neg c6, if_neg c10, if_pos c16], sg_vi (sg_rc hx0 hx1).symm, rfl, rfl⟩)
        · skip
          exact qr_throw1 C hnt (is := 215) (tx := "no such entry") (by decide) (⟨rfl, by simp only [cx_eat, if_neg c1, if_neg c6, if_neg c10, if_neg c16]; decide⟩) dX6_entryAt_19 dX6_entryAt_22 dX6_entryAt_23 dX6_entryAt_25 dX6_entryAt_28 (Nat.le_of_ble_eq_true rfl) (Nat.le_of_ble_eq_true rfl) (Nat.le_of_ble_eq_true rfl) (Nat.le_of_ble_eq_true rfl) (Nat.le_of_ble_eq_true rfl) (Nat.le_of_ble_eq_true rfl)
