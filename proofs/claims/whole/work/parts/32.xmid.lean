/-! the class: where a report and an entry lie; drops; entering; what is embargoed -/
def cx_rep (x1 x2 : Int32) : Int32 := (if cx_tab x1 = 0 then (if cx_lev x2 = 0 then 0 else 1) else 1)
def qx_repp (ad : Nat → Nat) (g : qw_G) (x1 x2 : Int32) : Option Value → (Nat → Nat) → qw_G → Prop := fun v' ad' g' => ∃ t v, t < 3 ∧ v < 4 ∧ x1 = nI t ∧ x2 = nI v ∧ cx_rep x1 x2 = 0 ∧ some (.ref (ad (20 + (4 * t + v)))) = v' ∧ ad = ad' ∧ g = g'
set_option maxHeartbeats 4000000 in
set_option maxRecDepth 100000 in
theorem k_X6_reportAt {l : Launch} (hst : l.stackTraces = false) (D : va_G) (ad : Nat → Nat) (g : qw_G) (χ : Nat → Nat → Int32) (nS nE : Nat) (hX : qx_P D χ nS nE ad g) (x1 x2 : Int32) : qw_T l yX6_reportAt [Cond.code yX6_reportAt cX6_reportAt 4 (some (.object "Pivotforge$Report"))] { frames := 7, cells := 2, slots := 12, locals := 120 } D ad g [(.ref (ad 0)), (.int x1), (.int x2)] (qx_repp ad g x1 x2) (qx_p1 (cx_rep x1 x2)) 2 12 := by
  refine qw_T.of (maxL := 4) (own := RX6) (lv := [(0, (.ref (ad 0))), (1, (.int x1)), (2, (.int x2))]) hst (by decide) rfl rfl (Nat.le_of_ble_eq_true rfl) ?_
  intro p e s m args below meth c A C hnt
  have hb := (qx_ct hX).2.2
  refine qr_aload_n C dX6_reportAt_0 rfl 0 rfl ?_
  refine qr_iload_n C dX6_reportAt_1 rfl 1 rfl ?_
  refine qr_callVX C (na := 1) (As := [(.int x1)]) (rest := []) (k_X6_tableAt hst D ad g χ nS nE hX x1) (0) (qx_x hX) rfl rfl gi_X6_35 rfl ⟨by decide, by decide, by decide +kernel⟩ rfl rfl (Nat.le_of_ble_eq_true rfl) rfl rfl ⟨Nat.le_of_ble_eq_true rfl, Nat.le_of_ble_eq_true rfl⟩ ⟨Nat.le_of_ble_eq_true rfl, Nat.le_of_ble_eq_true rfl⟩ dX6_reportAt_2 (fun E hE => by obtain ⟨rfl, hc⟩ := hE; exact qr_out C hnt (⟨rfl, by simp only [cx_rep, if_neg hc]; decide⟩) (Nat.le_of_ble_eq_true rfl) (Nat.le_of_ble_eq_true rfl)) (fun v ad2 gc1 hpo2 => ?_)
  obtain ⟨t, ht, htx, hc2, rfl, rfl, rfl⟩ := hpo2
  have htxc : x1.toNatClampNeg = t := by rw [htx, nI_clamp (by omega)]
  refine qr_astore_n (lv' := [(3, (.ref (ad (10 + t)))), (0, (.ref (ad 0))), (1, (.int x1)), (2, (.int x2))]) C dX6_reportAt_5 rfl (by decide) rfl ?_
  refine qr_iload_n C dX6_reportAt_6 rfl 3 rfl ?_
  refine qr_callSX C (na := 1) (As := [(.int x2)]) (rest := []) (k_X6_refuseStrangeLevel hst D ad g χ nS nE hX x2) gi_X6_139 ⟨by decide, by decide, by decide +kernel⟩ rfl rfl (Nat.le_of_ble_eq_true rfl) rfl rfl ⟨Nat.le_of_ble_eq_true rfl, Nat.le_of_ble_eq_true rfl⟩ ⟨Nat.le_of_ble_eq_true rfl, Nat.le_of_ble_eq_true rfl⟩ dX6_reportAt_7 (fun E hE => by obtain ⟨rfl, hc⟩ := hE; exact qr_out C hnt (⟨rfl, by simp only [cx_rep, if_pos hc2, htxc, if_neg hc]; decide⟩) (Nat.le_of_ble_eq_true rfl) (Nat.le_of_ble_eq_true rfl)) (fun v ad2 gc3 hpo4 => ?_)
  obtain ⟨v0, hv0, hv0x, hc7, rfl, rfl, rfl⟩ := hpo4
  refine qr_aload_n C dX6_reportAt_10 rfl 0 rfl ?_
  refine gf_X6_209 C ((10 + t)) (qx_tb hX t (by omega)) rfl rfl dX6_reportAt_11 ?_
  refine qr_iload_n C dX6_reportAt_14 rfl 3 rfl ?_
  refine qr_aald C 6 rfl rfl ((16 + t)) (qx_ra hX t (by omega)) rfl (j := v0) hv0x (by omega) rfl (if_pos (by omega)) dX6_reportAt_15 ?_
  exact qr_aretX C rfl (Nat.le_of_ble_eq_true rfl) (Nat.le_of_ble_eq_true rfl) dX6_reportAt_16 (⟨t, v0, ht, hv0, htx, hv0x, by simp only [cx_rep, if_pos hc2, htxc, if_pos hc7], rfl, rfl, rfl⟩)
def cx_ent (χ : Nat → Nat → Int32) (x1 x2 x3 : Int32) : Int32 := (if cx_tab x1 = 0 then (if (χ 5 (x1.toNatClampNeg)) = 0 then (if cx_eat x2 x3 = 0 then 0 else 1) else (if cx_eat x3 x2 = 0 then 0 else 1)) else 1)
def cx_entv (χ : Nat → Nat → Int32) (x1 x2 x3 : Int32) : Int32 := if χ 5 x1.toNatClampNeg = 0 then x2 * 6 + x3 else x3 * 6 + x2
def qx_entp (χ : Nat → Nat → Int32) (ad : Nat → Nat) (g : qw_G) (x1 x2 x3 : Int32) : Option Value → (Nat → Nat) → qw_G → Prop := fun v' ad' g' => ∃ t a b, t < 3 ∧ a < 5 ∧ b < 6 ∧ x1 = nI t ∧ cx_entv χ x1 x2 x3 = nI (a * 6 + b) ∧ cx_ent χ x1 x2 x3 = 0 ∧ some (.int (nI (a * 6 + b))) = v' ∧ ad = ad' ∧ g = g'
set_option maxHeartbeats 4000000 in
set_option maxRecDepth 100000 in
theorem k_X6_entryOfTable {l : Launch} (hst : l.stackTraces = false) (D : va_G) (ad : Nat → Nat) (g : qw_G) (χ : Nat → Nat → Int32) (nS nE : Nat) (hX : qx_P D χ nS nE ad g) (x1 x2 x3 : Int32) : qw_T l yX6_entryOfTable [Cond.code yX6_entryOfTable cX6_entryOfTable 4 (some .int)] { frames := 7, cells := 2, slots := 12, locals := 120 } D ad g [(.ref (ad 0)), (.int x1), (.int x2), (.int x3)] (qx_entp χ ad g x1 x2 x3) (qx_p1 (cx_ent χ x1 x2 x3)) 2 12 := by
  refine qw_T.of (maxL := 4) (own := RX6) (lv := [(0, (.ref (ad 0))), (1, (.int x1)), (2, (.int x2)), (3, (.int x3))]) hst (by decide) rfl rfl (Nat.le_of_ble_eq_true rfl) ?_
  intro p e s m args below meth c A C hnt
  have hb := (qx_ct hX).2.2
  refine qr_aload_n C dX6_entryOfTable_0 rfl 0 rfl ?_
  refine qr_iload_n C dX6_entryOfTable_1 rfl 1 rfl ?_
  refine qr_callVX C (na := 1) (As := [(.int x1)]) (rest := []) (k_X6_tableAt hst D ad g χ nS nE hX x1) (0) (qx_x hX) rfl rfl gi_X6_35 rfl ⟨by decide, by decide, by decide +kernel⟩ rfl rfl (Nat.le_of_ble_eq_true rfl) rfl rfl ⟨Nat.le_of_ble_eq_true rfl, Nat.le_of_ble_eq_true rfl⟩ ⟨Nat.le_of_ble_eq_true rfl, Nat.le_of_ble_eq_true rfl⟩ dX6_entryOfTable_2 (fun E hE => by obtain ⟨rfl, hc⟩ := hE; exact qr_out C hnt (⟨rfl, by simp only [cx_ent, if_neg hc]; decide⟩) (Nat.le_of_ble_eq_true rfl) (Nat.le_of_ble_eq_true rfl)) (fun v ad2 gc1 hpo2 => ?_)
  obtain ⟨t, ht, htx, hc2, rfl, rfl, rfl⟩ := hpo2
  have htxc : x1.toNatClampNeg = t := by rw [htx, nI_clamp (by omega)]
  refine gf_X6_94 C ((10 + t)) (qx_tb hX t (by omega)) rfl rfl dX6_entryOfTable_5 ?_
  refine qr_if_eq C 19 dX6_entryOfTable_8 (by decide) (fun c8 => ?_) (fun c8 => ?_)
  · skip
    refine qr_iload_n C dX6_entryOfTable_19 rfl 2 rfl ?_
    refine qr_iload_n C dX6_entryOfTable_20 rfl 3 rfl ?_
    refine qr_callSX C (na := 2) (As := [(.int x2), (.int x3)]) (rest := []) (k_X6_entryAt hst D ad g χ nS nE hX x2 x3) gi_X6_195 ⟨by decide, by decide, by decide +kernel⟩ rfl rfl (Nat.le_of_ble_eq_true rfl) rfl rfl ⟨Nat.le_of_ble_eq_true rfl, Nat.le_of_ble_eq_true rfl⟩ ⟨Nat.le_of_ble_eq_true rfl, Nat.le_of_ble_eq_true rfl⟩ dX6_entryOfTable_21 (fun E hE => by obtain ⟨rfl, hc⟩ := hE; exact qr_out C hnt (⟨rfl, by simp only [cx_ent, if_pos hc2, htxc, if_pos c8, if_neg hc]; decide⟩) (Nat.le_of_ble_eq_true rfl) (Nat.le_of_ble_eq_true rfl)) (fun v ad2 gc3 hpo4 => ?_)
    obtain ⟨a0, b0, ha0, hb0, ha0x, hb0x, hc21, rfl, rfl, rfl⟩ := hpo4
    exact qr_iretX C rfl (Nat.le_of_ble_eq_true rfl) (Nat.le_of_ble_eq_true rfl) dX6_entryOfTable_24 (⟨t, a0, b0, ht, ha0, hb0, htx, by unfold cx_entv; rw [htxc]; exact (if_pos c8).trans (sg_rc ha0x hb0x), by simp only [cx_ent, if_pos hc2, htxc, if_pos c8, if_pos hc21], rfl, rfl, rfl⟩)
  · skip
    refine qr_iload_n C dX6_entryOfTable_11 rfl 3 rfl ?_
    refine qr_iload_n C dX6_entryOfTable_12 rfl 2 rfl ?_
    refine qr_callSX C (na := 2) (As := [(.int x3), (.int x2)]) (rest := []) (k_X6_entryAt hst D ad g χ nS nE hX x3 x2) gi_X6_195 ⟨by decide, by decide, by decide +kernel⟩ rfl rfl (Nat.le_of_ble_eq_true rfl) rfl rfl ⟨Nat.le_of_ble_eq_true rfl, Nat.le_of_ble_eq_true rfl⟩ ⟨Nat.le_of_ble_eq_true rfl, Nat.le_of_ble_eq_true rfl⟩ dX6_entryOfTable_13 (fun E hE => by obtain ⟨rfl, hc⟩ := hE; exact qr_out C hnt (⟨rfl, by simp only [cx_ent, if_pos hc2, htxc, if_neg c8, if_neg hc]; decide⟩) (Nat.le_of_ble_eq_true rfl) (Nat.le_of_ble_eq_true rfl)) (fun v ad2 gc5 hpo6 => ?_)
    obtain ⟨a0, b0, ha0, hb0, ha0x, hb0x, hc13, rfl, rfl, rfl⟩ := hpo6
    refine qr_goto (tgt := 24) C dX6_entryOfTable_16 (by decide) ?_
    exact qr_iretX C rfl (Nat.le_of_ble_eq_true rfl) (Nat.le_of_ble_eq_true rfl) dX6_entryOfTable_24 (⟨t, a0, b0, ht, ha0, hb0, htx, by unfold cx_entv; rw [htxc]; exact (if_neg c8).trans (sg_rc ha0x hb0x), by simp only [cx_ent, if_pos hc2, htxc, if_neg c8, if_pos hc13], rfl, rfl, rfl⟩)
def cx_dstep (t k : Nat) (s : (Nat → Int32) × Int32) : (Nat → Int32) × Int32 := if s.1 (4 * t + k) = 0 then s else (upd s.1 (4 * t + k) 0, s.2 + 1)
def cx_drop (t : Nat) (B : Nat → Int32) (d : Int32) (L : Nat) : (Nat → Int32) × Int32 := sg_it (cx_dstep t) (B, d) L
def cx_dS (χ : Nat → Nat → Int32) (s : (Nat → Int32) × Int32) : Nat → Nat → Int32 := sg_u (va_up χ 7 s.1) 3 s.2
def cx_dropS (χ : Nat → Nat → Int32) (t L : Nat) : Nat → Nat → Int32 := cx_dS χ (cx_drop t (χ 7) (χ 3 0) L)
theorem cx_dS2 (χ : Nat → Nat → Int32) (s : (Nat → Int32) × Int32) (B : Nat → Int32) (d : Int32) : sg_u (va_up (cx_dS χ s) 7 B) 3 d = cx_dS χ (B, d) := by
  funext k
  unfold cx_dS sg_u
  by_cases h3 : k = 3
  · subst h3; rw [va_up_self, va_up_self]
  · rw [va_up_ne _ _ h3, va_up_ne _ _ h3]
    by_cases h7 : k = 7
    · subst h7; rw [va_up_self, va_up_self]
    · rw [va_up_ne _ _ h7, va_up_ne _ _ h7, va_up_ne _ _ h3, va_up_ne _ _ h7]
theorem cx_dS0 (χ : Nat → Nat → Int32) {D : va_G} {nS nE : Nat} {ad : Nat → Nat} {g : qw_G} (h : qx_P D χ nS nE ad g) : qx_P D (cx_dS χ (χ 7, χ 3 0)) nS nE ad g := qx_ext h (fun k hk => by
  unfold cx_dS sg_u
  rw [va_up_ne _ _ hk]
  by_cases h7 : k = 7
  · subst h7; exact va_up_self _ _ _
  · exact va_up_ne _ _ h7) rfl
set_option maxHeartbeats 4000000 in
set_option maxRecDepth 100000 in
theorem k_X6_dropBelow {l : Launch} (hst : l.stackTraces = false) (D : va_G) (ad : Nat → Nat) (g : qw_G) (χ : Nat → Nat → Int32) (nS nE : Nat) (hX : qx_P D χ nS nE ad g) (t L : Nat) (ht : t < 3) (hL : L < 5) (x2 : Int32) (hx2 : x2 = nI L) : qw_M l yX6_dropBelow [Cond.code yX6_dropBelow cX6_dropBelow 4 none] { frames := 0, cells := 0, slots := 0, locals := 0 } D ad g [(.ref (ad 0)), (.ref (ad (10 + t))), (.int x2)] (qx_to D ad g nS nE none (cx_dropS χ t L)) 0 0 := by
  refine qw_M.of (maxL := 4) (own := RX6) (lv := [(0, (.ref (ad 0))), (1, (.ref (ad (10 + t)))), (2, (.int x2))]) hst (by decide) rfl rfl (Nat.le_of_ble_eq_true rfl) ?_
  intro p e s m args below meth c A C hin
  have hb := (qx_ct hX).2.2
  refine qr_iconst (v := 0) C dX6_dropBelow_0 (by decide) ?_
  refine qr_istore_n (lv' := [(3, (.int (0 : Int32))), (0, (.ref (ad 0))), (1, (.ref (ad (10 + t)))), (2, (.int x2))]) C dX6_dropBelow_1 rfl (by decide) rfl ?_
  have L2 : ∀ (j2 i2 : Nat) (gl2 : qw_G) , i2 + j2 = L → (qx_P D (cx_dS χ (cx_drop t (χ 7) (χ 3 0) i2)) nS nE ad gl2 ∧ ∀ t, (100 ≤ t ∧ t < 1000) → gl2 t = g t) → qw_W p l e { frames := 0, cells := 0, slots := 0, locals := 0 } s m args below meth c D A 4 (MQ below (qw_Q (qx_to D ad g nS nE none (cx_dropS χ t L)) D A) args s 0 0 A) 0 0 ad gl2 2 [(0, (.ref (ad 0))), (1, (.ref (ad (10 + t)))), (2, (.int x2)), (3, (.int (nI i2)))] [] := by
    intro j2
    induction j2 with
    | zero =>
      intro i2 gl2  hi2  hw2
      obtain rfl : L = i2 := by omega
      obtain ⟨hX2, hfr2⟩ := hw2
      refine qr_iload_n C dX6_dropBelow_2 rfl 3 rfl ?_
      refine qr_iload_n C dX6_dropBelow_3 rfl 2 rfl ?_
      refine qr_icmp_ge_t C 45 dX6_dropBelow_4 (by decide) ((sg_le (L) (L) hx2 rfl (by omega) (by omega)).mpr (Nat.le_refl _)) ?_
      exact qr_vret C rfl (Nat.le_of_ble_eq_true rfl) (Nat.le_of_ble_eq_true rfl) dX6_dropBelow_45 (⟨rfl, rfl, hX2, fun t1 ht1 => ((hfr2 t1 ht1).trans rfl)⟩)
    | succ j2 ih2 =>
      intro i2 gl2  hi2  hw2
      obtain ⟨hX2, hfr2⟩ := hw2
      refine qr_iload_n C dX6_dropBelow_2 rfl 3 rfl ?_
      refine qr_iload_n C dX6_dropBelow_3 rfl 2 rfl ?_
      refine qr_icmp_ge_f C 45 dX6_dropBelow_4 (by decide) (fun z => absurd ((sg_le (L) (i2) hx2 rfl (by omega) (by omega)).mp z) (by omega)) ?_
      refine qr_aload_n C dX6_dropBelow_7 rfl 1 rfl ?_
      refine gf_X6_209 C ((10 + t)) (qx_tb hX2 t (by omega)) rfl rfl dX6_dropBelow_8 ?_
      refine qr_iload_n C dX6_dropBelow_11 rfl 3 rfl ?_
      refine qr_aald C 6 rfl rfl ((16 + t)) (qx_ra hX2 t (by omega)) rfl (j := i2) rfl (by omega) rfl (if_pos (by omega)) dX6_dropBelow_12 ?_
      refine gf_X6_180 C ((20 + (4 * t + i2))) (qx_rp hX2 (4 * t + i2) (by omega)) rfl rfl dX6_dropBelow_13 ?_
      refine qr_if_eq C 39 dX6_dropBelow_16 (by decide) (fun c16 => ?_) (fun c16 => ?_)
      · skip
        refine qr_iinc (v := (nI (i2 + 1))) (lv' := [(3, (.int (nI (i2 + 1)))), (0, (.ref (ad 0))), (1, (.ref (ad (10 + t)))), (2, (.int x2))]) C dX6_dropBelow_39 (w := 3) rfl (nI_1 _) (by decide) rfl ?_
        refine qr_goto (tgt := 2) C dX6_dropBelow_42 (by decide) ?_
        refine qw_pick [1, 2, 3, 0] (lv' := [(0, (.ref (ad 0))), (1, (.ref (ad (10 + t)))), (2, (.int x2)), (3, (.int (nI (i2 + 1))))]) rfl ?_
        exact ih2 (i2 + 1) gl2  (by omega) ⟨(by rw [show (cx_drop t (χ 7) (χ 3 0) (i2 + 1)) = (cx_drop t (χ 7) (χ 3 0) i2) from if_pos c16]; exact hX2), fun t1 ht1 => ((hfr2 t1 ht1).trans rfl)⟩
      · skip
        refine qr_aload_n C dX6_dropBelow_19 rfl 1 rfl ?_
        refine gf_X6_209 C ((10 + t)) (qx_tb hX2 t (by omega)) rfl rfl dX6_dropBelow_20 ?_
        refine qr_iload_n C dX6_dropBelow_23 rfl 3 rfl ?_
        refine qr_aald C 6 rfl rfl ((16 + t)) (qx_ra hX2 t (by omega)) rfl (j := i2) rfl (by omega) rfl (if_pos (by omega)) dX6_dropBelow_24 ?_
        refine qr_iconst (v := 0) C dX6_dropBelow_25 (by decide) ?_
        refine pf_X6_180 C ((20 + (4 * t + i2))) (qx_rp hX2 (4 * t + i2) (by omega)) rfl (qw_b01 (Or.inl rfl)).2.1 (qw_b01 (Or.inl rfl)).2.2 (Nat.le_of_ble_eq_true rfl) rfl dX6_dropBelow_26 ?_
        generalize hg2 : va_up gl2 ((20 + (4 * t + i2))) _ = g1
        have hX3 : qx_P D (va_up (cx_dS χ (cx_drop t (χ 7) (χ 3 0) i2)) 7 (upd ((cx_dS χ (cx_drop t (χ 7) (χ 3 0) i2)) 7) (4 * t + i2) (0 : Int32))) nS nE ad g1 := by rw [← hg2]; exact qx_w_blt hX2 (4 * t + i2) (by omega) (0 : Int32)
        refine qr_aload_n C dX6_dropBelow_29 rfl 0 rfl ?_
        refine qr_dup C dX6_dropBelow_30 rfl ?_
        refine gf_X6_153 C (0) (qx_x hX3) rfl rfl dX6_dropBelow_31 ?_
        refine qr_iconst (v := 1) C dX6_dropBelow_34 (by decide) ?_
        refine qr_iadd C dX6_dropBelow_35 ?_
        refine pf_X6_153 C (0) (qx_x hX3) rfl rfl rfl (Nat.le_of_ble_eq_true rfl) rfl dX6_dropBelow_36 ?_
        generalize hg5 : va_up g1 (0) _ = g4
        have hX6 : qx_P D (sg_u (va_up (cx_dS χ (cx_drop t (χ 7) (χ 3 0) i2)) 7 (upd ((cx_dS χ (cx_drop t (χ 7) (χ 3 0) i2)) 7) (4 * t + i2) (0 : Int32))) 3 (((va_up (cx_dS χ (cx_drop t (χ 7) (χ 3 0) i2)) 7 (upd ((cx_dS χ (cx_drop t (χ 7) (χ 3 0) i2)) 7) (4 * t + i2) (0 : Int32))) 3 0) + (1 : Int32))) nS nE ad g4 := by rw [← hg5]; exact qx_w_drp hX3 (((va_up (cx_dS χ (cx_drop t (χ 7) (χ 3 0) i2)) 7 (upd ((cx_dS χ (cx_drop t (χ 7) (χ 3 0) i2)) 7) (4 * t + i2) (0 : Int32))) 3 0) + (1 : Int32))
        refine qr_iinc (v := (nI (i2 + 1))) (lv' := [(3, (.int (nI (i2 + 1)))), (0, (.ref (ad 0))), (1, (.ref (ad (10 + t)))), (2, (.int x2))]) C dX6_dropBelow_39 (w := 3) rfl (nI_1 _) (by decide) rfl ?_
        refine qr_goto (tgt := 2) C dX6_dropBelow_42 (by decide) ?_
        refine qw_pick [1, 2, 3, 0] (lv' := [(0, (.ref (ad 0))), (1, (.ref (ad (10 + t)))), (2, (.int x2)), (3, (.int (nI (i2 + 1))))]) rfl ?_
        exact ih2 (i2 + 1) g4  (by omega) ⟨(by rw [show (cx_drop t (χ 7) (χ 3 0) (i2 + 1)) = _ from if_neg c16]; have h9 := hX6; rw [cx_dS2] at h9; exact h9), fun t1 ht1 => ((congrFun hg5 t1).symm.trans ((va_up_ne _ _ (by omega)).trans ((congrFun hg2 t1).symm.trans ((va_up_ne _ _ (by omega)).trans ((hfr2 t1 ht1).trans rfl)))))⟩
  refine qw_pick [1, 2, 3, 0] (lv' := [(0, (.ref (ad 0))), (1, (.ref (ad (10 + t)))), (2, (.int x2)), (3, (.int (0 : Int32)))]) rfl ?_
  exact L2 (L) 0 g  (by omega) ⟨cx_dS0 χ hX, fun _ _ => rfl⟩
def cx_add (F : Nat → Int32) (j : Nat) (a : Int32) : Nat → Int32 := upd F j (F j + a)
def cx_enter (F : Nat → Int32) (p q : Nat) (a : Int32) : Nat → Int32 := cx_add (cx_add (cx_add (cx_add F (p * 6 + q) a) (p * 6 + 5) a) (24 + q) a) 29 a
set_option maxHeartbeats 4000000 in
set_option maxRecDepth 100000 in
theorem k_X5_enter {l : Launch} (hst : l.stackTraces = false) (D : va_G) (ad : Nat → Nat) (g : qw_G) (χ : Nat → Nat → Int32) (nS nE : Nat) (hX : qx_P D χ nS nE ad g) (t pp qq : Nat) (ht : t < 3) (hp : pp < 4) (hq : qq < 5) (x1 x2 x3 : Int32) (hx1 : x1 = nI pp) (hx2 : x2 = nI qq) : qw_M l yX5_enter [Cond.code yX5_enter cX5_enter 4 none] { frames := 0, cells := 0, slots := 0, locals := 0 } D ad g [(.ref (ad (10 + t))), (.int x1), (.int x2), (.int x3)] (qx_to D ad g nS nE none (va_up χ (10 + t) (cx_enter (χ (10 + t)) pp qq x3))) 0 0 := by
  refine qw_M.of (maxL := 4) (own := RX5) (lv := [(0, (.ref (ad (10 + t)))), (1, (.int x1)), (2, (.int x2)), (3, (.int x3))]) hst (by decide) rfl rfl (Nat.le_of_ble_eq_true rfl) ?_
  intro p e s m args below meth c A C hin
  have hb := (qx_ct hX).2.2
  refine qr_aload_n C dX5_enter_0 rfl 0 rfl ?_
  refine gf_X5_9 C ((10 + t)) (qx_tb hX t (by omega)) rfl rfl dX5_enter_1 ?_
  refine qr_iload_n C dX5_enter_4 rfl 1 rfl ?_
  refine qr_bipush (v := 6) C dX5_enter_5 (by decide) ?_
  refine qr_imul C dX5_enter_7 ?_
  refine qr_iload_n C dX5_enter_8 rfl 2 rfl ?_
  refine qr_iadd C dX5_enter_9 ?_
  refine qr_dup2 C dX5_enter_10 rfl rfl ?_
  refine qr_iald C (x := ((χ (10 + t)) ((pp * 6 + qq)))) ((13 + t)) (qx_su hX t (by omega)) rfl (j := (pp * 6 + qq)) (sg_rc hx1 hx2) (by omega) rfl rfl dX5_enter_11 ?_
  refine qr_iload_n C dX5_enter_12 rfl 3 rfl ?_
  refine qr_iadd C dX5_enter_13 ?_
  refine qr_iast C ((13 + t)) (qx_su hX t (by omega)) rfl (j := (pp * 6 + qq)) (sg_rc hx1 hx2) (by omega) rfl dX5_enter_14 ?_
  generalize hg2 : va_up g ((13 + t)) _ = g1
  have hX3 : qx_P D (va_up χ (10 + t) (upd (χ (10 + t)) ((pp * 6 + qq)) (((χ (10 + t)) ((pp * 6 + qq))) + x3))) nS nE ad g1 := by rw [← hg2]; exact qx_w_sum hX t (by omega) (upd (χ (10 + t)) ((pp * 6 + qq)) (((χ (10 + t)) ((pp * 6 + qq))) + x3))
  refine qr_aload_n C dX5_enter_15 rfl 0 rfl ?_
  refine gf_X5_9 C ((10 + t)) (qx_tb hX3 t (by omega)) rfl rfl dX5_enter_16 ?_
  refine qr_iload_n C dX5_enter_19 rfl 1 rfl ?_
  refine qr_bipush (v := 6) C dX5_enter_20 (by decide) ?_
  refine qr_imul C dX5_enter_22 ?_
  refine qr_iconst (v := 5) C dX5_enter_23 (by decide) ?_
  refine qr_iadd C dX5_enter_24 ?_
  refine qr_dup2 C dX5_enter_25 rfl rfl ?_
  refine qr_iald C (x := (((va_up χ (10 + t) (upd (χ (10 + t)) ((pp * 6 + qq)) (((χ (10 + t)) ((pp * 6 + qq))) + x3))) (10 + t)) ((pp * 6 + 5)))) ((13 + t)) (qx_su hX3 t (by omega)) rfl (j := (pp * 6 + 5)) (sg_rc hx1 rfl) (by omega) rfl rfl dX5_enter_26 ?_
  refine qr_iload_n C dX5_enter_27 rfl 3 rfl ?_
  refine qr_iadd C dX5_enter_28 ?_
  refine qr_iast C ((13 + t)) (qx_su hX3 t (by omega)) rfl (j := (pp * 6 + 5)) (sg_rc hx1 rfl) (by omega) rfl dX5_enter_29 ?_
  generalize hg5 : va_up g1 ((13 + t)) _ = g4
  have hX6 : qx_P D (va_up (va_up χ (10 + t) (upd (χ (10 + t)) ((pp * 6 + qq)) (((χ (10 + t)) ((pp * 6 + qq))) + x3))) (10 + t) (upd ((va_up χ (10 + t) (upd (χ (10 + t)) ((pp * 6 + qq)) (((χ (10 + t)) ((pp * 6 + qq))) + x3))) (10 + t)) ((pp * 6 + 5)) ((((va_up χ (10 + t) (upd (χ (10 + t)) ((pp * 6 + qq)) (((χ (10 + t)) ((pp * 6 + qq))) + x3))) (10 + t)) ((pp * 6 + 5))) + x3))) nS nE ad g4 := by rw [← hg5]; exact qx_w_sum hX3 t (by omega) (upd ((va_up χ (10 + t) (upd (χ (10 + t)) ((pp * 6 + qq)) (((χ (10 + t)) ((pp * 6 + qq))) + x3))) (10 + t)) ((pp * 6 + 5)) ((((va_up χ (10 + t) (upd (χ (10 + t)) ((pp * 6 + qq)) (((χ (10 + t)) ((pp * 6 + qq))) + x3))) (10 + t)) ((pp * 6 + 5))) + x3))
  refine qr_aload_n C dX5_enter_30 rfl 0 rfl ?_
  refine gf_X5_9 C ((10 + t)) (qx_tb hX6 t (by omega)) rfl rfl dX5_enter_31 ?_
  refine qr_bipush (v := 24) C dX5_enter_34 (by decide) ?_
  refine qr_iload_n C dX5_enter_36 rfl 2 rfl ?_
  refine qr_iadd C dX5_enter_37 ?_
  refine qr_dup2 C dX5_enter_38 rfl rfl ?_
  refine qr_iald C (x := (((va_up (va_up χ (10 + t) (upd (χ (10 + t)) ((pp * 6 + qq)) (((χ (10 + t)) ((pp * 6 + qq))) + x3))) (10 + t) (upd ((va_up χ (10 + t) (upd (χ (10 + t)) ((pp * 6 + qq)) (((χ (10 + t)) ((pp * 6 + qq))) + x3))) (10 + t)) ((pp * 6 + 5)) ((((va_up χ (10 + t) (upd (χ (10 + t)) ((pp * 6 + qq)) (((χ (10 + t)) ((pp * 6 + qq))) + x3))) (10 + t)) ((pp * 6 + 5))) + x3))) (10 + t)) ((24 + qq)))) ((13 + t)) (qx_su hX6 t (by omega)) rfl (j := (24 + qq)) (by rw [hx2, show (24 : Int32) = nI 24 from rfl, nI_add]) (by omega) rfl rfl dX5_enter_39 ?_
  refine qr_iload_n C dX5_enter_40 rfl 3 rfl ?_
  refine qr_iadd C dX5_enter_41 ?_
  refine qr_iast C ((13 + t)) (qx_su hX6 t (by omega)) rfl (j := (24 + qq)) (by rw [hx2, show (24 : Int32) = nI 24 from rfl, nI_add]) (by omega) rfl dX5_enter_42 ?_
  generalize hg8 : va_up g4 ((13 + t)) _ = g7
  have hX9 : qx_P D (va_up (va_up (va_up χ (10 + t) (upd (χ (10 + t)) ((pp * 6 + qq)) (((χ (10 + t)) ((pp * 6 + qq))) + x3))) (10 + t) (upd ((va_up χ (10 + t) (upd (χ (10 + t)) ((pp * 6 + qq)) (((χ (10 + t)) ((pp * 6 + qq))) + x3))) (10 + t)) ((pp * 6 + 5)) ((((va_up χ (10 + t) (upd (χ (10 + t)) ((pp * 6 + qq)) (((χ (10 + t)) ((pp * 6 + qq))) + x3))) (10 + t)) ((pp * 6 + 5))) + x3))) (10 + t) (upd ((va_up (va_up χ (10 + t) (upd (χ (10 + t)) ((pp * 6 + qq)) (((χ (10 + t)) ((pp * 6 + qq))) + x3))) (10 + t) (upd ((va_up χ (10 + t) (upd (χ (10 + t)) ((pp * 6 + qq)) (((χ (10 + t)) ((pp * 6 + qq))) + x3))) (10 + t)) ((pp * 6 + 5)) ((((va_up χ (10 + t) (upd (χ (10 + t)) ((pp * 6 + qq)) (((χ (10 + t)) ((pp * 6 + qq))) + x3))) (10 + t)) ((pp * 6 + 5))) + x3))) (10 + t)) ((24 + qq)) ((((va_up (va_up χ (10 + t) (upd (χ (10 + t)) ((pp * 6 + qq)) (((χ (10 + t)) ((pp * 6 + qq))) + x3))) (10 + t) (upd ((va_up χ (10 + t) (upd (χ (10 + t)) ((pp * 6 + qq)) (((χ (10 + t)) ((pp * 6 + qq))) + x3))) (10 + t)) ((pp * 6 + 5)) ((((va_up χ (10 + t) (upd (χ (10 + t)) ((pp * 6 + qq)) (((χ (10 + t)) ((pp * 6 + qq))) + x3))) (10 + t)) ((pp * 6 + 5))) + x3))) (10 + t)) ((24 + qq))) + x3))) nS nE ad g7 := by rw [← hg8]; exact qx_w_sum hX6 t (by omega) (upd ((va_up (va_up χ (10 + t) (upd (χ (10 + t)) ((pp * 6 + qq)) (((χ (10 + t)) ((pp * 6 + qq))) + x3))) (10 + t) (upd ((va_up χ (10 + t) (upd (χ (10 + t)) ((pp * 6 + qq)) (((χ (10 + t)) ((pp * 6 + qq))) + x3))) (10 + t)) ((pp * 6 + 5)) ((((va_up χ (10 + t) (upd (χ (10 + t)) ((pp * 6 + qq)) (((χ (10 + t)) ((pp * 6 + qq))) + x3))) (10 + t)) ((pp * 6 + 5))) + x3))) (10 + t)) ((24 + qq)) ((((va_up (va_up χ (10 + t) (upd (χ (10 + t)) ((pp * 6 + qq)) (((χ (10 + t)) ((pp * 6 + qq))) + x3))) (10 + t) (upd ((va_up χ (10 + t) (upd (χ (10 + t)) ((pp * 6 + qq)) (((χ (10 + t)) ((pp * 6 + qq))) + x3))) (10 + t)) ((pp * 6 + 5)) ((((va_up χ (10 + t) (upd (χ (10 + t)) ((pp * 6 + qq)) (((χ (10 + t)) ((pp * 6 + qq))) + x3))) (10 + t)) ((pp * 6 + 5))) + x3))) (10 + t)) ((24 + qq))) + x3))
  refine qr_aload_n C dX5_enter_43 rfl 0 rfl ?_
  refine gf_X5_9 C ((10 + t)) (qx_tb hX9 t (by omega)) rfl rfl dX5_enter_44 ?_
  refine qr_bipush (v := 29) C dX5_enter_47 (by decide) ?_
  refine qr_dup2 C dX5_enter_49 rfl rfl ?_
  refine qr_iald C (x := (((va_up (va_up (va_up χ (10 + t) (upd (χ (10 + t)) ((pp * 6 + qq)) (((χ (10 + t)) ((pp * 6 + qq))) + x3))) (10 + t) (upd ((va_up χ (10 + t) (upd (χ (10 + t)) ((pp * 6 + qq)) (((χ (10 + t)) ((pp * 6 + qq))) + x3))) (10 + t)) ((pp * 6 + 5)) ((((va_up χ (10 + t) (upd (χ (10 + t)) ((pp * 6 + qq)) (((χ (10 + t)) ((pp * 6 + qq))) + x3))) (10 + t)) ((pp * 6 + 5))) + x3))) (10 + t) (upd ((va_up (va_up χ (10 + t) (upd (χ (10 + t)) ((pp * 6 + qq)) (((χ (10 + t)) ((pp * 6 + qq))) + x3))) (10 + t) (upd ((va_up χ (10 + t) (upd (χ (10 + t)) ((pp * 6 + qq)) (((χ (10 + t)) ((pp * 6 + qq))) + x3))) (10 + t)) ((pp * 6 + 5)) ((((va_up χ (10 + t) (upd (χ (10 + t)) ((pp * 6 + qq)) (((χ (10 + t)) ((pp * 6 + qq))) + x3))) (10 + t)) ((pp * 6 + 5))) + x3))) (10 + t)) ((24 + qq)) ((((va_up (va_up χ (10 + t) (upd (χ (10 + t)) ((pp * 6 + qq)) (((χ (10 + t)) ((pp * 6 + qq))) + x3))) (10 + t) (upd ((va_up χ (10 + t) (upd (χ (10 + t)) ((pp * 6 + qq)) (((χ (10 + t)) ((pp * 6 + qq))) + x3))) (10 + t)) ((pp * 6 + 5)) ((((va_up χ (10 + t) (upd (χ (10 + t)) ((pp * 6 + qq)) (((χ (10 + t)) ((pp * 6 + qq))) + x3))) (10 + t)) ((pp * 6 + 5))) + x3))) (10 + t)) ((24 + qq))) + x3))) (10 + t)) (29))) ((13 + t)) (qx_su hX9 t (by omega)) rfl (j := 29) rfl (by omega) rfl rfl dX5_enter_50 ?_
  refine qr_iload_n C dX5_enter_51 rfl 3 rfl ?_
  refine qr_iadd C dX5_enter_52 ?_
  refine qr_iast C ((13 + t)) (qx_su hX9 t (by omega)) rfl (j := 29) rfl (by omega) rfl dX5_enter_53 ?_
  generalize hg11 : va_up g7 ((13 + t)) _ = g10
  have hX12 : qx_P D (va_up (va_up (va_up (va_up χ (10 + t) (upd (χ (10 + t)) ((pp * 6 + qq)) (((χ (10 + t)) ((pp * 6 + qq))) + x3))) (10 + t) (upd ((va_up χ (10 + t) (upd (χ (10 + t)) ((pp * 6 + qq)) (((χ (10 + t)) ((pp * 6 + qq))) + x3))) (10 + t)) ((pp * 6 + 5)) ((((va_up χ (10 + t) (upd (χ (10 + t)) ((pp * 6 + qq)) (((χ (10 + t)) ((pp * 6 + qq))) + x3))) (10 + t)) ((pp * 6 + 5))) + x3))) (10 + t) (upd ((va_up (va_up χ (10 + t) (upd (χ (10 + t)) ((pp * 6 + qq)) (((χ (10 + t)) ((pp * 6 + qq))) + x3))) (10 + t) (upd ((va_up χ (10 + t) (upd (χ (10 + t)) ((pp * 6 + qq)) (((χ (10 + t)) ((pp * 6 + qq))) + x3))) (10 + t)) ((pp * 6 + 5)) ((((va_up χ (10 + t) (upd (χ (10 + t)) ((pp * 6 + qq)) (((χ (10 + t)) ((pp * 6 + qq))) + x3))) (10 + t)) ((pp * 6 + 5))) + x3))) (10 + t)) ((24 + qq)) ((((va_up (va_up χ (10 + t) (upd (χ (10 + t)) ((pp * 6 + qq)) (((χ (10 + t)) ((pp * 6 + qq))) + x3))) (10 + t) (upd ((va_up χ (10 + t) (upd (χ (10 + t)) ((pp * 6 + qq)) (((χ (10 + t)) ((pp * 6 + qq))) + x3))) (10 + t)) ((pp * 6 + 5)) ((((va_up χ (10 + t) (upd (χ (10 + t)) ((pp * 6 + qq)) (((χ (10 + t)) ((pp * 6 + qq))) + x3))) (10 + t)) ((pp * 6 + 5))) + x3))) (10 + t)) ((24 + qq))) + x3))) (10 + t) (upd ((va_up (va_up (va_up χ (10 + t) (upd (χ (10 + t)) ((pp * 6 + qq)) (((χ (10 + t)) ((pp * 6 + qq))) + x3))) (10 + t) (upd ((va_up χ (10 + t) (upd (χ (10 + t)) ((pp * 6 + qq)) (((χ (10 + t)) ((pp * 6 + qq))) + x3))) (10 + t)) ((pp * 6 + 5)) ((((va_up χ (10 + t) (upd (χ (10 + t)) ((pp * 6 + qq)) (((χ (10 + t)) ((pp * 6 + qq))) + x3))) (10 + t)) ((pp * 6 + 5))) + x3))) (10 + t) (upd ((va_up (va_up χ (10 + t) (upd (χ (10 + t)) ((pp * 6 + qq)) (((χ (10 + t)) ((pp * 6 + qq))) + x3))) (10 + t) (upd ((va_up χ (10 + t) (upd (χ (10 + t)) ((pp * 6 + qq)) (((χ (10 + t)) ((pp * 6 + qq))) + x3))) (10 + t)) ((pp * 6 + 5)) ((((va_up χ (10 + t) (upd (χ (10 + t)) ((pp * 6 + qq)) (((χ (10 + t)) ((pp * 6 + qq))) + x3))) (10 + t)) ((pp * 6 + 5))) + x3))) (10 + t)) ((24 + qq)) ((((va_up (va_up χ (10 + t) (upd (χ (10 + t)) ((pp * 6 + qq)) (((χ (10 + t)) ((pp * 6 + qq))) + x3))) (10 + t) (upd ((va_up χ (10 + t) (upd (χ (10 + t)) ((pp * 6 + qq)) (((χ (10 + t)) ((pp * 6 + qq))) + x3))) (10 + t)) ((pp * 6 + 5)) ((((va_up χ (10 + t) (upd (χ (10 + t)) ((pp * 6 + qq)) (((χ (10 + t)) ((pp * 6 + qq))) + x3))) (10 + t)) ((pp * 6 + 5))) + x3))) (10 + t)) ((24 + qq))) + x3))) (10 + t)) (29) ((((va_up (va_up (va_up χ (10 + t) (upd (χ (10 + t)) ((pp * 6 + qq)) (((χ (10 + t)) ((pp * 6 + qq))) + x3))) (10 + t) (upd ((va_up χ (10 + t) (upd (χ (10 + t)) ((pp * 6 + qq)) (((χ (10 + t)) ((pp * 6 + qq))) + x3))) (10 + t)) ((pp * 6 + 5)) ((((va_up χ (10 + t) (upd (χ (10 + t)) ((pp * 6 + qq)) (((χ (10 + t)) ((pp * 6 + qq))) + x3))) (10 + t)) ((pp * 6 + 5))) + x3))) (10 + t) (upd ((va_up (va_up χ (10 + t) (upd (χ (10 + t)) ((pp * 6 + qq)) (((χ (10 + t)) ((pp * 6 + qq))) + x3))) (10 + t) (upd ((va_up χ (10 + t) (upd (χ (10 + t)) ((pp * 6 + qq)) (((χ (10 + t)) ((pp * 6 + qq))) + x3))) (10 + t)) ((pp * 6 + 5)) ((((va_up χ (10 + t) (upd (χ (10 + t)) ((pp * 6 + qq)) (((χ (10 + t)) ((pp * 6 + qq))) + x3))) (10 + t)) ((pp * 6 + 5))) + x3))) (10 + t)) ((24 + qq)) ((((va_up (va_up χ (10 + t) (upd (χ (10 + t)) ((pp * 6 + qq)) (((χ (10 + t)) ((pp * 6 + qq))) + x3))) (10 + t) (upd ((va_up χ (10 + t) (upd (χ (10 + t)) ((pp * 6 + qq)) (((χ (10 + t)) ((pp * 6 + qq))) + x3))) (10 + t)) ((pp * 6 + 5)) ((((va_up χ (10 + t) (upd (χ (10 + t)) ((pp * 6 + qq)) (((χ (10 + t)) ((pp * 6 + qq))) + x3))) (10 + t)) ((pp * 6 + 5))) + x3))) (10 + t)) ((24 + qq))) + x3))) (10 + t)) (29)) + x3))) nS nE ad g10 := by rw [← hg11]; exact qx_w_sum hX9 t (by omega) (upd ((va_up (va_up (va_up χ (10 + t) (upd (χ (10 + t)) ((pp * 6 + qq)) (((χ (10 + t)) ((pp * 6 + qq))) + x3))) (10 + t) (upd ((va_up χ (10 + t) (upd (χ (10 + t)) ((pp * 6 + qq)) (((χ (10 + t)) ((pp * 6 + qq))) + x3))) (10 + t)) ((pp * 6 + 5)) ((((va_up χ (10 + t) (upd (χ (10 + t)) ((pp * 6 + qq)) (((χ (10 + t)) ((pp * 6 + qq))) + x3))) (10 + t)) ((pp * 6 + 5))) + x3))) (10 + t) (upd ((va_up (va_up χ (10 + t) (upd (χ (10 + t)) ((pp * 6 + qq)) (((χ (10 + t)) ((pp * 6 + qq))) + x3))) (10 + t) (upd ((va_up χ (10 + t) (upd (χ (10 + t)) ((pp * 6 + qq)) (((χ (10 + t)) ((pp * 6 + qq))) + x3))) (10 + t)) ((pp * 6 + 5)) ((((va_up χ (10 + t) (upd (χ (10 + t)) ((pp * 6 + qq)) (((χ (10 + t)) ((pp * 6 + qq))) + x3))) (10 + t)) ((pp * 6 + 5))) + x3))) (10 + t)) ((24 + qq)) ((((va_up (va_up χ (10 + t) (upd (χ (10 + t)) ((pp * 6 + qq)) (((χ (10 + t)) ((pp * 6 + qq))) + x3))) (10 + t) (upd ((va_up χ (10 + t) (upd (χ (10 + t)) ((pp * 6 + qq)) (((χ (10 + t)) ((pp * 6 + qq))) + x3))) (10 + t)) ((pp * 6 + 5)) ((((va_up χ (10 + t) (upd (χ (10 + t)) ((pp * 6 + qq)) (((χ (10 + t)) ((pp * 6 + qq))) + x3))) (10 + t)) ((pp * 6 + 5))) + x3))) (10 + t)) ((24 + qq))) + x3))) (10 + t)) (29) ((((va_up (va_up (va_up χ (10 + t) (upd (χ (10 + t)) ((pp * 6 + qq)) (((χ (10 + t)) ((pp * 6 + qq))) + x3))) (10 + t) (upd ((va_up χ (10 + t) (upd (χ (10 + t)) ((pp * 6 + qq)) (((χ (10 + t)) ((pp * 6 + qq))) + x3))) (10 + t)) ((pp * 6 + 5)) ((((va_up χ (10 + t) (upd (χ (10 + t)) ((pp * 6 + qq)) (((χ (10 + t)) ((pp * 6 + qq))) + x3))) (10 + t)) ((pp * 6 + 5))) + x3))) (10 + t) (upd ((va_up (va_up χ (10 + t) (upd (χ (10 + t)) ((pp * 6 + qq)) (((χ (10 + t)) ((pp * 6 + qq))) + x3))) (10 + t) (upd ((va_up χ (10 + t) (upd (χ (10 + t)) ((pp * 6 + qq)) (((χ (10 + t)) ((pp * 6 + qq))) + x3))) (10 + t)) ((pp * 6 + 5)) ((((va_up χ (10 + t) (upd (χ (10 + t)) ((pp * 6 + qq)) (((χ (10 + t)) ((pp * 6 + qq))) + x3))) (10 + t)) ((pp * 6 + 5))) + x3))) (10 + t)) ((24 + qq)) ((((va_up (va_up χ (10 + t) (upd (χ (10 + t)) ((pp * 6 + qq)) (((χ (10 + t)) ((pp * 6 + qq))) + x3))) (10 + t) (upd ((va_up χ (10 + t) (upd (χ (10 + t)) ((pp * 6 + qq)) (((χ (10 + t)) ((pp * 6 + qq))) + x3))) (10 + t)) ((pp * 6 + 5)) ((((va_up χ (10 + t) (upd (χ (10 + t)) ((pp * 6 + qq)) (((χ (10 + t)) ((pp * 6 + qq))) + x3))) (10 + t)) ((pp * 6 + 5))) + x3))) (10 + t)) ((24 + qq))) + x3))) (10 + t)) (29)) + x3))
  exact qr_vret C rfl (Nat.le_of_ble_eq_true rfl) (Nat.le_of_ble_eq_true rfl) dX5_enter_54 (⟨rfl, rfl, by have h9 := hX12; simp only [bx_uu, va_up_self] at h9; exact h9, fun t1 ht1 => ((congrFun hg11 t1).symm.trans ((va_up_ne _ _ (by omega)).trans ((congrFun hg8 t1).symm.trans ((va_up_ne _ _ (by omega)).trans ((congrFun hg5 t1).symm.trans ((va_up_ne _ _ (by omega)).trans ((congrFun hg2 t1).symm.trans ((va_up_ne _ _ (by omega)).trans rfl))))))))⟩)
def cx_fill (χ : Nat → Nat → Int32) (t j : Nat) (x2 x3 : Int32) : Nat → Nat → Int32 := va_up (va_up (va_up (va_up (va_up χ (20 + j) (va_cpy (χ (10 + t)) (χ (20 + j)) 0 0 30)) 8 (upd (χ 8) j x2)) 9 (upd (χ 9) j x3)) 13 (upd (χ 13) j (χ 6 t))) 7 (upd (χ 7) j 1)
set_option maxHeartbeats 4000000 in
set_option maxRecDepth 100000 in
theorem k_X3_fill {l : Launch} (hst : l.stackTraces = false) (D : va_G) (ad : Nat → Nat) (g : qw_G) (χ : Nat → Nat → Int32) (nS nE : Nat) (hX : qx_P D χ nS nE ad g) (t j : Nat) (ht : t < 3) (hj : j < 12) (x2 x3 : Int32) : qw_M l yX3_fill [Cond.code yX3_fill cX3_fill 4 none] { frames := 1, cells := 0, slots := 0, locals := 80 } D ad g [(.ref (ad (20 + j))), (.ref (ad (10 + t))), (.int x2), (.int x3)] (qx_to D ad g nS nE none (cx_fill χ t j x2 x3)) 0 0 := by
  refine qw_M.of (maxL := 4) (own := RX3) (lv := [(0, (.ref (ad (20 + j)))), (1, (.ref (ad (10 + t)))), (2, (.int x2)), (3, (.int x3))]) hst (by decide) rfl rfl (Nat.le_of_ble_eq_true rfl) ?_
  intro p e s m args below meth c A C hin
  have hb := (qx_ct hX).2.2
  refine qr_aload_n C dX3_fill_0 rfl 1 rfl ?_
  refine gf_X3_15 C ((10 + t)) (qx_tb hX t (by omega)) rfl rfl dX3_fill_1 ?_
  refine qr_iconst (v := 0) C dX3_fill_4 (by decide) ?_
  refine qr_aload_n C dX3_fill_5 rfl 0 rfl ?_
  refine gf_X3_9 C ((20 + j)) (qx_rp hX j (by omega)) rfl rfl dX3_fill_6 ?_
  refine qr_iconst (v := 0) C dX3_fill_9 (by decide) ?_
  refine qr_bipush (v := 30) C dX3_fill_10 (by decide) ?_
  refine qr_copy C gy_copy.1 gy_copy.2.1 gy_copy.2.2.1 gy_copy.2.2.2 (13 + t) (40 + j) (qx_su hX t ht) rfl (qx_nu hX j hj) rfl (j := 30) rfl (by omega) (by omega) rfl (Nat.le_of_ble_eq_true rfl) (Nat.le_of_ble_eq_true rfl) dX3_fill_12 ?_
  generalize hg2 : va_up g (40 + j) _ = g1
  have hX3 : qx_P D (va_up χ (20 + j) (va_cpy (χ (10 + t)) (χ (20 + j)) 0 0 30)) nS nE ad g1 := by rw [← hg2]; exact qx_w_num hX j (by omega) (va_cpy (χ (10 + t)) (χ (20 + j)) 0 0 30)
  refine qr_aload_n C dX3_fill_15 rfl 0 rfl ?_
  refine qr_iload_n C dX3_fill_16 rfl 2 rfl ?_
  refine pf_X3_26 C ((20 + j)) (qx_rp hX3 j (by omega)) rfl rfl rfl (Nat.le_of_ble_eq_true rfl) rfl dX3_fill_17 ?_
  generalize hg5 : va_up g1 ((20 + j)) _ = g4
  have hX6 : qx_P D (va_up (va_up χ (20 + j) (va_cpy (χ (10 + t)) (χ (20 + j)) 0 0 30)) 8 (upd ((va_up χ (20 + j) (va_cpy (χ (10 + t)) (χ (20 + j)) 0 0 30)) 8) j x2)) nS nE ad g4 := by rw [← hg5]; exact qx_w_emb hX3 j (by omega) x2
  refine qr_aload_n C dX3_fill_20 rfl 0 rfl ?_
  refine qr_iload_n C dX3_fill_21 rfl 3 rfl ?_
  refine pf_X3_30 C ((20 + j)) (qx_rp hX6 j (by omega)) rfl rfl rfl (Nat.le_of_ble_eq_true rfl) rfl dX3_fill_22 ?_
  generalize hg8 : va_up g4 ((20 + j)) _ = g7
  have hX9 : qx_P D (va_up (va_up (va_up χ (20 + j) (va_cpy (χ (10 + t)) (χ (20 + j)) 0 0 30)) 8 (upd ((va_up χ (20 + j) (va_cpy (χ (10 + t)) (χ (20 + j)) 0 0 30)) 8) j x2)) 9 (upd ((va_up (va_up χ (20 + j) (va_cpy (χ (10 + t)) (χ (20 + j)) 0 0 30)) 8 (upd ((va_up χ (20 + j) (va_cpy (χ (10 + t)) (χ (20 + j)) 0 0 30)) 8) j x2)) 9) j x3)) nS nE ad g7 := by rw [← hg8]; exact qx_w_hid hX6 j (by omega) x3
  refine qr_aload_n C dX3_fill_25 rfl 0 rfl ?_
  refine qr_aload_n C dX3_fill_26 rfl 1 rfl ?_
  refine gf_X3_33 C ((10 + t)) (qx_tb hX9 t (by omega)) rfl rfl dX3_fill_27 ?_
  refine pf_X3_36 C ((20 + j)) (qx_rp hX9 j (by omega)) rfl rfl rfl (Nat.le_of_ble_eq_true rfl) rfl dX3_fill_30 ?_
  generalize hg11 : va_up g7 ((20 + j)) _ = g10
  have hX12 : qx_P D (va_up (va_up (va_up (va_up χ (20 + j) (va_cpy (χ (10 + t)) (χ (20 + j)) 0 0 30)) 8 (upd ((va_up χ (20 + j) (va_cpy (χ (10 + t)) (χ (20 + j)) 0 0 30)) 8) j x2)) 9 (upd ((va_up (va_up χ (20 + j) (va_cpy (χ (10 + t)) (χ (20 + j)) 0 0 30)) 8 (upd ((va_up χ (20 + j) (va_cpy (χ (10 + t)) (χ (20 + j)) 0 0 30)) 8) j x2)) 9) j x3)) 13 (upd ((va_up (va_up (va_up χ (20 + j) (va_cpy (χ (10 + t)) (χ (20 + j)) 0 0 30)) 8 (upd ((va_up χ (20 + j) (va_cpy (χ (10 + t)) (χ (20 + j)) 0 0 30)) 8) j x2)) 9 (upd ((va_up (va_up χ (20 + j) (va_cpy (χ (10 + t)) (χ (20 + j)) 0 0 30)) 8 (upd ((va_up χ (20 + j) (va_cpy (χ (10 + t)) (χ (20 + j)) 0 0 30)) 8) j x2)) 9) j x3)) 13) j ((va_up (va_up (va_up χ (20 + j) (va_cpy (χ (10 + t)) (χ (20 + j)) 0 0 30)) 8 (upd ((va_up χ (20 + j) (va_cpy (χ (10 + t)) (χ (20 + j)) 0 0 30)) 8) j x2)) 9 (upd ((va_up (va_up χ (20 + j) (va_cpy (χ (10 + t)) (χ (20 + j)) 0 0 30)) 8 (upd ((va_up χ (20 + j) (va_cpy (χ (10 + t)) (χ (20 + j)) 0 0 30)) 8) j x2)) 9) j x3)) 6 t))) nS nE ad g10 := by rw [← hg11]; exact qx_w_rea hX9 j (by omega) ((va_up (va_up (va_up χ (20 + j) (va_cpy (χ (10 + t)) (χ (20 + j)) 0 0 30)) 8 (upd ((va_up χ (20 + j) (va_cpy (χ (10 + t)) (χ (20 + j)) 0 0 30)) 8) j x2)) 9 (upd ((va_up (va_up χ (20 + j) (va_cpy (χ (10 + t)) (χ (20 + j)) 0 0 30)) 8 (upd ((va_up χ (20 + j) (va_cpy (χ (10 + t)) (χ (20 + j)) 0 0 30)) 8) j x2)) 9) j x3)) 6 t)
  refine qr_aload_n C dX3_fill_33 rfl 0 rfl ?_
  refine qr_iconst (v := 1) C dX3_fill_34 (by decide) ?_
  refine pf_X3_39 C ((20 + j)) (qx_rp hX12 j (by omega)) rfl (qw_b01 (Or.inr rfl)).2.1 (qw_b01 (Or.inr rfl)).2.2 (Nat.le_of_ble_eq_true rfl) rfl dX3_fill_35 ?_
  generalize hg14 : va_up g10 ((20 + j)) _ = g13
  have hX15 : qx_P D (va_up (va_up (va_up (va_up (va_up χ (20 + j) (va_cpy (χ (10 + t)) (χ (20 + j)) 0 0 30)) 8 (upd ((va_up χ (20 + j) (va_cpy (χ (10 + t)) (χ (20 + j)) 0 0 30)) 8) j x2)) 9 (upd ((va_up (va_up χ (20 + j) (va_cpy (χ (10 + t)) (χ (20 + j)) 0 0 30)) 8 (upd ((va_up χ (20 + j) (va_cpy (χ (10 + t)) (χ (20 + j)) 0 0 30)) 8) j x2)) 9) j x3)) 13 (upd ((va_up (va_up (va_up χ (20 + j) (va_cpy (χ (10 + t)) (χ (20 + j)) 0 0 30)) 8 (upd ((va_up χ (20 + j) (va_cpy (χ (10 + t)) (χ (20 + j)) 0 0 30)) 8) j x2)) 9 (upd ((va_up (va_up χ (20 + j) (va_cpy (χ (10 + t)) (χ (20 + j)) 0 0 30)) 8 (upd ((va_up χ (20 + j) (va_cpy (χ (10 + t)) (χ (20 + j)) 0 0 30)) 8) j x2)) 9) j x3)) 13) j ((va_up (va_up (va_up χ (20 + j) (va_cpy (χ (10 + t)) (χ (20 + j)) 0 0 30)) 8 (upd ((va_up χ (20 + j) (va_cpy (χ (10 + t)) (χ (20 + j)) 0 0 30)) 8) j x2)) 9 (upd ((va_up (va_up χ (20 + j) (va_cpy (χ (10 + t)) (χ (20 + j)) 0 0 30)) 8 (upd ((va_up χ (20 + j) (va_cpy (χ (10 + t)) (χ (20 + j)) 0 0 30)) 8) j x2)) 9) j x3)) 6 t))) 7 (upd ((va_up (va_up (va_up (va_up χ (20 + j) (va_cpy (χ (10 + t)) (χ (20 + j)) 0 0 30)) 8 (upd ((va_up χ (20 + j) (va_cpy (χ (10 + t)) (χ (20 + j)) 0 0 30)) 8) j x2)) 9 (upd ((va_up (va_up χ (20 + j) (va_cpy (χ (10 + t)) (χ (20 + j)) 0 0 30)) 8 (upd ((va_up χ (20 + j) (va_cpy (χ (10 + t)) (χ (20 + j)) 0 0 30)) 8) j x2)) 9) j x3)) 13 (upd ((va_up (va_up (va_up χ (20 + j) (va_cpy (χ (10 + t)) (χ (20 + j)) 0 0 30)) 8 (upd ((va_up χ (20 + j) (va_cpy (χ (10 + t)) (χ (20 + j)) 0 0 30)) 8) j x2)) 9 (upd ((va_up (va_up χ (20 + j) (va_cpy (χ (10 + t)) (χ (20 + j)) 0 0 30)) 8 (upd ((va_up χ (20 + j) (va_cpy (χ (10 + t)) (χ (20 + j)) 0 0 30)) 8) j x2)) 9) j x3)) 13) j ((va_up (va_up (va_up χ (20 + j) (va_cpy (χ (10 + t)) (χ (20 + j)) 0 0 30)) 8 (upd ((va_up χ (20 + j) (va_cpy (χ (10 + t)) (χ (20 + j)) 0 0 30)) 8) j x2)) 9 (upd ((va_up (va_up χ (20 + j) (va_cpy (χ (10 + t)) (χ (20 + j)) 0 0 30)) 8 (upd ((va_up χ (20 + j) (va_cpy (χ (10 + t)) (χ (20 + j)) 0 0 30)) 8) j x2)) 9) j x3)) 6 t))) 7) j (1 : Int32))) nS nE ad g13 := by rw [← hg14]; exact qx_w_blt hX12 j (by omega) (1 : Int32)
  exact qr_vret C rfl (Nat.le_of_ble_eq_true rfl) (Nat.le_of_ble_eq_true rfl) dX3_fill_38 (⟨rfl, rfl, by have h9 := hX15; have e : ∀ k, k < 20 → (va_up χ (20 + j) (va_cpy (χ (10 + t)) (χ (20 + j)) 0 0 30)) k = χ k := fun k hk => va_up_ne _ _ (by omega); simp only [e 8 (by omega), va_up_ne _ _ (show (9 : Nat) ≠ 8 by decide), va_up_ne _ _ (show (13 : Nat) ≠ 8 by decide), va_up_ne _ _ (show (13 : Nat) ≠ 9 by decide), va_up_ne _ _ (show (6 : Nat) ≠ 8 by decide), va_up_ne _ _ (show (6 : Nat) ≠ 9 by decide), va_up_ne _ _ (show (7 : Nat) ≠ 8 by decide), va_up_ne _ _ (show (7 : Nat) ≠ 9 by decide), va_up_ne _ _ (show (7 : Nat) ≠ 13 by decide), e 9 (by omega), e 13 (by omega), e 6 (by omega), e 7 (by omega)] at h9; exact h9, fun t1 ht1 => ((congrFun hg14 t1).symm.trans ((va_up_ne _ _ (by omega)).trans ((congrFun hg11 t1).symm.trans ((va_up_ne _ _ (by omega)).trans ((congrFun hg8 t1).symm.trans ((va_up_ne _ _ (by omega)).trans ((congrFun hg5 t1).symm.trans ((va_up_ne _ _ (by omega)).trans ((congrFun hg2 t1).symm.trans ((va_up_ne _ _ (by omega)).trans rfl))))))))))⟩)
def cx_bstep (χ : Nat → Nat → Int32) (x1 x2 : Int32) (k : Nat) (s : Int32) : Int32 := if χ 45 k = x1 then (if χ 47 k ≤ x2 then s else if cx_lasts (χ 48 k) (χ 49 k) (χ 2 0) = 0 then s else s ||| (1 <<< (χ 46 k &&& 31))) else s
def cx_bar (χ : Nat → Nat → Int32) (x1 x2 : Int32) (n : Nat) : Int32 := sg_it (cx_bstep χ x1 x2) 0 n
set_option maxHeartbeats 4000000 in
set_option maxRecDepth 100000 in
theorem k_X6_embargoedFor {l : Launch} (hst : l.stackTraces = false) (D : va_G) (ad : Nat → Nat) (g : qw_G) (χ : Nat → Nat → Int32) (nS nE : Nat) (hX : qx_P D χ nS nE ad g) (x1 x2 : Int32) : qw_M l yX6_embargoedFor [Cond.code yX6_embargoedFor cX6_embargoedFor 6 (some .int)] { frames := 1, cells := 0, slots := 0, locals := 40 } D ad g [(.ref (ad 0)), (.int x1), (.int x2)] (qw_kp ad g (some (.int (cx_bar χ x1 x2 nE)))) 0 0 := by
  refine qw_M.of (maxL := 6) (own := RX6) (lv := [(0, (.ref (ad 0))), (1, (.int x1)), (2, (.int x2))]) hst (by decide) rfl rfl (Nat.le_of_ble_eq_true rfl) ?_
  intro p e s m args below meth c A C hin
  have hb := (qx_ct hX).2.2
  refine qr_iconst (v := 0) C dX6_embargoedFor_0 (by decide) ?_
  refine qr_istore_n (lv' := [(3, (.int (0 : Int32))), (0, (.ref (ad 0))), (1, (.int x1)), (2, (.int x2))]) C dX6_embargoedFor_1 rfl (by decide) rfl ?_
  refine qr_iconst (v := 0) C dX6_embargoedFor_2 (by decide) ?_
  refine qr_istore (lv' := [(4, (.int (0 : Int32))), (3, (.int (0 : Int32))), (0, (.ref (ad 0))), (1, (.int x1)), (2, (.int x2))]) C dX6_embargoedFor_3 (by decide) rfl ?_
  have L5 : ∀ (j5 i5 : Nat) (ac : Int32), i5 + j5 = nE → ac = cx_bar χ x1 x2 i5 → qw_W p l e { frames := 1, cells := 0, slots := 0, locals := 40 } s m args below meth c D A 6 (MQ below (qw_Q (qw_kp ad g (some (.int (cx_bar χ x1 x2 nE)))) D A) args s 0 0 A) 0 0 ad g 5 [(0, (.ref (ad 0))), (1, (.int x1)), (2, (.int x2)), (3, (.int ac)), (4, (.int (nI i5)))] [] := by
    intro j5
    induction j5 with
    | zero =>
      intro i5 ac hi5 hac
      obtain rfl : nE = i5 := by omega
      refine qr_iload C dX6_embargoedFor_5 4 rfl ?_
      refine qr_aload_n C dX6_embargoedFor_7 rfl 0 rfl ?_
      refine gf_X6_113 C (0) (qx_x hX) rfl rfl dX6_embargoedFor_8 ?_
      refine qr_icmp_ge_t C 69 dX6_embargoedFor_11 (by decide) ((sg_le (nE) (nE) (qx_ct hX).2.1 rfl (by omega) (by omega)).mpr (Nat.le_refl _)) ?_
      refine qr_iload_n C dX6_embargoedFor_69 rfl 3 rfl ?_
      exact qr_iret C rfl (Nat.le_of_ble_eq_true rfl) (Nat.le_of_ble_eq_true rfl) dX6_embargoedFor_70 (qw_kpn hac.symm)
    | succ j5 ih5 =>
      intro i5 ac hi5 hac
      refine qr_iload C dX6_embargoedFor_5 4 rfl ?_
      refine qr_aload_n C dX6_embargoedFor_7 rfl 0 rfl ?_
      refine gf_X6_113 C (0) (qx_x hX) rfl rfl dX6_embargoedFor_8 ?_
      refine qr_icmp_ge_f C 69 dX6_embargoedFor_11 (by decide) (fun z => absurd ((sg_le (nE) (i5) (qx_ct hX).2.1 rfl (by omega) (by omega)).mp z) (by omega)) ?_
      refine qr_aload_n C dX6_embargoedFor_14 rfl 0 rfl ?_
      refine gf_X6_24 C (0) (qx_x hX) rfl rfl dX6_embargoedFor_15 ?_
      refine qr_iload C dX6_embargoedFor_18 4 rfl ?_
      refine qr_aald C 5 rfl rfl (3) (qx_ea hX) rfl (j := i5) rfl (by omega) rfl (if_pos (by omega)) dX6_embargoedFor_20 ?_
      refine qr_astore (lv' := [(5, (.ref (ad (2000 + i5)))), (0, (.ref (ad 0))), (1, (.int x1)), (2, (.int x2)), (3, (.int ac)), (4, (.int (nI i5)))]) C dX6_embargoedFor_21 (by decide) rfl ?_
      refine qr_aload C dX6_embargoedFor_23 0 rfl ?_
      refine gf_X6_132 C ((2000 + i5)) (qx_em hX i5 (by omega)) rfl rfl dX6_embargoedFor_25 ?_
      refine qr_iload_n C dX6_embargoedFor_28 rfl 2 rfl ?_
      refine qr_icmp_ne C 63 dX6_embargoedFor_29 (by decide) (fun c29 => ?_) (fun c29 => ?_)
      · skip
        refine qr_iinc (v := (nI (i5 + 1))) (lv' := [(4, (.int (nI (i5 + 1)))), (5, (.ref (ad (2000 + i5)))), (0, (.ref (ad 0))), (1, (.int x1)), (2, (.int x2)), (3, (.int ac))]) C dX6_embargoedFor_63 (w := 5) rfl (nI_1 _) (by decide) rfl ?_
        refine qr_goto (tgt := 5) C dX6_embargoedFor_66 (by decide) ?_
        refine qw_pick [2, 3, 4, 5, 0] (lv' := [(0, (.ref (ad 0))), (1, (.int x1)), (2, (.int x2)), (3, (.int ac)), (4, (.int (nI (i5 + 1))))]) rfl ?_
        exact ih5 (i5 + 1) ac (by omega) (by subst hac; exact (if_neg c29).symm)
      · skip
        refine qr_aload C dX6_embargoedFor_32 0 rfl ?_
        refine gf_X6_133 C ((2000 + i5)) (qx_em hX i5 (by omega)) rfl rfl dX6_embargoedFor_34 ?_
        refine qr_iload_n C dX6_embargoedFor_37 rfl 3 rfl ?_
        refine qr_icmp_le C 63 dX6_embargoedFor_38 (by decide) (fun c38 => ?_) (fun c38 => ?_)
        · skip
          refine qr_iinc (v := (nI (i5 + 1))) (lv' := [(4, (.int (nI (i5 + 1)))), (5, (.ref (ad (2000 + i5)))), (0, (.ref (ad 0))), (1, (.int x1)), (2, (.int x2)), (3, (.int ac))]) C dX6_embargoedFor_63 (w := 5) rfl (nI_1 _) (by decide) rfl ?_
          refine qr_goto (tgt := 5) C dX6_embargoedFor_66 (by decide) ?_
          refine qw_pick [2, 3, 4, 5, 0] (lv' := [(0, (.ref (ad 0))), (1, (.int x1)), (2, (.int x2)), (3, (.int ac)), (4, (.int (nI (i5 + 1))))]) rfl ?_
          exact ih5 (i5 + 1) ac (by omega) (by subst hac; exact ((if_pos c29).trans (if_pos c38)).symm)
        · skip
          refine qr_aload C dX6_embargoedFor_41 0 rfl ?_
          refine qr_aload_n C dX6_embargoedFor_43 rfl 1 rfl ?_
          refine gf_X6_118 C (0) (qx_x hX) rfl rfl dX6_embargoedFor_44 ?_
          refine qr_callNV C (na := 1) (As := [(.int (χ 2 0))]) (rest := []) (k_X1_lastsAt hst D ad g (2000 + i5) ((χ 45 i5)) ((χ 46 i5)) ((χ 47 i5)) ((χ 48 i5)) ((χ 49 i5)) (qx_em hX i5 (by omega)) ((χ 2 0))) ((2000 + i5)) (qx_em hX i5 (by omega)) rfl rfl gi_X6_124.1 gi_X6_124.2.1 gi_X6_124.2.2.1 gi_X6_124.2.2.2.1 gi_X6_124.2.2.2.2 ⟨by decide, by decide, by decide +kernel⟩ rfl rfl (Nat.le_of_ble_eq_true rfl) rfl rfl ⟨Nat.le_of_ble_eq_true rfl, Nat.le_of_ble_eq_true rfl⟩ ⟨Nat.le_of_ble_eq_true rfl, Nat.le_of_ble_eq_true rfl⟩ dX6_embargoedFor_47 (fun v ad2 gc1 hpo2 => ?_)
          obtain ⟨rfl, rfl, rfl⟩ := hpo2
          refine qr_if_eq C 63 dX6_embargoedFor_50 (by decide) (fun c50 => ?_) (fun c50 => ?_)
          · skip
            refine qr_iinc (v := (nI (i5 + 1))) (lv' := [(4, (.int (nI (i5 + 1)))), (5, (.ref (ad (2000 + i5)))), (0, (.ref (ad 0))), (1, (.int x1)), (2, (.int x2)), (3, (.int ac))]) C dX6_embargoedFor_63 (w := 5) rfl (nI_1 _) (by decide) rfl ?_
            refine qr_goto (tgt := 5) C dX6_embargoedFor_66 (by decide) ?_
            refine qw_pick [2, 3, 4, 5, 0] (lv' := [(0, (.ref (ad 0))), (1, (.int x1)), (2, (.int x2)), (3, (.int ac)), (4, (.int (nI (i5 + 1))))]) rfl ?_
            exact ih5 (i5 + 1) ac (by omega) (by subst hac; exact ((if_pos c29).trans ((if_neg c38).trans (if_pos c50))).symm)
          · skip
            refine qr_iload_n C dX6_embargoedFor_53 rfl 4 rfl ?_
            refine qr_iconst (v := 1) C dX6_embargoedFor_54 (by decide) ?_
            refine qr_aload C dX6_embargoedFor_55 0 rfl ?_
            refine gf_X6_217 C ((2000 + i5)) (qx_em hX i5 (by omega)) rfl rfl dX6_embargoedFor_57 ?_
            refine qr_ishl C dX6_embargoedFor_60 ?_
            refine qr_ior C dX6_embargoedFor_61 ?_
            refine qr_istore_n (lv' := [(3, (.int (ac ||| ((1 : Int32) <<< ((χ 46 i5) &&& 31))))), (5, (.ref (ad (2000 + i5)))), (0, (.ref (ad 0))), (1, (.int x1)), (2, (.int x2)), (4, (.int (nI i5)))]) C dX6_embargoedFor_62 rfl (by decide) rfl ?_
            refine qr_iinc (v := (nI (i5 + 1))) (lv' := [(4, (.int (nI (i5 + 1)))), (3, (.int (ac ||| ((1 : Int32) <<< ((χ 46 i5) &&& 31))))), (5, (.ref (ad (2000 + i5)))), (0, (.ref (ad 0))), (1, (.int x1)), (2, (.int x2))]) C dX6_embargoedFor_63 (w := 5) rfl (nI_1 _) (by decide) rfl ?_
            refine qr_goto (tgt := 5) C dX6_embargoedFor_66 (by decide) ?_
            refine qw_pick [3, 4, 5, 1, 0] (lv' := [(0, (.ref (ad 0))), (1, (.int x1)), (2, (.int x2)), (3, (.int (ac ||| ((1 : Int32) <<< ((χ 46 i5) &&& 31))))), (4, (.int (nI (i5 + 1))))]) rfl ?_
            exact ih5 (i5 + 1) (ac ||| ((1 : Int32) <<< ((χ 46 i5) &&& 31))) (by omega) (by subst hac; exact ((if_pos c29).trans ((if_neg c38).trans (if_neg c50))).symm)
  refine qw_pick [2, 3, 4, 1, 0] (lv' := [(0, (.ref (ad 0))), (1, (.int x1)), (2, (.int x2)), (3, (.int (0 : Int32))), (4, (.int (0 : Int32)))]) rfl ?_
  exact L5 (nE) 0 (0 : Int32) (by omega) rfl
