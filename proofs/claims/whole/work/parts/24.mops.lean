def sm_cent (σ : Nat → Nat → Int32) (x1 x2 x3 : Int32) : Int32 := if sm_ent σ x1 x2 x3 = -1 then 1 else 0
set_option maxHeartbeats 4000000 in
set_option maxRecDepth 100000 in
theorem k_X7_sum {l : Launch} (hst : l.stackTraces = false) (D : va_G) (ad : Nat → Nat) (g : qw_G) (σ : Nat → Nat → Int32) (r : Int32) (hM : qm_P D σ r ad g) (n : Nat) (hn : σ 2 0 = nI n) (hn2 : n ≤ 120) (x1 x2 x3 : Int32) : qw_M l yX7_sum [Cond.code yX7_sum cX7_sum 5 (some .int)] { frames := 3, cells := 0, slots := 0, locals := 90 } D ad g [(.ref (ad 100)), (.int x1), (.int x2), (.int x3)] (qm_op D ad g (sm_cent σ x1 x2 x3) (sm_sumO σ x1 (sm_ent σ x1 x2 x3) n) σ σ) 0 0 := by
  refine qw_M.of (maxL := 5) (own := RX7) (lv := [(0, (.ref (ad 100))), (1, (.int x1)), (2, (.int x2)), (3, (.int x3))]) hst (by decide) rfl rfl (Nat.le_of_ble_eq_true rfl) ?_
  intro p e s m args below meth c A C hin
  refine qr_aload_n C dX7_sum_0 rfl 0 rfl ?_
  refine qr_iload_n C dX7_sum_1 rfl 1 rfl ?_
  refine qr_iload_n C dX7_sum_2 rfl 2 rfl ?_
  refine qr_iload_n C dX7_sum_3 rfl 3 rfl ?_
  refine qr_callV C (na := 3) (As := [(.int x1), (.int x2), (.int x3)]) (rest := []) (k_X7_entryOf hst D ad g σ r hM (x1) (x2) (x3)) (100) (hM.1) rfl rfl gi_X7_82 rfl ⟨by decide, by decide, by decide +kernel⟩ rfl rfl (Nat.le_of_ble_eq_true rfl) rfl rfl ⟨Nat.le_of_ble_eq_true rfl, Nat.le_of_ble_eq_true rfl⟩ ⟨Nat.le_of_ble_eq_true rfl, Nat.le_of_ble_eq_true rfl⟩ dX7_sum_4 (fun v ad2 g2 hpo => ?_)
  obtain ⟨rfl, rfl, rfl⟩ := hpo
  refine qr_istore (lv' := [(4, (.int (sm_ent σ (x1) (x2) (x3)))), (0, (.ref (ad 100))), (1, (.int x1)), (2, (.int x2)), (3, (.int x3))]) C dX7_sum_7 (by decide) rfl ?_
  refine qr_aload_n C dX7_sum_9 rfl 1 rfl ?_
  have M10_0 : ∀ bk : Int32, bk = (if (sm_ent σ (x1) (x2) (x3)) = (-1 : Int32) then (1 : Int32) else (0 : Int32)) → qw_W p l e { frames := 3, cells := 0, slots := 0, locals := 90 } s m args below meth c D A 5 (MQ below (qw_Q (qm_op D ad g (sm_cent σ x1 x2 x3) (sm_sumO σ x1 (sm_ent σ x1 x2 x3) n) σ σ) D A) args s 0 0 A) 0 0 ad g 21 [(4, (.int (sm_ent σ (x1) (x2) (x3)))), (0, (.ref (ad 100))), (1, (.int x1)), (2, (.int x2)), (3, (.int x3))] [(.int bk), (.ref (ad 100))] := by
    intro bk hbk
    have hbk : bk = sm_cent σ x1 x2 x3 := hbk.trans (rfl)
    refine qr_callV C (na := 1) (As := [(.int bk)]) (rest := []) (k_X7_refused hst D ad g σ r hM bk) (100) (hM.1) rfl rfl gi_X7_75 rfl ⟨by decide, by decide, by decide +kernel⟩ rfl rfl (Nat.le_of_ble_eq_true rfl) rfl rfl ⟨Nat.le_of_ble_eq_true rfl, Nat.le_of_ble_eq_true rfl⟩ ⟨Nat.le_of_ble_eq_true rfl, Nat.le_of_ble_eq_true rfl⟩ dX7_sum_21 (fun v ad2 gc2 hpo3 => ?_)
    obtain ⟨rfl, rfl, hM4, hfr5⟩ := hpo3
    refine qr_if_eq C 31 dX7_sum_24 (by decide) (fun c24 => ?_) (fun c24 => ?_)
    · skip
      refine qr_aload_n C dX7_sum_31 rfl 1 rfl ?_
      refine qr_iload_n C dX7_sum_32 rfl 2 rfl ?_
      refine qr_iload C dX7_sum_33 0 rfl ?_
      refine qr_callV C (na := 2) (As := [(.int x1), (.int (sm_ent σ (x1) (x2) (x3)))]) (rest := []) (k_X7_sumOf hst D ad gc2 σ bk hM4 n hn hn2 (x1) ((sm_ent σ (x1) (x2) (x3)))) (100) (hM4.1) rfl rfl gi_X7_86 rfl ⟨by decide, by decide, by decide +kernel⟩ rfl rfl (Nat.le_of_ble_eq_true rfl) rfl rfl ⟨Nat.le_of_ble_eq_true rfl, Nat.le_of_ble_eq_true rfl⟩ ⟨Nat.le_of_ble_eq_true rfl, Nat.le_of_ble_eq_true rfl⟩ dX7_sum_35 (fun v ad2 g2 hpo => ?_)
      obtain ⟨rfl, rfl, rfl⟩ := hpo
      exact qr_iret C rfl (Nat.zero_le _) (Nat.zero_le _) dX7_sum_38 ((by subst hbk; exact ⟨rfl, fun t ht => ((hfr5 t ht).trans rfl), Or.inr ⟨sm_ref0.mp c24, rfl, ⟨hM4.1, hM4.2.1, hM4.2.2.1, hM4.2.2.2.1, hM4.2.2.2.2.1, hM4.2.2.2.2.2.1, hM4.2.2.2.2.2.2.1, hM4.2.2.2.2.2.2.2.1, hM4.2.2.2.2.2.2.2.2.1, hM4.2.2.2.2.2.2.2.2.2.1, hM4.2.2.2.2.2.2.2.2.2.2.1, hM4.2.2.2.2.2.2.2.2.2.2.2.1, hM4.2.2.2.2.2.2.2.2.2.2.2.2.1, hM4.2.2.2.2.2.2.2.2.2.2.2.2.2.1, hM4.2.2.2.2.2.2.2.2.2.2.2.2.2.2⟩⟩⟩))
    · skip
      refine qr_iconst (v := 0) C dX7_sum_27 (by decide) ?_
      refine qr_goto (tgt := 38) C dX7_sum_28 (by decide) ?_
      exact qr_iret C rfl (Nat.zero_le _) (Nat.zero_le _) dX7_sum_38 ((by subst hbk; exact ⟨rfl, fun t ht => ((hfr5 t ht).trans rfl), Or.inl ⟨fun z => c24 (sm_ref0.mpr z), rfl, hM4⟩⟩))
  refine qr_iload C dX7_sum_10 0 rfl ?_
  refine qr_iconst (v := -1) C dX7_sum_12 (by decide) ?_
  refine qr_icmp_ne C 20 dX7_sum_13 (by decide) (fun c6 => ?_) (fun c6 => ?_)
  · skip
    refine qr_iconst (v := 0) C dX7_sum_20 (by decide) ?_
    exact M10_0 _ (by simp only [if_neg c6])
  · skip
    refine qr_iconst (v := 1) C dX7_sum_16 (by decide) ?_
    refine qr_goto (tgt := 21) C dX7_sum_17 (by decide) ?_
    exact M10_0 _ (by simp only [if_pos c6])
set_option maxHeartbeats 4000000 in
set_option maxRecDepth 100000 in
theorem k_X7_sumFromSales {l : Launch} (hst : l.stackTraces = false) (D : va_G) (ad : Nat → Nat) (g : qw_G) (σ : Nat → Nat → Int32) (r : Int32) (hM : qm_P D σ r ad g) (n : Nat) (hn : σ 2 0 = nI n) (hn2 : n ≤ 120) (x1 x2 x3 : Int32) : qw_M l yX7_sumFromSales [Cond.code yX7_sumFromSales cX7_sumFromSales 4 (some .int)] { frames := 4, cells := 0, slots := 0, locals := 120 } D ad g [(.ref (ad 100)), (.int x1), (.int x2), (.int x3)] (qm_op D ad g (sm_cent σ x1 x2 x3) (sm_sumO σ x1 (sm_ent σ x1 x2 x3) n) σ σ) 0 0 := by
  refine qw_M.of (maxL := 4) (own := RX7) (lv := [(0, (.ref (ad 100))), (1, (.int x1)), (2, (.int x2)), (3, (.int x3))]) hst (by decide) rfl rfl (Nat.le_of_ble_eq_true rfl) ?_
  intro p e s m args below meth c A C hin
  refine qr_aload_n C dX7_sumFromSales_0 rfl 0 rfl ?_
  refine qr_iload_n C dX7_sumFromSales_1 rfl 1 rfl ?_
  refine qr_iload_n C dX7_sumFromSales_2 rfl 2 rfl ?_
  refine qr_iload_n C dX7_sumFromSales_3 rfl 3 rfl ?_
  refine qr_callV C (na := 3) (As := [(.int x1), (.int x2), (.int x3)]) (rest := []) (k_X7_sum hst D ad g σ r hM n hn hn2 x1 x2 x3) (100) (hM.1) rfl rfl gi_X7_89 rfl ⟨by decide, by decide, by decide +kernel⟩ rfl rfl (Nat.le_of_ble_eq_true rfl) rfl rfl ⟨Nat.le_of_ble_eq_true rfl, Nat.le_of_ble_eq_true rfl⟩ ⟨Nat.le_of_ble_eq_true rfl, Nat.le_of_ble_eq_true rfl⟩ dX7_sumFromSales_4 (fun v ad2 gc1 hpo2 => ?_)
  obtain ⟨rfl, hfr3, hx4⟩ := hpo2
  rcases hx4 with ⟨hc, rfl, hM1⟩ | ⟨hc, rfl, hM1⟩
  · skip
    exact qr_iret C rfl (Nat.zero_le _) (Nat.zero_le _) dX7_sumFromSales_7 (⟨rfl, fun t ht => ((hfr3 t ht).trans rfl), Or.inl ⟨hc, rfl, hM1⟩⟩)
  · skip
    exact qr_iret C rfl (Nat.zero_le _) (Nat.zero_le _) dX7_sumFromSales_7 (⟨rfl, fun t ht => ((hfr3 t ht).trans rfl), Or.inr ⟨hc, rfl, hM1⟩⟩)
def sm_fit (x4 x5 : Int32) : Int32 := (if (sm_in (x4) ((1 : Int32)) ((3 : Int32))) = 0 then (0 : Int32) else (if (sm_in (x5) ((1 : Int32)) ((100 : Int32))) = 0 then (0 : Int32) else (1 : Int32)))
def sm_cemb (σ : Nat → Nat → Int32) (x1 x2 x3 x4 x5 : Int32) : Int32 := if sm_ent σ x1 x2 x3 = -1 then 1 else if sm_fit x4 x5 = 0 then 2 else if σ 9 0 = 40 then 3 else 0
def sm_embS1 (σ : Nat → Nat → Int32) (n : Nat) (x1 e x4 x5 : Int32) : Nat → Nat → Int32 := sg_u (va_up (va_up (va_up (va_up σ 10 (upd (σ 10) n x1)) 11 (upd (σ 11) n e)) 12 (upd (σ 12) n x4)) 13 (upd (σ 13) n (σ 1 0 + x5))) 9 (σ 9 0 + 1)
def sm_embS (σ : Nat → Nat → Int32) (n : Nat) (x1 x2 x3 x4 x5 : Int32) : Nat → Nat → Int32 := sm_dropS (sm_embS1 σ n x1 (sm_ent σ x1 x2 x3) x4 x5) x1.toNatClampNeg x4.toNatClampNeg
theorem sm_ent_ok {σ : Nat → Nat → Int32} {x1 x2 x3 : Int32} (h : ¬ sm_ent σ x1 x2 x3 = -1) : (∃ t, t < 3 ∧ x1 = nI t) ∧ (∃ a, a < 5 ∧ sm_row σ x1 x2 x3 = nI a) ∧ (∃ b, b < 6 ∧ sm_row σ x1 x3 x2 = nI b) := by
  unfold sm_ent at h
  by_cases h1 : sm_isT x1 = 0
  · rw [if_pos h1] at h; exact absurd rfl h
  · rw [if_neg h1] at h
    by_cases h2 : sm_isE (sm_row σ x1 x2 x3) (sm_row σ x1 x3 x2) = 0
    · rw [if_pos h2] at h; exact absurd rfl h
    · exact ⟨sm_isT_ok h1, (sm_isE_ok h2).1, (sm_isE_ok h2).2⟩
theorem sm_fit_ok {x4 x5 : Int32} (h : ¬ sm_fit x4 x5 = 0) : (∃ t, t < 4 ∧ 1 ≤ t ∧ x4 = nI t) ∧ ∃ t, t < 101 ∧ 1 ≤ t ∧ x5 = nI t := by
  have e1 : (1 : Int32).toInt = 1 := by decide
  have e2 : (3 : Int32).toInt = 3 := by decide
  have e3 : (100 : Int32).toInt = 100 := by decide
  unfold sm_fit at h
  by_cases h1 : sm_in x4 1 3 = 0
  · rw [if_pos h1] at h; exact absurd rfl h
  · rw [if_neg h1] at h
    by_cases h2 : sm_in x5 1 100 = 0
    · rw [if_pos h2] at h; exact absurd rfl h
    · rw [sm_in_i] at h1 h2
      obtain ⟨t, ht, hx⟩ := sg_nat (x := x4) (n := 4) (by omega) (by omega) (by omega)
      obtain ⟨t2, ht2, hx2⟩ := sg_nat (x := x5) (n := 101) (by omega) (by omega) (by omega)
      have q1 : x4.toInt = t := by rw [hx, nI_toInt (by omega)]
      have q2 : x5.toInt = t2 := by rw [hx2, nI_toInt (by omega)]
      exact ⟨⟨t, ht, by omega, hx⟩, ⟨t2, ht2, by omega, hx2⟩⟩
theorem sm_cemb_ok {σ : Nat → Nat → Int32} {n : Nat} {x1 x2 x3 x4 x5 : Int32} (hn : σ 9 0 = nI n) (hn2 : n ≤ 40) (h : sm_cemb σ x1 x2 x3 x4 x5 = 0) : ∃ t L, t < 3 ∧ x1 = nI t ∧ L < 4 ∧ 1 ≤ L ∧ x4 = nI L ∧ n < 40 ∧ x1.toNatClampNeg = t ∧ x4.toNatClampNeg = L := by
  unfold sm_cemb at h
  by_cases h1 : sm_ent σ x1 x2 x3 = -1
  · rw [if_pos h1] at h; exact absurd h (by decide)
  · rw [if_neg h1] at h
    by_cases h2 : sm_fit x4 x5 = 0
    · rw [if_pos h2] at h; exact absurd h (by decide)
    · rw [if_neg h2] at h
      by_cases h3 : σ 9 0 = 40
      · rw [if_pos h3] at h; exact absurd h (by decide)
      · obtain ⟨t, ht, hx⟩ := (sm_ent_ok h1).1
        obtain ⟨L, hL, hL1, hx4⟩ := (sm_fit_ok h2).1
        refine ⟨t, L, ht, hx, hL, hL1, hx4, ?_, by rw [hx, nI_clamp (by omega)], by rw [hx4, nI_clamp (by omega)]⟩
        have : ¬ n = 40 := fun z => h3 (by rw [hn, z]; rfl)
        omega
set_option maxHeartbeats 4000000 in
set_option maxRecDepth 100000 in
theorem k_X7_embargo {l : Launch} (hst : l.stackTraces = false) (D : va_G) (ad : Nat → Nat) (g : qw_G) (σ : Nat → Nat → Int32) (r : Int32) (hM : qm_P D σ r ad g) (n : Nat) (hn : σ 9 0 = nI n) (hn2 : n ≤ 40) (x1 x2 x3 x4 x5 : Int32) : qw_M l yX7_embargo [Cond.code yX7_embargo cX7_embargo 8 (some .int)] { frames := 3, cells := 0, slots := 0, locals := 100 } D ad g [(.ref (ad 100)), (.int x1), (.int x2), (.int x3), (.int x4), (.int x5)] (qm_op D ad g (sm_cemb σ x1 x2 x3 x4 x5) (σ 9 0) σ (sm_embS σ n x1 x2 x3 x4 x5)) 0 0 := by
  refine qw_M.of (maxL := 8) (own := RX7) (lv := [(0, (.ref (ad 100))), (1, (.int x1)), (2, (.int x2)), (3, (.int x3)), (4, (.int x4)), (5, (.int x5))]) hst (by decide) rfl rfl (Nat.le_of_ble_eq_true rfl) ?_
  intro p e s m args below meth c A C hin
  refine qr_aload_n C dX7_embargo_0 rfl 0 rfl ?_
  refine qr_iload_n C dX7_embargo_1 rfl 1 rfl ?_
  refine qr_iload_n C dX7_embargo_2 rfl 2 rfl ?_
  refine qr_iload_n C dX7_embargo_3 rfl 3 rfl ?_
  refine qr_callV C (na := 3) (As := [(.int x1), (.int x2), (.int x3)]) (rest := []) (k_X7_entryOf hst D ad g σ r hM (x1) (x2) (x3)) (100) (hM.1) rfl rfl gi_X7_82 rfl ⟨by decide, by decide, by decide +kernel⟩ rfl rfl (Nat.le_of_ble_eq_true rfl) rfl rfl ⟨Nat.le_of_ble_eq_true rfl, Nat.le_of_ble_eq_true rfl⟩ ⟨Nat.le_of_ble_eq_true rfl, Nat.le_of_ble_eq_true rfl⟩ dX7_embargo_4 (fun v ad2 g2 hpo => ?_)
  obtain ⟨rfl, rfl, rfl⟩ := hpo
  refine qr_istore (lv' := [(6, (.int (sm_ent σ (x1) (x2) (x3)))), (0, (.ref (ad 100))), (1, (.int x1)), (2, (.int x2)), (3, (.int x3)), (4, (.int x4)), (5, (.int x5))]) C dX7_embargo_7 (by decide) rfl ?_
  have M9_0 : ∀ b9 : Int32, b9 = (if (sm_in (x4) ((1 : Int32)) ((3 : Int32))) = 0 then (0 : Int32) else (if (sm_in (x5) ((1 : Int32)) ((100 : Int32))) = 0 then (0 : Int32) else (1 : Int32))) → qw_W p l e { frames := 3, cells := 0, slots := 0, locals := 100 } s m args below meth c D A 8 (MQ below (qw_Q (qm_op D ad g (sm_cemb σ x1 x2 x3 x4 x5) (σ 9 0) σ (sm_embS σ n x1 x2 x3 x4 x5)) D A) args s 0 0 A) 0 0 ad g 35 [(6, (.int (sm_ent σ (x1) (x2) (x3)))), (0, (.ref (ad 100))), (1, (.int x1)), (2, (.int x2)), (3, (.int x3)), (4, (.int x4)), (5, (.int x5))] [(.int b9)] := by
    intro b9 hb9
    refine qr_istore (lv' := [(7, (.int b9)), (6, (.int (sm_ent σ (x1) (x2) (x3)))), (0, (.ref (ad 100))), (1, (.int x1)), (2, (.int x2)), (3, (.int x3)), (4, (.int x4)), (5, (.int x5))]) C dX7_embargo_35 (by decide) rfl ?_
    refine qr_aload_n C dX7_embargo_37 rfl 2 rfl ?_
    have M38_1 : ∀ bk : Int32, bk = (if (sm_ent σ (x1) (x2) (x3)) = (-1 : Int32) then (1 : Int32) else (if b9 = 0 then (2 : Int32) else (if (σ 9 0) = (40 : Int32) then (3 : Int32) else (0 : Int32)))) → qw_W p l e { frames := 3, cells := 0, slots := 0, locals := 100 } s m args below meth c D A 8 (MQ below (qw_Q (qm_op D ad g (sm_cemb σ x1 x2 x3 x4 x5) (σ 9 0) σ (sm_embS σ n x1 x2 x3 x4 x5)) D A) args s 0 0 A) 0 0 ad g 71 [(7, (.int b9)), (6, (.int (sm_ent σ (x1) (x2) (x3)))), (0, (.ref (ad 100))), (1, (.int x1)), (2, (.int x2)), (3, (.int x3)), (4, (.int x4)), (5, (.int x5))] [(.int bk), (.ref (ad 100))] := by
      intro bk hbk
      have hbk : bk = sm_cemb σ x1 x2 x3 x4 x5 := hbk.trans ((by subst hb9; rfl))
      refine qr_callV C (na := 1) (As := [(.int bk)]) (rest := []) (k_X7_refused hst D ad g σ r hM bk) (100) (hM.1) rfl rfl gi_X7_75 rfl ⟨by decide, by decide, by decide +kernel⟩ rfl rfl (Nat.le_of_ble_eq_true rfl) rfl rfl ⟨Nat.le_of_ble_eq_true rfl, Nat.le_of_ble_eq_true rfl⟩ ⟨Nat.le_of_ble_eq_true rfl, Nat.le_of_ble_eq_true rfl⟩ dX7_embargo_71 (fun v ad2 gc3 hpo4 => ?_)
      obtain ⟨rfl, rfl, hM5, hfr6⟩ := hpo4
      refine qr_if_eq C 79 dX7_embargo_74 (by decide) (fun c74 => ?_) (fun c74 => ?_)
      · skip
        obtain ⟨t0, L0, ht0, hx1, hL0, hL1, hx4, hn3, hx1c, hx4c⟩ := sm_cemb_ok hn hn2 (hbk.symm.trans (sm_ref0.mp c74))
        refine qr_aload_n C dX7_embargo_79 rfl 2 rfl ?_
        refine gf_X7_29 C (100) (hM5.1) rfl rfl dX7_embargo_80 ?_
        refine qr_aload_n C dX7_embargo_83 rfl 2 rfl ?_
        refine gf_X7_95 C (100) (hM5.1) rfl rfl dX7_embargo_84 ?_
        refine qr_iload_n C dX7_embargo_87 rfl 3 rfl ?_
        refine qr_iast C (110) (hM5.2.2.2.2.2.2.2.1) rfl (j := n) hn (by omega) rfl dX7_embargo_88 ?_
        generalize hg8 : va_up gc3 (110) _ = g7
        have f9 : g7 (110) = some (.inl (D.1 20, 40, .inl (upd (σ 10) (n) x1))) := by rw [← hg8]; exact va_up_self _ _ _
        have f10 : g7 (100) = gc3 (100) := by rw [← hg8]; exact va_up_ne _ _ (by omega)
        have f11 : g7 (103) = gc3 (103) := by rw [← hg8]; exact va_up_ne _ _ (by omega)
        have f12 : g7 (104) = gc3 (104) := by rw [← hg8]; exact va_up_ne _ _ (by omega)
        have f13 : g7 (105) = gc3 (105) := by rw [← hg8]; exact va_up_ne _ _ (by omega)
        have f14 : g7 (106) = gc3 (106) := by rw [← hg8]; exact va_up_ne _ _ (by omega)
        have f15 : g7 (107) = gc3 (107) := by rw [← hg8]; exact va_up_ne _ _ (by omega)
        have f16 : g7 (108) = gc3 (108) := by rw [← hg8]; exact va_up_ne _ _ (by omega)
        have f17 : g7 (111) = gc3 (111) := by rw [← hg8]; exact va_up_ne _ _ (by omega)
        have f18 : g7 (112) = gc3 (112) := by rw [← hg8]; exact va_up_ne _ _ (by omega)
        have f19 : g7 (113) = gc3 (113) := by rw [← hg8]; exact va_up_ne _ _ (by omega)
        have f20 : g7 (114) = gc3 (114) := by rw [← hg8]; exact va_up_ne _ _ (by omega)
        have f21 : g7 (115) = gc3 (115) := by rw [← hg8]; exact va_up_ne _ _ (by omega)
        have f22 : g7 (116) = gc3 (116) := by rw [← hg8]; exact va_up_ne _ _ (by omega)
        have f23 : g7 (117) = gc3 (117) := by rw [← hg8]; exact va_up_ne _ _ (by omega)
        refine qr_aload_n C dX7_embargo_89 rfl 2 rfl ?_
        refine gf_X7_32 C (100) ((f10.trans (hM5.1))) rfl rfl dX7_embargo_90 ?_
        refine qr_aload_n C dX7_embargo_93 rfl 2 rfl ?_
        refine gf_X7_95 C (100) ((f10.trans (hM5.1))) rfl rfl dX7_embargo_94 ?_
        refine qr_iload C dX7_embargo_97 1 rfl ?_
        refine qr_iast C (111) ((f17.trans (hM5.2.2.2.2.2.2.2.2.1))) rfl (j := n) hn (by omega) rfl dX7_embargo_99 ?_
        generalize hg25 : va_up g7 (111) _ = g24
        have f26 : g24 (111) = some (.inl (D.1 20, 40, .inl (upd (σ 11) (n) (sm_ent σ (x1) (x2) (x3))))) := by rw [← hg25]; exact va_up_self _ _ _
        have f27 : g24 (100) = g7 (100) := by rw [← hg25]; exact va_up_ne _ _ (by omega)
        have f28 : g24 (103) = g7 (103) := by rw [← hg25]; exact va_up_ne _ _ (by omega)
        have f29 : g24 (104) = g7 (104) := by rw [← hg25]; exact va_up_ne _ _ (by omega)
        have f30 : g24 (105) = g7 (105) := by rw [← hg25]; exact va_up_ne _ _ (by omega)
        have f31 : g24 (106) = g7 (106) := by rw [← hg25]; exact va_up_ne _ _ (by omega)
        have f32 : g24 (107) = g7 (107) := by rw [← hg25]; exact va_up_ne _ _ (by omega)
        have f33 : g24 (108) = g7 (108) := by rw [← hg25]; exact va_up_ne _ _ (by omega)
        have f34 : g24 (112) = g7 (112) := by rw [← hg25]; exact va_up_ne _ _ (by omega)
        have f35 : g24 (113) = g7 (113) := by rw [← hg25]; exact va_up_ne _ _ (by omega)
        have f36 : g24 (114) = g7 (114) := by rw [← hg25]; exact va_up_ne _ _ (by omega)
        have f37 : g24 (115) = g7 (115) := by rw [← hg25]; exact va_up_ne _ _ (by omega)
        have f38 : g24 (116) = g7 (116) := by rw [← hg25]; exact va_up_ne _ _ (by omega)
        have f39 : g24 (117) = g7 (117) := by rw [← hg25]; exact va_up_ne _ _ (by omega)
        have f40 : g24 (110) = g7 (110) := by rw [← hg25]; exact va_up_ne _ _ (by omega)
        refine qr_aload_n C dX7_embargo_100 rfl 2 rfl ?_
        refine gf_X7_35 C (100) ((f27.trans ((f10.trans (hM5.1))))) rfl rfl dX7_embargo_101 ?_
        refine qr_aload_n C dX7_embargo_104 rfl 2 rfl ?_
        refine gf_X7_95 C (100) ((f27.trans ((f10.trans (hM5.1))))) rfl rfl dX7_embargo_105 ?_
        refine qr_iload C dX7_embargo_108 6 rfl ?_
        refine qr_iast C (112) ((f34.trans ((f18.trans (hM5.2.2.2.2.2.2.2.2.2.1))))) rfl (j := n) hn (by omega) rfl dX7_embargo_110 ?_
        generalize hg42 : va_up g24 (112) _ = g41
        have f43 : g41 (112) = some (.inl (D.1 20, 40, .inl (upd (σ 12) (n) x4))) := by rw [← hg42]; exact va_up_self _ _ _
        have f44 : g41 (100) = g24 (100) := by rw [← hg42]; exact va_up_ne _ _ (by omega)
        have f45 : g41 (103) = g24 (103) := by rw [← hg42]; exact va_up_ne _ _ (by omega)
        have f46 : g41 (104) = g24 (104) := by rw [← hg42]; exact va_up_ne _ _ (by omega)
        have f47 : g41 (105) = g24 (105) := by rw [← hg42]; exact va_up_ne _ _ (by omega)
        have f48 : g41 (106) = g24 (106) := by rw [← hg42]; exact va_up_ne _ _ (by omega)
        have f49 : g41 (107) = g24 (107) := by rw [← hg42]; exact va_up_ne _ _ (by omega)
        have f50 : g41 (108) = g24 (108) := by rw [← hg42]; exact va_up_ne _ _ (by omega)
        have f51 : g41 (113) = g24 (113) := by rw [← hg42]; exact va_up_ne _ _ (by omega)
        have f52 : g41 (114) = g24 (114) := by rw [← hg42]; exact va_up_ne _ _ (by omega)
        have f53 : g41 (115) = g24 (115) := by rw [← hg42]; exact va_up_ne _ _ (by omega)
        have f54 : g41 (116) = g24 (116) := by rw [← hg42]; exact va_up_ne _ _ (by omega)
        have f55 : g41 (117) = g24 (117) := by rw [← hg42]; exact va_up_ne _ _ (by omega)
        have f56 : g41 (110) = g24 (110) := by rw [← hg42]; exact va_up_ne _ _ (by omega)
        have f57 : g41 (111) = g24 (111) := by rw [← hg42]; exact va_up_ne _ _ (by omega)
        refine qr_aload_n C dX7_embargo_111 rfl 2 rfl ?_
        refine gf_X7_38 C (100) ((f44.trans ((f27.trans ((f10.trans (hM5.1))))))) rfl rfl dX7_embargo_112 ?_
        refine qr_aload_n C dX7_embargo_115 rfl 2 rfl ?_
        refine gf_X7_95 C (100) ((f44.trans ((f27.trans ((f10.trans (hM5.1))))))) rfl rfl dX7_embargo_116 ?_
        refine qr_aload_n C dX7_embargo_119 rfl 2 rfl ?_
        refine gf_X7_92 C (100) ((f44.trans ((f27.trans ((f10.trans (hM5.1))))))) rfl rfl dX7_embargo_120 ?_
        refine qr_iload C dX7_embargo_123 7 rfl ?_
        refine qr_iadd C dX7_embargo_125 ?_
        refine qr_iast C (113) ((f51.trans ((f35.trans ((f19.trans (hM5.2.2.2.2.2.2.2.2.2.2.1))))))) rfl (j := n) hn (by omega) rfl dX7_embargo_126 ?_
        generalize hg59 : va_up g41 (113) _ = g58
        have f60 : g58 (113) = some (.inl (D.1 20, 40, .inl (upd (σ 13) (n) ((σ 1 0) + x5)))) := by rw [← hg59]; exact va_up_self _ _ _
        have f61 : g58 (100) = g41 (100) := by rw [← hg59]; exact va_up_ne _ _ (by omega)
        have f62 : g58 (103) = g41 (103) := by rw [← hg59]; exact va_up_ne _ _ (by omega)
        have f63 : g58 (104) = g41 (104) := by rw [← hg59]; exact va_up_ne _ _ (by omega)
        have f64 : g58 (105) = g41 (105) := by rw [← hg59]; exact va_up_ne _ _ (by omega)
        have f65 : g58 (106) = g41 (106) := by rw [← hg59]; exact va_up_ne _ _ (by omega)
        have f66 : g58 (107) = g41 (107) := by rw [← hg59]; exact va_up_ne _ _ (by omega)
        have f67 : g58 (108) = g41 (108) := by rw [← hg59]; exact va_up_ne _ _ (by omega)
        have f68 : g58 (114) = g41 (114) := by rw [← hg59]; exact va_up_ne _ _ (by omega)
        have f69 : g58 (115) = g41 (115) := by rw [← hg59]; exact va_up_ne _ _ (by omega)
        have f70 : g58 (116) = g41 (116) := by rw [← hg59]; exact va_up_ne _ _ (by omega)
        have f71 : g58 (117) = g41 (117) := by rw [← hg59]; exact va_up_ne _ _ (by omega)
        have f72 : g58 (110) = g41 (110) := by rw [← hg59]; exact va_up_ne _ _ (by omega)
        have f73 : g58 (111) = g41 (111) := by rw [← hg59]; exact va_up_ne _ _ (by omega)
        have f74 : g58 (112) = g41 (112) := by rw [← hg59]; exact va_up_ne _ _ (by omega)
        refine qr_aload_n C dX7_embargo_127 rfl 2 rfl ?_
        refine qr_dup C dX7_embargo_128 rfl ?_
        refine gf_X7_95 C (100) ((f61.trans ((f44.trans ((f27.trans ((f10.trans (hM5.1))))))))) rfl rfl dX7_embargo_129 ?_
        refine qr_iconst (v := 1) C dX7_embargo_132 (by decide) ?_
        refine qr_iadd C dX7_embargo_133 ?_
        refine pf_X7_95 C (100) ((f61.trans ((f44.trans ((f27.trans ((f10.trans (hM5.1))))))))) rfl rfl rfl (Nat.le_of_ble_eq_true rfl) rfl dX7_embargo_134 ?_
        generalize hg76 : va_up g58 (100) _ = g75
        have f77 : g75 (100) = some (.inr (6, [(.int bk), (.int (σ 1 0)), (.int (σ 2 0)), (.ref (ad 103)), (.ref (ad 104)), (.ref (ad 105)), (.ref (ad 106)), (.ref (ad 107)), (.ref (ad 108)), (.int ((σ 9 0) + (1 : Int32))), (.ref (ad 110)), (.ref (ad 111)), (.ref (ad 112)), (.ref (ad 113)), (.ref (ad 114)), (.ref (ad 115)), (.ref (ad 116)), (.ref (ad 117)), (.int (σ 18 0)), (.int (σ 19 0))])) := by rw [← hg76]; exact va_up_self _ _ _
        have f78 : g75 (103) = g58 (103) := by rw [← hg76]; exact va_up_ne _ _ (by omega)
        have f79 : g75 (104) = g58 (104) := by rw [← hg76]; exact va_up_ne _ _ (by omega)
        have f80 : g75 (105) = g58 (105) := by rw [← hg76]; exact va_up_ne _ _ (by omega)
        have f81 : g75 (106) = g58 (106) := by rw [← hg76]; exact va_up_ne _ _ (by omega)
        have f82 : g75 (107) = g58 (107) := by rw [← hg76]; exact va_up_ne _ _ (by omega)
        have f83 : g75 (108) = g58 (108) := by rw [← hg76]; exact va_up_ne _ _ (by omega)
        have f84 : g75 (114) = g58 (114) := by rw [← hg76]; exact va_up_ne _ _ (by omega)
        have f85 : g75 (115) = g58 (115) := by rw [← hg76]; exact va_up_ne _ _ (by omega)
        have f86 : g75 (116) = g58 (116) := by rw [← hg76]; exact va_up_ne _ _ (by omega)
        have f87 : g75 (117) = g58 (117) := by rw [← hg76]; exact va_up_ne _ _ (by omega)
        have f88 : g75 (110) = g58 (110) := by rw [← hg76]; exact va_up_ne _ _ (by omega)
        have f89 : g75 (111) = g58 (111) := by rw [← hg76]; exact va_up_ne _ _ (by omega)
        have f90 : g75 (112) = g58 (112) := by rw [← hg76]; exact va_up_ne _ _ (by omega)
        have f91 : g75 (113) = g58 (113) := by rw [← hg76]; exact va_up_ne _ _ (by omega)
        refine qr_aload_n C dX7_embargo_137 rfl 2 rfl ?_
        refine qr_iload_n C dX7_embargo_138 rfl 3 rfl ?_
        refine qr_iload C dX7_embargo_139 6 rfl ?_
        have hM96 : qm_P D (sm_embS1 σ n x1 (sm_ent σ x1 x2 x3) x4 x5) bk ad g75 := ⟨f77, (f78.trans ((f62.trans ((f45.trans ((f28.trans ((f11.trans (hM5.2.1)))))))))), (f79.trans ((f63.trans ((f46.trans ((f29.trans ((f12.trans (hM5.2.2.1)))))))))), (f80.trans ((f64.trans ((f47.trans ((f30.trans ((f13.trans (hM5.2.2.2.1)))))))))), (f81.trans ((f65.trans ((f48.trans ((f31.trans ((f14.trans (hM5.2.2.2.2.1)))))))))), (f82.trans ((f66.trans ((f49.trans ((f32.trans ((f15.trans (hM5.2.2.2.2.2.1)))))))))), (f83.trans ((f67.trans ((f50.trans ((f33.trans ((f16.trans (hM5.2.2.2.2.2.2.1)))))))))), (f88.trans ((f72.trans ((f56.trans ((f40.trans (f9)))))))), (f89.trans ((f73.trans ((f57.trans (f26)))))), (f90.trans ((f74.trans (f43)))), (f91.trans (f60)), (f84.trans ((f68.trans ((f52.trans ((f36.trans ((f20.trans (hM5.2.2.2.2.2.2.2.2.2.2.2.1)))))))))), (f85.trans ((f69.trans ((f53.trans ((f37.trans ((f21.trans (hM5.2.2.2.2.2.2.2.2.2.2.2.2.1)))))))))), (f86.trans ((f70.trans ((f54.trans ((f38.trans ((f22.trans (hM5.2.2.2.2.2.2.2.2.2.2.2.2.2.1)))))))))), (f87.trans ((f71.trans ((f55.trans ((f39.trans ((f23.trans (hM5.2.2.2.2.2.2.2.2.2.2.2.2.2.2))))))))))⟩
        refine qr_callV C (na := 2) (As := [(.int x1), (.int x4)]) (rest := []) (k_X7_drop hst D ad g75 (sm_embS1 σ n x1 (sm_ent σ x1 x2 x3) x4 x5) bk hM96 (x1) (x4) (t0) (L0) ht0 (by omega) hx1 hx4) (100) (f77) rfl rfl gi_X7_78 rfl ⟨by decide, by decide, by decide +kernel⟩ rfl rfl (Nat.le_of_ble_eq_true rfl) rfl rfl ⟨Nat.le_of_ble_eq_true rfl, Nat.le_of_ble_eq_true rfl⟩ ⟨Nat.le_of_ble_eq_true rfl, Nat.le_of_ble_eq_true rfl⟩ dX7_embargo_141 (fun v ad2 gc92 hpo93 => ?_)
        obtain ⟨rfl, rfl, hM94, hfr95⟩ := hpo93
        refine qr_pop C dX7_embargo_144 rfl ?_
        refine qr_aload_n C dX7_embargo_145 rfl 2 rfl ?_
        refine gf_X7_95 C (100) (hM94.1) rfl rfl dX7_embargo_146 ?_
        refine qr_iconst (v := 1) C dX7_embargo_149 (by decide) ?_
        refine qr_isub C dX7_embargo_150 ?_
        exact qr_iret C rfl (Nat.zero_le _) (Nat.zero_le _) dX7_embargo_151 ((by subst hbk; exact ⟨rfl, fun t ht => ((hfr95 t ht).trans ((congrFun hg76 t).symm.trans ((va_up_ne _ _ (by omega)).trans ((congrFun hg59 t).symm.trans ((va_up_ne _ _ (by omega)).trans ((congrFun hg42 t).symm.trans ((va_up_ne _ _ (by omega)).trans ((congrFun hg25 t).symm.trans ((va_up_ne _ _ (by omega)).trans ((congrFun hg8 t).symm.trans ((va_up_ne _ _ (by omega)).trans ((hfr6 t ht).trans rfl)))))))))))), Or.inr ⟨sm_ref0.mp c74, sg_vi (by show σ 9 0 = σ 9 0 + 1 - 1; rw [Int32.add_sub_cancel]), (by unfold sm_embS; rw [hx1c, hx4c]; exact hM94)⟩⟩))
      · skip
        refine qr_iconst (v := 0) C dX7_embargo_77 (by decide) ?_
        exact qr_iret C rfl (Nat.zero_le _) (Nat.zero_le _) dX7_embargo_78 ((by subst hbk; exact ⟨rfl, fun t ht => ((hfr6 t ht).trans rfl), Or.inl ⟨fun z => c74 (sm_ref0.mpr z), rfl, hM5⟩⟩))
    refine qr_iload C dX7_embargo_38 1 rfl ?_
    refine qr_iconst (v := -1) C dX7_embargo_40 (by decide) ?_
    refine qr_icmp_ne C 48 dX7_embargo_41 (by decide) (fun c97 => ?_) (fun c97 => ?_)
    · skip
      refine qr_iload C dX7_embargo_48 0 rfl ?_
      refine qr_if_ne C 57 dX7_embargo_50 (by decide) (fun c98 => ?_) (fun c98 => ?_)
      · skip
        refine qr_aload_n C dX7_embargo_57 rfl 2 rfl ?_
        refine gf_X7_95 C (100) (hM.1) rfl rfl dX7_embargo_58 ?_
        refine qr_bipush (v := 40) C dX7_embargo_61 (by decide) ?_
        refine qr_icmp_ne C 70 dX7_embargo_63 (by decide) (fun c99 => ?_) (fun c99 => ?_)
        · skip
          refine qr_iconst (v := 0) C dX7_embargo_70 (by decide) ?_
          exact M38_1 _ (by simp only [if_neg c97, if_neg c98, if_neg c99])
        · skip
          refine qr_iconst (v := 3) C dX7_embargo_66 (by decide) ?_
          refine qr_goto (tgt := 71) C dX7_embargo_67 (by decide) ?_
          exact M38_1 _ (by simp only [if_neg c97, if_neg c98, if_pos c99])
      · skip
        refine qr_iconst (v := 2) C dX7_embargo_53 (by decide) ?_
        refine qr_goto (tgt := 71) C dX7_embargo_54 (by decide) ?_
        exact M38_1 _ (by simp only [if_neg c97, if_pos c98])
    · skip
      refine qr_iconst (v := 1) C dX7_embargo_44 (by decide) ?_
      refine qr_goto (tgt := 71) C dX7_embargo_45 (by decide) ?_
      exact M38_1 _ (by simp only [if_pos c97])
  refine qr_iload C dX7_embargo_9 5 rfl ?_
  refine qr_iconst (v := 1) C dX7_embargo_11 (by decide) ?_
  refine qr_iconst (v := 3) C dX7_embargo_12 (by decide) ?_
  refine qr_callS C (na := 3) (As := [(.int x4), (.int (1 : Int32)), (.int (3 : Int32))]) (rest := []) (k_X7_in hst D ad g (x4) ((1 : Int32)) ((3 : Int32))) gi_X7_57 ⟨by decide, by decide, by decide +kernel⟩ rfl rfl (Nat.le_of_ble_eq_true rfl) rfl rfl ⟨Nat.le_of_ble_eq_true rfl, Nat.le_of_ble_eq_true rfl⟩ ⟨Nat.le_of_ble_eq_true rfl, Nat.le_of_ble_eq_true rfl⟩ dX7_embargo_13 (fun v ad2 g2 hpo => ?_)
  obtain ⟨rfl, rfl, rfl⟩ := hpo
  refine qr_if_eq C 34 dX7_embargo_16 (by decide) (fun c100 => ?_) (fun c100 => ?_)
  · skip
    refine qr_iconst (v := 0) C dX7_embargo_34 (by decide) ?_
    exact M9_0 _ (by simp only [if_pos c100])
  · skip
    refine qr_iload C dX7_embargo_19 6 rfl ?_
    refine qr_iconst (v := 1) C dX7_embargo_21 (by decide) ?_
    refine qr_bipush (v := 100) C dX7_embargo_22 (by decide) ?_
    refine qr_callS C (na := 3) (As := [(.int x5), (.int (1 : Int32)), (.int (100 : Int32))]) (rest := []) (k_X7_in hst D ad g (x5) ((1 : Int32)) ((100 : Int32))) gi_X7_57 ⟨by decide, by decide, by decide +kernel⟩ rfl rfl (Nat.le_of_ble_eq_true rfl) rfl rfl ⟨Nat.le_of_ble_eq_true rfl, Nat.le_of_ble_eq_true rfl⟩ ⟨Nat.le_of_ble_eq_true rfl, Nat.le_of_ble_eq_true rfl⟩ dX7_embargo_24 (fun v ad2 g2 hpo => ?_)
    obtain ⟨rfl, rfl, rfl⟩ := hpo
    refine qr_if_eq C 34 dX7_embargo_27 (by decide) (fun c101 => ?_) (fun c101 => ?_)
    · skip
      refine qr_iconst (v := 0) C dX7_embargo_34 (by decide) ?_
      exact M9_0 _ (by simp only [if_neg c100, if_pos c101])
    · skip
      refine qr_iconst (v := 1) C dX7_embargo_30 (by decide) ?_
      refine qr_goto (tgt := 35) C dX7_embargo_31 (by decide) ?_
      exact M9_0 _ (by simp only [if_neg c100, if_neg c101])
def sm_clift (σ : Nat → Nat → Int32) (x1 : Int32) : Int32 := if sm_in x1 0 (σ 9 0 - 1) = 0 then 1 else if sm_lasts σ x1.toNatClampNeg = 0 then 2 else 0
def sm_liftS (σ : Nat → Nat → Int32) (x1 : Int32) : Nat → Nat → Int32 := sm_dropS (va_up σ 14 (upd (σ 14) x1.toNatClampNeg 1)) (σ 10 x1.toNatClampNeg).toNatClampNeg (σ 12 x1.toNatClampNeg).toNatClampNeg
set_option maxHeartbeats 4000000 in
set_option maxRecDepth 100000 in
theorem k_X7_lift {l : Launch} (hst : l.stackTraces = false) (D : va_G) (ad : Nat → Nat) (g : qw_G) (σ : Nat → Nat → Int32) (r : Int32) (hM : qm_P D σ r ad g) (n : Nat) (hn : σ 9 0 = nI n) (hn2 : n ≤ 40) (hT : ∀ i, i < n → ∃ t, t < 3 ∧ σ 10 i = nI t) (hL : ∀ i, i < n → ∃ t, t < 4 ∧ σ 12 i = nI t) (x1 : Int32) : qw_M l yX7_lift [Cond.code yX7_lift cX7_lift 3 (some .int)] { frames := 2, cells := 0, slots := 0, locals := 80 } D ad g [(.ref (ad 100)), (.int x1)] (qm_op D ad g (sm_clift σ x1) (σ 13 x1.toNatClampNeg - σ 1 0) σ (sm_liftS σ x1)) 0 0 := by
  refine qw_M.of (maxL := 3) (own := RX7) (lv := [(0, (.ref (ad 100))), (1, (.int x1))]) hst (by decide) rfl rfl (Nat.le_of_ble_eq_true rfl) ?_
  intro p e s m args below meth c A C hin
  refine qr_iload_n C dX7_lift_0 rfl 1 rfl ?_
  refine qr_iconst (v := 0) C dX7_lift_1 (by decide) ?_
  refine qr_aload_n C dX7_lift_2 rfl 0 rfl ?_
  refine gf_X7_95 C (100) (hM.1) rfl rfl dX7_lift_3 ?_
  refine qr_iconst (v := 1) C dX7_lift_6 (by decide) ?_
  refine qr_isub C dX7_lift_7 ?_
  refine qr_callS C (na := 3) (As := [(.int x1), (.int (0 : Int32)), (.int ((σ 9 0) - (1 : Int32)))]) (rest := []) (k_X7_in hst D ad g (x1) ((0 : Int32)) (((σ 9 0) - (1 : Int32)))) gi_X7_57 ⟨by decide, by decide, by decide +kernel⟩ rfl rfl (Nat.le_of_ble_eq_true rfl) rfl rfl ⟨Nat.le_of_ble_eq_true rfl, Nat.le_of_ble_eq_true rfl⟩ ⟨Nat.le_of_ble_eq_true rfl, Nat.le_of_ble_eq_true rfl⟩ dX7_lift_8 (fun v ad2 g2 hpo => ?_)
  obtain ⟨rfl, rfl, rfl⟩ := hpo
  refine qr_istore_n (lv' := [(2, (.int (sm_in (x1) ((0 : Int32)) (((σ 9 0) - (1 : Int32)))))), (0, (.ref (ad 100))), (1, (.int x1))]) C dX7_lift_11 rfl (by decide) rfl ?_
  refine qr_aload_n C dX7_lift_12 rfl 1 rfl ?_
  have M13_0 : ∀ bk : Int32, bk = (if (sm_in (x1) ((0 : Int32)) (((σ 9 0) - (1 : Int32)))) = 0 then (1 : Int32) else (if (sm_lasts σ (x1.toNatClampNeg)) = 0 then (2 : Int32) else (0 : Int32))) → qw_W p l e { frames := 2, cells := 0, slots := 0, locals := 80 } s m args below meth c D A 3 (MQ below (qw_Q (qm_op D ad g (sm_clift σ x1) (σ 13 x1.toNatClampNeg - σ 1 0) σ (sm_liftS σ x1)) D A) args s 0 0 A) 0 0 ad g 34 [(2, (.int (sm_in (x1) ((0 : Int32)) (((σ 9 0) - (1 : Int32)))))), (0, (.ref (ad 100))), (1, (.int x1))] [(.int bk), (.ref (ad 100))] := by
    intro bk hbk
    have hbk : bk = sm_clift σ x1 := hbk.trans (rfl)
    refine qr_callV C (na := 1) (As := [(.int bk)]) (rest := []) (k_X7_refused hst D ad g σ r hM bk) (100) (hM.1) rfl rfl gi_X7_75 rfl ⟨by decide, by decide, by decide +kernel⟩ rfl rfl (Nat.le_of_ble_eq_true rfl) rfl rfl ⟨Nat.le_of_ble_eq_true rfl, Nat.le_of_ble_eq_true rfl⟩ ⟨Nat.le_of_ble_eq_true rfl, Nat.le_of_ble_eq_true rfl⟩ dX7_lift_34 (fun v ad2 gc2 hpo3 => ?_)
    obtain ⟨rfl, rfl, hM4, hfr5⟩ := hpo3
    refine qr_if_eq C 42 dX7_lift_37 (by decide) (fun c37 => ?_) (fun c37 => ?_)
    · skip
      have hok := hbk.symm.trans (sm_ref0.mp c37)
      have c14 : ¬ sm_in x1 0 (σ 9 0 - 1) = 0 := fun z => absurd ((if_pos z).symm.trans hok) (by decide)
      obtain ⟨i0, hi0, hx1⟩ := sm_in_n hn (by omega) c14
      obtain ⟨t0, ht0, htt⟩ := hT i0 hi0
      obtain ⟨L0, hL0, htL⟩ := hL i0 hi0
      have hic : x1.toNatClampNeg = i0 := by rw [hx1, nI_clamp (by omega)]
      have htc : (σ 10 i0).toNatClampNeg = t0 := by rw [htt, nI_clamp (by omega)]
      have hLc : (σ 12 i0).toNatClampNeg = L0 := by rw [htL, nI_clamp (by omega)]
      refine qr_aload_n C dX7_lift_42 rfl 1 rfl ?_
      refine gf_X7_41 C (100) (hM4.1) rfl rfl dX7_lift_43 ?_
      refine qr_iload_n C dX7_lift_46 rfl 2 rfl ?_
      refine qr_iconst (v := 1) C dX7_lift_47 (by decide) ?_
      refine qr_zast C (114) (hM4.2.2.2.2.2.2.2.2.2.2.2.1) rfl (j := i0) hx1 (by omega) rfl (Or.inr rfl) dX7_lift_48 ?_
      generalize hg7 : va_up gc2 (114) _ = g6
      have f8 : g6 (114) = some (.inl (D.1 21, 40, .inl (upd (σ 14) (i0) (1 : Int32)))) := by rw [← hg7]; exact va_up_self _ _ _
      have f9 : g6 (100) = gc2 (100) := by rw [← hg7]; exact va_up_ne _ _ (by omega)
      have f10 : g6 (103) = gc2 (103) := by rw [← hg7]; exact va_up_ne _ _ (by omega)
      have f11 : g6 (104) = gc2 (104) := by rw [← hg7]; exact va_up_ne _ _ (by omega)
      have f12 : g6 (105) = gc2 (105) := by rw [← hg7]; exact va_up_ne _ _ (by omega)
      have f13 : g6 (106) = gc2 (106) := by rw [← hg7]; exact va_up_ne _ _ (by omega)
      have f14 : g6 (107) = gc2 (107) := by rw [← hg7]; exact va_up_ne _ _ (by omega)
      have f15 : g6 (108) = gc2 (108) := by rw [← hg7]; exact va_up_ne _ _ (by omega)
      have f16 : g6 (110) = gc2 (110) := by rw [← hg7]; exact va_up_ne _ _ (by omega)
      have f17 : g6 (111) = gc2 (111) := by rw [← hg7]; exact va_up_ne _ _ (by omega)
      have f18 : g6 (112) = gc2 (112) := by rw [← hg7]; exact va_up_ne _ _ (by omega)
      have f19 : g6 (113) = gc2 (113) := by rw [← hg7]; exact va_up_ne _ _ (by omega)
      have f20 : g6 (115) = gc2 (115) := by rw [← hg7]; exact va_up_ne _ _ (by omega)
      have f21 : g6 (116) = gc2 (116) := by rw [← hg7]; exact va_up_ne _ _ (by omega)
      have f22 : g6 (117) = gc2 (117) := by rw [← hg7]; exact va_up_ne _ _ (by omega)
      refine qr_aload_n C dX7_lift_49 rfl 1 rfl ?_
      refine qr_aload_n C dX7_lift_50 rfl 1 rfl ?_
      refine gf_X7_29 C (100) ((f9.trans (hM4.1))) rfl rfl dX7_lift_51 ?_
      refine qr_iload_n C dX7_lift_54 rfl 2 rfl ?_
      refine qr_iald C (x := ((σ 10) (i0))) (110) ((f16.trans (hM4.2.2.2.2.2.2.2.1))) rfl (j := i0) hx1 (by omega) rfl rfl dX7_lift_55 ?_
      refine qr_aload_n C dX7_lift_56 rfl 1 rfl ?_
      refine gf_X7_35 C (100) ((f9.trans (hM4.1))) rfl rfl dX7_lift_57 ?_
      refine qr_iload_n C dX7_lift_60 rfl 2 rfl ?_
      refine qr_iald C (x := ((σ 12) (i0))) (112) ((f18.trans (hM4.2.2.2.2.2.2.2.2.2.1))) rfl (j := i0) hx1 (by omega) rfl rfl dX7_lift_61 ?_
      have hM27 : qm_P D ((va_up σ 14 (upd (σ 14) i0 1))) bk ad g6 := ⟨(f9.trans (hM4.1)), (f10.trans (hM4.2.1)), (f11.trans (hM4.2.2.1)), (f12.trans (hM4.2.2.2.1)), (f13.trans (hM4.2.2.2.2.1)), (f14.trans (hM4.2.2.2.2.2.1)), (f15.trans (hM4.2.2.2.2.2.2.1)), (f16.trans (hM4.2.2.2.2.2.2.2.1)), (f17.trans (hM4.2.2.2.2.2.2.2.2.1)), (f18.trans (hM4.2.2.2.2.2.2.2.2.2.1)), (f19.trans (hM4.2.2.2.2.2.2.2.2.2.2.1)), f8, (f20.trans (hM4.2.2.2.2.2.2.2.2.2.2.2.2.1)), (f21.trans (hM4.2.2.2.2.2.2.2.2.2.2.2.2.2.1)), (f22.trans (hM4.2.2.2.2.2.2.2.2.2.2.2.2.2.2))⟩
      refine qr_callV C (na := 2) (As := [(.int ((σ 10) (i0))), (.int ((σ 12) (i0)))]) (rest := []) (k_X7_drop hst D ad g6 ((va_up σ 14 (upd (σ 14) i0 1))) bk hM27 (((σ 10) (i0))) (((σ 12) (i0))) (t0) (L0) ht0 (by omega) htt htL) (100) ((f9.trans (hM4.1))) rfl rfl gi_X7_78 rfl ⟨by decide, by decide, by decide +kernel⟩ rfl rfl (Nat.le_of_ble_eq_true rfl) rfl rfl ⟨Nat.le_of_ble_eq_true rfl, Nat.le_of_ble_eq_true rfl⟩ ⟨Nat.le_of_ble_eq_true rfl, Nat.le_of_ble_eq_true rfl⟩ dX7_lift_62 (fun v ad2 gc23 hpo24 => ?_)
      obtain ⟨rfl, rfl, hM25, hfr26⟩ := hpo24
      refine qr_pop C dX7_lift_65 rfl ?_
      refine qr_aload_n C dX7_lift_66 rfl 1 rfl ?_
      refine gf_X7_38 C (100) (hM25.1) rfl rfl dX7_lift_67 ?_
      refine qr_iload_n C dX7_lift_70 rfl 2 rfl ?_
      refine qr_iald C (x := (((sm_dropS ((va_up σ 14 (upd (σ 14) i0 1))) (t0) (L0)) 13) (i0))) (113) (hM25.2.2.2.2.2.2.2.2.2.2.1) rfl (j := i0) hx1 (by omega) rfl rfl dX7_lift_71 ?_
      refine qr_aload_n C dX7_lift_72 rfl 1 rfl ?_
      refine gf_X7_92 C (100) (hM25.1) rfl rfl dX7_lift_73 ?_
      refine qr_isub C dX7_lift_76 ?_
      exact qr_iret C rfl (Nat.zero_le _) (Nat.zero_le _) dX7_lift_77 ((by subst hbk; exact ⟨rfl, fun t ht => ((hfr26 t ht).trans ((congrFun hg7 t).symm.trans ((va_up_ne _ _ (by omega)).trans ((hfr5 t ht).trans rfl)))), Or.inr ⟨sm_ref0.mp c37, sg_vi (by rw [hic]; rfl), (by unfold sm_liftS; rw [hic, htc, hLc]; exact hM25)⟩⟩))
    · skip
      refine qr_iconst (v := 0) C dX7_lift_40 (by decide) ?_
      exact qr_iret C rfl (Nat.zero_le _) (Nat.zero_le _) dX7_lift_41 ((by subst hbk; exact ⟨rfl, fun t ht => ((hfr5 t ht).trans rfl), Or.inl ⟨fun z => c37 (sm_ref0.mpr z), rfl, hM4⟩⟩))
  refine qr_iload_n C dX7_lift_13 rfl 0 rfl ?_
  refine qr_if_ne C 21 dX7_lift_14 (by decide) (fun c14 => ?_) (fun c14 => ?_)
  · skip
    obtain ⟨i0, hi0, hx1⟩ := sm_in_n hn (by omega) c14
    have hic : x1.toNatClampNeg = i0 := by rw [hx1, nI_clamp (by omega)]
    refine qr_aload_n C dX7_lift_21 rfl 1 rfl ?_
    refine qr_iload_n C dX7_lift_22 rfl 2 rfl ?_
    refine qr_callV C (na := 1) (As := [(.int x1)]) (rest := [(.ref (ad 100))]) (k_X7_lasts hst D ad g σ r hM x1 (x1.toNatClampNeg) (by rw [hic]; omega) (by rw [hic]; exact hx1)) (100) (hM.1) rfl rfl gi_X7_98 rfl ⟨by decide, by decide, by decide +kernel⟩ rfl rfl (Nat.le_of_ble_eq_true rfl) rfl rfl ⟨Nat.le_of_ble_eq_true rfl, Nat.le_of_ble_eq_true rfl⟩ ⟨Nat.le_of_ble_eq_true rfl, Nat.le_of_ble_eq_true rfl⟩ dX7_lift_23 (fun v ad2 g2 hpo => ?_)
    obtain ⟨rfl, rfl, rfl⟩ := hpo
    refine qr_if_eq C 33 dX7_lift_26 (by decide) (fun c28 => ?_) (fun c28 => ?_)
    · skip
      refine qr_iconst (v := 2) C dX7_lift_33 (by decide) ?_
      exact M13_0 _ (by simp only [if_neg c14, if_pos c28])
    · skip
      refine qr_iconst (v := 0) C dX7_lift_29 (by decide) ?_
      refine qr_goto (tgt := 34) C dX7_lift_30 (by decide) ?_
      exact M13_0 _ (by simp only [if_neg c14, if_neg c28])
  · skip
    refine qr_iconst (v := 1) C dX7_lift_17 (by decide) ?_
    refine qr_goto (tgt := 34) C dX7_lift_18 (by decide) ?_
    exact M13_0 _ (by simp only [if_pos c14])
def sm_cisE (σ : Nat → Nat → Int32) (x1 x2 x3 x4 : Int32) : Int32 := if sm_ent σ x1 x2 x3 = -1 then 1 else if sm_isL x4 = 0 then 1 else 0
def sm_b1 (x : Int32) : Int32 := if x = 1 then 1 else 0
set_option maxHeartbeats 4000000 in
set_option maxRecDepth 100000 in
theorem k_X7_isEmbargoed {l : Launch} (hst : l.stackTraces = false) (D : va_G) (ad : Nat → Nat) (g : qw_G) (σ : Nat → Nat → Int32) (r : Int32) (hM : qm_P D σ r ad g) (n : Nat) (hn : σ 9 0 = nI n) (hn2 : n ≤ 40) (x1 x2 x3 x4 : Int32) : qw_M l yX7_isEmbargoed [Cond.code yX7_isEmbargoed cX7_isEmbargoed 6 (some .boolean)] { frames := 3, cells := 0, slots := 0, locals := 100 } D ad g [(.ref (ad 100)), (.int x1), (.int x2), (.int x3), (.int x4)] (qm_op D ad g (sm_cisE σ x1 x2 x3 x4) (sm_b1 (sm_bit (sm_bar σ x1 x4 n) (sm_ent σ x1 x2 x3))) σ σ) 0 0 := by
  refine qw_M.of (maxL := 6) (own := RX7) (lv := [(0, (.ref (ad 100))), (1, (.int x1)), (2, (.int x2)), (3, (.int x3)), (4, (.int x4))]) hst (by decide) rfl rfl (Nat.le_of_ble_eq_true rfl) ?_
  intro p e s m args below meth c A C hin
  refine qr_aload_n C dX7_isEmbargoed_0 rfl 0 rfl ?_
  refine qr_iload_n C dX7_isEmbargoed_1 rfl 1 rfl ?_
  refine qr_iload_n C dX7_isEmbargoed_2 rfl 2 rfl ?_
  refine qr_iload_n C dX7_isEmbargoed_3 rfl 3 rfl ?_
  refine qr_callV C (na := 3) (As := [(.int x1), (.int x2), (.int x3)]) (rest := []) (k_X7_entryOf hst D ad g σ r hM (x1) (x2) (x3)) (100) (hM.1) rfl rfl gi_X7_82 rfl ⟨by decide, by decide, by decide +kernel⟩ rfl rfl (Nat.le_of_ble_eq_true rfl) rfl rfl ⟨Nat.le_of_ble_eq_true rfl, Nat.le_of_ble_eq_true rfl⟩ ⟨Nat.le_of_ble_eq_true rfl, Nat.le_of_ble_eq_true rfl⟩ dX7_isEmbargoed_4 (fun v ad2 g2 hpo => ?_)
  obtain ⟨rfl, rfl, rfl⟩ := hpo
  refine qr_istore (lv' := [(5, (.int (sm_ent σ (x1) (x2) (x3)))), (0, (.ref (ad 100))), (1, (.int x1)), (2, (.int x2)), (3, (.int x3)), (4, (.int x4))]) C dX7_isEmbargoed_7 (by decide) rfl ?_
  refine qr_aload_n C dX7_isEmbargoed_9 rfl 1 rfl ?_
  have M10_0 : ∀ bk : Int32, bk = (if (sm_ent σ (x1) (x2) (x3)) = (-1 : Int32) then (1 : Int32) else (if (sm_isL (x4)) = 0 then (1 : Int32) else (0 : Int32))) → qw_W p l e { frames := 3, cells := 0, slots := 0, locals := 100 } s m args below meth c D A 6 (MQ below (qw_Q (qm_op D ad g (sm_cisE σ x1 x2 x3 x4) (sm_b1 (sm_bit (sm_bar σ x1 x4 n) (sm_ent σ x1 x2 x3))) σ σ) D A) args s 0 0 A) 0 0 ad g 29 [(5, (.int (sm_ent σ (x1) (x2) (x3)))), (0, (.ref (ad 100))), (1, (.int x1)), (2, (.int x2)), (3, (.int x3)), (4, (.int x4))] [(.int bk), (.ref (ad 100))] := by
    intro bk hbk
    have hbk : bk = sm_cisE σ x1 x2 x3 x4 := hbk.trans (rfl)
    refine qr_callV C (na := 1) (As := [(.int bk)]) (rest := []) (k_X7_refused hst D ad g σ r hM bk) (100) (hM.1) rfl rfl gi_X7_75 rfl ⟨by decide, by decide, by decide +kernel⟩ rfl rfl (Nat.le_of_ble_eq_true rfl) rfl rfl ⟨Nat.le_of_ble_eq_true rfl, Nat.le_of_ble_eq_true rfl⟩ ⟨Nat.le_of_ble_eq_true rfl, Nat.le_of_ble_eq_true rfl⟩ dX7_isEmbargoed_29 (fun v ad2 gc2 hpo3 => ?_)
    obtain ⟨rfl, rfl, hM4, hfr5⟩ := hpo3
    refine qr_if_eq C 37 dX7_isEmbargoed_32 (by decide) (fun c32 => ?_) (fun c32 => ?_)
    · skip
      refine qr_aload_n C dX7_isEmbargoed_37 rfl 1 rfl ?_
      refine qr_iload_n C dX7_isEmbargoed_38 rfl 2 rfl ?_
      refine qr_iload C dX7_isEmbargoed_39 5 rfl ?_
      refine qr_callV C (na := 2) (As := [(.int x1), (.int x4)]) (rest := []) (k_X7_barred hst D ad gc2 σ bk hM4 n hn hn2 (x1) (x4)) (100) (hM4.1) rfl rfl gi_X7_104 rfl ⟨by decide, by decide, by decide +kernel⟩ rfl rfl (Nat.le_of_ble_eq_true rfl) rfl rfl ⟨Nat.le_of_ble_eq_true rfl, Nat.le_of_ble_eq_true rfl⟩ ⟨Nat.le_of_ble_eq_true rfl, Nat.le_of_ble_eq_true rfl⟩ dX7_isEmbargoed_41 (fun v ad2 g2 hpo => ?_)
      obtain ⟨rfl, rfl, rfl⟩ := hpo
      refine qr_iload C dX7_isEmbargoed_44 0 rfl ?_
      refine qr_ishr C dX7_isEmbargoed_46 ?_
      refine qr_iconst (v := 1) C dX7_isEmbargoed_47 (by decide) ?_
      refine qr_iand C dX7_isEmbargoed_48 ?_
      refine qr_iconst (v := 1) C dX7_isEmbargoed_49 (by decide) ?_
      refine qr_icmp_ne C 57 dX7_isEmbargoed_50 (by decide) (fun c50 => ?_) (fun c50 => ?_)
      · skip
        refine qr_iconst (v := 0) C dX7_isEmbargoed_57 (by decide) ?_
        exact qr_zret C rfl (by decide) (Nat.zero_le _) (Nat.zero_le _) dX7_isEmbargoed_58 ((by subst hbk; exact ⟨rfl, fun t ht => ((hfr5 t ht).trans rfl), Or.inr ⟨sm_ref0.mp c32, sg_vi (if_neg c50), ⟨hM4.1, hM4.2.1, hM4.2.2.1, hM4.2.2.2.1, hM4.2.2.2.2.1, hM4.2.2.2.2.2.1, hM4.2.2.2.2.2.2.1, hM4.2.2.2.2.2.2.2.1, hM4.2.2.2.2.2.2.2.2.1, hM4.2.2.2.2.2.2.2.2.2.1, hM4.2.2.2.2.2.2.2.2.2.2.1, hM4.2.2.2.2.2.2.2.2.2.2.2.1, hM4.2.2.2.2.2.2.2.2.2.2.2.2.1, hM4.2.2.2.2.2.2.2.2.2.2.2.2.2.1, hM4.2.2.2.2.2.2.2.2.2.2.2.2.2.2⟩⟩⟩))
      · skip
        refine qr_iconst (v := 1) C dX7_isEmbargoed_53 (by decide) ?_
        refine qr_goto (tgt := 58) C dX7_isEmbargoed_54 (by decide) ?_
        exact qr_zret C rfl (by decide) (Nat.zero_le _) (Nat.zero_le _) dX7_isEmbargoed_58 ((by subst hbk; exact ⟨rfl, fun t ht => ((hfr5 t ht).trans rfl), Or.inr ⟨sm_ref0.mp c32, sg_vi (if_pos c50), ⟨hM4.1, hM4.2.1, hM4.2.2.1, hM4.2.2.2.1, hM4.2.2.2.2.1, hM4.2.2.2.2.2.1, hM4.2.2.2.2.2.2.1, hM4.2.2.2.2.2.2.2.1, hM4.2.2.2.2.2.2.2.2.1, hM4.2.2.2.2.2.2.2.2.2.1, hM4.2.2.2.2.2.2.2.2.2.2.1, hM4.2.2.2.2.2.2.2.2.2.2.2.1, hM4.2.2.2.2.2.2.2.2.2.2.2.2.1, hM4.2.2.2.2.2.2.2.2.2.2.2.2.2.1, hM4.2.2.2.2.2.2.2.2.2.2.2.2.2.2⟩⟩⟩))
    · skip
      refine qr_iconst (v := 0) C dX7_isEmbargoed_35 (by decide) ?_
      exact qr_zret C rfl (by decide) (Nat.zero_le _) (Nat.zero_le _) dX7_isEmbargoed_36 ((by subst hbk; exact ⟨rfl, fun t ht => ((hfr5 t ht).trans rfl), Or.inl ⟨fun z => c32 (sm_ref0.mpr z), rfl, hM4⟩⟩))
  refine qr_iload C dX7_isEmbargoed_10 0 rfl ?_
  refine qr_iconst (v := -1) C dX7_isEmbargoed_12 (by decide) ?_
  refine qr_icmp_eq C 24 dX7_isEmbargoed_13 (by decide) (fun c6 => ?_) (fun c6 => ?_)
  · skip
    refine qr_iconst (v := 1) C dX7_isEmbargoed_24 (by decide) ?_
    refine qr_goto (tgt := 29) C dX7_isEmbargoed_25 (by decide) ?_
    exact M10_0 _ (by simp only [if_pos c6])
  · skip
    refine qr_iload C dX7_isEmbargoed_16 5 rfl ?_
    refine qr_callS C (na := 1) (As := [(.int x4)]) (rest := [(.ref (ad 100))]) (k_X7_isLevel hst D ad g (x4)) gi_X7_101 ⟨by decide, by decide, by decide +kernel⟩ rfl rfl (Nat.le_of_ble_eq_true rfl) rfl rfl ⟨Nat.le_of_ble_eq_true rfl, Nat.le_of_ble_eq_true rfl⟩ ⟨Nat.le_of_ble_eq_true rfl, Nat.le_of_ble_eq_true rfl⟩ dX7_isEmbargoed_18 (fun v ad2 g2 hpo => ?_)
    obtain ⟨rfl, rfl, rfl⟩ := hpo
    refine qr_if_ne C 28 dX7_isEmbargoed_21 (by decide) (fun c7 => ?_) (fun c7 => ?_)
    · skip
      refine qr_iconst (v := 0) C dX7_isEmbargoed_28 (by decide) ?_
      exact M10_0 _ (by simp only [if_neg c6, if_neg c7])
    · skip
      refine qr_iconst (v := 1) C dX7_isEmbargoed_24 (by decide) ?_
      refine qr_goto (tgt := 29) C dX7_isEmbargoed_25 (by decide) ?_
      exact M10_0 _ (by simp only [if_neg c6, if_pos c7])
