theorem sg_01 {i n : Nat} {x : Int32} (hx : x = nI i) (hi : i < 2147483648) : ¬ x < 0 := by
  rw [hx, Int32.lt_iff_toInt_lt, nI_toInt (by omega), show (0 : Int32).toInt = 0 from by decide]; omega
/-- a place in a list: refused alike -/
theorem qc_plc {x y : Int32} {n : Nat} (hy : y = nI n) (hn : n ≤ 120) : (sm_in x 0 (y - 1) = 0 ↔ (x < 0 ∨ ¬ x < y)) ∧ (¬ sm_in x 0 (y - 1) = 0 → ∃ i, i < n ∧ x = nI i ∧ x.toNatClampNeg = i) := by
  refine ⟨?_, fun h => ?_⟩
  · rw [sm_in_i, Int32.lt_iff_toInt_lt, Int32.lt_iff_toInt_lt, show (0 : Int32).toInt = 0 from by decide]
    have e : (y - 1).toInt = y.toInt - 1 := by
      rw [hy]
      cases n with
      | zero => decide
      | succ k => rw [nI_pred, nI_toInt (by omega), nI_toInt (by omega)]; omega
    omega
  · obtain ⟨i, h1, h2⟩ := sm_in_n hy hn h
    exact ⟨i, h1, h2, by rw [h2]; exact nI_clamp (by omega)⟩
theorem qc_take {χ σ : Nat → Nat → Int32} {nS : Nat} (h : rS χ nS σ) (x1 : Int32) : cx_take χ x1 = (if sm_in x1 0 (σ 2 0 - 1) = 0 then 1 else if σ 7 x1.toNatClampNeg = 0 then 0 else 3) := by
  obtain ⟨a1, a2, a3, a4, a5, a6, a7, a8, a9, a10⟩ := h
  have e := (qc_plc (x := x1) a3 a1).1
  unfold cx_take
  rw [a8, a2, ← a3]
  by_cases h1 : sm_in x1 0 (σ 2 0 - 1) = 0
  · rw [if_pos h1]
    rcases e.mp h1 with h2 | h2
    · rw [if_pos h2]
    · by_cases h3 : x1 < 0
      · rw [if_pos h3]
      · rw [if_neg h3, if_neg h2]
  · rw [if_neg h1]
    have h2 : ¬ x1 < 0 := fun z => h1 (e.mpr (Or.inl z))
    have h3 : x1 < σ 2 0 := Decidable.byContradiction fun z => h1 (e.mpr (Or.inr z))
    rw [if_neg h2, if_pos h3]
theorem r_ag1 : ql_ag1 RLr0 := by
  intro χ nS nE σ x1 h
  have hc := qc_take h.1 x1
  have hm : sm_ctake σ x1 = if sm_in x1 0 (σ 2 0 - 1) = 0 then 1 else if σ 7 x1.toNatClampNeg = 0 then 0 else 2 := rfl
  rw [hc, hm]
  by_cases g1 : sm_in x1 0 (σ 2 0 - 1) = 0
  · rw [if_pos g1, if_pos g1]
    exact ⟨qa_px13 (by decide) (fun _ => rfl) (fun z => absurd z (by decide)), fun z => absurd z (by decide), h⟩
  rw [if_neg g1, if_neg g1]
  by_cases g2 : σ 7 x1.toNatClampNeg = 0
  case neg =>
    rw [if_neg g2, if_neg g2]
    exact ⟨qa_px13 (by decide) (fun z => absurd z (by decide)) (fun _ => rfl), fun z => absurd z (by decide), h⟩
  rw [if_pos g2, if_pos g2]
  obtain ⟨i, hi, hx, hxn⟩ := (qc_plc (x := x1) h.1.2.2.1 h.1.1).2 g1
  refine ⟨qa_px13 (by decide) (fun z => absurd z (by decide)) (fun z => absurd z (by decide)), fun _ => ⟨rfl, ?_, ?_⟩, h⟩
  · rw [h.1.2.2.2.2.2.2.1]
  obtain ⟨hS, hE, hB, hN, hO⟩ := h
  obtain ⟨a1, a2, a3, a4, a5, a6, a7, a8, a9, a10⟩ := hS
  obtain ⟨t, a, b, ht, ha, hb, s3, s4, s5⟩ := a10 i hi
  rw [hxn] at g2
  unfold cx_takeS sm_takeS cx_unsold
  rw [hxn, a4, a5, a6, s3, s4, s5, nI_clamp (n := t) (by omega), nI_clamp (n := a) (by omega), nI_clamp (n := b) (by omega)]
  generalize hX : va_up (va_up (va_up χ 44 (upd (χ 44) i 1)) (10 + t) (cx_enter (χ (10 + t)) a b (-χ 43 i))) 6 (upd (χ 6) t (χ 6 t - 1)) = χ1
  generalize hY : va_up σ 7 (upd (σ 7) i 1) = σ1
  have k1 : ∀ k, k ≠ 6 → k ≠ 10 + t → k ≠ 44 → χ1 k = χ k := fun k h1 h2 h3 => by
    rw [← hX]
    exact (va_up_ne _ _ h1).trans ((va_up_ne _ _ h2).trans (va_up_ne _ _ h3))
  have k2 : ∀ k, k ≠ 7 → σ1 k = σ k := fun k h1 => by rw [← hY]; exact va_up_ne _ _ h1
  have c44 : χ1 44 = upd (χ 44) i 1 := by rw [← hX]; exact (va_up_ne _ _ (by omega)).trans ((va_up_ne _ _ (by omega)).trans (va_up_self _ _ _))
  have d7 : σ1 7 = upd (σ 7) i 1 := by rw [← hY]; rfl
  refine r_drop (t := t) (L := 4) ⟨a1, by rw [k1 0 (by omega) (by omega) (by omega)]; exact a2, by rw [k2 2 (by omega)]; exact a3, by rw [k1 40 (by omega) (by omega) (by omega), k2 3 (by omega), a4], by rw [k1 41 (by omega) (by omega) (by omega), k2 4 (by omega), a5], by rw [k1 42 (by omega) (by omega) (by omega), k2 5 (by omega), a6], by rw [k1 43 (by omega) (by omega) (by omega), k2 6 (by omega), a7], by rw [c44, d7, a8], fun j hj => by rw [d7, pk_un (by omega)]; exact a9 j hj, fun j hj => by rw [k2 3 (by omega), k2 4 (by omega), k2 5 (by omega)]; exact a10 j hj⟩ (rE_c hE (fun k hk => k1 k (by omega) (by omega) (by omega)) (fun k hk hk2 => k2 k (by omega))) ⟨?_, ?_, ?_, ?_⟩ ?_ ⟨?_, ?_, ?_, ?_, ?_, ?_⟩
  · rw [k1 7 (by omega) (by omega) (by omega), k2 15 (by omega)]; exact hB.1
  · rw [k1 8 (by omega) (by omega) (by omega), k2 17 (by omega)]; exact hB.2.1
  · rw [k1 9 (by omega) (by omega) (by omega), k2 16 (by omega)]; exact hB.2.2.1
  · rw [k2 15 (by omega)]; exact hB.2.2.2
  · intro t' ht'
    obtain ⟨q1, q2, q3⟩ := hN t' ht'
    have eS : ∀ e, e < 30 → sm_sumO σ1 (nI t') (nI e) nS = sm_sumO σ (nI t') (nI e) nS + (if t = t' ∧ (e / 6 = 4 ∨ e / 6 = a) ∧ (e % 6 = 5 ∨ e % 6 = b) then -σ 6 i else 0) := fun e he => by
      refine sg_chg nS hi (fun k hk hki => ?_) ?_
      · have : sm_isS σ1 (nI t') (nI e) k = sm_isS σ (nI t') (nI e) k := by
          unfold sm_isS
          rw [k2 3 (by omega), k2 4 (by omega), k2 5 (by omega), d7, pk_un hki]
        rw [this, k2 6 (by omega)]
      · rw [sm_isSV ht' ht ha hb he (by rw [k2 3 (by omega)]; exact s3) (by rw [k2 4 (by omega)]; exact s4) (by rw [k2 5 (by omega)]; exact s5), sm_isSV ht' ht ha hb he s3 s4 s5, d7, pk_us, g2, if_neg (show ¬ (t = t' ∧ (1 : Int32) = 0 ∧ (e / 6 = 4 ∨ e / 6 = a) ∧ (e % 6 = 5 ∨ e % 6 = b)) from fun z => absurd z.2.1 (by decide)), if_pos rfl]
        by_cases q : t = t' ∧ (e / 6 = 4 ∨ e / 6 = a) ∧ (e % 6 = 5 ∨ e % 6 = b)
        · rw [if_pos q, if_pos (show t = t' ∧ (0 : Int32) = 0 ∧ (e / 6 = 4 ∨ e / 6 = a) ∧ (e % 6 = 5 ∨ e % 6 = b) from ⟨q.1, rfl, q.2⟩), if_neg (by decide), Int32.add_right_neg]
        · rw [if_neg q, if_neg (show ¬ (t = t' ∧ (0 : Int32) = 0 ∧ (e / 6 = 4 ∨ e / 6 = a) ∧ (e % 6 = 5 ∨ e % 6 = b)) from fun z => q ⟨z.1, z.2.2⟩), if_pos rfl, Int32.add_zero]
    have eR : sm_read σ1 (nI t') nS = sm_read σ (nI t') nS + (if t = t' then -1 else 0) := by
      refine sg_chg nS hi (fun k hk hki => ?_) ?_
      · unfold sm_rd1
        rw [k2 3 (by omega), d7, pk_un hki]
      · unfold sm_rd1
        rw [k2 3 (by omega), d7, pk_us, s3, g2]
        by_cases q : t = t'
        · have q2 : nI t = nI t' := by rw [q]
          rw [if_pos q, if_pos q2, if_pos q2]; decide
        · have q2 : ¬ nI t = nI t' := fun z => q ((nI_eq (by omega) (by omega)).mp z)
          rw [if_neg q, if_neg q2, if_neg q2, Int32.add_zero]
    have c6 : χ1 6 = upd (χ 6) t (χ 6 t - 1) := by rw [← hX]; rfl
    by_cases q : t' = t
    · subst q
      have c10 : χ1 (10 + t') = cx_enter (χ (10 + t')) a b (-χ 43 i) := by rw [← hX]; exact (va_up_ne _ _ (by omega)).trans (va_up_self _ _ _)
      refine ⟨fun e he => ?_, ?_, fun v hv hn => absurd ⟨rfl, hv⟩ hn⟩
      · rw [c10, cx_enterV _ ha hb _ he, eS e he, q1 e he, a7]
        simp only [true_and]
      · rw [c6, pk_us, eR, if_pos rfl, q2, Int32.sub_eq_add_neg]
    · have q' : ¬ t = t' := fun z => q z.symm
      have c10 : χ1 (10 + t') = χ (10 + t') := k1 _ (by omega) (by omega) (by omega)
      refine ⟨fun e he => ?_, ?_, fun v hv hn hb2 => ?_⟩
      · rw [c10, eS e he, q1 e he, if_neg (fun z => q' z.1), Int32.add_zero]
      · rw [c6, pk_un q, eR, if_neg q', q2, Int32.add_zero]
      · rw [k1 (20 + (4 * t' + v)) (by omega) (by omega) (by omega), k1 13 (by omega) (by omega) (by omega), c10, c6, pk_un q]
        rw [k2 15 (by omega)] at hb2
        exact q3 v hv hb2
  · rw [k1 2 (by omega) (by omega) (by omega), k2 1 (by omega)]; exact hO.1
  · rw [k2 1 (by omega)]; exact hO.2.1
  · rw [k1 3 (by omega) (by omega) (by omega), k2 18 (by omega)]; exact hO.2.2.1
  · rw [k1 4 (by omega) (by omega) (by omega), k2 19 (by omega)]; exact hO.2.2.2.1
  · rw [k2 19 (by omega)]; exact hO.2.2.2.2.1
  · rw [k1 5 (by omega) (by omega) (by omega), k2 8 (by omega)]; exact hO.2.2.2.2.2
