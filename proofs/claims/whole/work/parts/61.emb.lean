theorem rN1_of {χ σ : Nat → Nat → Int32} {nS t L : Nat} (h : rN χ nS σ) : rN1 χ nS σ t L := fun t' ht' => ⟨(h t' ht').1, (h t' ht').2.1, fun v hv _ hb => (h t' ht').2.2 v hv hb⟩
theorem rB_c {χ χ' σ σ' : Nat → Nat → Int32} (h : rB χ σ) (h1 : ∀ k, 7 ≤ k → k ≤ 9 → χ' k = χ k) (h2 : ∀ k, 15 ≤ k → k ≤ 17 → σ' k = σ k) : rB χ' σ' := by
  unfold rB at *
  rw [h1 7 (by omega) (by omega), h1 8 (by omega) (by omega), h1 9 (by omega) (by omega), h2 15 (by omega) (by omega), h2 16 (by omega) (by omega), h2 17 (by omega) (by omega)]
  exact h
theorem rO_c {χ χ' σ σ' : Nat → Nat → Int32} (h : rO χ σ) (h1 : ∀ k, 2 ≤ k → k ≤ 5 → χ' k = χ k) (h2 : ∀ k, k = 1 ∨ k = 8 ∨ k = 18 ∨ k = 19 → σ' k = σ k) : rO χ' σ' := by
  unfold rO at *
  rw [h1 2 (by omega) (by omega), h1 3 (by omega) (by omega), h1 4 (by omega) (by omega), h1 5 (by omega) (by omega), h2 1 (by omega), h2 8 (by omega), h2 18 (by omega), h2 19 (by omega)]
  exact h
theorem qc_emb {χ σ : Nat → Nat → Int32} {nE : Nat} (h5 : χ 5 = σ 8) (h1 : χ 1 0 = nI nE) (h2 : σ 9 0 = nI nE) (h3 : nE ≤ 40) (x1 x2 x3 x4 x5 : Int32) : sm_cemb σ x1 x2 x3 x4 x5 = cx_emb χ x1 x2 x3 x4 x5 := by
  have f4 : ∀ x : Int32, x < (4 : Int32) ↔ ¬ (3 : Int32) < x := fun x => qr_up (by decide)
  have f1 : ∀ x : Int32, x ≤ (100 : Int32) ↔ ¬ (100 : Int32) < x := fun x => by rw [Int32.le_iff_toInt_le, Int32.lt_iff_toInt_lt]; omega
  have f6 : (nI nE < 40) ↔ ¬ nI nE = 40 := by
    rw [show (40 : Int32) = nI 40 from rfl, nI_ltI (by omega) (by omega), nI_eq (by omega) (by omega)]; omega
  unfold sm_cemb cx_emb sm_fit
  rw [(r_entv h5 x1 x2 x3).1, h1, h2, qc_in, qc_in]
  simp only [f4, f1, f6]
  by_cases a1 : sm_ent σ x1 x2 x3 = -1
  · simp [a1]
  · by_cases a2 : x4 < 1
    · simp [a1, a2]
    · by_cases a3 : 3 < x4
      · simp [a1, a2, a3]
      · by_cases a4 : x5 < 1
        · simp [a1, a2, a3, a4]
        · by_cases a5 : 100 < x5
          · simp [a1, a2, a3, a4, a5]
          · by_cases a6 : nI nE = 40 <;> simp [a1, a2, a3, a4, a5, a6]
theorem r_emb0 {χ σ : Nat → Nat → Int32} {nE : Nat} {x1 x2 x3 x4 x5 : Int32} (h5 : χ 5 = σ 8) (h1 : χ 1 0 = nI nE) (h2 : σ 9 0 = nI nE) (h3 : nE ≤ 40) (h : cx_emb χ x1 x2 x3 x4 x5 = 0) : ∃ t e v d, t < 3 ∧ e < 30 ∧ v < 4 ∧ d < 101 ∧ x1 = nI t ∧ sm_ent σ x1 x2 x3 = nI e ∧ cx_entv χ x1 x2 x3 = nI e ∧ x4 = nI v ∧ x5 = nI d ∧ nE < 40 := by
  have hm := (qc_emb h5 h1 h2 h3 x1 x2 x3 x4 x5).trans h
  obtain ⟨t0, L0, -, -, -, -, -, hlt, -, -⟩ := sm_cemb_ok h2 h3 hm
  have a1 : cx_ent χ x1 x2 x3 = 0 := Decidable.byContradiction fun z => by
    unfold cx_emb at h
    rw [if_neg z] at h; exact absurd h (by decide)
  obtain ⟨b1, t, e, b2, b3, b4, b5, b6⟩ := (r_entv h5 x1 x2 x3).2 a1
  have hf : ¬ sm_fit x4 x5 = 0 := fun z => by
    unfold sm_cemb at hm
    by_cases q : sm_ent σ x1 x2 x3 = -1
    · rw [if_pos q] at hm; exact absurd hm (by decide)
    · rw [if_neg q, if_pos z] at hm; exact absurd hm (by decide)
  obtain ⟨⟨v, c1, c2, c3⟩, ⟨d, c4, c5, c6⟩⟩ := sm_fit_ok hf
  exact ⟨t, e, v, d, b2, b3, c1, c4, b4, b6, b1.trans b6, c3, c6, hlt⟩
theorem r_ag5 : ql_ag5 RLr0 := by
  intro χ nS nE σ x1 x2 x3 x4 x5 h
  obtain ⟨hS, hE, hB, hN, hO⟩ := h
  obtain ⟨a1, a2, a3, a4, a5, a6, a7, a8, a9, a10⟩ := hE
  have hc := qc_emb hO.2.2.2.2.2 a2 a3 a1 x1 x2 x3 x4 x5
  refine ⟨qa_px3 hc, fun h0 => ⟨hc.trans h0, by rw [a2, a3], ?_⟩, hS, ⟨a1, a2, a3, a4, a5, a6, a7, a8, a9, a10⟩, hB, hN, hO⟩
  obtain ⟨t, e, v, d, ht, he, hv, hd, hx1, hse, hce, hx4, hx5, hlt⟩ := r_emb0 hO.2.2.2.2.2 a2 a3 a1 h0
  obtain ⟨hh, hh1, hh2⟩ := hO.2.1
  unfold cx_embS sm_embS cx_embT
  rw [hse, hce, hx1, hx4, hx5, nI_clamp (n := t) (by omega), nI_clamp (n := v) (by omega)]
  generalize hX : qx_emba χ nE (nI t) (nI e) (nI v) (χ 2 0 + nI d) = χ1
  generalize hY : sm_embS1 σ nE (nI t) (nI e) (nI v) (nI d) = σ1
  have k1 : ∀ k, k ≠ 1 → (k < 45 ∨ 49 < k) → χ1 k = χ k := fun k h1 h2 => by
    rw [← hX]
    exact (va_up_ne _ _ (by omega)).trans ((va_up_ne _ _ (by omega)).trans ((va_up_ne _ _ (by omega)).trans ((va_up_ne _ _ (by omega)).trans ((va_up_ne _ _ (by omega)).trans (va_up_ne _ _ (by omega))))))
  have k2 : ∀ k, k ≠ 9 → (k < 10 ∨ 13 < k) → σ1 k = σ k := fun k h1 h2 => by
    rw [← hY]
    exact (va_up_ne _ _ (by omega)).trans ((va_up_ne _ _ (by omega)).trans ((va_up_ne _ _ (by omega)).trans ((va_up_ne _ _ (by omega)).trans (va_up_ne _ _ (by omega)))))
  have c1 : χ1 1 0 = nI (nE + 1) := by rw [← hX]; exact (congrArg (· + 1) a2).trans (nI_add nE 1)
  have c45 : χ1 45 = upd (χ 45) nE (nI t) := by rw [← hX]; rfl
  have c46 : χ1 46 = upd (χ 46) nE (nI e) := by rw [← hX]; rfl
  have c47 : χ1 47 = upd (χ 47) nE (nI v) := by rw [← hX]; rfl
  have c48 : χ1 48 = upd (χ 48) nE (χ 2 0 + nI d) := by rw [← hX]; rfl
  have c49 : χ1 49 = upd (χ 49) nE 0 := by rw [← hX]; rfl
  have d9 : σ1 9 0 = nI (nE + 1) := by rw [← hY]; exact (congrArg (· + 1) a3).trans (nI_add nE 1)
  have d10 : σ1 10 = upd (σ 10) nE (nI t) := by rw [← hY]; rfl
  have d11 : σ1 11 = upd (σ 11) nE (nI e) := by rw [← hY]; rfl
  have d12 : σ1 12 = upd (σ 12) nE (nI v) := by rw [← hY]; rfl
  have d13 : σ1 13 = upd (σ 13) nE (σ 1 0 + nI d) := by rw [← hY]; rfl
  have d14 : σ1 14 = σ 14 := k2 14 (by omega) (by omega)
  have un : ∀ (f : Nat → Int32) (x : Int32) (i : Nat), i < nE → upd f nE x i = f i := fun f x i hi => pk_un (by omega)
  refine r_drop (rS_c hS (fun k hk => k1 k (by omega) (by omega)) (fun k hk hk2 => k2 k (by omega) (by omega))) ⟨by omega, c1, d9, by rw [c45, d10, a4], by rw [c46, d11, a5], by rw [c47, d12, a6], by rw [c48, d13, a7, hO.1], by rw [c49, d14, a8]; exact upd_id (a9 nE (by omega)), fun i hi => by rw [d14]; exact a9 i (by omega), fun i hi => ?_⟩ (rB_c hB (fun k hk hk2 => k1 k (by omega) (by omega)) (fun k hk hk2 => k2 k (by omega) (by omega))) (rN1_of (rN_c hN (fun k hk => k1 k (by omega) (by omega)) (fun k hk hk2 => k2 k (by omega) (by omega)) (fun j hj => by rw [k2 15 (by omega) (by omega)] at hj; exact hj))) (rO_c hO (fun k hk hk2 => k1 k (by omega) (by omega)) (fun k hk => k2 k (by omega) (by omega)))
  rw [d10, d11, d12, d13]
  by_cases hi2 : i = nE
  · subst hi2
    exact ⟨t, v, e, hh + d, ht, hv, he, by omega, pk_us, pk_us, pk_us, pk_us.trans (by rw [hh2, nI_add])⟩
  · rw [un _ _ i (by omega), un _ _ i (by omega), un _ _ i (by omega), un _ _ i (by omega)]
    exact a10 i (by omega)
theorem qc_lasts {χ σ : Nat → Nat → Int32} (h2 : χ 2 0 = σ 1 0) (h3 : χ 48 = σ 13) (h4 : χ 49 = σ 14) (k : Nat) : cx_lasts (χ 48 k) (χ 49 k) (χ 2 0) = sm_lasts σ k := by
  unfold cx_lasts sm_lasts
  rw [h2, h3, h4]
theorem r_ag6 : ql_ag6 RLr0 := by
  intro χ nS nE σ x1 h
  have h' := h
  obtain ⟨hS, ⟨a1, a2, a3, a4, a5, a6, a7, a8, a9, a10⟩, hB, hN, hO⟩ := h
  have hm : sm_clift σ x1 = if sm_in x1 0 (σ 9 0 - 1) = 0 then 1 else if sm_lasts σ x1.toNatClampNeg = 0 then 2 else 0 := rfl
  have hc : cx_lift χ x1 = if sm_in x1 0 (σ 9 0 - 1) = 0 then 1 else if sm_lasts σ x1.toNatClampNeg = 0 then 3 else 0 := by
    have e := (qc_plc (x := x1) a3 (by omega)).1
    unfold cx_lift
    rw [qc_lasts hO.1 a7 a8, a2, ← a3]
    by_cases h1 : sm_in x1 0 (σ 9 0 - 1) = 0
    · rw [if_pos h1]
      rcases e.mp h1 with h2 | h2
      · rw [if_pos h2]
      · by_cases h3 : x1 < 0
        · rw [if_pos h3]
        · rw [if_neg h3, if_neg h2]
    · rw [if_neg h1]
      have h2 : ¬ x1 < 0 := fun z => h1 (e.mpr (Or.inl z))
      have h3 : x1 < σ 9 0 := Decidable.byContradiction fun z => h1 (e.mpr (Or.inr z))
      rw [if_neg h2, if_pos h3]
  rw [hc, hm]
  by_cases g1 : sm_in x1 0 (σ 9 0 - 1) = 0
  · rw [if_pos g1, if_pos g1]
    exact ⟨qa_px13 (by decide) (fun _ => rfl) (fun z => absurd z (by decide)), fun z => absurd z (by decide), h'⟩
  rw [if_neg g1, if_neg g1]
  by_cases g2 : sm_lasts σ x1.toNatClampNeg = 0
  · rw [if_pos g2, if_pos g2]
    exact ⟨qa_px13 (by decide) (fun z => absurd z (by decide)) (fun _ => rfl), fun z => absurd z (by decide), h'⟩
  rw [if_neg g2, if_neg g2]
  obtain ⟨i, hi, hx, hxn⟩ := (qc_plc (x := x1) a3 (by omega)).2 g1
  refine ⟨qa_px13 (by decide) (fun z => absurd z (by decide)) (fun z => absurd z (by decide)), fun _ => ⟨rfl, ?_, ?_⟩, h'⟩
  · rw [a7, hO.1]
  unfold cx_liftS sm_liftS
  rw [hxn, a4, a6]
  have k1 : ∀ k, k ≠ 49 → va_up χ 49 (upd (χ 49) i 1) k = χ k := fun k h1 => va_up_ne _ _ h1
  have k2 : ∀ k, k ≠ 14 → va_up σ 14 (upd (σ 14) i 1) k = σ k := fun k h1 => va_up_ne _ _ h1
  refine r_drop (rS_c hS (fun k hk => k1 k (by omega)) (fun k hk hk2 => k2 k (by omega))) ⟨a1, a2, a3, a4, a5, a6, a7, ?_, fun j hj => ?_, a10⟩ (rB_c hB (fun k hk hk2 => k1 k (by omega)) (fun k hk hk2 => k2 k (by omega))) (rN1_of (rN_c hN (fun k hk => k1 k (by omega)) (fun k hk hk2 => k2 k (by omega)) (fun j hj => hj))) (rO_c hO (fun k hk hk2 => k1 k (by omega)) (fun k hk => k2 k (by omega)))
  · rw [va_up_self, va_up_self, a8]
  · rw [va_up_self, pk_un (by omega)]
    exact a9 j hj
