theorem qc_pass {χ σ : Nat → Nat → Int32} (h : χ 2 0 = σ 1 0) (x1 : Int32) : cx_pass χ x1 = if sm_in x1 1 100 = 0 then 2 else if σ 1 0 + x1 ≤ 10000 then 0 else 3 := by
  have f1 : x1 ≤ (100 : Int32) ↔ ¬ (100 : Int32) < x1 := by rw [Int32.le_iff_toInt_le, Int32.lt_iff_toInt_lt]; omega
  unfold cx_pass
  rw [qc_in, h]
  simp only [f1]
  by_cases a1 : x1 < 1
  · simp [a1]
  · by_cases a2 : 100 < x1 <;> simp [a1, a2]
theorem r_ag8 : ql_ag8 RLr0 := by
  intro χ nS nE σ x1 h
  have h' := h
  obtain ⟨hS, hE, hB, hN, hO⟩ := h
  obtain ⟨H, hH1, hH2⟩ := hO.2.1
  have hm : sm_cpass σ x1 = if sm_in x1 1 100 = 0 then 1 else if σ 1 0 + x1 ≤ 10000 then 0 else 2 := rfl
  rw [qc_pass hO.1, hm]
  by_cases g1 : sm_in x1 1 100 = 0
  · rw [if_pos g1, if_pos g1]
    exact ⟨qa_px23 (by decide) (fun _ => rfl) (fun z => absurd z (by decide)), fun z => absurd z (by decide), h'⟩
  rw [if_neg g1, if_neg g1]
  by_cases g2 : σ 1 0 + x1 ≤ 10000
  case neg =>
    rw [if_neg g2, if_neg g2]
    exact ⟨qa_px23 (by decide) (fun z => absurd z (by decide)) (fun _ => rfl), fun z => absurd z (by decide), h'⟩
  rw [if_pos g2, if_pos g2]
  refine ⟨qa_px23 (by decide) (fun z => absurd z (by decide)) (fun z => absurd z (by decide)), fun _ => ⟨rfl, ?_⟩, h'⟩
  obtain ⟨d, hd, hd1, hx, hxn⟩ := sm_cpass_ok (σ := σ) (x1 := x1) (by rw [hm, if_neg g1, if_pos g2])
  have hHd : H + d < 10001 := by
    have e := g2
    rw [hH2, hx, nI_add, show (10000 : Int32) = nI 10000 from rfl, nI_leI (by omega) (by omega)] at e
    omega
  obtain ⟨p1, p2⟩ := r_cpass hE x1 nE (Nat.le_refl _)
  obtain ⟨m1, m2, m3, m4⟩ := r_mpass hE hH2 hH1 d (by omega)
  have hE' := hE
  obtain ⟨a1, a2, a3, a4, a5, a6, a7, a8, a9, a10⟩ := hE'
  have eX : (cx_passB χ x1 nE).1 = (sm_passP σ nE d).2 15 := by
    rw [hB.1] at p1
    refine zr_eq p1 (zr_iff m1 (fun j => ?_))
    have key : ∀ k, k < nE → ((σ 14 k = 0 ∧ ∃ e, σ 13 k = nI e ∧ H < e ∧ e ≤ H + d) ↔ (¬ cx_lasts (χ 48 k) (χ 49 k) (χ 2 0) = 0 ∧ cx_lasts (χ 48 k) (χ 49 k) (χ 2 0 + x1) = 0)) := fun k hk => by
      obtain ⟨t, v, e, q, -, -, -, hq, -, -, -, f4⟩ := a10 k hk
      have c1 : nI q ≤ nI H ↔ q ≤ H := nI_leI (by omega) (by omega)
      have c2 : nI q ≤ nI (H + d) ↔ q ≤ H + d := nI_leI (by omega) (by omega)
      unfold cx_lasts
      rw [a7, a8, f4, hO.1, hH2, hx, nI_add]
      simp only [c1, c2]
      by_cases z : σ 14 k = 0
      · rw [if_pos z, if_pos z]
        constructor
        · rintro ⟨-, e', h1, h2, h3⟩
          have : q = e' := (nI_eq (by omega) (by omega)).mp h1
          rw [if_neg (by omega), if_pos (by omega)]
          decide
        · intro hc
          refine ⟨z, q, rfl, ?_, ?_⟩
          · apply Decidable.byContradiction
            intro w
            rw [if_pos (show q ≤ H by omega)] at hc
            exact absurd rfl hc.1
          · apply Decidable.byContradiction
            intro w
            rw [if_neg w] at hc
            exact absurd hc.2 (by decide)
      · rw [if_neg z, if_neg z]
        exact ⟨fun w => absurd w.1 z, fun w => absurd rfl w.1⟩
    exact ⟨fun ⟨k, hk, h1, h2⟩ => ⟨k, hk, (key k hk).mp h1, h2⟩, fun ⟨k, hk, h1, h2⟩ => ⟨k, hk, (key k hk).mpr h1, h2⟩⟩
  have eC : (cx_passB χ x1 nE).2 = σ 18 0 + (sm_passP σ nE d).1 := by
    rw [eX, hB.1, hO.2.2.1, ← m2] at p2
    generalize nz ((sm_passP σ nE d).2 15) = a at p2
    generalize (cx_passB χ x1 nE).2 = b at p2 ⊢
    generalize (sm_passP σ nE d).1 = c at p2 ⊢
    generalize σ 18 0 = z at p2 ⊢
    have e : b = (a + b) - a := by grind
    rw [e, p2]
    grind
  rw [hxn]
  refine ⟨?_, ?_⟩
  · rw [eC, hO.2.2.1]
    congr 1
    grind
  have k1 : ∀ k, k ≠ 2 → k ≠ 3 → k ≠ 7 → cx_passS χ x1 nE k = χ k := fun k h1 h2 h3 => (va_up_ne _ _ h1).trans ((va_up_ne _ _ h2).trans (va_up_ne _ _ h3))
  have k2 : ∀ k, k ≠ 1 → k ≠ 15 → k ≠ 18 → (sm_passP σ nE d).2 k = σ k := fun k h1 h2 h3 => sm_passP_keep σ nE h1 h2 h3 d
  refine ⟨rS_c hS (fun k hk => k1 k (by omega) (by omega) (by omega)) (fun k hk hk2 => k2 k (by omega) (by omega) (by omega)), rE_c hE (fun k hk => k1 k (by omega) (by omega) (by omega)) (fun k hk hk2 => k2 k (by omega) (by omega) (by omega)), ⟨eX, ?_, ?_, fun j => ?_⟩, rN_c hN (fun k hk => k1 k (by omega) (by omega) (by omega)) (fun k hk hk2 => k2 k (by omega) (by omega) (by omega)) (fun j hj hz => hj ((m1 j).2.mpr (Or.inl hz))), ?_, ?_, ?_, ?_, ?_, ?_⟩
  · rw [k1 8 (by omega) (by omega) (by omega), k2 17 (by omega) (by omega) (by omega)]; exact hB.2.1
  · rw [k1 9 (by omega) (by omega) (by omega), k2 16 (by omega) (by omega) (by omega)]; exact hB.2.2.1
  · rcases (m1 j).1 with q | q
    · exact Or.inl q
    · rw [q]; exact hB.2.2.2 j
  · show χ 2 0 + x1 = _
    rw [m4, hO.1, hH2, hx, nI_add]
  · exact ⟨H + d, hHd, m4⟩
  · show (cx_passB χ x1 nE).2 = _
    rw [eC, m3]
  · rw [k1 4 (by omega) (by omega) (by omega), k2 19 (by omega) (by omega) (by omega)]; exact hO.2.2.2.1
  · rw [k2 19 (by omega) (by omega) (by omega)]; exact hO.2.2.2.2.1
  · rw [k1 5 (by omega) (by omega) (by omega), k2 8 (by omega) (by omega) (by omega)]; exact hO.2.2.2.2.2
