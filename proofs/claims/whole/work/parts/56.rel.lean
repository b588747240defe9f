/-! pure: what the class and the model have in common -/
def rS (χ : Nat → Nat → Int32) (nS : Nat) (σ : Nat → Nat → Int32) : Prop := nS ≤ 120 ∧ χ 0 0 = nI nS ∧ σ 2 0 = nI nS ∧ χ 40 = σ 3 ∧ χ 41 = σ 4 ∧ χ 42 = σ 5 ∧ χ 43 = σ 6 ∧ χ 44 = σ 7 ∧ (∀ i, nS ≤ i → σ 7 i = 0) ∧ ∀ i, i < nS → ∃ t a b, t < 3 ∧ a < 4 ∧ b < 5 ∧ σ 3 i = nI t ∧ σ 4 i = nI a ∧ σ 5 i = nI b
def rE (χ : Nat → Nat → Int32) (nE : Nat) (σ : Nat → Nat → Int32) : Prop := nE ≤ 40 ∧ χ 1 0 = nI nE ∧ σ 9 0 = nI nE ∧ χ 45 = σ 10 ∧ χ 46 = σ 11 ∧ χ 47 = σ 12 ∧ χ 48 = σ 13 ∧ χ 49 = σ 14 ∧ (∀ i, nE ≤ i → σ 14 i = 0) ∧ ∀ i, i < nE → ∃ t v e h, t < 3 ∧ v < 4 ∧ e < 30 ∧ h < 10101 ∧ σ 10 i = nI t ∧ σ 12 i = nI v ∧ σ 11 i = nI e ∧ σ 13 i = nI h
def rB (χ σ : Nat → Nat → Int32) : Prop := χ 7 = σ 15 ∧ χ 8 = σ 17 ∧ χ 9 = σ 16 ∧ ∀ j, σ 15 j = 0 ∨ σ 15 j = 1
def rN (χ : Nat → Nat → Int32) (nS : Nat) (σ : Nat → Nat → Int32) : Prop := ∀ t, t < 3 → (∀ e, e < 30 → χ (10 + t) e = sm_sumO σ (nI t) (nI e) nS) ∧ χ 6 t = sm_read σ (nI t) nS ∧ ∀ v, v < 4 → ¬ σ 15 (4 * t + v) = 0 → (∀ e, e < 30 → χ (20 + (4 * t + v)) e = χ (10 + t) e) ∧ χ 13 (4 * t + v) = χ 6 t
def rO (χ σ : Nat → Nat → Int32) : Prop := χ 2 0 = σ 1 0 ∧ (∃ h, h < 10001 ∧ σ 1 0 = nI h) ∧ χ 3 0 = σ 18 0 ∧ χ 4 0 = σ 19 0 ∧ (∀ k, 30 ≤ k → qb (σ 19 0) k = false) ∧ χ 5 = σ 8
def RLr0 (χ : Nat → Nat → Int32) (nS nE : Nat) (σ : Nat → Nat → Int32) : Prop := rS χ nS σ ∧ rE χ nE σ ∧ rB χ σ ∧ rN χ nS σ ∧ rO χ σ
theorem r_wf {χ : Nat → Nat → Int32} {nS nE : Nat} {σ : Nat → Nat → Int32} (h : RLr0 χ nS nE σ) : ql_wf χ nS nE σ := by
  obtain ⟨⟨a1, a2, a3, a4, a5, a6, a7, a8, a9, a10⟩, ⟨b1, b2, b3, b4, b5, b6, b7, b8, b9, b10⟩, ⟨c1, c2, c3, c4⟩, -, -⟩ := h
  refine ⟨a3, b3, fun i hi => ?_, fun i hi => ?_, fun i hi => ?_, fun i hi => ?_, fun i hi => ?_, fun j => ?_⟩
  · obtain ⟨t, a, b, h1, h2, h3, h4, h5, h6⟩ := a10 i hi
    exact ⟨t, h1, h4⟩
  · obtain ⟨t, a, b, c, h1, h2, h3, h0, h4, h5, h6, h7⟩ := b10 i hi
    exact ⟨t, h1, h4⟩
  · obtain ⟨t, a, b, c, h1, h2, h3, h0, h4, h5, h6, h7⟩ := b10 i hi
    exact ⟨a, h2, h5⟩
  · obtain ⟨t, a, b, h1, h2, h3, h4, h5, h6⟩ := a10 i hi
    exact ⟨t, a, b, h1, h2, h3, by rw [a4, h4], by rw [a5, h5], by rw [a6, h6]⟩
  · obtain ⟨t, a, b, c, h1, h2, h3, h0, h4, h5, h6, h7⟩ := b10 i hi
    exact ⟨t, a, h1, by omega, by rw [b4, h4], by rw [b6, h5]⟩
  · rw [c1]; exact c4 j
theorem sm_read0 (x : Int32) : sm_read (fun _ _ => 0) x 0 = 0 := rfl
theorem r_zero : RLr0 (fun _ _ => 0) 0 0 (fun _ _ => 0) := by
  refine ⟨⟨by omega, rfl, rfl, rfl, rfl, rfl, rfl, rfl, fun i _ => rfl, fun i hi => absurd hi (by omega)⟩, ⟨by omega, rfl, rfl, rfl, rfl, rfl, rfl, rfl, fun i _ => rfl, fun i hi => absurd hi (by omega)⟩, ⟨rfl, rfl, rfl, fun j => Or.inl rfl⟩, fun t ht => ⟨fun e he => rfl, rfl, fun v hv h => absurd rfl h⟩, ⟨rfl, ⟨0, by omega, rfl⟩, rfl, rfl, fun k hk => ?_, rfl⟩⟩
  show (0#32).getLsbD k = false
  simp
/-- what the entries of an array say about a place and its number in the tables -/
theorem qc_ix (x y : Int32) : x * 6 + y = 6 * x + y := by rw [Int32.mul_comm]
theorem r_tab {x : Int32} (h : cx_tab x = 0) : ∃ t, t < 3 ∧ x = nI t ∧ x.toNatClampNeg = t := by
  obtain ⟨t, h1, h2⟩ := cx_tab_ok h
  exact ⟨t, h1, h2, by rw [h2]; exact nI_clamp (by omega)⟩
theorem r_entv {χ σ : Nat → Nat → Int32} (h : χ 5 = σ 8) (x1 x2 x3 : Int32) : cx_ent χ x1 x2 x3 = (if sm_ent σ x1 x2 x3 = -1 then 1 else 0) ∧ (cx_ent χ x1 x2 x3 = 0 → cx_entv χ x1 x2 x3 = sm_ent σ x1 x2 x3 ∧ ∃ t e, t < 3 ∧ e < 30 ∧ x1 = nI t ∧ x1.toNatClampNeg = t ∧ sm_ent σ x1 x2 x3 = nI e) := by
  have hn : ∀ a b : Nat, a < 5 → b < 6 → ¬ nI (a * 6 + b) = -1 := fun a b ha hb q => by
    have := congrArg Int32.toInt q
    rw [nI_toInt (by omega), show (-1 : Int32).toInt = -1 from by decide] at this; omega
  have key : ∀ x y : Int32, ¬ sm_isE x y = 0 → ∃ a b, a < 5 ∧ b < 6 ∧ 6 * x + y = nI (a * 6 + b) := fun x y hE => by
    obtain ⟨⟨a, ha, rfl⟩, ⟨b, hb, rfl⟩⟩ := sm_isE_ok hE
    exact ⟨a, b, ha, hb, by rw [← qc_ix]; exact sg_rc rfl rfl⟩
  unfold cx_ent cx_entv sm_ent sm_row
  rw [h, qc_tab, qc_eat, qc_eat]
  by_cases ht : sm_isT x1 = 0
  · simp [ht]
  · obtain ⟨t, h1, h2, h3⟩ := r_tab (x := x1) (by rw [qc_tab, if_neg ht])
    by_cases hT : σ 8 x1.toNatClampNeg = 0
    · simp only [ht, hT, if_true, if_false]
      by_cases hE : sm_isE x2 x3 = 0
      · simp [hE]
      · obtain ⟨a, b, ha, hb, he⟩ := key x2 x3 hE
        rw [if_neg hE, if_neg hE, he, if_neg (hn a b ha hb)]
        exact ⟨rfl, fun _ => ⟨by rw [qc_ix, he], t, a * 6 + b, h1, by omega, h2, h3, rfl⟩⟩
    · simp only [ht, hT, if_true, if_false]
      by_cases hE : sm_isE x3 x2 = 0
      · simp [hE]
      · obtain ⟨a, b, ha, hb, he⟩ := key x3 x2 hE
        rw [if_neg hE, if_neg hE, he, if_neg (hn a b ha hb)]
        exact ⟨rfl, fun _ => ⟨by rw [qc_ix, he], t, a * 6 + b, h1, by omega, h2, h3, rfl⟩⟩
