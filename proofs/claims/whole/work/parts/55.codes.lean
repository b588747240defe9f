/-! pure: the numbers of what is thrown -/
theorem qa_px1 {c cm : Int32} (h : c = 0 ∨ c = 1) (e : cm = c) : ∀ E, qx_px c E → (E = qw_E1 ∧ ql_pk cm 1) := by
  intro E hE
  rcases hE with ⟨rfl, h1⟩ | ⟨rfl, h1⟩ | ⟨rfl, h1⟩
  · exact ⟨rfl, by decide, e.trans h1⟩
  · rw [h1] at h; exact absurd h (by decide)
  · rw [h1] at h; exact absurd h (by decide)
theorem qa_px3 {c cm : Int32} (e : cm = c) : ∀ E, qx_px c E → (E = qw_E1 ∧ ql_pk cm 1) ∨ (E = qw_E2 ∧ ql_pk cm 2) ∨ (E = qw_E3 ∧ ql_pk cm 3) := by
  intro E hE
  rcases hE with ⟨rfl, h1⟩ | ⟨rfl, h1⟩ | ⟨rfl, h1⟩
  · exact Or.inl ⟨rfl, by decide, e.trans h1⟩
  · exact Or.inr (Or.inl ⟨rfl, by decide, e.trans h1⟩)
  · exact Or.inr (Or.inr ⟨rfl, by decide, e.trans h1⟩)
/-- E1 and E3 alone -/
theorem qa_px13 {c cm : Int32} (h2 : ¬ c = 2) (e1 : c = 1 → cm = 1) (e3 : c = 3 → cm = 2) : ∀ E, qx_px c E → (E = qw_E1 ∧ ql_pk cm 1) ∨ (E = qw_E3 ∧ ql_pk cm 2) := by
  intro E hE
  rcases hE with ⟨rfl, h1⟩ | ⟨rfl, h1⟩ | ⟨rfl, h1⟩
  · exact Or.inl ⟨rfl, by decide, e1 h1⟩
  · exact absurd h1 h2
  · exact Or.inr ⟨rfl, by decide, e3 h1⟩
/-- E2 and E3 alone -/
theorem qa_px23 {c cm : Int32} (h1 : ¬ c = 1) (e2 : c = 2 → cm = 1) (e3 : c = 3 → cm = 2) : ∀ E, qx_px c E → (E = qw_E2 ∧ ql_pk cm 1) ∨ (E = qw_E3 ∧ ql_pk cm 2) := by
  intro E hE
  rcases hE with ⟨rfl, h⟩ | ⟨rfl, h⟩ | ⟨rfl, h⟩
  · exact absurd h h1
  · exact Or.inl ⟨rfl, by decide, e2 h⟩
  · exact Or.inr ⟨rfl, by decide, e3 h⟩
theorem qc_turn (x : Int32) : sm_cT x = cx_turn x := by
  unfold sm_cT cx_turn
  rw [qc_tab]
  by_cases h : sm_isT x = 0 <;> simp [h]
theorem qc_mark (x y : Int32) : sm_cE x y = cx_mark x y := by
  unfold sm_cE cx_mark
  rw [qc_eat]
  by_cases h : sm_isE x y = 0 <;> simp [h]
theorem qc_rep (x y : Int32) : cx_rep x y = if sm_both x y = 0 then 1 else 0 := by
  unfold cx_rep sm_both
  rw [qc_tab, qc_lev]
  by_cases h : sm_isT x = 0
  · simp [h]
  · by_cases h2 : sm_isL y = 0 <;> simp [h, h2]
theorem qc_isB (x y : Int32) : sm_cB x y = cx_isB x y := by
  unfold sm_cB cx_isB
  rw [qc_rep]
  by_cases h : sm_both x y = 0 <;> simp [h]
