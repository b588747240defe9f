/-! pure: what can be reached -/
theorem qb_63 : ∀ j : Fin 32, qb 63 j.1 = decide (j.1 < 6) := by decide +kernel
theorem qb_m1 : ∀ j : Fin 32, qb (-1) j.1 = true := by decide +kernel
theorem qb_shr {s : Int32} {k j : Nat} (h : k + j < 32) : qb (s >>> (nI k &&& 31)) j = qb s (k + j) := by
  unfold qb
  rw [Int32.toBitVec_shiftRight]
  show (s.toBitVec.sshiftRight ((nI k &&& 31).toBitVec.smod 32).toNat).getLsbD j = _
  rw [BitVec.getLsbD_sshiftRight, qb_md ⟨k, by omega⟩]
  simp [h, show ¬ 32 ≤ j by omega]
theorem qb_oth {h : Int32} {e k : Nat} (he : e < 30) (hk : k < 32) : qb (sg_oth h (nI e)) k = (qb h k && decide (k ≠ e)) := by
  unfold sg_oth
  rw [qb_and, qb_xor, qb_one (by omega), qb_m1 ⟨k, hk⟩]
  by_cases q : k = e <;> simp [q]
theorem qb_cols {s : Int32} {r j : Nat} (hr : r < 5) (hj : j < 32) : qb (sg_cols s (nI r)) j = (decide (j < 6) && qb s (r * 6 + j)) := by
  unfold sg_cols
  rw [qb_and, qb_63 ⟨j, hj⟩, show nI r * 6 = nI (r * 6) from pk_mul r 6]
  by_cases q : j < 6
  · rw [qb_shr (by omega)]; simp [q]
  · simp [q]
theorem qb_ne {x : Int32} (h : ¬ x = 0) : ∃ j, j < 32 ∧ qb x j = true := by
  apply Classical.byContradiction
  intro q
  refine h (qb_ext fun k hk => ?_)
  rw [qb_zero]
  cases w : qb x k
  · rfl
  · exact absurd ⟨k, hk, w⟩ q
/-- one set within another -/
def ble (x y : Int32) : Prop := ∀ j, qb x j = true → qb y j = true
theorem ble_anti {x y : Int32} (h : ble x y) (h2 : ble y x) : x = y := qb_ext fun k _ => by
  cases q : qb x k
  · cases w : qb y k
    · rfl
    · rw [h2 k w] at q; exact absurd q (by decide)
  · exact (h k q).symm
theorem ble_or (x y : Int32) : ble x (x ||| y) := fun j h => by rw [qb_or, h]; rfl
def cb (x : Int32) : Nat → Nat
  | 0 => 0
  | n + 1 => cb x n + (if qb x n = true then 1 else 0)
theorem cb_le (x : Int32) : ∀ n, cb x n ≤ n
  | 0 => Nat.le_refl _
  | n + 1 => by
    have := cb_le x n
    show cb x n + (if qb x n = true then 1 else 0) ≤ n + 1
    split <;> omega
theorem cb_mono {x y : Int32} (h : ble x y) : ∀ n, cb x n ≤ cb y n
  | 0 => Nat.le_refl _
  | n + 1 => by
    have := cb_mono h n
    show cb x n + (if qb x n = true then 1 else 0) ≤ cb y n + (if qb y n = true then 1 else 0)
    by_cases q : qb x n = true
    · rw [if_pos q, if_pos (h n q)]; omega
    · rw [if_neg q]; omega
theorem cb_eq {x y : Int32} (h : ble x y) : ∀ n, cb x n = cb y n → ∀ j, j < n → qb x j = qb y j
  | 0, _, j, hj => absurd hj (by omega)
  | n + 1, he, j, hj => by
    have h1 := cb_mono h n
    have he2 : cb x n + (if qb x n = true then 1 else 0) = cb y n + (if qb y n = true then 1 else 0) := he
    have h3 : (if qb x n = true then 1 else 0) ≤ (if qb y n = true then 1 else 0) := by
      by_cases q : qb x n = true
      · rw [if_pos q, if_pos (h n q)]; omega
      · rw [if_neg q]; omega
    by_cases hn : j = n
    · subst hn
      cases q : qb x j
      · cases w : qb y j
        · rfl
        · rw [q, w] at he2; simp at he2; omega
      · exact (h j q).symm
    · exact cb_eq h n (by omega) j (by omega)
theorem cb_pos {x : Int32} {j : Nat} (h : qb x j = true) : ∀ n, j < n → 1 ≤ cb x n
  | 0, hj => absurd hj (by omega)
  | n + 1, hj => by
    show 1 ≤ cb x n + (if qb x n = true then 1 else 0)
    by_cases hn : j = n
    · subst hn; rw [if_pos h]; omega
    · have := cb_pos h n (by omega); omega
/-- as often as there is room, and then nothing changes -/
theorem fix_it {S : Type} (f : S → S) (I : S → Prop) (m : S → Nat) (N : Nat) (hI : ∀ s, I s → I (f s)) (hN : ∀ s, I s → m s ≤ N) (hm : ∀ s, I s → f s = s ∨ m s < m (f s)) (s : S) (hs : I s) (n : Nat) (h : N ≤ m s + n) : f (sg_it (fun _ => f) s n) = sg_it (fun _ => f) s n := by
  have hA : ∀ n, I (sg_it (fun _ => f) s n) := fun n => by
    induction n with
    | zero => exact hs
    | succ n ih => exact hI _ ih
  have hB : ∀ n, f (sg_it (fun _ => f) s n) = sg_it (fun _ => f) s n ∨ m s + n ≤ m (sg_it (fun _ => f) s n) := fun n => by
    induction n with
    | zero => exact Or.inr (Nat.le_refl _)
    | succ n ih =>
      show f (f (sg_it (fun _ => f) s n)) = f (sg_it (fun _ => f) s n) ∨ m s + (n + 1) ≤ m (f (sg_it (fun _ => f) s n))
      rcases ih with q | q
      · rw [q]; exact Or.inl q
      · rcases hm _ (hA n) with w | w
        · rw [w]; exact Or.inl w
        · exact Or.inr (by omega)
  rcases hB n with q | q
  · exact q
  · rcases hm _ (hA n) with w | w
    · exact w
    · have := hN _ (hI _ (hA n)); omega
/-- a round that changes nothing: none of its steps does -/
theorem fix_st {S : Type} (le : S → S → Prop) (rf : ∀ s, le s s) (tr : ∀ a b c, le a b → le b c → le a c) (an : ∀ a b, le a b → le b a → a = b) (f : Nat → S → S) (x : S) (n : Nat) (hf : ∀ k s, k < n → le s (f k s)) (h : sg_it f x n = x) : ∀ k, k < n → f k x = x := by
  have up : ∀ k, k ≤ n → le x (sg_it f x k) := fun k => by
    induction k with
    | zero => exact fun _ => rf x
    | succ k ih => exact fun hk => tr _ _ _ (ih (by omega)) (hf k _ (by omega))
  have dn : ∀ d k, k + d = n → le (sg_it f x k) x := fun d => by
    induction d with
    | zero => intro k hk; rw [show k = n by omega, h]; exact rf x
    | succ d ih => intro k hk; exact tr _ _ _ (hf k _ (by omega)) (ih (k + 1) (by omega))
  have eq : ∀ k, k ≤ n → sg_it f x k = x := fun k hk => an _ _ (dn (n - k) k (by omega)) (up k hk)
  intro k hk
  have e : f k (sg_it f x k) = x := eq (k + 1) (by omega)
  rw [eq k (by omega)] at e
  exact e
/-- columns that hold, with one of a row, all of the row -/
def clo (o : Int32) (Y : Nat → Prop) : Prop := ∀ r, r < 5 → (∃ j, j < 6 ∧ qb o (r * 6 + j) = true ∧ Y j) → ∀ j, j < 6 → qb o (r * 6 + j) = true → Y j
/-- can be reached from a row -/
def rch (o : Int32) (r0 j : Nat) : Prop := ∀ Y : Nat → Prop, clo o Y → (∀ i, i < 6 → qb o (r0 * 6 + i) = true → Y i) → Y j
def bhi (n : Nat) (x : Int32) : Prop := ∀ k, n ≤ k → qb x k = false
theorem cl_up (o : Int32) (r : Nat) (x : Int32) : ble x (sg_rstep o r x) := by
  unfold sg_rstep
  by_cases h : sg_cols o (nI r) &&& x = 0
  · rw [if_pos h]; exact fun j hj => hj
  · rw [if_neg h]; exact ble_or _ _
theorem cl_hi (o : Int32) {r : Nat} (hr : r < 5) {x : Int32} (hx : bhi 6 x) : bhi 6 (sg_rstep o r x) := by
  unfold sg_rstep
  by_cases h : sg_cols o (nI r) &&& x = 0
  · rw [if_pos h]; exact hx
  · rw [if_neg h]
    intro k hk
    rw [qb_or, hx k hk]
    by_cases q : k < 32
    · rw [qb_cols hr q]; simp; omega
    · rw [qb_hi _ (by omega)]; rfl
theorem cl_sound (o : Int32) {r : Nat} (hr : r < 5) {x : Int32} {Y : Nat → Prop} (hY : clo o Y) (hx : ∀ j, qb x j = true → Y j) : ∀ j, qb (sg_rstep o r x) j = true → Y j := by
  unfold sg_rstep
  by_cases h : sg_cols o (nI r) &&& x = 0
  · rw [if_pos h]; exact hx
  · rw [if_neg h]
    intro j hj
    rw [qb_or] at hj
    cases q : qb x j
    · rw [q, Bool.false_or] at hj
      by_cases hj2 : j < 32
      · rw [qb_cols hr hj2] at hj
        simp at hj
        obtain ⟨i, hi, hi2⟩ := qb_ne h
        rw [qb_and, qb_cols hr hi] at hi2
        simp at hi2
        exact hY r hr ⟨i, hi2.1.1, hi2.1.2, hx i hi2.2⟩ j hj.1 hj.2
      · rw [qb_hi _ (by omega)] at hj; exact absurd hj (by decide)
    · exact hx j q
theorem cl_fix (o : Int32) {r : Nat} (hr : r < 5) {x : Int32} (h : sg_rstep o r x = x) : (∃ j, j < 6 ∧ qb o (r * 6 + j) = true ∧ qb x j = true) → ∀ j, j < 6 → qb o (r * 6 + j) = true → qb x j = true := by
  rintro ⟨i, hi, h1, h2⟩ j hj h3
  unfold sg_rstep at h
  have h4 : ¬ sg_cols o (nI r) &&& x = 0 := fun q => by
    have := congrArg (fun v => qb v i) q
    simp only [qb_and, qb_zero] at this
    rw [qb_cols hr (by omega), h1, h2] at this
    simp [hi] at this
  rw [if_neg h4] at h
  rw [← h, qb_or, qb_cols hr (by omega), h3]
  simp [hj]
theorem pass_up (o x : Int32) : ∀ n, ble x (sg_it (sg_rstep o) x n)
  | 0 => fun _ h => h
  | n + 1 => fun j h => cl_up o n _ j (pass_up o x n j h)
theorem pass_hi (o : Int32) {x : Int32} (hx : bhi 6 x) : ∀ n, n ≤ 5 → bhi 6 (sg_it (sg_rstep o) x n)
  | 0, _ => hx
  | n + 1, h => cl_hi o (by omega) (pass_hi o hx n (by omega))
theorem pass_so (o : Int32) {x : Int32} {Y : Nat → Prop} (hY : clo o Y) (hx : ∀ j, qb x j = true → Y j) : ∀ n, n ≤ 5 → ∀ j, qb (sg_it (sg_rstep o) x n) j = true → Y j
  | 0, _ => hx
  | n + 1, h => cl_sound o (by omega) hY (pass_so o hY hx n (by omega))
theorem reach_iff {h : Int32} {e : Nat} (he : e < 30) {j : Nat} (hj : j < 6) : qb (sg_reach h (nI e)) j = true ↔ rch (sg_oth h (nI e)) (e / 6) j := by
  unfold sg_reach
  rw [nI_d6 ⟨e, he⟩]
  generalize sg_oth h (nI e) = o
  have hr : e / 6 < 5 := by omega
  generalize e / 6 = r0 at hr ⊢
  have b0 : ∀ k, qb (sg_cols o (nI r0)) k = true → k < 6 ∧ qb o (r0 * 6 + k) = true := fun k hk => by
    by_cases q : k < 32
    · rw [qb_cols hr q] at hk; simp at hk; exact hk
    · rw [qb_hi _ (by omega)] at hk; exact absurd hk (by decide)
  have hx0 : bhi 6 (sg_cols o (nI r0)) := fun k hk => by
    cases q : qb (sg_cols o (nI r0)) k
    · rfl
    · have := (b0 k q).1; omega
  have itup : ∀ n, ble (sg_cols o (nI r0)) (sg_it (fun _ x => sg_rpass o x) (sg_cols o (nI r0)) n) := fun n => by
    induction n with
    | zero => exact fun _ h => h
    | succ n ih => exact fun j h => pass_up o _ 5 j (ih j h)
  constructor
  · intro hq Y hY hb
    have : ∀ n j, qb (sg_it (fun _ x => sg_rpass o x) (sg_cols o (nI r0)) n) j = true → Y j := fun n => by
      induction n with
      | zero => exact fun j hj => hb j (b0 j hj).1 (b0 j hj).2
      | succ n ih => exact pass_so o hY ih 5 (by omega)
    exact this 5 j hq
  · intro hR
    have hfix : sg_rpass o (sg_it (fun _ x => sg_rpass o x) (sg_cols o (nI r0)) 5) = sg_it (fun _ x => sg_rpass o x) (sg_cols o (nI r0)) 5 := by
      by_cases q : sg_cols o (nI r0) = 0
      · rw [q]
        have z : ∀ n, sg_it (sg_rstep o) 0 n = 0 := fun n => by
          induction n with
          | zero => rfl
          | succ n ih =>
            show sg_rstep o n (sg_it (sg_rstep o) 0 n) = 0
            rw [ih]
            unfold sg_rstep
            rw [if_pos (by simp)]
        have z2 : ∀ n, sg_it (fun _ x => sg_rpass o x) 0 n = 0 := fun n => by
          induction n with
          | zero => rfl
          | succ n ih =>
            show sg_rpass o (sg_it (fun _ x => sg_rpass o x) 0 n) = 0
            rw [ih]
            exact z 5
        rw [z2 5]
        exact z 5
      · obtain ⟨i, hi, hi2⟩ := qb_ne q
        have hi6 := (b0 i hi2).1
        refine fix_it (sg_rpass o) (bhi 6) (fun x => cb x 6) 6 (fun s hs => pass_hi o hs 5 (by omega)) (fun s _ => cb_le s 6) (fun s hs => ?_) _ hx0 5 (by have := cb_pos hi2 6 hi6; show 6 ≤ cb _ 6 + 5; omega)
        have u : ble s (sg_rpass o s) := pass_up o s 5
        by_cases w : cb s 6 = cb (sg_rpass o s) 6
        · left
          refine qb_ext fun k hk => ?_
          by_cases k6 : k < 6
          · exact (cb_eq u 6 w k k6).symm
          · exact (pass_hi o hs 5 (by omega) k (by omega)).trans (hs k (by omega)).symm
        · right
          have := cb_mono u 6
          show cb s 6 < cb (sg_rpass o s) 6
          omega
    have hst := fix_st ble (fun _ _ h => h) (fun _ _ _ h1 h2 j h => h2 j (h1 j h)) (fun _ _ => ble_anti) (sg_rstep o) _ 5 (fun k s _ => cl_up o k s) hfix
    exact hR (fun i => qb (sg_it (fun _ x => sg_rpass o x) (sg_cols o (nI r0)) 5) i = true) (fun r hr2 hex i hi h3 => cl_fix o hr2 (hst r hr2) hex i hi h3) (fun i hi h3 => itup 5 i (by rw [qb_cols hr (by omega), h3]; simp [hi]))
