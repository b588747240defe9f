theorem fst_eq (o : Int32) {k : Nat} (hk : k < 30) (s : Int32 × Int32) : sm_fst o k s = if (qb o k && (qb s.1 (k / 6) || qb s.2 (k % 6))) = true then (s.1 ||| 1 <<< (nI (k / 6) &&& 31), s.2 ||| 1 <<< (nI (k % 6) &&& 31)) else s := by
  have e1 : sm_is o k = if qb o k = true then 1 else 0 := by
    unfold sm_is
    rw [qb_bit (by omega)]
    by_cases q : qb o k = true <;> simp [q]
  have e2 : sm_hs s k = if (qb s.1 (k / 6) || qb s.2 (k % 6)) = true then 1 else 0 := by
    unfold sm_hs
    rw [nI_m6 ⟨k, hk⟩, nI_d6 ⟨k, hk⟩]
    show (if sm_bit s.1 (nI (k / 6)) = 1 then (1 : Int32) else if sm_bit s.2 (nI (k % 6)) = 1 then 1 else 0) = _
    rw [qb_bit (by omega), qb_bit (by omega)]
    by_cases q : qb s.1 (k / 6) = true <;> by_cases q2 : qb s.2 (k % 6) = true <;> simp [q, q2]
  unfold sm_fst
  rw [e1, e2, nI_m6 ⟨k, hk⟩, nI_d6 ⟨k, hk⟩]
  by_cases q : qb o k = true
  · by_cases q2 : (qb s.1 (k / 6) || qb s.2 (k % 6)) = true
    · rw [q2, q]; rfl
    · simp only [q, q2, if_true, Bool.true_and, Bool.false_eq_true, if_false]
      show (s.1 ||| 0, s.2 ||| 0) = s
      rw [Int32.or_zero, Int32.or_zero]
  · simp only [q, Bool.false_and, Bool.false_eq_true, if_false]
    show (s.1 ||| 0, s.2 ||| 0) = s
    rw [Int32.or_zero, Int32.or_zero]
def pble (s t : Int32 × Int32) : Prop := ble s.1 t.1 ∧ ble s.2 t.2
theorem pble_anti {s t : Int32 × Int32} (h : pble s t) (h2 : pble t s) : s = t := Prod.ext (ble_anti h.1 h2.1) (ble_anti h.2 h2.2)
theorem fst_up (o : Int32) {k : Nat} (hk : k < 30) (s : Int32 × Int32) : pble s (sm_fst o k s) := by
  rw [fst_eq o hk]
  split
  · exact ⟨ble_or _ _, ble_or _ _⟩
  · exact ⟨fun _ h => h, fun _ h => h⟩
def phi (s : Int32 × Int32) : Prop := bhi 5 s.1 ∧ bhi 6 s.2
theorem fst_hi (o : Int32) {k : Nat} (hk : k < 30) {s : Int32 × Int32} (h : phi s) : phi (sm_fst o k s) := by
  rw [fst_eq o hk]
  split
  · refine ⟨fun i hi => ?_, fun i hi => ?_⟩
    · show qb (s.1 ||| _) i = false
      rw [qb_or, h.1 i hi, qb_one (by omega)]; simp; omega
    · show qb (s.2 ||| _) i = false
      rw [qb_or, h.2 i hi, qb_one (by omega)]; simp; omega
  · exact h
/-- what holds of rows and columns found -/
def fnd (o : Int32) (Y : Nat → Prop) (s : Int32 × Int32) : Prop := (∀ r, r < 5 → qb s.1 r = true → ∀ j, j < 6 → qb o (r * 6 + j) = true → Y j) ∧ ∀ j, j < 6 → qb s.2 j = true → Y j
theorem fst_so (o : Int32) {k : Nat} (hk : k < 30) {s : Int32 × Int32} {Y : Nat → Prop} (hY : clo o Y) (h : fnd o Y s) : fnd o Y (sm_fst o k s) := by
  rw [fst_eq o hk]
  split
  case isFalse => exact h
  case isTrue q =>
    simp only [Bool.and_eq_true, Bool.or_eq_true] at q
    obtain ⟨q1, q2⟩ := q
    have hk2 : k / 6 * 6 + k % 6 = k := by omega
    have yb : Y (k % 6) := by
      rcases q2 with w | w
      · exact h.1 (k / 6) (by omega) w (k % 6) (by omega) (by rw [hk2]; exact q1)
      · exact h.2 (k % 6) (by omega) w
    refine ⟨fun r hr hq j hj ho => ?_, fun j hj hq => ?_⟩
    · have hq' : qb (s.1 ||| 1 <<< (nI (k / 6) &&& 31)) r = true := hq
      rw [qb_or, qb_one (by omega)] at hq'
      simp only [Bool.or_eq_true, decide_eq_true_eq] at hq'
      rcases hq' with w | w
      · exact h.1 r hr w j hj ho
      · subst w
        exact hY (k / 6) hr ⟨k % 6, by omega, by rw [hk2]; exact q1, yb⟩ j hj ho
    · have hq' : qb (s.2 ||| 1 <<< (nI (k % 6) &&& 31)) j = true := hq
      rw [qb_or, qb_one (by omega)] at hq'
      simp only [Bool.or_eq_true, decide_eq_true_eq] at hq'
      rcases hq' with w | w
      · exact h.2 j hj w
      · rw [w]; exact yb
theorem frd_up (o : Int32) (s : Int32 × Int32) : ∀ n, n ≤ 30 → pble s (sg_it (sm_fst o) s n)
  | 0, _ => ⟨fun _ h => h, fun _ h => h⟩
  | n + 1, hn => ⟨fun j h => (fst_up o (by omega) _).1 j ((frd_up o s n (by omega)).1 j h), fun j h => (fst_up o (by omega) _).2 j ((frd_up o s n (by omega)).2 j h)⟩
theorem frd_hi (o : Int32) {s : Int32 × Int32} (h : phi s) : ∀ n, n ≤ 30 → phi (sg_it (sm_fst o) s n)
  | 0, _ => h
  | n + 1, hn => fst_hi o (by omega) (frd_hi o h n (by omega))
theorem frd_so (o : Int32) {s : Int32 × Int32} {Y : Nat → Prop} (hY : clo o Y) (h : fnd o Y s) : ∀ n, n ≤ 30 → fnd o Y (sg_it (sm_fst o) s n)
  | 0, _ => h
  | n + 1, hn => fst_so o (by omega) hY (frd_so o hY h n (by omega))
theorem frs_iff {h : Int32} {e : Nat} (he : e < 30) {j : Nat} (hj : j < 6) : qb (sm_frs h (nI e)).2 j = true ↔ rch (sg_oth h (nI e)) (e / 6) j := by
  unfold sm_frs
  rw [nI_d6 ⟨e, he⟩]
  generalize sg_oth h (nI e) = o
  have hr : e / 6 < 5 := by omega
  show qb (sg_it (fun _ s => sm_frd o s) (1 <<< (nI (e / 6) &&& 31), 0) 11).2 j = true ↔ rch o (e / 6) j
  generalize e / 6 = r0 at hr ⊢
  have h0 : phi (1 <<< (nI r0 &&& 31), 0) := ⟨fun k hk => by
    show qb (1 <<< (nI r0 &&& 31)) k = false
    rw [qb_one (by omega)]; simp; omega, fun k _ => qb_zero k⟩
  have b1 : qb (1 <<< (nI r0 &&& 31)) r0 = true := by rw [qb_one (by omega)]; simp
  have itup : ∀ n, pble (1 <<< (nI r0 &&& 31), 0) (sg_it (fun _ s => sm_frd o s) (1 <<< (nI r0 &&& 31), 0) n) := fun n => by
    induction n with
    | zero => exact ⟨fun _ h => h, fun _ h => h⟩
    | succ n ih => exact ⟨fun j h => (frd_up o _ 30 (by omega)).1 j (ih.1 j h), fun j h => (frd_up o _ 30 (by omega)).2 j (ih.2 j h)⟩
  constructor
  · intro hq Y hY hb
    have : ∀ n, fnd o Y (sg_it (fun _ s => sm_frd o s) (1 <<< (nI r0 &&& 31), 0) n) := fun n => by
      induction n with
      | zero =>
        refine ⟨fun r hr2 hqr j hj ho => ?_, fun j hj hqj => ?_⟩
        · have hqr' : qb (1 <<< (nI r0 &&& 31)) r = true := hqr
          rw [qb_one (by omega)] at hqr'
          have : r = r0 := by simpa using hqr'
          subst this
          exact hb j hj ho
        · have hqj' : qb 0 j = true := hqj
          rw [qb_zero] at hqj'; exact absurd hqj' (by decide)
      | succ n ih => exact frd_so o hY ih 30 (by omega)
    exact (this 11).2 j hj hq
  · intro hR
    have hfix : sm_frd o (sg_it (fun _ s => sm_frd o s) (1 <<< (nI r0 &&& 31), 0) 11) = sg_it (fun _ s => sm_frd o s) (1 <<< (nI r0 &&& 31), 0) 11 := by
      refine fix_it (sm_frd o) phi (fun s => cb s.1 5 + cb s.2 6) 11 (fun s hs => frd_hi o hs 30 (by omega)) (fun s _ => by have := cb_le s.1 5; have := cb_le s.2 6; show cb s.1 5 + cb s.2 6 ≤ 11; omega) (fun s hs => ?_) _ h0 11 (by have := cb_pos b1 5 hr; show 11 ≤ cb _ 5 + cb _ 6 + 11; omega)
      have u : pble s (sm_frd o s) := frd_up o s 30 (by omega)
      have hs2 : phi (sm_frd o s) := frd_hi o hs 30 (by omega)
      have c1 := cb_mono u.1 5
      have c2 := cb_mono u.2 6
      by_cases w : cb s.1 5 = cb (sm_frd o s).1 5 ∧ cb s.2 6 = cb (sm_frd o s).2 6
      · left
        refine Prod.ext (qb_ext fun k hk => ?_) (qb_ext fun k hk => ?_)
        · by_cases k5 : k < 5
          · exact (cb_eq u.1 5 w.1 k k5).symm
          · exact (hs2.1 k (by omega)).trans (hs.1 k (by omega)).symm
        · by_cases k6 : k < 6
          · exact (cb_eq u.2 6 w.2 k k6).symm
          · exact (hs2.2 k (by omega)).trans (hs.2 k (by omega)).symm
      · right
        show cb s.1 5 + cb s.2 6 < cb (sm_frd o s).1 5 + cb (sm_frd o s).2 6
        omega
    have hst := fix_st pble (fun _ => ⟨fun _ h => h, fun _ h => h⟩) (fun _ _ _ h1 h2 => ⟨fun j h => h2.1 j (h1.1 j h), fun j h => h2.2 j (h1.2 j h)⟩) (fun _ _ => pble_anti) (sm_fst o) _ 30 (fun k s hk => fst_up o hk s) hfix
    generalize hS : sg_it (fun _ s => sm_frd o s) (1 <<< (nI r0 &&& 31), 0) 11 = S at hst
    have itS := itup 11
    rw [hS] at itS
    have key : ∀ r j, r < 5 → j < 6 → qb o (r * 6 + j) = true → (qb S.1 r = true ∨ qb S.2 j = true) → qb S.1 r = true ∧ qb S.2 j = true := fun r j hr2 hj2 ho hor => by
      have e := hst (r * 6 + j) (by omega)
      rw [fst_eq o (by omega), show (r * 6 + j) / 6 = r by omega, show (r * 6 + j) % 6 = j by omega, if_pos (by rw [ho]; simp only [Bool.true_and, Bool.or_eq_true]; exact hor)] at e
      refine ⟨?_, ?_⟩
      · rw [← e]
        show qb (S.1 ||| _) r = true
        rw [qb_or, qb_one (by omega)]; simp
      · rw [← e]
        show qb (S.2 ||| _) j = true
        rw [qb_or, qb_one (by omega)]; simp
    refine hR (fun i => qb S.2 i = true) (fun r hr2 hex i hi h3 => ?_) (fun i hi h3 => (key r0 i hr hi h3 (Or.inl (itS.1 r0 b1))).2)
    obtain ⟨j', hj', h4, h5⟩ := hex
    exact (key r i hr2 hi h3 (Or.inl (key r j' hr2 hj' h4 (Or.inr h5)).1)).2
theorem rnd_fnd {h : Int32} {e : Nat} (he : e < 30) : sg_round h (nI e) = 0 ↔ sm_found h (nI e) = 1 := by
  unfold sg_round sm_found
  rw [nI_m6 ⟨e, he⟩, qb_has (by omega)]
  show (if qb (sg_reach h (nI e)) (e % 6) = true then (1 : Int32) else 0) = 0 ↔ (if sm_bit (sm_frs h (nI e)).2 (nI (e % 6)) = 0 then (1 : Int32) else 0) = 1
  rw [qb_bit (by omega)]
  by_cases q : rch (sg_oth h (nI e)) (e / 6) (e % 6)
  · rw [if_pos ((reach_iff he (by omega)).mpr q), if_pos ((frs_iff he (by omega)).mpr q)]; decide
  · rw [if_neg (fun w => q ((reach_iff he (by omega)).mp w)), if_neg (fun w => q ((frs_iff he (by omega)).mp w))]; decide
/-- found: none of the others leads round -/
theorem fnd_iff {h : Int32} {e : Nat} (he : e < 30) : sm_found h (nI e) = 1 ↔ ¬ rch (sg_oth h (nI e)) (e / 6) (e % 6) := by
  unfold sm_found
  rw [nI_m6 ⟨e, he⟩]
  show (if sm_bit (sm_frs h (nI e)).2 (nI (e % 6)) = 0 then (1 : Int32) else 0) = 1 ↔ _
  rw [qb_bit (by omega)]
  by_cases q : rch (sg_oth h (nI e)) (e / 6) (e % 6)
  · rw [if_pos ((frs_iff he (by omega)).mpr q)]
    exact ⟨fun w => absurd w (by decide), fun w => absurd q w⟩
  · rw [if_neg (fun w => q ((frs_iff he (by omega)).mp w))]
    exact ⟨fun _ => q, fun _ => by decide⟩
