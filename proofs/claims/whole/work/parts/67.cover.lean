/-! pure: covers -/
theorem cb_or (x y : Int32) : ∀ n, cb (x ||| y) n ≤ cb x n + cb y n
  | 0 => Nat.le_refl _
  | n + 1 => by
    have := cb_or x y n
    show cb (x ||| y) n + (if qb (x ||| y) n = true then 1 else 0) ≤ cb x n + (if qb x n = true then 1 else 0) + (cb y n + (if qb y n = true then 1 else 0))
    rw [qb_or]
    cases qb x n <;> cases qb y n <;> simp <;> omega
theorem cb_one {e : Nat} (he : e < 32) : ∀ n, cb (1 <<< (nI e &&& 31)) n ≤ (if e < n then 1 else 0)
  | 0 => Nat.zero_le _
  | n + 1 => by
    have := cb_one he n
    show cb (1 <<< (nI e &&& 31)) n + (if qb (1 <<< (nI e &&& 31)) n = true then 1 else 0) ≤ _
    rw [qb_one he]
    by_cases q : n = e
    · subst q
      rw [if_neg (by omega)] at this
      rw [if_pos (by simp), if_pos (by omega)]; omega
    · rw [if_neg (by simpa using q)]
      by_cases w : e < n
      · rw [if_pos w] at this; rw [if_pos (by omega)]; omega
      · rw [if_neg w] at this; omega
theorem sm_bits_cb (x : Int32) : ∀ n, n ≤ 32 → sg_it (fun k n => n + sm_bit x (nI k)) 0 n = nI (cb x n)
  | 0, _ => rfl
  | n + 1, h => by
    show sg_it (fun k n => n + sm_bit x (nI k)) 0 n + sm_bit x (nI n) = nI (cb x n + (if qb x n = true then 1 else 0))
    rw [sm_bits_cb x n (by omega), qb_bit (by omega), ← nI_add]
    congr 1
    by_cases q : qb x n = true
    · rw [if_pos q, if_pos q]; rfl
    · rw [if_neg q, if_neg q]; rfl
/-- three places -/
def tri (i j k : Nat) : Int32 := ((1 <<< (nI i &&& 31)) ||| (1 <<< (nI j &&& 31))) ||| (1 <<< (nI k &&& 31))
theorem tri_hi {i j k : Nat} (hi : i < 30) (hj : j < 30) (hk : k < 30) : bhi 30 (tri i j k) := by
  intro m hm
  unfold tri
  rw [qb_or, qb_or, qb_one (by omega), qb_one (by omega), qb_one (by omega)]
  simp; omega
theorem tri_cb {i j k : Nat} (hi : i < 30) (hj : j < 30) (hk : k < 30) (y : Int32) : cb (tri i j k &&& y) 30 ≤ 3 := by
  have h1 : ble (tri i j k &&& y) (tri i j k) := fun m hm => by rw [qb_and] at hm; simp at hm; exact hm.1
  have h2 := cb_mono h1 30
  have h3 := cb_or ((1 <<< (nI i &&& 31)) ||| (1 <<< (nI j &&& 31))) (1 <<< (nI k &&& 31)) 30
  have h4 := cb_or (1 <<< (nI i &&& 31)) (1 <<< (nI j &&& 31)) 30
  have h5 := cb_one (e := i) (by omega) 30
  have h6 := cb_one (e := j) (by omega) 30
  have h7 := cb_one (e := k) (by omega) 30
  rw [if_pos hi] at h5
  rw [if_pos hj] at h6
  rw [if_pos hk] at h7
  have h8 : cb (tri i j k) 30 ≤ cb ((1 <<< (nI i &&& 31)) ||| (1 <<< (nI j &&& 31))) 30 + cb (1 <<< (nI k &&& 31)) 30 := h3
  omega
/-- the three others of a rectangle -/
def rec3 (e k : Nat) : Int32 := tri (e / 6 * 6 + k % 6) (k / 6 * 6 + e % 6) (k / 6 * 6 + k % 6)
theorem rec_c {e k : Nat} (he : e < 30) : sg_corners (nI e) (nI (k / 6)) (nI (k % 6)) = rec3 e k := by
  unfold sg_corners rec3 tri
  rw [nI_m6 ⟨e, he⟩, nI_d6 ⟨e, he⟩]
  show ((1 <<< ((nI (e / 6) * nI 6 + nI (k % 6)) &&& 31)) ||| (1 <<< ((nI (k / 6) * nI 6 + nI (e % 6)) &&& 31))) ||| (1 <<< ((nI (k / 6) * nI 6 + nI (k % 6)) &&& 31)) = _
  rw [pk_mul, pk_mul, nI_add, nI_add, nI_add]
theorem rec_m {e k : Nat} (he : e < 30) (hk : k < 30) : sm_cov (nI e) (nI k / 6) (nI k - nI k / 6 * 6) = rec3 e k := by
  unfold sm_cov rec3 tri
  rw [nI_m6 ⟨e, he⟩, nI_d6 ⟨e, he⟩, nI_m6 ⟨k, hk⟩, nI_d6 ⟨k, hk⟩]
  show ((1 <<< ((nI 6 * nI (e / 6) + nI (k % 6)) &&& 31)) ||| (1 <<< ((nI 6 * nI (k / 6) + nI (e % 6)) &&& 31))) ||| (1 <<< ((nI 6 * nI (k / 6) + nI (k % 6)) &&& 31)) = _
  rw [pk_mul, pk_mul, nI_add, nI_add, nI_add, Nat.mul_comm 6 (e / 6), Nat.mul_comm 6 (k / 6)]
theorem rec_hi {e k : Nat} (he : e < 30) (hk : k < 30) : bhi 30 (rec3 e k) := tri_hi (by omega) (by omega) (by omega)
theorem and_hi {x : Int32} (h : bhi 30 x) (y : Int32) : bhi 30 (x &&& y) := fun m hm => by rw [qb_and, h m hm]; rfl
theorem or_hi {x y : Int32} (h : bhi 30 x) (h2 : bhi 30 y) : bhi 30 (x ||| y) := fun m hm => by rw [qb_or, h m hm, h2 m hm]; rfl
/-- the choice of one more: class and model -/
def fR (s u : Int32 × Int32) : Prop := bhi 30 s.2 ∧ ((s = (4, 0) ∧ u = (0, 30)) ∨ (s.1 = u.2 ∧ s.2 = u.1))
theorem few_step (h : Int32) {e k : Nat} (he : e < 30) (hk : k < 30) {s u : Int32 × Int32} (hR : fR s u) : fR (sg_fstep h (nI e) (k / 6) (k % 6) s) (sm_hst h (nI e).toNatClampNeg k u) := by
  rw [nI_clamp (n := e) (by omega)]
  unfold sg_fstep sm_hst
  rw [rec_c he, rec_m he hk, bc_bits (and_hi (rec_hi he hk) _), nI_m6 ⟨e, he⟩, nI_d6 ⟨e, he⟩, nI_m6 ⟨k, hk⟩, nI_d6 ⟨k, hk⟩]
  show fR (if nI (k / 6) = nI (e / 6) then s else if nI (k % 6) = nI (e % 6) then s else if s.1 ≤ sm_bits (rec3 e k &&& (h ^^^ -1)) then s else (sm_bits (rec3 e k &&& (h ^^^ -1)), rec3 e k)) (if (if nI (k / 6) = nI (e / 6) then (0 : Int32) else if nI (k % 6) = nI (e % 6) then 0 else 1) = 0 then u else if u.2 ≤ sm_bits (rec3 e k &&& (h ^^^ -1)) then u else (rec3 e k, sm_bits (rec3 e k &&& (h ^^^ -1))))
  by_cases a1 : nI (k / 6) = nI (e / 6)
  · rw [if_pos a1, if_pos a1, if_pos rfl]; exact hR
  · rw [if_neg a1, if_neg a1]
    by_cases a2 : nI (k % 6) = nI (e % 6)
    · rw [if_pos a2, if_pos a2, if_pos rfl]; exact hR
    · rw [if_neg a2, if_neg a2, if_neg (show ¬ (1 : Int32) = 0 by decide)]
      obtain ⟨r1, r2 | r2⟩ := hR
      · obtain ⟨rfl, rfl⟩ := r2
        have hc : cb (rec3 e k &&& (h ^^^ -1)) 30 ≤ 3 := tri_cb (by omega) (by omega) (by omega) _
        have hb : sm_bits (rec3 e k &&& (h ^^^ -1)) = nI (cb (rec3 e k &&& (h ^^^ -1)) 30) := sm_bits_cb _ 30 (by omega)
        rw [hb]
        rw [if_neg (show ¬ (4 : Int32) ≤ nI (cb (rec3 e k &&& (h ^^^ -1)) 30) from fun z => by have := (nI_leI (a := 4) (by omega) (by omega)).mp z; omega), if_neg (show ¬ (30 : Int32) ≤ nI (cb (rec3 e k &&& (h ^^^ -1)) 30) from fun z => by have := (nI_leI (a := 30) (by omega) (by omega)).mp z; omega)]
        exact ⟨rec_hi he hk, Or.inr ⟨rfl, rfl⟩⟩
      · rw [r2.1]
        by_cases q : u.2 ≤ sm_bits (rec3 e k &&& (h ^^^ -1))
        · rw [if_pos q, if_pos q]; exact ⟨r1, Or.inr r2⟩
        · rw [if_neg q, if_neg q]; exact ⟨rec_hi he hk, Or.inr ⟨rfl, rfl⟩⟩
theorem sg_flat {α : Type} (F : Nat → Nat → α → α) (x : α) : ∀ r, sg_it (fun row s => sg_it (fun col s => F row col s) s 6) x r = sg_it (fun k s => F (k / 6) (k % 6) s) x (r * 6)
  | 0 => rfl
  | r + 1 => by
    show sg_it (fun col s => F r col s) (sg_it (fun row s => sg_it (fun col s => F row col s) s 6) x r) 6 = _
    rw [sg_flat F x r, show (r + 1) * 6 = r * 6 + 1 + 1 + 1 + 1 + 1 + 1 by omega]
    show F r 5 (F r 4 (F r 3 (F r 2 (F r 1 (F r 0 _))))) = F ((r * 6 + 1 + 1 + 1 + 1 + 1) / 6) ((r * 6 + 1 + 1 + 1 + 1 + 1) % 6) (F ((r * 6 + 1 + 1 + 1 + 1) / 6) ((r * 6 + 1 + 1 + 1 + 1) % 6) (F ((r * 6 + 1 + 1 + 1) / 6) ((r * 6 + 1 + 1 + 1) % 6) (F ((r * 6 + 1 + 1) / 6) ((r * 6 + 1 + 1) % 6) (F ((r * 6 + 1) / 6) ((r * 6 + 1) % 6) (F (r * 6 / 6) (r * 6 % 6) _)))))
    rw [show (r * 6 + 1 + 1 + 1 + 1 + 1) / 6 = r by omega, show (r * 6 + 1 + 1 + 1 + 1 + 1) % 6 = 5 by omega, show (r * 6 + 1 + 1 + 1 + 1) / 6 = r by omega, show (r * 6 + 1 + 1 + 1 + 1) % 6 = 4 by omega, show (r * 6 + 1 + 1 + 1) / 6 = r by omega, show (r * 6 + 1 + 1 + 1) % 6 = 3 by omega, show (r * 6 + 1 + 1) / 6 = r by omega, show (r * 6 + 1 + 1) % 6 = 2 by omega, show (r * 6 + 1) / 6 = r by omega, show (r * 6 + 1) % 6 = 1 by omega, show r * 6 / 6 = r by omega, show r * 6 % 6 = 0 by omega]
    rfl
theorem few_eq (h : Int32) {e : Nat} (he : e < 30) : (sg_few h (nI e)).2 = (sm_best h e).1 ∧ bhi 30 (sg_few h (nI e)).2 := by
  have hF : sg_few h (nI e) = sg_it (fun k s => sg_fstep h (nI e) (k / 6) (k % 6) s) (4, 0) 30 := sg_flat (fun row col s => sg_fstep h (nI e) row col s) (4, 0) 5
  have key : ∀ n, n ≤ 30 → fR (sg_it (fun k s => sg_fstep h (nI e) (k / 6) (k % 6) s) (4, 0) n) (sg_it (sm_hst h e) (0, 30) n) := fun n => by
    induction n with
    | zero => exact fun _ => ⟨fun k _ => qb_zero k, Or.inl ⟨rfl, rfl⟩⟩
    | succ n ih =>
      intro hn
      have := few_step h he (k := n) (by omega) (ih (by omega))
      rw [nI_clamp (n := e) (by omega)] at this
      exact this
  have k30 := key 30 (by omega)
  rw [← hF] at k30
  refine ⟨?_, k30.1⟩
  rcases k30.2 with q | q
  · have q2 : sm_best h e = (0, 30) := q.2
    rw [q.1, q2]
  · exact q.2
theorem arnd (x : Int32) : sg_around x = sm_hidden x := by
  unfold sg_around sm_hidden
  refine sg_it_c (fun e he h => ?_)
  unfold sg_astep sm_hid1
  rw [qb_has (by omega), qb_bit (by omega)]
  by_cases q : qb x e = true
  · rw [if_pos q, if_neg (by decide), if_pos rfl, (few_eq h he).1]
    rcases sm_found01 h (nI e) with w | w
    · rw [if_pos w, if_neg (fun z => absurd ((rnd_fnd he).mp z) (by rw [w]; decide))]
    · rw [if_neg (show ¬ sm_found h (nI e) = 0 by rw [w]; decide), if_pos ((rnd_fnd he).mpr w)]
  · rw [if_neg q, if_pos rfl, if_neg (by decide)]
theorem arnd_hi {x : Int32} (hx : bhi 30 x) : bhi 30 (sg_around x) := by
  have key : ∀ n, n ≤ 30 → bhi 30 (sg_it (sg_astep x) x n) := fun n => by
    induction n with
    | zero => exact fun _ => hx
    | succ n ih =>
      intro hn
      show bhi 30 (sg_astep x n (sg_it (sg_astep x) x n))
      unfold sg_astep
      split
      · exact ih (by omega)
      · split
        · exact or_hi (ih (by omega)) (few_eq _ (by omega)).2
        · exact ih (by omega)
  exact key 30 (by omega)
