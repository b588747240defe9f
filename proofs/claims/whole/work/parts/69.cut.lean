/-! pure: solving -/
theorem row_v (own oth : Int32) (rc r : Nat → Int32) (c : Nat) : ∀ n, sg_it (cq_row own oth rc) r n c = if c < n then r c * own - rc c * oth else r c
  | 0 => by rw [if_neg (by omega)]; rfl
  | n + 1 => by
    show (upd (sg_it (cq_row own oth rc) r n) n (sg_it (cq_row own oth rc) r n n * own - rc n * oth)) c = _
    by_cases q : c = n
    · subst q
      rw [pk_us, row_v own oth rc r c c, if_neg (by omega), if_pos (by omega)]
    · rw [pk_un q, row_v own oth rc r c n]
      by_cases w : c < n
      · rw [if_pos w, if_pos (by omega)]
      · rw [if_neg w, if_neg (by omega)]
theorem rem_v (e c : Nat) (M : Nat → Nat → Int32) (i : Nat) : ∀ n, sg_it (cq_remi e c (M c e)) M n i = if i < n ∧ ¬ i = c ∧ ¬ M i e = 0 then sg_it (cq_row (M c e) (M i e) (M c)) (M i) 30 else M i
  | 0 => by rw [if_neg (by omega)]; rfl
  | n + 1 => by
    have hc : sg_it (cq_remi e c (M c e)) M n c = M c := by rw [rem_v e c M c n, if_neg (fun z => z.2.1 rfl)]
    have hn : sg_it (cq_remi e c (M c e)) M n n = M n := by rw [rem_v e c M n n, if_neg (fun z => absurd z.1 (by omega))]
    show cq_remi e c (M c e) n (sg_it (cq_remi e c (M c e)) M n) i = _
    unfold cq_remi
    by_cases q1 : n = c
    · rw [if_pos q1, ← q1]
      rw [← q1] at hc
      have := rem_v e n M i n
      unfold cq_remi at this
      rw [this]
      by_cases w : i < n ∧ ¬ i = n ∧ ¬ M i e = 0
      · rw [if_pos w, if_pos ⟨by omega, w.2⟩]
      · rw [if_neg w, if_neg (fun z => w ⟨by omega, z.2⟩)]
    · rw [if_neg q1]
      have ih := rem_v e c M i n
      have ihe : sg_it (fun i M_1 => if i = c then M_1 else if M_1 i e = 0 then M_1 else va_up M_1 i (sg_it (cq_row (M c e) (M_1 i e) (M_1 c)) (M_1 i) 30)) M n = sg_it (cq_remi e c (M c e)) M n := rfl
      rw [ihe, hn, hc]
      by_cases q2 : M n e = 0
      · rw [if_pos q2, ih]
        by_cases w : i < n ∧ ¬ i = c ∧ ¬ M i e = 0
        · rw [if_pos w, if_pos ⟨by omega, w.2⟩]
        · rw [if_neg w, if_neg (fun z => w ⟨Nat.lt_of_le_of_ne (by omega) (fun y => z.2.2 (by rw [y]; exact q2)), z.2⟩)]
      · rw [if_neg q2]
        by_cases q3 : i = n
        · subst q3
          rw [va_up_self, if_pos ⟨by omega, q1, q2⟩]
        · rw [va_up_ne _ _ q3, ih]
          by_cases w : i < n ∧ ¬ i = c ∧ ¬ M i e = 0
          · rw [if_pos w, if_pos ⟨by omega, w.2⟩]
          · rw [if_neg w, if_neg (fun z => w ⟨by omega, z.2⟩)]
/-- a row after a column has been taken out of the others -/
theorem rem_k (M : Nat → Nat → Int32) (e k : Nat) : cq_rem M e k k = M k := by
  unfold cq_rem
  rw [rem_v e k M k 11, if_neg (fun z => z.2.1 rfl)]
theorem rem_0 (M : Nat → Nat → Int32) {e k i : Nat} (h : M i e = 0) : cq_rem M e k i = M i := by
  unfold cq_rem
  rw [rem_v e k M i 11, if_neg (fun z => z.2.2 h)]
theorem rem_1 (M : Nat → Nat → Int32) {e k i c : Nat} (hi : i < 11) (hk : ¬ i = k) (h : ¬ M i e = 0) (hc : c < 30) : cq_rem M e k i c = M i c * M k e - M k c * M i e := by
  unfold cq_rem
  rw [rem_v e k M i 11, if_pos ⟨hi, hk, h⟩, row_v, if_pos hc]
theorem first_lt {p : Nat → Bool} : ∀ n, cq_first p n < n → p (cq_first p n) = true
  | 0, h => absurd h (by omega)
  | n + 1, h => by
    unfold cq_first at h ⊢
    by_cases q : cq_first p n < n
    · rw [if_pos q]; exact first_lt n q
    · rw [if_neg q] at h ⊢
      by_cases w : p n = true
      · rw [if_pos w]; exact w
      · rw [if_neg w] at h; exact absurd h (by omega)
theorem first_ge {p : Nat → Bool} : ∀ n, n ≤ cq_first p n → ∀ k, k < n → p k = false
  | 0, _, k, hk => absurd hk (by omega)
  | n + 1, h, k, hk => by
    unfold cq_first at h
    by_cases q : cq_first p n < n
    · rw [if_pos q] at h; omega
    · rw [if_neg q] at h
      by_cases w : p n = true
      · rw [if_pos w] at h; omega
      · by_cases kn : k = n
        · subst kn; simpa using w
        · exact first_ge n (by omega) k (by omega)
/-! rows are cuts -/
def un1 (u : Int32) : Prop := u = 1 ∨ u = -1
theorem un1_mul {u v : Int32} (h : un1 u) (h2 : un1 v) : un1 (u * v) := by
  rcases h with rfl | rfl <;> rcases h2 with rfl | rfl <;> unfold un1 <;> decide
theorem un1_neg {u : Int32} (h : un1 u) : un1 (-u) := by
  rcases h with rfl | rfl <;> unfold un1 <;> decide
theorem un1_sq {u : Int32} (h : un1 u) : u * u = 1 := by
  rcases h with rfl | rfl <;> decide
theorem un1_0 {u x : Int32} (h : un1 u) : u * x = 0 ↔ x = 0 := by
  constructor
  · intro q
    have this : u * (u * x) = u * 0 := congrArg (fun y => u * y) q
    rw [← Int32.mul_assoc, un1_sq h, Int32.one_mul] at this
    rw [this]; exact Int32.mul_zero
  · intro q; rw [q]; exact Int32.mul_zero
def bI (q : Bool) : Int32 := if q = true then 1 else 0
theorem bI_0 (p q : Bool) : bI p - bI q = 0 ↔ p = q := by cases p <;> cases q <;> decide
theorem bI_1 {p q : Bool} (h : p ≠ q) : un1 (bI p - bI q) := by cases p <;> cases q <;> first | exact absurd rfl h | (unfold un1; decide)
def xv (c : Nat) : Nat := c / 6
def yv (c : Nat) : Nat := 5 + c % 6
theorem xv_lt {c : Nat} (h : c < 30) : xv c < 11 := by unfold xv; omega
theorem yv_lt {c : Nat} (h : c < 30) : yv c < 11 := by unfold yv; omega
def sc (c : Nat) : Int32 := (if c % 6 = 5 then -1 else 1) * (if c / 6 = 4 then -1 else 1)
theorem sc_un (c : Nat) : un1 (sc c) := by
  unfold sc
  refine un1_mul ?_ ?_
  · split
    · exact Or.inr rfl
    · exact Or.inl rfl
  · split
    · exact Or.inr rfl
    · exact Or.inl rfl
def shp (h : Int32) (R : Nat → Int32) (Q : Nat → Bool) : Prop := ∃ u, un1 u ∧ ∀ c, c < 30 → R c = if qb h c = true then u * sc c * (bI (Q (xv c)) - bI (Q (yv c))) else 0
theorem shp_0 {h : Int32} {R : Nat → Int32} {Q : Nat → Bool} (H : shp h R Q) {c : Nat} (hc : c < 30) (hm : qb h c = true) : R c = 0 ↔ Q (xv c) = Q (yv c) := by
  obtain ⟨u, h1, h2⟩ := H
  rw [h2 c hc, if_pos hm, un1_0 (un1_mul h1 (sc_un c)), bI_0]
theorem shp_n {h : Int32} {R : Nat → Int32} {Q : Nat → Bool} (H : shp h R Q) {c : Nat} (hc : c < 30) (hm : ¬ qb h c = true) : R c = 0 := by
  obtain ⟨u, h1, h2⟩ := H
  rw [h2 c hc, if_neg hm]
theorem shp_u {h : Int32} {R : Nat → Int32} {Q : Nat → Bool} (H : shp h R Q) {c : Nat} (hc : c < 30) (hz : ¬ R c = 0) : un1 (R c) ∧ qb h c = true ∧ Q (xv c) ≠ Q (yv c) := by
  have hm : qb h c = true := Classical.byContradiction fun z => hz (shp_n H hc z)
  have hq : Q (xv c) ≠ Q (yv c) := fun z => hz ((shp_0 H hc hm).mpr z)
  obtain ⟨u, h1, h2⟩ := H
  refine ⟨?_, hm, hq⟩
  rw [h2 c hc, if_pos hm]
  exact un1_mul (un1_mul h1 (sc_un c)) (bI_1 hq)
theorem shp_c {h : Int32} {R R' : Nat → Int32} {Q Q' : Nat → Bool} (H : shp h R Q) (h1 : ∀ c, c < 30 → R' c = R c) (h2 : ∀ v, v < 11 → Q' v = Q v) : shp h R' Q' := by
  obtain ⟨u, h3, h4⟩ := H
  exact ⟨u, h3, fun c hc => by rw [h1 c hc, h4 c hc, h2 _ (xv_lt hc), h2 _ (yv_lt hc)]⟩
/-- a row less another: within, or apart -/
theorem shp_in {h : Int32} {R K R' : Nat → Int32} {Q P : Nat → Bool} (H : shp h R Q) (H2 : shp h K P) {e : Nat} (he : e < 30) (hz : ¬ R e = 0) (hk : ¬ K e = 0) (hs : ∀ v, v < 11 → Q v = true → P v = true) (hR : ∀ c, c < 30 → R' c = R c * K e - K c * R e) : shp h R' (fun v => P v && !Q v) := by
  obtain ⟨-, hm, hq⟩ := shp_u H he hz
  obtain ⟨-, -, hp⟩ := shp_u H2 he hk
  obtain ⟨u, u1, u2⟩ := H
  obtain ⟨w, w1, w2⟩ := H2
  have hd : bI (Q (xv e)) - bI (Q (yv e)) = bI (P (xv e)) - bI (P (yv e)) := by
    have s1 := hs _ (xv_lt he)
    have s2 := hs _ (yv_lt he)
    revert hq hp s1 s2
    cases Q (xv e) <;> cases Q (yv e) <;> cases P (xv e) <;> cases P (yv e) <;> simp
  refine ⟨-(u * w * sc e * (bI (P (xv e)) - bI (P (yv e)))), un1_neg (un1_mul (un1_mul (un1_mul u1 w1) (sc_un e)) (bI_1 hp)), fun c hc => ?_⟩
  rw [hR c hc, u2 c hc, w2 c hc, u2 e he, w2 e he, if_pos hm, if_pos hm, hd]
  by_cases q : qb h c = true
  · rw [if_pos q, if_pos q, if_pos q]
    have e1 : bI (P (xv c) && !Q (xv c)) = bI (P (xv c)) - bI (Q (xv c)) := by
      have s1 := hs _ (xv_lt hc)
      revert s1
      cases Q (xv c) <;> cases P (xv c) <;> simp [bI]
    have e2 : bI (P (yv c) && !Q (yv c)) = bI (P (yv c)) - bI (Q (yv c)) := by
      have s1 := hs _ (yv_lt hc)
      revert s1
      cases Q (yv c) <;> cases P (yv c) <;> simp [bI]
    rw [e1, e2]
    generalize bI (P (xv c)) = a1
    generalize bI (P (yv c)) = a2
    generalize bI (Q (xv c)) = a3
    generalize bI (Q (yv c)) = a4
    generalize bI (P (xv e)) = a5
    generalize bI (P (yv e)) = a6
    generalize sc c = a7
    generalize sc e = a8
    grind
  · rw [if_neg q, if_neg q, if_neg q]
    grind
theorem shp_out {h : Int32} {R K R' : Nat → Int32} {Q P : Nat → Bool} (H : shp h R Q) (H2 : shp h K P) {e : Nat} (he : e < 30) (hz : ¬ R e = 0) (hk : ¬ K e = 0) (hs : ∀ v, v < 11 → Q v = true → P v = false) (hR : ∀ c, c < 30 → R' c = R c * K e - K c * R e) : shp h R' (fun v => P v || Q v) := by
  obtain ⟨-, hm, hq⟩ := shp_u H he hz
  obtain ⟨-, -, hp⟩ := shp_u H2 he hk
  obtain ⟨u, u1, u2⟩ := H
  obtain ⟨w, w1, w2⟩ := H2
  have hd : bI (Q (xv e)) - bI (Q (yv e)) = -(bI (P (xv e)) - bI (P (yv e))) := by
    have s1 := hs _ (xv_lt he)
    have s2 := hs _ (yv_lt he)
    revert hq hp s1 s2
    cases Q (xv e) <;> cases Q (yv e) <;> cases P (xv e) <;> cases P (yv e) <;> simp <;> decide
  refine ⟨u * w * sc e * (bI (P (xv e)) - bI (P (yv e))), un1_mul (un1_mul (un1_mul u1 w1) (sc_un e)) (bI_1 hp), fun c hc => ?_⟩
  rw [hR c hc, u2 c hc, w2 c hc, u2 e he, w2 e he, if_pos hm, if_pos hm, hd]
  by_cases q : qb h c = true
  · rw [if_pos q, if_pos q, if_pos q]
    have e1 : bI (P (xv c) || Q (xv c)) = bI (P (xv c)) + bI (Q (xv c)) := by
      have s1 := hs _ (xv_lt hc)
      revert s1
      cases Q (xv c) <;> cases P (xv c) <;> simp [bI]
    have e2 : bI (P (yv c) || Q (yv c)) = bI (P (yv c)) + bI (Q (yv c)) := by
      have s1 := hs _ (yv_lt hc)
      revert s1
      cases Q (yv c) <;> cases P (yv c) <;> simp [bI]
    rw [e1, e2]
    generalize bI (P (xv c)) = a1
    generalize bI (P (yv c)) = a2
    generalize bI (Q (xv c)) = a3
    generalize bI (Q (yv c)) = a4
    generalize bI (P (xv e)) = a5
    generalize bI (P (yv e)) = a6
    generalize sc c = a7
    generalize sc e = a8
    grind
  · rw [if_neg q, if_neg q, if_neg q]
    grind
