/-! pure: what every step of solving keeps -/
def jn (cm : Nat → Nat) (k j v : Nat) : Nat := if cm v = k then j else cm v
def inv (h : Int32) (cm pi : Nat → Nat) (U : Int32) (M : Nat → Nat → Int32) (n : Nat) : Prop :=
  (∀ i, i < 11 → qb U i = false → shp h (M i) (fun v => decide (cm v = i))) ∧
  (∀ i, i < 11 → qb U i = true → ∃ Q, shp h (M i) Q ∧ ∀ v w, v < 11 → w < 11 → Q v = true → Q w = true → cm v = cm w) ∧
  (∀ v, v < 11 → cm v < 11 ∧ qb U (cm v) = false) ∧
  (∀ p : Nat → Int32, (∀ k, k < 11 → qb U k = true → p (xv (pi k)) = p (yv (pi k))) → ∀ v w, v < 11 → w < 11 → cm v = cm w → p v = p w) ∧
  (∀ k, k < 11 → qb U k = true → pi k < n ∧ qb h (pi k) = true ∧ ¬ M k (pi k) = 0 ∧ ∀ i, i < 11 → i ≠ k → M i (pi k) = 0) ∧
  (∀ c, c < n → qb h c = true → cm (xv c) = cm (yv c))
theorem inv_0 {h : Int32} {M : Nat → Nat → Int32} (hM : ∀ r k, r < 11 → k < 30 → M r k = cq_w h r k) : inv h (fun v => v) (fun _ => 0) 0 M 0 := by
  refine ⟨fun i hi _ => ?_, fun i _ hq => ?_, fun v hv => ⟨hv, qb_zero _⟩, fun p _ v w _ _ hvw => by rw [show v = w from hvw], fun k _ hq => ?_, fun c hc => absurd hc (by omega)⟩
  · have five : ∀ j, j < 6 → (nI j = 5 ↔ j = 5) := fun j hj => nI_eq (by omega) (b := 5) (by omega)
    have four : ∀ j, j < 5 → (nI j = 4 ↔ j = 4) := fun j hj => nI_eq (by omega) (b := 4) (by omega)
    by_cases h5 : i < 5
    · refine ⟨if i = 4 then -1 else 1, ?_, fun c hc => ?_⟩
      · split
        · exact Or.inr rfl
        · exact Or.inl rfl
      · rw [hM i c hi hc]
        unfold cq_w
        rw [qb_has (by omega)]
        by_cases q : qb h c = true
        · rw [if_pos q, if_neg (by decide), if_pos q]
          unfold sc xv yv
          simp only [five _ (Nat.mod_lt c (by omega : 0 < 6)), four (c / 6) (by omega)]
          by_cases q2 : i = c / 6
          · have q3 : ¬ 5 + c % 6 = i := by omega
            rw [if_pos q2, ← q2]
            simp only [q3, decide_true, decide_false]
            by_cases q4 : c % 6 = 5 <;> by_cases q5 : i = 4 <;> simp [q4, q5, bI] <;> decide
          · have q3 : ¬ 5 + c % 6 = i := by omega
            have q4 : ¬ c / 6 = i := fun z => q2 z.symm
            have q6 : ¬ i = 5 + c % 6 := fun z => q3 z.symm
            rw [if_neg q2, if_neg q6]
            simp [q3, q4]
        · rw [if_neg q, if_pos rfl, if_neg q]
    · refine ⟨if i = 10 then 1 else -1, ?_, fun c hc => ?_⟩
      · split
        · exact Or.inl rfl
        · exact Or.inr rfl
      · rw [hM i c hi hc]
        unfold cq_w
        rw [qb_has (by omega)]
        by_cases q : qb h c = true
        · rw [if_pos q, if_neg (by decide), if_pos q]
          unfold sc xv yv
          simp only [five _ (Nat.mod_lt c (by omega : 0 < 6)), four (c / 6) (by omega)]
          have q2 : ¬ i = c / 6 := by omega
          have q4 : ¬ c / 6 = i := by omega
          rw [if_neg q2]
          by_cases q3 : i = 5 + c % 6
          · rw [if_pos q3]
            have q6 : 5 + c % 6 = i := q3.symm
            simp only [q4, q6, decide_true, decide_false]
            by_cases q7 : c / 6 = 4 <;> by_cases q8 : c % 6 = 5
            · have q9 : i = 10 := by omega
              simp [q7, q8, q9, bI]
            · have q9 : ¬ i = 10 := by omega
              simp [q7, q8, q9, bI]
            · have q9 : i = 10 := by omega
              simp [q7, q8, q9, bI]
            · have q9 : ¬ i = 10 := by omega
              simp [q7, q8, q9, bI]
          · have q6 : ¬ 5 + c % 6 = i := fun z => q3 z.symm
            rw [if_neg q3]
            simp [q4, q6]
        · rw [if_neg q, if_pos rfl, if_neg q]
  · rw [qb_zero] at hq; exact absurd hq (by decide)
  · rw [qb_zero] at hq; exact absurd hq (by decide)
theorem hit_t {M : Nat → Nat → Int32} {e : Nat} {U : Int32} {k : Nat} (hk : k < 11) : cq_hit M e U k = true ↔ (qb U k = false ∧ ¬ M k e = 0) := by
  unfold cq_hit
  rw [decide_eq_true_eq, qb_has (by omega)]
  cases qb U k <;> simp
theorem inv_no {h : Int32} {cm pi : Nat → Nat} {U : Int32} {M : Nat → Nat → Int32} {e : Nat} (he : e < 30) (H : inv h cm pi U M e) (hn : ∀ k, k < 11 → qb U k = false → M k e = 0) : inv h cm pi U M (e + 1) := by
  obtain ⟨A, B, C, D, E, F⟩ := H
  refine ⟨A, B, C, D, fun k hk hq => ⟨by have := (E k hk hq).1; omega, (E k hk hq).2⟩, fun c hc hq => ?_⟩
  by_cases q : c = e
  · subst q
    obtain ⟨c1, c2⟩ := C _ (xv_lt he)
    have := (shp_0 (A _ c1 c2) he hq).mp (hn _ c1 c2)
    simp only [decide_true] at this
    exact (of_decide_eq_true this.symm).symm
  · exact F c (by omega) hq
theorem inv_st {h : Int32} {cm pi : Nat → Nat} {U : Int32} {M : Nat → Nat → Int32} {e k : Nat} (he : e < 30) (H : inv h cm pi U M e) (hk : k < 11) (hU : qb U k = false) (hz : ¬ M k e = 0) : ∃ cm' pi', inv h cm' pi' (U ||| (1 <<< (nI k &&& 31))) (cq_rem M e k) (e + 1) := by
  obtain ⟨A, B, C, D, E, F⟩ := H
  have hK := A k hk hU
  obtain ⟨ku, hm, kq⟩ := shp_u hK he hz
  -- one end is in k, the other in j
  have hj : ∃ j, j < 11 ∧ qb U j = false ∧ j ≠ k ∧ ((cm (xv e) = k ∧ cm (yv e) = j) ∨ (cm (xv e) = j ∧ cm (yv e) = k)) := by
    obtain ⟨x1, x2⟩ := C _ (xv_lt he)
    obtain ⟨y1, y2⟩ := C _ (yv_lt he)
    by_cases q : cm (xv e) = k
    · have q2 : cm (yv e) ≠ k := fun z => kq (by simp [q, z])
      exact ⟨_, y1, y2, q2, Or.inl ⟨q, rfl⟩⟩
    · have q2 : cm (yv e) = k := Classical.byContradiction fun z => kq (by simp [q, z])
      exact ⟨_, x1, x2, q, Or.inr ⟨rfl, q2⟩⟩
  obtain ⟨j, j1, j2, jk, jx⟩ := hj
  have uq : ∀ i, i < 11 → (qb (U ||| (1 <<< (nI k &&& 31))) i = true ↔ (qb U i = true ∨ i = k)) := fun i hi => by
    rw [qb_or, qb_one (by omega)]; simp
  have uf : ∀ i, i < 11 → qb (U ||| (1 <<< (nI k &&& 31))) i = false → qb U i = false ∧ i ≠ k := fun i hi hq => by
    rw [qb_or, qb_one (by omega)] at hq; simpa using hq
  have hj' : ∀ v, cm v = k → jn cm k j v = j := fun v hv => if_pos hv
  have hn' : ∀ v, cm v ≠ k → jn cm k j v = cm v := fun v hv => if_neg hv
  have hjj : ∀ v, cm v = j → jn cm k j v = j := fun v hv => (hn' v (by rw [hv]; exact jk)).trans hv
  have hco : ∀ v w, cm v = cm w → jn cm k j v = jn cm k j w := fun v w hvw => by unfold jn; rw [hvw]
  have hex : jn cm k j (xv e) = j ∧ jn cm k j (yv e) = j := by
    rcases jx with ⟨z1, z2⟩ | ⟨z1, z2⟩
    · exact ⟨hj' _ z1, hjj _ z2⟩
    · exact ⟨hjj _ z1, hj' _ z2⟩
  refine ⟨jn cm k j, fun i => if i = k then e else pi i, ?_, ?_, ?_, ?_, ?_, ?_⟩
  · -- unused rows
    intro i hi hq
    obtain ⟨i1, i2⟩ := uf i hi hq
    have hR := A i hi i1
    by_cases q : M i e = 0
    · rw [rem_0 M q]
      have w := (shp_0 hR he hm).mp q
      have ij : i ≠ j := fun z => by
        subst z
        rcases jx with ⟨z1, z2⟩ | ⟨z1, z2⟩
        · rw [z1, z2] at w; simp [Ne.symm jk] at w
        · rw [z1, z2] at w; simp [Ne.symm jk] at w
      refine shp_c hR (fun _ _ => rfl) (fun v hv => ?_)
      show decide (jn cm k j v = i) = decide (cm v = i)
      by_cases q2 : cm v = k
      · rw [hj' v q2, q2, decide_eq_false (fun z => ij z.symm), decide_eq_false (fun z => i2 z.symm)]
      · rw [hn' v q2]
    · obtain ⟨-, -, w⟩ := shp_u hR he q
      have ij : j = i := by
        apply Classical.byContradiction
        intro z
        apply w
        rcases jx with ⟨z1, z2⟩ | ⟨z1, z2⟩
        · simp only [z1, z2]; rw [decide_eq_false (fun y => i2 y.symm), decide_eq_false z]
        · simp only [z1, z2]; rw [decide_eq_false z, decide_eq_false (fun y => i2 y.symm)]
      refine shp_c (shp_out hR hK he q hz (fun v hv hv2 => ?_) (fun c hc => rem_1 M hi i2 q hc)) (fun _ _ => rfl) (fun v hv => ?_)
      · have : cm v = i := of_decide_eq_true hv2
        rw [this]; exact decide_eq_false i2
      · show decide (jn cm k j v = i) = (decide (cm v = k) || decide (cm v = i))
        by_cases q2 : cm v = k
        · rw [hj' v q2, ij, q2]; simp
        · rw [hn' v q2]; simp [q2]
  · -- used rows
    intro i hi hq
    by_cases ik : i = k
    · subst ik
      rw [rem_k]
      refine ⟨_, hK, fun v w hv hw h1 h2 => ?_⟩
      have h1' : cm v = i := of_decide_eq_true h1
      have h2' : cm w = i := of_decide_eq_true h2
      exact hco v w (h1'.trans h2'.symm)
    · have i1 : qb U i = true := ((uq i hi).mp hq).resolve_right ik
      obtain ⟨Q, hR, hs⟩ := B i hi i1
      by_cases q : M i e = 0
      · rw [rem_0 M q]
        exact ⟨Q, hR, fun v w hv hw h1 h2 => hco v w (hs v w hv hw h1 h2)⟩
      · obtain ⟨-, -, qq⟩ := shp_u hR he q
        by_cases q2 : ∃ v, v < 11 ∧ Q v = true ∧ cm v = k
        · obtain ⟨v0, v1, v2, v3⟩ := q2
          refine ⟨_, shp_in hR hK he q hz (fun v hv hv2 => ?_) (fun c hc => rem_1 M hi ik q hc), fun v w hv hw h1 h2 => ?_⟩
          · exact decide_eq_true ((hs v v0 hv v1 hv2 v2).trans v3)
          · simp only [Bool.and_eq_true] at h1 h2
            rw [hj' v (of_decide_eq_true h1.1), hj' w (of_decide_eq_true h2.1)]
        · have hno : ∀ v, v < 11 → Q v = true → cm v ≠ k := fun v hv hv2 hv3 => q2 ⟨v, hv, hv2, hv3⟩
          refine ⟨_, shp_out hR hK he q hz (fun v hv hv2 => decide_eq_false (hno v hv hv2)) (fun c hc => rem_1 M hi ik q hc), ?_⟩
          have hQ : ∀ v, v < 11 → Q v = true → jn cm k j v = j := fun v hv hv2 => by
            rcases jx with ⟨z1, z2⟩ | ⟨z1, z2⟩
            · have n1 : Q (xv e) = false := by
                cases y : Q (xv e)
                · rfl
                · exact absurd z1 (hno _ (xv_lt he) y)
              have n2 : Q (yv e) = true := by
                cases y : Q (yv e)
                · exact absurd (n1.trans y.symm) qq
                · rfl
              exact (hco v _ (hs v _ hv (yv_lt he) hv2 n2)).trans hex.2
            · have n1 : Q (yv e) = false := by
                cases y : Q (yv e)
                · rfl
                · exact absurd z2 (hno _ (yv_lt he) y)
              have n2 : Q (xv e) = true := by
                cases y : Q (xv e)
                · exact absurd (y.trans n1.symm) qq
                · rfl
              exact (hco v _ (hs v _ hv (xv_lt he) hv2 n2)).trans hex.1
          have hA : ∀ v, v < 11 → (decide (cm v = k) || Q v) = true → jn cm k j v = j := fun v hv hv2 => by
            rcases Bool.or_eq_true_iff.mp hv2 with y | y
            · exact hj' v (of_decide_eq_true y)
            · exact hQ v hv y
          exact fun v w hv hw h1 h2 => (hA v hv h1).trans (hA w hw h2).symm
  · -- who is in whose
    intro v hv
    obtain ⟨c1, c2⟩ := C v hv
    have key : ∀ i, i < 11 → qb U i = false → i ≠ k → qb (U ||| (1 <<< (nI k &&& 31))) i = false := fun i hi h1 h2 => by
      rw [qb_or, h1, qb_one (by omega)]; simp [h2]
    by_cases q : cm v = k
    · rw [hj' v q]; exact ⟨j1, key j j1 j2 jk⟩
    · rw [hn' v q]; exact ⟨c1, key _ c1 c2 q⟩
  · -- potentials
    intro p hp v w hv hw hvw
    have p0 : ∀ v w, v < 11 → w < 11 → cm v = cm w → p v = p w := D p (fun i hi hq => by
      have ik : i ≠ k := fun z => by rw [z, hU] at hq; exact absurd hq (by decide)
      have := hp i hi ((uq i hi).mpr (Or.inl hq))
      simp only [if_neg ik] at this
      exact this)
    have pe : p (xv e) = p (yv e) := by
      have := hp k hk ((uq k hk).mpr (Or.inr rfl))
      simp only [if_true] at this
      exact this
    have pj : ∀ a b, a < 11 → b < 11 → cm a = k → cm b = j → p a = p b := fun a b ha hb h1 h2 => by
      rcases jx with ⟨z1, z2⟩ | ⟨z1, z2⟩
      · exact (p0 a _ ha (xv_lt he) (h1.trans z1.symm)).trans (pe.trans (p0 _ b (yv_lt he) hb (z2.trans h2.symm)))
      · exact (p0 a _ ha (yv_lt he) (h1.trans z2.symm)).trans (pe.symm.trans (p0 _ b (xv_lt he) hb (z1.trans h2.symm)))
    by_cases q1 : cm v = k
    · by_cases q2 : cm w = k
      · exact p0 v w hv hw (q1.trans q2.symm)
      · rw [hj' v q1, hn' w q2] at hvw
        exact pj v w hv hw q1 hvw.symm
    · by_cases q2 : cm w = k
      · rw [hn' v q1, hj' w q2] at hvw
        exact (pj w v hw hv q2 hvw).symm
      · rw [hn' v q1, hn' w q2] at hvw
        exact p0 v w hv hw hvw
  · -- pivots
    intro k2 hk2 hq
    by_cases q : k2 = k
    · subst q
      simp only [if_true]
      refine ⟨by omega, hm, by rw [rem_k]; exact hz, fun i hi ik => ?_⟩
      by_cases q2 : M i e = 0
      · rw [rem_0 M q2]; exact q2
      · rw [rem_1 M hi ik q2 he, Int32.mul_comm]
        exact Int32.sub_self _
    · simp only [if_neg q]
      obtain ⟨e1, e2, e3, e4⟩ := E k2 hk2 (((uq k2 hk2).mp hq).resolve_right q)
      have ek : M k (pi k2) = 0 := e4 k hk (fun z => q z.symm)
      refine ⟨by omega, e2, ?_, fun i hi ik => ?_⟩
      · by_cases q2 : M k2 e = 0
        · rw [rem_0 M q2]; exact e3
        · rw [rem_1 M hk2 q q2 (by omega), ek, Int32.zero_mul, Int32.sub_zero, Int32.mul_comm]
          exact fun z => e3 ((un1_0 ku).mp z)
      · by_cases q3 : i = k
        · rw [q3, rem_k]; exact ek
        · by_cases q2 : M i e = 0
          · rw [rem_0 M q2]; exact e4 i hi ik
          · rw [rem_1 M hi q3 q2 (by omega), ek, e4 i hi ik, Int32.zero_mul, Int32.zero_mul]; rfl
  · intro c hc hq
    by_cases q : c = e
    · rw [q]; exact hex.1.trans hex.2.symm
    · exact hco _ _ (F c (by omega) hq)
theorem inv_all {h : Int32} {M : Nat → Nat → Int32} (hM : ∀ r k, r < 11 → k < 30 → M r k = cq_w h r k) : ∀ n, n ≤ 30 → ∃ cm pi, inv h cm pi (cq_ss M n).1 (cq_ss M n).2 n
  | 0, _ => ⟨_, _, inv_0 hM⟩
  | n + 1, hn => by
    obtain ⟨cm, pi, H⟩ := inv_all hM n (by omega)
    have fl := @first_lt (cq_hit (cq_ss M n).2 n (cq_ss M n).1) 11
    have fg := @first_ge (cq_hit (cq_ss M n).2 n (cq_ss M n).1) 11
    generalize hF : cq_first (cq_hit (cq_ss M n).2 n (cq_ss M n).1) 11 = G at fl fg
    by_cases q : G < 11
    · rw [cq_sst1 hF q]
      obtain ⟨h1, h2⟩ := (hit_t q).mp (fl q)
      exact inv_st (by omega) H q h1 h2
    · rw [cq_sst0 hF q]
      refine ⟨cm, pi, inv_no (by omega) H (fun k hk hq => ?_)⟩
      have := fg (by omega) k hk
      apply Classical.byContradiction
      intro z
      rw [(hit_t hk).mpr ⟨hq, z⟩] at this
      exact absurd this (by decide)
