/-! pure: what solving tells -/
theorem tell_iff {M : Nat → Nat → Int32} {i e : Nat} : ¬ cq_tells M i e = 0 ↔ (¬ M i e = 0 ∧ ∀ k, k < 30 → k = e ∨ M i k = 0) := by
  unfold cq_tells
  by_cases q : ∀ k, k < 30 → (k = e ∨ M i k = 0)
  · rw [if_pos q]
    by_cases w : M i e = 0
    · rw [if_pos w]; exact ⟨fun z => absurd rfl z, fun z => absurd w z.1⟩
    · rw [if_neg w]; exact ⟨fun _ => ⟨w, q⟩, fun _ => by decide⟩
  · rw [if_neg q]; exact ⟨fun z => absurd rfl z, fun z => absurd z.2 q⟩
theorem det_iff {M : Nat → Nat → Int32} {e : Nat} : cq_det M e = 1 ↔ ∃ i, i < 11 ∧ ¬ M i e = 0 ∧ ∀ k, k < 30 → k = e ∨ M i k = 0 := by
  unfold cq_det
  by_cases q : ∀ k, k < 11 → cq_tells M k e = 0
  · rw [if_pos q]
    refine ⟨fun z => absurd z (by decide), fun ⟨i, hi, h1, h2⟩ => absurd (q i hi) (tell_iff.mpr ⟨h1, h2⟩)⟩
  · rw [if_neg q]
    refine ⟨fun _ => ?_, fun _ => rfl⟩
    apply Classical.byContradiction
    intro z
    exact q fun k hk => Classical.byContradiction fun w => z ⟨k, hk, tell_iff.mp w⟩
/-- what is on the side of a row -/
def sid (o : Int32) (r0 v : Nat) : Prop := if v < 5 then (v = r0 ∨ ∃ j, j < 6 ∧ qb o (v * 6 + j) = true ∧ rch o r0 j) else rch o r0 (v - 5)
theorem sid_x {o : Int32} {r0 c : Nat} (hc : c < 30) : sid o r0 (xv c) ↔ (c / 6 = r0 ∨ ∃ j, j < 6 ∧ qb o (c / 6 * 6 + j) = true ∧ rch o r0 j) := by
  unfold sid xv
  rw [if_pos (by omega)]
theorem sid_y {o : Int32} {r0 c : Nat} : sid o r0 (yv c) ↔ rch o r0 (c % 6) := by
  unfold sid yv
  rw [if_neg (by omega), show 5 + c % 6 - 5 = c % 6 by omega]
theorem sid_o {o : Int32} {r0 c : Nat} (hc : c < 30) (h : qb o c = true) : sid o r0 (xv c) ↔ sid o r0 (yv c) := by
  rw [sid_x hc, sid_y]
  have hc2 : c / 6 * 6 + c % 6 = c := by omega
  constructor
  · rintro (q | ⟨j, hj, h1, h2⟩)
    · intro Y hY hb
      exact hb (c % 6) (by omega) (by rw [← q, hc2]; exact h)
    · intro Y hY hb
      exact hY (c / 6) (by omega) ⟨j, hj, h1, h2 Y hY hb⟩ (c % 6) (by omega) (by rw [hc2]; exact h)
  · intro q
    exact Or.inr ⟨c % 6, by omega, by rw [hc2]; exact h, q⟩
theorem det_fnd {h : Int32} {M : Nat → Nat → Int32} (hM : ∀ r k, r < 11 → k < 30 → M r k = cq_w h r k) {e : Nat} (he : e < 30) (hm : qb h e = true) : cq_det (cq_solve M) e = 1 ↔ sm_found h (nI e) = 1 := by
  obtain ⟨cm, pi, A, B, C, D, E, F⟩ := inv_all hM 30 (Nat.le_refl _)
  have hS : cq_solve M = (cq_ss M 30).2 := rfl
  rw [hS, det_iff, fnd_iff he]
  generalize (cq_ss M 30).2 = N at *
  generalize (cq_ss M 30).1 = U at *
  have ho : ∀ c, c < 30 → (qb (sg_oth h (nI e)) c = true ↔ (qb h c = true ∧ c ≠ e)) := fun c hc => by
    rw [qb_oth he (by omega)]; simp
  have hrow : ∀ i, i < 11 → ∃ Q, shp h (N i) Q := fun i hi => by
    cases q : qb U i
    · exact ⟨_, A i hi q⟩
    · obtain ⟨Q, hQ, -⟩ := B i hi q; exact ⟨Q, hQ⟩
  have he2 : e / 6 * 6 + e % 6 = e := by omega
  constructor
  · rintro ⟨i, hi, h1, h2⟩ hr
    obtain ⟨Q, hQ⟩ := hrow i hi
    have hq : Q (xv e) ≠ Q (yv e) := fun z => h1 ((shp_0 hQ he hm).mpr z)
    have hz : ∀ c, c < 30 → qb (sg_oth h (nI e)) c = true → Q (xv c) = Q (yv c) := fun c hc hoc => by
      obtain ⟨o1, o2⟩ := (ho c hc).mp hoc
      exact (shp_0 hQ hc o1).mp ((h2 c hc).resolve_left o2)
    have hz2 : ∀ r j, r < 5 → j < 6 → qb (sg_oth h (nI e)) (r * 6 + j) = true → Q r = Q (5 + j) := fun r j hr2 hj hoc => by
      have := hz (r * 6 + j) (by omega) hoc
      unfold xv yv at this
      rw [show (r * 6 + j) / 6 = r by omega, show (r * 6 + j) % 6 = j by omega] at this
      exact this
    refine hq (hr (fun j => Q (xv e) = Q (5 + j)) (fun r hr2 hex j hj hoj => ?_) (fun i hi2 hoi => hz2 (e / 6) i (by omega) hi2 hoi))
    obtain ⟨j', hj', o1, o2⟩ := hex
    exact o2.trans ((hz2 r j' hr2 hj' o1).symm.trans (hz2 r j hr2 hj hoj))
  · intro hr
    generalize hoE : sg_oth h (nI e) = o at ho hr
    -- the side of the row of e
    have hpA : ∃ pA : Nat → Int32, ∀ v, (sid o (e / 6) v → pA v = 1) ∧ (¬ sid o (e / 6) v → pA v = 0) := ⟨fun v => @ite Int32 (sid o (e / 6) v) (Classical.propDecidable _) 1 0, fun v => ⟨fun q => if_pos q, fun q => if_neg q⟩⟩
    obtain ⟨pA, hpA⟩ := hpA
    have same : ∀ c, c < 30 → qb h c = true → c ≠ e → pA (xv c) = pA (yv c) := fun c hc h1 h2 => by
      have w := sid_o (r0 := e / 6) hc ((ho c hc).mpr ⟨h1, h2⟩)
      by_cases q : sid o (e / 6) (xv c)
      · rw [(hpA _).1 q, (hpA _).1 (w.mp q)]
      · rw [(hpA _).2 q, (hpA _).2 (fun z => q (w.mpr z))]
    have hx1 : pA (xv e) = 1 := (hpA _).1 ((sid_x he).mpr (Or.inl rfl))
    have hy0 : pA (yv e) = 0 := (hpA _).2 (fun z => hr (sid_y.mp z))
    have hcm := F e he hm
    -- e is one of those solved for
    have hex : ∃ k, k < 11 ∧ qb U k = true ∧ pi k = e := by
      apply Classical.byContradiction
      intro z
      have := D pA (fun k hk hq => same _ (E k hk hq).1 (E k hk hq).2.1 (fun y => z ⟨k, hk, hq, y⟩)) _ _ (xv_lt he) (yv_lt he) hcm
      rw [hx1, hy0] at this
      exact absurd this (by decide)
    obtain ⟨k, hk, hkU, hke⟩ := hex
    have Ek := E k hk hkU
    rw [hke] at Ek
    obtain ⟨-, -, kz, ko⟩ := Ek
    obtain ⟨Q, hQ⟩ := hrow k hk
    have hq : Q (xv e) ≠ Q (yv e) := fun z => kz ((shp_0 hQ he hm).mpr z)
    have d1 := bI_1 hq
    have hall := D (fun v => (bI (Q (xv e)) - bI (Q (yv e))) * bI (Q v) - pA v) (fun k2 hk2 hq2 => by
      obtain ⟨f1, f2, f3, f4⟩ := E k2 hk2 hq2
      by_cases q : k2 = k
      · rw [q, hke]
        show (bI (Q (xv e)) - bI (Q (yv e))) * bI (Q (xv e)) - pA (xv e) = (bI (Q (xv e)) - bI (Q (yv e))) * bI (Q (yv e)) - pA (yv e)
        rw [hx1, hy0]
        have s := un1_sq d1
        generalize bI (Q (xv e)) = a at s ⊢
        generalize bI (Q (yv e)) = b at s ⊢
        grind
      · have z := (shp_0 hQ f1 f2).mp (f4 k hk (fun y => q y.symm))
        have ne : pi k2 ≠ e := fun y => kz (by rw [← y]; exact f4 k hk (fun y => q y.symm))
        show _ * bI (Q (xv (pi k2))) - pA (xv (pi k2)) = _ * bI (Q (yv (pi k2))) - pA (yv (pi k2))
        rw [z, same _ f1 f2 ne])
    refine ⟨k, hk, kz, fun c hc => ?_⟩
    by_cases q : c = e
    · exact Or.inl q
    · right
      by_cases w : qb h c = true
      · refine (shp_0 hQ hc w).mpr ?_
        have y := hall _ _ (xv_lt hc) (yv_lt hc) (F c hc w)
        have y2 : (bI (Q (xv e)) - bI (Q (yv e))) * bI (Q (xv c)) - pA (xv c) = (bI (Q (xv e)) - bI (Q (yv e))) * bI (Q (yv c)) - pA (yv c) := y
        rw [same c hc w q] at y2
        rw [← bI_0]
        refine (un1_0 d1).mp ?_
        generalize bI (Q (xv e)) - bI (Q (yv e)) = a at y2 ⊢
        grind
      · exact shp_n hQ hc w
theorem cx_kb01 (x y : Int32) : cx_kb x y = 0 ∨ cx_kb x y = 1 := by unfold cx_kb; by_cases h : cx_eat x y = 0 <;> simp [h]
theorem qc_kb (x y : Int32) : sm_cE x y = cx_kb x y := qc_mark x y
theorem r_ag18 : ql_ag18 RLr0 := by
  intro χ nS nE σ x1 x2 h
  refine ⟨qa_px1 (cx_kb01 x1 x2) (qc_kb x1 x2), fun M0 M1 hM hc => ⟨(qc_kb x1 x2).trans hc, ?_, ?_⟩, h⟩
  · obtain ⟨e, he, hx⟩ := r_eat (x := x1) (y := x2) (cx_mark_0 hc)
    congr 1
    rw [h.2.2.2.2.2.2.2.1] at hM
    unfold cx_kbs sm_known
    rw [h.2.2.2.2.2.2.2.1, ← qc_ix, hx, nI_clamp (n := e) (by omega), qb_has (by omega), qb_bit (by omega)]
    by_cases w : qb (σ 19 0) e = true
    · have k := det_fnd hM he w
      rw [if_pos w, if_neg (show ¬ (1 : Int32) = 0 by decide), if_neg (show ¬ (1 : Int32) = 0 by decide)]
      rcases sm_found01 (σ 19 0) (nI e) with z | z
      · rw [if_pos z]
        rcases cq_det01 (cq_solve M0) e with y | y
        · exact y
        · rw [k.mp y] at z; exact absurd z (by decide)
      · rw [if_neg (show ¬ sm_found (σ 19 0) (nI e) = 0 by rw [z]; decide)]
        exact k.mpr z
    · rw [if_neg w, if_pos rfl, if_pos rfl]
  · obtain ⟨hS, hE, hB, hN, hO⟩ := h
    have k1 : ∀ k, k < 60 → qw_upN χ 60 11 M1 k = χ k := fun k hk => if_neg (by omega)
    exact ⟨rS_c hS (fun k hk => k1 k (by omega)) (fun _ _ _ => rfl), rE_c hE (fun k hk => k1 k (by omega)) (fun _ _ _ => rfl), rB_c hB (fun k hk hk2 => k1 k (by omega)) (fun _ _ _ => rfl), rN_c hN (fun k hk => k1 k (by omega)) (fun _ _ _ => rfl) (fun _ hj => hj), rO_c hO (fun k hk hk2 => k1 k (by omega)) (fun _ _ => rfl)⟩
theorem r_ags : ql_ags RLr0 := ⟨fun _ _ _ _ h => r_wf h, r_ag0, r_ag1, r_ag2, r_ag3, r_ag4, r_ag5, r_ag6, r_ag7, r_ag8, r_ag9, r_ag10, r_ag11, r_ag12, r_ag13, r_ag14, r_ag15, r_ag16, r_ag17, r_ag18, r_ag19⟩
