/-! pure: hours -/
def zr (A X : Nat → Int32) (P : Nat → Prop) : Prop := ∀ j, (X j = 0 ∨ X j = A j) ∧ (X j = 0 ↔ (A j = 0 ∨ P j))
theorem zr_refl (A : Nat → Int32) : zr A A (fun _ => False) := fun j => ⟨Or.inr rfl, ⟨fun h => Or.inl h, fun h => h.elim id False.elim⟩⟩
theorem zr_iff {A X : Nat → Int32} {P Q : Nat → Prop} (h : zr A X P) (h2 : ∀ j, P j ↔ Q j) : zr A X Q := fun j => ⟨(h j).1, by rw [← h2 j]; exact (h j).2⟩
theorem zr_eq {A X Y : Nat → Int32} {P : Nat → Prop} (h : zr A X P) (h2 : zr A Y P) : X = Y := by
  funext j
  obtain ⟨a1, a2⟩ := h j
  obtain ⟨b1, b2⟩ := h2 j
  by_cases q : X j = 0
  · rw [q, b2.mpr (a2.mp q)]
  · have q2 : ¬ Y j = 0 := fun z => q (a2.mpr (b2.mp z))
    rw [a1.resolve_left q, b1.resolve_left q2]
theorem zr_drop {A X : Nat → Int32} {P : Nat → Prop} (h : zr A X P) (t L : Nat) : zr A (sm_drop t X L).2 (fun j => P j ∨ (4 * t ≤ j ∧ j < 4 * t + L)) := by
  intro j
  rw [r_dropV]
  obtain ⟨a1, a2⟩ := h j
  by_cases q : 4 * t ≤ j ∧ j < 4 * t + L
  · rw [if_pos q]; exact ⟨Or.inl rfl, fun _ => Or.inr (Or.inr q), fun _ => rfl⟩
  · rw [if_neg q]
    refine ⟨a1, ?_⟩
    rw [a2]
    exact ⟨fun z => z.elim Or.inl (fun y => Or.inr (Or.inl y)), fun z => z.elim Or.inl (fun y => y.elim Or.inr (fun w => absurd w q))⟩
def nz (B : Nat → Int32) : Int32 := sg_it (fun j s => s + (if B j = 0 then 0 else 1)) 0 12
theorem nz_upd (B : Nat → Int32) {i : Nat} (hi : i < 12) : nz (upd B i 0) = nz B + -(if B i = 0 then 0 else 1) := by
  refine sg_chg 12 hi (fun k hk hki => by rw [pk_un hki]) ?_
  rw [pk_us, if_pos rfl, Int32.add_right_neg]
theorem nz_drop {t : Nat} (ht : t < 3) (B : Nat → Int32) : ∀ L, L ≤ 4 → nz (sm_drop t B L).2 + (sm_drop t B L).1 = nz B
  | 0, _ => Int32.add_zero _
  | L + 1, h => by
    show nz (upd (sm_drop t B L).2 (4 * t + L) 0) + ((sm_drop t B L).1 + (if (sm_drop t B L).2 (4 * t + L) = 0 then 0 else 1)) = nz B
    rw [nz_upd _ (by omega), ← nz_drop ht B L (by omega)]
    generalize nz (sm_drop t B L).2 = a
    generalize (sm_drop t B L).1 = c
    generalize (if (sm_drop t B L).2 (4 * t + L) = 0 then (0 : Int32) else 1) = d
    grind
def cvr (σ : Nat → Nat → Int32) (k j : Nat) : Prop := 4 * (σ 10 k).toNatClampNeg ≤ j ∧ j < 4 * (σ 10 k).toNatClampNeg + (σ 12 k).toNatClampNeg
theorem ex_s {P : Nat → Prop} {n : Nat} : (∃ k, k < n + 1 ∧ P k) ↔ ((∃ k, k < n ∧ P k) ∨ P n) := by
  constructor
  · rintro ⟨k, hk, h⟩
    by_cases q : k = n
    · exact Or.inr (q ▸ h)
    · exact Or.inl ⟨k, by omega, h⟩
  · rintro (⟨k, hk, h⟩ | h)
    · exact ⟨k, by omega, h⟩
    · exact ⟨n, by omega, h⟩
theorem r_cpass {χ σ : Nat → Nat → Int32} {nE : Nat} (hE : rE χ nE σ) (x1 : Int32) : ∀ n, n ≤ nE → zr (χ 7) (cx_passB χ x1 n).1 (fun j => ∃ k, k < n ∧ (¬ cx_lasts (χ 48 k) (χ 49 k) (χ 2 0) = 0 ∧ cx_lasts (χ 48 k) (χ 49 k) (χ 2 0 + x1) = 0) ∧ cvr σ k j) ∧ nz (cx_passB χ x1 n).1 + (cx_passB χ x1 n).2 = nz (χ 7) + χ 3 0
  | 0, _ => ⟨zr_iff (zr_refl _) (fun j => ⟨False.elim, fun ⟨k, hk, _⟩ => absurd hk (by omega)⟩), rfl⟩
  | n + 1, hn => by
    obtain ⟨i1, i2⟩ := r_cpass hE x1 n (by omega)
    show zr (χ 7) (cx_pstep χ x1 n (cx_passB χ x1 n)).1 _ ∧ nz (cx_pstep χ x1 n (cx_passB χ x1 n)).1 + (cx_pstep χ x1 n (cx_passB χ x1 n)).2 = _
    unfold cx_pstep
    by_cases q1 : cx_lasts (χ 48 n) (χ 49 n) (χ 2 0) = 0
    · rw [if_pos q1]
      refine ⟨zr_iff i1 (fun j => ?_), i2⟩
      rw [ex_s]
      exact ⟨Or.inl, fun z => z.elim id (fun y => absurd q1 y.1.1)⟩
    · rw [if_neg q1]
      by_cases q2 : cx_lasts (χ 48 n) (χ 49 n) (χ 2 0 + x1) = 0
      · rw [if_pos q2, r_dropE]
        obtain ⟨a1, a2, a3, a4, a5, a6, a7, a8, a9, a10⟩ := hE
        obtain ⟨t, v, e, h, ht, hv, he, hh, f1, f2, f3, f4⟩ := a10 n (by omega)
        have g1 : (σ 10 n).toNatClampNeg = t := by rw [f1]; exact nI_clamp (by omega)
        have g2 : (σ 12 n).toNatClampNeg = v := by rw [f2]; exact nI_clamp (by omega)
        rw [a4, a6]
        refine ⟨zr_iff (zr_drop i1 _ _) (fun j => ?_), ?_⟩
        · rw [ex_s]
          exact ⟨fun z => z.elim Or.inl (fun y => Or.inr ⟨⟨q1, q2⟩, y⟩), fun z => z.elim Or.inl (fun y => Or.inr y.2)⟩
        · rw [← i2, g1, g2, ← nz_drop ht (cx_passB χ x1 n).1 v (by omega)]
          simp only []
          generalize nz (sm_drop t (cx_passB χ x1 n).1 v).2 = a
          generalize (sm_drop t (cx_passB χ x1 n).1 v).1 = b
          grind
      · rw [if_neg q2]
        refine ⟨zr_iff i1 (fun j => ?_), i2⟩
        rw [ex_s]
        exact ⟨Or.inl, fun z => z.elim id (fun y => absurd y.1.2 q2)⟩
theorem r_mhour {χ σ : Nat → Nat → Int32} {nE : Nat} (hE : rE χ nE σ) {A : Nat → Int32} {P : Nat → Prop} {s : Int32 × (Nat → Nat → Int32)} {N z : Int32} (e10 : s.2 10 = σ 10) (e12 : s.2 12 = σ 12) (e13 : s.2 13 = σ 13) (e14 : s.2 14 = σ 14) (h1 : zr A (s.2 15) P) (h2 : nz (s.2 15) + s.1 = N) (h3 : s.2 18 0 = z + s.1) : ∀ n, n ≤ nE → zr A ((sg_it sm_pstep s n).2 15) (fun j => P j ∨ ∃ k, k < n ∧ (σ 14 k = 0 ∧ σ 13 k = s.2 1 0) ∧ cvr σ k j) ∧ nz ((sg_it sm_pstep s n).2 15) + (sg_it sm_pstep s n).1 = N ∧ (sg_it sm_pstep s n).2 18 0 = z + (sg_it sm_pstep s n).1
  | 0, _ => ⟨zr_iff h1 (fun j => ⟨Or.inl, fun z => z.elim id (fun ⟨k, hk, _⟩ => absurd hk (by omega))⟩), h2, h3⟩
  | n + 1, hn => by
    obtain ⟨i1, i2, i3⟩ := r_mhour hE e10 e12 e13 e14 h1 h2 h3 n (by omega)
    have k14 : (sg_it sm_pstep s n).2 14 n = σ 14 n := by rw [sm_pit_keep s (by decide) (by decide), e14]
    have k13 : (sg_it sm_pstep s n).2 13 n = σ 13 n := by rw [sm_pit_keep s (by decide) (by decide), e13]
    have k10 : (sg_it sm_pstep s n).2 10 n = σ 10 n := by rw [sm_pit_keep s (by decide) (by decide), e10]
    have k12 : (sg_it sm_pstep s n).2 12 n = σ 12 n := by rw [sm_pit_keep s (by decide) (by decide), e12]
    have k1 : (sg_it sm_pstep s n).2 1 0 = s.2 1 0 := by rw [sm_pit_keep s (by decide) (by decide)]
    show zr A ((sm_pstep n (sg_it sm_pstep s n)).2 15) _ ∧ nz ((sm_pstep n (sg_it sm_pstep s n)).2 15) + (sm_pstep n (sg_it sm_pstep s n)).1 = N ∧ (sm_pstep n (sg_it sm_pstep s n)).2 18 0 = z + (sm_pstep n (sg_it sm_pstep s n)).1
    by_cases q1 : σ 14 n = 0
    · by_cases q2 : σ 13 n = s.2 1 0
      · rw [sm_pC (k14.trans q1) (k13.trans (q2.trans k1.symm)), k10, k12]
        obtain ⟨a1, a2, a3, a4, a5, a6, a7, a8, a9, a10⟩ := hE
        obtain ⟨t, v, e, h, ht, hv, he, hh, f1, f2, f3, f4⟩ := a10 n (by omega)
        have g1 : (σ 10 n).toNatClampNeg = t := by rw [f1]; exact nI_clamp (by omega)
        have g2 : (σ 12 n).toNatClampNeg = v := by rw [f2]; exact nI_clamp (by omega)
        refine ⟨zr_iff (zr_drop i1 (σ 10 n).toNatClampNeg (σ 12 n).toNatClampNeg) (fun j => ?_), ?_, ?_⟩
        · rw [ex_s, or_assoc]
          exact ⟨fun z => z.elim Or.inl (fun y => Or.inr (y.elim Or.inl (fun w => Or.inr ⟨⟨q1, q2⟩, w⟩))), fun z => z.elim Or.inl (fun y => Or.inr (y.elim Or.inl (fun w => Or.inr w.2)))⟩
        · rw [← i2, g1, g2, ← nz_drop ht ((sg_it sm_pstep s n).2 15) v (by omega)]
          show nz (sm_drop t ((sg_it sm_pstep s n).2 15) v).2 + ((sg_it sm_pstep s n).1 + (sm_drop t ((sg_it sm_pstep s n).2 15) v).1) = _
          generalize nz (sm_drop t ((sg_it sm_pstep s n).2 15) v).2 = a
          generalize (sm_drop t ((sg_it sm_pstep s n).2 15) v).1 = b
          grind
        · show (sg_it sm_pstep s n).2 18 0 + (sm_drop (σ 10 n).toNatClampNeg ((sg_it sm_pstep s n).2 15) (σ 12 n).toNatClampNeg).1 = _
          rw [i3, Int32.add_assoc]
      · rw [sm_pB (k14.trans q1) (fun w => q2 (k13.symm.trans (w.trans k1)))]
        simp only [Int32.add_zero]
        refine ⟨zr_iff i1 (fun j => ?_), i2, i3⟩
        rw [ex_s]
        exact ⟨fun z => z.elim Or.inl (fun y => Or.inr (Or.inl y)), fun z => z.elim Or.inl (fun y => y.elim Or.inr (fun w => absurd w.1.2 q2))⟩
    · rw [sm_pA (fun w => q1 (k14.symm.trans w))]
      simp only [Int32.add_zero]
      refine ⟨zr_iff i1 (fun j => ?_), i2, i3⟩
      rw [ex_s]
      exact ⟨fun z => z.elim Or.inl (fun y => Or.inr (Or.inl y)), fun z => z.elim Or.inl (fun y => y.elim Or.inr (fun w => absurd w.1.1 q1))⟩
theorem r_mpass {χ σ : Nat → Nat → Int32} {nE H : Nat} (hE : rE χ nE σ) (hH : σ 1 0 = nI H) (hH2 : H < 10001) : ∀ i, i < 1000 → zr (σ 15) ((sm_passP σ nE i).2 15) (fun j => ∃ k, k < nE ∧ (σ 14 k = 0 ∧ ∃ e, σ 13 k = nI e ∧ H < e ∧ e ≤ H + i) ∧ cvr σ k j) ∧ nz ((sm_passP σ nE i).2 15) + (sm_passP σ nE i).1 = nz (σ 15) ∧ (sm_passP σ nE i).2 18 0 = σ 18 0 + (sm_passP σ nE i).1 ∧ (sm_passP σ nE i).2 1 0 = nI (H + i)
  | 0, _ => ⟨zr_iff (zr_refl _) (fun j => ⟨False.elim, fun ⟨k, hk, ⟨h1, e, h2, h3, h4⟩, h5⟩ => absurd h4 (by omega)⟩), Int32.add_zero _, (Int32.add_zero _).symm, hH⟩
  | i + 1, hi => by
    obtain ⟨i1, i2, i3, i4⟩ := r_mpass hE hH hH2 i (by omega)
    have kk : ∀ k, k ≠ 1 → k ≠ 15 → k ≠ 18 → sm_pU (sm_passP σ nE i).2 k = σ k := fun k h1 h2 h3 => (va_up_ne _ _ h1).trans (sm_passP_keep σ nE h1 h2 h3 i)
    have k1 : sm_pU (sm_passP σ nE i).2 1 0 = nI (H + (i + 1)) := by
      show (sm_passP σ nE i).2 1 0 + 1 = _
      rw [i4]; exact nI_add (H + i) 1
    have M := r_mhour hE (A := σ 15) (N := nz (σ 15)) (z := σ 18 0) (s := ((sm_passP σ nE i).1, sm_pU (sm_passP σ nE i).2)) (kk 10 (by decide) (by decide) (by decide)) (kk 12 (by decide) (by decide) (by decide)) (kk 13 (by decide) (by decide) (by decide)) (kk 14 (by decide) (by decide) (by decide)) i1 i2 i3 nE (Nat.le_refl _)
    obtain ⟨m1, m2, m3⟩ := M
    refine ⟨zr_iff m1 (fun j => ?_), m2, m3, (congrFun (sm_pit_keep ((sm_passP σ nE i).1, sm_pU (sm_passP σ nE i).2) (by decide) (by decide) nE) 0).trans k1⟩
    constructor
    · rintro (⟨k, h0, ⟨h1, e, h2, h3, h4⟩, h5⟩ | ⟨k, h0, ⟨h1, h2⟩, h5⟩)
      · exact ⟨k, h0, ⟨h1, e, h2, h3, by omega⟩, h5⟩
      · exact ⟨k, h0, ⟨h1, H + (i + 1), h2.trans k1, by omega, by omega⟩, h5⟩
    · rintro ⟨k, h0, ⟨h1, e, h2, h3, h4⟩, h5⟩
      by_cases q : e ≤ H + i
      · exact Or.inl ⟨k, h0, ⟨h1, e, h2, h3, q⟩, h5⟩
      · exact Or.inr ⟨k, h0, ⟨h1, h2.trans (by rw [show e = H + (i + 1) by omega]; exact k1.symm)⟩, h5⟩
