theorem bar_eq {χ σ : Nat → Nat → Int32} {nE : Nat} (hE : rE χ nE σ) (hO : χ 2 0 = σ 1 0) (x1 x2 : Int32) (n : Nat) : cx_bar χ x1 x2 n = sm_bar σ x1 x2 n := by
  obtain ⟨a1, a2, a3, a4, a5, a6, a7, a8, a9, a10⟩ := hE
  refine sg_it_c (fun k _ s => ?_)
  unfold cx_bstep sm_bterm
  rw [qc_lasts hO a7 a8, a4, a5, a6]
  by_cases h1 : σ 10 k = x1
  · rw [if_pos h1, if_pos h1]
    by_cases h2 : σ 12 k ≤ x2
    · rw [if_pos h2, if_pos h2]
      by_cases h3 : sm_lasts σ k = 0
      · rw [if_pos h3, Int32.or_zero]
      · rw [if_neg h3, Int32.or_zero]
    · rw [if_neg h2, if_neg h2]
      by_cases h3 : sm_lasts σ k = 0
      · rw [if_pos h3, if_pos h3, Int32.or_zero]
      · rw [if_neg h3, if_neg h3]
  · rw [if_neg h1, if_neg h1]
    by_cases h3 : sm_lasts σ k = 0
    · rw [if_pos h3, Int32.or_zero]
    · rw [if_neg h3, Int32.or_zero]
theorem bar_hi {χ σ : Nat → Nat → Int32} {nE : Nat} (hE : rE χ nE σ) (x1 x2 : Int32) : ∀ n, n ≤ nE → bhi 30 (sm_bar σ x1 x2 n)
  | 0, _ => fun k _ => qb_zero k
  | n + 1, hn => by
    refine or_hi (bar_hi hE x1 x2 n (by omega)) ?_
    obtain ⟨t, v, e, h, ht, hv, he, hh, f1, f2, f3, f4⟩ := hE.2.2.2.2.2.2.2.2.2 n (by omega)
    unfold sm_bterm
    split
    · exact fun k _ => qb_zero k
    · split
      · split
        · exact fun k _ => qb_zero k
        · intro k hk
          rw [f3, qb_one (by omega)]; simp; omega
      · exact fun k _ => qb_zero k
theorem cx_isE01 (χ : Nat → Nat → Int32) (x y z w : Int32) : cx_isE χ x y z w = 0 ∨ cx_isE χ x y z w = 1 := by unfold cx_isE; by_cases h : cx_ent χ x y z = 0 <;> by_cases h2 : cx_lev w = 0 <;> simp [h, h2]
theorem r_ag7 : ql_ag7 RLr0 := by
  intro χ nS nE σ x1 x2 x3 x4 h
  have o6 : χ 5 = σ 8 := h.2.2.2.2.2.2.2.2.2
  have hc : sm_cisE σ x1 x2 x3 x4 = cx_isE χ x1 x2 x3 x4 := by
    unfold sm_cisE cx_isE
    rw [(r_entv o6 x1 x2 x3).1, qc_lev]
    by_cases q : sm_ent σ x1 x2 x3 = -1 <;> by_cases q2 : sm_isL x4 = 0 <;> simp [q, q2]
  refine ⟨qa_px1 (cx_isE01 χ x1 x2 x3 x4) hc, fun h0 => ⟨hc.trans h0, ?_, h⟩, h⟩
  have h1 : cx_ent χ x1 x2 x3 = 0 := Decidable.byContradiction fun z => by
    unfold cx_isE at h0
    rw [if_neg z] at h0; exact absurd h0 (by decide)
  obtain ⟨he, t, e, ht, he2, hx, hxn, hs⟩ := (r_entv o6 x1 x2 x3).2 h1
  rw [he, hs, bar_eq h.2.1 h.2.2.2.2.1, qb_b1 he2]
theorem cx_build01 (x y : Int32) : cx_build x y = 0 ∨ cx_build x y = 1 := by unfold cx_build; by_cases h : cx_rep x y = 0 <;> simp [h]
theorem r_ag9 : ql_ag9 RLr0 := by
  intro χ nS nE σ x1 x2 h
  have h' := h
  obtain ⟨hS, hE, hB, hN, hO⟩ := h
  have hc : sm_cB x1 x2 = cx_build x1 x2 := qc_isB x1 x2
  refine ⟨qa_px1 (cx_build01 x1 x2) hc, fun h0 => ⟨hc.trans h0, ?_, ?_⟩, h'⟩
  · rw [bar_eq hE hO.1, arnd, bc_bits]
    rw [← arnd]
    exact arnd_hi (bar_hi hE x1 x2 nE (Nat.le_refl _))
  have h1 : cx_rep x1 x2 = 0 := Decidable.byContradiction fun z => by
    unfold cx_build at h0
    rw [if_neg z] at h0; exact absurd h0 (by decide)
  obtain ⟨t, v, ht, hv, hx1, hxn, hx2, hat⟩ := r_rep h1
  unfold sm_buildS
  rw [bar_eq hE hO.1, arnd, hxn, hat]
  generalize sm_bar σ x1 x2 nE = B
  generalize hX : cx_fill χ t (4 * t + v) B (sm_hidden B) = χ1
  generalize hY : va_up (va_up (va_up σ 15 (upd (σ 15) (4 * t + v) 1)) 17 (upd (σ 17) (4 * t + v) B)) 16 (upd (σ 16) (4 * t + v) (sm_hidden B)) = σ1
  have k1 : ∀ k, k ≠ 7 → k ≠ 13 → k ≠ 9 → k ≠ 8 → k ≠ 20 + (4 * t + v) → χ1 k = χ k := fun k q1 q2 q3 q4 q5 => by
    rw [← hX]
    exact (va_up_ne _ _ q1).trans ((va_up_ne _ _ q2).trans ((va_up_ne _ _ q3).trans ((va_up_ne _ _ q4).trans (va_up_ne _ _ q5))))
  have k2 : ∀ k, k ≠ 15 → k ≠ 16 → k ≠ 17 → σ1 k = σ k := fun k q1 q2 q3 => by
    rw [← hY]
    exact (va_up_ne _ _ q2).trans ((va_up_ne _ _ q3).trans (va_up_ne _ _ q1))
  have c7 : χ1 7 = upd (χ 7) (4 * t + v) 1 := by rw [← hX]; exact va_up_self _ _ _
  have c13 : χ1 13 = upd (χ 13) (4 * t + v) (χ 6 t) := by rw [← hX]; exact (va_up_ne _ _ (by decide)).trans (va_up_self _ _ _)
  have c9 : χ1 9 = upd (χ 9) (4 * t + v) (sm_hidden B) := by rw [← hX]; exact (va_up_ne _ _ (by decide)).trans ((va_up_ne _ _ (by decide)).trans (va_up_self _ _ _))
  have c8 : χ1 8 = upd (χ 8) (4 * t + v) B := by rw [← hX]; exact (va_up_ne _ _ (by decide)).trans ((va_up_ne _ _ (by decide)).trans ((va_up_ne _ _ (by decide)).trans (va_up_self _ _ _)))
  have c20 : χ1 (20 + (4 * t + v)) = va_cpy (χ (10 + t)) (χ (20 + (4 * t + v))) 0 0 30 := by
    rw [← hX]; exact (va_up_ne _ _ (by omega)).trans ((va_up_ne _ _ (by omega)).trans ((va_up_ne _ _ (by omega)).trans ((va_up_ne _ _ (by omega)).trans (va_up_self _ _ _))))
  have d15 : σ1 15 = upd (σ 15) (4 * t + v) 1 := by rw [← hY]; rfl
  have d16 : σ1 16 = upd (σ 16) (4 * t + v) (sm_hidden B) := by rw [← hY]; rfl
  have d17 : σ1 17 = upd (σ 17) (4 * t + v) B := by rw [← hY]; rfl
  refine ⟨rS_c hS (fun k hk => k1 k (by omega) (by omega) (by omega) (by omega) (by omega)) (fun k hk hk2 => k2 k (by omega) (by omega) (by omega)), rE_c hE (fun k hk => k1 k (by omega) (by omega) (by omega) (by omega) (by omega)) (fun k hk hk2 => k2 k (by omega) (by omega) (by omega)), ⟨by rw [c7, d15, hB.1], by rw [c8, d17, hB.2.1], by rw [c9, d16, hB.2.2.1], fun j => ?_⟩, ?_, rO_c hO (fun k hk hk2 => k1 k (by omega) (by omega) (by omega) (by omega) (by omega)) (fun k hk => k2 k (by omega) (by omega) (by omega))⟩
  · rw [d15]
    by_cases q : j = 4 * t + v
    · rw [q, pk_us]; exact Or.inr rfl
    · rw [pk_un q]; exact hB.2.2.2 j
  · intro t' ht'
    obtain ⟨q1, q2, q3⟩ := hN t' ht'
    have c2 : ∀ k, 3 ≤ k → k ≤ 7 → σ1 k = σ k := fun k z1 z2 => k2 k (by omega) (by omega) (by omega)
    rw [k1 (10 + t') (by omega) (by omega) (by omega) (by omega) (by omega), k1 6 (by omega) (by omega) (by omega) (by omega) (by omega), sm_read_c c2]
    refine ⟨fun e he => by rw [sm_sumO_c c2]; exact q1 e he, q2, fun v' hv' hb => ?_⟩
    by_cases q : 4 * t' + v' = 4 * t + v
    · have qt : t' = t := by omega
      rw [q, c20, c13, pk_us, qt]
      refine ⟨fun e he => ?_, rfl⟩
      unfold va_cpy
      rw [if_pos (by omega)]
      congr 1
      omega
    · rw [c13, pk_un q, k1 (20 + (4 * t' + v')) (by omega) (by omega) (by omega) (by omega) (by omega)]
      rw [d15, pk_un q] at hb
      exact q3 v' hv' hb
theorem sm_isT_ent {σ : Nat → Nat → Int32} {x1 x2 x3 : Int32} (h : sm_isT x1 = 0) : sm_ent σ x1 x2 x3 = -1 := by unfold sm_ent; rw [if_pos h]
theorem qb_rep {χ σ : Nat → Nat → Int32} (h5 : χ 5 = σ 8) (x1 x2 x3 x4 : Int32) : (if cx_rep x1 x2 = 0 then cx_ent χ x1 x3 x4 else 1) = if sm_isL x2 = 0 then 1 else if sm_ent σ x1 x3 x4 = -1 then 1 else 0 := by
  rw [qc_rep, (r_entv h5 x1 x3 x4).1]
  unfold sm_both
  by_cases q : sm_isT x1 = 0
  · rw [sm_isT_ent q]
    by_cases q2 : sm_isL x2 = 0 <;> simp [q, q2]
  · by_cases q2 : sm_isL x2 = 0 <;> simp [q, q2]
theorem r_ag11 : ql_ag11 RLr0 := by
  intro χ nS nE σ x1 x2 x3 x4 h
  have o6 : χ 5 = σ 8 := h.2.2.2.2.2.2.2.2.2
  have hB := h.2.2.1
  have hc : cx_shown χ x1 x2 x3 x4 = if (if cx_rep x1 x2 = 0 then cx_ent χ x1 x3 x4 else 1) = 0 then (if σ 15 (sm_at x1 x2) = 0 then 3 else 0) else 1 := by
    unfold cx_shown
    rw [hB.1]
    by_cases q : cx_rep x1 x2 = 0 <;> by_cases q2 : cx_ent χ x1 x3 x4 = 0 <;> simp [q, q2]
  have hm : sm_cshown σ x1 x2 x3 x4 = if (if cx_rep x1 x2 = 0 then cx_ent χ x1 x3 x4 else 1) = 0 then (if σ 15 (sm_at x1 x2) = 0 then 2 else 0) else 1 := by
    unfold sm_cshown sm_are2
    rw [qb_rep o6]
    by_cases q : sm_isL x2 = 0 <;> by_cases q2 : sm_ent σ x1 x3 x4 = -1 <;> simp [q, q2]
  rw [hc, hm]
  by_cases q : (if cx_rep x1 x2 = 0 then cx_ent χ x1 x3 x4 else 1) = 0
  case neg =>
    rw [if_neg q, if_neg q]
    exact ⟨qa_px13 (by decide) (fun _ => rfl) (fun z => absurd z (by decide)), fun z => absurd z (by decide), h⟩
  rw [if_pos q, if_pos q]
  by_cases q2 : σ 15 (sm_at x1 x2) = 0
  · rw [if_pos q2, if_pos q2]
    exact ⟨qa_px13 (by decide) (fun z => absurd z (by decide)) (fun _ => rfl), fun z => absurd z (by decide), h⟩
  rw [if_neg q2, if_neg q2]
  refine ⟨qa_px13 (by decide) (fun z => absurd z (by decide)) (fun z => absurd z (by decide)), fun _ => ⟨rfl, ?_, h⟩, h⟩
  have h1 : cx_rep x1 x2 = 0 := Decidable.byContradiction fun z => by rw [if_neg z] at q; exact absurd q (by decide)
  rw [if_pos h1] at q
  obtain ⟨t, v, ht, hv, hx1, hxn, hx2, hat⟩ := r_rep h1
  obtain ⟨he, t2, e, ht2, he2, hx, hxn2, hs⟩ := (r_entv o6 x1 x3 x4).2 q
  have ht3 : t2 = t := by rw [← hxn2, hxn]
  obtain ⟨n1, n2, n3⟩ := h.2.2.2.1 t ht
  rw [hat] at q2
  congr 1
  unfold cx_shownV sm_shown
  rw [he, hs, hat, hB.2.2.1, nI_clamp (n := e) (by omega), qb_has (by omega), qb_bit (by omega), hx1]
  by_cases w : qb (σ 16 (4 * t + v)) e = true
  · rw [if_pos w, if_neg (by decide), if_pos rfl]
  · rw [if_neg w, if_pos rfl, if_neg (by decide), (n3 v hv q2).1 e he2, n1 e he2]
theorem r_ag12 : ql_ag12 RLr0 := by
  intro χ nS nE σ x1 x2 x3 x4 h
  have o6 : χ 5 = σ 8 := h.2.2.2.2.2.2.2.2.2
  have hB := h.2.2.1
  have hm : sm_cwhy σ x1 x2 x3 x4 = if (if cx_rep x1 x2 = 0 then cx_ent χ x1 x3 x4 else 1) = 0 then 0 else 1 := by
    unfold sm_cwhy
    rw [qb_rep o6]
    by_cases q : sm_isL x2 = 0 <;> by_cases q2 : sm_ent σ x1 x3 x4 = -1 <;> simp [q, q2]
  have hc : cx_whyC χ x1 x2 x3 x4 = if (if cx_rep x1 x2 = 0 then cx_ent χ x1 x3 x4 else 1) = 0 then 0 else 1 := by
    unfold cx_whyC
    by_cases q : cx_rep x1 x2 = 0 <;> by_cases q2 : cx_ent χ x1 x3 x4 = 0 <;> simp [q, q2]
  have h01 : cx_whyC χ x1 x2 x3 x4 = 0 ∨ cx_whyC χ x1 x2 x3 x4 = 1 := by
    unfold cx_whyC
    by_cases q : cx_rep x1 x2 = 0
    · rw [if_pos q]
      by_cases q2 : cx_ent χ x1 x3 x4 = 0
      · rw [if_pos q2]; exact Or.inl rfl
      · rw [if_neg q2]; exact Or.inr rfl
    · rw [if_neg q]; exact Or.inr rfl
  refine ⟨qa_px1 h01 (hm.trans hc.symm), fun h0 => ⟨(hm.trans hc.symm).trans h0, ?_, h⟩, h⟩
  rw [hc] at h0
  have q : (if cx_rep x1 x2 = 0 then cx_ent χ x1 x3 x4 else 1) = 0 := Decidable.byContradiction fun z => by rw [if_neg z] at h0; exact absurd h0 (by decide)
  have h1 : cx_rep x1 x2 = 0 := Decidable.byContradiction fun z => by rw [if_neg z] at q; exact absurd q (by decide)
  rw [if_pos h1] at q
  obtain ⟨he, t2, e, ht2, he2, hx, hxn2, hs⟩ := (r_entv o6 x1 x3 x4).2 q
  congr 1
  unfold cx_whyV sm_why
  rw [he, hs, hB.1, hB.2.1, hB.2.2.1, qb_has (by omega), qb_has (by omega), qb_bit (by omega), qb_bit (by omega)]
  by_cases w0 : σ 15 (sm_at x1 x2) = 0
  · rw [if_pos w0, if_pos w0]
  · rw [if_neg w0, if_neg w0]
    by_cases w : qb (σ 17 (sm_at x1 x2)) e = true <;> by_cases w2 : qb (σ 16 (sm_at x1 x2)) e = true <;> simp [w, w2]
theorem r_ag16 : ql_ag16 RLr0 := by
  intro χ nS nE σ h
  obtain ⟨hS, hE, hB, hN, o1, o2, o3, o4, o5, o6⟩ := h
  refine ⟨by rw [o4]; exact bc_bits o5, hS, hE, hB, rN_c hN (fun k hk => va_up_ne _ _ (by omega)) (fun k hk hk2 => va_up_ne _ _ (by omega)) (fun j hj => hj), o1, o2, o3, rfl, fun k _ => qb_zero k, o6⟩
theorem r_ag19 : ql_ag19 RLr0 := by
  intro χ nS nE σ h
  obtain ⟨hS, hE, hB, hN, o1, o2, o3, o4, o5, o6⟩ := h
  have h1 : bhi 30 (sm_hidden (σ 19 0)) := by rw [← arnd]; exact arnd_hi o5
  refine ⟨by rw [o4, arnd, bc_bits o5, bc_bits h1], hS, hE, hB, rN_c hN (fun k hk => va_up_ne _ _ (by omega)) (fun k hk hk2 => va_up_ne _ _ (by omega)) (fun j hj => hj), o1, o2, o3, ?_, h1, o6⟩
  show sg_around (χ 4 0) = sm_hidden (σ 19 0)
  rw [o4, arnd]
theorem r_ag17 : ql_ag17 RLr0 := by
  intro χ nS nE σ x1 x2 h
  refine ⟨qa_px1 (cx_mark01 x1 x2) (qc_mark x1 x2), fun hc => ⟨(qc_mark x1 x2).trans hc, ?_, h⟩, h⟩
  obtain ⟨e, he, hx⟩ := r_eat (cx_mark_0 hc)
  congr 1
  unfold cx_known sm_known
  rw [h.2.2.2.2.2.2.2.1, ← qc_ix, hx, qb_has (by omega), qb_bit (by omega)]
  by_cases w : qb (σ 19 0) e = true
  · rw [if_pos w, if_neg (show ¬ (1 : Int32) = 0 by decide), if_neg (show ¬ (1 : Int32) = 0 by decide)]
    rcases sm_found01 (σ 19 0) (nI e) with z | z
    · rw [if_pos z, if_neg (show ¬ sg_round (σ 19 0) (nI e) = 0 from fun y => absurd ((rnd_fnd he).mp y) (by rw [z]; decide))]
    · rw [if_neg (show ¬ sm_found (σ 19 0) (nI e) = 0 by rw [z]; decide), if_pos ((rnd_fnd he).mpr z)]
  · rw [if_neg w, if_pos rfl, if_pos rfl]
