theorem r_rep {x y : Int32} (h : cx_rep x y = 0) : ∃ t v, t < 3 ∧ v < 4 ∧ x = nI t ∧ x.toNatClampNeg = t ∧ y = nI v ∧ sm_at x y = 4 * t + v := by
  rw [qc_rep] at h
  by_cases hE : sm_both x y = 0
  · rw [if_pos hE] at h; exact absurd h (by decide)
  · obtain ⟨t, v, h1, h2, h3, h4, h5⟩ := sm_both_ok hE
    exact ⟨t, v, h1, h3, h2, by rw [h2]; exact nI_clamp (by omega), h4, by unfold sm_at; rw [h5]; exact nI_clamp (by omega)⟩
theorem r_ag13 : ql_ag13 RLr0 := by
  intro χ nS nE σ x1 x2 h
  have hB : χ 7 = σ 15 := h.2.2.1.1
  have hc : cx_read χ x1 x2 = if sm_both x1 x2 = 0 then 1 else if σ 15 (sm_at x1 x2) = 0 then 3 else 0 := by
    unfold cx_read
    rw [qc_rep, hB]
    by_cases q : sm_both x1 x2 = 0
    · rw [if_pos q, if_pos q]; rfl
    · rw [if_neg q, if_neg q]; rfl
  have hm : sm_cread σ x1 x2 = if sm_both x1 x2 = 0 then 1 else if σ 15 (sm_at x1 x2) = 0 then 2 else 0 := rfl
  rw [hc, hm]
  by_cases q : sm_both x1 x2 = 0
  · rw [if_pos q, if_pos q]
    exact ⟨qa_px13 (by decide) (fun _ => rfl) (fun z => absurd z (by decide)), fun z => absurd z (by decide), h⟩
  · rw [if_neg q, if_neg q]
    obtain ⟨t, v, h1, h2, h3, h4, h5, h6⟩ := r_rep (x := x1) (y := x2) (by rw [qc_rep, if_neg q])
    by_cases q2 : σ 15 (sm_at x1 x2) = 0
    · rw [if_pos q2, if_pos q2]
      exact ⟨qa_px13 (by decide) (fun z => absurd z (by decide)) (fun _ => rfl), fun z => absurd z (by decide), h⟩
    · rw [if_neg q2, if_neg q2]
      refine ⟨qa_px13 (by decide) (fun z => absurd z (by decide)) (fun z => absurd z (by decide)), fun _ => ⟨rfl, ?_, h⟩, h⟩
      obtain ⟨n1, n2, n3⟩ := h.2.2.2.1 t h1
      rw [h6] at q2 ⊢
      rw [(n3 v h2 q2).2, n2, h3]
/-! pure: drops -/
theorem r_dropE (t : Nat) (A : Nat → Int32) (d : Int32) : ∀ L, cx_drop t A d L = ((sm_drop t A L).2, d + (sm_drop t A L).1)
  | 0 => by show (A, d) = (A, d + 0); rw [Int32.add_zero]
  | L + 1 => by
    show cx_dstep t L (cx_drop t A d L) = ((sm_dstep t L (sm_drop t A L)).2, d + (sm_dstep t L (sm_drop t A L)).1)
    rw [r_dropE t A d L]
    generalize sm_drop t A L = s
    unfold cx_dstep sm_dstep
    by_cases h : s.2 (4 * t + L) = 0
    · simp only [h, if_true, Int32.add_zero]
      congr 1
      funext j
      unfold upd
      by_cases hj : j = 4 * t + L
      · rw [if_pos hj, hj, h]
      · rw [if_neg hj]
    · simp only [h, if_false, Int32.add_assoc]
theorem r_dropV (t : Nat) (A : Nat → Int32) (j : Nat) : ∀ L, (sm_drop t A L).2 j = if 4 * t ≤ j ∧ j < 4 * t + L then 0 else A j
  | 0 => by rw [if_neg (by omega)]; rfl
  | L + 1 => by
    show (upd (sm_drop t A L).2 (4 * t + L) 0) j = _
    unfold upd
    by_cases hj : j = 4 * t + L
    · rw [if_pos hj, if_pos (by omega)]
    · rw [if_neg hj, r_dropV t A j L]
      by_cases h : 4 * t ≤ j ∧ j < 4 * t + L
      · rw [if_pos h, if_pos (by omega)]
      · rw [if_neg h, if_neg (by omega)]
/-- numbers, but for reports that will be dropped -/
def rN1 (χ : Nat → Nat → Int32) (nS : Nat) (σ : Nat → Nat → Int32) (t0 L : Nat) : Prop := ∀ t, t < 3 → (∀ e, e < 30 → χ (10 + t) e = sm_sumO σ (nI t) (nI e) nS) ∧ χ 6 t = sm_read σ (nI t) nS ∧ ∀ v, v < 4 → ¬ (t = t0 ∧ v < L) → ¬ σ 15 (4 * t + v) = 0 → (∀ e, e < 30 → χ (20 + (4 * t + v)) e = χ (10 + t) e) ∧ χ 13 (4 * t + v) = χ 6 t
theorem r_drop {χ σ : Nat → Nat → Int32} {nS nE t L : Nat} (hS : rS χ nS σ) (hE : rE χ nE σ) (hB : rB χ σ) (hN : rN1 χ nS σ t L) (hO : rO χ σ) : RLr0 (cx_dropS χ t L) nS nE (sm_dropS σ t L) := by
  have hX : cx_dropS χ t L = sg_u (va_up χ 7 (sm_drop t (σ 15) L).2) 3 (σ 18 0 + (sm_drop t (σ 15) L).1) := by
    unfold cx_dropS cx_dS
    rw [r_dropE, hB.1, hO.2.2.1]
  have k1 : ∀ k, k ≠ 7 → k ≠ 3 → cx_dropS χ t L k = χ k := fun k h1 h2 => by rw [hX]; exact (va_up_ne _ _ h2).trans (va_up_ne _ _ h1)
  have k2 : ∀ k, k ≠ 15 → k ≠ 18 → sm_dropS σ t L k = σ k := fun k h1 h2 => sm_dropS_keep σ t L h1 h2
  have e7 : cx_dropS χ t L 7 = (sm_drop t (σ 15) L).2 := by rw [hX]; rfl
  have e15 : sm_dropS σ t L 15 = (sm_drop t (σ 15) L).2 := rfl
  refine ⟨rS_c hS (fun k hk => k1 k (by omega) (by omega)) (fun k hk hk2 => k2 k (by omega) (by omega)), rE_c hE (fun k hk => k1 k (by omega) (by omega)) (fun k hk hk2 => k2 k (by omega) (by omega)), ⟨e7.trans e15.symm, ?_, ?_, ?_⟩, ?_, ?_⟩
  · rw [k1 8 (by omega) (by omega), k2 17 (by omega) (by omega), hB.2.1]
  · rw [k1 9 (by omega) (by omega), k2 16 (by omega) (by omega), hB.2.2.1]
  · intro j
    rw [e15, r_dropV]
    by_cases h : 4 * t ≤ j ∧ j < 4 * t + L
    · rw [if_pos h]; exact Or.inl rfl
    · rw [if_neg h]; exact hB.2.2.2 j
  · intro t' ht'
    obtain ⟨q1, q2, q3⟩ := hN t' ht'
    have c2 : ∀ k, 3 ≤ k → k ≤ 7 → sm_dropS σ t L k = σ k := fun k h1 h2 => k2 k (by omega) (by omega)
    rw [k1 (10 + t') (by omega) (by omega), k1 6 (by omega) (by omega), k1 13 (by omega) (by omega), sm_read_c c2]
    refine ⟨fun e he => by rw [sm_sumO_c c2]; exact q1 e he, q2, fun v hv hb => ?_⟩
    rw [k1 (20 + (4 * t' + v)) (by omega) (by omega)]
    rw [e15, r_dropV] at hb
    by_cases h : 4 * t ≤ 4 * t' + v ∧ 4 * t' + v < 4 * t + L
    · rw [if_pos h] at hb; exact absurd rfl hb
    · rw [if_neg h] at hb; exact q3 v hv (by omega) hb
  · refine ⟨?_, ?_, ?_, ?_, ?_, ?_⟩
    · rw [k1 2 (by omega) (by omega), k2 1 (by omega) (by omega)]; exact hO.1
    · rw [k2 1 (by omega) (by omega)]; exact hO.2.1
    · rw [hX]; rfl
    · rw [k1 4 (by omega) (by omega), k2 19 (by omega) (by omega)]; exact hO.2.2.2.1
    · rw [k2 19 (by omega) (by omega)]; exact hO.2.2.2.2.1
    · rw [k1 5 (by omega) (by omega), k2 8 (by omega) (by omega)]; exact hO.2.2.2.2.2
/-! pure: sums -/
theorem sg_chg {f g : Nat → Int32} {i : Nat} {d : Int32} : ∀ n, i < n → (∀ k, k < n → k ≠ i → g k = f k) → g i = f i + d → sg_it (fun k s => s + g k) 0 n = sg_it (fun k s => s + f k) 0 n + d
  | 0, hi, _, _ => absurd hi (by omega)
  | n + 1, hi, h, h2 => by
    show sg_it (fun k s => s + g k) 0 n + g n = sg_it (fun k s => s + f k) 0 n + f n + d
    by_cases hn : i = n
    · subst hn
      rw [h2, sg_it_c (f := fun k s => s + g k) (g := fun k s => s + f k) (n := i) (fun k hk s => by rw [h k (by omega) (by omega)]), Int32.add_assoc]
    · rw [sg_chg n (by omega) (fun k hk => h k (by omega)) h2, h n (by omega) (fun q => hn q.symm)]
      rw [Int32.add_assoc, Int32.add_assoc, Int32.add_comm d]
theorem nI_d6 : ∀ e : Fin 30, nI e.1 / 6 = nI (e.1 / 6) := by decide +kernel
theorem nI_m6 : ∀ e : Fin 30, nI e.1 - nI e.1 / 6 * 6 = nI (e.1 % 6) := by decide +kernel
theorem cx_enterV (F : Nat → Int32) {a b : Nat} (ha : a < 4) (hb : b < 5) (x : Int32) {e : Nat} (he : e < 30) : cx_enter F a b x e = F e + (if (e / 6 = 4 ∨ e / 6 = a) ∧ (e % 6 = 5 ∨ e % 6 = b) then x else 0) := by
  unfold cx_enter cx_add upd
  by_cases h1 : e = 29
  · subst h1
    rw [if_pos rfl, if_neg (by omega), if_neg (by omega), if_neg (by omega), if_pos (by omega)]
  · rw [if_neg h1]
    by_cases h2 : e = 24 + b
    · subst h2
      rw [if_pos rfl, if_neg (by omega), if_neg (by omega), if_pos (by omega)]
    · rw [if_neg h2]
      by_cases h3 : e = a * 6 + 5
      · subst h3
        rw [if_pos rfl, if_neg (by omega), if_pos (by omega)]
      · rw [if_neg h3]
        by_cases h4 : e = a * 6 + b
        · subst h4
          rw [if_pos rfl, if_pos (by omega)]
        · rw [if_neg h4, if_neg (by omega), Int32.add_zero]
theorem sm_isSV {σ : Nat → Nat → Int32} {k t t' a b e : Nat} (ht : t < 3) (ht' : t' < 3) (ha : a < 4) (hb : b < 5) (he : e < 30) (h3 : σ 3 k = nI t') (h4 : σ 4 k = nI a) (h5 : σ 5 k = nI b) : sm_isS σ (nI t) (nI e) k = if t' = t ∧ σ 7 k = 0 ∧ (e / 6 = 4 ∨ e / 6 = a) ∧ (e % 6 = 5 ∨ e % 6 = b) then 1 else 0 := by
  unfold sm_isS
  rw [nI_m6 ⟨e, he⟩, nI_d6 ⟨e, he⟩, h3, h4, h5]
  have e1 : nI t' = nI t ↔ t' = t := nI_eq (by omega) (by omega)
  have e2 : nI (e / 6) = 4 ↔ e / 6 = 4 := nI_eq (by omega) (b := 4) (by omega)
  have e3 : nI (e % 6) = 5 ↔ e % 6 = 5 := nI_eq (by omega) (b := 5) (by omega)
  have e4 : nI a = nI (e / 6) ↔ a = e / 6 := nI_eq (by omega) (by omega)
  have e5 : nI b = nI (e % 6) ↔ b = e % 6 := nI_eq (by omega) (by omega)
  simp only [e1, e2, e3, e4, e5, @eq_comm _ (e / 6) a, @eq_comm _ (e % 6) b]
  generalize e / 6 = p
  generalize e % 6 = q
  by_cases h1 : t' = t <;> by_cases h2 : σ 7 k = 0 <;> by_cases h3 : p = 4 <;> by_cases h4 : a = p <;> by_cases h5 : q = 5 <;> by_cases h6 : b = q <;> simp [*]
