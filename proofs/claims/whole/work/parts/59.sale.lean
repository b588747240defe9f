theorem qc_in (x lo hi : Int32) : sm_in x lo hi = if x < lo then 0 else if hi < x then 0 else 1 := rfl
theorem qc_sale {χ σ : Nat → Nat → Int32} {nS : Nat} (h1 : χ 0 0 = nI nS) (h2 : σ 2 0 = nI nS) (h3 : nS ≤ 120) (x1 x2 x3 x4 : Int32) : sm_csale σ x1 x2 x3 x4 = cx_sale χ x1 x2 x3 x4 := by
  have f4 : ∀ x : Int32, (4 : Int32) ≤ x ↔ (3 : Int32) < x := fun x => qr_up2 (by decide)
  have f5 : ∀ x : Int32, x < (5 : Int32) ↔ ¬ (4 : Int32) < x := fun x => qr_up (by decide)
  have f1 : ∀ x : Int32, x ≤ (1000 : Int32) ↔ ¬ (1000 : Int32) < x := fun x => by rw [Int32.le_iff_toInt_le, Int32.lt_iff_toInt_lt]; omega
  have f6 : (nI nS < 120) ↔ ¬ nI nS = 120 := by
    rw [show (120 : Int32) = nI 120 from rfl, nI_ltI (by omega) (by omega), nI_eq (by omega) (by omega)]; omega
  unfold sm_csale cx_sale sm_are
  rw [qc_tab, h1, h2, qc_in, qc_in, qc_in]
  simp only [f4, f5, f1, f6]
  by_cases a1 : sm_isT x1 = 0
  · simp [a1]
  · by_cases a2 : x2 < 0
    · simp [a1, a2]
    · by_cases a3 : 3 < x2
      · simp [a1, a2, a3]
      · by_cases a4 : x3 < 0
        · simp [a1, a2, a3, a4]
        · by_cases a5 : 4 < x3
          · simp [a1, a2, a3, a4, a5]
          · by_cases a6 : x4 < -1000
            · simp [a1, a2, a3, a4, a5, a6]
            · by_cases a7 : 1000 < x4
              · simp [a1, a2, a3, a4, a5, a6, a7]
              · by_cases a8 : nI nS = 120 <;> simp [a1, a2, a3, a4, a5, a6, a7, a8]
theorem r_sale0 {χ : Nat → Nat → Int32} {nS : Nat} {x1 x2 x3 x4 : Int32} (h1 : χ 0 0 = nI nS) (h3 : nS ≤ 120) (h : cx_sale χ x1 x2 x3 x4 = 0) : ∃ t a b, t < 3 ∧ a < 4 ∧ b < 5 ∧ x1 = nI t ∧ x2 = nI a ∧ x3 = nI b ∧ nS < 120 := by
  unfold cx_sale at h
  by_cases a1 : cx_tab x1 = 0
  · rw [if_pos a1] at h
    by_cases a2 : x2 < 0
    · rw [if_pos a2] at h; exact absurd h (by decide)
    · rw [if_neg a2] at h
      by_cases a3 : 4 ≤ x2
      · rw [if_pos a3] at h; exact absurd h (by decide)
      · rw [if_neg a3] at h
        by_cases a4 : x3 < 0
        · rw [if_pos a4] at h; exact absurd h (by decide)
        · rw [if_neg a4] at h
          by_cases a5 : x3 < 5
          · rw [if_pos a5] at h
            by_cases a6 : x4 < -1000
            · rw [if_pos a6] at h; exact absurd h (by decide)
            · rw [if_neg a6] at h
              by_cases a7 : x4 ≤ 1000
              · rw [if_pos a7] at h
                by_cases a8 : χ 0 0 < 120
                · obtain ⟨t, b1, b2, -⟩ := r_tab a1
                  obtain ⟨a, b3, b4⟩ := sg_rng (n := 4) (b := 4) rfl (by omega) a2 (sg_lt4 a3)
                  obtain ⟨b, b5, b6⟩ := sg_rng (n := 5) (b := 5) rfl (by omega) a4 a5
                  exact ⟨t, a, b, b1, b3, b5, b2, b4, b6, sg_ltn h1 (by omega) (by omega) (b := 120) a8⟩
                · rw [if_neg a8] at h; exact absurd h (by decide)
              · rw [if_neg a7] at h; exact absurd h (by decide)
          · rw [if_neg a5] at h; exact absurd h (by decide)
  · rw [if_neg a1] at h; exact absurd h (by decide)
theorem upd_id {f : Nat → Int32} {k : Nat} {x : Int32} (h : f k = x) : upd f k x = f := by
  funext j
  unfold upd
  by_cases q : j = k
  · rw [if_pos q, q, h]
  · rw [if_neg q]
theorem r_ag0 : ql_ag0 RLr0 := by
  intro χ nS nE σ x1 x2 x3 x4 h
  obtain ⟨hS, hE, hB, hN, hO⟩ := h
  obtain ⟨a1, a2, a3, a4, a5, a6, a7, a8, a9, a10⟩ := hS
  have hc := qc_sale a2 a3 a1 x1 x2 x3 x4
  refine ⟨qa_px3 hc, fun h0 => ⟨hc.trans h0, by rw [a2, a3], ?_⟩, ⟨a1, a2, a3, a4, a5, a6, a7, a8, a9, a10⟩, hE, hB, hN, hO⟩
  obtain ⟨t, a, b, ht, ha, hb, rfl, rfl, rfl, hlt⟩ := r_sale0 a2 a1 h0
  show RLr0 (cx_saleT χ nS (nI t).toNatClampNeg (nI a).toNatClampNeg (nI b).toNatClampNeg (nI t) (nI a) (nI b) x4) (nS + 1) nE (sm_dropS (sm_saleS1 σ nS (nI t) (nI a) (nI b) x4) (nI t).toNatClampNeg 4)
  rw [nI_clamp (n := t) (by omega), nI_clamp (n := a) (by omega), nI_clamp (n := b) (by omega)]
  unfold cx_saleT
  generalize hX : va_up (va_up (qx_sold χ nS (nI t) (nI a) (nI b) x4) (10 + t) (cx_enter (χ (10 + t)) a b x4)) 6 (upd (χ 6) t (χ 6 t + 1)) = χ1
  generalize hY : sm_saleS1 σ nS (nI t) (nI a) (nI b) x4 = σ1
  have k0 : ∀ k, k ≠ 6 → k ≠ 10 + t → χ1 k = qx_sold χ nS (nI t) (nI a) (nI b) x4 k := fun k h1 h2 => by rw [← hX]; exact (va_up_ne _ _ h1).trans (va_up_ne _ _ h2)
  have k1 : ∀ k, k ≠ 6 → k ≠ 10 + t → k ≠ 0 → (k < 40 ∨ 44 < k) → χ1 k = χ k := fun k h1 h2 h3 h4 => by
    rw [k0 k h1 h2]
    exact (va_up_ne _ _ (by omega)).trans ((va_up_ne _ _ (by omega)).trans ((va_up_ne _ _ (by omega)).trans ((va_up_ne _ _ (by omega)).trans ((va_up_ne _ _ (by omega)).trans (va_up_ne _ _ (by omega))))))
  have k2 : ∀ k, k ≠ 2 → (k < 3 ∨ 6 < k) → σ1 k = σ k := fun k h1 h2 => by
    rw [← hY]
    exact (va_up_ne _ _ (by omega)).trans ((va_up_ne _ _ (by omega)).trans ((va_up_ne _ _ (by omega)).trans ((va_up_ne _ _ (by omega)).trans (va_up_ne _ _ (by omega)))))
  have c0 : χ1 0 0 = nI (nS + 1) := by rw [k0 0 (by omega) (by omega)]; exact (congrArg (· + 1) a2).trans (nI_add nS 1)
  have c40 : χ1 40 = upd (χ 40) nS (nI t) := (k0 40 (by omega) (by omega)).trans rfl
  have c41 : χ1 41 = upd (χ 41) nS (nI a) := (k0 41 (by omega) (by omega)).trans rfl
  have c42 : χ1 42 = upd (χ 42) nS (nI b) := (k0 42 (by omega) (by omega)).trans rfl
  have c43 : χ1 43 = upd (χ 43) nS x4 := (k0 43 (by omega) (by omega)).trans rfl
  have c44 : χ1 44 = upd (χ 44) nS 0 := (k0 44 (by omega) (by omega)).trans rfl
  have d2 : σ1 2 0 = nI (nS + 1) := by rw [← hY]; exact (congrArg (· + 1) a3).trans (nI_add nS 1)
  have d3 : σ1 3 = upd (σ 3) nS (nI t) := by rw [← hY]; rfl
  have d4 : σ1 4 = upd (σ 4) nS (nI a) := by rw [← hY]; rfl
  have d5 : σ1 5 = upd (σ 5) nS (nI b) := by rw [← hY]; rfl
  have d6 : σ1 6 = upd (σ 6) nS x4 := by rw [← hY]; rfl
  have d7 : σ1 7 = σ 7 := k2 7 (by omega) (by omega)
  have un : ∀ (f : Nat → Int32) (x : Int32) (i : Nat), i < nS → upd f nS x i = f i := fun f x i hi => pk_un (by omega)
  refine r_drop (t := t) (L := 4) ⟨by omega, c0, d2, by rw [c40, d3, a4], by rw [c41, d4, a5], by rw [c42, d5, a6], by rw [c43, d6, a7], by rw [c44, d7, a8]; exact upd_id (a9 nS (by omega)), fun i hi => by rw [d7]; exact a9 i (by omega), fun i hi => ?_⟩ (rE_c hE (fun k hk => k1 k (by omega) (by omega) (by omega) (by omega)) (fun k hk hk2 => k2 k (by omega) (by omega))) ⟨?_, ?_, ?_, ?_⟩ ?_ ⟨?_, ?_, ?_, ?_, ?_, ?_⟩
  · rw [d3, d4, d5]
    by_cases hi2 : i = nS
    · subst hi2
      exact ⟨t, a, b, ht, ha, hb, pk_us, pk_us, pk_us⟩
    · rw [un _ _ i (by omega), un _ _ i (by omega), un _ _ i (by omega)]
      exact a10 i (by omega)
  · rw [k1 7 (by omega) (by omega) (by omega) (by omega), k2 15 (by omega) (by omega)]; exact hB.1
  · rw [k1 8 (by omega) (by omega) (by omega) (by omega), k2 17 (by omega) (by omega)]; exact hB.2.1
  · rw [k1 9 (by omega) (by omega) (by omega) (by omega), k2 16 (by omega) (by omega)]; exact hB.2.2.1
  · rw [k2 15 (by omega) (by omega)]; exact hB.2.2.2
  · intro t' ht'
    obtain ⟨q1, q2, q3⟩ := hN t' ht'
    have eS : ∀ e, e < 30 → sm_sumO σ1 (nI t') (nI e) (nS + 1) = sm_sumO σ (nI t') (nI e) nS + (if t = t' ∧ (e / 6 = 4 ∨ e / 6 = a) ∧ (e % 6 = 5 ∨ e % 6 = b) then x4 else 0) := fun e he => by
      show sm_sumO σ1 (nI t') (nI e) nS + (if sm_isS σ1 (nI t') (nI e) nS = 0 then 0 else σ1 6 nS) = _
      have e1 : sm_sumO σ1 (nI t') (nI e) nS = sm_sumO σ (nI t') (nI e) nS := sg_it_c (fun k hk s => by
        have : sm_isS σ1 (nI t') (nI e) k = sm_isS σ (nI t') (nI e) k := by
          unfold sm_isS
          rw [d3, d4, d5, d7, un _ _ k hk, un _ _ k hk, un _ _ k hk]
        rw [this, d6, un _ _ k hk])
      rw [e1, sm_isSV ht' ht ha hb he (by rw [d3]; exact pk_us) (by rw [d4]; exact pk_us) (by rw [d5]; exact pk_us), d6, pk_us, d7, a9 nS (by omega)]
      congr 1
      by_cases q : t = t' ∧ (e / 6 = 4 ∨ e / 6 = a) ∧ (e % 6 = 5 ∨ e % 6 = b)
      · rw [if_pos q, if_pos (show t = t' ∧ (0 : Int32) = 0 ∧ (e / 6 = 4 ∨ e / 6 = a) ∧ (e % 6 = 5 ∨ e % 6 = b) from ⟨q.1, rfl, q.2⟩), if_neg (by decide)]
      · rw [if_neg q, if_neg (show ¬ (t = t' ∧ (0 : Int32) = 0 ∧ (e / 6 = 4 ∨ e / 6 = a) ∧ (e % 6 = 5 ∨ e % 6 = b)) from fun z => q ⟨z.1, z.2.2⟩), if_pos rfl]
    have eR : sm_read σ1 (nI t') (nS + 1) = sm_read σ (nI t') nS + (if t = t' then 1 else 0) := by
      show sm_read σ1 (nI t') nS + sm_rd1 σ1 (nI t') nS = _
      have e1 : sm_read σ1 (nI t') nS = sm_read σ (nI t') nS := sg_it_c (fun k hk s => by
        have : sm_rd1 σ1 (nI t') k = sm_rd1 σ (nI t') k := by
          unfold sm_rd1
          rw [d3, d7, un _ _ k hk]
        rw [this])
      rw [e1]
      congr 1
      unfold sm_rd1
      rw [d3, d7, pk_us, a9 nS (by omega)]
      by_cases q : t = t'
      · rw [if_pos q, if_pos (by rw [q]), if_pos rfl]
      · rw [if_neg q, if_neg (fun z => q ((nI_eq (by omega) (by omega)).mp z))]
    have c6 : χ1 6 = upd (χ 6) t (χ 6 t + 1) := by rw [← hX]; rfl
    by_cases q : t' = t
    · subst q
      have c10 : χ1 (10 + t') = cx_enter (χ (10 + t')) a b x4 := by rw [← hX]; exact (va_up_ne _ _ (by omega)).trans (va_up_self _ _ _)
      refine ⟨fun e he => ?_, ?_, fun v hv hn => absurd ⟨rfl, hv⟩ hn⟩
      · rw [c10, cx_enterV _ ha hb _ he, eS e he, q1 e he]
        simp only [true_and]
      · rw [c6, pk_us, eR, if_pos rfl, q2]
    · have q' : ¬ t = t' := fun z => q z.symm
      have c10 : χ1 (10 + t') = χ (10 + t') := k1 _ (by omega) (by omega) (by omega) (by omega)
      refine ⟨fun e he => ?_, ?_, fun v hv hn hb2 => ?_⟩
      · rw [c10, eS e he, q1 e he, if_neg (fun z => q' z.1), Int32.add_zero]
      · rw [c6, pk_un q, eR, if_neg q', q2, Int32.add_zero]
      · rw [k1 (20 + (4 * t' + v)) (by omega) (by omega) (by omega) (by omega), k1 13 (by omega) (by omega) (by omega) (by omega), c10, c6, pk_un q]
        rw [k2 15 (by omega) (by omega)] at hb2
        exact q3 v hv hb2
  · rw [k1 2 (by omega) (by omega) (by omega) (by omega), k2 1 (by omega) (by omega)]; exact hO.1
  · rw [k2 1 (by omega) (by omega)]; exact hO.2.1
  · rw [k1 3 (by omega) (by omega) (by omega) (by omega), k2 18 (by omega) (by omega)]; exact hO.2.2.1
  · rw [k1 4 (by omega) (by omega) (by omega) (by omega), k2 19 (by omega) (by omega)]; exact hO.2.2.2.1
  · rw [k2 19 (by omega) (by omega)]; exact hO.2.2.2.2.1
  · rw [k1 5 (by omega) (by omega) (by omega) (by omega), k2 8 (by omega) (by omega)]; exact hO.2.2.2.2.2
