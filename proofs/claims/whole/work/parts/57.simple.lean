theorem sm_sumO_c {σ σ' : Nat → Nat → Int32} (h : ∀ k, 3 ≤ k → k ≤ 7 → σ' k = σ k) (x e : Int32) (n : Nat) : sm_sumO σ' x e n = sm_sumO σ x e n := by
  unfold sm_sumO sm_isS
  rw [h 3 (by decide) (by decide), h 4 (by decide) (by decide), h 5 (by decide) (by decide), h 6 (by decide) (by decide), h 7 (by decide) (by decide)]
theorem sm_read_c {σ σ' : Nat → Nat → Int32} (h : ∀ k, 3 ≤ k → k ≤ 7 → σ' k = σ k) (x : Int32) (n : Nat) : sm_read σ' x n = sm_read σ x n := by
  unfold sm_read sm_rd1
  rw [h 3 (by decide) (by decide), h 7 (by decide) (by decide)]
theorem rS_c {χ χ' σ σ' : Nat → Nat → Int32} {nS : Nat} (h : rS χ nS σ) (h1 : ∀ k, k = 0 ∨ (40 ≤ k ∧ k ≤ 44) → χ' k = χ k) (h2 : ∀ k, 2 ≤ k → k ≤ 7 → σ' k = σ k) : rS χ' nS σ' := by
  unfold rS at *
  rw [h1 0 (by omega), h1 40 (by omega), h1 41 (by omega), h1 42 (by omega), h1 43 (by omega), h1 44 (by omega), h2 2 (by decide) (by decide), h2 3 (by decide) (by decide), h2 4 (by decide) (by decide), h2 5 (by decide) (by decide), h2 6 (by decide) (by decide), h2 7 (by decide) (by decide)]
  exact h
theorem rE_c {χ χ' σ σ' : Nat → Nat → Int32} {nE : Nat} (h : rE χ nE σ) (h1 : ∀ k, k = 1 ∨ (45 ≤ k ∧ k ≤ 49) → χ' k = χ k) (h2 : ∀ k, 9 ≤ k → k ≤ 14 → σ' k = σ k) : rE χ' nE σ' := by
  unfold rE at *
  rw [h1 1 (by omega), h1 45 (by omega), h1 46 (by omega), h1 47 (by omega), h1 48 (by omega), h1 49 (by omega), h2 9 (by decide) (by decide), h2 10 (by decide) (by decide), h2 11 (by decide) (by decide), h2 12 (by decide) (by decide), h2 13 (by decide) (by decide), h2 14 (by decide) (by decide)]
  exact h
/-- numbers: fewer reports built -/
theorem rN_c {χ χ' σ σ' : Nat → Nat → Int32} {nS : Nat} (h : rN χ nS σ) (h1 : ∀ k, k = 6 ∨ k = 13 ∨ (10 ≤ k ∧ k ≤ 12) ∨ (20 ≤ k ∧ k ≤ 31) → χ' k = χ k) (h2 : ∀ k, 3 ≤ k → k ≤ 7 → σ' k = σ k) (h3 : ∀ j, ¬ σ' 15 j = 0 → ¬ σ 15 j = 0) : rN χ' nS σ' := by
  intro t ht
  obtain ⟨q1, q2, q3⟩ := h t ht
  rw [h1 (10 + t) (by omega), h1 6 (by omega), h1 13 (by omega), sm_read_c h2]
  refine ⟨fun e he => by rw [sm_sumO_c h2]; exact q1 e he, q2, fun v hv hb => ?_⟩
  rw [h1 (20 + (4 * t + v)) (by omega)]
  exact q3 v hv (h3 _ hb)
theorem cx_turn01 (x : Int32) : cx_turn x = 0 ∨ cx_turn x = 1 := by unfold cx_turn; by_cases h : cx_tab x = 0 <;> simp [h]
theorem cx_isB01 (x y : Int32) : cx_isB x y = 0 ∨ cx_isB x y = 1 := by unfold cx_isB; by_cases h : cx_rep x y = 0 <;> simp [h]
theorem cx_mark01 (x y : Int32) : cx_mark x y = 0 ∨ cx_mark x y = 1 := by unfold cx_mark; by_cases h : cx_eat x y = 0 <;> simp [h]
theorem r_ag2 : ql_ag2 RLr0 := by
  intro χ nS nE σ x1 h
  refine ⟨qa_px1 (cx_turn01 x1) (qc_turn x1), fun hc => ⟨(qc_turn x1).trans hc, ?_, ?_⟩, h⟩
  · rw [h.2.2.2.2.2.2.2.2.2]
  · obtain ⟨hS, hE, hB, hN, o1, o2, o3, o4, o5, o6⟩ := h
    refine ⟨hS, hE, hB, rN_c hN (fun k hk => va_up_ne _ _ (by omega)) (fun k hk hk2 => va_up_ne _ _ (by omega)) (fun j hj => hj), o1, o2, o3, o4, o5, ?_⟩
    rw [va_up_self, va_up_self, o6]
theorem r_ag10 : ql_ag10 RLr0 := by
  intro χ nS nE σ x1 x2 h
  refine ⟨qa_px1 (cx_isB01 x1 x2) (qc_isB x1 x2), fun hc => ⟨(qc_isB x1 x2).trans hc, ?_, h⟩, h⟩
  rw [h.2.2.1.1]
  unfold sm_b0 qx_ob
  rcases h.2.2.1.2.2.2 (sm_at x1 x2) with q | q <;> rw [q] <;> decide
theorem r_ag14 : ql_ag14 RLr0 := fun χ nS nE σ h => ⟨h.2.2.2.2.2.2.1, h⟩
theorem qb_xor (a b : Int32) (k : Nat) : qb (a ^^^ b) k = (qb a k ^^ qb b k) := by unfold qb; rw [Int32.toBitVec_xor, BitVec.getLsbD_xor]
theorem qb_or (a b : Int32) (k : Nat) : qb (a ||| b) k = (qb a k || qb b k) := by unfold qb; rw [Int32.toBitVec_or, BitVec.getLsbD_or]
theorem qb_and (a b : Int32) (k : Nat) : qb (a &&& b) k = (qb a k && qb b k) := by unfold qb; rw [Int32.toBitVec_and, BitVec.getLsbD_and]
theorem qb_one {e : Nat} (he : e < 32) (k : Nat) : qb (1 <<< (nI e &&& 31)) k = decide (k = e) := by
  unfold qb
  rw [qb_sh ⟨e, he⟩, BitVec.getLsbD_twoPow]
  by_cases h : e = k
  · subst h; simp [he]
  · have h2 : ¬ k = e := fun q => h q.symm
    simp [h, h2]
theorem qb_hi (a : Int32) {k : Nat} (h : 32 ≤ k) : qb a k = false := BitVec.getLsbD_of_ge _ _ h
theorem qb_zero (k : Nat) : qb 0 k = false := by show (0#32).getLsbD k = false; simp
theorem qb_ext {a b : Int32} (h : ∀ k, k < 32 → qb a k = qb b k) : a = b := Int32.toBitVec_inj.mp (BitVec.eq_of_getLsbD_eq h)
theorem r_eat {x y : Int32} (h : cx_eat x y = 0) : ∃ e, e < 30 ∧ x * 6 + y = nI e := by
  rw [qc_eat] at h
  by_cases hE : sm_isE x y = 0
  · rw [if_pos hE] at h; exact absurd h (by decide)
  · obtain ⟨⟨a, ha, rfl⟩, ⟨b, hb, rfl⟩⟩ := sm_isE_ok hE
    exact ⟨a * 6 + b, by omega, sg_rc rfl rfl⟩
theorem qb_b1 {s : Int32} {e : Nat} (he : e < 30) : sg_has s (nI e) = sm_b1 (sm_bit s (nI e)) := by
  rw [qb_hb (by omega), qb_bit (by omega)]
  unfold sm_b1
  by_cases h : qb s e = true <;> simp [h]
theorem cx_mark_0 {x y : Int32} (h : cx_mark x y = 0) : cx_eat x y = 0 := by
  unfold cx_mark at h
  by_cases q : cx_eat x y = 0
  · exact q
  · rw [if_neg q] at h; exact absurd h (by decide)
theorem r_ag15 : ql_ag15 RLr0 := by
  intro χ nS nE σ x1 x2 h
  refine ⟨qa_px1 (cx_mark01 x1 x2) (qc_mark x1 x2), fun hc => ⟨(qc_mark x1 x2).trans hc, ?_⟩, h⟩
  obtain ⟨hS, hE, hB, hN, o1, o2, o3, o4, o5, o6⟩ := h
  obtain ⟨e, he, hx⟩ := r_eat (cx_mark_0 hc)
  have hm : cx_mk χ x1 x2 = sm_mk σ x1 x2 := by unfold cx_mk sm_mk; rw [o4, qc_ix]
  refine ⟨?_, hS, hE, hB, rN_c hN (fun k hk => va_up_ne _ _ (by omega)) (fun k hk hk2 => va_up_ne _ _ (by omega)) (fun j hj => hj), o1, o2, o3, ?_, ?_, o6⟩
  · rw [hm, ← qc_ix, hx, qb_b1 he]
  · exact hm
  · intro k hk
    show qb (sm_mk σ x1 x2) k = false
    unfold sm_mk
    rw [← qc_ix, hx, qb_xor, qb_one (by omega), o5 k hk]
    simp; omega
theorem cx_sum01 (χ : Nat → Nat → Int32) (x y z : Int32) : cx_sum χ x y z = 0 ∨ cx_sum χ x y z = 1 := by unfold cx_sum; by_cases h : cx_ent χ x y z = 0 <;> simp [h]
theorem qc_sum {χ σ : Nat → Nat → Int32} (h : χ 5 = σ 8) (x y z : Int32) : sm_cent σ x y z = cx_sum χ x y z := by
  unfold sm_cent cx_sum
  rw [(r_entv h x y z).1]
  by_cases q : sm_ent σ x y z = -1 <;> simp [q]
theorem cx_sum_0 {χ : Nat → Nat → Int32} {x y z : Int32} (h : cx_sum χ x y z = 0) : cx_ent χ x y z = 0 := by
  unfold cx_sum at h
  by_cases q : cx_ent χ x y z = 0
  · exact q
  · rw [if_neg q] at h; exact absurd h (by decide)
theorem r_ag3 : ql_ag3 RLr0 := by
  intro χ nS nE σ x1 x2 x3 h
  have o6 : χ 5 = σ 8 := h.2.2.2.2.2.2.2.2.2
  refine ⟨qa_px1 (cx_sum01 χ x1 x2 x3) (qc_sum o6 x1 x2 x3), fun hc => ⟨(qc_sum o6 x1 x2 x3).trans hc, ?_, h⟩, h⟩
  obtain ⟨he, t, e, ht, he2, hx, hxn, hs⟩ := (r_entv o6 x1 x2 x3).2 (cx_sum_0 hc)
  rw [he, hs, hxn, nI_clamp (by omega), (h.2.2.2.1 t ht).1 e he2, hx]
theorem qc_cnt {χ σ : Nat → Nat → Int32} {nS : Nat} (h : rS χ nS σ) (x e : Int32) (k : Nat) (s : Int32) : cx_sstep χ x e k s = s + (if sm_isS σ x e k = 0 then 0 else σ 6 k) := by
  obtain ⟨a1, a2, a3, a4, a5, a6, a7, a8, a9, a10⟩ := h
  unfold cx_sstep sm_isS cx_counts
  rw [a4, a5, a6, a7, a8]
  generalize e - e / 6 * 6 = q
  generalize e / 6 = r
  simp only [@eq_comm _ q (σ 5 k), @eq_comm _ r (σ 4 k)]
  by_cases h1 : σ 3 k = x
  · by_cases h2 : σ 7 k = 0
    · by_cases h3 : r = 4 <;> by_cases h4 : q = 5 <;> by_cases h5 : σ 5 k = q <;> by_cases h6 : σ 4 k = r <;> simp only [h1, h2, h3, h4, h5, h6, if_true, if_false, Int32.add_zero, reduceCtorEq] <;> first | rfl | simp
    · simp [h1, h2]
  · simp [h1]
theorem sg_it_c {α : Type} {f g : Nat → α → α} {x : α} {n : Nat} (h : ∀ k, k < n → ∀ s, f k s = g k s) : sg_it f x n = sg_it g x n := by
  induction n with
  | zero => rfl
  | succ n ih => show f n (sg_it f x n) = g n (sg_it g x n); rw [ih (fun k hk => h k (by omega)), h n (by omega)]
theorem qc_sfs {χ σ : Nat → Nat → Int32} {nS : Nat} (h : rS χ nS σ) (x e : Int32) (n : Nat) : cx_sfs χ x e n = sm_sumO σ x e n := sg_it_c (fun k _ s => qc_cnt h x e k s)
theorem r_ag4 : ql_ag4 RLr0 := by
  intro χ nS nE σ x1 x2 x3 h
  have o6 : χ 5 = σ 8 := h.2.2.2.2.2.2.2.2.2
  refine ⟨qa_px1 (cx_sum01 χ x1 x2 x3) (qc_sum o6 x1 x2 x3), fun hc => ⟨(qc_sum o6 x1 x2 x3).trans hc, ?_, h⟩, h⟩
  obtain ⟨he, t, e, ht, he2, hx, hxn, hs⟩ := (r_entv o6 x1 x2 x3).2 (cx_sum_0 hc)
  rw [he, qc_sfs h.1]
