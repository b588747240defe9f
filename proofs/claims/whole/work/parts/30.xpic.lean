/-! the class: its fields, rows and objects hold χ -/
def qx_P (D : va_G) (χ : Nat → Nat → Int32) (nS nE : Nat) (ad : Nat → Nat) (g : qw_G) : Prop :=
  (g 0 = some (.inr (5, [.ref (ad 1), .ref (ad 2), .ref (ad 3), .ref (ad 4), .int (χ 0 0), .int (χ 1 0), .int (χ 2 0), .int (χ 3 0), .int (χ 4 0)]))) ∧
  (g 1 = some (.inl (D.1 23, 3, .inr (.inr (.inr (.inr (fun i => if i < 3 then some (ad (10 + i)) else none))))))) ∧
  (g 2 = some (.inl (D.1 24, 120, .inr (.inr (.inr (.inr (fun i => if i < nS then some (ad (1000 + i)) else none))))))) ∧
  (g 3 = some (.inl (D.1 25, 40, .inr (.inr (.inr (.inr (fun i => if i < nE then some (ad (2000 + i)) else none))))))) ∧
  (g 4 = some (.inr (1, [.ref (ad 5)]))) ∧
  (g 5 = some (.inl (D.1 27, 11, .inr (.inr (.inr (.inr (fun i => if i < 11 then some (ad (60 + i)) else none))))))) ∧
  (∀ i, i < 3 → g (10 + i) = some (.inr (4, [.ref (ad (13 + i)), .ref (ad (16 + i)), .int (χ 5 i), .int (χ 6 i)]))) ∧
  (∀ i, i < 3 → g (13 + i) = some (.inl (D.1 20, 30, .inl (χ (10 + i))))) ∧
  (∀ i, i < 3 → g (16 + i) = some (.inl (D.1 26, 4, .inr (.inr (.inr (.inr (fun v => if v < 4 then some (ad (20 + (4 * i + v))) else none))))))) ∧
  (∀ i, i < 12 → g (20 + i) = some (.inr (2, [.ref (ad (40 + i)), .int (χ 7 i), .int (χ 8 i), .int (χ 9 i), .int (χ 13 i)]))) ∧
  (∀ i, i < 12 → g (40 + i) = some (.inl (D.1 20, 30, .inl (χ (20 + i))))) ∧
  (∀ i, i < 11 → g (60 + i) = some (.inl (D.1 20, 30, .inl (χ (60 + i))))) ∧
  (∀ i, i < nS → g (1000 + i) = some (.inr (3, [.int (χ 40 i), .int (χ 41 i), .int (χ 42 i), .int (χ 43 i), .int (χ 44 i)]))) ∧
  (∀ i, i < nE → g (2000 + i) = some (.inr (0, [.int (χ 45 i), .int (χ 46 i), .int (χ 47 i), .int (χ 48 i), .int (χ 49 i)]))) ∧
  ((∀ i, nS ≤ i → i < 120 → g (1000 + i) = none) ∧ (∀ i, nE ≤ i → i < 40 → g (2000 + i) = none)) ∧
  (χ 0 0 = nI nS ∧ χ 1 0 = nI nE ∧ nS ≤ 120 ∧ nE ≤ 40)
theorem qx_x {D : va_G} {χ : Nat → Nat → Int32} {nS nE : Nat} {ad : Nat → Nat} {g : qw_G} (h : qx_P D χ nS nE ad g) : g 0 = some (.inr (5, [.ref (ad 1), .ref (ad 2), .ref (ad 3), .ref (ad 4), .int (χ 0 0), .int (χ 1 0), .int (χ 2 0), .int (χ 3 0), .int (χ 4 0)])) := h.1
theorem qx_ta {D : va_G} {χ : Nat → Nat → Int32} {nS nE : Nat} {ad : Nat → Nat} {g : qw_G} (h : qx_P D χ nS nE ad g) : g 1 = some (.inl (D.1 23, 3, .inr (.inr (.inr (.inr (fun i => if i < 3 then some (ad (10 + i)) else none)))))) := h.2.1
theorem qx_sa {D : va_G} {χ : Nat → Nat → Int32} {nS nE : Nat} {ad : Nat → Nat} {g : qw_G} (h : qx_P D χ nS nE ad g) : g 2 = some (.inl (D.1 24, 120, .inr (.inr (.inr (.inr (fun i => if i < nS then some (ad (1000 + i)) else none)))))) := h.2.2.1
theorem qx_ea {D : va_G} {χ : Nat → Nat → Int32} {nS nE : Nat} {ad : Nat → Nat} {g : qw_G} (h : qx_P D χ nS nE ad g) : g 3 = some (.inl (D.1 25, 40, .inr (.inr (.inr (.inr (fun i => if i < nE then some (ad (2000 + i)) else none)))))) := h.2.2.2.1
theorem qx_eq {D : va_G} {χ : Nat → Nat → Int32} {nS nE : Nat} {ad : Nat → Nat} {g : qw_G} (h : qx_P D χ nS nE ad g) : g 4 = some (.inr (1, [.ref (ad 5)])) := h.2.2.2.2.1
theorem qx_fa {D : va_G} {χ : Nat → Nat → Int32} {nS nE : Nat} {ad : Nat → Nat} {g : qw_G} (h : qx_P D χ nS nE ad g) : g 5 = some (.inl (D.1 27, 11, .inr (.inr (.inr (.inr (fun i => if i < 11 then some (ad (60 + i)) else none)))))) := h.2.2.2.2.2.1
theorem qx_tb {D : va_G} {χ : Nat → Nat → Int32} {nS nE : Nat} {ad : Nat → Nat} {g : qw_G} (h : qx_P D χ nS nE ad g) : ∀ i, i < 3 → g (10 + i) = some (.inr (4, [.ref (ad (13 + i)), .ref (ad (16 + i)), .int (χ 5 i), .int (χ 6 i)])) := h.2.2.2.2.2.2.1
theorem qx_su {D : va_G} {χ : Nat → Nat → Int32} {nS nE : Nat} {ad : Nat → Nat} {g : qw_G} (h : qx_P D χ nS nE ad g) : ∀ i, i < 3 → g (13 + i) = some (.inl (D.1 20, 30, .inl (χ (10 + i)))) := h.2.2.2.2.2.2.2.1
theorem qx_ra {D : va_G} {χ : Nat → Nat → Int32} {nS nE : Nat} {ad : Nat → Nat} {g : qw_G} (h : qx_P D χ nS nE ad g) : ∀ i, i < 3 → g (16 + i) = some (.inl (D.1 26, 4, .inr (.inr (.inr (.inr (fun v => if v < 4 then some (ad (20 + (4 * i + v))) else none)))))) := h.2.2.2.2.2.2.2.2.1
theorem qx_rp {D : va_G} {χ : Nat → Nat → Int32} {nS nE : Nat} {ad : Nat → Nat} {g : qw_G} (h : qx_P D χ nS nE ad g) : ∀ i, i < 12 → g (20 + i) = some (.inr (2, [.ref (ad (40 + i)), .int (χ 7 i), .int (χ 8 i), .int (χ 9 i), .int (χ 13 i)])) := h.2.2.2.2.2.2.2.2.2.1
theorem qx_nu {D : va_G} {χ : Nat → Nat → Int32} {nS nE : Nat} {ad : Nat → Nat} {g : qw_G} (h : qx_P D χ nS nE ad g) : ∀ i, i < 12 → g (40 + i) = some (.inl (D.1 20, 30, .inl (χ (20 + i)))) := h.2.2.2.2.2.2.2.2.2.2.1
theorem qx_fr {D : va_G} {χ : Nat → Nat → Int32} {nS nE : Nat} {ad : Nat → Nat} {g : qw_G} (h : qx_P D χ nS nE ad g) : ∀ i, i < 11 → g (60 + i) = some (.inl (D.1 20, 30, .inl (χ (60 + i)))) := h.2.2.2.2.2.2.2.2.2.2.2.1
theorem qx_sl {D : va_G} {χ : Nat → Nat → Int32} {nS nE : Nat} {ad : Nat → Nat} {g : qw_G} (h : qx_P D χ nS nE ad g) : ∀ i, i < nS → g (1000 + i) = some (.inr (3, [.int (χ 40 i), .int (χ 41 i), .int (χ 42 i), .int (χ 43 i), .int (χ 44 i)])) := h.2.2.2.2.2.2.2.2.2.2.2.2.1
theorem qx_em {D : va_G} {χ : Nat → Nat → Int32} {nS nE : Nat} {ad : Nat → Nat} {g : qw_G} (h : qx_P D χ nS nE ad g) : ∀ i, i < nE → g (2000 + i) = some (.inr (0, [.int (χ 45 i), .int (χ 46 i), .int (χ 47 i), .int (χ 48 i), .int (χ 49 i)])) := h.2.2.2.2.2.2.2.2.2.2.2.2.2.1
theorem qx_no {D : va_G} {χ : Nat → Nat → Int32} {nS nE : Nat} {ad : Nat → Nat} {g : qw_G} (h : qx_P D χ nS nE ad g) : (∀ i, nS ≤ i → i < 120 → g (1000 + i) = none) ∧ (∀ i, nE ≤ i → i < 40 → g (2000 + i) = none) := h.2.2.2.2.2.2.2.2.2.2.2.2.2.2.1
theorem qx_ct {D : va_G} {χ : Nat → Nat → Int32} {nS nE : Nat} {ad : Nat → Nat} {g : qw_G} (h : qx_P D χ nS nE ad g) : χ 0 0 = nI nS ∧ χ 1 0 = nI nE ∧ nS ≤ 120 ∧ nE ≤ 40 := h.2.2.2.2.2.2.2.2.2.2.2.2.2.2.2
theorem qx_w_now {D : va_G} {χ : Nat → Nat → Int32} {nS nE : Nat} {ad : Nat → Nat} {g : qw_G} (h : qx_P D χ nS nE ad g) (v : Int32) : qx_P D (sg_u χ 2 v) nS nE ad (va_up g (0) (some (.inr (5, [.ref (ad 1), .ref (ad 2), .ref (ad 3), .ref (ad 4), .int (χ 0 0), .int (χ 1 0), .int v, .int (χ 3 0), .int (χ 4 0)])))) := by
  show qx_P D (va_up χ 2 (fun _ => v)) nS nE ad _
  have hb := (qx_ct h).2.2
  refine ⟨?_, ?_, ?_, ?_, ?_, ?_, ?_, ?_, ?_, ?_, ?_, ?_, ?_, ?_, ?_, ?_⟩
  · exact va_up_self _ _ _
  · exact (va_up_ne _ _ (by omega)).trans (qx_ta h)
  · exact (va_up_ne _ _ (by omega)).trans (qx_sa h)
  · exact (va_up_ne _ _ (by omega)).trans (qx_ea h)
  · exact (va_up_ne _ _ (by omega)).trans (qx_eq h)
  · exact (va_up_ne _ _ (by omega)).trans (qx_fa h)
  · intro i hi
    rw [va_up_ne χ (k := 2) _ (show (5 : Nat) ≠ 2 by omega), va_up_ne χ (k := 2) _ (show (6 : Nat) ≠ 2 by omega)]
    exact (va_up_ne _ _ (by omega)).trans (qx_tb h i hi)
  · intro i hi
    rw [va_up_ne χ (k := 2) _ (show 10 + i ≠ 2 by omega)]
    exact (va_up_ne _ _ (by omega)).trans (qx_su h i hi)
  · intro i hi
    exact (va_up_ne _ _ (by omega)).trans (qx_ra h i hi)
  · intro i hi
    rw [va_up_ne χ (k := 2) _ (show (7 : Nat) ≠ 2 by omega), va_up_ne χ (k := 2) _ (show (8 : Nat) ≠ 2 by omega), va_up_ne χ (k := 2) _ (show (9 : Nat) ≠ 2 by omega), va_up_ne χ (k := 2) _ (show (13 : Nat) ≠ 2 by omega)]
    exact (va_up_ne _ _ (by omega)).trans (qx_rp h i hi)
  · intro i hi
    rw [va_up_ne χ (k := 2) _ (show 20 + i ≠ 2 by omega)]
    exact (va_up_ne _ _ (by omega)).trans (qx_nu h i hi)
  · intro i hi
    rw [va_up_ne χ (k := 2) _ (show 60 + i ≠ 2 by omega)]
    exact (va_up_ne _ _ (by omega)).trans (qx_fr h i hi)
  · intro i hi
    rw [va_up_ne χ (k := 2) _ (show (40 : Nat) ≠ 2 by omega), va_up_ne χ (k := 2) _ (show (41 : Nat) ≠ 2 by omega), va_up_ne χ (k := 2) _ (show (42 : Nat) ≠ 2 by omega), va_up_ne χ (k := 2) _ (show (43 : Nat) ≠ 2 by omega), va_up_ne χ (k := 2) _ (show (44 : Nat) ≠ 2 by omega)]
    exact (va_up_ne _ _ (by omega)).trans (qx_sl h i hi)
  · intro i hi
    rw [va_up_ne χ (k := 2) _ (show (45 : Nat) ≠ 2 by omega), va_up_ne χ (k := 2) _ (show (46 : Nat) ≠ 2 by omega), va_up_ne χ (k := 2) _ (show (47 : Nat) ≠ 2 by omega), va_up_ne χ (k := 2) _ (show (48 : Nat) ≠ 2 by omega), va_up_ne χ (k := 2) _ (show (49 : Nat) ≠ 2 by omega)]
    exact (va_up_ne _ _ (by omega)).trans (qx_em h i hi)
  · exact ⟨fun i h1 h2 => by rw [va_up_ne _ _ (by omega)]; exact (qx_no h).1 i h1 h2, fun i h1 h2 => by rw [va_up_ne _ _ (by omega)]; exact (qx_no h).2 i h1 h2⟩
  · rw [va_up_ne χ (k := 2) _ (show (0 : Nat) ≠ 2 by omega), va_up_ne χ (k := 2) _ (show (1 : Nat) ≠ 2 by omega)]
    exact qx_ct h
theorem qx_w_drp {D : va_G} {χ : Nat → Nat → Int32} {nS nE : Nat} {ad : Nat → Nat} {g : qw_G} (h : qx_P D χ nS nE ad g) (v : Int32) : qx_P D (sg_u χ 3 v) nS nE ad (va_up g (0) (some (.inr (5, [.ref (ad 1), .ref (ad 2), .ref (ad 3), .ref (ad 4), .int (χ 0 0), .int (χ 1 0), .int (χ 2 0), .int v, .int (χ 4 0)])))) := by
  show qx_P D (va_up χ 3 (fun _ => v)) nS nE ad _
  have hb := (qx_ct h).2.2
  refine ⟨?_, ?_, ?_, ?_, ?_, ?_, ?_, ?_, ?_, ?_, ?_, ?_, ?_, ?_, ?_, ?_⟩
  · exact va_up_self _ _ _
  · exact (va_up_ne _ _ (by omega)).trans (qx_ta h)
  · exact (va_up_ne _ _ (by omega)).trans (qx_sa h)
  · exact (va_up_ne _ _ (by omega)).trans (qx_ea h)
  · exact (va_up_ne _ _ (by omega)).trans (qx_eq h)
  · exact (va_up_ne _ _ (by omega)).trans (qx_fa h)
  · intro i hi
    rw [va_up_ne χ (k := 3) _ (show (5 : Nat) ≠ 3 by omega), va_up_ne χ (k := 3) _ (show (6 : Nat) ≠ 3 by omega)]
    exact (va_up_ne _ _ (by omega)).trans (qx_tb h i hi)
  · intro i hi
    rw [va_up_ne χ (k := 3) _ (show 10 + i ≠ 3 by omega)]
    exact (va_up_ne _ _ (by omega)).trans (qx_su h i hi)
  · intro i hi
    exact (va_up_ne _ _ (by omega)).trans (qx_ra h i hi)
  · intro i hi
    rw [va_up_ne χ (k := 3) _ (show (7 : Nat) ≠ 3 by omega), va_up_ne χ (k := 3) _ (show (8 : Nat) ≠ 3 by omega), va_up_ne χ (k := 3) _ (show (9 : Nat) ≠ 3 by omega), va_up_ne χ (k := 3) _ (show (13 : Nat) ≠ 3 by omega)]
    exact (va_up_ne _ _ (by omega)).trans (qx_rp h i hi)
  · intro i hi
    rw [va_up_ne χ (k := 3) _ (show 20 + i ≠ 3 by omega)]
    exact (va_up_ne _ _ (by omega)).trans (qx_nu h i hi)
  · intro i hi
    rw [va_up_ne χ (k := 3) _ (show 60 + i ≠ 3 by omega)]
    exact (va_up_ne _ _ (by omega)).trans (qx_fr h i hi)
  · intro i hi
    rw [va_up_ne χ (k := 3) _ (show (40 : Nat) ≠ 3 by omega), va_up_ne χ (k := 3) _ (show (41 : Nat) ≠ 3 by omega), va_up_ne χ (k := 3) _ (show (42 : Nat) ≠ 3 by omega), va_up_ne χ (k := 3) _ (show (43 : Nat) ≠ 3 by omega), va_up_ne χ (k := 3) _ (show (44 : Nat) ≠ 3 by omega)]
    exact (va_up_ne _ _ (by omega)).trans (qx_sl h i hi)
  · intro i hi
    rw [va_up_ne χ (k := 3) _ (show (45 : Nat) ≠ 3 by omega), va_up_ne χ (k := 3) _ (show (46 : Nat) ≠ 3 by omega), va_up_ne χ (k := 3) _ (show (47 : Nat) ≠ 3 by omega), va_up_ne χ (k := 3) _ (show (48 : Nat) ≠ 3 by omega), va_up_ne χ (k := 3) _ (show (49 : Nat) ≠ 3 by omega)]
    exact (va_up_ne _ _ (by omega)).trans (qx_em h i hi)
  · exact ⟨fun i h1 h2 => by rw [va_up_ne _ _ (by omega)]; exact (qx_no h).1 i h1 h2, fun i h1 h2 => by rw [va_up_ne _ _ (by omega)]; exact (qx_no h).2 i h1 h2⟩
  · rw [va_up_ne χ (k := 3) _ (show (0 : Nat) ≠ 3 by omega), va_up_ne χ (k := 3) _ (show (1 : Nat) ≠ 3 by omega)]
    exact qx_ct h
theorem qx_w_mrk {D : va_G} {χ : Nat → Nat → Int32} {nS nE : Nat} {ad : Nat → Nat} {g : qw_G} (h : qx_P D χ nS nE ad g) (v : Int32) : qx_P D (sg_u χ 4 v) nS nE ad (va_up g (0) (some (.inr (5, [.ref (ad 1), .ref (ad 2), .ref (ad 3), .ref (ad 4), .int (χ 0 0), .int (χ 1 0), .int (χ 2 0), .int (χ 3 0), .int v])))) := by
  show qx_P D (va_up χ 4 (fun _ => v)) nS nE ad _
  have hb := (qx_ct h).2.2
  refine ⟨?_, ?_, ?_, ?_, ?_, ?_, ?_, ?_, ?_, ?_, ?_, ?_, ?_, ?_, ?_, ?_⟩
  · exact va_up_self _ _ _
  · exact (va_up_ne _ _ (by omega)).trans (qx_ta h)
  · exact (va_up_ne _ _ (by omega)).trans (qx_sa h)
  · exact (va_up_ne _ _ (by omega)).trans (qx_ea h)
  · exact (va_up_ne _ _ (by omega)).trans (qx_eq h)
  · exact (va_up_ne _ _ (by omega)).trans (qx_fa h)
  · intro i hi
    rw [va_up_ne χ (k := 4) _ (show (5 : Nat) ≠ 4 by omega), va_up_ne χ (k := 4) _ (show (6 : Nat) ≠ 4 by omega)]
    exact (va_up_ne _ _ (by omega)).trans (qx_tb h i hi)
  · intro i hi
    rw [va_up_ne χ (k := 4) _ (show 10 + i ≠ 4 by omega)]
    exact (va_up_ne _ _ (by omega)).trans (qx_su h i hi)
  · intro i hi
    exact (va_up_ne _ _ (by omega)).trans (qx_ra h i hi)
  · intro i hi
    rw [va_up_ne χ (k := 4) _ (show (7 : Nat) ≠ 4 by omega), va_up_ne χ (k := 4) _ (show (8 : Nat) ≠ 4 by omega), va_up_ne χ (k := 4) _ (show (9 : Nat) ≠ 4 by omega), va_up_ne χ (k := 4) _ (show (13 : Nat) ≠ 4 by omega)]
    exact (va_up_ne _ _ (by omega)).trans (qx_rp h i hi)
  · intro i hi
    rw [va_up_ne χ (k := 4) _ (show 20 + i ≠ 4 by omega)]
    exact (va_up_ne _ _ (by omega)).trans (qx_nu h i hi)
  · intro i hi
    rw [va_up_ne χ (k := 4) _ (show 60 + i ≠ 4 by omega)]
    exact (va_up_ne _ _ (by omega)).trans (qx_fr h i hi)
  · intro i hi
    rw [va_up_ne χ (k := 4) _ (show (40 : Nat) ≠ 4 by omega), va_up_ne χ (k := 4) _ (show (41 : Nat) ≠ 4 by omega), va_up_ne χ (k := 4) _ (show (42 : Nat) ≠ 4 by omega), va_up_ne χ (k := 4) _ (show (43 : Nat) ≠ 4 by omega), va_up_ne χ (k := 4) _ (show (44 : Nat) ≠ 4 by omega)]
    exact (va_up_ne _ _ (by omega)).trans (qx_sl h i hi)
  · intro i hi
    rw [va_up_ne χ (k := 4) _ (show (45 : Nat) ≠ 4 by omega), va_up_ne χ (k := 4) _ (show (46 : Nat) ≠ 4 by omega), va_up_ne χ (k := 4) _ (show (47 : Nat) ≠ 4 by omega), va_up_ne χ (k := 4) _ (show (48 : Nat) ≠ 4 by omega), va_up_ne χ (k := 4) _ (show (49 : Nat) ≠ 4 by omega)]
    exact (va_up_ne _ _ (by omega)).trans (qx_em h i hi)
  · exact ⟨fun i h1 h2 => by rw [va_up_ne _ _ (by omega)]; exact (qx_no h).1 i h1 h2, fun i h1 h2 => by rw [va_up_ne _ _ (by omega)]; exact (qx_no h).2 i h1 h2⟩
  · rw [va_up_ne χ (k := 4) _ (show (0 : Nat) ≠ 4 by omega), va_up_ne χ (k := 4) _ (show (1 : Nat) ≠ 4 by omega)]
    exact qx_ct h
theorem qx_w_turn {D : va_G} {χ : Nat → Nat → Int32} {nS nE : Nat} {ad : Nat → Nat} {g : qw_G} (h : qx_P D χ nS nE ad g) (a : Nat) (ha : a < 3) (v : Int32) : qx_P D (va_up χ 5 (upd (χ 5) a v)) nS nE ad (va_up g (10 + a) (some (.inr (4, [.ref (ad (13 + a)), .ref (ad (16 + a)), .int v, .int (χ 6 a)])))) := by
  have hb := (qx_ct h).2.2
  refine ⟨?_, ?_, ?_, ?_, ?_, ?_, ?_, ?_, ?_, ?_, ?_, ?_, ?_, ?_, ?_, ?_⟩
  · rw [va_up_ne χ (k := 5) _ (show (0 : Nat) ≠ 5 by omega), va_up_ne χ (k := 5) _ (show (1 : Nat) ≠ 5 by omega), va_up_ne χ (k := 5) _ (show (2 : Nat) ≠ 5 by omega), va_up_ne χ (k := 5) _ (show (3 : Nat) ≠ 5 by omega), va_up_ne χ (k := 5) _ (show (4 : Nat) ≠ 5 by omega)]
    exact (va_up_ne _ _ (by omega)).trans (qx_x h)
  · exact (va_up_ne _ _ (by omega)).trans (qx_ta h)
  · exact (va_up_ne _ _ (by omega)).trans (qx_sa h)
  · exact (va_up_ne _ _ (by omega)).trans (qx_ea h)
  · exact (va_up_ne _ _ (by omega)).trans (qx_eq h)
  · exact (va_up_ne _ _ (by omega)).trans (qx_fa h)
  · intro i hi
    by_cases e : i = a
    · subst e
      refine (va_up_self _ _ _).trans ?_
      show _ = some (_)
      rw [show (va_up χ 5 (upd (χ 5) i v)) 5 i = v from pk_us]
      rfl
    · refine (va_up_ne _ _ (by omega)).trans ((qx_tb h i hi).trans ?_)
      show _ = some (_)
      rw [show (va_up χ 5 (upd (χ 5) a v)) 5 i = χ 5 i from pk_un e]
      rfl
  · intro i hi
    rw [va_up_ne χ (k := 5) _ (show 10 + i ≠ 5 by omega)]
    exact (va_up_ne _ _ (by omega)).trans (qx_su h i hi)
  · intro i hi
    exact (va_up_ne _ _ (by omega)).trans (qx_ra h i hi)
  · intro i hi
    rw [va_up_ne χ (k := 5) _ (show (7 : Nat) ≠ 5 by omega), va_up_ne χ (k := 5) _ (show (8 : Nat) ≠ 5 by omega), va_up_ne χ (k := 5) _ (show (9 : Nat) ≠ 5 by omega), va_up_ne χ (k := 5) _ (show (13 : Nat) ≠ 5 by omega)]
    exact (va_up_ne _ _ (by omega)).trans (qx_rp h i hi)
  · intro i hi
    rw [va_up_ne χ (k := 5) _ (show 20 + i ≠ 5 by omega)]
    exact (va_up_ne _ _ (by omega)).trans (qx_nu h i hi)
  · intro i hi
    rw [va_up_ne χ (k := 5) _ (show 60 + i ≠ 5 by omega)]
    exact (va_up_ne _ _ (by omega)).trans (qx_fr h i hi)
  · intro i hi
    rw [va_up_ne χ (k := 5) _ (show (40 : Nat) ≠ 5 by omega), va_up_ne χ (k := 5) _ (show (41 : Nat) ≠ 5 by omega), va_up_ne χ (k := 5) _ (show (42 : Nat) ≠ 5 by omega), va_up_ne χ (k := 5) _ (show (43 : Nat) ≠ 5 by omega), va_up_ne χ (k := 5) _ (show (44 : Nat) ≠ 5 by omega)]
    exact (va_up_ne _ _ (by omega)).trans (qx_sl h i hi)
  · intro i hi
    rw [va_up_ne χ (k := 5) _ (show (45 : Nat) ≠ 5 by omega), va_up_ne χ (k := 5) _ (show (46 : Nat) ≠ 5 by omega), va_up_ne χ (k := 5) _ (show (47 : Nat) ≠ 5 by omega), va_up_ne χ (k := 5) _ (show (48 : Nat) ≠ 5 by omega), va_up_ne χ (k := 5) _ (show (49 : Nat) ≠ 5 by omega)]
    exact (va_up_ne _ _ (by omega)).trans (qx_em h i hi)
  · exact ⟨fun i h1 h2 => by rw [va_up_ne _ _ (by omega)]; exact (qx_no h).1 i h1 h2, fun i h1 h2 => by rw [va_up_ne _ _ (by omega)]; exact (qx_no h).2 i h1 h2⟩
  · rw [va_up_ne χ (k := 5) _ (show (0 : Nat) ≠ 5 by omega), va_up_ne χ (k := 5) _ (show (1 : Nat) ≠ 5 by omega)]
    exact qx_ct h
theorem qx_w_stand {D : va_G} {χ : Nat → Nat → Int32} {nS nE : Nat} {ad : Nat → Nat} {g : qw_G} (h : qx_P D χ nS nE ad g) (a : Nat) (ha : a < 3) (v : Int32) : qx_P D (va_up χ 6 (upd (χ 6) a v)) nS nE ad (va_up g (10 + a) (some (.inr (4, [.ref (ad (13 + a)), .ref (ad (16 + a)), .int (χ 5 a), .int v])))) := by
  have hb := (qx_ct h).2.2
  refine ⟨?_, ?_, ?_, ?_, ?_, ?_, ?_, ?_, ?_, ?_, ?_, ?_, ?_, ?_, ?_, ?_⟩
  · rw [va_up_ne χ (k := 6) _ (show (0 : Nat) ≠ 6 by omega), va_up_ne χ (k := 6) _ (show (1 : Nat) ≠ 6 by omega), va_up_ne χ (k := 6) _ (show (2 : Nat) ≠ 6 by omega), va_up_ne χ (k := 6) _ (show (3 : Nat) ≠ 6 by omega), va_up_ne χ (k := 6) _ (show (4 : Nat) ≠ 6 by omega)]
    exact (va_up_ne _ _ (by omega)).trans (qx_x h)
  · exact (va_up_ne _ _ (by omega)).trans (qx_ta h)
  · exact (va_up_ne _ _ (by omega)).trans (qx_sa h)
  · exact (va_up_ne _ _ (by omega)).trans (qx_ea h)
  · exact (va_up_ne _ _ (by omega)).trans (qx_eq h)
  · exact (va_up_ne _ _ (by omega)).trans (qx_fa h)
  · intro i hi
    by_cases e : i = a
    · subst e
      refine (va_up_self _ _ _).trans ?_
      show _ = some (_)
      rw [show (va_up χ 6 (upd (χ 6) i v)) 6 i = v from pk_us]
      rfl
    · refine (va_up_ne _ _ (by omega)).trans ((qx_tb h i hi).trans ?_)
      show _ = some (_)
      rw [show (va_up χ 6 (upd (χ 6) a v)) 6 i = χ 6 i from pk_un e]
      rfl
  · intro i hi
    rw [va_up_ne χ (k := 6) _ (show 10 + i ≠ 6 by omega)]
    exact (va_up_ne _ _ (by omega)).trans (qx_su h i hi)
  · intro i hi
    exact (va_up_ne _ _ (by omega)).trans (qx_ra h i hi)
  · intro i hi
    rw [va_up_ne χ (k := 6) _ (show (7 : Nat) ≠ 6 by omega), va_up_ne χ (k := 6) _ (show (8 : Nat) ≠ 6 by omega), va_up_ne χ (k := 6) _ (show (9 : Nat) ≠ 6 by omega), va_up_ne χ (k := 6) _ (show (13 : Nat) ≠ 6 by omega)]
    exact (va_up_ne _ _ (by omega)).trans (qx_rp h i hi)
  · intro i hi
    rw [va_up_ne χ (k := 6) _ (show 20 + i ≠ 6 by omega)]
    exact (va_up_ne _ _ (by omega)).trans (qx_nu h i hi)
  · intro i hi
    rw [va_up_ne χ (k := 6) _ (show 60 + i ≠ 6 by omega)]
    exact (va_up_ne _ _ (by omega)).trans (qx_fr h i hi)
  · intro i hi
    rw [va_up_ne χ (k := 6) _ (show (40 : Nat) ≠ 6 by omega), va_up_ne χ (k := 6) _ (show (41 : Nat) ≠ 6 by omega), va_up_ne χ (k := 6) _ (show (42 : Nat) ≠ 6 by omega), va_up_ne χ (k := 6) _ (show (43 : Nat) ≠ 6 by omega), va_up_ne χ (k := 6) _ (show (44 : Nat) ≠ 6 by omega)]
    exact (va_up_ne _ _ (by omega)).trans (qx_sl h i hi)
  · intro i hi
    rw [va_up_ne χ (k := 6) _ (show (45 : Nat) ≠ 6 by omega), va_up_ne χ (k := 6) _ (show (46 : Nat) ≠ 6 by omega), va_up_ne χ (k := 6) _ (show (47 : Nat) ≠ 6 by omega), va_up_ne χ (k := 6) _ (show (48 : Nat) ≠ 6 by omega), va_up_ne χ (k := 6) _ (show (49 : Nat) ≠ 6 by omega)]
    exact (va_up_ne _ _ (by omega)).trans (qx_em h i hi)
  · exact ⟨fun i h1 h2 => by rw [va_up_ne _ _ (by omega)]; exact (qx_no h).1 i h1 h2, fun i h1 h2 => by rw [va_up_ne _ _ (by omega)]; exact (qx_no h).2 i h1 h2⟩
  · rw [va_up_ne χ (k := 6) _ (show (0 : Nat) ≠ 6 by omega), va_up_ne χ (k := 6) _ (show (1 : Nat) ≠ 6 by omega)]
    exact qx_ct h
theorem qx_w_blt {D : va_G} {χ : Nat → Nat → Int32} {nS nE : Nat} {ad : Nat → Nat} {g : qw_G} (h : qx_P D χ nS nE ad g) (a : Nat) (ha : a < 12) (v : Int32) : qx_P D (va_up χ 7 (upd (χ 7) a v)) nS nE ad (va_up g (20 + a) (some (.inr (2, [.ref (ad (40 + a)), .int v, .int (χ 8 a), .int (χ 9 a), .int (χ 13 a)])))) := by
  have hb := (qx_ct h).2.2
  refine ⟨?_, ?_, ?_, ?_, ?_, ?_, ?_, ?_, ?_, ?_, ?_, ?_, ?_, ?_, ?_, ?_⟩
  · rw [va_up_ne χ (k := 7) _ (show (0 : Nat) ≠ 7 by omega), va_up_ne χ (k := 7) _ (show (1 : Nat) ≠ 7 by omega), va_up_ne χ (k := 7) _ (show (2 : Nat) ≠ 7 by omega), va_up_ne χ (k := 7) _ (show (3 : Nat) ≠ 7 by omega), va_up_ne χ (k := 7) _ (show (4 : Nat) ≠ 7 by omega)]
    exact (va_up_ne _ _ (by omega)).trans (qx_x h)
  · exact (va_up_ne _ _ (by omega)).trans (qx_ta h)
  · exact (va_up_ne _ _ (by omega)).trans (qx_sa h)
  · exact (va_up_ne _ _ (by omega)).trans (qx_ea h)
  · exact (va_up_ne _ _ (by omega)).trans (qx_eq h)
  · exact (va_up_ne _ _ (by omega)).trans (qx_fa h)
  · intro i hi
    rw [va_up_ne χ (k := 7) _ (show (5 : Nat) ≠ 7 by omega), va_up_ne χ (k := 7) _ (show (6 : Nat) ≠ 7 by omega)]
    exact (va_up_ne _ _ (by omega)).trans (qx_tb h i hi)
  · intro i hi
    rw [va_up_ne χ (k := 7) _ (show 10 + i ≠ 7 by omega)]
    exact (va_up_ne _ _ (by omega)).trans (qx_su h i hi)
  · intro i hi
    exact (va_up_ne _ _ (by omega)).trans (qx_ra h i hi)
  · intro i hi
    by_cases e : i = a
    · subst e
      refine (va_up_self _ _ _).trans ?_
      show _ = some (_)
      rw [show (va_up χ 7 (upd (χ 7) i v)) 7 i = v from pk_us]
      rfl
    · refine (va_up_ne _ _ (by omega)).trans ((qx_rp h i hi).trans ?_)
      show _ = some (_)
      rw [show (va_up χ 7 (upd (χ 7) a v)) 7 i = χ 7 i from pk_un e]
      rfl
  · intro i hi
    rw [va_up_ne χ (k := 7) _ (show 20 + i ≠ 7 by omega)]
    exact (va_up_ne _ _ (by omega)).trans (qx_nu h i hi)
  · intro i hi
    rw [va_up_ne χ (k := 7) _ (show 60 + i ≠ 7 by omega)]
    exact (va_up_ne _ _ (by omega)).trans (qx_fr h i hi)
  · intro i hi
    rw [va_up_ne χ (k := 7) _ (show (40 : Nat) ≠ 7 by omega), va_up_ne χ (k := 7) _ (show (41 : Nat) ≠ 7 by omega), va_up_ne χ (k := 7) _ (show (42 : Nat) ≠ 7 by omega), va_up_ne χ (k := 7) _ (show (43 : Nat) ≠ 7 by omega), va_up_ne χ (k := 7) _ (show (44 : Nat) ≠ 7 by omega)]
    exact (va_up_ne _ _ (by omega)).trans (qx_sl h i hi)
  · intro i hi
    rw [va_up_ne χ (k := 7) _ (show (45 : Nat) ≠ 7 by omega), va_up_ne χ (k := 7) _ (show (46 : Nat) ≠ 7 by omega), va_up_ne χ (k := 7) _ (show (47 : Nat) ≠ 7 by omega), va_up_ne χ (k := 7) _ (show (48 : Nat) ≠ 7 by omega), va_up_ne χ (k := 7) _ (show (49 : Nat) ≠ 7 by omega)]
    exact (va_up_ne _ _ (by omega)).trans (qx_em h i hi)
  · exact ⟨fun i h1 h2 => by rw [va_up_ne _ _ (by omega)]; exact (qx_no h).1 i h1 h2, fun i h1 h2 => by rw [va_up_ne _ _ (by omega)]; exact (qx_no h).2 i h1 h2⟩
  · rw [va_up_ne χ (k := 7) _ (show (0 : Nat) ≠ 7 by omega), va_up_ne χ (k := 7) _ (show (1 : Nat) ≠ 7 by omega)]
    exact qx_ct h
theorem qx_w_emb {D : va_G} {χ : Nat → Nat → Int32} {nS nE : Nat} {ad : Nat → Nat} {g : qw_G} (h : qx_P D χ nS nE ad g) (a : Nat) (ha : a < 12) (v : Int32) : qx_P D (va_up χ 8 (upd (χ 8) a v)) nS nE ad (va_up g (20 + a) (some (.inr (2, [.ref (ad (40 + a)), .int (χ 7 a), .int v, .int (χ 9 a), .int (χ 13 a)])))) := by
  have hb := (qx_ct h).2.2
  refine ⟨?_, ?_, ?_, ?_, ?_, ?_, ?_, ?_, ?_, ?_, ?_, ?_, ?_, ?_, ?_, ?_⟩
  · rw [va_up_ne χ (k := 8) _ (show (0 : Nat) ≠ 8 by omega), va_up_ne χ (k := 8) _ (show (1 : Nat) ≠ 8 by omega), va_up_ne χ (k := 8) _ (show (2 : Nat) ≠ 8 by omega), va_up_ne χ (k := 8) _ (show (3 : Nat) ≠ 8 by omega), va_up_ne χ (k := 8) _ (show (4 : Nat) ≠ 8 by omega)]
    exact (va_up_ne _ _ (by omega)).trans (qx_x h)
  · exact (va_up_ne _ _ (by omega)).trans (qx_ta h)
  · exact (va_up_ne _ _ (by omega)).trans (qx_sa h)
  · exact (va_up_ne _ _ (by omega)).trans (qx_ea h)
  · exact (va_up_ne _ _ (by omega)).trans (qx_eq h)
  · exact (va_up_ne _ _ (by omega)).trans (qx_fa h)
  · intro i hi
    rw [va_up_ne χ (k := 8) _ (show (5 : Nat) ≠ 8 by omega), va_up_ne χ (k := 8) _ (show (6 : Nat) ≠ 8 by omega)]
    exact (va_up_ne _ _ (by omega)).trans (qx_tb h i hi)
  · intro i hi
    rw [va_up_ne χ (k := 8) _ (show 10 + i ≠ 8 by omega)]
    exact (va_up_ne _ _ (by omega)).trans (qx_su h i hi)
  · intro i hi
    exact (va_up_ne _ _ (by omega)).trans (qx_ra h i hi)
  · intro i hi
    by_cases e : i = a
    · subst e
      refine (va_up_self _ _ _).trans ?_
      show _ = some (_)
      rw [show (va_up χ 8 (upd (χ 8) i v)) 8 i = v from pk_us]
      rfl
    · refine (va_up_ne _ _ (by omega)).trans ((qx_rp h i hi).trans ?_)
      show _ = some (_)
      rw [show (va_up χ 8 (upd (χ 8) a v)) 8 i = χ 8 i from pk_un e]
      rfl
  · intro i hi
    rw [va_up_ne χ (k := 8) _ (show 20 + i ≠ 8 by omega)]
    exact (va_up_ne _ _ (by omega)).trans (qx_nu h i hi)
  · intro i hi
    rw [va_up_ne χ (k := 8) _ (show 60 + i ≠ 8 by omega)]
    exact (va_up_ne _ _ (by omega)).trans (qx_fr h i hi)
  · intro i hi
    rw [va_up_ne χ (k := 8) _ (show (40 : Nat) ≠ 8 by omega), va_up_ne χ (k := 8) _ (show (41 : Nat) ≠ 8 by omega), va_up_ne χ (k := 8) _ (show (42 : Nat) ≠ 8 by omega), va_up_ne χ (k := 8) _ (show (43 : Nat) ≠ 8 by omega), va_up_ne χ (k := 8) _ (show (44 : Nat) ≠ 8 by omega)]
    exact (va_up_ne _ _ (by omega)).trans (qx_sl h i hi)
  · intro i hi
    rw [va_up_ne χ (k := 8) _ (show (45 : Nat) ≠ 8 by omega), va_up_ne χ (k := 8) _ (show (46 : Nat) ≠ 8 by omega), va_up_ne χ (k := 8) _ (show (47 : Nat) ≠ 8 by omega), va_up_ne χ (k := 8) _ (show (48 : Nat) ≠ 8 by omega), va_up_ne χ (k := 8) _ (show (49 : Nat) ≠ 8 by omega)]
    exact (va_up_ne _ _ (by omega)).trans (qx_em h i hi)
  · exact ⟨fun i h1 h2 => by rw [va_up_ne _ _ (by omega)]; exact (qx_no h).1 i h1 h2, fun i h1 h2 => by rw [va_up_ne _ _ (by omega)]; exact (qx_no h).2 i h1 h2⟩
  · rw [va_up_ne χ (k := 8) _ (show (0 : Nat) ≠ 8 by omega), va_up_ne χ (k := 8) _ (show (1 : Nat) ≠ 8 by omega)]
    exact qx_ct h
theorem qx_w_hid {D : va_G} {χ : Nat → Nat → Int32} {nS nE : Nat} {ad : Nat → Nat} {g : qw_G} (h : qx_P D χ nS nE ad g) (a : Nat) (ha : a < 12) (v : Int32) : qx_P D (va_up χ 9 (upd (χ 9) a v)) nS nE ad (va_up g (20 + a) (some (.inr (2, [.ref (ad (40 + a)), .int (χ 7 a), .int (χ 8 a), .int v, .int (χ 13 a)])))) := by
  have hb := (qx_ct h).2.2
  refine ⟨?_, ?_, ?_, ?_, ?_, ?_, ?_, ?_, ?_, ?_, ?_, ?_, ?_, ?_, ?_, ?_⟩
  · rw [va_up_ne χ (k := 9) _ (show (0 : Nat) ≠ 9 by omega), va_up_ne χ (k := 9) _ (show (1 : Nat) ≠ 9 by omega), va_up_ne χ (k := 9) _ (show (2 : Nat) ≠ 9 by omega), va_up_ne χ (k := 9) _ (show (3 : Nat) ≠ 9 by omega), va_up_ne χ (k := 9) _ (show (4 : Nat) ≠ 9 by omega)]
    exact (va_up_ne _ _ (by omega)).trans (qx_x h)
  · exact (va_up_ne _ _ (by omega)).trans (qx_ta h)
  · exact (va_up_ne _ _ (by omega)).trans (qx_sa h)
  · exact (va_up_ne _ _ (by omega)).trans (qx_ea h)
  · exact (va_up_ne _ _ (by omega)).trans (qx_eq h)
  · exact (va_up_ne _ _ (by omega)).trans (qx_fa h)
  · intro i hi
    rw [va_up_ne χ (k := 9) _ (show (5 : Nat) ≠ 9 by omega), va_up_ne χ (k := 9) _ (show (6 : Nat) ≠ 9 by omega)]
    exact (va_up_ne _ _ (by omega)).trans (qx_tb h i hi)
  · intro i hi
    rw [va_up_ne χ (k := 9) _ (show 10 + i ≠ 9 by omega)]
    exact (va_up_ne _ _ (by omega)).trans (qx_su h i hi)
  · intro i hi
    exact (va_up_ne _ _ (by omega)).trans (qx_ra h i hi)
  · intro i hi
    by_cases e : i = a
    · subst e
      refine (va_up_self _ _ _).trans ?_
      show _ = some (_)
      rw [show (va_up χ 9 (upd (χ 9) i v)) 9 i = v from pk_us]
      rfl
    · refine (va_up_ne _ _ (by omega)).trans ((qx_rp h i hi).trans ?_)
      show _ = some (_)
      rw [show (va_up χ 9 (upd (χ 9) a v)) 9 i = χ 9 i from pk_un e]
      rfl
  · intro i hi
    rw [va_up_ne χ (k := 9) _ (show 20 + i ≠ 9 by omega)]
    exact (va_up_ne _ _ (by omega)).trans (qx_nu h i hi)
  · intro i hi
    rw [va_up_ne χ (k := 9) _ (show 60 + i ≠ 9 by omega)]
    exact (va_up_ne _ _ (by omega)).trans (qx_fr h i hi)
  · intro i hi
    rw [va_up_ne χ (k := 9) _ (show (40 : Nat) ≠ 9 by omega), va_up_ne χ (k := 9) _ (show (41 : Nat) ≠ 9 by omega), va_up_ne χ (k := 9) _ (show (42 : Nat) ≠ 9 by omega), va_up_ne χ (k := 9) _ (show (43 : Nat) ≠ 9 by omega), va_up_ne χ (k := 9) _ (show (44 : Nat) ≠ 9 by omega)]
    exact (va_up_ne _ _ (by omega)).trans (qx_sl h i hi)
  · intro i hi
    rw [va_up_ne χ (k := 9) _ (show (45 : Nat) ≠ 9 by omega), va_up_ne χ (k := 9) _ (show (46 : Nat) ≠ 9 by omega), va_up_ne χ (k := 9) _ (show (47 : Nat) ≠ 9 by omega), va_up_ne χ (k := 9) _ (show (48 : Nat) ≠ 9 by omega), va_up_ne χ (k := 9) _ (show (49 : Nat) ≠ 9 by omega)]
    exact (va_up_ne _ _ (by omega)).trans (qx_em h i hi)
  · exact ⟨fun i h1 h2 => by rw [va_up_ne _ _ (by omega)]; exact (qx_no h).1 i h1 h2, fun i h1 h2 => by rw [va_up_ne _ _ (by omega)]; exact (qx_no h).2 i h1 h2⟩
  · rw [va_up_ne χ (k := 9) _ (show (0 : Nat) ≠ 9 by omega), va_up_ne χ (k := 9) _ (show (1 : Nat) ≠ 9 by omega)]
    exact qx_ct h
theorem qx_w_rea {D : va_G} {χ : Nat → Nat → Int32} {nS nE : Nat} {ad : Nat → Nat} {g : qw_G} (h : qx_P D χ nS nE ad g) (a : Nat) (ha : a < 12) (v : Int32) : qx_P D (va_up χ 13 (upd (χ 13) a v)) nS nE ad (va_up g (20 + a) (some (.inr (2, [.ref (ad (40 + a)), .int (χ 7 a), .int (χ 8 a), .int (χ 9 a), .int v])))) := by
  have hb := (qx_ct h).2.2
  refine ⟨?_, ?_, ?_, ?_, ?_, ?_, ?_, ?_, ?_, ?_, ?_, ?_, ?_, ?_, ?_, ?_⟩
  · rw [va_up_ne χ (k := 13) _ (show (0 : Nat) ≠ 13 by omega), va_up_ne χ (k := 13) _ (show (1 : Nat) ≠ 13 by omega), va_up_ne χ (k := 13) _ (show (2 : Nat) ≠ 13 by omega), va_up_ne χ (k := 13) _ (show (3 : Nat) ≠ 13 by omega), va_up_ne χ (k := 13) _ (show (4 : Nat) ≠ 13 by omega)]
    exact (va_up_ne _ _ (by omega)).trans (qx_x h)
  · exact (va_up_ne _ _ (by omega)).trans (qx_ta h)
  · exact (va_up_ne _ _ (by omega)).trans (qx_sa h)
  · exact (va_up_ne _ _ (by omega)).trans (qx_ea h)
  · exact (va_up_ne _ _ (by omega)).trans (qx_eq h)
  · exact (va_up_ne _ _ (by omega)).trans (qx_fa h)
  · intro i hi
    rw [va_up_ne χ (k := 13) _ (show (5 : Nat) ≠ 13 by omega), va_up_ne χ (k := 13) _ (show (6 : Nat) ≠ 13 by omega)]
    exact (va_up_ne _ _ (by omega)).trans (qx_tb h i hi)
  · intro i hi
    rw [va_up_ne χ (k := 13) _ (show 10 + i ≠ 13 by omega)]
    exact (va_up_ne _ _ (by omega)).trans (qx_su h i hi)
  · intro i hi
    exact (va_up_ne _ _ (by omega)).trans (qx_ra h i hi)
  · intro i hi
    by_cases e : i = a
    · subst e
      refine (va_up_self _ _ _).trans ?_
      show _ = some (_)
      rw [show (va_up χ 13 (upd (χ 13) i v)) 13 i = v from pk_us]
      rfl
    · refine (va_up_ne _ _ (by omega)).trans ((qx_rp h i hi).trans ?_)
      show _ = some (_)
      rw [show (va_up χ 13 (upd (χ 13) a v)) 13 i = χ 13 i from pk_un e]
      rfl
  · intro i hi
    rw [va_up_ne χ (k := 13) _ (show 20 + i ≠ 13 by omega)]
    exact (va_up_ne _ _ (by omega)).trans (qx_nu h i hi)
  · intro i hi
    rw [va_up_ne χ (k := 13) _ (show 60 + i ≠ 13 by omega)]
    exact (va_up_ne _ _ (by omega)).trans (qx_fr h i hi)
  · intro i hi
    rw [va_up_ne χ (k := 13) _ (show (40 : Nat) ≠ 13 by omega), va_up_ne χ (k := 13) _ (show (41 : Nat) ≠ 13 by omega), va_up_ne χ (k := 13) _ (show (42 : Nat) ≠ 13 by omega), va_up_ne χ (k := 13) _ (show (43 : Nat) ≠ 13 by omega), va_up_ne χ (k := 13) _ (show (44 : Nat) ≠ 13 by omega)]
    exact (va_up_ne _ _ (by omega)).trans (qx_sl h i hi)
  · intro i hi
    rw [va_up_ne χ (k := 13) _ (show (45 : Nat) ≠ 13 by omega), va_up_ne χ (k := 13) _ (show (46 : Nat) ≠ 13 by omega), va_up_ne χ (k := 13) _ (show (47 : Nat) ≠ 13 by omega), va_up_ne χ (k := 13) _ (show (48 : Nat) ≠ 13 by omega), va_up_ne χ (k := 13) _ (show (49 : Nat) ≠ 13 by omega)]
    exact (va_up_ne _ _ (by omega)).trans (qx_em h i hi)
  · exact ⟨fun i h1 h2 => by rw [va_up_ne _ _ (by omega)]; exact (qx_no h).1 i h1 h2, fun i h1 h2 => by rw [va_up_ne _ _ (by omega)]; exact (qx_no h).2 i h1 h2⟩
  · rw [va_up_ne χ (k := 13) _ (show (0 : Nat) ≠ 13 by omega), va_up_ne χ (k := 13) _ (show (1 : Nat) ≠ 13 by omega)]
    exact qx_ct h
theorem qx_w_tkn {D : va_G} {χ : Nat → Nat → Int32} {nS nE : Nat} {ad : Nat → Nat} {g : qw_G} (h : qx_P D χ nS nE ad g) (a : Nat) (ha : a < nS) (v : Int32) : qx_P D (va_up χ 44 (upd (χ 44) a v)) nS nE ad (va_up g (1000 + a) (some (.inr (3, [.int (χ 40 a), .int (χ 41 a), .int (χ 42 a), .int (χ 43 a), .int v])))) := by
  have hb := (qx_ct h).2.2
  refine ⟨?_, ?_, ?_, ?_, ?_, ?_, ?_, ?_, ?_, ?_, ?_, ?_, ?_, ?_, ?_, ?_⟩
  · rw [va_up_ne χ (k := 44) _ (show (0 : Nat) ≠ 44 by omega), va_up_ne χ (k := 44) _ (show (1 : Nat) ≠ 44 by omega), va_up_ne χ (k := 44) _ (show (2 : Nat) ≠ 44 by omega), va_up_ne χ (k := 44) _ (show (3 : Nat) ≠ 44 by omega), va_up_ne χ (k := 44) _ (show (4 : Nat) ≠ 44 by omega)]
    exact (va_up_ne _ _ (by omega)).trans (qx_x h)
  · exact (va_up_ne _ _ (by omega)).trans (qx_ta h)
  · exact (va_up_ne _ _ (by omega)).trans (qx_sa h)
  · exact (va_up_ne _ _ (by omega)).trans (qx_ea h)
  · exact (va_up_ne _ _ (by omega)).trans (qx_eq h)
  · exact (va_up_ne _ _ (by omega)).trans (qx_fa h)
  · intro i hi
    rw [va_up_ne χ (k := 44) _ (show (5 : Nat) ≠ 44 by omega), va_up_ne χ (k := 44) _ (show (6 : Nat) ≠ 44 by omega)]
    exact (va_up_ne _ _ (by omega)).trans (qx_tb h i hi)
  · intro i hi
    rw [va_up_ne χ (k := 44) _ (show 10 + i ≠ 44 by omega)]
    exact (va_up_ne _ _ (by omega)).trans (qx_su h i hi)
  · intro i hi
    exact (va_up_ne _ _ (by omega)).trans (qx_ra h i hi)
  · intro i hi
    rw [va_up_ne χ (k := 44) _ (show (7 : Nat) ≠ 44 by omega), va_up_ne χ (k := 44) _ (show (8 : Nat) ≠ 44 by omega), va_up_ne χ (k := 44) _ (show (9 : Nat) ≠ 44 by omega), va_up_ne χ (k := 44) _ (show (13 : Nat) ≠ 44 by omega)]
    exact (va_up_ne _ _ (by omega)).trans (qx_rp h i hi)
  · intro i hi
    rw [va_up_ne χ (k := 44) _ (show 20 + i ≠ 44 by omega)]
    exact (va_up_ne _ _ (by omega)).trans (qx_nu h i hi)
  · intro i hi
    rw [va_up_ne χ (k := 44) _ (show 60 + i ≠ 44 by omega)]
    exact (va_up_ne _ _ (by omega)).trans (qx_fr h i hi)
  · intro i hi
    by_cases e : i = a
    · subst e
      refine (va_up_self _ _ _).trans ?_
      show _ = some (_)
      rw [show (va_up χ 44 (upd (χ 44) i v)) 44 i = v from pk_us]
      rfl
    · refine (va_up_ne _ _ (by omega)).trans ((qx_sl h i hi).trans ?_)
      show _ = some (_)
      rw [show (va_up χ 44 (upd (χ 44) a v)) 44 i = χ 44 i from pk_un e]
      rfl
  · intro i hi
    rw [va_up_ne χ (k := 44) _ (show (45 : Nat) ≠ 44 by omega), va_up_ne χ (k := 44) _ (show (46 : Nat) ≠ 44 by omega), va_up_ne χ (k := 44) _ (show (47 : Nat) ≠ 44 by omega), va_up_ne χ (k := 44) _ (show (48 : Nat) ≠ 44 by omega), va_up_ne χ (k := 44) _ (show (49 : Nat) ≠ 44 by omega)]
    exact (va_up_ne _ _ (by omega)).trans (qx_em h i hi)
  · exact ⟨fun i h1 h2 => by rw [va_up_ne _ _ (by omega)]; exact (qx_no h).1 i h1 h2, fun i h1 h2 => by rw [va_up_ne _ _ (by omega)]; exact (qx_no h).2 i h1 h2⟩
  · rw [va_up_ne χ (k := 44) _ (show (0 : Nat) ≠ 44 by omega), va_up_ne χ (k := 44) _ (show (1 : Nat) ≠ 44 by omega)]
    exact qx_ct h
theorem qx_w_lft {D : va_G} {χ : Nat → Nat → Int32} {nS nE : Nat} {ad : Nat → Nat} {g : qw_G} (h : qx_P D χ nS nE ad g) (a : Nat) (ha : a < nE) (v : Int32) : qx_P D (va_up χ 49 (upd (χ 49) a v)) nS nE ad (va_up g (2000 + a) (some (.inr (0, [.int (χ 45 a), .int (χ 46 a), .int (χ 47 a), .int (χ 48 a), .int v])))) := by
  have hb := (qx_ct h).2.2
  refine ⟨?_, ?_, ?_, ?_, ?_, ?_, ?_, ?_, ?_, ?_, ?_, ?_, ?_, ?_, ?_, ?_⟩
  · rw [va_up_ne χ (k := 49) _ (show (0 : Nat) ≠ 49 by omega), va_up_ne χ (k := 49) _ (show (1 : Nat) ≠ 49 by omega), va_up_ne χ (k := 49) _ (show (2 : Nat) ≠ 49 by omega), va_up_ne χ (k := 49) _ (show (3 : Nat) ≠ 49 by omega), va_up_ne χ (k := 49) _ (show (4 : Nat) ≠ 49 by omega)]
    exact (va_up_ne _ _ (by omega)).trans (qx_x h)
  · exact (va_up_ne _ _ (by omega)).trans (qx_ta h)
  · exact (va_up_ne _ _ (by omega)).trans (qx_sa h)
  · exact (va_up_ne _ _ (by omega)).trans (qx_ea h)
  · exact (va_up_ne _ _ (by omega)).trans (qx_eq h)
  · exact (va_up_ne _ _ (by omega)).trans (qx_fa h)
  · intro i hi
    rw [va_up_ne χ (k := 49) _ (show (5 : Nat) ≠ 49 by omega), va_up_ne χ (k := 49) _ (show (6 : Nat) ≠ 49 by omega)]
    exact (va_up_ne _ _ (by omega)).trans (qx_tb h i hi)
  · intro i hi
    rw [va_up_ne χ (k := 49) _ (show 10 + i ≠ 49 by omega)]
    exact (va_up_ne _ _ (by omega)).trans (qx_su h i hi)
  · intro i hi
    exact (va_up_ne _ _ (by omega)).trans (qx_ra h i hi)
  · intro i hi
    rw [va_up_ne χ (k := 49) _ (show (7 : Nat) ≠ 49 by omega), va_up_ne χ (k := 49) _ (show (8 : Nat) ≠ 49 by omega), va_up_ne χ (k := 49) _ (show (9 : Nat) ≠ 49 by omega), va_up_ne χ (k := 49) _ (show (13 : Nat) ≠ 49 by omega)]
    exact (va_up_ne _ _ (by omega)).trans (qx_rp h i hi)
  · intro i hi
    rw [va_up_ne χ (k := 49) _ (show 20 + i ≠ 49 by omega)]
    exact (va_up_ne _ _ (by omega)).trans (qx_nu h i hi)
  · intro i hi
    rw [va_up_ne χ (k := 49) _ (show 60 + i ≠ 49 by omega)]
    exact (va_up_ne _ _ (by omega)).trans (qx_fr h i hi)
  · intro i hi
    rw [va_up_ne χ (k := 49) _ (show (40 : Nat) ≠ 49 by omega), va_up_ne χ (k := 49) _ (show (41 : Nat) ≠ 49 by omega), va_up_ne χ (k := 49) _ (show (42 : Nat) ≠ 49 by omega), va_up_ne χ (k := 49) _ (show (43 : Nat) ≠ 49 by omega), va_up_ne χ (k := 49) _ (show (44 : Nat) ≠ 49 by omega)]
    exact (va_up_ne _ _ (by omega)).trans (qx_sl h i hi)
  · intro i hi
    by_cases e : i = a
    · subst e
      refine (va_up_self _ _ _).trans ?_
      show _ = some (_)
      rw [show (va_up χ 49 (upd (χ 49) i v)) 49 i = v from pk_us]
      rfl
    · refine (va_up_ne _ _ (by omega)).trans ((qx_em h i hi).trans ?_)
      show _ = some (_)
      rw [show (va_up χ 49 (upd (χ 49) a v)) 49 i = χ 49 i from pk_un e]
      rfl
  · exact ⟨fun i h1 h2 => by rw [va_up_ne _ _ (by omega)]; exact (qx_no h).1 i h1 h2, fun i h1 h2 => by rw [va_up_ne _ _ (by omega)]; exact (qx_no h).2 i h1 h2⟩
  · rw [va_up_ne χ (k := 49) _ (show (0 : Nat) ≠ 49 by omega), va_up_ne χ (k := 49) _ (show (1 : Nat) ≠ 49 by omega)]
    exact qx_ct h
theorem qx_w_sum {D : va_G} {χ : Nat → Nat → Int32} {nS nE : Nat} {ad : Nat → Nat} {g : qw_G} (h : qx_P D χ nS nE ad g) (a : Nat) (ha : a < 3) (F : Nat → Int32) : qx_P D (va_up χ (10 + a) F) nS nE ad (va_up g (13 + a) (some (.inl (D.1 20, 30, .inl F)))) := by
  have hb := (qx_ct h).2.2
  refine ⟨?_, ?_, ?_, ?_, ?_, ?_, ?_, ?_, ?_, ?_, ?_, ?_, ?_, ?_, ?_, ?_⟩
  · rw [va_up_ne χ (k := 10 + a) _ (show (0 : Nat) ≠ 10 + a by omega), va_up_ne χ (k := 10 + a) _ (show (1 : Nat) ≠ 10 + a by omega), va_up_ne χ (k := 10 + a) _ (show (2 : Nat) ≠ 10 + a by omega), va_up_ne χ (k := 10 + a) _ (show (3 : Nat) ≠ 10 + a by omega), va_up_ne χ (k := 10 + a) _ (show (4 : Nat) ≠ 10 + a by omega)]
    exact (va_up_ne _ _ (by omega)).trans (qx_x h)
  · exact (va_up_ne _ _ (by omega)).trans (qx_ta h)
  · exact (va_up_ne _ _ (by omega)).trans (qx_sa h)
  · exact (va_up_ne _ _ (by omega)).trans (qx_ea h)
  · exact (va_up_ne _ _ (by omega)).trans (qx_eq h)
  · exact (va_up_ne _ _ (by omega)).trans (qx_fa h)
  · intro i hi
    rw [va_up_ne χ (k := 10 + a) _ (show (5 : Nat) ≠ 10 + a by omega), va_up_ne χ (k := 10 + a) _ (show (6 : Nat) ≠ 10 + a by omega)]
    exact (va_up_ne _ _ (by omega)).trans (qx_tb h i hi)
  · intro i hi
    by_cases e : i = a
    · subst e
      refine (va_up_self _ _ _).trans ?_
      rw [va_up_self]
    · refine (va_up_ne _ _ (by omega)).trans ((qx_su h i hi).trans ?_)
      rw [va_up_ne χ (k := 10 + a) _ (show 10 + i ≠ 10 + a by omega)]
  · intro i hi
    exact (va_up_ne _ _ (by omega)).trans (qx_ra h i hi)
  · intro i hi
    rw [va_up_ne χ (k := 10 + a) _ (show (7 : Nat) ≠ 10 + a by omega), va_up_ne χ (k := 10 + a) _ (show (8 : Nat) ≠ 10 + a by omega), va_up_ne χ (k := 10 + a) _ (show (9 : Nat) ≠ 10 + a by omega), va_up_ne χ (k := 10 + a) _ (show (13 : Nat) ≠ 10 + a by omega)]
    exact (va_up_ne _ _ (by omega)).trans (qx_rp h i hi)
  · intro i hi
    rw [va_up_ne χ (k := 10 + a) _ (show 20 + i ≠ 10 + a by omega)]
    exact (va_up_ne _ _ (by omega)).trans (qx_nu h i hi)
  · intro i hi
    rw [va_up_ne χ (k := 10 + a) _ (show 60 + i ≠ 10 + a by omega)]
    exact (va_up_ne _ _ (by omega)).trans (qx_fr h i hi)
  · intro i hi
    rw [va_up_ne χ (k := 10 + a) _ (show (40 : Nat) ≠ 10 + a by omega), va_up_ne χ (k := 10 + a) _ (show (41 : Nat) ≠ 10 + a by omega), va_up_ne χ (k := 10 + a) _ (show (42 : Nat) ≠ 10 + a by omega), va_up_ne χ (k := 10 + a) _ (show (43 : Nat) ≠ 10 + a by omega), va_up_ne χ (k := 10 + a) _ (show (44 : Nat) ≠ 10 + a by omega)]
    exact (va_up_ne _ _ (by omega)).trans (qx_sl h i hi)
  · intro i hi
    rw [va_up_ne χ (k := 10 + a) _ (show (45 : Nat) ≠ 10 + a by omega), va_up_ne χ (k := 10 + a) _ (show (46 : Nat) ≠ 10 + a by omega), va_up_ne χ (k := 10 + a) _ (show (47 : Nat) ≠ 10 + a by omega), va_up_ne χ (k := 10 + a) _ (show (48 : Nat) ≠ 10 + a by omega), va_up_ne χ (k := 10 + a) _ (show (49 : Nat) ≠ 10 + a by omega)]
    exact (va_up_ne _ _ (by omega)).trans (qx_em h i hi)
  · exact ⟨fun i h1 h2 => by rw [va_up_ne _ _ (by omega)]; exact (qx_no h).1 i h1 h2, fun i h1 h2 => by rw [va_up_ne _ _ (by omega)]; exact (qx_no h).2 i h1 h2⟩
  · rw [va_up_ne χ (k := 10 + a) _ (show (0 : Nat) ≠ 10 + a by omega), va_up_ne χ (k := 10 + a) _ (show (1 : Nat) ≠ 10 + a by omega)]
    exact qx_ct h
theorem qx_w_num {D : va_G} {χ : Nat → Nat → Int32} {nS nE : Nat} {ad : Nat → Nat} {g : qw_G} (h : qx_P D χ nS nE ad g) (a : Nat) (ha : a < 12) (F : Nat → Int32) : qx_P D (va_up χ (20 + a) F) nS nE ad (va_up g (40 + a) (some (.inl (D.1 20, 30, .inl F)))) := by
  have hb := (qx_ct h).2.2
  refine ⟨?_, ?_, ?_, ?_, ?_, ?_, ?_, ?_, ?_, ?_, ?_, ?_, ?_, ?_, ?_, ?_⟩
  · rw [va_up_ne χ (k := 20 + a) _ (show (0 : Nat) ≠ 20 + a by omega), va_up_ne χ (k := 20 + a) _ (show (1 : Nat) ≠ 20 + a by omega), va_up_ne χ (k := 20 + a) _ (show (2 : Nat) ≠ 20 + a by omega), va_up_ne χ (k := 20 + a) _ (show (3 : Nat) ≠ 20 + a by omega), va_up_ne χ (k := 20 + a) _ (show (4 : Nat) ≠ 20 + a by omega)]
    exact (va_up_ne _ _ (by omega)).trans (qx_x h)
  · exact (va_up_ne _ _ (by omega)).trans (qx_ta h)
  · exact (va_up_ne _ _ (by omega)).trans (qx_sa h)
  · exact (va_up_ne _ _ (by omega)).trans (qx_ea h)
  · exact (va_up_ne _ _ (by omega)).trans (qx_eq h)
  · exact (va_up_ne _ _ (by omega)).trans (qx_fa h)
  · intro i hi
    rw [va_up_ne χ (k := 20 + a) _ (show (5 : Nat) ≠ 20 + a by omega), va_up_ne χ (k := 20 + a) _ (show (6 : Nat) ≠ 20 + a by omega)]
    exact (va_up_ne _ _ (by omega)).trans (qx_tb h i hi)
  · intro i hi
    rw [va_up_ne χ (k := 20 + a) _ (show 10 + i ≠ 20 + a by omega)]
    exact (va_up_ne _ _ (by omega)).trans (qx_su h i hi)
  · intro i hi
    exact (va_up_ne _ _ (by omega)).trans (qx_ra h i hi)
  · intro i hi
    rw [va_up_ne χ (k := 20 + a) _ (show (7 : Nat) ≠ 20 + a by omega), va_up_ne χ (k := 20 + a) _ (show (8 : Nat) ≠ 20 + a by omega), va_up_ne χ (k := 20 + a) _ (show (9 : Nat) ≠ 20 + a by omega), va_up_ne χ (k := 20 + a) _ (show (13 : Nat) ≠ 20 + a by omega)]
    exact (va_up_ne _ _ (by omega)).trans (qx_rp h i hi)
  · intro i hi
    by_cases e : i = a
    · subst e
      refine (va_up_self _ _ _).trans ?_
      rw [va_up_self]
    · refine (va_up_ne _ _ (by omega)).trans ((qx_nu h i hi).trans ?_)
      rw [va_up_ne χ (k := 20 + a) _ (show 20 + i ≠ 20 + a by omega)]
  · intro i hi
    rw [va_up_ne χ (k := 20 + a) _ (show 60 + i ≠ 20 + a by omega)]
    exact (va_up_ne _ _ (by omega)).trans (qx_fr h i hi)
  · intro i hi
    rw [va_up_ne χ (k := 20 + a) _ (show (40 : Nat) ≠ 20 + a by omega), va_up_ne χ (k := 20 + a) _ (show (41 : Nat) ≠ 20 + a by omega), va_up_ne χ (k := 20 + a) _ (show (42 : Nat) ≠ 20 + a by omega), va_up_ne χ (k := 20 + a) _ (show (43 : Nat) ≠ 20 + a by omega), va_up_ne χ (k := 20 + a) _ (show (44 : Nat) ≠ 20 + a by omega)]
    exact (va_up_ne _ _ (by omega)).trans (qx_sl h i hi)
  · intro i hi
    rw [va_up_ne χ (k := 20 + a) _ (show (45 : Nat) ≠ 20 + a by omega), va_up_ne χ (k := 20 + a) _ (show (46 : Nat) ≠ 20 + a by omega), va_up_ne χ (k := 20 + a) _ (show (47 : Nat) ≠ 20 + a by omega), va_up_ne χ (k := 20 + a) _ (show (48 : Nat) ≠ 20 + a by omega), va_up_ne χ (k := 20 + a) _ (show (49 : Nat) ≠ 20 + a by omega)]
    exact (va_up_ne _ _ (by omega)).trans (qx_em h i hi)
  · exact ⟨fun i h1 h2 => by rw [va_up_ne _ _ (by omega)]; exact (qx_no h).1 i h1 h2, fun i h1 h2 => by rw [va_up_ne _ _ (by omega)]; exact (qx_no h).2 i h1 h2⟩
  · rw [va_up_ne χ (k := 20 + a) _ (show (0 : Nat) ≠ 20 + a by omega), va_up_ne χ (k := 20 + a) _ (show (1 : Nat) ≠ 20 + a by omega)]
    exact qx_ct h
theorem qx_w_fac {D : va_G} {χ : Nat → Nat → Int32} {nS nE : Nat} {ad : Nat → Nat} {g : qw_G} (h : qx_P D χ nS nE ad g) (a : Nat) (ha : a < 11) (F : Nat → Int32) : qx_P D (va_up χ (60 + a) F) nS nE ad (va_up g (60 + a) (some (.inl (D.1 20, 30, .inl F)))) := by
  have hb := (qx_ct h).2.2
  refine ⟨?_, ?_, ?_, ?_, ?_, ?_, ?_, ?_, ?_, ?_, ?_, ?_, ?_, ?_, ?_, ?_⟩
  · rw [va_up_ne χ (k := 60 + a) _ (show (0 : Nat) ≠ 60 + a by omega), va_up_ne χ (k := 60 + a) _ (show (1 : Nat) ≠ 60 + a by omega), va_up_ne χ (k := 60 + a) _ (show (2 : Nat) ≠ 60 + a by omega), va_up_ne χ (k := 60 + a) _ (show (3 : Nat) ≠ 60 + a by omega), va_up_ne χ (k := 60 + a) _ (show (4 : Nat) ≠ 60 + a by omega)]
    exact (va_up_ne _ _ (by omega)).trans (qx_x h)
  · exact (va_up_ne _ _ (by omega)).trans (qx_ta h)
  · exact (va_up_ne _ _ (by omega)).trans (qx_sa h)
  · exact (va_up_ne _ _ (by omega)).trans (qx_ea h)
  · exact (va_up_ne _ _ (by omega)).trans (qx_eq h)
  · exact (va_up_ne _ _ (by omega)).trans (qx_fa h)
  · intro i hi
    rw [va_up_ne χ (k := 60 + a) _ (show (5 : Nat) ≠ 60 + a by omega), va_up_ne χ (k := 60 + a) _ (show (6 : Nat) ≠ 60 + a by omega)]
    exact (va_up_ne _ _ (by omega)).trans (qx_tb h i hi)
  · intro i hi
    rw [va_up_ne χ (k := 60 + a) _ (show 10 + i ≠ 60 + a by omega)]
    exact (va_up_ne _ _ (by omega)).trans (qx_su h i hi)
  · intro i hi
    exact (va_up_ne _ _ (by omega)).trans (qx_ra h i hi)
  · intro i hi
    rw [va_up_ne χ (k := 60 + a) _ (show (7 : Nat) ≠ 60 + a by omega), va_up_ne χ (k := 60 + a) _ (show (8 : Nat) ≠ 60 + a by omega), va_up_ne χ (k := 60 + a) _ (show (9 : Nat) ≠ 60 + a by omega), va_up_ne χ (k := 60 + a) _ (show (13 : Nat) ≠ 60 + a by omega)]
    exact (va_up_ne _ _ (by omega)).trans (qx_rp h i hi)
  · intro i hi
    rw [va_up_ne χ (k := 60 + a) _ (show 20 + i ≠ 60 + a by omega)]
    exact (va_up_ne _ _ (by omega)).trans (qx_nu h i hi)
  · intro i hi
    by_cases e : i = a
    · subst e
      refine (va_up_self _ _ _).trans ?_
      rw [va_up_self]
    · refine (va_up_ne _ _ (by omega)).trans ((qx_fr h i hi).trans ?_)
      rw [va_up_ne χ (k := 60 + a) _ (show 60 + i ≠ 60 + a by omega)]
  · intro i hi
    rw [va_up_ne χ (k := 60 + a) _ (show (40 : Nat) ≠ 60 + a by omega), va_up_ne χ (k := 60 + a) _ (show (41 : Nat) ≠ 60 + a by omega), va_up_ne χ (k := 60 + a) _ (show (42 : Nat) ≠ 60 + a by omega), va_up_ne χ (k := 60 + a) _ (show (43 : Nat) ≠ 60 + a by omega), va_up_ne χ (k := 60 + a) _ (show (44 : Nat) ≠ 60 + a by omega)]
    exact (va_up_ne _ _ (by omega)).trans (qx_sl h i hi)
  · intro i hi
    rw [va_up_ne χ (k := 60 + a) _ (show (45 : Nat) ≠ 60 + a by omega), va_up_ne χ (k := 60 + a) _ (show (46 : Nat) ≠ 60 + a by omega), va_up_ne χ (k := 60 + a) _ (show (47 : Nat) ≠ 60 + a by omega), va_up_ne χ (k := 60 + a) _ (show (48 : Nat) ≠ 60 + a by omega), va_up_ne χ (k := 60 + a) _ (show (49 : Nat) ≠ 60 + a by omega)]
    exact (va_up_ne _ _ (by omega)).trans (qx_em h i hi)
  · exact ⟨fun i h1 h2 => by rw [va_up_ne _ _ (by omega)]; exact (qx_no h).1 i h1 h2, fun i h1 h2 => by rw [va_up_ne _ _ (by omega)]; exact (qx_no h).2 i h1 h2⟩
  · rw [va_up_ne χ (k := 60 + a) _ (show (0 : Nat) ≠ 60 + a by omega), va_up_ne χ (k := 60 + a) _ (show (1 : Nat) ≠ 60 + a by omega)]
    exact qx_ct h
theorem qx_ext {D : va_G} {χ χ2 : Nat → Nat → Int32} {nS nE : Nat} {ad : Nat → Nat} {g : qw_G} (h : qx_P D χ nS nE ad g) (e : ∀ k, k ≠ 3 → χ2 k = χ k) (e0 : χ2 3 0 = χ 3 0) : qx_P D χ2 nS nE ad g := by
  refine ⟨?_, ?_, ?_, ?_, ?_, ?_, ?_, ?_, ?_, ?_, ?_, ?_, ?_, ?_, ?_, ?_⟩
  · rw [e 0 (by decide), e 1 (by decide), e 2 (by decide), e0, e 4 (by decide)]; exact qx_x h
  · exact qx_ta h
  · exact qx_sa h
  · exact qx_ea h
  · exact qx_eq h
  · exact qx_fa h
  · intro i hi; rw [e 5 (by decide), e 6 (by decide)]; exact qx_tb h i hi
  · intro i hi; rw [e (10 + i) (by omega)]; exact qx_su h i hi
  · intro i hi; exact qx_ra h i hi
  · intro i hi; rw [e 7 (by decide), e 8 (by decide), e 9 (by decide), e 13 (by decide)]; exact qx_rp h i hi
  · intro i hi; rw [e (20 + i) (by omega)]; exact qx_nu h i hi
  · intro i hi; rw [e (60 + i) (by omega)]; exact qx_fr h i hi
  · intro i hi; rw [e 40 (by decide), e 41 (by decide), e 42 (by decide), e 43 (by decide), e 44 (by decide)]; exact qx_sl h i hi
  · intro i hi; rw [e 45 (by decide), e 46 (by decide), e 47 (by decide), e 48 (by decide), e 49 (by decide)]; exact qx_em h i hi
  · exact qx_no h
  · rw [e 0 (by decide), e 1 (by decide)]; exact qx_ct h
