/-! new sales and embargoes -/
/-- a constructor that fills the place u -/
def qx_ini (ad : Nat → Nat) (g : qw_G) (u : Nat) (e : va_E) : Option Value → (Nat → Nat) → qw_G → Prop := fun v' ad' g' => none = v' ∧ ad = ad' ∧ g' u = some e ∧ ∀ t, t ≠ u → g' t = g t
set_option maxRecDepth 20000 in
theorem gcn_X4 : (Cond.instantiable RX4 5) ∈ qw_Ts ∧ (Cond.initialized RX4) ∈ qw_Ts := by decide +kernel
set_option maxRecDepth 20000 in
theorem gcn_X1 : (Cond.instantiable RX1 5) ∈ qw_Ts ∧ (Cond.initialized RX1) ∈ qw_Ts := by decide +kernel
theorem qz_X4 : ∀ j, j < 5 → defaultValue (tyX4 j) = vp_V [.int 0, .int 0, .int 0, .int 0, .int 0] j := fun j hj => match j, hj with | 0, _ => rfl | 1, _ => rfl | 2, _ => rfl | 3, _ => rfl | 4, _ => rfl
theorem qz_X1 : ∀ j, j < 5 → defaultValue (tyX1 j) = vp_V [.int 0, .int 0, .int 0, .int 0, .int 0] j := fun j hj => match j, hj with | 0, _ => rfl | 1, _ => rfl | 2, _ => rfl | 3, _ => rfl | 4, _ => rfl
/-- the same picture under other words for the addresses -/
theorem qx_ad {D : va_G} {χ : Nat → Nat → Int32} {nS nE : Nat} {ad ad' : Nat → Nat} {g : qw_G} (h : qx_P D χ nS nE ad g) (e : ∀ t, t < 1000 → ad' t = ad t) (e1 : ∀ i, i < nS → ad' (1000 + i) = ad (1000 + i)) (e2 : ∀ i, i < nE → ad' (2000 + i) = ad (2000 + i)) : qx_P D χ nS nE ad' g := by
  refine ⟨?_, ?_, ?_, ?_, ?_, ?_, ?_, qx_su h, ?_, ?_, qx_nu h, qx_fr h, qx_sl h, qx_em h, qx_no h, qx_ct h⟩
  · rw [e 1 (by omega), e 2 (by omega), e 3 (by omega), e 4 (by omega)]; exact qx_x h
  · rw [qx_ta h]; congr 8; funext i; by_cases hi : i < 3
    · rw [if_pos hi, if_pos hi, e _ (by omega)]
    · rw [if_neg hi, if_neg hi]
  · rw [qx_sa h]; congr 8; funext i; by_cases hi : i < nS
    · rw [if_pos hi, if_pos hi, e1 _ hi]
    · rw [if_neg hi, if_neg hi]
  · rw [qx_ea h]; congr 8; funext i; by_cases hi : i < nE
    · rw [if_pos hi, if_pos hi, e2 _ hi]
    · rw [if_neg hi, if_neg hi]
  · rw [e 5 (by omega)]; exact qx_eq h
  · rw [qx_fa h]; congr 8; funext i; by_cases hi : i < 11
    · rw [if_pos hi, if_pos hi, e _ (by omega)]
    · rw [if_neg hi, if_neg hi]
  · intro i hi; rw [e _ (by omega), e _ (by omega)]; exact qx_tb h i hi
  · intro i hi; rw [qx_ra h i hi]; congr 8; funext v; by_cases hv : v < 4
    · rw [if_pos hv, if_pos hv, e _ (by omega)]
    · rw [if_neg hv, if_neg hv]
  · intro i hi; rw [e _ (by omega)]; exact qx_rp h i hi
def qx_5 (χ : Nat → Nat → Int32) (o n : Nat) (k : Nat) (a b c d : Int32) : Nat → Nat → Int32 := va_up (va_up (va_up (va_up (va_up (sg_u χ o (χ o 0 + 1)) k (upd (χ k) n a)) (k + 1) (upd (χ (k + 1)) n b)) (k + 2) (upd (χ (k + 2)) n c)) (k + 3) (upd (χ (k + 3)) n d)) (k + 4) (upd (χ (k + 4)) n 0)
def qx_sold (χ : Nat → Nat → Int32) (n : Nat) (a b c d : Int32) := qx_5 χ 0 n 40 a b c d
def qx_emba (χ : Nat → Nat → Int32) (n : Nat) (a b c d : Int32) := qx_5 χ 1 n 45 a b c d
theorem qx_5_ne {χ : Nat → Nat → Int32} {o n k j : Nat} {a b c d : Int32} (h : j ≠ o) (h2 : j < k ∨ k + 4 < j) : qx_5 χ o n k a b c d j = χ j := by
  unfold qx_5 sg_u
  rw [va_up_ne _ _ (by omega), va_up_ne _ _ (by omega), va_up_ne _ _ (by omega), va_up_ne _ _ (by omega), va_up_ne _ _ (by omega), va_up_ne _ _ (by omega)]
/-- the lists: one longer -/
theorem qx_lst {ad : Nat → Nat} {n b : Nat} : (va_up (fun i => if i < n then some (ad (b + i)) else none) n (some (ad (b + n)))) = fun i => if i < n + 1 then some (ad (b + i)) else none := by
  funext i
  by_cases h : i = n
  · subst h; rw [va_up_self, if_pos (by omega)]
  · rw [va_up_ne _ _ h]
    by_cases h2 : i < n
    · rw [if_pos h2, if_pos (by omega)]
    · rw [if_neg h2, if_neg (by omega)]
theorem qx_a_sold {D : va_G} {χ : Nat → Nat → Int32} {nS nE : Nat} {ad : Nat → Nat} {g g' : qw_G} (h : qx_P D χ nS nE ad g) (hn : nS < 120) {a b c d : Int32} (h0 : g' 0 = some (.inr (5, [.ref (ad 1), .ref (ad 2), .ref (ad 3), .ref (ad 4), .int (χ 0 0 + 1), .int (χ 1 0), .int (χ 2 0), .int (χ 3 0), .int (χ 4 0)]))) (h2 : g' 2 = some (.inl (D.1 24, 120, .inr (.inr (.inr (.inr (va_up (fun i => if i < nS then some (ad (1000 + i)) else none) nS (some (ad (1000 + nS))))))))) ) (hu : g' (1000 + nS) = some (.inr (3, [.int a, .int b, .int c, .int d, .int 0]))) (hf : ∀ t, t ≠ 0 → t ≠ 2 → t ≠ 1000 + nS → g' t = g t) : qx_P D (qx_sold χ nS a b c d) (nS + 1) nE ad g' := by
  have hb := (qx_ct h).2.2
  have ek : ∀ j, j < 40 → j ≠ 0 → (qx_sold χ nS a b c d) j = χ j := fun j hj h => qx_5_ne h (Or.inl (by omega))
  have eh : ∀ j, 50 ≤ j → (qx_sold χ nS a b c d) j = χ j := fun j hj => qx_5_ne (by omega) (Or.inr (by omega))
  have eo : (qx_sold χ nS a b c d) 0 0 = χ 0 0 + 1 := rfl
  refine ⟨?_, ?_, ?_, ?_, ?_, ?_, ?_, ?_, ?_, ?_, ?_, ?_, ?_, ?_, ?_, ?_⟩
  · rw [h0, ek 1 (by omega) (by omega), ek 2 (by omega) (by omega), ek 3 (by omega) (by omega), ek 4 (by omega) (by omega), eo]
  · exact (hf _ (by omega) (by omega) (by omega)).trans (qx_ta h)
  · rw [h2, qx_lst]
  · exact (hf _ (by omega) (by omega) (by omega)).trans (qx_ea h)
  · exact (hf _ (by omega) (by omega) (by omega)).trans (qx_eq h)
  · exact (hf _ (by omega) (by omega) (by omega)).trans (qx_fa h)
  · intro i hi
    rw [ek 5 (by omega) (by omega), ek 6 (by omega) (by omega)]
    exact (hf _ (by omega) (by omega) (by omega)).trans (qx_tb h i hi)
  · intro i hi
    rw [ek (10 + i) (by omega) (by omega)]
    exact (hf _ (by omega) (by omega) (by omega)).trans (qx_su h i hi)
  · intro i hi
    exact (hf _ (by omega) (by omega) (by omega)).trans (qx_ra h i hi)
  · intro i hi
    rw [ek 7 (by omega) (by omega), ek 8 (by omega) (by omega), ek 9 (by omega) (by omega), ek 13 (by omega) (by omega)]
    exact (hf _ (by omega) (by omega) (by omega)).trans (qx_rp h i hi)
  · intro i hi
    rw [ek (20 + i) (by omega) (by omega)]
    exact (hf _ (by omega) (by omega) (by omega)).trans (qx_nu h i hi)
  · intro i hi
    rw [eh (60 + i) (by omega)]
    exact (hf _ (by omega) (by omega) (by omega)).trans (qx_fr h i hi)
  · intro i hi
    by_cases e : i = nS
    · subst e
      refine hu.trans ?_
      unfold qx_sold qx_5
      rw [show (va_up (va_up (va_up (va_up (va_up (sg_u χ 0 (χ 0 0 + 1)) 40 (upd (χ 40) i a)) (40 + 1) (upd (χ (40 + 1)) i b)) (40 + 2) (upd (χ (40 + 2)) i c)) (40 + 3) (upd (χ (40 + 3)) i d)) (40 + 4) (upd (χ (40 + 4)) i 0)) 40 i = a from pk_us, show (va_up (va_up (va_up (va_up (va_up (sg_u χ 0 (χ 0 0 + 1)) 40 (upd (χ 40) i a)) (40 + 1) (upd (χ (40 + 1)) i b)) (40 + 2) (upd (χ (40 + 2)) i c)) (40 + 3) (upd (χ (40 + 3)) i d)) (40 + 4) (upd (χ (40 + 4)) i 0)) (40 + 1) i = b from pk_us, show (va_up (va_up (va_up (va_up (va_up (sg_u χ 0 (χ 0 0 + 1)) 40 (upd (χ 40) i a)) (40 + 1) (upd (χ (40 + 1)) i b)) (40 + 2) (upd (χ (40 + 2)) i c)) (40 + 3) (upd (χ (40 + 3)) i d)) (40 + 4) (upd (χ (40 + 4)) i 0)) (40 + 2) i = c from pk_us, show (va_up (va_up (va_up (va_up (va_up (sg_u χ 0 (χ 0 0 + 1)) 40 (upd (χ 40) i a)) (40 + 1) (upd (χ (40 + 1)) i b)) (40 + 2) (upd (χ (40 + 2)) i c)) (40 + 3) (upd (χ (40 + 3)) i d)) (40 + 4) (upd (χ (40 + 4)) i 0)) (40 + 3) i = d from pk_us, show (va_up (va_up (va_up (va_up (va_up (sg_u χ 0 (χ 0 0 + 1)) 40 (upd (χ 40) i a)) (40 + 1) (upd (χ (40 + 1)) i b)) (40 + 2) (upd (χ (40 + 2)) i c)) (40 + 3) (upd (χ (40 + 3)) i d)) (40 + 4) (upd (χ (40 + 4)) i 0)) (40 + 4) i = 0 from pk_us]
    · refine (hf _ (by omega) (by omega) (by omega)).trans ((qx_sl h i (by omega)).trans ?_)
      rw [show (qx_sold χ nS a b c d) 40 i = χ 40 i from pk_un e, show (qx_sold χ nS a b c d) 41 i = χ 41 i from pk_un e, show (qx_sold χ nS a b c d) 42 i = χ 42 i from pk_un e, show (qx_sold χ nS a b c d) 43 i = χ 43 i from pk_un e, show (qx_sold χ nS a b c d) 44 i = χ 44 i from pk_un e]
  · intro i hi
    rw [show (qx_sold χ nS a b c d) 45 = χ 45 from rfl, show (qx_sold χ nS a b c d) 46 = χ 46 from rfl, show (qx_sold χ nS a b c d) 47 = χ 47 from rfl, show (qx_sold χ nS a b c d) 48 = χ 48 from rfl, show (qx_sold χ nS a b c d) 49 = χ 49 from rfl]
    exact (hf _ (by omega) (by omega) (by omega)).trans (qx_em h i hi)
  · exact ⟨fun i h1 h2 => (hf _ (by omega) (by omega) (by omega)).trans ((qx_no h).1 i (by omega) h2), fun i h1 h2 => (hf _ (by omega) (by omega) (by omega)).trans ((qx_no h).2 i h1 h2)⟩
  · rw [eo, ek 1 (by omega) (by omega), (qx_ct h).1]
    exact ⟨nI_1 _, (qx_ct h).2.1, by omega, by omega⟩
theorem qx_a_emba {D : va_G} {χ : Nat → Nat → Int32} {nS nE : Nat} {ad : Nat → Nat} {g g' : qw_G} (h : qx_P D χ nS nE ad g) (hn : nE < 40) {a b c d : Int32} (h0 : g' 0 = some (.inr (5, [.ref (ad 1), .ref (ad 2), .ref (ad 3), .ref (ad 4), .int (χ 0 0), .int (χ 1 0 + 1), .int (χ 2 0), .int (χ 3 0), .int (χ 4 0)]))) (h2 : g' 3 = some (.inl (D.1 25, 40, .inr (.inr (.inr (.inr (va_up (fun i => if i < nE then some (ad (2000 + i)) else none) nE (some (ad (2000 + nE))))))))) ) (hu : g' (2000 + nE) = some (.inr (0, [.int a, .int b, .int c, .int d, .int 0]))) (hf : ∀ t, t ≠ 0 → t ≠ 3 → t ≠ 2000 + nE → g' t = g t) : qx_P D (qx_emba χ nE a b c d) nS (nE + 1) ad g' := by
  have hb := (qx_ct h).2.2
  have ek : ∀ j, j < 40 → j ≠ 1 → (qx_emba χ nE a b c d) j = χ j := fun j hj h => qx_5_ne h (Or.inl (by omega))
  have eh : ∀ j, 50 ≤ j → (qx_emba χ nE a b c d) j = χ j := fun j hj => qx_5_ne (by omega) (Or.inr (by omega))
  have eo : (qx_emba χ nE a b c d) 1 0 = χ 1 0 + 1 := rfl
  refine ⟨?_, ?_, ?_, ?_, ?_, ?_, ?_, ?_, ?_, ?_, ?_, ?_, ?_, ?_, ?_, ?_⟩
  · rw [h0, ek 0 (by omega) (by omega), ek 2 (by omega) (by omega), ek 3 (by omega) (by omega), ek 4 (by omega) (by omega), eo]
  · exact (hf _ (by omega) (by omega) (by omega)).trans (qx_ta h)
  · exact (hf _ (by omega) (by omega) (by omega)).trans (qx_sa h)
  · rw [h2, qx_lst]
  · exact (hf _ (by omega) (by omega) (by omega)).trans (qx_eq h)
  · exact (hf _ (by omega) (by omega) (by omega)).trans (qx_fa h)
  · intro i hi
    rw [ek 5 (by omega) (by omega), ek 6 (by omega) (by omega)]
    exact (hf _ (by omega) (by omega) (by omega)).trans (qx_tb h i hi)
  · intro i hi
    rw [ek (10 + i) (by omega) (by omega)]
    exact (hf _ (by omega) (by omega) (by omega)).trans (qx_su h i hi)
  · intro i hi
    exact (hf _ (by omega) (by omega) (by omega)).trans (qx_ra h i hi)
  · intro i hi
    rw [ek 7 (by omega) (by omega), ek 8 (by omega) (by omega), ek 9 (by omega) (by omega), ek 13 (by omega) (by omega)]
    exact (hf _ (by omega) (by omega) (by omega)).trans (qx_rp h i hi)
  · intro i hi
    rw [ek (20 + i) (by omega) (by omega)]
    exact (hf _ (by omega) (by omega) (by omega)).trans (qx_nu h i hi)
  · intro i hi
    rw [eh (60 + i) (by omega)]
    exact (hf _ (by omega) (by omega) (by omega)).trans (qx_fr h i hi)
  · intro i hi
    rw [show (qx_emba χ nE a b c d) 40 = χ 40 from rfl, show (qx_emba χ nE a b c d) 41 = χ 41 from rfl, show (qx_emba χ nE a b c d) 42 = χ 42 from rfl, show (qx_emba χ nE a b c d) 43 = χ 43 from rfl, show (qx_emba χ nE a b c d) 44 = χ 44 from rfl]
    exact (hf _ (by omega) (by omega) (by omega)).trans (qx_sl h i hi)
  · intro i hi
    by_cases e : i = nE
    · subst e
      refine hu.trans ?_
      unfold qx_emba qx_5
      rw [show (va_up (va_up (va_up (va_up (va_up (sg_u χ 1 (χ 1 0 + 1)) 45 (upd (χ 45) i a)) (45 + 1) (upd (χ (45 + 1)) i b)) (45 + 2) (upd (χ (45 + 2)) i c)) (45 + 3) (upd (χ (45 + 3)) i d)) (45 + 4) (upd (χ (45 + 4)) i 0)) 45 i = a from pk_us, show (va_up (va_up (va_up (va_up (va_up (sg_u χ 1 (χ 1 0 + 1)) 45 (upd (χ 45) i a)) (45 + 1) (upd (χ (45 + 1)) i b)) (45 + 2) (upd (χ (45 + 2)) i c)) (45 + 3) (upd (χ (45 + 3)) i d)) (45 + 4) (upd (χ (45 + 4)) i 0)) (45 + 1) i = b from pk_us, show (va_up (va_up (va_up (va_up (va_up (sg_u χ 1 (χ 1 0 + 1)) 45 (upd (χ 45) i a)) (45 + 1) (upd (χ (45 + 1)) i b)) (45 + 2) (upd (χ (45 + 2)) i c)) (45 + 3) (upd (χ (45 + 3)) i d)) (45 + 4) (upd (χ (45 + 4)) i 0)) (45 + 2) i = c from pk_us, show (va_up (va_up (va_up (va_up (va_up (sg_u χ 1 (χ 1 0 + 1)) 45 (upd (χ 45) i a)) (45 + 1) (upd (χ (45 + 1)) i b)) (45 + 2) (upd (χ (45 + 2)) i c)) (45 + 3) (upd (χ (45 + 3)) i d)) (45 + 4) (upd (χ (45 + 4)) i 0)) (45 + 3) i = d from pk_us, show (va_up (va_up (va_up (va_up (va_up (sg_u χ 1 (χ 1 0 + 1)) 45 (upd (χ 45) i a)) (45 + 1) (upd (χ (45 + 1)) i b)) (45 + 2) (upd (χ (45 + 2)) i c)) (45 + 3) (upd (χ (45 + 3)) i d)) (45 + 4) (upd (χ (45 + 4)) i 0)) (45 + 4) i = 0 from pk_us]
    · refine (hf _ (by omega) (by omega) (by omega)).trans ((qx_em h i (by omega)).trans ?_)
      rw [show (qx_emba χ nE a b c d) 45 i = χ 45 i from pk_un e, show (qx_emba χ nE a b c d) 46 i = χ 46 i from pk_un e, show (qx_emba χ nE a b c d) 47 i = χ 47 i from pk_un e, show (qx_emba χ nE a b c d) 48 i = χ 48 i from pk_un e, show (qx_emba χ nE a b c d) 49 i = χ 49 i from pk_un e]
  · exact ⟨fun i h1 h2 => (hf _ (by omega) (by omega) (by omega)).trans ((qx_no h).1 i h1 h2), fun i h1 h2 => (hf _ (by omega) (by omega) (by omega)).trans ((qx_no h).2 i (by omega) h2)⟩
  · rw [eo, ek 0 (by omega) (by omega), (qx_ct h).2.1]
    exact ⟨(qx_ct h).1, nI_1 _, by omega, by omega⟩
set_option maxHeartbeats 4000000 in
set_option maxRecDepth 100000 in
theorem k_X4_init {l : Launch} (hst : l.stackTraces = false) (D : va_G) (ad : Nat → Nat) (g : qw_G) (u : Nat) (hu : g u = some (.inr (3, [.int 0, .int 0, .int 0, .int 0, .int 0]))) (x1 x2 x3 x4 : Int32) : qw_M l yX4_init [Cond.code yX4_init cX4_init 5 none] { frames := 1, cells := 0, slots := 0, locals := 40 } D ad g [(.ref (ad u)), (.int x1), (.int x2), (.int x3), (.int x4)] (qx_ini ad g u (.inr (3, [.int x1, .int x2, .int x3, .int x4, .int 0]))) 0 0 := by
  refine qw_M.of (maxL := 5) (own := RX4) (lv := [(0, (.ref (ad u))), (1, (.int x1)), (2, (.int x2)), (3, (.int x3)), (4, (.int x4))]) hst (by decide) rfl rfl (Nat.le_of_ble_eq_true rfl) ?_
  intro p e s m args below meth c A C hin
  refine qr_aload_n C dX4_init_0 rfl 0 rfl ?_
  refine qr_obj C go_X4.1 go_X4.2.1 go_X4.2.2 (Nat.le_of_ble_eq_true rfl) (Nat.le_of_ble_eq_true rfl) dX4_init_1 ?_
  refine qr_aload_n C dX4_init_4 rfl 0 rfl ?_
  refine qr_iload_n C dX4_init_5 rfl 1 rfl ?_
  refine pf_X4_9 C hin (u) (hu) rfl rfl rfl (Nat.le_of_ble_eq_true rfl) rfl dX4_init_6 ?_
  generalize hg2 : va_up g (u) _ = g1
  have f3 : g1 (u) = some (.inr (3, [(.int x1), (.int 0), (.int 0), (.int 0), (.int 0)])) := by rw [← hg2]; exact va_up_self _ _ _
  refine qr_aload_n C dX4_init_9 rfl 0 rfl ?_
  refine qr_iload_n C dX4_init_10 rfl 2 rfl ?_
  refine pf_X4_15 C hin (u) (f3) rfl rfl rfl (Nat.le_of_ble_eq_true rfl) rfl dX4_init_11 ?_
  generalize hg5 : va_up g1 (u) _ = g4
  have f6 : g4 (u) = some (.inr (3, [(.int x1), (.int x2), (.int 0), (.int 0), (.int 0)])) := by rw [← hg5]; exact va_up_self _ _ _
  refine qr_aload_n C dX4_init_14 rfl 0 rfl ?_
  refine qr_iload_n C dX4_init_15 rfl 3 rfl ?_
  refine pf_X4_18 C hin (u) (f6) rfl rfl rfl (Nat.le_of_ble_eq_true rfl) rfl dX4_init_16 ?_
  generalize hg8 : va_up g4 (u) _ = g7
  have f9 : g7 (u) = some (.inr (3, [(.int x1), (.int x2), (.int x3), (.int 0), (.int 0)])) := by rw [← hg8]; exact va_up_self _ _ _
  refine qr_aload_n C dX4_init_19 rfl 0 rfl ?_
  refine qr_iload C dX4_init_20 4 rfl ?_
  refine pf_X4_21 C hin (u) (f9) rfl rfl rfl (Nat.le_of_ble_eq_true rfl) rfl dX4_init_22 ?_
  generalize hg11 : va_up g7 (u) _ = g10
  have f12 : g10 (u) = some (.inr (3, [(.int x1), (.int x2), (.int x3), (.int x4), (.int 0)])) := by rw [← hg11]; exact va_up_self _ _ _
  exact qr_vret C rfl (Nat.le_of_ble_eq_true rfl) (Nat.le_of_ble_eq_true rfl) dX4_init_25 (⟨rfl, rfl, f12, fun t1 ht1 => ((congrFun hg11 t1).symm.trans ((va_up_ne _ _ (by omega)).trans ((congrFun hg8 t1).symm.trans ((va_up_ne _ _ (by omega)).trans ((congrFun hg5 t1).symm.trans ((va_up_ne _ _ (by omega)).trans ((congrFun hg2 t1).symm.trans ((va_up_ne _ _ (by omega)).trans rfl))))))))⟩)
set_option maxHeartbeats 4000000 in
set_option maxRecDepth 100000 in
theorem k_X1_init {l : Launch} (hst : l.stackTraces = false) (D : va_G) (ad : Nat → Nat) (g : qw_G) (u : Nat) (hu : g u = some (.inr (0, [.int 0, .int 0, .int 0, .int 0, .int 0]))) (x1 x2 x3 x4 : Int32) : qw_M l yX1_init [Cond.code yX1_init cX1_init 5 none] { frames := 1, cells := 0, slots := 0, locals := 40 } D ad g [(.ref (ad u)), (.int x1), (.int x2), (.int x3), (.int x4)] (qx_ini ad g u (.inr (0, [.int x1, .int x2, .int x3, .int x4, .int 0]))) 0 0 := by
  refine qw_M.of (maxL := 5) (own := RX1) (lv := [(0, (.ref (ad u))), (1, (.int x1)), (2, (.int x2)), (3, (.int x3)), (4, (.int x4))]) hst (by decide) rfl rfl (Nat.le_of_ble_eq_true rfl) ?_
  intro p e s m args below meth c A C hin
  refine qr_aload_n C dX1_init_0 rfl 0 rfl ?_
  refine qr_obj C go_X1.1 go_X1.2.1 go_X1.2.2 (Nat.le_of_ble_eq_true rfl) (Nat.le_of_ble_eq_true rfl) dX1_init_1 ?_
  refine qr_aload_n C dX1_init_4 rfl 0 rfl ?_
  refine qr_iload_n C dX1_init_5 rfl 1 rfl ?_
  refine pf_X1_7 C hin (u) (hu) rfl rfl rfl (Nat.le_of_ble_eq_true rfl) rfl dX1_init_6 ?_
  generalize hg2 : va_up g (u) _ = g1
  have f3 : g1 (u) = some (.inr (0, [(.int x1), (.int 0), (.int 0), (.int 0), (.int 0)])) := by rw [← hg2]; exact va_up_self _ _ _
  refine qr_aload_n C dX1_init_9 rfl 0 rfl ?_
  refine qr_iload_n C dX1_init_10 rfl 2 rfl ?_
  refine pf_X1_13 C hin (u) (f3) rfl rfl rfl (Nat.le_of_ble_eq_true rfl) rfl dX1_init_11 ?_
  generalize hg5 : va_up g1 (u) _ = g4
  have f6 : g4 (u) = some (.inr (0, [(.int x1), (.int x2), (.int 0), (.int 0), (.int 0)])) := by rw [← hg5]; exact va_up_self _ _ _
  refine qr_aload_n C dX1_init_14 rfl 0 rfl ?_
  refine qr_iload_n C dX1_init_15 rfl 3 rfl ?_
  refine pf_X1_16 C hin (u) (f6) rfl rfl rfl (Nat.le_of_ble_eq_true rfl) rfl dX1_init_16 ?_
  generalize hg8 : va_up g4 (u) _ = g7
  have f9 : g7 (u) = some (.inr (0, [(.int x1), (.int x2), (.int x3), (.int 0), (.int 0)])) := by rw [← hg8]; exact va_up_self _ _ _
  refine qr_aload_n C dX1_init_19 rfl 0 rfl ?_
  refine qr_iload C dX1_init_20 4 rfl ?_
  refine pf_X1_19 C hin (u) (f9) rfl rfl rfl (Nat.le_of_ble_eq_true rfl) rfl dX1_init_22 ?_
  generalize hg11 : va_up g7 (u) _ = g10
  have f12 : g10 (u) = some (.inr (0, [(.int x1), (.int x2), (.int x3), (.int x4), (.int 0)])) := by rw [← hg11]; exact va_up_self _ _ _
  exact qr_vret C rfl (Nat.le_of_ble_eq_true rfl) (Nat.le_of_ble_eq_true rfl) dX1_init_25 (⟨rfl, rfl, f12, fun t1 ht1 => ((congrFun hg11 t1).symm.trans ((va_up_ne _ _ (by omega)).trans ((congrFun hg8 t1).symm.trans ((va_up_ne _ _ (by omega)).trans ((congrFun hg5 t1).symm.trans ((va_up_ne _ _ (by omega)).trans ((congrFun hg2 t1).symm.trans ((va_up_ne _ _ (by omega)).trans rfl))))))))⟩)
