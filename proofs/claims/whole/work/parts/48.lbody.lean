/-! the law's body -/
theorem qz_X6 : ∀ j, j < 9 → defaultValue (tyX6 j) = vp_V [.null, .null, .null, .null, .int 0, .int 0, .int 0, .int 0, .int 0] j := fun j hj => match j, hj with | 0, _ => rfl | 1, _ => rfl | 2, _ => rfl | 3, _ => rfl | 4, _ => rfl | 5, _ => rfl | 6, _ => rfl | 7, _ => rfl | 8, _ => rfl | n + 9, h => absurd h (by omega)
/-- the same picture under other words for the addresses -/
theorem qx_ad1 {D : va_G} {χ : Nat → Nat → Int32} {nS nE : Nat} {ad ad' : Nat → Nat} {g : qw_G} (h : qx_P D χ nS nE ad g) (e : ∀ t, t < 100 → ad' t = ad t) (e1 : ∀ i, i < nS → ad' (1000 + i) = ad (1000 + i)) (e2 : ∀ i, i < nE → ad' (2000 + i) = ad (2000 + i)) : qx_P D χ nS nE ad' g := by
  refine ⟨?_, ?_, ?_, ?_, ?_, ?_, ?_, qx_su h, ?_, ?_, qx_nu h, qx_fr h, qx_sl h, qx_em h, qx_no h, qx_ct h⟩
  · rw [e 1 (by omega), e 2 (by omega), e 3 (by omega), e 4 (by omega)]; exact qx_x h
  · rw [qx_ta h]; congr 8; funext i; by_cases hi : i < 3
    · rw [if_pos hi, if_pos hi, e _ (by omega)]
    · rw [if_neg hi, if_neg hi]
  · rw [qx_sa h]; congr 8; funext i; by_cases hi : i < nS
    · rw [if_pos hi, if_pos hi, e1 _ hi]
    · rw [if_neg hi, if_neg hi]
  · rw [qx_ea h]; congr 8; funext i; by_cases hi : i < nE
    · rw [if_pos hi, if_pos hi, e2 _ hi]
    · rw [if_neg hi, if_neg hi]
  · rw [e 5 (by omega)]; exact qx_eq h
  · rw [qx_fa h]; congr 8; funext i; by_cases hi : i < 11
    · rw [if_pos hi, if_pos hi, e _ (by omega)]
    · rw [if_neg hi, if_neg hi]
  · intro i hi; rw [e _ (by omega), e _ (by omega)]; exact qx_tb h i hi
  · intro i hi; rw [qx_ra h i hi]; congr 8; funext v; by_cases hv : v < 4
    · rw [if_pos hv, if_pos hv, e _ (by omega)]
    · rw [if_neg hv, if_neg hv]
  · intro i hi; rw [e _ (by omega)]; exact qx_rp h i hi
set_option maxHeartbeats 4000000 in
set_option maxRecDepth 100000 in
theorem q_law {p : Program} {l : Launch} {e : Env} {s : State} {m : MethodId} {args : Array Value} {below : List Frame} {meth : Method} {c : Code} {D : va_G} {A : Nat → Prop} (C : qw_C p l s m args meth c D A 7 cL_law RL (some .boolean)) (hst : l.stackTraces = false) (RLr : (Nat → Nat → Int32) → Nat → Nat → (Nat → Nat → Int32) → Prop) (hA : ql_ags RLr) (hR : RLr (fun _ _ => 0) 0 0 (fun _ _ => 0)) {b L : Nat} {xs : Nat → Int32} (hX : ql_S b L xs A s) (hL : L ≤ 3072) (ad : Nat → Nat) : qw_W p l e { frames := 12, cells := 601024, slots := 7293034, locals := 448 } s m args below meth c D A 7 (MQ below (qw_Q (fun v _ _ => v = some (.int 1)) D A) args s 601024 7293034 A) 0 0 ad (fun _ => none) 0 [(0, .ref b)] [] := by
  refine qr_new C qi_X6 tyX6 tyX6_ok gc_L_8.1 gc_L_8.2.1 gc_L_8.2.2 [.null, .null, .null, .null, (.int 0), (.int 0), (.int 0), (.int 0), (.int 0)] qz_X6 (0) (rfl.trans (rfl)) (Nat.le_of_ble_eq_true rfl) (Nat.le_of_ble_eq_true rfl) dL_law_0 ?_
  intro q1
  generalize hA3 : va_up ad (0) q1 = ad2
  have hq6 : ad2 (0) = q1 := by rw [← hA3]; exact va_up_self _ _ _
  have had7 : ∀ t, t ≠ 0 → ad2 t = ad t := fun t ht => by rw [← hA3]; exact va_up_ne _ _ ht
  generalize hgn5 : va_up (fun _ => none) (0) _ = gn4
  have hne8 : ∀ t, t ≠ 0 → gn4 t = (fun _ => none) t := fun t ht => by rw [← hgn5]; exact va_up_ne _ _ ht
  have hnu9 : gn4 (0) = some (.inr (5, [.null, .null, .null, .null, (.int 0), (.int 0), (.int 0), (.int 0), (.int 0)])) := by rw [← hgn5]; exact va_up_self _ _ _
  refine qr_dup C dL_law_3 rfl ?_
  refine qr_callI (cret := none) C (na := 0) (As := []) (rest := [(.ref q1)]) (k_X6_init hst D ad2 gn4 q1 hq6 (hnu9) (fun t ht => ((hne8 t (by omega)).trans rfl).trans rfl)) gi_L_74.1 gi_L_74.2.1 gi_L_74.2.2.1 gi_L_74.2.2.2 rfl ⟨by decide, by decide, by decide +kernel⟩ rfl rfl (Nat.le_of_ble_eq_true rfl) rfl rfl ⟨Nat.le_of_ble_eq_true rfl, Nat.le_of_ble_eq_true rfl⟩ ⟨Nat.le_of_ble_eq_true rfl, Nat.le_of_ble_eq_true rfl⟩ dL_law_4 (fun v ad10 gc11 hpo12 => ?_)
  obtain ⟨rfl, z15, had14, hfr13⟩ := hpo12
  have pa16 : ad10 (0) = q1 := (had14 (0) (by omega)).trans hq6
  refine qr_astore_n (lv' := [(1, (.ref q1)), (0, (.ref b))]) C dL_law_7 rfl (by decide) rfl ?_
  refine qr_new C qi_X7 tyX7 tyX7_ok gc_L_75.1 gc_L_75.2.1 gc_L_75.2.2 [(.int 0), (.int 0), (.int 0), .null, .null, .null, .null, .null, .null, (.int 0), .null, .null, .null, .null, .null, .null, .null, .null, (.int 0), (.int 0)] qz_X7 (100) (((hfr13 (100) (by omega)).trans ((hne8 (100) (by omega)).trans rfl)).trans (rfl)) (Nat.le_of_ble_eq_true rfl) (Nat.le_of_ble_eq_true rfl) dL_law_8 ?_
  intro q17
  generalize hA19 : va_up ad10 (100) q17 = ad18
  have hq22 : ad18 (100) = q17 := by rw [← hA19]; exact va_up_self _ _ _
  have had23 : ∀ t, t ≠ 100 → ad18 t = ad10 t := fun t ht => by rw [← hA19]; exact va_up_ne _ _ ht
  generalize hgn21 : va_up gc11 (100) _ = gn20
  have hne24 : ∀ t, t ≠ 100 → gn20 t = gc11 t := fun t ht => by rw [← hgn21]; exact va_up_ne _ _ ht
  have hnu25 : gn20 (100) = some (.inr (6, [(.int 0), (.int 0), (.int 0), .null, .null, .null, .null, .null, .null, (.int 0), .null, .null, .null, .null, .null, .null, .null, .null, (.int 0), (.int 0)])) := by rw [← hgn21]; exact va_up_self _ _ _
  have f26 : gn20 (0) = gc11 (0) := hne24 (0) (by omega)
  have pa27 : ad18 (0) = q1 := (had23 (0) (by omega)).trans pa16
  refine qr_dup C dL_law_11 rfl ?_
  refine qr_callI (cret := none) C (na := 0) (As := []) (rest := [(.ref q17)]) (k_X7_init hst D ad18 gn20 q17 hq22 (hnu25) (fun t ht => ((hne24 t (by omega)).trans ((hfr13 t (by omega)).trans ((hne8 t (by omega)).trans rfl))).trans rfl)) gi_L_77.1 gi_L_77.2.1 gi_L_77.2.2.1 gi_L_77.2.2.2 rfl ⟨by decide, by decide, by decide +kernel⟩ rfl rfl (Nat.le_of_ble_eq_true rfl) rfl rfl ⟨Nat.le_of_ble_eq_true rfl, Nat.le_of_ble_eq_true rfl⟩ ⟨Nat.le_of_ble_eq_true rfl, Nat.le_of_ble_eq_true rfl⟩ dL_law_12 (fun v ad28 gc29 hpo30 => ?_)
  obtain ⟨rfl, z33, had32, hfr31⟩ := hpo30
  have f34 : gc29 (0) = gn20 (0) := hfr31 (0) (by omega)
  have pa35 : ad28 (0) = q1 := (had32 (0) (by omega)).trans pa27
  have pa36 : ad28 (100) = q17 := (had32 (100) (by omega)).trans hq22
  refine qr_astore_n (lv' := [(2, (.ref q17)), (1, (.ref q1)), (0, (.ref b))]) C dL_law_15 rfl (by decide) rfl ?_
  refine qr_iconst (v := 1) C dL_law_16 (by decide) ?_
  refine qr_newL C gA_long (N := 1) rfl rfl (150) (((hfr31 (150) (by omega)).trans ((hne24 (150) (by omega)).trans ((hfr13 (150) (by omega)).trans ((hne8 (150) (by omega)).trans rfl)))).trans (rfl)) (Nat.le_of_ble_eq_true rfl) (Nat.le_of_ble_eq_true rfl) dL_law_17 ?_
  intro q37
  generalize hA39 : va_up ad28 (150) q37 = ad38
  have hq42 : ad38 (150) = q37 := by rw [← hA39]; exact va_up_self _ _ _
  have had43 : ∀ t, t ≠ 150 → ad38 t = ad28 t := fun t ht => by rw [← hA39]; exact va_up_ne _ _ ht
  generalize hgn41 : va_up gc29 (150) _ = gn40
  have hne44 : ∀ t, t ≠ 150 → gn40 t = gc29 t := fun t ht => by rw [← hgn41]; exact va_up_ne _ _ ht
  have hnu45 : gn40 (150) = some (.inl (D.1 22, 1, .inr (.inl (fun _ => 0)))) := by rw [← hgn41]; exact va_up_self _ _ _
  have f46 : gn40 (0) = gc29 (0) := hne44 (0) (by omega)
  have f47 : gn40 (100) = gc29 (100) := hne44 (100) (by omega)
  have pa48 : ad38 (0) = q1 := (had43 (0) (by omega)).trans pa35
  have pa49 : ad38 (100) = q17 := (had43 (100) (by omega)).trans pa36
  refine qr_astore_n (lv' := [(3, (.ref q37)), (2, (.ref q17)), (1, (.ref q1)), (0, (.ref b))]) C dL_law_19 rfl (by decide) rfl ?_
  refine qr_iconst (v := 0) C dL_law_20 (by decide) ?_
  refine qr_istore (lv' := [(4, (.int (0 : Int32))), (3, (.ref q37)), (2, (.ref q17)), (1, (.ref q1)), (0, (.ref b))]) C dL_law_21 (by decide) rfl ?_
  have hXf : qx_P D (fun _ _ => 0) 0 0 ad38 gn40 := qx_keep (qx_ad1 z15 (fun t ht => ((had43 t (by omega)).trans ((had32 t (by omega)).trans ((had23 t (by omega)).trans rfl)))) (fun i hi => absurd hi (by omega)) (fun i hi => absurd hi (by omega))) (fun t ht => ((hne44 t (by omega)).trans ((hfr31 t (by omega)).trans ((hne24 t (by omega)).trans rfl))))
  have hMf : qm_P D (fun _ _ => 0) 0 ad38 gn40 := qm_keep z33 (fun t ht => ((hne44 t (by omega)).trans rfl)) (fun t ht => ((had43 t (by omega)).trans rfl))
  refine qw_pick [4, 3, 2, 1, 0] (lv' := [(0, (.ref b)), (1, (.ref q1)), (2, (.ref q17)), (3, (.ref q37)), (4, (.int (0 : Int32)))]) rfl ?_
  refine qw_to (lv' := [(0, .ref b), (1, .ref (ad38 0)), (2, .ref (ad38 100)), (3, .ref (ad38 150)), (4, .int (nI 0))]) (st' := []) rfl rfl (by rw [pa48, pa49, hq42]; rfl) rfl ?_
  exact q_loop C hst RLr hA hX hL 512 0 _ _ ad38 gn40 (fun _ _ => 0) 0 0 (fun _ _ => 0) 0 _ (by omega) (by omega) (Nat.le_of_ble_eq_true rfl) (Nat.le_of_ble_eq_true rfl) hXf hMf (hnu45) hR
