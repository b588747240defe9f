/-! the law, call by call: what the class and the model must have in common is RL -/
/-- what the walks need of the two states -/
def ql_wf (χ : Nat → Nat → Int32) (nS nE : Nat) (σ : Nat → Nat → Int32) : Prop := σ 2 0 = nI nS ∧ σ 9 0 = nI nE ∧ (∀ i, i < nS → ∃ t, t < 3 ∧ σ 3 i = nI t) ∧ (∀ i, i < nE → ∃ t, t < 3 ∧ σ 10 i = nI t) ∧ (∀ i, i < nE → ∃ t, t < 4 ∧ σ 12 i = nI t) ∧ (∀ i, i < nS → ∃ t a b, t < 3 ∧ a < 4 ∧ b < 5 ∧ χ 40 i = nI t ∧ χ 41 i = nI a ∧ χ 42 i = nI b) ∧ (∀ i, i < nE → ∃ t v, t < 3 ∧ v < 5 ∧ χ 45 i = nI t ∧ χ 47 i = nI v) ∧ (∀ j, χ 7 j = 0 ∨ χ 7 j = 1)
def ql_pk (c : Int32) : Int32 → Prop := fun k => ¬ k = 0 ∧ c = k
theorem qx_op.cp {D : va_G} {ad : Nat → Nat} {g : qw_G} {nS nE : Nat} {c v : Int32} {χ : Nat → Nat → Int32} : qx_cp ad g (qx_op D ad g nS nE c v χ) := fun _ _ _ h => ⟨⟨_, h.2.1.symm⟩, h.2.2.2.2 150 (by omega), by rw [h.2.2.1]⟩
theorem qx_opn.cp {D : va_G} {ad : Nat → Nat} {g : qw_G} {nS nE : Nat} {c v : Int32} {χ : Nat → Nat → Int32} : qx_cp ad g (qx_opn D ad g nS nE c v χ) := fun _ _ _ h => ⟨⟨_, h.2.1.symm⟩, h.2.2.2.2 150 (by omega), h.2.2.1 150 (by omega)⟩
theorem sg_vj {x y : Int32} (h : some (Value.int x) = some (Value.int y)) : x = y := by injection h with h; injection h
theorem lg_cmp_same {x y : Int64} (h : x = y) : lg_cmp x y = 0 := by subst h; unfold lg_cmp; simp
theorem lg_cmp_same2 {x y z : Int64} (h : x = y) (h2 : y = z) : lg_cmp x z = 0 := lg_cmp_same (h.trans h2)
set_option maxHeartbeats 4000000 in
set_option maxRecDepth 100000 in
theorem q_case_3 {p : Program} {l : Launch} {e : Env} {s : State} {m : MethodId} {args : Array Value} {below : List Frame} {meth : Method} {c : Code} {D : va_G} {A : Nat → Prop} {Q : State → Prop} {k n : Nat} {ad : Nat → Nat} {g : qw_G} (C : qw_C p l s m args meth c D A 7 cL_law RL (some .boolean)) (hst : l.stackTraces = false) (RLr : (Nat → Nat → Int32) → Nat → Nat → (Nat → Nat → Int32) → Prop) {b L : Nat} {xs : Nat → Int32} (hX : ql_S b L xs A s) (hL : L ≤ 3072) {i : Nat} (hi : i + 6 ≤ L) (hk : k + 5 ≤ 601024) (hn : n + 30 ≤ 7293034) {χ σ : Nat → Nat → Int32} {nS nE : Nat} {r : Int32} {F : Nat → Int64} (hXP : qx_P D χ nS nE ad g) (hMP : qm_P D σ r ad g) (hO : g 150 = some (.inl (D.1 22, 1, .inr (.inl F)))) (hw : ql_wf χ nS nE σ) (hag : ((∀ E, qx_px ((cx_sum χ (xs (i + 1)) (xs (i + 2)) (xs (i + 3)))) E → (E = qw_E1 ∧ ql_pk ((sm_cent σ (xs (i + 1)) (xs (i + 2)) (xs (i + 3)))) 1)) ∧ (((cx_sum χ (xs (i + 1)) (xs (i + 2)) (xs (i + 3)))) = 0 → ((sm_cent σ (xs (i + 1)) (xs (i + 2)) (xs (i + 3)))) = 0 ∧ qx_oi ((χ (10 + (xs (i + 1)).toNatClampNeg) (cx_entv χ (xs (i + 1)) (xs (i + 2)) (xs (i + 3))).toNatClampNeg)) = qx_oi ((sm_sumO σ (xs (i + 1)) (sm_ent σ (xs (i + 1)) (xs (i + 2)) (xs (i + 3))) nS)) ∧ RLr ((χ)) nS nE (σ)) ∧ RLr χ nS nE σ)) (kk : ∀ (ad' : Nat → Nat) (g' : qw_G) (χ' : Nat → Nat → Int32) (nS' nE' : Nat) (σ' : Nat → Nat → Int32) (r' : Int32) (F' : Nat → Int64), qx_P D χ' nS' nE' ad' g' → qm_P D σ' r' ad' g' → g' 150 = some (.inl (D.1 22, 1, .inr (.inl F'))) → RLr χ' nS' nE' σ' → qw_W p l e { frames := 12, cells := 601024, slots := 7293034, locals := 448 } s m args below meth c D A 7 Q (k + 5) (n + 30) ad' g' 1481 [(0, .ref b), (1, .ref (ad' 0)), (2, .ref (ad' 100)), (3, .ref (ad' 150)), (4, .int (nI i))] []) : qw_W p l e { frames := 12, cells := 601024, slots := 7293034, locals := 448 } s m args below meth c D A 7 Q k n ad g 347 [(0, .ref b), (1, .ref (ad 0)), (2, .ref (ad 100)), (3, .ref (ad 150)), (4, .int (nI i))] [] := by
  have hb := (qx_ct hXP).2.2
  refine qr_aload_n C dL_law_347 rfl 1 rfl ?_
  refine qr_aload_n C dL_law_348 rfl 0 rfl ?_
  refine qr_iload C dL_law_349 4 rfl ?_
  refine qr_iconst (v := 1) C dL_law_351 (by decide) ?_
  refine qr_iadd C dL_law_352 ?_
  refine qr_sld C hX (j := i + 1) (by rw [show (1 : Int32) = nI 1 from rfl, nI_add]) (by omega) (by omega) dL_law_353 ?_
  refine qr_aload_n C dL_law_354 rfl 0 rfl ?_
  refine qr_iload C dL_law_355 4 rfl ?_
  refine qr_iconst (v := 2) C dL_law_357 (by decide) ?_
  refine qr_iadd C dL_law_358 ?_
  refine qr_sld C hX (j := i + 2) (by rw [show (2 : Int32) = nI 2 from rfl, nI_add]) (by omega) (by omega) dL_law_359 ?_
  refine qr_aload_n C dL_law_360 rfl 0 rfl ?_
  refine qr_iload C dL_law_361 4 rfl ?_
  refine qr_iconst (v := 3) C dL_law_363 (by decide) ?_
  refine qr_iadd C dL_law_364 ?_
  refine qr_sld C hX (j := i + 3) (by rw [show (3 : Int32) = nI 3 from rfl, nI_add]) (by omega) (by omega) dL_law_365 ?_
  refine qr_aload_n C dL_law_366 rfl 3 rfl ?_
  refine qr_callSH C (na := 5) (As := [(.ref (ad 0)), (.int (xs (i + 1))), (.int (xs (i + 2))), (.int (xs (i + 3))), (.ref (ad 150))]) (rest := []) (k_L_sum hst D ad g (xs (i + 1)) (xs (i + 2)) (xs (i + 3)) F hO (qx_x hXP) _ _ (ql_pk ((sm_cent σ (xs (i + 1)) (xs (i + 2)) (xs (i + 3))))) (k_X6_sum hst D ad g χ nS nE hXP (xs (i + 1)) (xs (i + 2)) (xs (i + 3))) qx_op.cp hag.1) gi_L_95 ⟨by decide, by decide, by decide +kernel⟩ rfl rfl (Nat.le_of_ble_eq_true rfl) rfl rfl ⟨(Nat.le_of_ble_eq_true rfl), (Nat.le_of_ble_eq_true rfl)⟩ ⟨(show k + 3 ≤ 601024 by omega), (show n + 18 ≤ 7293034 by omega)⟩ dL_law_367 (fun v ad2 gz hpo => ?_)
  rcases hpo with ⟨V, gy, hcp, rfl, hg⟩ | ⟨k0, hk0, rfl, rfl, rfl⟩
  · skip
    obtain ⟨hc0, hv, had, hXn, hfr⟩ := qx_op.n hcp
    replace hv := sg_vj hv
    obtain ⟨hm0, hov, hRL⟩ := hag.2.1 hc0
    have hgz : ∀ t, t ≠ 150 → gz t = gy t := fun t ht => by rw [← hg]; exact va_up_ne _ _ ht
    have hO2 : gz 150 = some (.inl (D.1 22, 1, .inr (.inl (vp_updL F 0 (qx_oi V))))) := by rw [← hg]; exact va_up_self _ _ _
    have hX2 := qx_keep hXn (g' := gz) (fun t ht => hgz t (by omega))
    have hM2 := qm_keep hMP (g' := gz) (ad' := ad2) (fun t ht => (hgz t (by omega)).trans (hfr t (by omega))) (fun t ht => had t (by omega))
    refine qw_to (lv' := [(0, (.ref b)), (1, (.ref (ad2 0))), (2, (.ref (ad2 100))), (3, (.ref (ad2 150))), (4, (.int (nI i)))]) (st' := [(.int (0 : Int32))]) rfl rfl (by rw [had 0 (by omega), had 100 (by omega), had 150 (by omega)]) rfl ?_
    refine qr_istore (lv' := [(5, (.int (0 : Int32))), (0, (.ref b)), (1, (.ref (ad2 0))), (2, (.ref (ad2 100))), (3, (.ref (ad2 150))), (4, (.int (nI i)))]) C dL_law_370 (by decide) rfl ?_
    refine qr_aload_n C dL_law_372 rfl 3 rfl ?_
    refine qr_aload_n C dL_law_373 rfl 1 rfl ?_
    refine qr_iload C dL_law_374 5 rfl ?_
    refine qr_iconst (v := 1) C dL_law_376 (by decide) ?_
    refine qr_iadd C dL_law_377 ?_
    refine qr_sld C hX (j := i + 1) (by rw [show (1 : Int32) = nI 1 from rfl, nI_add]) (by omega) (by omega) dL_law_378 ?_
    refine qr_aload_n C dL_law_379 rfl 1 rfl ?_
    refine qr_iload C dL_law_380 5 rfl ?_
    refine qr_iconst (v := 2) C dL_law_382 (by decide) ?_
    refine qr_iadd C dL_law_383 ?_
    refine qr_sld C hX (j := i + 2) (by rw [show (2 : Int32) = nI 2 from rfl, nI_add]) (by omega) (by omega) dL_law_384 ?_
    refine qr_aload_n C dL_law_385 rfl 1 rfl ?_
    refine qr_iload C dL_law_386 5 rfl ?_
    refine qr_iconst (v := 3) C dL_law_388 (by decide) ?_
    refine qr_iadd C dL_law_389 ?_
    refine qr_sld C hX (j := i + 3) (by rw [show (3 : Int32) = nI 3 from rfl, nI_add]) (by omega) (by omega) dL_law_390 ?_
    refine qr_callV C (na := 3) (As := [(.int (xs (i + 1))), (.int (xs (i + 2))), (.int (xs (i + 3)))]) (rest := []) (k_X7_sum hst D ad2 gz σ r hM2 nS hw.1 hb.1 (xs (i + 1)) (xs (i + 2)) (xs (i + 3))) (100) (hM2.1) rfl rfl gi_L_98 rfl ⟨by decide, by decide, by decide +kernel⟩ rfl rfl (Nat.le_of_ble_eq_true rfl) rfl rfl ⟨Nat.le_of_ble_eq_true rfl, Nat.le_of_ble_eq_true rfl⟩ ⟨(show (k + 3) + 0 ≤ 601024 by omega), (show (n + 18) + 0 ≤ 7293034 by omega)⟩ dL_law_391 (fun v ad2 gm hmp => ?_)
    obtain ⟨rfl, hfm, ⟨hmc, rfl, hP⟩ | ⟨hmc, rfl, hP⟩⟩ := hmp
    · skip
      exact absurd hm0 hmc
    · skip
      refine qr_istore (lv' := [(6, (.int ((sm_sumO σ (xs (i + 1)) (sm_ent σ (xs (i + 1)) (xs (i + 2)) (xs (i + 3))) nS)))), (5, (.int (0 : Int32))), (0, (.ref b)), (1, (.ref (ad2 0))), (2, (.ref (ad2 100))), (3, (.ref (ad2 150))), (4, (.int (nI i)))]) C dL_law_394 (by decide) rfl ?_
      refine qr_aload_n C dL_law_396 rfl 4 rfl ?_
      refine qr_callV C (na := 0) (As := []) (rest := []) (k_X7_thrown hst D ad2 gm (σ) ((sm_cent σ (xs (i + 1)) (xs (i + 2)) (xs (i + 3)))) hP) (100) (hP.1) rfl rfl gi_L_84 rfl ⟨by decide, by decide, by decide +kernel⟩ rfl rfl (Nat.le_of_ble_eq_true rfl) rfl rfl ⟨Nat.le_of_ble_eq_true rfl, Nat.le_of_ble_eq_true rfl⟩ ⟨(show ((k + 3) + 0) + 0 ≤ 601024 by omega), (show ((n + 18) + 0) + 0 ≤ 7293034 by omega)⟩ dL_law_397 (fun v ad2 gt hpt => ?_)
      obtain ⟨rfl, rfl, rfl⟩ := hpt
      refine qr_iload C dL_law_400 1 rfl ?_
      refine qr_icmp_eq_t C 407 dL_law_402 (by decide) hm0 ?_
      refine qr_iload C dL_law_407 1 rfl ?_
      refine qr_if_ne_f C 424 dL_law_409 (by decide) rfl ?_
      refine qr_aload_n C dL_law_412 rfl 5 rfl ?_
      refine qr_iconst (v := 0) C dL_law_413 (by decide) ?_
      refine qr_lald C (x := (qx_oi V)) (150) (((hfm 150 (by omega)).trans hO2)) rfl (j := 0) rfl (by omega) rfl rfl dL_law_414 ?_
      refine qr_iload C dL_law_415 0 rfl ?_
      refine qr_i2l C dL_law_417 ?_
      refine qr_lcmp C dL_law_418 ?_
      refine qr_if_eq_t C 424 dL_law_419 (by decide) (lg_cmp_same (by rw [← hv]; exact hov)) ?_
      refine qr_goto (tgt := 1481) C dL_law_424 (by decide) ?_
      refine qw_pick [2, 3, 4, 5, 6] (lv' := [(0, (.ref b)), (1, (.ref (ad2 0))), (2, (.ref (ad2 100))), (3, (.ref (ad2 150))), (4, (.int (nI i)))]) rfl ?_
      exact qw_widen (by omega) (by omega) (kk ad2 gm _ _ _ _ _ _ (qx_keep hX2 (fun t ht => hfm t (by omega))) hP (((hfm 150 (by omega)).trans hO2)) hRL)
  · skip
    refine qr_istore (lv' := [(5, (.int k0)), (0, (.ref b)), (1, (.ref (ad 0))), (2, (.ref (ad 100))), (3, (.ref (ad 150))), (4, (.int (nI i)))]) C dL_law_370 (by decide) rfl ?_
    refine qr_aload_n C dL_law_372 rfl 3 rfl ?_
    refine qr_aload_n C dL_law_373 rfl 1 rfl ?_
    refine qr_iload C dL_law_374 5 rfl ?_
    refine qr_iconst (v := 1) C dL_law_376 (by decide) ?_
    refine qr_iadd C dL_law_377 ?_
    refine qr_sld C hX (j := i + 1) (by rw [show (1 : Int32) = nI 1 from rfl, nI_add]) (by omega) (by omega) dL_law_378 ?_
    refine qr_aload_n C dL_law_379 rfl 1 rfl ?_
    refine qr_iload C dL_law_380 5 rfl ?_
    refine qr_iconst (v := 2) C dL_law_382 (by decide) ?_
    refine qr_iadd C dL_law_383 ?_
    refine qr_sld C hX (j := i + 2) (by rw [show (2 : Int32) = nI 2 from rfl, nI_add]) (by omega) (by omega) dL_law_384 ?_
    refine qr_aload_n C dL_law_385 rfl 1 rfl ?_
    refine qr_iload C dL_law_386 5 rfl ?_
    refine qr_iconst (v := 3) C dL_law_388 (by decide) ?_
    refine qr_iadd C dL_law_389 ?_
    refine qr_sld C hX (j := i + 3) (by rw [show (3 : Int32) = nI 3 from rfl, nI_add]) (by omega) (by omega) dL_law_390 ?_
    refine qr_callV C (na := 3) (As := [(.int (xs (i + 1))), (.int (xs (i + 2))), (.int (xs (i + 3)))]) (rest := []) (k_X7_sum hst D ad g σ r hMP nS hw.1 hb.1 (xs (i + 1)) (xs (i + 2)) (xs (i + 3))) (100) (hMP.1) rfl rfl gi_L_98 rfl ⟨by decide, by decide, by decide +kernel⟩ rfl rfl (Nat.le_of_ble_eq_true rfl) rfl rfl ⟨Nat.le_of_ble_eq_true rfl, Nat.le_of_ble_eq_true rfl⟩ ⟨(show (k + 3) + 0 ≤ 601024 by omega), (show (n + 18) + 0 ≤ 7293034 by omega)⟩ dL_law_391 (fun v ad2 gm hmp => ?_)
    obtain ⟨rfl, hfm, ⟨hmc, rfl, hP⟩ | ⟨hmc, rfl, hP⟩⟩ := hmp
    · skip
      refine qr_istore (lv' := [(6, (.int (0 : Int32))), (5, (.int k0)), (0, (.ref b)), (1, (.ref (ad 0))), (2, (.ref (ad 100))), (3, (.ref (ad 150))), (4, (.int (nI i)))]) C dL_law_394 (by decide) rfl ?_
      refine qr_aload_n C dL_law_396 rfl 4 rfl ?_
      refine qr_callV C (na := 0) (As := []) (rest := []) (k_X7_thrown hst D ad gm σ ((sm_cent σ (xs (i + 1)) (xs (i + 2)) (xs (i + 3)))) hP) (100) (hP.1) rfl rfl gi_L_84 rfl ⟨by decide, by decide, by decide +kernel⟩ rfl rfl (Nat.le_of_ble_eq_true rfl) rfl rfl ⟨Nat.le_of_ble_eq_true rfl, Nat.le_of_ble_eq_true rfl⟩ ⟨(show ((k + 3) + 0) + 0 ≤ 601024 by omega), (show ((n + 18) + 0) + 0 ≤ 7293034 by omega)⟩ dL_law_397 (fun v ad2 gt hpt => ?_)
      obtain ⟨rfl, rfl, rfl⟩ := hpt
      refine qr_iload C dL_law_400 1 rfl ?_
      refine qr_icmp_eq_t C 407 dL_law_402 (by decide) hk0.2 ?_
      refine qr_iload C dL_law_407 1 rfl ?_
      refine qr_if_ne_t C 424 dL_law_409 (by decide) hk0.1 ?_
      refine qr_goto (tgt := 1481) C dL_law_424 (by decide) ?_
      refine qw_pick [2, 3, 4, 5, 6] (lv' := [(0, (.ref b)), (1, (.ref (ad 0))), (2, (.ref (ad 100))), (3, (.ref (ad 150))), (4, (.int (nI i)))]) rfl ?_
      exact qw_widen (by omega) (by omega) (kk ad gm _ _ _ _ _ _ (qx_keep hXP (fun t ht => hfm t (by omega))) hP (((hfm 150 (by omega)).trans hO)) hag.2.2)
    · skip
      exact absurd (hk0.2.symm.trans hmc) hk0.1
