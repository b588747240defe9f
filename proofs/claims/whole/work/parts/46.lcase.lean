/-! the law, call by call: solving, and what throws nothing -/
theorem qx_kbp.cp {D : va_G} {ad : Nat → Nat} {g : qw_G} {nS nE : Nat} {c x1 x2 : Int32} {χ : Nat → Nat → Int32} : qx_cp ad g (qx_kbp D ad g nS nE χ c x1 x2) := fun _ _ _ h => by
  obtain ⟨M0, M', h1, h2, h3, h4, h5, h6⟩ := h
  exact ⟨⟨_, h3.symm⟩, h6 150 (by omega), by rw [h4]⟩
set_option maxHeartbeats 4000000 in
set_option maxRecDepth 100000 in
theorem q_case_18 {p : Program} {l : Launch} {e : Env} {s : State} {m : MethodId} {args : Array Value} {below : List Frame} {meth : Method} {c : Code} {D : va_G} {A : Nat → Prop} {Q : State → Prop} {k n : Nat} {ad : Nat → Nat} {g : qw_G} (C : qw_C p l s m args meth c D A 7 cL_law RL (some .boolean)) (hst : l.stackTraces = false) (RLr : (Nat → Nat → Int32) → Nat → Nat → (Nat → Nat → Int32) → Prop) {b L : Nat} {xs : Nat → Int32} (hX : ql_S b L xs A s) (hL : L ≤ 3072) {i : Nat} (hi : i + 6 ≤ L) (hk : k + 5 ≤ 601024) (hn : n + 30 ≤ 7293034) {χ σ : Nat → Nat → Int32} {nS nE : Nat} {r : Int32} {F : Nat → Int64} (hXP : qx_P D χ nS nE ad g) (hMP : qm_P D σ r ad g) (hO : g 150 = some (.inl (D.1 22, 1, .inr (.inl F)))) (hw : ql_wf χ nS nE σ) (hag : ((∀ E, qx_px (cx_kb (xs (i + 1)) (xs (i + 2))) E → (E = qw_E1 ∧ ql_pk ((sm_cE (xs (i + 1)) (xs (i + 2)))) 1)) ∧ (∀ M0 M1 : Nat → Nat → Int32, (∀ r k, r < 11 → k < 30 → M0 r k = cq_w (χ 4 0) r k) → (cx_kb (xs (i + 1)) (xs (i + 2))) = 0 → ((sm_cE (xs (i + 1)) (xs (i + 2)))) = 0 ∧ qx_ob (cx_kbs χ M0 (xs (i + 1)) (xs (i + 2))) = qx_ob ((sm_known σ (xs (i + 1)) (xs (i + 2)))) ∧ RLr (qw_upN χ 60 11 M1) nS nE (σ)) ∧ RLr χ nS nE σ)) (kk : ∀ (ad' : Nat → Nat) (g' : qw_G) (χ' : Nat → Nat → Int32) (nS' nE' : Nat) (σ' : Nat → Nat → Int32) (r' : Int32) (F' : Nat → Int64), qx_P D χ' nS' nE' ad' g' → qm_P D σ' r' ad' g' → g' 150 = some (.inl (D.1 22, 1, .inr (.inl F'))) → RLr χ' nS' nE' σ' → qw_W p l e { frames := 12, cells := 601024, slots := 7293034, locals := 448 } s m args below meth c D A 7 Q (k + 5) (n + 30) ad' g' 1481 [(0, .ref b), (1, .ref (ad' 0)), (2, .ref (ad' 100)), (3, .ref (ad' 150)), (4, .int (nI i))] []) : qw_W p l e { frames := 12, cells := 601024, slots := 7293034, locals := 448 } s m args below meth c D A 7 Q k n ad g 1393 [(0, .ref b), (1, .ref (ad 0)), (2, .ref (ad 100)), (3, .ref (ad 150)), (4, .int (nI i))] [] := by
  have hb := (qx_ct hXP).2.2
  refine qr_aload_n C dL_law_1393 rfl 1 rfl ?_
  refine qr_aload_n C dL_law_1394 rfl 0 rfl ?_
  refine qr_iload C dL_law_1395 4 rfl ?_
  refine qr_iconst (v := 1) C dL_law_1397 (by decide) ?_
  refine qr_iadd C dL_law_1398 ?_
  refine qr_sld C hX (j := i + 1) (by rw [show (1 : Int32) = nI 1 from rfl, nI_add]) (by omega) (by omega) dL_law_1399 ?_
  refine qr_aload_n C dL_law_1400 rfl 0 rfl ?_
  refine qr_iload C dL_law_1401 4 rfl ?_
  refine qr_iconst (v := 2) C dL_law_1403 (by decide) ?_
  refine qr_iadd C dL_law_1404 ?_
  refine qr_sld C hX (j := i + 2) (by rw [show (2 : Int32) = nI 2 from rfl, nI_add]) (by omega) (by omega) dL_law_1405 ?_
  refine qr_aload_n C dL_law_1406 rfl 3 rfl ?_
  refine qr_callSH C (na := 4) (As := [(.ref (ad 0)), (.int (xs (i + 1))), (.int (xs (i + 2))), (.ref (ad 150))]) (rest := []) (k_L_isKnownBySolving hst D ad g (xs (i + 1)) (xs (i + 2)) F hO (qx_x hXP) _ _ (ql_pk ((sm_cE (xs (i + 1)) (xs (i + 2))))) (k_X6_isKnownBySolving hst D ad g χ nS nE hXP (xs (i + 1)) (xs (i + 2))) qx_kbp.cp hag.1) gi_L_145 ⟨by decide, by decide, by decide +kernel⟩ rfl rfl (Nat.le_of_ble_eq_true rfl) rfl rfl ⟨(Nat.le_of_ble_eq_true rfl), (Nat.le_of_ble_eq_true rfl)⟩ ⟨(show k + 2 ≤ 601024 by omega), (show n + 12 ≤ 7293034 by omega)⟩ dL_law_1407 (fun v ad2 gz hpo => ?_)
  rcases hpo with ⟨V, gy, hcp, rfl, hg⟩ | ⟨k0, hk0, rfl, rfl, rfl⟩
  · skip
    obtain ⟨M0, M1, hc0, hM0, hv, had0, hXn, hfr⟩ := hcp
    have had : ∀ t, t < 1000 → ad2 t = ad t := fun t _ => by rw [had0]
    replace hv := sg_vj hv
    obtain ⟨hm0, hov, hRL⟩ := hag.2.1 M0 M1 hM0 hc0
    have hgz : ∀ t, t ≠ 150 → gz t = gy t := fun t ht => by rw [← hg]; exact va_up_ne _ _ ht
    have hO2 : gz 150 = some (.inl (D.1 22, 1, .inr (.inl (vp_updL F 0 (qx_ob V))))) := by rw [← hg]; exact va_up_self _ _ _
    have hX2 := qx_keep hXn (g' := gz) (fun t ht => hgz t (by omega))
    have hM2 := qm_keep hMP (g' := gz) (ad' := ad2) (fun t ht => (hgz t (by omega)).trans (hfr t (by omega))) (fun t ht => had t (by omega))
    refine qw_to (lv' := [(0, (.ref b)), (1, (.ref (ad2 0))), (2, (.ref (ad2 100))), (3, (.ref (ad2 150))), (4, (.int (nI i)))]) (st' := [(.int (0 : Int32))]) rfl rfl (by rw [had 0 (by omega), had 100 (by omega), had 150 (by omega)]) rfl ?_
    refine qr_istore (lv' := [(5, (.int (0 : Int32))), (0, (.ref b)), (1, (.ref (ad2 0))), (2, (.ref (ad2 100))), (3, (.ref (ad2 150))), (4, (.int (nI i)))]) C dL_law_1410 (by decide) rfl ?_
    refine qr_aload_n C dL_law_1412 rfl 3 rfl ?_
    refine qr_aload_n C dL_law_1413 rfl 1 rfl ?_
    refine qr_iload C dL_law_1414 5 rfl ?_
    refine qr_iconst (v := 1) C dL_law_1416 (by decide) ?_
    refine qr_iadd C dL_law_1417 ?_
    refine qr_sld C hX (j := i + 1) (by rw [show (1 : Int32) = nI 1 from rfl, nI_add]) (by omega) (by omega) dL_law_1418 ?_
    refine qr_aload_n C dL_law_1419 rfl 1 rfl ?_
    refine qr_iload C dL_law_1420 5 rfl ?_
    refine qr_iconst (v := 2) C dL_law_1422 (by decide) ?_
    refine qr_iadd C dL_law_1423 ?_
    refine qr_sld C hX (j := i + 2) (by rw [show (2 : Int32) = nI 2 from rfl, nI_add]) (by omega) (by omega) dL_law_1424 ?_
    refine qr_callV C (na := 2) (As := [(.int (xs (i + 1))), (.int (xs (i + 2)))]) (rest := []) (k_X7_isKnownBySolving hst D ad2 gz σ r hM2 (xs (i + 1)) (xs (i + 2))) (100) (hM2.1) rfl rfl gi_L_147 rfl ⟨by decide, by decide, by decide +kernel⟩ rfl rfl (Nat.le_of_ble_eq_true rfl) rfl rfl ⟨Nat.le_of_ble_eq_true rfl, Nat.le_of_ble_eq_true rfl⟩ ⟨(show (k + 2) + 0 ≤ 601024 by omega), (show (n + 12) + 0 ≤ 7293034 by omega)⟩ dL_law_1425 (fun v ad2 gm hmp => ?_)
    obtain ⟨rfl, hfm, ⟨hmc, rfl, hP⟩ | ⟨hmc, rfl, hP⟩⟩ := hmp
    · skip
      exact absurd hm0 hmc
    · skip
      refine qr_istore (lv' := [(6, (.int ((sm_known σ (xs (i + 1)) (xs (i + 2)))))), (5, (.int (0 : Int32))), (0, (.ref b)), (1, (.ref (ad2 0))), (2, (.ref (ad2 100))), (3, (.ref (ad2 150))), (4, (.int (nI i)))]) C dL_law_1428 (by decide) rfl ?_
      refine qr_aload_n C dL_law_1430 rfl 4 rfl ?_
      refine qr_callV C (na := 0) (As := []) (rest := []) (k_X7_thrown hst D ad2 gm (σ) ((sm_cE (xs (i + 1)) (xs (i + 2)))) hP) (100) (hP.1) rfl rfl gi_L_84 rfl ⟨by decide, by decide, by decide +kernel⟩ rfl rfl (Nat.le_of_ble_eq_true rfl) rfl rfl ⟨Nat.le_of_ble_eq_true rfl, Nat.le_of_ble_eq_true rfl⟩ ⟨(show ((k + 2) + 0) + 0 ≤ 601024 by omega), (show ((n + 12) + 0) + 0 ≤ 7293034 by omega)⟩ dL_law_1431 (fun v ad2 gt hpt => ?_)
      obtain ⟨rfl, rfl, rfl⟩ := hpt
      refine qr_iload C dL_law_1434 1 rfl ?_
      refine qr_icmp_eq_t C 1441 dL_law_1436 (by decide) hm0 ?_
      refine qr_iload C dL_law_1441 1 rfl ?_
      refine qr_if_ne_f C 1465 dL_law_1443 (by decide) rfl ?_
      refine qr_aload_n C dL_law_1446 rfl 5 rfl ?_
      refine qr_iconst (v := 0) C dL_law_1447 (by decide) ?_
      refine qr_lald C (x := (qx_ob V)) (150) (((hfm 150 (by omega)).trans hO2)) rfl (j := 0) rfl (by omega) rfl rfl dL_law_1448 ?_
      refine qr_iload C dL_law_1449 0 rfl ?_
      refine qr_if_eq C 1458 dL_law_1451 (by decide) (fun cz => ?_) (fun cz => ?_)
      · skip
        refine qr_lconst (v := 0) C dL_law_1458 rfl ?_
        refine qr_lcmp C dL_law_1459 ?_
        refine qr_if_eq_t C 1465 dL_law_1460 (by decide) (lg_cmp_same2 (by rw [← hv]; exact hov) (if_pos cz)) ?_
        refine qr_goto (tgt := 1481) C dL_law_1465 (by decide) ?_
        refine qw_pick [2, 3, 4, 5, 6] (lv' := [(0, (.ref b)), (1, (.ref (ad2 0))), (2, (.ref (ad2 100))), (3, (.ref (ad2 150))), (4, (.int (nI i)))]) rfl ?_
        exact qw_widen (by omega) (by omega) (kk ad2 gm _ _ _ _ _ _ (qx_keep hX2 (fun t ht => hfm t (by omega))) hP (((hfm 150 (by omega)).trans hO2)) hRL)
      · skip
        refine qr_lconst (v := 1) C dL_law_1454 rfl ?_
        refine qr_goto (tgt := 1459) C dL_law_1455 (by decide) ?_
        refine qr_lcmp C dL_law_1459 ?_
        refine qr_if_eq_t C 1465 dL_law_1460 (by decide) (lg_cmp_same2 (by rw [← hv]; exact hov) (if_neg cz)) ?_
        refine qr_goto (tgt := 1481) C dL_law_1465 (by decide) ?_
        refine qw_pick [2, 3, 4, 5, 6] (lv' := [(0, (.ref b)), (1, (.ref (ad2 0))), (2, (.ref (ad2 100))), (3, (.ref (ad2 150))), (4, (.int (nI i)))]) rfl ?_
        exact qw_widen (by omega) (by omega) (kk ad2 gm _ _ _ _ _ _ (qx_keep hX2 (fun t ht => hfm t (by omega))) hP (((hfm 150 (by omega)).trans hO2)) hRL)
  · skip
    refine qr_istore (lv' := [(5, (.int k0)), (0, (.ref b)), (1, (.ref (ad 0))), (2, (.ref (ad 100))), (3, (.ref (ad 150))), (4, (.int (nI i)))]) C dL_law_1410 (by decide) rfl ?_
    refine qr_aload_n C dL_law_1412 rfl 3 rfl ?_
    refine qr_aload_n C dL_law_1413 rfl 1 rfl ?_
    refine qr_iload C dL_law_1414 5 rfl ?_
    refine qr_iconst (v := 1) C dL_law_1416 (by decide) ?_
    refine qr_iadd C dL_law_1417 ?_
    refine qr_sld C hX (j := i + 1) (by rw [show (1 : Int32) = nI 1 from rfl, nI_add]) (by omega) (by omega) dL_law_1418 ?_
    refine qr_aload_n C dL_law_1419 rfl 1 rfl ?_
    refine qr_iload C dL_law_1420 5 rfl ?_
    refine qr_iconst (v := 2) C dL_law_1422 (by decide) ?_
    refine qr_iadd C dL_law_1423 ?_
    refine qr_sld C hX (j := i + 2) (by rw [show (2 : Int32) = nI 2 from rfl, nI_add]) (by omega) (by omega) dL_law_1424 ?_
    refine qr_callV C (na := 2) (As := [(.int (xs (i + 1))), (.int (xs (i + 2)))]) (rest := []) (k_X7_isKnownBySolving hst D ad g σ r hMP (xs (i + 1)) (xs (i + 2))) (100) (hMP.1) rfl rfl gi_L_147 rfl ⟨by decide, by decide, by decide +kernel⟩ rfl rfl (Nat.le_of_ble_eq_true rfl) rfl rfl ⟨Nat.le_of_ble_eq_true rfl, Nat.le_of_ble_eq_true rfl⟩ ⟨(show (k + 2) + 0 ≤ 601024 by omega), (show (n + 12) + 0 ≤ 7293034 by omega)⟩ dL_law_1425 (fun v ad2 gm hmp => ?_)
    obtain ⟨rfl, hfm, ⟨hmc, rfl, hP⟩ | ⟨hmc, rfl, hP⟩⟩ := hmp
    · skip
      refine qr_istore (lv' := [(6, (.int (0 : Int32))), (5, (.int k0)), (0, (.ref b)), (1, (.ref (ad 0))), (2, (.ref (ad 100))), (3, (.ref (ad 150))), (4, (.int (nI i)))]) C dL_law_1428 (by decide) rfl ?_
      refine qr_aload_n C dL_law_1430 rfl 4 rfl ?_
      refine qr_callV C (na := 0) (As := []) (rest := []) (k_X7_thrown hst D ad gm σ ((sm_cE (xs (i + 1)) (xs (i + 2)))) hP) (100) (hP.1) rfl rfl gi_L_84 rfl ⟨by decide, by decide, by decide +kernel⟩ rfl rfl (Nat.le_of_ble_eq_true rfl) rfl rfl ⟨Nat.le_of_ble_eq_true rfl, Nat.le_of_ble_eq_true rfl⟩ ⟨(show ((k + 2) + 0) + 0 ≤ 601024 by omega), (show ((n + 12) + 0) + 0 ≤ 7293034 by omega)⟩ dL_law_1431 (fun v ad2 gt hpt => ?_)
      obtain ⟨rfl, rfl, rfl⟩ := hpt
      refine qr_iload C dL_law_1434 1 rfl ?_
      refine qr_icmp_eq_t C 1441 dL_law_1436 (by decide) hk0.2 ?_
      refine qr_iload C dL_law_1441 1 rfl ?_
      refine qr_if_ne_t C 1465 dL_law_1443 (by decide) hk0.1 ?_
      refine qr_goto (tgt := 1481) C dL_law_1465 (by decide) ?_
      refine qw_pick [2, 3, 4, 5, 6] (lv' := [(0, (.ref b)), (1, (.ref (ad 0))), (2, (.ref (ad 100))), (3, (.ref (ad 150))), (4, (.int (nI i)))]) rfl ?_
      exact qw_widen (by omega) (by omega) (kk ad gm _ _ _ _ _ _ (qx_keep hXP (fun t ht => hfm t (by omega))) hP (((hfm 150 (by omega)).trans hO)) hag.2.2)
    · skip
      exact absurd (hk0.2.symm.trans hmc) hk0.1
set_option maxHeartbeats 4000000 in
set_option maxRecDepth 100000 in
theorem q_case_14 {p : Program} {l : Launch} {e : Env} {s : State} {m : MethodId} {args : Array Value} {below : List Frame} {meth : Method} {c : Code} {D : va_G} {A : Nat → Prop} {Q : State → Prop} {k n : Nat} {ad : Nat → Nat} {g : qw_G} (C : qw_C p l s m args meth c D A 7 cL_law RL (some .boolean)) (hst : l.stackTraces = false) (RLr : (Nat → Nat → Int32) → Nat → Nat → (Nat → Nat → Int32) → Prop) {b : Nat} {i : Nat} (hk : k + 5 ≤ 601024) (hn : n + 30 ≤ 7293034) {χ σ : Nat → Nat → Int32} {nS nE : Nat} {r : Int32} {F : Nat → Int64} (hXP : qx_P D χ nS nE ad g) (hMP : qm_P D σ r ad g) (hO : g 150 = some (.inl (D.1 22, 1, .inr (.inl F)))) (hag : χ 3 0 = σ 18 0 ∧ RLr χ nS nE σ) (kk : ∀ (ad' : Nat → Nat) (g' : qw_G) (χ' : Nat → Nat → Int32) (nS' nE' : Nat) (σ' : Nat → Nat → Int32) (r' : Int32) (F' : Nat → Int64), qx_P D χ' nS' nE' ad' g' → qm_P D σ' r' ad' g' → g' 150 = some (.inl (D.1 22, 1, .inr (.inl F'))) → RLr χ' nS' nE' σ' → qw_W p l e { frames := 12, cells := 601024, slots := 7293034, locals := 448 } s m args below meth c D A 7 Q (k + 5) (n + 30) ad' g' 1481 [(0, .ref b), (1, .ref (ad' 0)), (2, .ref (ad' 100)), (3, .ref (ad' 150)), (4, .int (nI i))] []) : qw_W p l e { frames := 12, cells := 601024, slots := 7293034, locals := 448 } s m args below meth c D A 7 Q k n ad g 1217 [(0, .ref b), (1, .ref (ad 0)), (2, .ref (ad 100)), (3, .ref (ad 150)), (4, .int (nI i))] [] := by
  refine qr_aload_n C dL_law_1217 rfl 1 rfl ?_
  refine qr_callV C (na := 0) (As := []) (rest := []) (k_X6_dropped hst D ad g χ nS nE hXP) (0) ((qx_x hXP)) rfl rfl gi_L_131 rfl ⟨by decide, by decide, by decide +kernel⟩ rfl rfl (Nat.le_of_ble_eq_true rfl) rfl rfl ⟨Nat.le_of_ble_eq_true rfl, Nat.le_of_ble_eq_true rfl⟩ ⟨(show k + 0 ≤ 601024 by omega), (show n + 0 ≤ 7293034 by omega)⟩ dL_law_1218 (fun v ad2 gz hpo => ?_)
  obtain ⟨rfl, rfl, rfl⟩ := hpo
  have hM2 := hMP
  have hX2 := hXP
  have hO2 := hO
  refine qr_aload_n C dL_law_1221 rfl 2 rfl ?_
  refine qr_callV C (na := 0) (As := []) (rest := [(.int (χ 3 0))]) (k_X7_dropped hst D ad g σ r hM2) (100) (hMP.1) rfl rfl gi_L_134 rfl ⟨by decide, by decide, by decide +kernel⟩ rfl rfl (Nat.le_of_ble_eq_true rfl) rfl rfl ⟨Nat.le_of_ble_eq_true rfl, Nat.le_of_ble_eq_true rfl⟩ ⟨(show (k + 0) + 0 ≤ 601024 by omega), (show (n + 0) + 0 ≤ 7293034 by omega)⟩ dL_law_1222 (fun v ad2 gm hmp => ?_)
  obtain ⟨rfl, rfl, hP, hfm⟩ := hmp
  refine qr_icmp_eq_t C 1481 dL_law_1225 (by decide) hag.1 ?_
  refine qw_pick [0, 1, 2, 3, 4] (lv' := [(0, (.ref b)), (1, (.ref (ad 0))), (2, (.ref (ad 100))), (3, (.ref (ad 150))), (4, (.int (nI i)))]) rfl ?_
  exact qw_widen (by omega) (by omega) (kk ad gm _ _ _ _ _ _ (qx_keep hX2 (fun t ht => hfm t (by omega))) hP ((hfm 150 (by omega)).trans hO2) hag.2)
set_option maxHeartbeats 4000000 in
set_option maxRecDepth 100000 in
theorem q_case_16 {p : Program} {l : Launch} {e : Env} {s : State} {m : MethodId} {args : Array Value} {below : List Frame} {meth : Method} {c : Code} {D : va_G} {A : Nat → Prop} {Q : State → Prop} {k n : Nat} {ad : Nat → Nat} {g : qw_G} (C : qw_C p l s m args meth c D A 7 cL_law RL (some .boolean)) (hst : l.stackTraces = false) (RLr : (Nat → Nat → Int32) → Nat → Nat → (Nat → Nat → Int32) → Prop) {b : Nat} {i : Nat} (hk : k + 5 ≤ 601024) (hn : n + 30 ≤ 7293034) {χ σ : Nat → Nat → Int32} {nS nE : Nat} {r : Int32} {F : Nat → Int64} (hXP : qx_P D χ nS nE ad g) (hMP : qm_P D σ r ad g) (hO : g 150 = some (.inl (D.1 22, 1, .inr (.inl F)))) (hag : sg_bc (χ 4 0) = sm_bits (σ 19 0) ∧ RLr (sg_u χ 4 0) nS nE (sg_u σ 19 0)) (kk : ∀ (ad' : Nat → Nat) (g' : qw_G) (χ' : Nat → Nat → Int32) (nS' nE' : Nat) (σ' : Nat → Nat → Int32) (r' : Int32) (F' : Nat → Int64), qx_P D χ' nS' nE' ad' g' → qm_P D σ' r' ad' g' → g' 150 = some (.inl (D.1 22, 1, .inr (.inl F'))) → RLr χ' nS' nE' σ' → qw_W p l e { frames := 12, cells := 601024, slots := 7293034, locals := 448 } s m args below meth c D A 7 Q (k + 5) (n + 30) ad' g' 1481 [(0, .ref b), (1, .ref (ad' 0)), (2, .ref (ad' 100)), (3, .ref (ad' 150)), (4, .int (nI i))] []) : qw_W p l e { frames := 12, cells := 601024, slots := 7293034, locals := 448 } s m args below meth c D A 7 Q k n ad g 1305 [(0, .ref b), (1, .ref (ad 0)), (2, .ref (ad 100)), (3, .ref (ad 150)), (4, .int (nI i))] [] := by
  refine qr_aload_n C dL_law_1305 rfl 1 rfl ?_
  refine qr_callV C (na := 0) (As := []) (rest := []) (k_X6_clear hst D ad g χ nS nE hXP) (0) ((qx_x hXP)) rfl rfl gi_L_138 rfl ⟨by decide, by decide, by decide +kernel⟩ rfl rfl (Nat.le_of_ble_eq_true rfl) rfl rfl ⟨Nat.le_of_ble_eq_true rfl, Nat.le_of_ble_eq_true rfl⟩ ⟨(show k + 0 ≤ 601024 by omega), (show n + 0 ≤ 7293034 by omega)⟩ dL_law_1306 (fun v ad2 gz hpo => ?_)
  obtain ⟨rfl, rfl, hX2, hfr⟩ := hpo
  have hM2 := qm_keep hMP (g' := gz) (ad' := ad) (fun t ht => hfr t (by omega)) (fun t ht => rfl)
  have hO2 := (hfr 150 (by omega)).trans hO
  refine qr_aload_n C dL_law_1309 rfl 2 rfl ?_
  refine qr_callV C (na := 0) (As := []) (rest := [(.int (sg_bc (χ 4 0)))]) (k_X7_clear hst D ad gz σ r hM2) (100) (hM2.1) rfl rfl gi_L_141 rfl ⟨by decide, by decide, by decide +kernel⟩ rfl rfl (Nat.le_of_ble_eq_true rfl) rfl rfl ⟨Nat.le_of_ble_eq_true rfl, Nat.le_of_ble_eq_true rfl⟩ ⟨(show (k + 0) + 0 ≤ 601024 by omega), (show (n + 0) + 0 ≤ 7293034 by omega)⟩ dL_law_1310 (fun v ad2 gm hmp => ?_)
  obtain ⟨rfl, rfl, hP, hfm⟩ := hmp
  refine qr_icmp_eq_t C 1481 dL_law_1313 (by decide) hag.1 ?_
  refine qw_pick [0, 1, 2, 3, 4] (lv' := [(0, (.ref b)), (1, (.ref (ad 0))), (2, (.ref (ad 100))), (3, (.ref (ad 150))), (4, (.int (nI i)))]) rfl ?_
  exact qw_widen (by omega) (by omega) (kk ad gm _ _ _ _ _ _ (qx_keep hX2 (fun t ht => hfm t (by omega))) hP ((hfm 150 (by omega)).trans hO2) hag.2)
set_option maxHeartbeats 4000000 in
set_option maxRecDepth 100000 in
theorem q_case_19 {p : Program} {l : Launch} {e : Env} {s : State} {m : MethodId} {args : Array Value} {below : List Frame} {meth : Method} {c : Code} {D : va_G} {A : Nat → Prop} {Q : State → Prop} {k n : Nat} {ad : Nat → Nat} {g : qw_G} (C : qw_C p l s m args meth c D A 7 cL_law RL (some .boolean)) (hst : l.stackTraces = false) (RLr : (Nat → Nat → Int32) → Nat → Nat → (Nat → Nat → Int32) → Prop) {b : Nat} {i : Nat} (hk : k + 5 ≤ 601024) (hn : n + 30 ≤ 7293034) {χ σ : Nat → Nat → Int32} {nS nE : Nat} {r : Int32} {F : Nat → Int64} (hXP : qx_P D χ nS nE ad g) (hMP : qm_P D σ r ad g) (hO : g 150 = some (.inl (D.1 22, 1, .inr (.inl F)))) (hag : sg_bc (sg_around (χ 4 0)) - sg_bc (χ 4 0) = sm_bits (sm_hidden (σ 19 0)) - sm_bits (σ 19 0) ∧ RLr (sg_u χ 4 (sg_around (χ 4 0))) nS nE (sg_u σ 19 (sm_hidden (σ 19 0)))) (kk : ∀ (ad' : Nat → Nat) (g' : qw_G) (χ' : Nat → Nat → Int32) (nS' nE' : Nat) (σ' : Nat → Nat → Int32) (r' : Int32) (F' : Nat → Int64), qx_P D χ' nS' nE' ad' g' → qm_P D σ' r' ad' g' → g' 150 = some (.inl (D.1 22, 1, .inr (.inl F'))) → RLr χ' nS' nE' σ' → qw_W p l e { frames := 12, cells := 601024, slots := 7293034, locals := 448 } s m args below meth c D A 7 Q (k + 5) (n + 30) ad' g' 1481 [(0, .ref b), (1, .ref (ad' 0)), (2, .ref (ad' 100)), (3, .ref (ad' 150)), (4, .int (nI i))] []) : qw_W p l e { frames := 12, cells := 601024, slots := 7293034, locals := 448 } s m args below meth c D A 7 Q k n ad g 1468 [(0, .ref b), (1, .ref (ad 0)), (2, .ref (ad 100)), (3, .ref (ad 150)), (4, .int (nI i))] [] := by
  refine qr_aload_n C dL_law_1468 rfl 1 rfl ?_
  refine qr_callV C (na := 0) (As := []) (rest := []) (k_X6_cover hst D ad g χ nS nE hXP) (0) ((qx_x hXP)) rfl rfl gi_L_148 rfl ⟨by decide, by decide, by decide +kernel⟩ rfl rfl (Nat.le_of_ble_eq_true rfl) rfl rfl ⟨Nat.le_of_ble_eq_true rfl, Nat.le_of_ble_eq_true rfl⟩ ⟨(show k + 0 ≤ 601024 by omega), (show n + 0 ≤ 7293034 by omega)⟩ dL_law_1469 (fun v ad2 gz hpo => ?_)
  obtain ⟨rfl, rfl, hX2, hfr⟩ := hpo
  have hM2 := qm_keep hMP (g' := gz) (ad' := ad) (fun t ht => hfr t (by omega)) (fun t ht => rfl)
  have hO2 := (hfr 150 (by omega)).trans hO
  refine qr_aload_n C dL_law_1472 rfl 2 rfl ?_
  refine qr_callV C (na := 0) (As := []) (rest := [(.int (sg_bc (sg_around (χ 4 0)) - sg_bc (χ 4 0)))]) (k_X7_cover hst D ad gz σ r hM2) (100) (hM2.1) rfl rfl gi_L_151 rfl ⟨by decide, by decide, by decide +kernel⟩ rfl rfl (Nat.le_of_ble_eq_true rfl) rfl rfl ⟨Nat.le_of_ble_eq_true rfl, Nat.le_of_ble_eq_true rfl⟩ ⟨(show (k + 0) + 0 ≤ 601024 by omega), (show (n + 0) + 0 ≤ 7293034 by omega)⟩ dL_law_1473 (fun v ad2 gm hmp => ?_)
  obtain ⟨rfl, rfl, hP, hfm⟩ := hmp
  refine qr_icmp_eq_t C 1481 dL_law_1476 (by decide) hag.1 ?_
  refine qw_pick [0, 1, 2, 3, 4] (lv' := [(0, (.ref b)), (1, (.ref (ad 0))), (2, (.ref (ad 100))), (3, (.ref (ad 150))), (4, (.int (nI i)))]) rfl ?_
  exact qw_widen (by omega) (by omega) (kk ad gm _ _ _ _ _ _ (qx_keep hX2 (fun t ht => hfm t (by omega))) hP ((hfm 150 (by omega)).trans hO2) hag.2)
