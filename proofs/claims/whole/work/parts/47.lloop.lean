/-! the law's loop -/
theorem ql_gt {L i : Nat} (hL : L ≤ 3072) (hi : i ≤ 4000) : ((nI L) - (6 : Int32)) < (nI i) ↔ L < i + 6 := by
  rw [Int32.lt_iff_toInt_lt, Int32.toInt_sub, nI_toInt (by omega), nI_toInt (by omega), show (6 : Int32).toInt = 6 from by decide, Int.bmod_def]
  split <;> omega
theorem ql_31 (x : Int32) : ∃ v, v < 32 ∧ (x &&& (31 : Int32)) = nI v := by
  refine ⟨x.toBitVec.toNat % 32, Nat.mod_lt _ (by omega), ?_⟩
  apply Int32.toBitVec_inj.mp
  apply BitVec.eq_of_toNat_eq
  rw [Int32.toBitVec_and, BitVec.toNat_and]
  show x.toBitVec.toNat &&& 31 = _
  rw [show (31 : Nat) = 2 ^ 5 - 1 from rfl, Nat.and_two_pow_sub_one_eq_mod]
  show _ = (BitVec.ofNat 32 _).toNat
  rw [BitVec.toNat_ofNat, Nat.mod_eq_of_lt (a := x.toBitVec.toNat % 32) (by omega)]
def ql_ag0 (RLr : (Nat → Nat → Int32) → Nat → Nat → (Nat → Nat → Int32) → Prop) : Prop := ∀ (χ : Nat → Nat → Int32) (nS nE : Nat) (σ : Nat → Nat → Int32) (x1 x2 x3 x4 : Int32), RLr χ nS nE σ → ((∀ E, qx_px ((cx_sale χ x1 x2 x3 x4)) E → (E = qw_E1 ∧ ql_pk ((sm_csale σ x1 x2 x3 x4)) 1) ∨ (E = qw_E2 ∧ ql_pk ((sm_csale σ x1 x2 x3 x4)) 2) ∨ (E = qw_E3 ∧ ql_pk ((sm_csale σ x1 x2 x3 x4)) 3)) ∧ (((cx_sale χ x1 x2 x3 x4)) = 0 → ((sm_csale σ x1 x2 x3 x4)) = 0 ∧ qx_oi ((χ 0 0)) = qx_oi ((σ 2 0)) ∧ RLr ((cx_saleS χ nS x1 x2 x3 x4)) (nS + 1) nE ((sm_saleS σ nS x1 x2 x3 x4))) ∧ RLr χ nS nE σ)
def ql_ag1 (RLr : (Nat → Nat → Int32) → Nat → Nat → (Nat → Nat → Int32) → Prop) : Prop := ∀ (χ : Nat → Nat → Int32) (nS nE : Nat) (σ : Nat → Nat → Int32) (x1 : Int32), RLr χ nS nE σ → ((∀ E, qx_px ((cx_take χ x1)) E → (E = qw_E1 ∧ ql_pk ((sm_ctake σ x1)) 1) ∨ (E = qw_E3 ∧ ql_pk ((sm_ctake σ x1)) 2)) ∧ (((cx_take χ x1)) = 0 → ((sm_ctake σ x1)) = 0 ∧ qx_oi ((χ 43 x1.toNatClampNeg)) = qx_oi ((σ 6 x1.toNatClampNeg)) ∧ RLr ((cx_takeS χ x1.toNatClampNeg)) nS nE ((sm_takeS σ x1))) ∧ RLr χ nS nE σ)
def ql_ag2 (RLr : (Nat → Nat → Int32) → Nat → Nat → (Nat → Nat → Int32) → Prop) : Prop := ∀ (χ : Nat → Nat → Int32) (nS nE : Nat) (σ : Nat → Nat → Int32) (x1 : Int32), RLr χ nS nE σ → ((∀ E, qx_px ((cx_turn x1)) E → (E = qw_E1 ∧ ql_pk ((sm_cT x1)) 1)) ∧ (((cx_turn x1)) = 0 → ((sm_cT x1)) = 0 ∧ qx_ob ((sm_not (χ 5 x1.toNatClampNeg))) = qx_ob ((sm_not (σ 8 x1.toNatClampNeg))) ∧ RLr ((va_up χ 5 (upd (χ 5) x1.toNatClampNeg (sm_not (χ 5 x1.toNatClampNeg))))) nS nE ((va_up σ 8 (upd (σ 8) x1.toNatClampNeg (sm_not (σ 8 x1.toNatClampNeg)))))) ∧ RLr χ nS nE σ)
def ql_ag3 (RLr : (Nat → Nat → Int32) → Nat → Nat → (Nat → Nat → Int32) → Prop) : Prop := ∀ (χ : Nat → Nat → Int32) (nS nE : Nat) (σ : Nat → Nat → Int32) (x1 x2 x3 : Int32), RLr χ nS nE σ → ((∀ E, qx_px ((cx_sum χ x1 x2 x3)) E → (E = qw_E1 ∧ ql_pk ((sm_cent σ x1 x2 x3)) 1)) ∧ (((cx_sum χ x1 x2 x3)) = 0 → ((sm_cent σ x1 x2 x3)) = 0 ∧ qx_oi ((χ (10 + x1.toNatClampNeg) (cx_entv χ x1 x2 x3).toNatClampNeg)) = qx_oi ((sm_sumO σ x1 (sm_ent σ x1 x2 x3) nS)) ∧ RLr ((χ)) nS nE (σ)) ∧ RLr χ nS nE σ)
def ql_ag4 (RLr : (Nat → Nat → Int32) → Nat → Nat → (Nat → Nat → Int32) → Prop) : Prop := ∀ (χ : Nat → Nat → Int32) (nS nE : Nat) (σ : Nat → Nat → Int32) (x1 x2 x3 : Int32), RLr χ nS nE σ → ((∀ E, qx_px ((cx_sfsC χ x1 x2 x3)) E → (E = qw_E1 ∧ ql_pk ((sm_cent σ x1 x2 x3)) 1)) ∧ (((cx_sfsC χ x1 x2 x3)) = 0 → ((sm_cent σ x1 x2 x3)) = 0 ∧ qx_oi ((cx_sfs χ x1 (cx_entv χ x1 x2 x3) nS)) = qx_oi ((sm_sumO σ x1 (sm_ent σ x1 x2 x3) nS)) ∧ RLr (χ) nS nE (σ)) ∧ RLr χ nS nE σ)
def ql_ag5 (RLr : (Nat → Nat → Int32) → Nat → Nat → (Nat → Nat → Int32) → Prop) : Prop := ∀ (χ : Nat → Nat → Int32) (nS nE : Nat) (σ : Nat → Nat → Int32) (x1 x2 x3 x4 x5 : Int32), RLr χ nS nE σ → ((∀ E, qx_px ((cx_emb χ x1 x2 x3 x4 x5)) E → (E = qw_E1 ∧ ql_pk ((sm_cemb σ x1 x2 x3 x4 x5)) 1) ∨ (E = qw_E2 ∧ ql_pk ((sm_cemb σ x1 x2 x3 x4 x5)) 2) ∨ (E = qw_E3 ∧ ql_pk ((sm_cemb σ x1 x2 x3 x4 x5)) 3)) ∧ (((cx_emb χ x1 x2 x3 x4 x5)) = 0 → ((sm_cemb σ x1 x2 x3 x4 x5)) = 0 ∧ qx_oi ((χ 1 0)) = qx_oi ((σ 9 0)) ∧ RLr ((cx_embS χ nE x1 x2 x3 x4 x5)) nS (nE + 1) ((sm_embS σ nE x1 x2 x3 x4 x5))) ∧ RLr χ nS nE σ)
def ql_ag6 (RLr : (Nat → Nat → Int32) → Nat → Nat → (Nat → Nat → Int32) → Prop) : Prop := ∀ (χ : Nat → Nat → Int32) (nS nE : Nat) (σ : Nat → Nat → Int32) (x1 : Int32), RLr χ nS nE σ → ((∀ E, qx_px ((cx_lift χ x1)) E → (E = qw_E1 ∧ ql_pk ((sm_clift σ x1)) 1) ∨ (E = qw_E3 ∧ ql_pk ((sm_clift σ x1)) 2)) ∧ (((cx_lift χ x1)) = 0 → ((sm_clift σ x1)) = 0 ∧ qx_oi ((χ 48 x1.toNatClampNeg - χ 2 0)) = qx_oi ((σ 13 x1.toNatClampNeg - σ 1 0)) ∧ RLr ((cx_liftS χ x1.toNatClampNeg)) nS nE ((sm_liftS σ x1))) ∧ RLr χ nS nE σ)
def ql_ag7 (RLr : (Nat → Nat → Int32) → Nat → Nat → (Nat → Nat → Int32) → Prop) : Prop := ∀ (χ : Nat → Nat → Int32) (nS nE : Nat) (σ : Nat → Nat → Int32) (x1 x2 x3 x4 : Int32), RLr χ nS nE σ → ((∀ E, qx_px ((cx_isE χ x1 x2 x3 x4)) E → (E = qw_E1 ∧ ql_pk ((sm_cisE σ x1 x2 x3 x4)) 1)) ∧ (((cx_isE χ x1 x2 x3 x4)) = 0 → ((sm_cisE σ x1 x2 x3 x4)) = 0 ∧ qx_ob ((sg_has (cx_bar χ x1 x4 nE) (cx_entv χ x1 x2 x3))) = qx_ob ((sm_b1 (sm_bit (sm_bar σ x1 x4 nE) (sm_ent σ x1 x2 x3)))) ∧ RLr ((χ)) nS nE (σ)) ∧ RLr χ nS nE σ)
def ql_ag8 (RLr : (Nat → Nat → Int32) → Nat → Nat → (Nat → Nat → Int32) → Prop) : Prop := ∀ (χ : Nat → Nat → Int32) (nS nE : Nat) (σ : Nat → Nat → Int32) (x1 : Int32), RLr χ nS nE σ → ((∀ E, qx_px ((cx_pass χ x1)) E → (E = qw_E2 ∧ ql_pk ((sm_cpass σ x1)) 1) ∨ (E = qw_E3 ∧ ql_pk ((sm_cpass σ x1)) 2)) ∧ (((cx_pass χ x1)) = 0 → ((sm_cpass σ x1)) = 0 ∧ qx_oi (((cx_passB χ x1 nE).2 - χ 3 0)) = qx_oi ((sm_passP σ nE x1.toNatClampNeg).1) ∧ RLr ((cx_passS χ x1 nE)) nS nE ((sm_passP σ nE x1.toNatClampNeg).2)) ∧ RLr χ nS nE σ)
def ql_ag9 (RLr : (Nat → Nat → Int32) → Nat → Nat → (Nat → Nat → Int32) → Prop) : Prop := ∀ (χ : Nat → Nat → Int32) (nS nE : Nat) (σ : Nat → Nat → Int32) (x1 x2 : Int32), RLr χ nS nE σ → ((∀ E, qx_px ((cx_build x1 x2)) E → (E = qw_E1 ∧ ql_pk ((sm_cB x1 x2)) 1)) ∧ (((cx_build x1 x2)) = 0 → ((sm_cB x1 x2)) = 0 ∧ qx_oi ((sg_bc (sg_around (cx_bar χ x1 x2 nE)))) = qx_oi ((sm_bits (sm_hidden (sm_bar σ x1 x2 nE)))) ∧ RLr ((cx_fill χ x1.toNatClampNeg (sm_at x1 x2) (cx_bar χ x1 x2 nE) (sg_around (cx_bar χ x1 x2 nE)))) nS nE ((sm_buildS σ nE x1 x2))) ∧ RLr χ nS nE σ)
def ql_ag10 (RLr : (Nat → Nat → Int32) → Nat → Nat → (Nat → Nat → Int32) → Prop) : Prop := ∀ (χ : Nat → Nat → Int32) (nS nE : Nat) (σ : Nat → Nat → Int32) (x1 x2 : Int32), RLr χ nS nE σ → ((∀ E, qx_px ((cx_isB x1 x2)) E → (E = qw_E1 ∧ ql_pk ((sm_cB x1 x2)) 1)) ∧ (((cx_isB x1 x2)) = 0 → ((sm_cB x1 x2)) = 0 ∧ qx_ob ((χ 7 (sm_at x1 x2))) = qx_ob ((sm_b0 (σ 15 (sm_at x1 x2)))) ∧ RLr ((χ)) nS nE (σ)) ∧ RLr χ nS nE σ)
def ql_ag11 (RLr : (Nat → Nat → Int32) → Nat → Nat → (Nat → Nat → Int32) → Prop) : Prop := ∀ (χ : Nat → Nat → Int32) (nS nE : Nat) (σ : Nat → Nat → Int32) (x1 x2 x3 x4 : Int32), RLr χ nS nE σ → ((∀ E, qx_px ((cx_shown χ x1 x2 x3 x4)) E → (E = qw_E1 ∧ ql_pk ((sm_cshown σ x1 x2 x3 x4)) 1) ∨ (E = qw_E3 ∧ ql_pk ((sm_cshown σ x1 x2 x3 x4)) 2)) ∧ (((cx_shown χ x1 x2 x3 x4)) = 0 → ((sm_cshown σ x1 x2 x3 x4)) = 0 ∧ qx_oi ((cx_shownV χ x1 x2 x3 x4)) = qx_oi ((sm_shown σ nS x1 x2 x3 x4)) ∧ RLr ((χ)) nS nE (σ)) ∧ RLr χ nS nE σ)
def ql_ag12 (RLr : (Nat → Nat → Int32) → Nat → Nat → (Nat → Nat → Int32) → Prop) : Prop := ∀ (χ : Nat → Nat → Int32) (nS nE : Nat) (σ : Nat → Nat → Int32) (x1 x2 x3 x4 : Int32), RLr χ nS nE σ → ((∀ E, qx_px ((cx_whyC χ x1 x2 x3 x4)) E → (E = qw_E1 ∧ ql_pk ((sm_cwhy σ x1 x2 x3 x4)) 1)) ∧ (((cx_whyC χ x1 x2 x3 x4)) = 0 → ((sm_cwhy σ x1 x2 x3 x4)) = 0 ∧ qx_oi ((cx_whyV χ x1 x2 x3 x4)) = qx_oi ((sm_why σ x1 x2 x3 x4)) ∧ RLr (χ) nS nE (σ)) ∧ RLr χ nS nE σ)
def ql_ag13 (RLr : (Nat → Nat → Int32) → Nat → Nat → (Nat → Nat → Int32) → Prop) : Prop := ∀ (χ : Nat → Nat → Int32) (nS nE : Nat) (σ : Nat → Nat → Int32) (x1 x2 : Int32), RLr χ nS nE σ → ((∀ E, qx_px ((cx_read χ x1 x2)) E → (E = qw_E1 ∧ ql_pk ((sm_cread σ x1 x2)) 1) ∨ (E = qw_E3 ∧ ql_pk ((sm_cread σ x1 x2)) 2)) ∧ (((cx_read χ x1 x2)) = 0 → ((sm_cread σ x1 x2)) = 0 ∧ qx_oi ((χ 13 (sm_at x1 x2))) = qx_oi ((sm_read σ x1 nS)) ∧ RLr ((χ)) nS nE (σ)) ∧ RLr χ nS nE σ)
def ql_ag14 (RLr : (Nat → Nat → Int32) → Nat → Nat → (Nat → Nat → Int32) → Prop) : Prop := ∀ (χ : Nat → Nat → Int32) (nS nE : Nat) (σ : Nat → Nat → Int32), RLr χ nS nE σ → χ 3 0 = σ 18 0 ∧ RLr χ nS nE σ
def ql_ag15 (RLr : (Nat → Nat → Int32) → Nat → Nat → (Nat → Nat → Int32) → Prop) : Prop := ∀ (χ : Nat → Nat → Int32) (nS nE : Nat) (σ : Nat → Nat → Int32) (x1 x2 : Int32), RLr χ nS nE σ → ((∀ E, qx_px ((cx_mark x1 x2)) E → (E = qw_E1 ∧ ql_pk ((sm_cE x1 x2)) 1)) ∧ (((cx_mark x1 x2)) = 0 → ((sm_cE x1 x2)) = 0 ∧ qx_ob ((sg_has (cx_mk χ x1 x2) (x1 * 6 + x2))) = qx_ob ((sm_b1 (sm_bit (sm_mk σ x1 x2) (6 * x1 + x2)))) ∧ RLr ((sg_u χ 4 (cx_mk χ x1 x2))) nS nE ((sg_u σ 19 (sm_mk σ x1 x2)))) ∧ RLr χ nS nE σ)
def ql_ag16 (RLr : (Nat → Nat → Int32) → Nat → Nat → (Nat → Nat → Int32) → Prop) : Prop := ∀ (χ : Nat → Nat → Int32) (nS nE : Nat) (σ : Nat → Nat → Int32), RLr χ nS nE σ → sg_bc (χ 4 0) = sm_bits (σ 19 0) ∧ RLr (sg_u χ 4 0) nS nE (sg_u σ 19 0)
def ql_ag17 (RLr : (Nat → Nat → Int32) → Nat → Nat → (Nat → Nat → Int32) → Prop) : Prop := ∀ (χ : Nat → Nat → Int32) (nS nE : Nat) (σ : Nat → Nat → Int32) (x1 x2 : Int32), RLr χ nS nE σ → ((∀ E, qx_px ((cx_mark x1 x2)) E → (E = qw_E1 ∧ ql_pk ((sm_cE x1 x2)) 1)) ∧ (((cx_mark x1 x2)) = 0 → ((sm_cE x1 x2)) = 0 ∧ qx_ob ((cx_known χ x1 x2)) = qx_ob ((sm_known σ x1 x2)) ∧ RLr (χ) nS nE (σ)) ∧ RLr χ nS nE σ)
def ql_ag18 (RLr : (Nat → Nat → Int32) → Nat → Nat → (Nat → Nat → Int32) → Prop) : Prop := ∀ (χ : Nat → Nat → Int32) (nS nE : Nat) (σ : Nat → Nat → Int32) (x1 x2 : Int32), RLr χ nS nE σ → ((∀ E, qx_px (cx_kb x1 x2) E → (E = qw_E1 ∧ ql_pk ((sm_cE x1 x2)) 1)) ∧ (∀ M0 M1 : Nat → Nat → Int32, (∀ r k, r < 11 → k < 30 → M0 r k = cq_w (χ 4 0) r k) → (cx_kb x1 x2) = 0 → ((sm_cE x1 x2)) = 0 ∧ qx_ob (cx_kbs χ M0 x1 x2) = qx_ob ((sm_known σ x1 x2)) ∧ RLr (qw_upN χ 60 11 M1) nS nE (σ)) ∧ RLr χ nS nE σ)
def ql_ag19 (RLr : (Nat → Nat → Int32) → Nat → Nat → (Nat → Nat → Int32) → Prop) : Prop := ∀ (χ : Nat → Nat → Int32) (nS nE : Nat) (σ : Nat → Nat → Int32), RLr χ nS nE σ → sg_bc (sg_around (χ 4 0)) - sg_bc (χ 4 0) = sm_bits (sm_hidden (σ 19 0)) - sm_bits (σ 19 0) ∧ RLr (sg_u χ 4 (sg_around (χ 4 0))) nS nE (sg_u σ 19 (sm_hidden (σ 19 0)))
/-- all of it -/
def ql_ags (RLr : (Nat → Nat → Int32) → Nat → Nat → (Nat → Nat → Int32) → Prop) : Prop := (∀ χ nS nE σ, RLr χ nS nE σ → ql_wf χ nS nE σ) ∧ ql_ag0 RLr ∧ ql_ag1 RLr ∧ ql_ag2 RLr ∧ ql_ag3 RLr ∧ ql_ag4 RLr ∧ ql_ag5 RLr ∧ ql_ag6 RLr ∧ ql_ag7 RLr ∧ ql_ag8 RLr ∧ ql_ag9 RLr ∧ ql_ag10 RLr ∧ ql_ag11 RLr ∧ ql_ag12 RLr ∧ ql_ag13 RLr ∧ ql_ag14 RLr ∧ ql_ag15 RLr ∧ ql_ag16 RLr ∧ ql_ag17 RLr ∧ ql_ag18 RLr ∧ ql_ag19 RLr
set_option maxHeartbeats 4000000 in
set_option maxRecDepth 100000 in
theorem q_loop {p : Program} {l : Launch} {e : Env} {s : State} {m : MethodId} {args : Array Value} {below : List Frame} {meth : Method} {c : Code} {D : va_G} {A : Nat → Prop} (C : qw_C p l s m args meth c D A 7 cL_law RL (some .boolean)) (hst : l.stackTraces = false) (RLr : (Nat → Nat → Int32) → Nat → Nat → (Nat → Nat → Int32) → Prop) (hA : ql_ags RLr) {b L : Nat} {xs : Nat → Int32} (hX : ql_S b L xs A s) (hL : L ≤ 3072) : ∀ (J i k n : Nat) (ad : Nat → Nat) (g : qw_G) (χ : Nat → Nat → Int32) (nS nE : Nat) (σ : Nat → Nat → Int32) (r : Int32) (F : Nat → Int64), L < i + 6 + 6 * J → i ≤ 3078 → k + 5 * J ≤ 601024 → n + 30 * J ≤ 7293034 → qx_P D χ nS nE ad g → qm_P D σ r ad g → g 150 = some (.inl (D.1 22, 1, .inr (.inl F))) → RLr χ nS nE σ → qw_W p l e { frames := 12, cells := 601024, slots := 7293034, locals := 448 } s m args below meth c D A 7 (MQ below (qw_Q (fun v _ _ => v = some (.int 1)) D A) args s 601024 7293034 A) k n ad g 23 [(0, .ref b), (1, .ref (ad 0)), (2, .ref (ad 100)), (3, .ref (ad 150)), (4, .int (nI i))] [] := by
  intro J
  induction J with
  | zero =>
    intro i k n ad g χ nS nE σ r F hJ hi hk hn hXP hMP hO hR
    refine qr_iload C dL_law_23 4 rfl ?_
    refine qr_aload_n C dL_law_25 rfl 0 rfl ?_
    refine qr_slen C hX dL_law_26 ?_
    refine qr_bipush (v := 6) C dL_law_27 (by decide) ?_
    refine qr_isub C dL_law_29 ?_
    refine qr_icmp_gt_t C 1487 dL_law_30 (by decide) ((ql_gt hL (by omega)).mpr (by omega)) ?_
    refine qr_iconst (v := 1) C dL_law_1487 (by decide) ?_
    exact qr_zret C rfl (by decide) (by omega) (by omega) dL_law_1488 (rfl)
  | succ J ih =>
    intro i k n ad g χ nS nE σ r F hJ hi hk hn hXP hMP hO hR
    by_cases hJ2 : L < i + 6
    · skip
      refine qr_iload C dL_law_23 4 rfl ?_
      refine qr_aload_n C dL_law_25 rfl 0 rfl ?_
      refine qr_slen C hX dL_law_26 ?_
      refine qr_bipush (v := 6) C dL_law_27 (by decide) ?_
      refine qr_isub C dL_law_29 ?_
      refine qr_icmp_gt_t C 1487 dL_law_30 (by decide) ((ql_gt hL (by omega)).mpr hJ2) ?_
      refine qr_iconst (v := 1) C dL_law_1487 (by decide) ?_
      exact qr_zret C rfl (by decide) (by omega) (by omega) dL_law_1488 (rfl)
    · skip
      refine qr_iload C dL_law_23 4 rfl ?_
      refine qr_aload_n C dL_law_25 rfl 0 rfl ?_
      refine qr_slen C hX dL_law_26 ?_
      refine qr_bipush (v := 6) C dL_law_27 (by decide) ?_
      refine qr_isub C dL_law_29 ?_
      refine qr_icmp_gt_f C 1487 dL_law_30 (by decide) (fun z => hJ2 ((ql_gt hL (by omega)).mp z)) ?_
      refine qr_aload_n C dL_law_33 rfl 0 rfl ?_
      refine qr_iload C dL_law_34 4 rfl ?_
      refine qr_sld C hX (j := i) rfl (by omega) (by omega) dL_law_36 ?_
      refine qr_bipush (v := 31) C dL_law_37 (by decide) ?_
      refine qr_iand C dL_law_39 ?_
      obtain ⟨v, hv, hve⟩ := ql_31 (xs i)
      refine qw_to (st' := [(.int (nI v))]) rfl rfl rfl (by rw [hve]) ?_
      have kk : ∀ (ad' : Nat → Nat) (g' : qw_G) (χ' : Nat → Nat → Int32) (nS' nE' : Nat) (σ' : Nat → Nat → Int32) (r' : Int32) (F' : Nat → Int64), qx_P D χ' nS' nE' ad' g' → qm_P D σ' r' ad' g' → g' 150 = some (.inl (D.1 22, 1, .inr (.inl F'))) → RLr χ' nS' nE' σ' → qw_W p l e { frames := 12, cells := 601024, slots := 7293034, locals := 448 } s m args below meth c D A 7 (MQ below (qw_Q (fun v _ _ => v = some (.int 1)) D A) args s 601024 7293034 A) (k + 5) (n + 30) ad' g' 1481 [(0, .ref b), (1, .ref (ad' 0)), (2, .ref (ad' 100)), (3, .ref (ad' 150)), (4, .int (nI i))] [] := by
        intro ad' g' χ' nS' nE' σ' r' F' h1 h2 h3 h4
        refine qr_iinc (v := (nI (i + 6))) (lv' := [(4, (.int (nI (i + 6)))), (0, (.ref b)), (1, (.ref (ad' 0))), (2, (.ref (ad' 100))), (3, (.ref (ad' 150)))]) C dL_law_1481 (w := 4) rfl (by rw [show Int32.ofInt 6 = nI 6 from rfl, nI_add]) (by decide) rfl ?_
        refine qr_goto (tgt := 23) C dL_law_1484 (by decide) ?_
        refine qw_pick [1, 2, 3, 4, 0] (lv' := [(0, (.ref b)), (1, (.ref (ad' 0))), (2, (.ref (ad' 100))), (3, (.ref (ad' 150))), (4, (.int (nI (i + 6))))]) rfl ?_
        exact ih (i + 6) (k + 5) (n + 30) ad' g' χ' nS' nE' σ' r' F' (by omega) (by omega) (by omega) (by omega) h1 h2 h3 h4
      by_cases h20 : 20 ≤ v
      · refine qr_tsO C 1481 dL_law_40 (Or.inr (by rw [nI_toInt (by omega)]; omega)) (by decide) ?_
        exact qw_widen (by omega) (by omega) (kk ad g χ nS nE σ r F hXP hMP hO hR)
      · match v, hv, h20 with
        | 0, _, _ =>
          refine qr_tsI C 136 dL_law_40 (by decide) (by decide) (off := 96) rfl (by decide) ?_
          exact q_case_0 C hst RLr hX hL (by omega) (by omega) (by omega) hXP hMP hO (hA.1 _ _ _ _ hR) (hA.2.1 χ nS nE σ (xs (i + 1)) (xs (i + 2)) (xs (i + 3)) (xs (i + 4)) hR) kk
        | 1, _, _ =>
          refine qr_tsI C 228 dL_law_40 (by decide) (by decide) (off := 188) rfl (by decide) ?_
          exact q_case_1 C hst RLr hX hL (by omega) (by omega) (by omega) hXP hMP hO (hA.1 _ _ _ _ hR) (hA.2.2.1 χ nS nE σ (xs (i + 1)) hR) kk
        | 2, _, _ =>
          refine qr_tsI C 284 dL_law_40 (by decide) (by decide) (off := 244) rfl (by decide) ?_
          exact q_case_2 C hst RLr hX hL (by omega) (by omega) (by omega) hXP hMP hO (hA.1 _ _ _ _ hR) (hA.2.2.2.1 χ nS nE σ (xs (i + 1)) hR) kk
        | 3, _, _ =>
          refine qr_tsI C 347 dL_law_40 (by decide) (by decide) (off := 307) rfl (by decide) ?_
          exact q_case_3 C hst RLr hX hL (by omega) (by omega) (by omega) hXP hMP hO (hA.1 _ _ _ _ hR) (hA.2.2.2.2.1 χ nS nE σ (xs (i + 1)) (xs (i + 2)) (xs (i + 3)) hR) kk
        | 4, _, _ =>
          refine qr_tsI C 427 dL_law_40 (by decide) (by decide) (off := 387) rfl (by decide) ?_
          exact q_case_4 C hst RLr hX hL (by omega) (by omega) (by omega) hXP hMP hO (hA.1 _ _ _ _ hR) (hA.2.2.2.2.2.1 χ nS nE σ (xs (i + 1)) (xs (i + 2)) (xs (i + 3)) hR) kk
        | 5, _, _ =>
          refine qr_tsI C 507 dL_law_40 (by decide) (by decide) (off := 467) rfl (by decide) ?_
          exact q_case_5 C hst RLr hX hL (by omega) (by omega) (by omega) hXP hMP hO (hA.1 _ _ _ _ hR) (hA.2.2.2.2.2.2.1 χ nS nE σ (xs (i + 1)) (xs (i + 2)) (xs (i + 3)) (xs (i + 4)) (xs (i + 5)) hR) kk
        | 6, _, _ =>
          refine qr_tsI C 611 dL_law_40 (by decide) (by decide) (off := 571) rfl (by decide) ?_
          exact q_case_6 C hst RLr hX hL (by omega) (by omega) (by omega) hXP hMP hO (hA.1 _ _ _ _ hR) (hA.2.2.2.2.2.2.2.1 χ nS nE σ (xs (i + 1)) hR) kk
        | 7, _, _ =>
          refine qr_tsI C 667 dL_law_40 (by decide) (by decide) (off := 627) rfl (by decide) ?_
          exact q_case_7 C hst RLr hX hL (by omega) (by omega) (by omega) hXP hMP hO (hA.1 _ _ _ _ hR) (hA.2.2.2.2.2.2.2.2.1 χ nS nE σ (xs (i + 1)) (xs (i + 2)) (xs (i + 3)) (xs (i + 4)) hR) kk
        | 8, _, _ =>
          refine qr_tsI C 766 dL_law_40 (by decide) (by decide) (off := 726) rfl (by decide) ?_
          exact q_case_8 C hst RLr hX hL (by omega) (by omega) (by omega) hXP hMP hO (hA.1 _ _ _ _ hR) (hA.2.2.2.2.2.2.2.2.2.1 χ nS nE σ (xs (i + 1)) hR) kk
        | 9, _, _ =>
          refine qr_tsI C 822 dL_law_40 (by decide) (by decide) (off := 782) rfl (by decide) ?_
          exact q_case_9 C hst RLr hX hL (by omega) (by omega) (by omega) hXP hMP hO (hA.1 _ _ _ _ hR) (hA.2.2.2.2.2.2.2.2.2.2.1 χ nS nE σ (xs (i + 1)) (xs (i + 2)) hR) kk
        | 10, _, _ =>
          refine qr_tsI C 890 dL_law_40 (by decide) (by decide) (off := 850) rfl (by decide) ?_
          exact q_case_10 C hst RLr hX hL (by omega) (by omega) (by omega) hXP hMP hO (hA.1 _ _ _ _ hR) (hA.2.2.2.2.2.2.2.2.2.2.2.1 χ nS nE σ (xs (i + 1)) (xs (i + 2)) hR) kk
        | 11, _, _ =>
          refine qr_tsI C 965 dL_law_40 (by decide) (by decide) (off := 925) rfl (by decide) ?_
          exact q_case_11 C hst RLr hX hL (by omega) (by omega) (by omega) hXP hMP hO (hA.1 _ _ _ _ hR) (hA.2.2.2.2.2.2.2.2.2.2.2.2.1 χ nS nE σ (xs (i + 1)) (xs (i + 2)) (xs (i + 3)) (xs (i + 4)) hR) kk
        | 12, _, _ =>
          refine qr_tsI C 1057 dL_law_40 (by decide) (by decide) (off := 1017) rfl (by decide) ?_
          exact q_case_12 C hst RLr hX hL (by omega) (by omega) (by omega) hXP hMP hO (hA.1 _ _ _ _ hR) (hA.2.2.2.2.2.2.2.2.2.2.2.2.2.1 χ nS nE σ (xs (i + 1)) (xs (i + 2)) (xs (i + 3)) (xs (i + 4)) hR) kk
        | 13, _, _ =>
          refine qr_tsI C 1149 dL_law_40 (by decide) (by decide) (off := 1109) rfl (by decide) ?_
          exact q_case_13 C hst RLr hX hL (by omega) (by omega) (by omega) hXP hMP hO (hA.1 _ _ _ _ hR) (hA.2.2.2.2.2.2.2.2.2.2.2.2.2.2.1 χ nS nE σ (xs (i + 1)) (xs (i + 2)) hR) kk
        | 14, _, _ =>
          refine qr_tsI C 1217 dL_law_40 (by decide) (by decide) (off := 1177) rfl (by decide) ?_
          exact q_case_14 C hst RLr (by omega) (by omega) hXP hMP hO (hA.2.2.2.2.2.2.2.2.2.2.2.2.2.2.2.1 χ nS nE σ hR) kk
        | 15, _, _ =>
          refine qr_tsI C 1230 dL_law_40 (by decide) (by decide) (off := 1190) rfl (by decide) ?_
          exact q_case_15 C hst RLr hX hL (by omega) (by omega) (by omega) hXP hMP hO (hA.1 _ _ _ _ hR) (hA.2.2.2.2.2.2.2.2.2.2.2.2.2.2.2.2.1 χ nS nE σ (xs (i + 1)) (xs (i + 2)) hR) kk
        | 16, _, _ =>
          refine qr_tsI C 1305 dL_law_40 (by decide) (by decide) (off := 1265) rfl (by decide) ?_
          exact q_case_16 C hst RLr (by omega) (by omega) hXP hMP hO (hA.2.2.2.2.2.2.2.2.2.2.2.2.2.2.2.2.2.1 χ nS nE σ hR) kk
        | 17, _, _ =>
          refine qr_tsI C 1318 dL_law_40 (by decide) (by decide) (off := 1278) rfl (by decide) ?_
          exact q_case_17 C hst RLr hX hL (by omega) (by omega) (by omega) hXP hMP hO (hA.1 _ _ _ _ hR) (hA.2.2.2.2.2.2.2.2.2.2.2.2.2.2.2.2.2.2.1 χ nS nE σ (xs (i + 1)) (xs (i + 2)) hR) kk
        | 18, _, _ =>
          refine qr_tsI C 1393 dL_law_40 (by decide) (by decide) (off := 1353) rfl (by decide) ?_
          exact q_case_18 C hst RLr hX hL (by omega) (by omega) (by omega) hXP hMP hO (hA.1 _ _ _ _ hR) (hA.2.2.2.2.2.2.2.2.2.2.2.2.2.2.2.2.2.2.2.1 χ nS nE σ (xs (i + 1)) (xs (i + 2)) hR) kk
        | 19, _, _ =>
          refine qr_tsI C 1468 dL_law_40 (by decide) (by decide) (off := 1428) rfl (by decide) ?_
          exact q_case_19 C hst RLr (by omega) (by omega) hXP hMP hO (hA.2.2.2.2.2.2.2.2.2.2.2.2.2.2.2.2.2.2.2.2 χ nS nE σ hR) kk
        | v + 20, _, h20 => exact absurd (Nat.le_add_left _ _) h20
