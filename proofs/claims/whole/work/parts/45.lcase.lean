/-! the law, call by call: what the class and the model must have in common is RL -/
/-- what the walks need of the two states -/
def ql_wf (χ : Nat → Nat → Int32) (nS nE : Nat) (σ : Nat → Nat → Int32) : Prop := σ 2 0 = nI nS ∧ σ 9 0 = nI nE ∧ (∀ i, i < nS → ∃ t, t < 3 ∧ σ 3 i = nI t) ∧ (∀ i, i < nE → ∃ t, t < 3 ∧ σ 10 i = nI t) ∧ (∀ i, i < nE → ∃ t, t < 4 ∧ σ 12 i = nI t) ∧ (∀ i, i < nS → ∃ t a b, t < 3 ∧ a < 4 ∧ b < 5 ∧ χ 40 i = nI t ∧ χ 41 i = nI a ∧ χ 42 i = nI b) ∧ (∀ i, i < nE → ∃ t v, t < 3 ∧ v < 5 ∧ χ 45 i = nI t ∧ χ 47 i = nI v) ∧ (∀ j, χ 7 j = 0 ∨ χ 7 j = 1)
def ql_pk (c : Int32) : Int32 → Prop := fun k => ¬ k = 0 ∧ c = k
theorem qx_op.cp {D : va_G} {ad : Nat → Nat} {g : qw_G} {nS nE : Nat} {c v : Int32} {χ : Nat → Nat → Int32} : qx_cp ad g (qx_op D ad g nS nE c v χ) := fun _ _ _ h => ⟨⟨_, h.2.1.symm⟩, h.2.2.2.2 150 (by omega), by rw [h.2.2.1]⟩
theorem qx_opn.cp {D : va_G} {ad : Nat → Nat} {g : qw_G} {nS nE : Nat} {c v : Int32} {χ : Nat → Nat → Int32} : qx_cp ad g (qx_opn D ad g nS nE c v χ) := fun _ _ _ h => ⟨⟨_, h.2.1.symm⟩, h.2.2.2.2 150 (by omega), h.2.2.1 150 (by omega)⟩
theorem sg_vj {x y : Int32} (h : some (Value.int x) = some (Value.int y)) : x = y := by injection h with h; injection h
theorem lg_cmp_same {x y : Int64} (h : x = y) : lg_cmp x y = 0 := by subst h; unfold lg_cmp; simp
theorem lg_cmp_same2 {x y z : Int64} (h : x = y) (h2 : y = z) : lg_cmp x z = 0 := lg_cmp_same (h.trans h2)
set_option maxHeartbeats 4000000 in
set_option maxRecDepth 100000 in
theorem q_case_0 {p : Program} {l : Launch} {e : Env} {s : State} {m : MethodId} {args : Array Value} {below : List Frame} {meth : Method} {c : Code} {D : va_G} {A : Nat → Prop} {Q : State → Prop} {k n : Nat} {ad : Nat → Nat} {g : qw_G} (C : qw_C p l s m args meth c D A 7 cL_law RL (some .boolean)) (hst : l.stackTraces = false) (RLr : (Nat → Nat → Int32) → Nat → Nat → (Nat → Nat → Int32) → Prop) {b L : Nat} {xs : Nat → Int32} (hX : ql_S b L xs A s) (hL : L ≤ 3072) {i : Nat} (hi : i + 6 ≤ L) (hk : k + 5 ≤ 601024) (hn : n + 30 ≤ 7293034) {χ σ : Nat → Nat → Int32} {nS nE : Nat} {r : Int32} {F : Nat → Int64} (hXP : qx_P D χ nS nE ad g) (hMP : qm_P D σ r ad g) (hO : g 150 = some (.inl (D.1 22, 1, .inr (.inl F)))) (hw : ql_wf χ nS nE σ) (hag : ((∀ E, qx_px ((cx_sale χ (xs (i + 1)) (xs (i + 2)) (xs (i + 3)) (xs (i + 4)))) E → (E = qw_E1 ∧ ql_pk ((sm_csale σ (xs (i + 1)) (xs (i + 2)) (xs (i + 3)) (xs (i + 4)))) 1) ∨ (E = qw_E2 ∧ ql_pk ((sm_csale σ (xs (i + 1)) (xs (i + 2)) (xs (i + 3)) (xs (i + 4)))) 2) ∨ (E = qw_E3 ∧ ql_pk ((sm_csale σ (xs (i + 1)) (xs (i + 2)) (xs (i + 3)) (xs (i + 4)))) 3)) ∧ (((cx_sale χ (xs (i + 1)) (xs (i + 2)) (xs (i + 3)) (xs (i + 4)))) = 0 → ((sm_csale σ (xs (i + 1)) (xs (i + 2)) (xs (i + 3)) (xs (i + 4)))) = 0 ∧ qx_oi ((χ 0 0)) = qx_oi ((σ 2 0)) ∧ RLr ((cx_saleS χ nS (xs (i + 1)) (xs (i + 2)) (xs (i + 3)) (xs (i + 4)))) (nS + 1) nE ((sm_saleS σ nS (xs (i + 1)) (xs (i + 2)) (xs (i + 3)) (xs (i + 4))))) ∧ RLr χ nS nE σ)) (kk : ∀ (ad' : Nat → Nat) (g' : qw_G) (χ' : Nat → Nat → Int32) (nS' nE' : Nat) (σ' : Nat → Nat → Int32) (r' : Int32) (F' : Nat → Int64), qx_P D χ' nS' nE' ad' g' → qm_P D σ' r' ad' g' → g' 150 = some (.inl (D.1 22, 1, .inr (.inl F'))) → RLr χ' nS' nE' σ' → qw_W p l e { frames := 12, cells := 601024, slots := 7293034, locals := 448 } s m args below meth c D A 7 Q (k + 5) (n + 30) ad' g' 1481 [(0, .ref b), (1, .ref (ad' 0)), (2, .ref (ad' 100)), (3, .ref (ad' 150)), (4, .int (nI i))] []) : qw_W p l e { frames := 12, cells := 601024, slots := 7293034, locals := 448 } s m args below meth c D A 7 Q k n ad g 136 [(0, .ref b), (1, .ref (ad 0)), (2, .ref (ad 100)), (3, .ref (ad 150)), (4, .int (nI i))] [] := by
  have hb := (qx_ct hXP).2.2
  refine qr_aload_n C dL_law_136 rfl 1 rfl ?_
  refine qr_aload_n C dL_law_137 rfl 0 rfl ?_
  refine qr_iload C dL_law_138 4 rfl ?_
  refine qr_iconst (v := 1) C dL_law_140 (by decide) ?_
  refine qr_iadd C dL_law_141 ?_
  refine qr_sld C hX (j := i + 1) (by rw [show (1 : Int32) = nI 1 from rfl, nI_add]) (by omega) (by omega) dL_law_142 ?_
  refine qr_aload_n C dL_law_143 rfl 0 rfl ?_
  refine qr_iload C dL_law_144 4 rfl ?_
  refine qr_iconst (v := 2) C dL_law_146 (by decide) ?_
  refine qr_iadd C dL_law_147 ?_
  refine qr_sld C hX (j := i + 2) (by rw [show (2 : Int32) = nI 2 from rfl, nI_add]) (by omega) (by omega) dL_law_148 ?_
  refine qr_aload_n C dL_law_149 rfl 0 rfl ?_
  refine qr_iload C dL_law_150 4 rfl ?_
  refine qr_iconst (v := 3) C dL_law_152 (by decide) ?_
  refine qr_iadd C dL_law_153 ?_
  refine qr_sld C hX (j := i + 3) (by rw [show (3 : Int32) = nI 3 from rfl, nI_add]) (by omega) (by omega) dL_law_154 ?_
  refine qr_aload_n C dL_law_155 rfl 0 rfl ?_
  refine qr_iload C dL_law_156 4 rfl ?_
  refine qr_iconst (v := 4) C dL_law_158 (by decide) ?_
  refine qr_iadd C dL_law_159 ?_
  refine qr_sld C hX (j := i + 4) (by rw [show (4 : Int32) = nI 4 from rfl, nI_add]) (by omega) (by omega) dL_law_160 ?_
  refine qr_aload_n C dL_law_161 rfl 3 rfl ?_
  refine qr_callSH C (na := 6) (As := [(.ref (ad 0)), (.int (xs (i + 1))), (.int (xs (i + 2))), (.int (xs (i + 3))), (.int (xs (i + 4))), (.ref (ad 150))]) (rest := []) (k_L_sale hst D ad g (xs (i + 1)) (xs (i + 2)) (xs (i + 3)) (xs (i + 4)) F hO (qx_x hXP) _ _ (ql_pk ((sm_csale σ (xs (i + 1)) (xs (i + 2)) (xs (i + 3)) (xs (i + 4))))) (k_X6_sale hst D ad g χ nS nE hXP (xs (i + 1)) (xs (i + 2)) (xs (i + 3)) (xs (i + 4))) qx_opn.cp hag.1) gi_L_78 ⟨by decide, by decide, by decide +kernel⟩ rfl rfl (Nat.le_of_ble_eq_true rfl) rfl rfl ⟨(Nat.le_of_ble_eq_true rfl), (Nat.le_of_ble_eq_true rfl)⟩ ⟨(show k + 5 ≤ 601024 by omega), (show n + 30 ≤ 7293034 by omega)⟩ dL_law_162 (fun v ad2 gz hpo => ?_)
  rcases hpo with ⟨V, gy, hcp, rfl, hg⟩ | ⟨k0, hk0, rfl, rfl, rfl⟩
  · skip
    obtain ⟨hc0, hv, had, hXn, hfr⟩ := hcp
    replace hv := sg_vj hv
    obtain ⟨hm0, hov, hRL⟩ := hag.2.1 hc0
    have hgz : ∀ t, t ≠ 150 → gz t = gy t := fun t ht => by rw [← hg]; exact va_up_ne _ _ ht
    have hO2 : gz 150 = some (.inl (D.1 22, 1, .inr (.inl (vp_updL F 0 (qx_oi V))))) := by rw [← hg]; exact va_up_self _ _ _
    have hX2 := qx_keep hXn (g' := gz) (fun t ht => hgz t (by omega))
    have hM2 := qm_keep hMP (g' := gz) (ad' := ad2) (fun t ht => (hgz t (by omega)).trans (hfr t (by omega))) (fun t ht => had t (by omega))
    refine qw_to (lv' := [(0, (.ref b)), (1, (.ref (ad2 0))), (2, (.ref (ad2 100))), (3, (.ref (ad2 150))), (4, (.int (nI i)))]) (st' := [(.int (0 : Int32))]) rfl rfl (by rw [had 0 (by omega), had 100 (by omega), had 150 (by omega)]) rfl ?_
    refine qr_istore (lv' := [(5, (.int (0 : Int32))), (0, (.ref b)), (1, (.ref (ad2 0))), (2, (.ref (ad2 100))), (3, (.ref (ad2 150))), (4, (.int (nI i)))]) C dL_law_165 (by decide) rfl ?_
    refine qr_aload_n C dL_law_167 rfl 3 rfl ?_
    refine qr_aload_n C dL_law_168 rfl 1 rfl ?_
    refine qr_iload C dL_law_169 5 rfl ?_
    refine qr_iconst (v := 1) C dL_law_171 (by decide) ?_
    refine qr_iadd C dL_law_172 ?_
    refine qr_sld C hX (j := i + 1) (by rw [show (1 : Int32) = nI 1 from rfl, nI_add]) (by omega) (by omega) dL_law_173 ?_
    refine qr_aload_n C dL_law_174 rfl 1 rfl ?_
    refine qr_iload C dL_law_175 5 rfl ?_
    refine qr_iconst (v := 2) C dL_law_177 (by decide) ?_
    refine qr_iadd C dL_law_178 ?_
    refine qr_sld C hX (j := i + 2) (by rw [show (2 : Int32) = nI 2 from rfl, nI_add]) (by omega) (by omega) dL_law_179 ?_
    refine qr_aload_n C dL_law_180 rfl 1 rfl ?_
    refine qr_iload C dL_law_181 5 rfl ?_
    refine qr_iconst (v := 3) C dL_law_183 (by decide) ?_
    refine qr_iadd C dL_law_184 ?_
    refine qr_sld C hX (j := i + 3) (by rw [show (3 : Int32) = nI 3 from rfl, nI_add]) (by omega) (by omega) dL_law_185 ?_
    refine qr_aload_n C dL_law_186 rfl 1 rfl ?_
    refine qr_iload C dL_law_187 5 rfl ?_
    refine qr_iconst (v := 4) C dL_law_189 (by decide) ?_
    refine qr_iadd C dL_law_190 ?_
    refine qr_sld C hX (j := i + 4) (by rw [show (4 : Int32) = nI 4 from rfl, nI_add]) (by omega) (by omega) dL_law_191 ?_
    refine qr_callV C (na := 4) (As := [(.int (xs (i + 1))), (.int (xs (i + 2))), (.int (xs (i + 3))), (.int (xs (i + 4)))]) (rest := []) (k_X7_sale hst D ad2 gz σ r hM2 nS hw.1 hb.1 (xs (i + 1)) (xs (i + 2)) (xs (i + 3)) (xs (i + 4))) (100) (hM2.1) rfl rfl gi_L_83 rfl ⟨by decide, by decide, by decide +kernel⟩ rfl rfl (Nat.le_of_ble_eq_true rfl) rfl rfl ⟨Nat.le_of_ble_eq_true rfl, Nat.le_of_ble_eq_true rfl⟩ ⟨(show (k + 5) + 0 ≤ 601024 by omega), (show (n + 30) + 0 ≤ 7293034 by omega)⟩ dL_law_192 (fun v ad2 gm hmp => ?_)
    obtain ⟨rfl, hfm, ⟨hmc, rfl, hP⟩ | ⟨hmc, rfl, hP⟩⟩ := hmp
    · skip
      exact absurd hm0 hmc
    · skip
      refine qr_istore (lv' := [(6, (.int ((σ 2 0)))), (5, (.int (0 : Int32))), (0, (.ref b)), (1, (.ref (ad2 0))), (2, (.ref (ad2 100))), (3, (.ref (ad2 150))), (4, (.int (nI i)))]) C dL_law_195 (by decide) rfl ?_
      refine qr_aload_n C dL_law_197 rfl 4 rfl ?_
      refine qr_callV C (na := 0) (As := []) (rest := []) (k_X7_thrown hst D ad2 gm ((sm_saleS σ nS (xs (i + 1)) (xs (i + 2)) (xs (i + 3)) (xs (i + 4)))) ((sm_csale σ (xs (i + 1)) (xs (i + 2)) (xs (i + 3)) (xs (i + 4)))) hP) (100) (hP.1) rfl rfl gi_L_84 rfl ⟨by decide, by decide, by decide +kernel⟩ rfl rfl (Nat.le_of_ble_eq_true rfl) rfl rfl ⟨Nat.le_of_ble_eq_true rfl, Nat.le_of_ble_eq_true rfl⟩ ⟨(show ((k + 5) + 0) + 0 ≤ 601024 by omega), (show ((n + 30) + 0) + 0 ≤ 7293034 by omega)⟩ dL_law_198 (fun v ad2 gt hpt => ?_)
      obtain ⟨rfl, rfl, rfl⟩ := hpt
      refine qr_iload C dL_law_201 1 rfl ?_
      refine qr_icmp_eq_t C 208 dL_law_203 (by decide) hm0 ?_
      refine qr_iload C dL_law_208 1 rfl ?_
      refine qr_if_ne_f C 225 dL_law_210 (by decide) rfl ?_
      refine qr_aload_n C dL_law_213 rfl 5 rfl ?_
      refine qr_iconst (v := 0) C dL_law_214 (by decide) ?_
      refine qr_lald C (x := (qx_oi V)) (150) (((hfm 150 (by omega)).trans hO2)) rfl (j := 0) rfl (by omega) rfl rfl dL_law_215 ?_
      refine qr_iload C dL_law_216 0 rfl ?_
      refine qr_i2l C dL_law_218 ?_
      refine qr_lcmp C dL_law_219 ?_
      refine qr_if_eq_t C 225 dL_law_220 (by decide) (lg_cmp_same (by rw [← hv]; exact hov)) ?_
      refine qr_goto (tgt := 1481) C dL_law_225 (by decide) ?_
      refine qw_pick [2, 3, 4, 5, 6] (lv' := [(0, (.ref b)), (1, (.ref (ad2 0))), (2, (.ref (ad2 100))), (3, (.ref (ad2 150))), (4, (.int (nI i)))]) rfl ?_
      exact qw_widen (by omega) (by omega) (kk ad2 gm _ _ _ _ _ _ (qx_keep hX2 (fun t ht => hfm t (by omega))) hP (((hfm 150 (by omega)).trans hO2)) hRL)
  · skip
    refine qr_istore (lv' := [(5, (.int k0)), (0, (.ref b)), (1, (.ref (ad 0))), (2, (.ref (ad 100))), (3, (.ref (ad 150))), (4, (.int (nI i)))]) C dL_law_165 (by decide) rfl ?_
    refine qr_aload_n C dL_law_167 rfl 3 rfl ?_
    refine qr_aload_n C dL_law_168 rfl 1 rfl ?_
    refine qr_iload C dL_law_169 5 rfl ?_
    refine qr_iconst (v := 1) C dL_law_171 (by decide) ?_
    refine qr_iadd C dL_law_172 ?_
    refine qr_sld C hX (j := i + 1) (by rw [show (1 : Int32) = nI 1 from rfl, nI_add]) (by omega) (by omega) dL_law_173 ?_
    refine qr_aload_n C dL_law_174 rfl 1 rfl ?_
    refine qr_iload C dL_law_175 5 rfl ?_
    refine qr_iconst (v := 2) C dL_law_177 (by decide) ?_
    refine qr_iadd C dL_law_178 ?_
    refine qr_sld C hX (j := i + 2) (by rw [show (2 : Int32) = nI 2 from rfl, nI_add]) (by omega) (by omega) dL_law_179 ?_
    refine qr_aload_n C dL_law_180 rfl 1 rfl ?_
    refine qr_iload C dL_law_181 5 rfl ?_
    refine qr_iconst (v := 3) C dL_law_183 (by decide) ?_
    refine qr_iadd C dL_law_184 ?_
    refine qr_sld C hX (j := i + 3) (by rw [show (3 : Int32) = nI 3 from rfl, nI_add]) (by omega) (by omega) dL_law_185 ?_
    refine qr_aload_n C dL_law_186 rfl 1 rfl ?_
    refine qr_iload C dL_law_187 5 rfl ?_
    refine qr_iconst (v := 4) C dL_law_189 (by decide) ?_
    refine qr_iadd C dL_law_190 ?_
    refine qr_sld C hX (j := i + 4) (by rw [show (4 : Int32) = nI 4 from rfl, nI_add]) (by omega) (by omega) dL_law_191 ?_
    refine qr_callV C (na := 4) (As := [(.int (xs (i + 1))), (.int (xs (i + 2))), (.int (xs (i + 3))), (.int (xs (i + 4)))]) (rest := []) (k_X7_sale hst D ad g σ r hMP nS hw.1 hb.1 (xs (i + 1)) (xs (i + 2)) (xs (i + 3)) (xs (i + 4))) (100) (hMP.1) rfl rfl gi_L_83 rfl ⟨by decide, by decide, by decide +kernel⟩ rfl rfl (Nat.le_of_ble_eq_true rfl) rfl rfl ⟨Nat.le_of_ble_eq_true rfl, Nat.le_of_ble_eq_true rfl⟩ ⟨(show (k + 5) + 0 ≤ 601024 by omega), (show (n + 30) + 0 ≤ 7293034 by omega)⟩ dL_law_192 (fun v ad2 gm hmp => ?_)
    obtain ⟨rfl, hfm, ⟨hmc, rfl, hP⟩ | ⟨hmc, rfl, hP⟩⟩ := hmp
    · skip
      refine qr_istore (lv' := [(6, (.int (0 : Int32))), (5, (.int k0)), (0, (.ref b)), (1, (.ref (ad 0))), (2, (.ref (ad 100))), (3, (.ref (ad 150))), (4, (.int (nI i)))]) C dL_law_195 (by decide) rfl ?_
      refine qr_aload_n C dL_law_197 rfl 4 rfl ?_
      refine qr_callV C (na := 0) (As := []) (rest := []) (k_X7_thrown hst D ad gm σ ((sm_csale σ (xs (i + 1)) (xs (i + 2)) (xs (i + 3)) (xs (i + 4)))) hP) (100) (hP.1) rfl rfl gi_L_84 rfl ⟨by decide, by decide, by decide +kernel⟩ rfl rfl (Nat.le_of_ble_eq_true rfl) rfl rfl ⟨Nat.le_of_ble_eq_true rfl, Nat.le_of_ble_eq_true rfl⟩ ⟨(show ((k + 5) + 0) + 0 ≤ 601024 by omega), (show ((n + 30) + 0) + 0 ≤ 7293034 by omega)⟩ dL_law_198 (fun v ad2 gt hpt => ?_)
      obtain ⟨rfl, rfl, rfl⟩ := hpt
      refine qr_iload C dL_law_201 1 rfl ?_
      refine qr_icmp_eq_t C 208 dL_law_203 (by decide) hk0.2 ?_
      refine qr_iload C dL_law_208 1 rfl ?_
      refine qr_if_ne_t C 225 dL_law_210 (by decide) hk0.1 ?_
      refine qr_goto (tgt := 1481) C dL_law_225 (by decide) ?_
      refine qw_pick [2, 3, 4, 5, 6] (lv' := [(0, (.ref b)), (1, (.ref (ad 0))), (2, (.ref (ad 100))), (3, (.ref (ad 150))), (4, (.int (nI i)))]) rfl ?_
      exact qw_widen (by omega) (by omega) (kk ad gm _ _ _ _ _ _ (qx_keep hXP (fun t ht => hfm t (by omega))) hP (((hfm 150 (by omega)).trans hO)) hag.2.2)
    · skip
      exact absurd (hk0.2.symm.trans hmc) hk0.1
set_option maxHeartbeats 4000000 in
set_option maxRecDepth 100000 in
theorem q_case_1 {p : Program} {l : Launch} {e : Env} {s : State} {m : MethodId} {args : Array Value} {below : List Frame} {meth : Method} {c : Code} {D : va_G} {A : Nat → Prop} {Q : State → Prop} {k n : Nat} {ad : Nat → Nat} {g : qw_G} (C : qw_C p l s m args meth c D A 7 cL_law RL (some .boolean)) (hst : l.stackTraces = false) (RLr : (Nat → Nat → Int32) → Nat → Nat → (Nat → Nat → Int32) → Prop) {b L : Nat} {xs : Nat → Int32} (hX : ql_S b L xs A s) (hL : L ≤ 3072) {i : Nat} (hi : i + 6 ≤ L) (hk : k + 5 ≤ 601024) (hn : n + 30 ≤ 7293034) {χ σ : Nat → Nat → Int32} {nS nE : Nat} {r : Int32} {F : Nat → Int64} (hXP : qx_P D χ nS nE ad g) (hMP : qm_P D σ r ad g) (hO : g 150 = some (.inl (D.1 22, 1, .inr (.inl F)))) (hw : ql_wf χ nS nE σ) (hag : ((∀ E, qx_px ((cx_take χ (xs (i + 1)))) E → (E = qw_E1 ∧ ql_pk ((sm_ctake σ (xs (i + 1)))) 1) ∨ (E = qw_E3 ∧ ql_pk ((sm_ctake σ (xs (i + 1)))) 2)) ∧ (((cx_take χ (xs (i + 1)))) = 0 → ((sm_ctake σ (xs (i + 1)))) = 0 ∧ qx_oi ((χ 43 (xs (i + 1)).toNatClampNeg)) = qx_oi ((σ 6 (xs (i + 1)).toNatClampNeg)) ∧ RLr ((cx_takeS χ (xs (i + 1)).toNatClampNeg)) nS nE ((sm_takeS σ (xs (i + 1))))) ∧ RLr χ nS nE σ)) (kk : ∀ (ad' : Nat → Nat) (g' : qw_G) (χ' : Nat → Nat → Int32) (nS' nE' : Nat) (σ' : Nat → Nat → Int32) (r' : Int32) (F' : Nat → Int64), qx_P D χ' nS' nE' ad' g' → qm_P D σ' r' ad' g' → g' 150 = some (.inl (D.1 22, 1, .inr (.inl F'))) → RLr χ' nS' nE' σ' → qw_W p l e { frames := 12, cells := 601024, slots := 7293034, locals := 448 } s m args below meth c D A 7 Q (k + 5) (n + 30) ad' g' 1481 [(0, .ref b), (1, .ref (ad' 0)), (2, .ref (ad' 100)), (3, .ref (ad' 150)), (4, .int (nI i))] []) : qw_W p l e { frames := 12, cells := 601024, slots := 7293034, locals := 448 } s m args below meth c D A 7 Q k n ad g 228 [(0, .ref b), (1, .ref (ad 0)), (2, .ref (ad 100)), (3, .ref (ad 150)), (4, .int (nI i))] [] := by
  have hb := (qx_ct hXP).2.2
  refine qr_aload_n C dL_law_228 rfl 1 rfl ?_
  refine qr_aload_n C dL_law_229 rfl 0 rfl ?_
  refine qr_iload C dL_law_230 4 rfl ?_
  refine qr_iconst (v := 1) C dL_law_232 (by decide) ?_
  refine qr_iadd C dL_law_233 ?_
  refine qr_sld C hX (j := i + 1) (by rw [show (1 : Int32) = nI 1 from rfl, nI_add]) (by omega) (by omega) dL_law_234 ?_
  refine qr_aload_n C dL_law_235 rfl 3 rfl ?_
  refine qr_callSH C (na := 3) (As := [(.ref (ad 0)), (.int (xs (i + 1))), (.ref (ad 150))]) (rest := []) (k_L_takeBack hst D ad g (xs (i + 1)) F hO (qx_x hXP) _ _ (ql_pk ((sm_ctake σ (xs (i + 1))))) (k_X6_takeBack hst D ad g χ nS nE hXP hw.2.2.2.2.2.1 (xs (i + 1))) qx_op.cp hag.1) gi_L_88 ⟨by decide, by decide, by decide +kernel⟩ rfl rfl (Nat.le_of_ble_eq_true rfl) rfl rfl ⟨(Nat.le_of_ble_eq_true rfl), (Nat.le_of_ble_eq_true rfl)⟩ ⟨(show k + 5 ≤ 601024 by omega), (show n + 30 ≤ 7293034 by omega)⟩ dL_law_236 (fun v ad2 gz hpo => ?_)
  rcases hpo with ⟨V, gy, hcp, rfl, hg⟩ | ⟨k0, hk0, rfl, rfl, rfl⟩
  · skip
    obtain ⟨hc0, hv, had, hXn, hfr⟩ := qx_op.n hcp
    replace hv := sg_vj hv
    obtain ⟨hm0, hov, hRL⟩ := hag.2.1 hc0
    have hgz : ∀ t, t ≠ 150 → gz t = gy t := fun t ht => by rw [← hg]; exact va_up_ne _ _ ht
    have hO2 : gz 150 = some (.inl (D.1 22, 1, .inr (.inl (vp_updL F 0 (qx_oi V))))) := by rw [← hg]; exact va_up_self _ _ _
    have hX2 := qx_keep hXn (g' := gz) (fun t ht => hgz t (by omega))
    have hM2 := qm_keep hMP (g' := gz) (ad' := ad2) (fun t ht => (hgz t (by omega)).trans (hfr t (by omega))) (fun t ht => had t (by omega))
    refine qw_to (lv' := [(0, (.ref b)), (1, (.ref (ad2 0))), (2, (.ref (ad2 100))), (3, (.ref (ad2 150))), (4, (.int (nI i)))]) (st' := [(.int (0 : Int32))]) rfl rfl (by rw [had 0 (by omega), had 100 (by omega), had 150 (by omega)]) rfl ?_
    refine qr_istore (lv' := [(5, (.int (0 : Int32))), (0, (.ref b)), (1, (.ref (ad2 0))), (2, (.ref (ad2 100))), (3, (.ref (ad2 150))), (4, (.int (nI i)))]) C dL_law_239 (by decide) rfl ?_
    refine qr_aload_n C dL_law_241 rfl 3 rfl ?_
    refine qr_aload_n C dL_law_242 rfl 1 rfl ?_
    refine qr_iload C dL_law_243 5 rfl ?_
    refine qr_iconst (v := 1) C dL_law_245 (by decide) ?_
    refine qr_iadd C dL_law_246 ?_
    refine qr_sld C hX (j := i + 1) (by rw [show (1 : Int32) = nI 1 from rfl, nI_add]) (by omega) (by omega) dL_law_247 ?_
    refine qr_callV C (na := 1) (As := [(.int (xs (i + 1)))]) (rest := []) (k_X7_takeBack hst D ad2 gz σ r hM2 nS hw.1 hb.1 hw.2.2.1 (xs (i + 1))) (100) (hM2.1) rfl rfl gi_L_91 rfl ⟨by decide, by decide, by decide +kernel⟩ rfl rfl (Nat.le_of_ble_eq_true rfl) rfl rfl ⟨Nat.le_of_ble_eq_true rfl, Nat.le_of_ble_eq_true rfl⟩ ⟨(show (k + 5) + 0 ≤ 601024 by omega), (show (n + 30) + 0 ≤ 7293034 by omega)⟩ dL_law_248 (fun v ad2 gm hmp => ?_)
    obtain ⟨rfl, hfm, ⟨hmc, rfl, hP⟩ | ⟨hmc, rfl, hP⟩⟩ := hmp
    · skip
      exact absurd hm0 hmc
    · skip
      refine qr_istore (lv' := [(6, (.int ((σ 6 (xs (i + 1)).toNatClampNeg)))), (5, (.int (0 : Int32))), (0, (.ref b)), (1, (.ref (ad2 0))), (2, (.ref (ad2 100))), (3, (.ref (ad2 150))), (4, (.int (nI i)))]) C dL_law_251 (by decide) rfl ?_
      refine qr_aload_n C dL_law_253 rfl 4 rfl ?_
      refine qr_callV C (na := 0) (As := []) (rest := []) (k_X7_thrown hst D ad2 gm ((sm_takeS σ (xs (i + 1)))) ((sm_ctake σ (xs (i + 1)))) hP) (100) (hP.1) rfl rfl gi_L_84 rfl ⟨by decide, by decide, by decide +kernel⟩ rfl rfl (Nat.le_of_ble_eq_true rfl) rfl rfl ⟨Nat.le_of_ble_eq_true rfl, Nat.le_of_ble_eq_true rfl⟩ ⟨(show ((k + 5) + 0) + 0 ≤ 601024 by omega), (show ((n + 30) + 0) + 0 ≤ 7293034 by omega)⟩ dL_law_254 (fun v ad2 gt hpt => ?_)
      obtain ⟨rfl, rfl, rfl⟩ := hpt
      refine qr_iload C dL_law_257 1 rfl ?_
      refine qr_icmp_eq_t C 264 dL_law_259 (by decide) hm0 ?_
      refine qr_iload C dL_law_264 1 rfl ?_
      refine qr_if_ne_f C 281 dL_law_266 (by decide) rfl ?_
      refine qr_aload_n C dL_law_269 rfl 5 rfl ?_
      refine qr_iconst (v := 0) C dL_law_270 (by decide) ?_
      refine qr_lald C (x := (qx_oi V)) (150) (((hfm 150 (by omega)).trans hO2)) rfl (j := 0) rfl (by omega) rfl rfl dL_law_271 ?_
      refine qr_iload C dL_law_272 0 rfl ?_
      refine qr_i2l C dL_law_274 ?_
      refine qr_lcmp C dL_law_275 ?_
      refine qr_if_eq_t C 281 dL_law_276 (by decide) (lg_cmp_same (by rw [← hv]; exact hov)) ?_
      refine qr_goto (tgt := 1481) C dL_law_281 (by decide) ?_
      refine qw_pick [2, 3, 4, 5, 6] (lv' := [(0, (.ref b)), (1, (.ref (ad2 0))), (2, (.ref (ad2 100))), (3, (.ref (ad2 150))), (4, (.int (nI i)))]) rfl ?_
      exact qw_widen (by omega) (by omega) (kk ad2 gm _ _ _ _ _ _ (qx_keep hX2 (fun t ht => hfm t (by omega))) hP (((hfm 150 (by omega)).trans hO2)) hRL)
  · skip
    refine qr_istore (lv' := [(5, (.int k0)), (0, (.ref b)), (1, (.ref (ad 0))), (2, (.ref (ad 100))), (3, (.ref (ad 150))), (4, (.int (nI i)))]) C dL_law_239 (by decide) rfl ?_
    refine qr_aload_n C dL_law_241 rfl 3 rfl ?_
    refine qr_aload_n C dL_law_242 rfl 1 rfl ?_
    refine qr_iload C dL_law_243 5 rfl ?_
    refine qr_iconst (v := 1) C dL_law_245 (by decide) ?_
    refine qr_iadd C dL_law_246 ?_
    refine qr_sld C hX (j := i + 1) (by rw [show (1 : Int32) = nI 1 from rfl, nI_add]) (by omega) (by omega) dL_law_247 ?_
    refine qr_callV C (na := 1) (As := [(.int (xs (i + 1)))]) (rest := []) (k_X7_takeBack hst D ad g σ r hMP nS hw.1 hb.1 hw.2.2.1 (xs (i + 1))) (100) (hMP.1) rfl rfl gi_L_91 rfl ⟨by decide, by decide, by decide +kernel⟩ rfl rfl (Nat.le_of_ble_eq_true rfl) rfl rfl ⟨Nat.le_of_ble_eq_true rfl, Nat.le_of_ble_eq_true rfl⟩ ⟨(show (k + 5) + 0 ≤ 601024 by omega), (show (n + 30) + 0 ≤ 7293034 by omega)⟩ dL_law_248 (fun v ad2 gm hmp => ?_)
    obtain ⟨rfl, hfm, ⟨hmc, rfl, hP⟩ | ⟨hmc, rfl, hP⟩⟩ := hmp
    · skip
      refine qr_istore (lv' := [(6, (.int (0 : Int32))), (5, (.int k0)), (0, (.ref b)), (1, (.ref (ad 0))), (2, (.ref (ad 100))), (3, (.ref (ad 150))), (4, (.int (nI i)))]) C dL_law_251 (by decide) rfl ?_
      refine qr_aload_n C dL_law_253 rfl 4 rfl ?_
      refine qr_callV C (na := 0) (As := []) (rest := []) (k_X7_thrown hst D ad gm σ ((sm_ctake σ (xs (i + 1)))) hP) (100) (hP.1) rfl rfl gi_L_84 rfl ⟨by decide, by decide, by decide +kernel⟩ rfl rfl (Nat.le_of_ble_eq_true rfl) rfl rfl ⟨Nat.le_of_ble_eq_true rfl, Nat.le_of_ble_eq_true rfl⟩ ⟨(show ((k + 5) + 0) + 0 ≤ 601024 by omega), (show ((n + 30) + 0) + 0 ≤ 7293034 by omega)⟩ dL_law_254 (fun v ad2 gt hpt => ?_)
      obtain ⟨rfl, rfl, rfl⟩ := hpt
      refine qr_iload C dL_law_257 1 rfl ?_
      refine qr_icmp_eq_t C 264 dL_law_259 (by decide) hk0.2 ?_
      refine qr_iload C dL_law_264 1 rfl ?_
      refine qr_if_ne_t C 281 dL_law_266 (by decide) hk0.1 ?_
      refine qr_goto (tgt := 1481) C dL_law_281 (by decide) ?_
      refine qw_pick [2, 3, 4, 5, 6] (lv' := [(0, (.ref b)), (1, (.ref (ad 0))), (2, (.ref (ad 100))), (3, (.ref (ad 150))), (4, (.int (nI i)))]) rfl ?_
      exact qw_widen (by omega) (by omega) (kk ad gm _ _ _ _ _ _ (qx_keep hXP (fun t ht => hfm t (by omega))) hP (((hfm 150 (by omega)).trans hO)) hag.2.2)
    · skip
      exact absurd (hk0.2.symm.trans hmc) hk0.1
set_option maxHeartbeats 4000000 in
set_option maxRecDepth 100000 in
theorem q_case_2 {p : Program} {l : Launch} {e : Env} {s : State} {m : MethodId} {args : Array Value} {below : List Frame} {meth : Method} {c : Code} {D : va_G} {A : Nat → Prop} {Q : State → Prop} {k n : Nat} {ad : Nat → Nat} {g : qw_G} (C : qw_C p l s m args meth c D A 7 cL_law RL (some .boolean)) (hst : l.stackTraces = false) (RLr : (Nat → Nat → Int32) → Nat → Nat → (Nat → Nat → Int32) → Prop) {b L : Nat} {xs : Nat → Int32} (hX : ql_S b L xs A s) (hL : L ≤ 3072) {i : Nat} (hi : i + 6 ≤ L) (hk : k + 5 ≤ 601024) (hn : n + 30 ≤ 7293034) {χ σ : Nat → Nat → Int32} {nS nE : Nat} {r : Int32} {F : Nat → Int64} (hXP : qx_P D χ nS nE ad g) (hMP : qm_P D σ r ad g) (hO : g 150 = some (.inl (D.1 22, 1, .inr (.inl F)))) (hw : ql_wf χ nS nE σ) (hag : ((∀ E, qx_px ((cx_turn (xs (i + 1)))) E → (E = qw_E1 ∧ ql_pk ((sm_cT (xs (i + 1)))) 1)) ∧ (((cx_turn (xs (i + 1)))) = 0 → ((sm_cT (xs (i + 1)))) = 0 ∧ qx_ob ((sm_not (χ 5 (xs (i + 1)).toNatClampNeg))) = qx_ob ((sm_not (σ 8 (xs (i + 1)).toNatClampNeg))) ∧ RLr ((va_up χ 5 (upd (χ 5) (xs (i + 1)).toNatClampNeg (sm_not (χ 5 (xs (i + 1)).toNatClampNeg))))) nS nE ((va_up σ 8 (upd (σ 8) (xs (i + 1)).toNatClampNeg (sm_not (σ 8 (xs (i + 1)).toNatClampNeg)))))) ∧ RLr χ nS nE σ)) (kk : ∀ (ad' : Nat → Nat) (g' : qw_G) (χ' : Nat → Nat → Int32) (nS' nE' : Nat) (σ' : Nat → Nat → Int32) (r' : Int32) (F' : Nat → Int64), qx_P D χ' nS' nE' ad' g' → qm_P D σ' r' ad' g' → g' 150 = some (.inl (D.1 22, 1, .inr (.inl F'))) → RLr χ' nS' nE' σ' → qw_W p l e { frames := 12, cells := 601024, slots := 7293034, locals := 448 } s m args below meth c D A 7 Q (k + 5) (n + 30) ad' g' 1481 [(0, .ref b), (1, .ref (ad' 0)), (2, .ref (ad' 100)), (3, .ref (ad' 150)), (4, .int (nI i))] []) : qw_W p l e { frames := 12, cells := 601024, slots := 7293034, locals := 448 } s m args below meth c D A 7 Q k n ad g 284 [(0, .ref b), (1, .ref (ad 0)), (2, .ref (ad 100)), (3, .ref (ad 150)), (4, .int (nI i))] [] := by
  have hb := (qx_ct hXP).2.2
  refine qr_aload_n C dL_law_284 rfl 1 rfl ?_
  refine qr_aload_n C dL_law_285 rfl 0 rfl ?_
  refine qr_iload C dL_law_286 4 rfl ?_
  refine qr_iconst (v := 1) C dL_law_288 (by decide) ?_
  refine qr_iadd C dL_law_289 ?_
  refine qr_sld C hX (j := i + 1) (by rw [show (1 : Int32) = nI 1 from rfl, nI_add]) (by omega) (by omega) dL_law_290 ?_
  refine qr_aload_n C dL_law_291 rfl 3 rfl ?_
  refine qr_callSH C (na := 3) (As := [(.ref (ad 0)), (.int (xs (i + 1))), (.ref (ad 150))]) (rest := []) (k_L_turn hst D ad g (xs (i + 1)) F hO (qx_x hXP) _ _ (ql_pk ((sm_cT (xs (i + 1))))) (k_X6_turn hst D ad g χ nS nE hXP (xs (i + 1))) qx_op.cp hag.1) gi_L_92 ⟨by decide, by decide, by decide +kernel⟩ rfl rfl (Nat.le_of_ble_eq_true rfl) rfl rfl ⟨(Nat.le_of_ble_eq_true rfl), (Nat.le_of_ble_eq_true rfl)⟩ ⟨(show k + 2 ≤ 601024 by omega), (show n + 12 ≤ 7293034 by omega)⟩ dL_law_292 (fun v ad2 gz hpo => ?_)
  rcases hpo with ⟨V, gy, hcp, rfl, hg⟩ | ⟨k0, hk0, rfl, rfl, rfl⟩
  · skip
    obtain ⟨hc0, hv, had, hXn, hfr⟩ := qx_op.n hcp
    replace hv := sg_vj hv
    obtain ⟨hm0, hov, hRL⟩ := hag.2.1 hc0
    have hgz : ∀ t, t ≠ 150 → gz t = gy t := fun t ht => by rw [← hg]; exact va_up_ne _ _ ht
    have hO2 : gz 150 = some (.inl (D.1 22, 1, .inr (.inl (vp_updL F 0 (qx_ob V))))) := by rw [← hg]; exact va_up_self _ _ _
    have hX2 := qx_keep hXn (g' := gz) (fun t ht => hgz t (by omega))
    have hM2 := qm_keep hMP (g' := gz) (ad' := ad2) (fun t ht => (hgz t (by omega)).trans (hfr t (by omega))) (fun t ht => had t (by omega))
    refine qw_to (lv' := [(0, (.ref b)), (1, (.ref (ad2 0))), (2, (.ref (ad2 100))), (3, (.ref (ad2 150))), (4, (.int (nI i)))]) (st' := [(.int (0 : Int32))]) rfl rfl (by rw [had 0 (by omega), had 100 (by omega), had 150 (by omega)]) rfl ?_
    refine qr_istore (lv' := [(5, (.int (0 : Int32))), (0, (.ref b)), (1, (.ref (ad2 0))), (2, (.ref (ad2 100))), (3, (.ref (ad2 150))), (4, (.int (nI i)))]) C dL_law_295 (by decide) rfl ?_
    refine qr_aload_n C dL_law_297 rfl 3 rfl ?_
    refine qr_aload_n C dL_law_298 rfl 1 rfl ?_
    refine qr_iload C dL_law_299 5 rfl ?_
    refine qr_iconst (v := 1) C dL_law_301 (by decide) ?_
    refine qr_iadd C dL_law_302 ?_
    refine qr_sld C hX (j := i + 1) (by rw [show (1 : Int32) = nI 1 from rfl, nI_add]) (by omega) (by omega) dL_law_303 ?_
    refine qr_callV C (na := 1) (As := [(.int (xs (i + 1)))]) (rest := []) (k_X7_turn hst D ad2 gz σ r hM2 (xs (i + 1))) (100) (hM2.1) rfl rfl gi_L_94 rfl ⟨by decide, by decide, by decide +kernel⟩ rfl rfl (Nat.le_of_ble_eq_true rfl) rfl rfl ⟨Nat.le_of_ble_eq_true rfl, Nat.le_of_ble_eq_true rfl⟩ ⟨(show (k + 2) + 0 ≤ 601024 by omega), (show (n + 12) + 0 ≤ 7293034 by omega)⟩ dL_law_304 (fun v ad2 gm hmp => ?_)
    obtain ⟨rfl, hfm, ⟨hmc, rfl, hP⟩ | ⟨hmc, rfl, hP⟩⟩ := hmp
    · skip
      exact absurd hm0 hmc
    · skip
      refine qr_istore (lv' := [(6, (.int ((sm_not (σ 8 (xs (i + 1)).toNatClampNeg))))), (5, (.int (0 : Int32))), (0, (.ref b)), (1, (.ref (ad2 0))), (2, (.ref (ad2 100))), (3, (.ref (ad2 150))), (4, (.int (nI i)))]) C dL_law_307 (by decide) rfl ?_
      refine qr_aload_n C dL_law_309 rfl 4 rfl ?_
      refine qr_callV C (na := 0) (As := []) (rest := []) (k_X7_thrown hst D ad2 gm ((va_up σ 8 (upd (σ 8) (xs (i + 1)).toNatClampNeg (sm_not (σ 8 (xs (i + 1)).toNatClampNeg))))) ((sm_cT (xs (i + 1)))) hP) (100) (hP.1) rfl rfl gi_L_84 rfl ⟨by decide, by decide, by decide +kernel⟩ rfl rfl (Nat.le_of_ble_eq_true rfl) rfl rfl ⟨Nat.le_of_ble_eq_true rfl, Nat.le_of_ble_eq_true rfl⟩ ⟨(show ((k + 2) + 0) + 0 ≤ 601024 by omega), (show ((n + 12) + 0) + 0 ≤ 7293034 by omega)⟩ dL_law_310 (fun v ad2 gt hpt => ?_)
      obtain ⟨rfl, rfl, rfl⟩ := hpt
      refine qr_iload C dL_law_313 1 rfl ?_
      refine qr_icmp_eq_t C 320 dL_law_315 (by decide) hm0 ?_
      refine qr_iload C dL_law_320 1 rfl ?_
      refine qr_if_ne_f C 344 dL_law_322 (by decide) rfl ?_
      refine qr_aload_n C dL_law_325 rfl 5 rfl ?_
      refine qr_iconst (v := 0) C dL_law_326 (by decide) ?_
      refine qr_lald C (x := (qx_ob V)) (150) (((hfm 150 (by omega)).trans hO2)) rfl (j := 0) rfl (by omega) rfl rfl dL_law_327 ?_
      refine qr_iload C dL_law_328 0 rfl ?_
      refine qr_if_eq C 337 dL_law_330 (by decide) (fun cz => ?_) (fun cz => ?_)
      · skip
        refine qr_lconst (v := 0) C dL_law_337 rfl ?_
        refine qr_lcmp C dL_law_338 ?_
        refine qr_if_eq_t C 344 dL_law_339 (by decide) (lg_cmp_same2 (by rw [← hv]; exact hov) (if_pos cz)) ?_
        refine qr_goto (tgt := 1481) C dL_law_344 (by decide) ?_
        refine qw_pick [2, 3, 4, 5, 6] (lv' := [(0, (.ref b)), (1, (.ref (ad2 0))), (2, (.ref (ad2 100))), (3, (.ref (ad2 150))), (4, (.int (nI i)))]) rfl ?_
        exact qw_widen (by omega) (by omega) (kk ad2 gm _ _ _ _ _ _ (qx_keep hX2 (fun t ht => hfm t (by omega))) hP (((hfm 150 (by omega)).trans hO2)) hRL)
      · skip
        refine qr_lconst (v := 1) C dL_law_333 rfl ?_
        refine qr_goto (tgt := 338) C dL_law_334 (by decide) ?_
        refine qr_lcmp C dL_law_338 ?_
        refine qr_if_eq_t C 344 dL_law_339 (by decide) (lg_cmp_same2 (by rw [← hv]; exact hov) (if_neg cz)) ?_
        refine qr_goto (tgt := 1481) C dL_law_344 (by decide) ?_
        refine qw_pick [2, 3, 4, 5, 6] (lv' := [(0, (.ref b)), (1, (.ref (ad2 0))), (2, (.ref (ad2 100))), (3, (.ref (ad2 150))), (4, (.int (nI i)))]) rfl ?_
        exact qw_widen (by omega) (by omega) (kk ad2 gm _ _ _ _ _ _ (qx_keep hX2 (fun t ht => hfm t (by omega))) hP (((hfm 150 (by omega)).trans hO2)) hRL)
  · skip
    refine qr_istore (lv' := [(5, (.int k0)), (0, (.ref b)), (1, (.ref (ad 0))), (2, (.ref (ad 100))), (3, (.ref (ad 150))), (4, (.int (nI i)))]) C dL_law_295 (by decide) rfl ?_
    refine qr_aload_n C dL_law_297 rfl 3 rfl ?_
    refine qr_aload_n C dL_law_298 rfl 1 rfl ?_
    refine qr_iload C dL_law_299 5 rfl ?_
    refine qr_iconst (v := 1) C dL_law_301 (by decide) ?_
    refine qr_iadd C dL_law_302 ?_
    refine qr_sld C hX (j := i + 1) (by rw [show (1 : Int32) = nI 1 from rfl, nI_add]) (by omega) (by omega) dL_law_303 ?_
    refine qr_callV C (na := 1) (As := [(.int (xs (i + 1)))]) (rest := []) (k_X7_turn hst D ad g σ r hMP (xs (i + 1))) (100) (hMP.1) rfl rfl gi_L_94 rfl ⟨by decide, by decide, by decide +kernel⟩ rfl rfl (Nat.le_of_ble_eq_true rfl) rfl rfl ⟨Nat.le_of_ble_eq_true rfl, Nat.le_of_ble_eq_true rfl⟩ ⟨(show (k + 2) + 0 ≤ 601024 by omega), (show (n + 12) + 0 ≤ 7293034 by omega)⟩ dL_law_304 (fun v ad2 gm hmp => ?_)
    obtain ⟨rfl, hfm, ⟨hmc, rfl, hP⟩ | ⟨hmc, rfl, hP⟩⟩ := hmp
    · skip
      refine qr_istore (lv' := [(6, (.int (0 : Int32))), (5, (.int k0)), (0, (.ref b)), (1, (.ref (ad 0))), (2, (.ref (ad 100))), (3, (.ref (ad 150))), (4, (.int (nI i)))]) C dL_law_307 (by decide) rfl ?_
      refine qr_aload_n C dL_law_309 rfl 4 rfl ?_
      refine qr_callV C (na := 0) (As := []) (rest := []) (k_X7_thrown hst D ad gm σ ((sm_cT (xs (i + 1)))) hP) (100) (hP.1) rfl rfl gi_L_84 rfl ⟨by decide, by decide, by decide +kernel⟩ rfl rfl (Nat.le_of_ble_eq_true rfl) rfl rfl ⟨Nat.le_of_ble_eq_true rfl, Nat.le_of_ble_eq_true rfl⟩ ⟨(show ((k + 2) + 0) + 0 ≤ 601024 by omega), (show ((n + 12) + 0) + 0 ≤ 7293034 by omega)⟩ dL_law_310 (fun v ad2 gt hpt => ?_)
      obtain ⟨rfl, rfl, rfl⟩ := hpt
      refine qr_iload C dL_law_313 1 rfl ?_
      refine qr_icmp_eq_t C 320 dL_law_315 (by decide) hk0.2 ?_
      refine qr_iload C dL_law_320 1 rfl ?_
      refine qr_if_ne_t C 344 dL_law_322 (by decide) hk0.1 ?_
      refine qr_goto (tgt := 1481) C dL_law_344 (by decide) ?_
      refine qw_pick [2, 3, 4, 5, 6] (lv' := [(0, (.ref b)), (1, (.ref (ad 0))), (2, (.ref (ad 100))), (3, (.ref (ad 150))), (4, (.int (nI i)))]) rfl ?_
      exact qw_widen (by omega) (by omega) (kk ad gm _ _ _ _ _ _ (qx_keep hXP (fun t ht => hfm t (by omega))) hP (((hfm 150 (by omega)).trans hO)) hag.2.2)
    · skip
      exact absurd (hk0.2.symm.trans hmc) hk0.1
set_option maxHeartbeats 4000000 in
set_option maxRecDepth 100000 in
theorem q_case_3 {p : Program} {l : Launch} {e : Env} {s : State} {m : MethodId} {args : Array Value} {below : List Frame} {meth : Method} {c : Code} {D : va_G} {A : Nat → Prop} {Q : State → Prop} {k n : Nat} {ad : Nat → Nat} {g : qw_G} (C : qw_C p l s m args meth c D A 7 cL_law RL (some .boolean)) (hst : l.stackTraces = false) (RLr : (Nat → Nat → Int32) → Nat → Nat → (Nat → Nat → Int32) → Prop) {b L : Nat} {xs : Nat → Int32} (hX : ql_S b L xs A s) (hL : L ≤ 3072) {i : Nat} (hi : i + 6 ≤ L) (hk : k + 5 ≤ 601024) (hn : n + 30 ≤ 7293034) {χ σ : Nat → Nat → Int32} {nS nE : Nat} {r : Int32} {F : Nat → Int64} (hXP : qx_P D χ nS nE ad g) (hMP : qm_P D σ r ad g) (hO : g 150 = some (.inl (D.1 22, 1, .inr (.inl F)))) (hw : ql_wf χ nS nE σ) (hag : ((∀ E, qx_px ((cx_sum χ (xs (i + 1)) (xs (i + 2)) (xs (i + 3)))) E → (E = qw_E1 ∧ ql_pk ((sm_cent σ (xs (i + 1)) (xs (i + 2)) (xs (i + 3)))) 1)) ∧ (((cx_sum χ (xs (i + 1)) (xs (i + 2)) (xs (i + 3)))) = 0 → ((sm_cent σ (xs (i + 1)) (xs (i + 2)) (xs (i + 3)))) = 0 ∧ qx_oi ((χ (10 + (xs (i + 1)).toNatClampNeg) (cx_entv χ (xs (i + 1)) (xs (i + 2)) (xs (i + 3))).toNatClampNeg)) = qx_oi ((sm_sumO σ (xs (i + 1)) (sm_ent σ (xs (i + 1)) (xs (i + 2)) (xs (i + 3))) nS)) ∧ RLr ((χ)) nS nE (σ)) ∧ RLr χ nS nE σ)) (kk : ∀ (ad' : Nat → Nat) (g' : qw_G) (χ' : Nat → Nat → Int32) (nS' nE' : Nat) (σ' : Nat → Nat → Int32) (r' : Int32) (F' : Nat → Int64), qx_P D χ' nS' nE' ad' g' → qm_P D σ' r' ad' g' → g' 150 = some (.inl (D.1 22, 1, .inr (.inl F'))) → RLr χ' nS' nE' σ' → qw_W p l e { frames := 12, cells := 601024, slots := 7293034, locals := 448 } s m args below meth c D A 7 Q (k + 5) (n + 30) ad' g' 1481 [(0, .ref b), (1, .ref (ad' 0)), (2, .ref (ad' 100)), (3, .ref (ad' 150)), (4, .int (nI i))] []) : qw_W p l e { frames := 12, cells := 601024, slots := 7293034, locals := 448 } s m args below meth c D A 7 Q k n ad g 347 [(0, .ref b), (1, .ref (ad 0)), (2, .ref (ad 100)), (3, .ref (ad 150)), (4, .int (nI i))] [] := by
  have hb := (qx_ct hXP).2.2
  refine qr_aload_n C dL_law_347 rfl 1 rfl ?_
  refine qr_aload_n C dL_law_348 rfl 0 rfl ?_
  refine qr_iload C dL_law_349 4 rfl ?_
  refine qr_iconst (v := 1) C dL_law_351 (by decide) ?_
  refine qr_iadd C dL_law_352 ?_
  refine qr_sld C hX (j := i + 1) (by rw [show (1 : Int32) = nI 1 from rfl, nI_add]) (by omega) (by omega) dL_law_353 ?_
  refine qr_aload_n C dL_law_354 rfl 0 rfl ?_
  refine qr_iload C dL_law_355 4 rfl ?_
  refine qr_iconst (v := 2) C dL_law_357 (by decide) ?_
  refine qr_iadd C dL_law_358 ?_
  refine qr_sld C hX (j := i + 2) (by rw [show (2 : Int32) = nI 2 from rfl, nI_add]) (by omega) (by omega) dL_law_359 ?_
  refine qr_aload_n C dL_law_360 rfl 0 rfl ?_
  refine qr_iload C dL_law_361 4 rfl ?_
  refine qr_iconst (v := 3) C dL_law_363 (by decide) ?_
  refine qr_iadd C dL_law_364 ?_
  refine qr_sld C hX (j := i + 3) (by rw [show (3 : Int32) = nI 3 from rfl, nI_add]) (by omega) (by omega) dL_law_365 ?_
  refine qr_aload_n C dL_law_366 rfl 3 rfl ?_
  refine qr_callSH C (na := 5) (As := [(.ref (ad 0)), (.int (xs (i + 1))), (.int (xs (i + 2))), (.int (xs (i + 3))), (.ref (ad 150))]) (rest := []) (k_L_sum hst D ad g (xs (i + 1)) (xs (i + 2)) (xs (i + 3)) F hO (qx_x hXP) _ _ (ql_pk ((sm_cent σ (xs (i + 1)) (xs (i + 2)) (xs (i + 3))))) (k_X6_sum hst D ad g χ nS nE hXP (xs (i + 1)) (xs (i + 2)) (xs (i + 3))) qx_op.cp hag.1) gi_L_95 ⟨by decide, by decide, by decide +kernel⟩ rfl rfl (Nat.le_of_ble_eq_true rfl) rfl rfl ⟨(Nat.le_of_ble_eq_true rfl), (Nat.le_of_ble_eq_true rfl)⟩ ⟨(show k + 3 ≤ 601024 by omega), (show n + 18 ≤ 7293034 by omega)⟩ dL_law_367 (fun v ad2 gz hpo => ?_)
  rcases hpo with ⟨V, gy, hcp, rfl, hg⟩ | ⟨k0, hk0, rfl, rfl, rfl⟩
  · skip
    obtain ⟨hc0, hv, had, hXn, hfr⟩ := qx_op.n hcp
    replace hv := sg_vj hv
    obtain ⟨hm0, hov, hRL⟩ := hag.2.1 hc0
    have hgz : ∀ t, t ≠ 150 → gz t = gy t := fun t ht => by rw [← hg]; exact va_up_ne _ _ ht
    have hO2 : gz 150 = some (.inl (D.1 22, 1, .inr (.inl (vp_updL F 0 (qx_oi V))))) := by rw [← hg]; exact va_up_self _ _ _
    have hX2 := qx_keep hXn (g' := gz) (fun t ht => hgz t (by omega))
    have hM2 := qm_keep hMP (g' := gz) (ad' := ad2) (fun t ht => (hgz t (by omega)).trans (hfr t (by omega))) (fun t ht => had t (by omega))
    refine qw_to (lv' := [(0, (.ref b)), (1, (.ref (ad2 0))), (2, (.ref (ad2 100))), (3, (.ref (ad2 150))), (4, (.int (nI i)))]) (st' := [(.int (0 : Int32))]) rfl rfl (by rw [had 0 (by omega), had 100 (by omega), had 150 (by omega)]) rfl ?_
    refine qr_istore (lv' := [(5, (.int (0 : Int32))), (0, (.ref b)), (1, (.ref (ad2 0))), (2, (.ref (ad2 100))), (3, (.ref (ad2 150))), (4, (.int (nI i)))]) C dL_law_370 (by decide) rfl ?_
    refine qr_aload_n C dL_law_372 rfl 3 rfl ?_
    refine qr_aload_n C dL_law_373 rfl 1 rfl ?_
    refine qr_iload C dL_law_374 5 rfl ?_
    refine qr_iconst (v := 1) C dL_law_376 (by decide) ?_
    refine qr_iadd C dL_law_377 ?_
    refine qr_sld C hX (j := i + 1) (by rw [show (1 : Int32) = nI 1 from rfl, nI_add]) (by omega) (by omega) dL_law_378 ?_
    refine qr_aload_n C dL_law_379 rfl 1 rfl ?_
    refine qr_iload C dL_law_380 5 rfl ?_
    refine qr_iconst (v := 2) C dL_law_382 (by decide) ?_
    refine qr_iadd C dL_law_383 ?_
    refine qr_sld C hX (j := i + 2) (by rw [show (2 : Int32) = nI 2 from rfl, nI_add]) (by omega) (by omega) dL_law_384 ?_
    refine qr_aload_n C dL_law_385 rfl 1 rfl ?_
    refine qr_iload C dL_law_386 5 rfl ?_
    refine qr_iconst (v := 3) C dL_law_388 (by decide) ?_
    refine qr_iadd C dL_law_389 ?_
    refine qr_sld C hX (j := i + 3) (by rw [show (3 : Int32) = nI 3 from rfl, nI_add]) (by omega) (by omega) dL_law_390 ?_
    refine qr_callV C (na := 3) (As := [(.int (xs (i + 1))), (.int (xs (i + 2))), (.int (xs (i + 3)))]) (rest := []) (k_X7_sum hst D ad2 gz σ r hM2 nS hw.1 hb.1 (xs (i + 1)) (xs (i + 2)) (xs (i + 3))) (100) (hM2.1) rfl rfl gi_L_98 rfl ⟨by decide, by decide, by decide +kernel⟩ rfl rfl (Nat.le_of_ble_eq_true rfl) rfl rfl ⟨Nat.le_of_ble_eq_true rfl, Nat.le_of_ble_eq_true rfl⟩ ⟨(show (k + 3) + 0 ≤ 601024 by omega), (show (n + 18) + 0 ≤ 7293034 by omega)⟩ dL_law_391 (fun v ad2 gm hmp => ?_)
    obtain ⟨rfl, hfm, ⟨hmc, rfl, hP⟩ | ⟨hmc, rfl, hP⟩⟩ := hmp
    · skip
      exact absurd hm0 hmc
    · skip
      refine qr_istore (lv' := [(6, (.int ((sm_sumO σ (xs (i + 1)) (sm_ent σ (xs (i + 1)) (xs (i + 2)) (xs (i + 3))) nS)))), (5, (.int (0 : Int32))), (0, (.ref b)), (1, (.ref (ad2 0))), (2, (.ref (ad2 100))), (3, (.ref (ad2 150))), (4, (.int (nI i)))]) C dL_law_394 (by decide) rfl ?_
      refine qr_aload_n C dL_law_396 rfl 4 rfl ?_
      refine qr_callV C (na := 0) (As := []) (rest := []) (k_X7_thrown hst D ad2 gm (σ) ((sm_cent σ (xs (i + 1)) (xs (i + 2)) (xs (i + 3)))) hP) (100) (hP.1) rfl rfl gi_L_84 rfl ⟨by decide, by decide, by decide +kernel⟩ rfl rfl (Nat.le_of_ble_eq_true rfl) rfl rfl ⟨Nat.le_of_ble_eq_true rfl, Nat.le_of_ble_eq_true rfl⟩ ⟨(show ((k + 3) + 0) + 0 ≤ 601024 by omega), (show ((n + 18) + 0) + 0 ≤ 7293034 by omega)⟩ dL_law_397 (fun v ad2 gt hpt => ?_)
      obtain ⟨rfl, rfl, rfl⟩ := hpt
      refine qr_iload C dL_law_400 1 rfl ?_
      refine qr_icmp_eq_t C 407 dL_law_402 (by decide) hm0 ?_
      refine qr_iload C dL_law_407 1 rfl ?_
      refine qr_if_ne_f C 424 dL_law_409 (by decide) rfl ?_
      refine qr_aload_n C dL_law_412 rfl 5 rfl ?_
      refine qr_iconst (v := 0) C dL_law_413 (by decide) ?_
      refine qr_lald C (x := (qx_oi V)) (150) (((hfm 150 (by omega)).trans hO2)) rfl (j := 0) rfl (by omega) rfl rfl dL_law_414 ?_
      refine qr_iload C dL_law_415 0 rfl ?_
      refine qr_i2l C dL_law_417 ?_
      refine qr_lcmp C dL_law_418 ?_
      refine qr_if_eq_t C 424 dL_law_419 (by decide) (lg_cmp_same (by rw [← hv]; exact hov)) ?_
      refine qr_goto (tgt := 1481) C dL_law_424 (by decide) ?_
      refine qw_pick [2, 3, 4, 5, 6] (lv' := [(0, (.ref b)), (1, (.ref (ad2 0))), (2, (.ref (ad2 100))), (3, (.ref (ad2 150))), (4, (.int (nI i)))]) rfl ?_
      exact qw_widen (by omega) (by omega) (kk ad2 gm _ _ _ _ _ _ (qx_keep hX2 (fun t ht => hfm t (by omega))) hP (((hfm 150 (by omega)).trans hO2)) hRL)
  · skip
    refine qr_istore (lv' := [(5, (.int k0)), (0, (.ref b)), (1, (.ref (ad 0))), (2, (.ref (ad 100))), (3, (.ref (ad 150))), (4, (.int (nI i)))]) C dL_law_370 (by decide) rfl ?_
    refine qr_aload_n C dL_law_372 rfl 3 rfl ?_
    refine qr_aload_n C dL_law_373 rfl 1 rfl ?_
    refine qr_iload C dL_law_374 5 rfl ?_
    refine qr_iconst (v := 1) C dL_law_376 (by decide) ?_
    refine qr_iadd C dL_law_377 ?_
    refine qr_sld C hX (j := i + 1) (by rw [show (1 : Int32) = nI 1 from rfl, nI_add]) (by omega) (by omega) dL_law_378 ?_
    refine qr_aload_n C dL_law_379 rfl 1 rfl ?_
    refine qr_iload C dL_law_380 5 rfl ?_
    refine qr_iconst (v := 2) C dL_law_382 (by decide) ?_
    refine qr_iadd C dL_law_383 ?_
    refine qr_sld C hX (j := i + 2) (by rw [show (2 : Int32) = nI 2 from rfl, nI_add]) (by omega) (by omega) dL_law_384 ?_
    refine qr_aload_n C dL_law_385 rfl 1 rfl ?_
    refine qr_iload C dL_law_386 5 rfl ?_
    refine qr_iconst (v := 3) C dL_law_388 (by decide) ?_
    refine qr_iadd C dL_law_389 ?_
    refine qr_sld C hX (j := i + 3) (by rw [show (3 : Int32) = nI 3 from rfl, nI_add]) (by omega) (by omega) dL_law_390 ?_
    refine qr_callV C (na := 3) (As := [(.int (xs (i + 1))), (.int (xs (i + 2))), (.int (xs (i + 3)))]) (rest := []) (k_X7_sum hst D ad g σ r hMP nS hw.1 hb.1 (xs (i + 1)) (xs (i + 2)) (xs (i + 3))) (100) (hMP.1) rfl rfl gi_L_98 rfl ⟨by decide, by decide, by decide +kernel⟩ rfl rfl (Nat.le_of_ble_eq_true rfl) rfl rfl ⟨Nat.le_of_ble_eq_true rfl, Nat.le_of_ble_eq_true rfl⟩ ⟨(show (k + 3) + 0 ≤ 601024 by omega), (show (n + 18) + 0 ≤ 7293034 by omega)⟩ dL_law_391 (fun v ad2 gm hmp => ?_)
    obtain ⟨rfl, hfm, ⟨hmc, rfl, hP⟩ | ⟨hmc, rfl, hP⟩⟩ := hmp
    · skip
      refine qr_istore (lv' := [(6, (.int (0 : Int32))), (5, (.int k0)), (0, (.ref b)), (1, (.ref (ad 0))), (2, (.ref (ad 100))), (3, (.ref (ad 150))), (4, (.int (nI i)))]) C dL_law_394 (by decide) rfl ?_
      refine qr_aload_n C dL_law_396 rfl 4 rfl ?_
      refine qr_callV C (na := 0) (As := []) (rest := []) (k_X7_thrown hst D ad gm σ ((sm_cent σ (xs (i + 1)) (xs (i + 2)) (xs (i + 3)))) hP) (100) (hP.1) rfl rfl gi_L_84 rfl ⟨by decide, by decide, by decide +kernel⟩ rfl rfl (Nat.le_of_ble_eq_true rfl) rfl rfl ⟨Nat.le_of_ble_eq_true rfl, Nat.le_of_ble_eq_true rfl⟩ ⟨(show ((k + 3) + 0) + 0 ≤ 601024 by omega), (show ((n + 18) + 0) + 0 ≤ 7293034 by omega)⟩ dL_law_397 (fun v ad2 gt hpt => ?_)
      obtain ⟨rfl, rfl, rfl⟩ := hpt
      refine qr_iload C dL_law_400 1 rfl ?_
      refine qr_icmp_eq_t C 407 dL_law_402 (by decide) hk0.2 ?_
      refine qr_iload C dL_law_407 1 rfl ?_
      refine qr_if_ne_t C 424 dL_law_409 (by decide) hk0.1 ?_
      refine qr_goto (tgt := 1481) C dL_law_424 (by decide) ?_
      refine qw_pick [2, 3, 4, 5, 6] (lv' := [(0, (.ref b)), (1, (.ref (ad 0))), (2, (.ref (ad 100))), (3, (.ref (ad 150))), (4, (.int (nI i)))]) rfl ?_
      exact qw_widen (by omega) (by omega) (kk ad gm _ _ _ _ _ _ (qx_keep hXP (fun t ht => hfm t (by omega))) hP (((hfm 150 (by omega)).trans hO)) hag.2.2)
    · skip
      exact absurd (hk0.2.symm.trans hmc) hk0.1
set_option maxHeartbeats 4000000 in
set_option maxRecDepth 100000 in
theorem q_case_4 {p : Program} {l : Launch} {e : Env} {s : State} {m : MethodId} {args : Array Value} {below : List Frame} {meth : Method} {c : Code} {D : va_G} {A : Nat → Prop} {Q : State → Prop} {k n : Nat} {ad : Nat → Nat} {g : qw_G} (C : qw_C p l s m args meth c D A 7 cL_law RL (some .boolean)) (hst : l.stackTraces = false) (RLr : (Nat → Nat → Int32) → Nat → Nat → (Nat → Nat → Int32) → Prop) {b L : Nat} {xs : Nat → Int32} (hX : ql_S b L xs A s) (hL : L ≤ 3072) {i : Nat} (hi : i + 6 ≤ L) (hk : k + 5 ≤ 601024) (hn : n + 30 ≤ 7293034) {χ σ : Nat → Nat → Int32} {nS nE : Nat} {r : Int32} {F : Nat → Int64} (hXP : qx_P D χ nS nE ad g) (hMP : qm_P D σ r ad g) (hO : g 150 = some (.inl (D.1 22, 1, .inr (.inl F)))) (hw : ql_wf χ nS nE σ) (hag : ((∀ E, qx_px ((cx_sfsC χ (xs (i + 1)) (xs (i + 2)) (xs (i + 3)))) E → (E = qw_E1 ∧ ql_pk ((sm_cent σ (xs (i + 1)) (xs (i + 2)) (xs (i + 3)))) 1)) ∧ (((cx_sfsC χ (xs (i + 1)) (xs (i + 2)) (xs (i + 3)))) = 0 → ((sm_cent σ (xs (i + 1)) (xs (i + 2)) (xs (i + 3)))) = 0 ∧ qx_oi ((cx_sfs χ (xs (i + 1)) (cx_entv χ (xs (i + 1)) (xs (i + 2)) (xs (i + 3))) nS)) = qx_oi ((sm_sumO σ (xs (i + 1)) (sm_ent σ (xs (i + 1)) (xs (i + 2)) (xs (i + 3))) nS)) ∧ RLr (χ) nS nE (σ)) ∧ RLr χ nS nE σ)) (kk : ∀ (ad' : Nat → Nat) (g' : qw_G) (χ' : Nat → Nat → Int32) (nS' nE' : Nat) (σ' : Nat → Nat → Int32) (r' : Int32) (F' : Nat → Int64), qx_P D χ' nS' nE' ad' g' → qm_P D σ' r' ad' g' → g' 150 = some (.inl (D.1 22, 1, .inr (.inl F'))) → RLr χ' nS' nE' σ' → qw_W p l e { frames := 12, cells := 601024, slots := 7293034, locals := 448 } s m args below meth c D A 7 Q (k + 5) (n + 30) ad' g' 1481 [(0, .ref b), (1, .ref (ad' 0)), (2, .ref (ad' 100)), (3, .ref (ad' 150)), (4, .int (nI i))] []) : qw_W p l e { frames := 12, cells := 601024, slots := 7293034, locals := 448 } s m args below meth c D A 7 Q k n ad g 427 [(0, .ref b), (1, .ref (ad 0)), (2, .ref (ad 100)), (3, .ref (ad 150)), (4, .int (nI i))] [] := by
  have hb := (qx_ct hXP).2.2
  refine qr_aload_n C dL_law_427 rfl 1 rfl ?_
  refine qr_aload_n C dL_law_428 rfl 0 rfl ?_
  refine qr_iload C dL_law_429 4 rfl ?_
  refine qr_iconst (v := 1) C dL_law_431 (by decide) ?_
  refine qr_iadd C dL_law_432 ?_
  refine qr_sld C hX (j := i + 1) (by rw [show (1 : Int32) = nI 1 from rfl, nI_add]) (by omega) (by omega) dL_law_433 ?_
  refine qr_aload_n C dL_law_434 rfl 0 rfl ?_
  refine qr_iload C dL_law_435 4 rfl ?_
  refine qr_iconst (v := 2) C dL_law_437 (by decide) ?_
  refine qr_iadd C dL_law_438 ?_
  refine qr_sld C hX (j := i + 2) (by rw [show (2 : Int32) = nI 2 from rfl, nI_add]) (by omega) (by omega) dL_law_439 ?_
  refine qr_aload_n C dL_law_440 rfl 0 rfl ?_
  refine qr_iload C dL_law_441 4 rfl ?_
  refine qr_iconst (v := 3) C dL_law_443 (by decide) ?_
  refine qr_iadd C dL_law_444 ?_
  refine qr_sld C hX (j := i + 3) (by rw [show (3 : Int32) = nI 3 from rfl, nI_add]) (by omega) (by omega) dL_law_445 ?_
  refine qr_aload_n C dL_law_446 rfl 3 rfl ?_
  refine qr_callSH C (na := 5) (As := [(.ref (ad 0)), (.int (xs (i + 1))), (.int (xs (i + 2))), (.int (xs (i + 3))), (.ref (ad 150))]) (rest := []) (k_L_sumFromSales hst D ad g (xs (i + 1)) (xs (i + 2)) (xs (i + 3)) F hO (qx_x hXP) _ _ (ql_pk ((sm_cent σ (xs (i + 1)) (xs (i + 2)) (xs (i + 3))))) (k_X6_sumFromSales hst D ad g χ nS nE hXP (xs (i + 1)) (xs (i + 2)) (xs (i + 3))) qx_op.cp hag.1) gi_L_99 ⟨by decide, by decide, by decide +kernel⟩ rfl rfl (Nat.le_of_ble_eq_true rfl) rfl rfl ⟨(Nat.le_of_ble_eq_true rfl), (Nat.le_of_ble_eq_true rfl)⟩ ⟨(show k + 3 ≤ 601024 by omega), (show n + 18 ≤ 7293034 by omega)⟩ dL_law_447 (fun v ad2 gz hpo => ?_)
  rcases hpo with ⟨V, gy, hcp, rfl, hg⟩ | ⟨k0, hk0, rfl, rfl, rfl⟩
  · skip
    obtain ⟨hc0, hv, had, hXn, hfr⟩ := qx_op.n hcp
    replace hv := sg_vj hv
    obtain ⟨hm0, hov, hRL⟩ := hag.2.1 hc0
    have hgz : ∀ t, t ≠ 150 → gz t = gy t := fun t ht => by rw [← hg]; exact va_up_ne _ _ ht
    have hO2 : gz 150 = some (.inl (D.1 22, 1, .inr (.inl (vp_updL F 0 (qx_oi V))))) := by rw [← hg]; exact va_up_self _ _ _
    have hX2 := qx_keep hXn (g' := gz) (fun t ht => hgz t (by omega))
    have hM2 := qm_keep hMP (g' := gz) (ad' := ad2) (fun t ht => (hgz t (by omega)).trans (hfr t (by omega))) (fun t ht => had t (by omega))
    refine qw_to (lv' := [(0, (.ref b)), (1, (.ref (ad2 0))), (2, (.ref (ad2 100))), (3, (.ref (ad2 150))), (4, (.int (nI i)))]) (st' := [(.int (0 : Int32))]) rfl rfl (by rw [had 0 (by omega), had 100 (by omega), had 150 (by omega)]) rfl ?_
    refine qr_istore (lv' := [(5, (.int (0 : Int32))), (0, (.ref b)), (1, (.ref (ad2 0))), (2, (.ref (ad2 100))), (3, (.ref (ad2 150))), (4, (.int (nI i)))]) C dL_law_450 (by decide) rfl ?_
    refine qr_aload_n C dL_law_452 rfl 3 rfl ?_
    refine qr_aload_n C dL_law_453 rfl 1 rfl ?_
    refine qr_iload C dL_law_454 5 rfl ?_
    refine qr_iconst (v := 1) C dL_law_456 (by decide) ?_
    refine qr_iadd C dL_law_457 ?_
    refine qr_sld C hX (j := i + 1) (by rw [show (1 : Int32) = nI 1 from rfl, nI_add]) (by omega) (by omega) dL_law_458 ?_
    refine qr_aload_n C dL_law_459 rfl 1 rfl ?_
    refine qr_iload C dL_law_460 5 rfl ?_
    refine qr_iconst (v := 2) C dL_law_462 (by decide) ?_
    refine qr_iadd C dL_law_463 ?_
    refine qr_sld C hX (j := i + 2) (by rw [show (2 : Int32) = nI 2 from rfl, nI_add]) (by omega) (by omega) dL_law_464 ?_
    refine qr_aload_n C dL_law_465 rfl 1 rfl ?_
    refine qr_iload C dL_law_466 5 rfl ?_
    refine qr_iconst (v := 3) C dL_law_468 (by decide) ?_
    refine qr_iadd C dL_law_469 ?_
    refine qr_sld C hX (j := i + 3) (by rw [show (3 : Int32) = nI 3 from rfl, nI_add]) (by omega) (by omega) dL_law_470 ?_
    refine qr_callV C (na := 3) (As := [(.int (xs (i + 1))), (.int (xs (i + 2))), (.int (xs (i + 3)))]) (rest := []) (k_X7_sumFromSales hst D ad2 gz σ r hM2 nS hw.1 hb.1 (xs (i + 1)) (xs (i + 2)) (xs (i + 3))) (100) (hM2.1) rfl rfl gi_L_101 rfl ⟨by decide, by decide, by decide +kernel⟩ rfl rfl (Nat.le_of_ble_eq_true rfl) rfl rfl ⟨Nat.le_of_ble_eq_true rfl, Nat.le_of_ble_eq_true rfl⟩ ⟨(show (k + 3) + 0 ≤ 601024 by omega), (show (n + 18) + 0 ≤ 7293034 by omega)⟩ dL_law_471 (fun v ad2 gm hmp => ?_)
    obtain ⟨rfl, hfm, ⟨hmc, rfl, hP⟩ | ⟨hmc, rfl, hP⟩⟩ := hmp
    · skip
      exact absurd hm0 hmc
    · skip
      refine qr_istore (lv' := [(6, (.int ((sm_sumO σ (xs (i + 1)) (sm_ent σ (xs (i + 1)) (xs (i + 2)) (xs (i + 3))) nS)))), (5, (.int (0 : Int32))), (0, (.ref b)), (1, (.ref (ad2 0))), (2, (.ref (ad2 100))), (3, (.ref (ad2 150))), (4, (.int (nI i)))]) C dL_law_474 (by decide) rfl ?_
      refine qr_aload_n C dL_law_476 rfl 4 rfl ?_
      refine qr_callV C (na := 0) (As := []) (rest := []) (k_X7_thrown hst D ad2 gm (σ) ((sm_cent σ (xs (i + 1)) (xs (i + 2)) (xs (i + 3)))) hP) (100) (hP.1) rfl rfl gi_L_84 rfl ⟨by decide, by decide, by decide +kernel⟩ rfl rfl (Nat.le_of_ble_eq_true rfl) rfl rfl ⟨Nat.le_of_ble_eq_true rfl, Nat.le_of_ble_eq_true rfl⟩ ⟨(show ((k + 3) + 0) + 0 ≤ 601024 by omega), (show ((n + 18) + 0) + 0 ≤ 7293034 by omega)⟩ dL_law_477 (fun v ad2 gt hpt => ?_)
      obtain ⟨rfl, rfl, rfl⟩ := hpt
      refine qr_iload C dL_law_480 1 rfl ?_
      refine qr_icmp_eq_t C 487 dL_law_482 (by decide) hm0 ?_
      refine qr_iload C dL_law_487 1 rfl ?_
      refine qr_if_ne_f C 504 dL_law_489 (by decide) rfl ?_
      refine qr_aload_n C dL_law_492 rfl 5 rfl ?_
      refine qr_iconst (v := 0) C dL_law_493 (by decide) ?_
      refine qr_lald C (x := (qx_oi V)) (150) (((hfm 150 (by omega)).trans hO2)) rfl (j := 0) rfl (by omega) rfl rfl dL_law_494 ?_
      refine qr_iload C dL_law_495 0 rfl ?_
      refine qr_i2l C dL_law_497 ?_
      refine qr_lcmp C dL_law_498 ?_
      refine qr_if_eq_t C 504 dL_law_499 (by decide) (lg_cmp_same (by rw [← hv]; exact hov)) ?_
      refine qr_goto (tgt := 1481) C dL_law_504 (by decide) ?_
      refine qw_pick [2, 3, 4, 5, 6] (lv' := [(0, (.ref b)), (1, (.ref (ad2 0))), (2, (.ref (ad2 100))), (3, (.ref (ad2 150))), (4, (.int (nI i)))]) rfl ?_
      exact qw_widen (by omega) (by omega) (kk ad2 gm _ _ _ _ _ _ (qx_keep hX2 (fun t ht => hfm t (by omega))) hP (((hfm 150 (by omega)).trans hO2)) hRL)
  · skip
    refine qr_istore (lv' := [(5, (.int k0)), (0, (.ref b)), (1, (.ref (ad 0))), (2, (.ref (ad 100))), (3, (.ref (ad 150))), (4, (.int (nI i)))]) C dL_law_450 (by decide) rfl ?_
    refine qr_aload_n C dL_law_452 rfl 3 rfl ?_
    refine qr_aload_n C dL_law_453 rfl 1 rfl ?_
    refine qr_iload C dL_law_454 5 rfl ?_
    refine qr_iconst (v := 1) C dL_law_456 (by decide) ?_
    refine qr_iadd C dL_law_457 ?_
    refine qr_sld C hX (j := i + 1) (by rw [show (1 : Int32) = nI 1 from rfl, nI_add]) (by omega) (by omega) dL_law_458 ?_
    refine qr_aload_n C dL_law_459 rfl 1 rfl ?_
    refine qr_iload C dL_law_460 5 rfl ?_
    refine qr_iconst (v := 2) C dL_law_462 (by decide) ?_
    refine qr_iadd C dL_law_463 ?_
    refine qr_sld C hX (j := i + 2) (by rw [show (2 : Int32) = nI 2 from rfl, nI_add]) (by omega) (by omega) dL_law_464 ?_
    refine qr_aload_n C dL_law_465 rfl 1 rfl ?_
    refine qr_iload C dL_law_466 5 rfl ?_
    refine qr_iconst (v := 3) C dL_law_468 (by decide) ?_
    refine qr_iadd C dL_law_469 ?_
    refine qr_sld C hX (j := i + 3) (by rw [show (3 : Int32) = nI 3 from rfl, nI_add]) (by omega) (by omega) dL_law_470 ?_
    refine qr_callV C (na := 3) (As := [(.int (xs (i + 1))), (.int (xs (i + 2))), (.int (xs (i + 3)))]) (rest := []) (k_X7_sumFromSales hst D ad g σ r hMP nS hw.1 hb.1 (xs (i + 1)) (xs (i + 2)) (xs (i + 3))) (100) (hMP.1) rfl rfl gi_L_101 rfl ⟨by decide, by decide, by decide +kernel⟩ rfl rfl (Nat.le_of_ble_eq_true rfl) rfl rfl ⟨Nat.le_of_ble_eq_true rfl, Nat.le_of_ble_eq_true rfl⟩ ⟨(show (k + 3) + 0 ≤ 601024 by omega), (show (n + 18) + 0 ≤ 7293034 by omega)⟩ dL_law_471 (fun v ad2 gm hmp => ?_)
    obtain ⟨rfl, hfm, ⟨hmc, rfl, hP⟩ | ⟨hmc, rfl, hP⟩⟩ := hmp
    · skip
      refine qr_istore (lv' := [(6, (.int (0 : Int32))), (5, (.int k0)), (0, (.ref b)), (1, (.ref (ad 0))), (2, (.ref (ad 100))), (3, (.ref (ad 150))), (4, (.int (nI i)))]) C dL_law_474 (by decide) rfl ?_
      refine qr_aload_n C dL_law_476 rfl 4 rfl ?_
      refine qr_callV C (na := 0) (As := []) (rest := []) (k_X7_thrown hst D ad gm σ ((sm_cent σ (xs (i + 1)) (xs (i + 2)) (xs (i + 3)))) hP) (100) (hP.1) rfl rfl gi_L_84 rfl ⟨by decide, by decide, by decide +kernel⟩ rfl rfl (Nat.le_of_ble_eq_true rfl) rfl rfl ⟨Nat.le_of_ble_eq_true rfl, Nat.le_of_ble_eq_true rfl⟩ ⟨(show ((k + 3) + 0) + 0 ≤ 601024 by omega), (show ((n + 18) + 0) + 0 ≤ 7293034 by omega)⟩ dL_law_477 (fun v ad2 gt hpt => ?_)
      obtain ⟨rfl, rfl, rfl⟩ := hpt
      refine qr_iload C dL_law_480 1 rfl ?_
      refine qr_icmp_eq_t C 487 dL_law_482 (by decide) hk0.2 ?_
      refine qr_iload C dL_law_487 1 rfl ?_
      refine qr_if_ne_t C 504 dL_law_489 (by decide) hk0.1 ?_
      refine qr_goto (tgt := 1481) C dL_law_504 (by decide) ?_
      refine qw_pick [2, 3, 4, 5, 6] (lv' := [(0, (.ref b)), (1, (.ref (ad 0))), (2, (.ref (ad 100))), (3, (.ref (ad 150))), (4, (.int (nI i)))]) rfl ?_
      exact qw_widen (by omega) (by omega) (kk ad gm _ _ _ _ _ _ (qx_keep hXP (fun t ht => hfm t (by omega))) hP (((hfm 150 (by omega)).trans hO)) hag.2.2)
    · skip
      exact absurd (hk0.2.symm.trans hmc) hk0.1
set_option maxHeartbeats 4000000 in
set_option maxRecDepth 100000 in
theorem q_case_5 {p : Program} {l : Launch} {e : Env} {s : State} {m : MethodId} {args : Array Value} {below : List Frame} {meth : Method} {c : Code} {D : va_G} {A : Nat → Prop} {Q : State → Prop} {k n : Nat} {ad : Nat → Nat} {g : qw_G} (C : qw_C p l s m args meth c D A 7 cL_law RL (some .boolean)) (hst : l.stackTraces = false) (RLr : (Nat → Nat → Int32) → Nat → Nat → (Nat → Nat → Int32) → Prop) {b L : Nat} {xs : Nat → Int32} (hX : ql_S b L xs A s) (hL : L ≤ 3072) {i : Nat} (hi : i + 6 ≤ L) (hk : k + 5 ≤ 601024) (hn : n + 30 ≤ 7293034) {χ σ : Nat → Nat → Int32} {nS nE : Nat} {r : Int32} {F : Nat → Int64} (hXP : qx_P D χ nS nE ad g) (hMP : qm_P D σ r ad g) (hO : g 150 = some (.inl (D.1 22, 1, .inr (.inl F)))) (hw : ql_wf χ nS nE σ) (hag : ((∀ E, qx_px ((cx_emb χ (xs (i + 1)) (xs (i + 2)) (xs (i + 3)) (xs (i + 4)) (xs (i + 5)))) E → (E = qw_E1 ∧ ql_pk ((sm_cemb σ (xs (i + 1)) (xs (i + 2)) (xs (i + 3)) (xs (i + 4)) (xs (i + 5)))) 1) ∨ (E = qw_E2 ∧ ql_pk ((sm_cemb σ (xs (i + 1)) (xs (i + 2)) (xs (i + 3)) (xs (i + 4)) (xs (i + 5)))) 2) ∨ (E = qw_E3 ∧ ql_pk ((sm_cemb σ (xs (i + 1)) (xs (i + 2)) (xs (i + 3)) (xs (i + 4)) (xs (i + 5)))) 3)) ∧ (((cx_emb χ (xs (i + 1)) (xs (i + 2)) (xs (i + 3)) (xs (i + 4)) (xs (i + 5)))) = 0 → ((sm_cemb σ (xs (i + 1)) (xs (i + 2)) (xs (i + 3)) (xs (i + 4)) (xs (i + 5)))) = 0 ∧ qx_oi ((χ 1 0)) = qx_oi ((σ 9 0)) ∧ RLr ((cx_embS χ nE (xs (i + 1)) (xs (i + 2)) (xs (i + 3)) (xs (i + 4)) (xs (i + 5)))) nS (nE + 1) ((sm_embS σ nE (xs (i + 1)) (xs (i + 2)) (xs (i + 3)) (xs (i + 4)) (xs (i + 5))))) ∧ RLr χ nS nE σ)) (kk : ∀ (ad' : Nat → Nat) (g' : qw_G) (χ' : Nat → Nat → Int32) (nS' nE' : Nat) (σ' : Nat → Nat → Int32) (r' : Int32) (F' : Nat → Int64), qx_P D χ' nS' nE' ad' g' → qm_P D σ' r' ad' g' → g' 150 = some (.inl (D.1 22, 1, .inr (.inl F'))) → RLr χ' nS' nE' σ' → qw_W p l e { frames := 12, cells := 601024, slots := 7293034, locals := 448 } s m args below meth c D A 7 Q (k + 5) (n + 30) ad' g' 1481 [(0, .ref b), (1, .ref (ad' 0)), (2, .ref (ad' 100)), (3, .ref (ad' 150)), (4, .int (nI i))] []) : qw_W p l e { frames := 12, cells := 601024, slots := 7293034, locals := 448 } s m args below meth c D A 7 Q k n ad g 507 [(0, .ref b), (1, .ref (ad 0)), (2, .ref (ad 100)), (3, .ref (ad 150)), (4, .int (nI i))] [] := by
  have hb := (qx_ct hXP).2.2
  refine qr_aload_n C dL_law_507 rfl 1 rfl ?_
  refine qr_aload_n C dL_law_508 rfl 0 rfl ?_
  refine qr_iload C dL_law_509 4 rfl ?_
  refine qr_iconst (v := 1) C dL_law_511 (by decide) ?_
  refine qr_iadd C dL_law_512 ?_
  refine qr_sld C hX (j := i + 1) (by rw [show (1 : Int32) = nI 1 from rfl, nI_add]) (by omega) (by omega) dL_law_513 ?_
  refine qr_aload_n C dL_law_514 rfl 0 rfl ?_
  refine qr_iload C dL_law_515 4 rfl ?_
  refine qr_iconst (v := 2) C dL_law_517 (by decide) ?_
  refine qr_iadd C dL_law_518 ?_
  refine qr_sld C hX (j := i + 2) (by rw [show (2 : Int32) = nI 2 from rfl, nI_add]) (by omega) (by omega) dL_law_519 ?_
  refine qr_aload_n C dL_law_520 rfl 0 rfl ?_
  refine qr_iload C dL_law_521 4 rfl ?_
  refine qr_iconst (v := 3) C dL_law_523 (by decide) ?_
  refine qr_iadd C dL_law_524 ?_
  refine qr_sld C hX (j := i + 3) (by rw [show (3 : Int32) = nI 3 from rfl, nI_add]) (by omega) (by omega) dL_law_525 ?_
  refine qr_aload_n C dL_law_526 rfl 0 rfl ?_
  refine qr_iload C dL_law_527 4 rfl ?_
  refine qr_iconst (v := 4) C dL_law_529 (by decide) ?_
  refine qr_iadd C dL_law_530 ?_
  refine qr_sld C hX (j := i + 4) (by rw [show (4 : Int32) = nI 4 from rfl, nI_add]) (by omega) (by omega) dL_law_531 ?_
  refine qr_aload_n C dL_law_532 rfl 0 rfl ?_
  refine qr_iload C dL_law_533 4 rfl ?_
  refine qr_iconst (v := 5) C dL_law_535 (by decide) ?_
  refine qr_iadd C dL_law_536 ?_
  refine qr_sld C hX (j := i + 5) (by rw [show (5 : Int32) = nI 5 from rfl, nI_add]) (by omega) (by omega) dL_law_537 ?_
  refine qr_aload_n C dL_law_538 rfl 3 rfl ?_
  refine qr_callSH C (na := 7) (As := [(.ref (ad 0)), (.int (xs (i + 1))), (.int (xs (i + 2))), (.int (xs (i + 3))), (.int (xs (i + 4))), (.int (xs (i + 5))), (.ref (ad 150))]) (rest := []) (k_L_embargo hst D ad g (xs (i + 1)) (xs (i + 2)) (xs (i + 3)) (xs (i + 4)) (xs (i + 5)) F hO (qx_x hXP) _ _ (ql_pk ((sm_cemb σ (xs (i + 1)) (xs (i + 2)) (xs (i + 3)) (xs (i + 4)) (xs (i + 5))))) (k_X6_embargo hst D ad g χ nS nE hXP (xs (i + 1)) (xs (i + 2)) (xs (i + 3)) (xs (i + 4)) (xs (i + 5))) qx_opn.cp hag.1) gi_L_102 ⟨by decide, by decide, by decide +kernel⟩ rfl rfl (Nat.le_of_ble_eq_true rfl) rfl rfl ⟨(Nat.le_of_ble_eq_true rfl), (Nat.le_of_ble_eq_true rfl)⟩ ⟨(show k + 5 ≤ 601024 by omega), (show n + 30 ≤ 7293034 by omega)⟩ dL_law_539 (fun v ad2 gz hpo => ?_)
  rcases hpo with ⟨V, gy, hcp, rfl, hg⟩ | ⟨k0, hk0, rfl, rfl, rfl⟩
  · skip
    obtain ⟨hc0, hv, had, hXn, hfr⟩ := hcp
    replace hv := sg_vj hv
    obtain ⟨hm0, hov, hRL⟩ := hag.2.1 hc0
    have hgz : ∀ t, t ≠ 150 → gz t = gy t := fun t ht => by rw [← hg]; exact va_up_ne _ _ ht
    have hO2 : gz 150 = some (.inl (D.1 22, 1, .inr (.inl (vp_updL F 0 (qx_oi V))))) := by rw [← hg]; exact va_up_self _ _ _
    have hX2 := qx_keep hXn (g' := gz) (fun t ht => hgz t (by omega))
    have hM2 := qm_keep hMP (g' := gz) (ad' := ad2) (fun t ht => (hgz t (by omega)).trans (hfr t (by omega))) (fun t ht => had t (by omega))
    refine qw_to (lv' := [(0, (.ref b)), (1, (.ref (ad2 0))), (2, (.ref (ad2 100))), (3, (.ref (ad2 150))), (4, (.int (nI i)))]) (st' := [(.int (0 : Int32))]) rfl rfl (by rw [had 0 (by omega), had 100 (by omega), had 150 (by omega)]) rfl ?_
    refine qr_istore (lv' := [(5, (.int (0 : Int32))), (0, (.ref b)), (1, (.ref (ad2 0))), (2, (.ref (ad2 100))), (3, (.ref (ad2 150))), (4, (.int (nI i)))]) C dL_law_542 (by decide) rfl ?_
    refine qr_aload_n C dL_law_544 rfl 3 rfl ?_
    refine qr_aload_n C dL_law_545 rfl 1 rfl ?_
    refine qr_iload C dL_law_546 5 rfl ?_
    refine qr_iconst (v := 1) C dL_law_548 (by decide) ?_
    refine qr_iadd C dL_law_549 ?_
    refine qr_sld C hX (j := i + 1) (by rw [show (1 : Int32) = nI 1 from rfl, nI_add]) (by omega) (by omega) dL_law_550 ?_
    refine qr_aload_n C dL_law_551 rfl 1 rfl ?_
    refine qr_iload C dL_law_552 5 rfl ?_
    refine qr_iconst (v := 2) C dL_law_554 (by decide) ?_
    refine qr_iadd C dL_law_555 ?_
    refine qr_sld C hX (j := i + 2) (by rw [show (2 : Int32) = nI 2 from rfl, nI_add]) (by omega) (by omega) dL_law_556 ?_
    refine qr_aload_n C dL_law_557 rfl 1 rfl ?_
    refine qr_iload C dL_law_558 5 rfl ?_
    refine qr_iconst (v := 3) C dL_law_560 (by decide) ?_
    refine qr_iadd C dL_law_561 ?_
    refine qr_sld C hX (j := i + 3) (by rw [show (3 : Int32) = nI 3 from rfl, nI_add]) (by omega) (by omega) dL_law_562 ?_
    refine qr_aload_n C dL_law_563 rfl 1 rfl ?_
    refine qr_iload C dL_law_564 5 rfl ?_
    refine qr_iconst (v := 4) C dL_law_566 (by decide) ?_
    refine qr_iadd C dL_law_567 ?_
    refine qr_sld C hX (j := i + 4) (by rw [show (4 : Int32) = nI 4 from rfl, nI_add]) (by omega) (by omega) dL_law_568 ?_
    refine qr_aload_n C dL_law_569 rfl 1 rfl ?_
    refine qr_iload C dL_law_570 5 rfl ?_
    refine qr_iconst (v := 5) C dL_law_572 (by decide) ?_
    refine qr_iadd C dL_law_573 ?_
    refine qr_sld C hX (j := i + 5) (by rw [show (5 : Int32) = nI 5 from rfl, nI_add]) (by omega) (by omega) dL_law_574 ?_
    refine qr_callV C (na := 5) (As := [(.int (xs (i + 1))), (.int (xs (i + 2))), (.int (xs (i + 3))), (.int (xs (i + 4))), (.int (xs (i + 5)))]) (rest := []) (k_X7_embargo hst D ad2 gz σ r hM2 nE hw.2.1 hb.2 (xs (i + 1)) (xs (i + 2)) (xs (i + 3)) (xs (i + 4)) (xs (i + 5))) (100) (hM2.1) rfl rfl gi_L_105 rfl ⟨by decide, by decide, by decide +kernel⟩ rfl rfl (Nat.le_of_ble_eq_true rfl) rfl rfl ⟨Nat.le_of_ble_eq_true rfl, Nat.le_of_ble_eq_true rfl⟩ ⟨(show (k + 5) + 0 ≤ 601024 by omega), (show (n + 30) + 0 ≤ 7293034 by omega)⟩ dL_law_575 (fun v ad2 gm hmp => ?_)
    obtain ⟨rfl, hfm, ⟨hmc, rfl, hP⟩ | ⟨hmc, rfl, hP⟩⟩ := hmp
    · skip
      exact absurd hm0 hmc
    · skip
      refine qr_istore (lv' := [(6, (.int ((σ 9 0)))), (5, (.int (0 : Int32))), (0, (.ref b)), (1, (.ref (ad2 0))), (2, (.ref (ad2 100))), (3, (.ref (ad2 150))), (4, (.int (nI i)))]) C dL_law_578 (by decide) rfl ?_
      refine qr_aload_n C dL_law_580 rfl 4 rfl ?_
      refine qr_callV C (na := 0) (As := []) (rest := []) (k_X7_thrown hst D ad2 gm ((sm_embS σ nE (xs (i + 1)) (xs (i + 2)) (xs (i + 3)) (xs (i + 4)) (xs (i + 5)))) ((sm_cemb σ (xs (i + 1)) (xs (i + 2)) (xs (i + 3)) (xs (i + 4)) (xs (i + 5)))) hP) (100) (hP.1) rfl rfl gi_L_84 rfl ⟨by decide, by decide, by decide +kernel⟩ rfl rfl (Nat.le_of_ble_eq_true rfl) rfl rfl ⟨Nat.le_of_ble_eq_true rfl, Nat.le_of_ble_eq_true rfl⟩ ⟨(show ((k + 5) + 0) + 0 ≤ 601024 by omega), (show ((n + 30) + 0) + 0 ≤ 7293034 by omega)⟩ dL_law_581 (fun v ad2 gt hpt => ?_)
      obtain ⟨rfl, rfl, rfl⟩ := hpt
      refine qr_iload C dL_law_584 1 rfl ?_
      refine qr_icmp_eq_t C 591 dL_law_586 (by decide) hm0 ?_
      refine qr_iload C dL_law_591 1 rfl ?_
      refine qr_if_ne_f C 608 dL_law_593 (by decide) rfl ?_
      refine qr_aload_n C dL_law_596 rfl 5 rfl ?_
      refine qr_iconst (v := 0) C dL_law_597 (by decide) ?_
      refine qr_lald C (x := (qx_oi V)) (150) (((hfm 150 (by omega)).trans hO2)) rfl (j := 0) rfl (by omega) rfl rfl dL_law_598 ?_
      refine qr_iload C dL_law_599 0 rfl ?_
      refine qr_i2l C dL_law_601 ?_
      refine qr_lcmp C dL_law_602 ?_
      refine qr_if_eq_t C 608 dL_law_603 (by decide) (lg_cmp_same (by rw [← hv]; exact hov)) ?_
      refine qr_goto (tgt := 1481) C dL_law_608 (by decide) ?_
      refine qw_pick [2, 3, 4, 5, 6] (lv' := [(0, (.ref b)), (1, (.ref (ad2 0))), (2, (.ref (ad2 100))), (3, (.ref (ad2 150))), (4, (.int (nI i)))]) rfl ?_
      exact qw_widen (by omega) (by omega) (kk ad2 gm _ _ _ _ _ _ (qx_keep hX2 (fun t ht => hfm t (by omega))) hP (((hfm 150 (by omega)).trans hO2)) hRL)
  · skip
    refine qr_istore (lv' := [(5, (.int k0)), (0, (.ref b)), (1, (.ref (ad 0))), (2, (.ref (ad 100))), (3, (.ref (ad 150))), (4, (.int (nI i)))]) C dL_law_542 (by decide) rfl ?_
    refine qr_aload_n C dL_law_544 rfl 3 rfl ?_
    refine qr_aload_n C dL_law_545 rfl 1 rfl ?_
    refine qr_iload C dL_law_546 5 rfl ?_
    refine qr_iconst (v := 1) C dL_law_548 (by decide) ?_
    refine qr_iadd C dL_law_549 ?_
    refine qr_sld C hX (j := i + 1) (by rw [show (1 : Int32) = nI 1 from rfl, nI_add]) (by omega) (by omega) dL_law_550 ?_
    refine qr_aload_n C dL_law_551 rfl 1 rfl ?_
    refine qr_iload C dL_law_552 5 rfl ?_
    refine qr_iconst (v := 2) C dL_law_554 (by decide) ?_
    refine qr_iadd C dL_law_555 ?_
    refine qr_sld C hX (j := i + 2) (by rw [show (2 : Int32) = nI 2 from rfl, nI_add]) (by omega) (by omega) dL_law_556 ?_
    refine qr_aload_n C dL_law_557 rfl 1 rfl ?_
    refine qr_iload C dL_law_558 5 rfl ?_
    refine qr_iconst (v := 3) C dL_law_560 (by decide) ?_
    refine qr_iadd C dL_law_561 ?_
    refine qr_sld C hX (j := i + 3) (by rw [show (3 : Int32) = nI 3 from rfl, nI_add]) (by omega) (by omega) dL_law_562 ?_
    refine qr_aload_n C dL_law_563 rfl 1 rfl ?_
    refine qr_iload C dL_law_564 5 rfl ?_
    refine qr_iconst (v := 4) C dL_law_566 (by decide) ?_
    refine qr_iadd C dL_law_567 ?_
    refine qr_sld C hX (j := i + 4) (by rw [show (4 : Int32) = nI 4 from rfl, nI_add]) (by omega) (by omega) dL_law_568 ?_
    refine qr_aload_n C dL_law_569 rfl 1 rfl ?_
    refine qr_iload C dL_law_570 5 rfl ?_
    refine qr_iconst (v := 5) C dL_law_572 (by decide) ?_
    refine qr_iadd C dL_law_573 ?_
    refine qr_sld C hX (j := i + 5) (by rw [show (5 : Int32) = nI 5 from rfl, nI_add]) (by omega) (by omega) dL_law_574 ?_
    refine qr_callV C (na := 5) (As := [(.int (xs (i + 1))), (.int (xs (i + 2))), (.int (xs (i + 3))), (.int (xs (i + 4))), (.int (xs (i + 5)))]) (rest := []) (k_X7_embargo hst D ad g σ r hMP nE hw.2.1 hb.2 (xs (i + 1)) (xs (i + 2)) (xs (i + 3)) (xs (i + 4)) (xs (i + 5))) (100) (hMP.1) rfl rfl gi_L_105 rfl ⟨by decide, by decide, by decide +kernel⟩ rfl rfl (Nat.le_of_ble_eq_true rfl) rfl rfl ⟨Nat.le_of_ble_eq_true rfl, Nat.le_of_ble_eq_true rfl⟩ ⟨(show (k + 5) + 0 ≤ 601024 by omega), (show (n + 30) + 0 ≤ 7293034 by omega)⟩ dL_law_575 (fun v ad2 gm hmp => ?_)
    obtain ⟨rfl, hfm, ⟨hmc, rfl, hP⟩ | ⟨hmc, rfl, hP⟩⟩ := hmp
    · skip
      refine qr_istore (lv' := [(6, (.int (0 : Int32))), (5, (.int k0)), (0, (.ref b)), (1, (.ref (ad 0))), (2, (.ref (ad 100))), (3, (.ref (ad 150))), (4, (.int (nI i)))]) C dL_law_578 (by decide) rfl ?_
      refine qr_aload_n C dL_law_580 rfl 4 rfl ?_
      refine qr_callV C (na := 0) (As := []) (rest := []) (k_X7_thrown hst D ad gm σ ((sm_cemb σ (xs (i + 1)) (xs (i + 2)) (xs (i + 3)) (xs (i + 4)) (xs (i + 5)))) hP) (100) (hP.1) rfl rfl gi_L_84 rfl ⟨by decide, by decide, by decide +kernel⟩ rfl rfl (Nat.le_of_ble_eq_true rfl) rfl rfl ⟨Nat.le_of_ble_eq_true rfl, Nat.le_of_ble_eq_true rfl⟩ ⟨(show ((k + 5) + 0) + 0 ≤ 601024 by omega), (show ((n + 30) + 0) + 0 ≤ 7293034 by omega)⟩ dL_law_581 (fun v ad2 gt hpt => ?_)
      obtain ⟨rfl, rfl, rfl⟩ := hpt
      refine qr_iload C dL_law_584 1 rfl ?_
      refine qr_icmp_eq_t C 591 dL_law_586 (by decide) hk0.2 ?_
      refine qr_iload C dL_law_591 1 rfl ?_
      refine qr_if_ne_t C 608 dL_law_593 (by decide) hk0.1 ?_
      refine qr_goto (tgt := 1481) C dL_law_608 (by decide) ?_
      refine qw_pick [2, 3, 4, 5, 6] (lv' := [(0, (.ref b)), (1, (.ref (ad 0))), (2, (.ref (ad 100))), (3, (.ref (ad 150))), (4, (.int (nI i)))]) rfl ?_
      exact qw_widen (by omega) (by omega) (kk ad gm _ _ _ _ _ _ (qx_keep hXP (fun t ht => hfm t (by omega))) hP (((hfm 150 (by omega)).trans hO)) hag.2.2)
    · skip
      exact absurd (hk0.2.symm.trans hmc) hk0.1
set_option maxHeartbeats 4000000 in
set_option maxRecDepth 100000 in
theorem q_case_6 {p : Program} {l : Launch} {e : Env} {s : State} {m : MethodId} {args : Array Value} {below : List Frame} {meth : Method} {c : Code} {D : va_G} {A : Nat → Prop} {Q : State → Prop} {k n : Nat} {ad : Nat → Nat} {g : qw_G} (C : qw_C p l s m args meth c D A 7 cL_law RL (some .boolean)) (hst : l.stackTraces = false) (RLr : (Nat → Nat → Int32) → Nat → Nat → (Nat → Nat → Int32) → Prop) {b L : Nat} {xs : Nat → Int32} (hX : ql_S b L xs A s) (hL : L ≤ 3072) {i : Nat} (hi : i + 6 ≤ L) (hk : k + 5 ≤ 601024) (hn : n + 30 ≤ 7293034) {χ σ : Nat → Nat → Int32} {nS nE : Nat} {r : Int32} {F : Nat → Int64} (hXP : qx_P D χ nS nE ad g) (hMP : qm_P D σ r ad g) (hO : g 150 = some (.inl (D.1 22, 1, .inr (.inl F)))) (hw : ql_wf χ nS nE σ) (hag : ((∀ E, qx_px ((cx_lift χ (xs (i + 1)))) E → (E = qw_E1 ∧ ql_pk ((sm_clift σ (xs (i + 1)))) 1) ∨ (E = qw_E3 ∧ ql_pk ((sm_clift σ (xs (i + 1)))) 2)) ∧ (((cx_lift χ (xs (i + 1)))) = 0 → ((sm_clift σ (xs (i + 1)))) = 0 ∧ qx_oi ((χ 48 (xs (i + 1)).toNatClampNeg - χ 2 0)) = qx_oi ((σ 13 (xs (i + 1)).toNatClampNeg - σ 1 0)) ∧ RLr ((cx_liftS χ (xs (i + 1)).toNatClampNeg)) nS nE ((sm_liftS σ (xs (i + 1))))) ∧ RLr χ nS nE σ)) (kk : ∀ (ad' : Nat → Nat) (g' : qw_G) (χ' : Nat → Nat → Int32) (nS' nE' : Nat) (σ' : Nat → Nat → Int32) (r' : Int32) (F' : Nat → Int64), qx_P D χ' nS' nE' ad' g' → qm_P D σ' r' ad' g' → g' 150 = some (.inl (D.1 22, 1, .inr (.inl F'))) → RLr χ' nS' nE' σ' → qw_W p l e { frames := 12, cells := 601024, slots := 7293034, locals := 448 } s m args below meth c D A 7 Q (k + 5) (n + 30) ad' g' 1481 [(0, .ref b), (1, .ref (ad' 0)), (2, .ref (ad' 100)), (3, .ref (ad' 150)), (4, .int (nI i))] []) : qw_W p l e { frames := 12, cells := 601024, slots := 7293034, locals := 448 } s m args below meth c D A 7 Q k n ad g 611 [(0, .ref b), (1, .ref (ad 0)), (2, .ref (ad 100)), (3, .ref (ad 150)), (4, .int (nI i))] [] := by
  have hb := (qx_ct hXP).2.2
  refine qr_aload_n C dL_law_611 rfl 1 rfl ?_
  refine qr_aload_n C dL_law_612 rfl 0 rfl ?_
  refine qr_iload C dL_law_613 4 rfl ?_
  refine qr_iconst (v := 1) C dL_law_615 (by decide) ?_
  refine qr_iadd C dL_law_616 ?_
  refine qr_sld C hX (j := i + 1) (by rw [show (1 : Int32) = nI 1 from rfl, nI_add]) (by omega) (by omega) dL_law_617 ?_
  refine qr_aload_n C dL_law_618 rfl 3 rfl ?_
  refine qr_callSH C (na := 3) (As := [(.ref (ad 0)), (.int (xs (i + 1))), (.ref (ad 150))]) (rest := []) (k_L_lift hst D ad g (xs (i + 1)) F hO (qx_x hXP) _ _ (ql_pk ((sm_clift σ (xs (i + 1))))) (k_X6_lift hst D ad g χ nS nE hXP hw.2.2.2.2.2.2.1 (xs (i + 1))) qx_op.cp hag.1) gi_L_106 ⟨by decide, by decide, by decide +kernel⟩ rfl rfl (Nat.le_of_ble_eq_true rfl) rfl rfl ⟨(Nat.le_of_ble_eq_true rfl), (Nat.le_of_ble_eq_true rfl)⟩ ⟨(show k + 5 ≤ 601024 by omega), (show n + 30 ≤ 7293034 by omega)⟩ dL_law_619 (fun v ad2 gz hpo => ?_)
  rcases hpo with ⟨V, gy, hcp, rfl, hg⟩ | ⟨k0, hk0, rfl, rfl, rfl⟩
  · skip
    obtain ⟨hc0, hv, had, hXn, hfr⟩ := qx_op.n hcp
    replace hv := sg_vj hv
    obtain ⟨hm0, hov, hRL⟩ := hag.2.1 hc0
    have hgz : ∀ t, t ≠ 150 → gz t = gy t := fun t ht => by rw [← hg]; exact va_up_ne _ _ ht
    have hO2 : gz 150 = some (.inl (D.1 22, 1, .inr (.inl (vp_updL F 0 (qx_oi V))))) := by rw [← hg]; exact va_up_self _ _ _
    have hX2 := qx_keep hXn (g' := gz) (fun t ht => hgz t (by omega))
    have hM2 := qm_keep hMP (g' := gz) (ad' := ad2) (fun t ht => (hgz t (by omega)).trans (hfr t (by omega))) (fun t ht => had t (by omega))
    refine qw_to (lv' := [(0, (.ref b)), (1, (.ref (ad2 0))), (2, (.ref (ad2 100))), (3, (.ref (ad2 150))), (4, (.int (nI i)))]) (st' := [(.int (0 : Int32))]) rfl rfl (by rw [had 0 (by omega), had 100 (by omega), had 150 (by omega)]) rfl ?_
    refine qr_istore (lv' := [(5, (.int (0 : Int32))), (0, (.ref b)), (1, (.ref (ad2 0))), (2, (.ref (ad2 100))), (3, (.ref (ad2 150))), (4, (.int (nI i)))]) C dL_law_622 (by decide) rfl ?_
    refine qr_aload_n C dL_law_624 rfl 3 rfl ?_
    refine qr_aload_n C dL_law_625 rfl 1 rfl ?_
    refine qr_iload C dL_law_626 5 rfl ?_
    refine qr_iconst (v := 1) C dL_law_628 (by decide) ?_
    refine qr_iadd C dL_law_629 ?_
    refine qr_sld C hX (j := i + 1) (by rw [show (1 : Int32) = nI 1 from rfl, nI_add]) (by omega) (by omega) dL_law_630 ?_
    refine qr_callV C (na := 1) (As := [(.int (xs (i + 1)))]) (rest := []) (k_X7_lift hst D ad2 gz σ r hM2 nE hw.2.1 hb.2 hw.2.2.2.1 hw.2.2.2.2.1 (xs (i + 1))) (100) (hM2.1) rfl rfl gi_L_108 rfl ⟨by decide, by decide, by decide +kernel⟩ rfl rfl (Nat.le_of_ble_eq_true rfl) rfl rfl ⟨Nat.le_of_ble_eq_true rfl, Nat.le_of_ble_eq_true rfl⟩ ⟨(show (k + 5) + 0 ≤ 601024 by omega), (show (n + 30) + 0 ≤ 7293034 by omega)⟩ dL_law_631 (fun v ad2 gm hmp => ?_)
    obtain ⟨rfl, hfm, ⟨hmc, rfl, hP⟩ | ⟨hmc, rfl, hP⟩⟩ := hmp
    · skip
      exact absurd hm0 hmc
    · skip
      refine qr_istore (lv' := [(6, (.int ((σ 13 (xs (i + 1)).toNatClampNeg - σ 1 0)))), (5, (.int (0 : Int32))), (0, (.ref b)), (1, (.ref (ad2 0))), (2, (.ref (ad2 100))), (3, (.ref (ad2 150))), (4, (.int (nI i)))]) C dL_law_634 (by decide) rfl ?_
      refine qr_aload_n C dL_law_636 rfl 4 rfl ?_
      refine qr_callV C (na := 0) (As := []) (rest := []) (k_X7_thrown hst D ad2 gm ((sm_liftS σ (xs (i + 1)))) ((sm_clift σ (xs (i + 1)))) hP) (100) (hP.1) rfl rfl gi_L_84 rfl ⟨by decide, by decide, by decide +kernel⟩ rfl rfl (Nat.le_of_ble_eq_true rfl) rfl rfl ⟨Nat.le_of_ble_eq_true rfl, Nat.le_of_ble_eq_true rfl⟩ ⟨(show ((k + 5) + 0) + 0 ≤ 601024 by omega), (show ((n + 30) + 0) + 0 ≤ 7293034 by omega)⟩ dL_law_637 (fun v ad2 gt hpt => ?_)
      obtain ⟨rfl, rfl, rfl⟩ := hpt
      refine qr_iload C dL_law_640 1 rfl ?_
      refine qr_icmp_eq_t C 647 dL_law_642 (by decide) hm0 ?_
      refine qr_iload C dL_law_647 1 rfl ?_
      refine qr_if_ne_f C 664 dL_law_649 (by decide) rfl ?_
      refine qr_aload_n C dL_law_652 rfl 5 rfl ?_
      refine qr_iconst (v := 0) C dL_law_653 (by decide) ?_
      refine qr_lald C (x := (qx_oi V)) (150) (((hfm 150 (by omega)).trans hO2)) rfl (j := 0) rfl (by omega) rfl rfl dL_law_654 ?_
      refine qr_iload C dL_law_655 0 rfl ?_
      refine qr_i2l C dL_law_657 ?_
      refine qr_lcmp C dL_law_658 ?_
      refine qr_if_eq_t C 664 dL_law_659 (by decide) (lg_cmp_same (by rw [← hv]; exact hov)) ?_
      refine qr_goto (tgt := 1481) C dL_law_664 (by decide) ?_
      refine qw_pick [2, 3, 4, 5, 6] (lv' := [(0, (.ref b)), (1, (.ref (ad2 0))), (2, (.ref (ad2 100))), (3, (.ref (ad2 150))), (4, (.int (nI i)))]) rfl ?_
      exact qw_widen (by omega) (by omega) (kk ad2 gm _ _ _ _ _ _ (qx_keep hX2 (fun t ht => hfm t (by omega))) hP (((hfm 150 (by omega)).trans hO2)) hRL)
  · skip
    refine qr_istore (lv' := [(5, (.int k0)), (0, (.ref b)), (1, (.ref (ad 0))), (2, (.ref (ad 100))), (3, (.ref (ad 150))), (4, (.int (nI i)))]) C dL_law_622 (by decide) rfl ?_
    refine qr_aload_n C dL_law_624 rfl 3 rfl ?_
    refine qr_aload_n C dL_law_625 rfl 1 rfl ?_
    refine qr_iload C dL_law_626 5 rfl ?_
    refine qr_iconst (v := 1) C dL_law_628 (by decide) ?_
    refine qr_iadd C dL_law_629 ?_
    refine qr_sld C hX (j := i + 1) (by rw [show (1 : Int32) = nI 1 from rfl, nI_add]) (by omega) (by omega) dL_law_630 ?_
    refine qr_callV C (na := 1) (As := [(.int (xs (i + 1)))]) (rest := []) (k_X7_lift hst D ad g σ r hMP nE hw.2.1 hb.2 hw.2.2.2.1 hw.2.2.2.2.1 (xs (i + 1))) (100) (hMP.1) rfl rfl gi_L_108 rfl ⟨by decide, by decide, by decide +kernel⟩ rfl rfl (Nat.le_of_ble_eq_true rfl) rfl rfl ⟨Nat.le_of_ble_eq_true rfl, Nat.le_of_ble_eq_true rfl⟩ ⟨(show (k + 5) + 0 ≤ 601024 by omega), (show (n + 30) + 0 ≤ 7293034 by omega)⟩ dL_law_631 (fun v ad2 gm hmp => ?_)
    obtain ⟨rfl, hfm, ⟨hmc, rfl, hP⟩ | ⟨hmc, rfl, hP⟩⟩ := hmp
    · skip
      refine qr_istore (lv' := [(6, (.int (0 : Int32))), (5, (.int k0)), (0, (.ref b)), (1, (.ref (ad 0))), (2, (.ref (ad 100))), (3, (.ref (ad 150))), (4, (.int (nI i)))]) C dL_law_634 (by decide) rfl ?_
      refine qr_aload_n C dL_law_636 rfl 4 rfl ?_
      refine qr_callV C (na := 0) (As := []) (rest := []) (k_X7_thrown hst D ad gm σ ((sm_clift σ (xs (i + 1)))) hP) (100) (hP.1) rfl rfl gi_L_84 rfl ⟨by decide, by decide, by decide +kernel⟩ rfl rfl (Nat.le_of_ble_eq_true rfl) rfl rfl ⟨Nat.le_of_ble_eq_true rfl, Nat.le_of_ble_eq_true rfl⟩ ⟨(show ((k + 5) + 0) + 0 ≤ 601024 by omega), (show ((n + 30) + 0) + 0 ≤ 7293034 by omega)⟩ dL_law_637 (fun v ad2 gt hpt => ?_)
      obtain ⟨rfl, rfl, rfl⟩ := hpt
      refine qr_iload C dL_law_640 1 rfl ?_
      refine qr_icmp_eq_t C 647 dL_law_642 (by decide) hk0.2 ?_
      refine qr_iload C dL_law_647 1 rfl ?_
      refine qr_if_ne_t C 664 dL_law_649 (by decide) hk0.1 ?_
      refine qr_goto (tgt := 1481) C dL_law_664 (by decide) ?_
      refine qw_pick [2, 3, 4, 5, 6] (lv' := [(0, (.ref b)), (1, (.ref (ad 0))), (2, (.ref (ad 100))), (3, (.ref (ad 150))), (4, (.int (nI i)))]) rfl ?_
      exact qw_widen (by omega) (by omega) (kk ad gm _ _ _ _ _ _ (qx_keep hXP (fun t ht => hfm t (by omega))) hP (((hfm 150 (by omega)).trans hO)) hag.2.2)
    · skip
      exact absurd (hk0.2.symm.trans hmc) hk0.1
set_option maxHeartbeats 4000000 in
set_option maxRecDepth 100000 in
theorem q_case_7 {p : Program} {l : Launch} {e : Env} {s : State} {m : MethodId} {args : Array Value} {below : List Frame} {meth : Method} {c : Code} {D : va_G} {A : Nat → Prop} {Q : State → Prop} {k n : Nat} {ad : Nat → Nat} {g : qw_G} (C : qw_C p l s m args meth c D A 7 cL_law RL (some .boolean)) (hst : l.stackTraces = false) (RLr : (Nat → Nat → Int32) → Nat → Nat → (Nat → Nat → Int32) → Prop) {b L : Nat} {xs : Nat → Int32} (hX : ql_S b L xs A s) (hL : L ≤ 3072) {i : Nat} (hi : i + 6 ≤ L) (hk : k + 5 ≤ 601024) (hn : n + 30 ≤ 7293034) {χ σ : Nat → Nat → Int32} {nS nE : Nat} {r : Int32} {F : Nat → Int64} (hXP : qx_P D χ nS nE ad g) (hMP : qm_P D σ r ad g) (hO : g 150 = some (.inl (D.1 22, 1, .inr (.inl F)))) (hw : ql_wf χ nS nE σ) (hag : ((∀ E, qx_px ((cx_isE χ (xs (i + 1)) (xs (i + 2)) (xs (i + 3)) (xs (i + 4)))) E → (E = qw_E1 ∧ ql_pk ((sm_cisE σ (xs (i + 1)) (xs (i + 2)) (xs (i + 3)) (xs (i + 4)))) 1)) ∧ (((cx_isE χ (xs (i + 1)) (xs (i + 2)) (xs (i + 3)) (xs (i + 4)))) = 0 → ((sm_cisE σ (xs (i + 1)) (xs (i + 2)) (xs (i + 3)) (xs (i + 4)))) = 0 ∧ qx_ob ((sg_has (cx_bar χ (xs (i + 1)) (xs (i + 4)) nE) (cx_entv χ (xs (i + 1)) (xs (i + 2)) (xs (i + 3))))) = qx_ob ((sm_b1 (sm_bit (sm_bar σ (xs (i + 1)) (xs (i + 4)) nE) (sm_ent σ (xs (i + 1)) (xs (i + 2)) (xs (i + 3)))))) ∧ RLr ((χ)) nS nE (σ)) ∧ RLr χ nS nE σ)) (kk : ∀ (ad' : Nat → Nat) (g' : qw_G) (χ' : Nat → Nat → Int32) (nS' nE' : Nat) (σ' : Nat → Nat → Int32) (r' : Int32) (F' : Nat → Int64), qx_P D χ' nS' nE' ad' g' → qm_P D σ' r' ad' g' → g' 150 = some (.inl (D.1 22, 1, .inr (.inl F'))) → RLr χ' nS' nE' σ' → qw_W p l e { frames := 12, cells := 601024, slots := 7293034, locals := 448 } s m args below meth c D A 7 Q (k + 5) (n + 30) ad' g' 1481 [(0, .ref b), (1, .ref (ad' 0)), (2, .ref (ad' 100)), (3, .ref (ad' 150)), (4, .int (nI i))] []) : qw_W p l e { frames := 12, cells := 601024, slots := 7293034, locals := 448 } s m args below meth c D A 7 Q k n ad g 667 [(0, .ref b), (1, .ref (ad 0)), (2, .ref (ad 100)), (3, .ref (ad 150)), (4, .int (nI i))] [] := by
  have hb := (qx_ct hXP).2.2
  refine qr_aload_n C dL_law_667 rfl 1 rfl ?_
  refine qr_aload_n C dL_law_668 rfl 0 rfl ?_
  refine qr_iload C dL_law_669 4 rfl ?_
  refine qr_iconst (v := 1) C dL_law_671 (by decide) ?_
  refine qr_iadd C dL_law_672 ?_
  refine qr_sld C hX (j := i + 1) (by rw [show (1 : Int32) = nI 1 from rfl, nI_add]) (by omega) (by omega) dL_law_673 ?_
  refine qr_aload_n C dL_law_674 rfl 0 rfl ?_
  refine qr_iload C dL_law_675 4 rfl ?_
  refine qr_iconst (v := 2) C dL_law_677 (by decide) ?_
  refine qr_iadd C dL_law_678 ?_
  refine qr_sld C hX (j := i + 2) (by rw [show (2 : Int32) = nI 2 from rfl, nI_add]) (by omega) (by omega) dL_law_679 ?_
  refine qr_aload_n C dL_law_680 rfl 0 rfl ?_
  refine qr_iload C dL_law_681 4 rfl ?_
  refine qr_iconst (v := 3) C dL_law_683 (by decide) ?_
  refine qr_iadd C dL_law_684 ?_
  refine qr_sld C hX (j := i + 3) (by rw [show (3 : Int32) = nI 3 from rfl, nI_add]) (by omega) (by omega) dL_law_685 ?_
  refine qr_aload_n C dL_law_686 rfl 0 rfl ?_
  refine qr_iload C dL_law_687 4 rfl ?_
  refine qr_iconst (v := 4) C dL_law_689 (by decide) ?_
  refine qr_iadd C dL_law_690 ?_
  refine qr_sld C hX (j := i + 4) (by rw [show (4 : Int32) = nI 4 from rfl, nI_add]) (by omega) (by omega) dL_law_691 ?_
  refine qr_aload_n C dL_law_692 rfl 3 rfl ?_
  refine qr_callSH C (na := 6) (As := [(.ref (ad 0)), (.int (xs (i + 1))), (.int (xs (i + 2))), (.int (xs (i + 3))), (.int (xs (i + 4))), (.ref (ad 150))]) (rest := []) (k_L_isEmbargoed hst D ad g (xs (i + 1)) (xs (i + 2)) (xs (i + 3)) (xs (i + 4)) F hO (qx_x hXP) _ _ (ql_pk ((sm_cisE σ (xs (i + 1)) (xs (i + 2)) (xs (i + 3)) (xs (i + 4))))) (k_X6_isEmbargoed hst D ad g χ nS nE hXP (xs (i + 1)) (xs (i + 2)) (xs (i + 3)) (xs (i + 4))) qx_op.cp hag.1) gi_L_109 ⟨by decide, by decide, by decide +kernel⟩ rfl rfl (Nat.le_of_ble_eq_true rfl) rfl rfl ⟨(Nat.le_of_ble_eq_true rfl), (Nat.le_of_ble_eq_true rfl)⟩ ⟨(show k + 3 ≤ 601024 by omega), (show n + 18 ≤ 7293034 by omega)⟩ dL_law_693 (fun v ad2 gz hpo => ?_)
  rcases hpo with ⟨V, gy, hcp, rfl, hg⟩ | ⟨k0, hk0, rfl, rfl, rfl⟩
  · skip
    obtain ⟨hc0, hv, had, hXn, hfr⟩ := qx_op.n hcp
    replace hv := sg_vj hv
    obtain ⟨hm0, hov, hRL⟩ := hag.2.1 hc0
    have hgz : ∀ t, t ≠ 150 → gz t = gy t := fun t ht => by rw [← hg]; exact va_up_ne _ _ ht
    have hO2 : gz 150 = some (.inl (D.1 22, 1, .inr (.inl (vp_updL F 0 (qx_ob V))))) := by rw [← hg]; exact va_up_self _ _ _
    have hX2 := qx_keep hXn (g' := gz) (fun t ht => hgz t (by omega))
    have hM2 := qm_keep hMP (g' := gz) (ad' := ad2) (fun t ht => (hgz t (by omega)).trans (hfr t (by omega))) (fun t ht => had t (by omega))
    refine qw_to (lv' := [(0, (.ref b)), (1, (.ref (ad2 0))), (2, (.ref (ad2 100))), (3, (.ref (ad2 150))), (4, (.int (nI i)))]) (st' := [(.int (0 : Int32))]) rfl rfl (by rw [had 0 (by omega), had 100 (by omega), had 150 (by omega)]) rfl ?_
    refine qr_istore (lv' := [(5, (.int (0 : Int32))), (0, (.ref b)), (1, (.ref (ad2 0))), (2, (.ref (ad2 100))), (3, (.ref (ad2 150))), (4, (.int (nI i)))]) C dL_law_696 (by decide) rfl ?_
    refine qr_aload_n C dL_law_698 rfl 3 rfl ?_
    refine qr_aload_n C dL_law_699 rfl 1 rfl ?_
    refine qr_iload C dL_law_700 5 rfl ?_
    refine qr_iconst (v := 1) C dL_law_702 (by decide) ?_
    refine qr_iadd C dL_law_703 ?_
    refine qr_sld C hX (j := i + 1) (by rw [show (1 : Int32) = nI 1 from rfl, nI_add]) (by omega) (by omega) dL_law_704 ?_
    refine qr_aload_n C dL_law_705 rfl 1 rfl ?_
    refine qr_iload C dL_law_706 5 rfl ?_
    refine qr_iconst (v := 2) C dL_law_708 (by decide) ?_
    refine qr_iadd C dL_law_709 ?_
    refine qr_sld C hX (j := i + 2) (by rw [show (2 : Int32) = nI 2 from rfl, nI_add]) (by omega) (by omega) dL_law_710 ?_
    refine qr_aload_n C dL_law_711 rfl 1 rfl ?_
    refine qr_iload C dL_law_712 5 rfl ?_
    refine qr_iconst (v := 3) C dL_law_714 (by decide) ?_
    refine qr_iadd C dL_law_715 ?_
    refine qr_sld C hX (j := i + 3) (by rw [show (3 : Int32) = nI 3 from rfl, nI_add]) (by omega) (by omega) dL_law_716 ?_
    refine qr_aload_n C dL_law_717 rfl 1 rfl ?_
    refine qr_iload C dL_law_718 5 rfl ?_
    refine qr_iconst (v := 4) C dL_law_720 (by decide) ?_
    refine qr_iadd C dL_law_721 ?_
    refine qr_sld C hX (j := i + 4) (by rw [show (4 : Int32) = nI 4 from rfl, nI_add]) (by omega) (by omega) dL_law_722 ?_
    refine qr_callV C (na := 4) (As := [(.int (xs (i + 1))), (.int (xs (i + 2))), (.int (xs (i + 3))), (.int (xs (i + 4)))]) (rest := []) (k_X7_isEmbargoed hst D ad2 gz σ r hM2 nE hw.2.1 hb.2 (xs (i + 1)) (xs (i + 2)) (xs (i + 3)) (xs (i + 4))) (100) (hM2.1) rfl rfl gi_L_111 rfl ⟨by decide, by decide, by decide +kernel⟩ rfl rfl (Nat.le_of_ble_eq_true rfl) rfl rfl ⟨Nat.le_of_ble_eq_true rfl, Nat.le_of_ble_eq_true rfl⟩ ⟨(show (k + 3) + 0 ≤ 601024 by omega), (show (n + 18) + 0 ≤ 7293034 by omega)⟩ dL_law_723 (fun v ad2 gm hmp => ?_)
    obtain ⟨rfl, hfm, ⟨hmc, rfl, hP⟩ | ⟨hmc, rfl, hP⟩⟩ := hmp
    · skip
      exact absurd hm0 hmc
    · skip
      refine qr_istore (lv' := [(6, (.int ((sm_b1 (sm_bit (sm_bar σ (xs (i + 1)) (xs (i + 4)) nE) (sm_ent σ (xs (i + 1)) (xs (i + 2)) (xs (i + 3)))))))), (5, (.int (0 : Int32))), (0, (.ref b)), (1, (.ref (ad2 0))), (2, (.ref (ad2 100))), (3, (.ref (ad2 150))), (4, (.int (nI i)))]) C dL_law_726 (by decide) rfl ?_
      refine qr_aload_n C dL_law_728 rfl 4 rfl ?_
      refine qr_callV C (na := 0) (As := []) (rest := []) (k_X7_thrown hst D ad2 gm (σ) ((sm_cisE σ (xs (i + 1)) (xs (i + 2)) (xs (i + 3)) (xs (i + 4)))) hP) (100) (hP.1) rfl rfl gi_L_84 rfl ⟨by decide, by decide, by decide +kernel⟩ rfl rfl (Nat.le_of_ble_eq_true rfl) rfl rfl ⟨Nat.le_of_ble_eq_true rfl, Nat.le_of_ble_eq_true rfl⟩ ⟨(show ((k + 3) + 0) + 0 ≤ 601024 by omega), (show ((n + 18) + 0) + 0 ≤ 7293034 by omega)⟩ dL_law_729 (fun v ad2 gt hpt => ?_)
      obtain ⟨rfl, rfl, rfl⟩ := hpt
      refine qr_iload C dL_law_732 1 rfl ?_
      refine qr_icmp_eq_t C 739 dL_law_734 (by decide) hm0 ?_
      refine qr_iload C dL_law_739 1 rfl ?_
      refine qr_if_ne_f C 763 dL_law_741 (by decide) rfl ?_
      refine qr_aload_n C dL_law_744 rfl 5 rfl ?_
      refine qr_iconst (v := 0) C dL_law_745 (by decide) ?_
      refine qr_lald C (x := (qx_ob V)) (150) (((hfm 150 (by omega)).trans hO2)) rfl (j := 0) rfl (by omega) rfl rfl dL_law_746 ?_
      refine qr_iload C dL_law_747 0 rfl ?_
      refine qr_if_eq C 756 dL_law_749 (by decide) (fun cz => ?_) (fun cz => ?_)
      · skip
        refine qr_lconst (v := 0) C dL_law_756 rfl ?_
        refine qr_lcmp C dL_law_757 ?_
        refine qr_if_eq_t C 763 dL_law_758 (by decide) (lg_cmp_same2 (by rw [← hv]; exact hov) (if_pos cz)) ?_
        refine qr_goto (tgt := 1481) C dL_law_763 (by decide) ?_
        refine qw_pick [2, 3, 4, 5, 6] (lv' := [(0, (.ref b)), (1, (.ref (ad2 0))), (2, (.ref (ad2 100))), (3, (.ref (ad2 150))), (4, (.int (nI i)))]) rfl ?_
        exact qw_widen (by omega) (by omega) (kk ad2 gm _ _ _ _ _ _ (qx_keep hX2 (fun t ht => hfm t (by omega))) hP (((hfm 150 (by omega)).trans hO2)) hRL)
      · skip
        refine qr_lconst (v := 1) C dL_law_752 rfl ?_
        refine qr_goto (tgt := 757) C dL_law_753 (by decide) ?_
        refine qr_lcmp C dL_law_757 ?_
        refine qr_if_eq_t C 763 dL_law_758 (by decide) (lg_cmp_same2 (by rw [← hv]; exact hov) (if_neg cz)) ?_
        refine qr_goto (tgt := 1481) C dL_law_763 (by decide) ?_
        refine qw_pick [2, 3, 4, 5, 6] (lv' := [(0, (.ref b)), (1, (.ref (ad2 0))), (2, (.ref (ad2 100))), (3, (.ref (ad2 150))), (4, (.int (nI i)))]) rfl ?_
        exact qw_widen (by omega) (by omega) (kk ad2 gm _ _ _ _ _ _ (qx_keep hX2 (fun t ht => hfm t (by omega))) hP (((hfm 150 (by omega)).trans hO2)) hRL)
  · skip
    refine qr_istore (lv' := [(5, (.int k0)), (0, (.ref b)), (1, (.ref (ad 0))), (2, (.ref (ad 100))), (3, (.ref (ad 150))), (4, (.int (nI i)))]) C dL_law_696 (by decide) rfl ?_
    refine qr_aload_n C dL_law_698 rfl 3 rfl ?_
    refine qr_aload_n C dL_law_699 rfl 1 rfl ?_
    refine qr_iload C dL_law_700 5 rfl ?_
    refine qr_iconst (v := 1) C dL_law_702 (by decide) ?_
    refine qr_iadd C dL_law_703 ?_
    refine qr_sld C hX (j := i + 1) (by rw [show (1 : Int32) = nI 1 from rfl, nI_add]) (by omega) (by omega) dL_law_704 ?_
    refine qr_aload_n C dL_law_705 rfl 1 rfl ?_
    refine qr_iload C dL_law_706 5 rfl ?_
    refine qr_iconst (v := 2) C dL_law_708 (by decide) ?_
    refine qr_iadd C dL_law_709 ?_
    refine qr_sld C hX (j := i + 2) (by rw [show (2 : Int32) = nI 2 from rfl, nI_add]) (by omega) (by omega) dL_law_710 ?_
    refine qr_aload_n C dL_law_711 rfl 1 rfl ?_
    refine qr_iload C dL_law_712 5 rfl ?_
    refine qr_iconst (v := 3) C dL_law_714 (by decide) ?_
    refine qr_iadd C dL_law_715 ?_
    refine qr_sld C hX (j := i + 3) (by rw [show (3 : Int32) = nI 3 from rfl, nI_add]) (by omega) (by omega) dL_law_716 ?_
    refine qr_aload_n C dL_law_717 rfl 1 rfl ?_
    refine qr_iload C dL_law_718 5 rfl ?_
    refine qr_iconst (v := 4) C dL_law_720 (by decide) ?_
    refine qr_iadd C dL_law_721 ?_
    refine qr_sld C hX (j := i + 4) (by rw [show (4 : Int32) = nI 4 from rfl, nI_add]) (by omega) (by omega) dL_law_722 ?_
    refine qr_callV C (na := 4) (As := [(.int (xs (i + 1))), (.int (xs (i + 2))), (.int (xs (i + 3))), (.int (xs (i + 4)))]) (rest := []) (k_X7_isEmbargoed hst D ad g σ r hMP nE hw.2.1 hb.2 (xs (i + 1)) (xs (i + 2)) (xs (i + 3)) (xs (i + 4))) (100) (hMP.1) rfl rfl gi_L_111 rfl ⟨by decide, by decide, by decide +kernel⟩ rfl rfl (Nat.le_of_ble_eq_true rfl) rfl rfl ⟨Nat.le_of_ble_eq_true rfl, Nat.le_of_ble_eq_true rfl⟩ ⟨(show (k + 3) + 0 ≤ 601024 by omega), (show (n + 18) + 0 ≤ 7293034 by omega)⟩ dL_law_723 (fun v ad2 gm hmp => ?_)
    obtain ⟨rfl, hfm, ⟨hmc, rfl, hP⟩ | ⟨hmc, rfl, hP⟩⟩ := hmp
    · skip
      refine qr_istore (lv' := [(6, (.int (0 : Int32))), (5, (.int k0)), (0, (.ref b)), (1, (.ref (ad 0))), (2, (.ref (ad 100))), (3, (.ref (ad 150))), (4, (.int (nI i)))]) C dL_law_726 (by decide) rfl ?_
      refine qr_aload_n C dL_law_728 rfl 4 rfl ?_
      refine qr_callV C (na := 0) (As := []) (rest := []) (k_X7_thrown hst D ad gm σ ((sm_cisE σ (xs (i + 1)) (xs (i + 2)) (xs (i + 3)) (xs (i + 4)))) hP) (100) (hP.1) rfl rfl gi_L_84 rfl ⟨by decide, by decide, by decide +kernel⟩ rfl rfl (Nat.le_of_ble_eq_true rfl) rfl rfl ⟨Nat.le_of_ble_eq_true rfl, Nat.le_of_ble_eq_true rfl⟩ ⟨(show ((k + 3) + 0) + 0 ≤ 601024 by omega), (show ((n + 18) + 0) + 0 ≤ 7293034 by omega)⟩ dL_law_729 (fun v ad2 gt hpt => ?_)
      obtain ⟨rfl, rfl, rfl⟩ := hpt
      refine qr_iload C dL_law_732 1 rfl ?_
      refine qr_icmp_eq_t C 739 dL_law_734 (by decide) hk0.2 ?_
      refine qr_iload C dL_law_739 1 rfl ?_
      refine qr_if_ne_t C 763 dL_law_741 (by decide) hk0.1 ?_
      refine qr_goto (tgt := 1481) C dL_law_763 (by decide) ?_
      refine qw_pick [2, 3, 4, 5, 6] (lv' := [(0, (.ref b)), (1, (.ref (ad 0))), (2, (.ref (ad 100))), (3, (.ref (ad 150))), (4, (.int (nI i)))]) rfl ?_
      exact qw_widen (by omega) (by omega) (kk ad gm _ _ _ _ _ _ (qx_keep hXP (fun t ht => hfm t (by omega))) hP (((hfm 150 (by omega)).trans hO)) hag.2.2)
    · skip
      exact absurd (hk0.2.symm.trans hmc) hk0.1
set_option maxHeartbeats 4000000 in
set_option maxRecDepth 100000 in
theorem q_case_8 {p : Program} {l : Launch} {e : Env} {s : State} {m : MethodId} {args : Array Value} {below : List Frame} {meth : Method} {c : Code} {D : va_G} {A : Nat → Prop} {Q : State → Prop} {k n : Nat} {ad : Nat → Nat} {g : qw_G} (C : qw_C p l s m args meth c D A 7 cL_law RL (some .boolean)) (hst : l.stackTraces = false) (RLr : (Nat → Nat → Int32) → Nat → Nat → (Nat → Nat → Int32) → Prop) {b L : Nat} {xs : Nat → Int32} (hX : ql_S b L xs A s) (hL : L ≤ 3072) {i : Nat} (hi : i + 6 ≤ L) (hk : k + 5 ≤ 601024) (hn : n + 30 ≤ 7293034) {χ σ : Nat → Nat → Int32} {nS nE : Nat} {r : Int32} {F : Nat → Int64} (hXP : qx_P D χ nS nE ad g) (hMP : qm_P D σ r ad g) (hO : g 150 = some (.inl (D.1 22, 1, .inr (.inl F)))) (hw : ql_wf χ nS nE σ) (hag : ((∀ E, qx_px ((cx_pass χ (xs (i + 1)))) E → (E = qw_E2 ∧ ql_pk ((sm_cpass σ (xs (i + 1)))) 1) ∨ (E = qw_E3 ∧ ql_pk ((sm_cpass σ (xs (i + 1)))) 2)) ∧ (((cx_pass χ (xs (i + 1)))) = 0 → ((sm_cpass σ (xs (i + 1)))) = 0 ∧ qx_oi (((cx_passB χ (xs (i + 1)) nE).2 - χ 3 0)) = qx_oi ((sm_passP σ nE (xs (i + 1)).toNatClampNeg).1) ∧ RLr ((cx_passS χ (xs (i + 1)) nE)) nS nE ((sm_passP σ nE (xs (i + 1)).toNatClampNeg).2)) ∧ RLr χ nS nE σ)) (kk : ∀ (ad' : Nat → Nat) (g' : qw_G) (χ' : Nat → Nat → Int32) (nS' nE' : Nat) (σ' : Nat → Nat → Int32) (r' : Int32) (F' : Nat → Int64), qx_P D χ' nS' nE' ad' g' → qm_P D σ' r' ad' g' → g' 150 = some (.inl (D.1 22, 1, .inr (.inl F'))) → RLr χ' nS' nE' σ' → qw_W p l e { frames := 12, cells := 601024, slots := 7293034, locals := 448 } s m args below meth c D A 7 Q (k + 5) (n + 30) ad' g' 1481 [(0, .ref b), (1, .ref (ad' 0)), (2, .ref (ad' 100)), (3, .ref (ad' 150)), (4, .int (nI i))] []) : qw_W p l e { frames := 12, cells := 601024, slots := 7293034, locals := 448 } s m args below meth c D A 7 Q k n ad g 766 [(0, .ref b), (1, .ref (ad 0)), (2, .ref (ad 100)), (3, .ref (ad 150)), (4, .int (nI i))] [] := by
  have hb := (qx_ct hXP).2.2
  refine qr_aload_n C dL_law_766 rfl 1 rfl ?_
  refine qr_aload_n C dL_law_767 rfl 0 rfl ?_
  refine qr_iload C dL_law_768 4 rfl ?_
  refine qr_iconst (v := 1) C dL_law_770 (by decide) ?_
  refine qr_iadd C dL_law_771 ?_
  refine qr_sld C hX (j := i + 1) (by rw [show (1 : Int32) = nI 1 from rfl, nI_add]) (by omega) (by omega) dL_law_772 ?_
  refine qr_aload_n C dL_law_773 rfl 3 rfl ?_
  refine qr_callSH C (na := 3) (As := [(.ref (ad 0)), (.int (xs (i + 1))), (.ref (ad 150))]) (rest := []) (k_L_pass hst D ad g (xs (i + 1)) F hO (qx_x hXP) _ _ (ql_pk ((sm_cpass σ (xs (i + 1))))) (k_X6_pass hst D ad g χ nS nE hXP hw.2.2.2.2.2.2.1 (xs (i + 1))) qx_op.cp hag.1) gi_L_112 ⟨by decide, by decide, by decide +kernel⟩ rfl rfl (Nat.le_of_ble_eq_true rfl) rfl rfl ⟨(Nat.le_of_ble_eq_true rfl), (Nat.le_of_ble_eq_true rfl)⟩ ⟨(show k + 5 ≤ 601024 by omega), (show n + 30 ≤ 7293034 by omega)⟩ dL_law_774 (fun v ad2 gz hpo => ?_)
  rcases hpo with ⟨V, gy, hcp, rfl, hg⟩ | ⟨k0, hk0, rfl, rfl, rfl⟩
  · skip
    obtain ⟨hc0, hv, had, hXn, hfr⟩ := qx_op.n hcp
    replace hv := sg_vj hv
    obtain ⟨hm0, hov, hRL⟩ := hag.2.1 hc0
    have hgz : ∀ t, t ≠ 150 → gz t = gy t := fun t ht => by rw [← hg]; exact va_up_ne _ _ ht
    have hO2 : gz 150 = some (.inl (D.1 22, 1, .inr (.inl (vp_updL F 0 (qx_oi V))))) := by rw [← hg]; exact va_up_self _ _ _
    have hX2 := qx_keep hXn (g' := gz) (fun t ht => hgz t (by omega))
    have hM2 := qm_keep hMP (g' := gz) (ad' := ad2) (fun t ht => (hgz t (by omega)).trans (hfr t (by omega))) (fun t ht => had t (by omega))
    refine qw_to (lv' := [(0, (.ref b)), (1, (.ref (ad2 0))), (2, (.ref (ad2 100))), (3, (.ref (ad2 150))), (4, (.int (nI i)))]) (st' := [(.int (0 : Int32))]) rfl rfl (by rw [had 0 (by omega), had 100 (by omega), had 150 (by omega)]) rfl ?_
    refine qr_istore (lv' := [(5, (.int (0 : Int32))), (0, (.ref b)), (1, (.ref (ad2 0))), (2, (.ref (ad2 100))), (3, (.ref (ad2 150))), (4, (.int (nI i)))]) C dL_law_777 (by decide) rfl ?_
    refine qr_aload_n C dL_law_779 rfl 3 rfl ?_
    refine qr_aload_n C dL_law_780 rfl 1 rfl ?_
    refine qr_iload C dL_law_781 5 rfl ?_
    refine qr_iconst (v := 1) C dL_law_783 (by decide) ?_
    refine qr_iadd C dL_law_784 ?_
    refine qr_sld C hX (j := i + 1) (by rw [show (1 : Int32) = nI 1 from rfl, nI_add]) (by omega) (by omega) dL_law_785 ?_
    refine qr_callV C (na := 1) (As := [(.int (xs (i + 1)))]) (rest := []) (k_X7_pass hst D ad2 gz σ r hM2 nE hw.2.1 hb.2 hw.2.2.2.1 hw.2.2.2.2.1 (xs (i + 1))) (100) (hM2.1) rfl rfl gi_L_114 rfl ⟨by decide, by decide, by decide +kernel⟩ rfl rfl (Nat.le_of_ble_eq_true rfl) rfl rfl ⟨Nat.le_of_ble_eq_true rfl, Nat.le_of_ble_eq_true rfl⟩ ⟨(show (k + 5) + 0 ≤ 601024 by omega), (show (n + 30) + 0 ≤ 7293034 by omega)⟩ dL_law_786 (fun v ad2 gm hmp => ?_)
    obtain ⟨rfl, hfm, ⟨hmc, rfl, hP⟩ | ⟨hmc, rfl, hP⟩⟩ := hmp
    · skip
      exact absurd hm0 hmc
    · skip
      refine qr_istore (lv' := [(6, (.int ((sm_passP σ nE (xs (i + 1)).toNatClampNeg).1))), (5, (.int (0 : Int32))), (0, (.ref b)), (1, (.ref (ad2 0))), (2, (.ref (ad2 100))), (3, (.ref (ad2 150))), (4, (.int (nI i)))]) C dL_law_789 (by decide) rfl ?_
      refine qr_aload_n C dL_law_791 rfl 4 rfl ?_
      refine qr_callV C (na := 0) (As := []) (rest := []) (k_X7_thrown hst D ad2 gm ((sm_passP σ nE (xs (i + 1)).toNatClampNeg).2) ((sm_cpass σ (xs (i + 1)))) hP) (100) (hP.1) rfl rfl gi_L_84 rfl ⟨by decide, by decide, by decide +kernel⟩ rfl rfl (Nat.le_of_ble_eq_true rfl) rfl rfl ⟨Nat.le_of_ble_eq_true rfl, Nat.le_of_ble_eq_true rfl⟩ ⟨(show ((k + 5) + 0) + 0 ≤ 601024 by omega), (show ((n + 30) + 0) + 0 ≤ 7293034 by omega)⟩ dL_law_792 (fun v ad2 gt hpt => ?_)
      obtain ⟨rfl, rfl, rfl⟩ := hpt
      refine qr_iload C dL_law_795 1 rfl ?_
      refine qr_icmp_eq_t C 802 dL_law_797 (by decide) hm0 ?_
      refine qr_iload C dL_law_802 1 rfl ?_
      refine qr_if_ne_f C 819 dL_law_804 (by decide) rfl ?_
      refine qr_aload_n C dL_law_807 rfl 5 rfl ?_
      refine qr_iconst (v := 0) C dL_law_808 (by decide) ?_
      refine qr_lald C (x := (qx_oi V)) (150) (((hfm 150 (by omega)).trans hO2)) rfl (j := 0) rfl (by omega) rfl rfl dL_law_809 ?_
      refine qr_iload C dL_law_810 0 rfl ?_
      refine qr_i2l C dL_law_812 ?_
      refine qr_lcmp C dL_law_813 ?_
      refine qr_if_eq_t C 819 dL_law_814 (by decide) (lg_cmp_same (by rw [← hv]; exact hov)) ?_
      refine qr_goto (tgt := 1481) C dL_law_819 (by decide) ?_
      refine qw_pick [2, 3, 4, 5, 6] (lv' := [(0, (.ref b)), (1, (.ref (ad2 0))), (2, (.ref (ad2 100))), (3, (.ref (ad2 150))), (4, (.int (nI i)))]) rfl ?_
      exact qw_widen (by omega) (by omega) (kk ad2 gm _ _ _ _ _ _ (qx_keep hX2 (fun t ht => hfm t (by omega))) hP (((hfm 150 (by omega)).trans hO2)) hRL)
  · skip
    refine qr_istore (lv' := [(5, (.int k0)), (0, (.ref b)), (1, (.ref (ad 0))), (2, (.ref (ad 100))), (3, (.ref (ad 150))), (4, (.int (nI i)))]) C dL_law_777 (by decide) rfl ?_
    refine qr_aload_n C dL_law_779 rfl 3 rfl ?_
    refine qr_aload_n C dL_law_780 rfl 1 rfl ?_
    refine qr_iload C dL_law_781 5 rfl ?_
    refine qr_iconst (v := 1) C dL_law_783 (by decide) ?_
    refine qr_iadd C dL_law_784 ?_
    refine qr_sld C hX (j := i + 1) (by rw [show (1 : Int32) = nI 1 from rfl, nI_add]) (by omega) (by omega) dL_law_785 ?_
    refine qr_callV C (na := 1) (As := [(.int (xs (i + 1)))]) (rest := []) (k_X7_pass hst D ad g σ r hMP nE hw.2.1 hb.2 hw.2.2.2.1 hw.2.2.2.2.1 (xs (i + 1))) (100) (hMP.1) rfl rfl gi_L_114 rfl ⟨by decide, by decide, by decide +kernel⟩ rfl rfl (Nat.le_of_ble_eq_true rfl) rfl rfl ⟨Nat.le_of_ble_eq_true rfl, Nat.le_of_ble_eq_true rfl⟩ ⟨(show (k + 5) + 0 ≤ 601024 by omega), (show (n + 30) + 0 ≤ 7293034 by omega)⟩ dL_law_786 (fun v ad2 gm hmp => ?_)
    obtain ⟨rfl, hfm, ⟨hmc, rfl, hP⟩ | ⟨hmc, rfl, hP⟩⟩ := hmp
    · skip
      refine qr_istore (lv' := [(6, (.int (0 : Int32))), (5, (.int k0)), (0, (.ref b)), (1, (.ref (ad 0))), (2, (.ref (ad 100))), (3, (.ref (ad 150))), (4, (.int (nI i)))]) C dL_law_789 (by decide) rfl ?_
      refine qr_aload_n C dL_law_791 rfl 4 rfl ?_
      refine qr_callV C (na := 0) (As := []) (rest := []) (k_X7_thrown hst D ad gm σ ((sm_cpass σ (xs (i + 1)))) hP) (100) (hP.1) rfl rfl gi_L_84 rfl ⟨by decide, by decide, by decide +kernel⟩ rfl rfl (Nat.le_of_ble_eq_true rfl) rfl rfl ⟨Nat.le_of_ble_eq_true rfl, Nat.le_of_ble_eq_true rfl⟩ ⟨(show ((k + 5) + 0) + 0 ≤ 601024 by omega), (show ((n + 30) + 0) + 0 ≤ 7293034 by omega)⟩ dL_law_792 (fun v ad2 gt hpt => ?_)
      obtain ⟨rfl, rfl, rfl⟩ := hpt
      refine qr_iload C dL_law_795 1 rfl ?_
      refine qr_icmp_eq_t C 802 dL_law_797 (by decide) hk0.2 ?_
      refine qr_iload C dL_law_802 1 rfl ?_
      refine qr_if_ne_t C 819 dL_law_804 (by decide) hk0.1 ?_
      refine qr_goto (tgt := 1481) C dL_law_819 (by decide) ?_
      refine qw_pick [2, 3, 4, 5, 6] (lv' := [(0, (.ref b)), (1, (.ref (ad 0))), (2, (.ref (ad 100))), (3, (.ref (ad 150))), (4, (.int (nI i)))]) rfl ?_
      exact qw_widen (by omega) (by omega) (kk ad gm _ _ _ _ _ _ (qx_keep hXP (fun t ht => hfm t (by omega))) hP (((hfm 150 (by omega)).trans hO)) hag.2.2)
    · skip
      exact absurd (hk0.2.symm.trans hmc) hk0.1
set_option maxHeartbeats 4000000 in
set_option maxRecDepth 100000 in
theorem q_case_9 {p : Program} {l : Launch} {e : Env} {s : State} {m : MethodId} {args : Array Value} {below : List Frame} {meth : Method} {c : Code} {D : va_G} {A : Nat → Prop} {Q : State → Prop} {k n : Nat} {ad : Nat → Nat} {g : qw_G} (C : qw_C p l s m args meth c D A 7 cL_law RL (some .boolean)) (hst : l.stackTraces = false) (RLr : (Nat → Nat → Int32) → Nat → Nat → (Nat → Nat → Int32) → Prop) {b L : Nat} {xs : Nat → Int32} (hX : ql_S b L xs A s) (hL : L ≤ 3072) {i : Nat} (hi : i + 6 ≤ L) (hk : k + 5 ≤ 601024) (hn : n + 30 ≤ 7293034) {χ σ : Nat → Nat → Int32} {nS nE : Nat} {r : Int32} {F : Nat → Int64} (hXP : qx_P D χ nS nE ad g) (hMP : qm_P D σ r ad g) (hO : g 150 = some (.inl (D.1 22, 1, .inr (.inl F)))) (hw : ql_wf χ nS nE σ) (hag : ((∀ E, qx_px ((cx_build (xs (i + 1)) (xs (i + 2)))) E → (E = qw_E1 ∧ ql_pk ((sm_cB (xs (i + 1)) (xs (i + 2)))) 1)) ∧ (((cx_build (xs (i + 1)) (xs (i + 2)))) = 0 → ((sm_cB (xs (i + 1)) (xs (i + 2)))) = 0 ∧ qx_oi ((sg_bc (sg_around (cx_bar χ (xs (i + 1)) (xs (i + 2)) nE)))) = qx_oi ((sm_bits (sm_hidden (sm_bar σ (xs (i + 1)) (xs (i + 2)) nE)))) ∧ RLr ((cx_fill χ (xs (i + 1)).toNatClampNeg (sm_at (xs (i + 1)) (xs (i + 2))) (cx_bar χ (xs (i + 1)) (xs (i + 2)) nE) (sg_around (cx_bar χ (xs (i + 1)) (xs (i + 2)) nE)))) nS nE ((sm_buildS σ nE (xs (i + 1)) (xs (i + 2))))) ∧ RLr χ nS nE σ)) (kk : ∀ (ad' : Nat → Nat) (g' : qw_G) (χ' : Nat → Nat → Int32) (nS' nE' : Nat) (σ' : Nat → Nat → Int32) (r' : Int32) (F' : Nat → Int64), qx_P D χ' nS' nE' ad' g' → qm_P D σ' r' ad' g' → g' 150 = some (.inl (D.1 22, 1, .inr (.inl F'))) → RLr χ' nS' nE' σ' → qw_W p l e { frames := 12, cells := 601024, slots := 7293034, locals := 448 } s m args below meth c D A 7 Q (k + 5) (n + 30) ad' g' 1481 [(0, .ref b), (1, .ref (ad' 0)), (2, .ref (ad' 100)), (3, .ref (ad' 150)), (4, .int (nI i))] []) : qw_W p l e { frames := 12, cells := 601024, slots := 7293034, locals := 448 } s m args below meth c D A 7 Q k n ad g 822 [(0, .ref b), (1, .ref (ad 0)), (2, .ref (ad 100)), (3, .ref (ad 150)), (4, .int (nI i))] [] := by
  have hb := (qx_ct hXP).2.2
  refine qr_aload_n C dL_law_822 rfl 1 rfl ?_
  refine qr_aload_n C dL_law_823 rfl 0 rfl ?_
  refine qr_iload C dL_law_824 4 rfl ?_
  refine qr_iconst (v := 1) C dL_law_826 (by decide) ?_
  refine qr_iadd C dL_law_827 ?_
  refine qr_sld C hX (j := i + 1) (by rw [show (1 : Int32) = nI 1 from rfl, nI_add]) (by omega) (by omega) dL_law_828 ?_
  refine qr_aload_n C dL_law_829 rfl 0 rfl ?_
  refine qr_iload C dL_law_830 4 rfl ?_
  refine qr_iconst (v := 2) C dL_law_832 (by decide) ?_
  refine qr_iadd C dL_law_833 ?_
  refine qr_sld C hX (j := i + 2) (by rw [show (2 : Int32) = nI 2 from rfl, nI_add]) (by omega) (by omega) dL_law_834 ?_
  refine qr_aload_n C dL_law_835 rfl 3 rfl ?_
  refine qr_callSH C (na := 4) (As := [(.ref (ad 0)), (.int (xs (i + 1))), (.int (xs (i + 2))), (.ref (ad 150))]) (rest := []) (k_L_build hst D ad g (xs (i + 1)) (xs (i + 2)) F hO (qx_x hXP) _ _ (ql_pk ((sm_cB (xs (i + 1)) (xs (i + 2))))) (k_X6_build hst D ad g χ nS nE hXP (xs (i + 1)) (xs (i + 2))) qx_op.cp hag.1) gi_L_115 ⟨by decide, by decide, by decide +kernel⟩ rfl rfl (Nat.le_of_ble_eq_true rfl) rfl rfl ⟨(Nat.le_of_ble_eq_true rfl), (Nat.le_of_ble_eq_true rfl)⟩ ⟨(show k + 3 ≤ 601024 by omega), (show n + 18 ≤ 7293034 by omega)⟩ dL_law_836 (fun v ad2 gz hpo => ?_)
  rcases hpo with ⟨V, gy, hcp, rfl, hg⟩ | ⟨k0, hk0, rfl, rfl, rfl⟩
  · skip
    obtain ⟨hc0, hv, had, hXn, hfr⟩ := qx_op.n hcp
    replace hv := sg_vj hv
    obtain ⟨hm0, hov, hRL⟩ := hag.2.1 hc0
    have hgz : ∀ t, t ≠ 150 → gz t = gy t := fun t ht => by rw [← hg]; exact va_up_ne _ _ ht
    have hO2 : gz 150 = some (.inl (D.1 22, 1, .inr (.inl (vp_updL F 0 (qx_oi V))))) := by rw [← hg]; exact va_up_self _ _ _
    have hX2 := qx_keep hXn (g' := gz) (fun t ht => hgz t (by omega))
    have hM2 := qm_keep hMP (g' := gz) (ad' := ad2) (fun t ht => (hgz t (by omega)).trans (hfr t (by omega))) (fun t ht => had t (by omega))
    refine qw_to (lv' := [(0, (.ref b)), (1, (.ref (ad2 0))), (2, (.ref (ad2 100))), (3, (.ref (ad2 150))), (4, (.int (nI i)))]) (st' := [(.int (0 : Int32))]) rfl rfl (by rw [had 0 (by omega), had 100 (by omega), had 150 (by omega)]) rfl ?_
    refine qr_istore (lv' := [(5, (.int (0 : Int32))), (0, (.ref b)), (1, (.ref (ad2 0))), (2, (.ref (ad2 100))), (3, (.ref (ad2 150))), (4, (.int (nI i)))]) C dL_law_839 (by decide) rfl ?_
    refine qr_aload_n C dL_law_841 rfl 3 rfl ?_
    refine qr_aload_n C dL_law_842 rfl 1 rfl ?_
    refine qr_iload C dL_law_843 5 rfl ?_
    refine qr_iconst (v := 1) C dL_law_845 (by decide) ?_
    refine qr_iadd C dL_law_846 ?_
    refine qr_sld C hX (j := i + 1) (by rw [show (1 : Int32) = nI 1 from rfl, nI_add]) (by omega) (by omega) dL_law_847 ?_
    refine qr_aload_n C dL_law_848 rfl 1 rfl ?_
    refine qr_iload C dL_law_849 5 rfl ?_
    refine qr_iconst (v := 2) C dL_law_851 (by decide) ?_
    refine qr_iadd C dL_law_852 ?_
    refine qr_sld C hX (j := i + 2) (by rw [show (2 : Int32) = nI 2 from rfl, nI_add]) (by omega) (by omega) dL_law_853 ?_
    refine qr_callV C (na := 2) (As := [(.int (xs (i + 1))), (.int (xs (i + 2)))]) (rest := []) (k_X7_build hst D ad2 gz σ r hM2 nE hw.2.1 hb.2 (xs (i + 1)) (xs (i + 2))) (100) (hM2.1) rfl rfl gi_L_118 rfl ⟨by decide, by decide, by decide +kernel⟩ rfl rfl (Nat.le_of_ble_eq_true rfl) rfl rfl ⟨Nat.le_of_ble_eq_true rfl, Nat.le_of_ble_eq_true rfl⟩ ⟨(show (k + 3) + 0 ≤ 601024 by omega), (show (n + 18) + 0 ≤ 7293034 by omega)⟩ dL_law_854 (fun v ad2 gm hmp => ?_)
    obtain ⟨rfl, hfm, ⟨hmc, rfl, hP⟩ | ⟨hmc, rfl, hP⟩⟩ := hmp
    · skip
      exact absurd hm0 hmc
    · skip
      refine qr_istore (lv' := [(6, (.int ((sm_bits (sm_hidden (sm_bar σ (xs (i + 1)) (xs (i + 2)) nE)))))), (5, (.int (0 : Int32))), (0, (.ref b)), (1, (.ref (ad2 0))), (2, (.ref (ad2 100))), (3, (.ref (ad2 150))), (4, (.int (nI i)))]) C dL_law_857 (by decide) rfl ?_
      refine qr_aload_n C dL_law_859 rfl 4 rfl ?_
      refine qr_callV C (na := 0) (As := []) (rest := []) (k_X7_thrown hst D ad2 gm ((sm_buildS σ nE (xs (i + 1)) (xs (i + 2)))) ((sm_cB (xs (i + 1)) (xs (i + 2)))) hP) (100) (hP.1) rfl rfl gi_L_84 rfl ⟨by decide, by decide, by decide +kernel⟩ rfl rfl (Nat.le_of_ble_eq_true rfl) rfl rfl ⟨Nat.le_of_ble_eq_true rfl, Nat.le_of_ble_eq_true rfl⟩ ⟨(show ((k + 3) + 0) + 0 ≤ 601024 by omega), (show ((n + 18) + 0) + 0 ≤ 7293034 by omega)⟩ dL_law_860 (fun v ad2 gt hpt => ?_)
      obtain ⟨rfl, rfl, rfl⟩ := hpt
      refine qr_iload C dL_law_863 1 rfl ?_
      refine qr_icmp_eq_t C 870 dL_law_865 (by decide) hm0 ?_
      refine qr_iload C dL_law_870 1 rfl ?_
      refine qr_if_ne_f C 887 dL_law_872 (by decide) rfl ?_
      refine qr_aload_n C dL_law_875 rfl 5 rfl ?_
      refine qr_iconst (v := 0) C dL_law_876 (by decide) ?_
      refine qr_lald C (x := (qx_oi V)) (150) (((hfm 150 (by omega)).trans hO2)) rfl (j := 0) rfl (by omega) rfl rfl dL_law_877 ?_
      refine qr_iload C dL_law_878 0 rfl ?_
      refine qr_i2l C dL_law_880 ?_
      refine qr_lcmp C dL_law_881 ?_
      refine qr_if_eq_t C 887 dL_law_882 (by decide) (lg_cmp_same (by rw [← hv]; exact hov)) ?_
      refine qr_goto (tgt := 1481) C dL_law_887 (by decide) ?_
      refine qw_pick [2, 3, 4, 5, 6] (lv' := [(0, (.ref b)), (1, (.ref (ad2 0))), (2, (.ref (ad2 100))), (3, (.ref (ad2 150))), (4, (.int (nI i)))]) rfl ?_
      exact qw_widen (by omega) (by omega) (kk ad2 gm _ _ _ _ _ _ (qx_keep hX2 (fun t ht => hfm t (by omega))) hP (((hfm 150 (by omega)).trans hO2)) hRL)
  · skip
    refine qr_istore (lv' := [(5, (.int k0)), (0, (.ref b)), (1, (.ref (ad 0))), (2, (.ref (ad 100))), (3, (.ref (ad 150))), (4, (.int (nI i)))]) C dL_law_839 (by decide) rfl ?_
    refine qr_aload_n C dL_law_841 rfl 3 rfl ?_
    refine qr_aload_n C dL_law_842 rfl 1 rfl ?_
    refine qr_iload C dL_law_843 5 rfl ?_
    refine qr_iconst (v := 1) C dL_law_845 (by decide) ?_
    refine qr_iadd C dL_law_846 ?_
    refine qr_sld C hX (j := i + 1) (by rw [show (1 : Int32) = nI 1 from rfl, nI_add]) (by omega) (by omega) dL_law_847 ?_
    refine qr_aload_n C dL_law_848 rfl 1 rfl ?_
    refine qr_iload C dL_law_849 5 rfl ?_
    refine qr_iconst (v := 2) C dL_law_851 (by decide) ?_
    refine qr_iadd C dL_law_852 ?_
    refine qr_sld C hX (j := i + 2) (by rw [show (2 : Int32) = nI 2 from rfl, nI_add]) (by omega) (by omega) dL_law_853 ?_
    refine qr_callV C (na := 2) (As := [(.int (xs (i + 1))), (.int (xs (i + 2)))]) (rest := []) (k_X7_build hst D ad g σ r hMP nE hw.2.1 hb.2 (xs (i + 1)) (xs (i + 2))) (100) (hMP.1) rfl rfl gi_L_118 rfl ⟨by decide, by decide, by decide +kernel⟩ rfl rfl (Nat.le_of_ble_eq_true rfl) rfl rfl ⟨Nat.le_of_ble_eq_true rfl, Nat.le_of_ble_eq_true rfl⟩ ⟨(show (k + 3) + 0 ≤ 601024 by omega), (show (n + 18) + 0 ≤ 7293034 by omega)⟩ dL_law_854 (fun v ad2 gm hmp => ?_)
    obtain ⟨rfl, hfm, ⟨hmc, rfl, hP⟩ | ⟨hmc, rfl, hP⟩⟩ := hmp
    · skip
      refine qr_istore (lv' := [(6, (.int (0 : Int32))), (5, (.int k0)), (0, (.ref b)), (1, (.ref (ad 0))), (2, (.ref (ad 100))), (3, (.ref (ad 150))), (4, (.int (nI i)))]) C dL_law_857 (by decide) rfl ?_
      refine qr_aload_n C dL_law_859 rfl 4 rfl ?_
      refine qr_callV C (na := 0) (As := []) (rest := []) (k_X7_thrown hst D ad gm σ ((sm_cB (xs (i + 1)) (xs (i + 2)))) hP) (100) (hP.1) rfl rfl gi_L_84 rfl ⟨by decide, by decide, by decide +kernel⟩ rfl rfl (Nat.le_of_ble_eq_true rfl) rfl rfl ⟨Nat.le_of_ble_eq_true rfl, Nat.le_of_ble_eq_true rfl⟩ ⟨(show ((k + 3) + 0) + 0 ≤ 601024 by omega), (show ((n + 18) + 0) + 0 ≤ 7293034 by omega)⟩ dL_law_860 (fun v ad2 gt hpt => ?_)
      obtain ⟨rfl, rfl, rfl⟩ := hpt
      refine qr_iload C dL_law_863 1 rfl ?_
      refine qr_icmp_eq_t C 870 dL_law_865 (by decide) hk0.2 ?_
      refine qr_iload C dL_law_870 1 rfl ?_
      refine qr_if_ne_t C 887 dL_law_872 (by decide) hk0.1 ?_
      refine qr_goto (tgt := 1481) C dL_law_887 (by decide) ?_
      refine qw_pick [2, 3, 4, 5, 6] (lv' := [(0, (.ref b)), (1, (.ref (ad 0))), (2, (.ref (ad 100))), (3, (.ref (ad 150))), (4, (.int (nI i)))]) rfl ?_
      exact qw_widen (by omega) (by omega) (kk ad gm _ _ _ _ _ _ (qx_keep hXP (fun t ht => hfm t (by omega))) hP (((hfm 150 (by omega)).trans hO)) hag.2.2)
    · skip
      exact absurd (hk0.2.symm.trans hmc) hk0.1
set_option maxHeartbeats 4000000 in
set_option maxRecDepth 100000 in
theorem q_case_10 {p : Program} {l : Launch} {e : Env} {s : State} {m : MethodId} {args : Array Value} {below : List Frame} {meth : Method} {c : Code} {D : va_G} {A : Nat → Prop} {Q : State → Prop} {k n : Nat} {ad : Nat → Nat} {g : qw_G} (C : qw_C p l s m args meth c D A 7 cL_law RL (some .boolean)) (hst : l.stackTraces = false) (RLr : (Nat → Nat → Int32) → Nat → Nat → (Nat → Nat → Int32) → Prop) {b L : Nat} {xs : Nat → Int32} (hX : ql_S b L xs A s) (hL : L ≤ 3072) {i : Nat} (hi : i + 6 ≤ L) (hk : k + 5 ≤ 601024) (hn : n + 30 ≤ 7293034) {χ σ : Nat → Nat → Int32} {nS nE : Nat} {r : Int32} {F : Nat → Int64} (hXP : qx_P D χ nS nE ad g) (hMP : qm_P D σ r ad g) (hO : g 150 = some (.inl (D.1 22, 1, .inr (.inl F)))) (hw : ql_wf χ nS nE σ) (hag : ((∀ E, qx_px ((cx_isB (xs (i + 1)) (xs (i + 2)))) E → (E = qw_E1 ∧ ql_pk ((sm_cB (xs (i + 1)) (xs (i + 2)))) 1)) ∧ (((cx_isB (xs (i + 1)) (xs (i + 2)))) = 0 → ((sm_cB (xs (i + 1)) (xs (i + 2)))) = 0 ∧ qx_ob ((χ 7 (sm_at (xs (i + 1)) (xs (i + 2))))) = qx_ob ((sm_b0 (σ 15 (sm_at (xs (i + 1)) (xs (i + 2)))))) ∧ RLr ((χ)) nS nE (σ)) ∧ RLr χ nS nE σ)) (kk : ∀ (ad' : Nat → Nat) (g' : qw_G) (χ' : Nat → Nat → Int32) (nS' nE' : Nat) (σ' : Nat → Nat → Int32) (r' : Int32) (F' : Nat → Int64), qx_P D χ' nS' nE' ad' g' → qm_P D σ' r' ad' g' → g' 150 = some (.inl (D.1 22, 1, .inr (.inl F'))) → RLr χ' nS' nE' σ' → qw_W p l e { frames := 12, cells := 601024, slots := 7293034, locals := 448 } s m args below meth c D A 7 Q (k + 5) (n + 30) ad' g' 1481 [(0, .ref b), (1, .ref (ad' 0)), (2, .ref (ad' 100)), (3, .ref (ad' 150)), (4, .int (nI i))] []) : qw_W p l e { frames := 12, cells := 601024, slots := 7293034, locals := 448 } s m args below meth c D A 7 Q k n ad g 890 [(0, .ref b), (1, .ref (ad 0)), (2, .ref (ad 100)), (3, .ref (ad 150)), (4, .int (nI i))] [] := by
  have hb := (qx_ct hXP).2.2
  refine qr_aload_n C dL_law_890 rfl 1 rfl ?_
  refine qr_aload_n C dL_law_891 rfl 0 rfl ?_
  refine qr_iload C dL_law_892 4 rfl ?_
  refine qr_iconst (v := 1) C dL_law_894 (by decide) ?_
  refine qr_iadd C dL_law_895 ?_
  refine qr_sld C hX (j := i + 1) (by rw [show (1 : Int32) = nI 1 from rfl, nI_add]) (by omega) (by omega) dL_law_896 ?_
  refine qr_aload_n C dL_law_897 rfl 0 rfl ?_
  refine qr_iload C dL_law_898 4 rfl ?_
  refine qr_iconst (v := 2) C dL_law_900 (by decide) ?_
  refine qr_iadd C dL_law_901 ?_
  refine qr_sld C hX (j := i + 2) (by rw [show (2 : Int32) = nI 2 from rfl, nI_add]) (by omega) (by omega) dL_law_902 ?_
  refine qr_aload_n C dL_law_903 rfl 3 rfl ?_
  refine qr_callSH C (na := 4) (As := [(.ref (ad 0)), (.int (xs (i + 1))), (.int (xs (i + 2))), (.ref (ad 150))]) (rest := []) (k_L_isBuilt hst D ad g (xs (i + 1)) (xs (i + 2)) F hO (qx_x hXP) _ _ (ql_pk ((sm_cB (xs (i + 1)) (xs (i + 2))))) (k_X6_isBuilt hst D ad g χ nS nE hXP (xs (i + 1)) (xs (i + 2)) hw.2.2.2.2.2.2.2) qx_op.cp hag.1) gi_L_119 ⟨by decide, by decide, by decide +kernel⟩ rfl rfl (Nat.le_of_ble_eq_true rfl) rfl rfl ⟨(Nat.le_of_ble_eq_true rfl), (Nat.le_of_ble_eq_true rfl)⟩ ⟨(show k + 3 ≤ 601024 by omega), (show n + 18 ≤ 7293034 by omega)⟩ dL_law_904 (fun v ad2 gz hpo => ?_)
  rcases hpo with ⟨V, gy, hcp, rfl, hg⟩ | ⟨k0, hk0, rfl, rfl, rfl⟩
  · skip
    obtain ⟨hc0, hv, had, hXn, hfr⟩ := qx_op.n hcp
    replace hv := sg_vj hv
    obtain ⟨hm0, hov, hRL⟩ := hag.2.1 hc0
    have hgz : ∀ t, t ≠ 150 → gz t = gy t := fun t ht => by rw [← hg]; exact va_up_ne _ _ ht
    have hO2 : gz 150 = some (.inl (D.1 22, 1, .inr (.inl (vp_updL F 0 (qx_ob V))))) := by rw [← hg]; exact va_up_self _ _ _
    have hX2 := qx_keep hXn (g' := gz) (fun t ht => hgz t (by omega))
    have hM2 := qm_keep hMP (g' := gz) (ad' := ad2) (fun t ht => (hgz t (by omega)).trans (hfr t (by omega))) (fun t ht => had t (by omega))
    refine qw_to (lv' := [(0, (.ref b)), (1, (.ref (ad2 0))), (2, (.ref (ad2 100))), (3, (.ref (ad2 150))), (4, (.int (nI i)))]) (st' := [(.int (0 : Int32))]) rfl rfl (by rw [had 0 (by omega), had 100 (by omega), had 150 (by omega)]) rfl ?_
    refine qr_istore (lv' := [(5, (.int (0 : Int32))), (0, (.ref b)), (1, (.ref (ad2 0))), (2, (.ref (ad2 100))), (3, (.ref (ad2 150))), (4, (.int (nI i)))]) C dL_law_907 (by decide) rfl ?_
    refine qr_aload_n C dL_law_909 rfl 3 rfl ?_
    refine qr_aload_n C dL_law_910 rfl 1 rfl ?_
    refine qr_iload C dL_law_911 5 rfl ?_
    refine qr_iconst (v := 1) C dL_law_913 (by decide) ?_
    refine qr_iadd C dL_law_914 ?_
    refine qr_sld C hX (j := i + 1) (by rw [show (1 : Int32) = nI 1 from rfl, nI_add]) (by omega) (by omega) dL_law_915 ?_
    refine qr_aload_n C dL_law_916 rfl 1 rfl ?_
    refine qr_iload C dL_law_917 5 rfl ?_
    refine qr_iconst (v := 2) C dL_law_919 (by decide) ?_
    refine qr_iadd C dL_law_920 ?_
    refine qr_sld C hX (j := i + 2) (by rw [show (2 : Int32) = nI 2 from rfl, nI_add]) (by omega) (by omega) dL_law_921 ?_
    refine qr_callV C (na := 2) (As := [(.int (xs (i + 1))), (.int (xs (i + 2)))]) (rest := []) (k_X7_isBuilt hst D ad2 gz σ r hM2 (xs (i + 1)) (xs (i + 2))) (100) (hM2.1) rfl rfl gi_L_121 rfl ⟨by decide, by decide, by decide +kernel⟩ rfl rfl (Nat.le_of_ble_eq_true rfl) rfl rfl ⟨Nat.le_of_ble_eq_true rfl, Nat.le_of_ble_eq_true rfl⟩ ⟨(show (k + 3) + 0 ≤ 601024 by omega), (show (n + 18) + 0 ≤ 7293034 by omega)⟩ dL_law_922 (fun v ad2 gm hmp => ?_)
    obtain ⟨rfl, hfm, ⟨hmc, rfl, hP⟩ | ⟨hmc, rfl, hP⟩⟩ := hmp
    · skip
      exact absurd hm0 hmc
    · skip
      refine qr_istore (lv' := [(6, (.int ((sm_b0 (σ 15 (sm_at (xs (i + 1)) (xs (i + 2)))))))), (5, (.int (0 : Int32))), (0, (.ref b)), (1, (.ref (ad2 0))), (2, (.ref (ad2 100))), (3, (.ref (ad2 150))), (4, (.int (nI i)))]) C dL_law_925 (by decide) rfl ?_
      refine qr_aload_n C dL_law_927 rfl 4 rfl ?_
      refine qr_callV C (na := 0) (As := []) (rest := []) (k_X7_thrown hst D ad2 gm (σ) ((sm_cB (xs (i + 1)) (xs (i + 2)))) hP) (100) (hP.1) rfl rfl gi_L_84 rfl ⟨by decide, by decide, by decide +kernel⟩ rfl rfl (Nat.le_of_ble_eq_true rfl) rfl rfl ⟨Nat.le_of_ble_eq_true rfl, Nat.le_of_ble_eq_true rfl⟩ ⟨(show ((k + 3) + 0) + 0 ≤ 601024 by omega), (show ((n + 18) + 0) + 0 ≤ 7293034 by omega)⟩ dL_law_928 (fun v ad2 gt hpt => ?_)
      obtain ⟨rfl, rfl, rfl⟩ := hpt
      refine qr_iload C dL_law_931 1 rfl ?_
      refine qr_icmp_eq_t C 938 dL_law_933 (by decide) hm0 ?_
      refine qr_iload C dL_law_938 1 rfl ?_
      refine qr_if_ne_f C 962 dL_law_940 (by decide) rfl ?_
      refine qr_aload_n C dL_law_943 rfl 5 rfl ?_
      refine qr_iconst (v := 0) C dL_law_944 (by decide) ?_
      refine qr_lald C (x := (qx_ob V)) (150) (((hfm 150 (by omega)).trans hO2)) rfl (j := 0) rfl (by omega) rfl rfl dL_law_945 ?_
      refine qr_iload C dL_law_946 0 rfl ?_
      refine qr_if_eq C 955 dL_law_948 (by decide) (fun cz => ?_) (fun cz => ?_)
      · skip
        refine qr_lconst (v := 0) C dL_law_955 rfl ?_
        refine qr_lcmp C dL_law_956 ?_
        refine qr_if_eq_t C 962 dL_law_957 (by decide) (lg_cmp_same2 (by rw [← hv]; exact hov) (if_pos cz)) ?_
        refine qr_goto (tgt := 1481) C dL_law_962 (by decide) ?_
        refine qw_pick [2, 3, 4, 5, 6] (lv' := [(0, (.ref b)), (1, (.ref (ad2 0))), (2, (.ref (ad2 100))), (3, (.ref (ad2 150))), (4, (.int (nI i)))]) rfl ?_
        exact qw_widen (by omega) (by omega) (kk ad2 gm _ _ _ _ _ _ (qx_keep hX2 (fun t ht => hfm t (by omega))) hP (((hfm 150 (by omega)).trans hO2)) hRL)
      · skip
        refine qr_lconst (v := 1) C dL_law_951 rfl ?_
        refine qr_goto (tgt := 956) C dL_law_952 (by decide) ?_
        refine qr_lcmp C dL_law_956 ?_
        refine qr_if_eq_t C 962 dL_law_957 (by decide) (lg_cmp_same2 (by rw [← hv]; exact hov) (if_neg cz)) ?_
        refine qr_goto (tgt := 1481) C dL_law_962 (by decide) ?_
        refine qw_pick [2, 3, 4, 5, 6] (lv' := [(0, (.ref b)), (1, (.ref (ad2 0))), (2, (.ref (ad2 100))), (3, (.ref (ad2 150))), (4, (.int (nI i)))]) rfl ?_
        exact qw_widen (by omega) (by omega) (kk ad2 gm _ _ _ _ _ _ (qx_keep hX2 (fun t ht => hfm t (by omega))) hP (((hfm 150 (by omega)).trans hO2)) hRL)
  · skip
    refine qr_istore (lv' := [(5, (.int k0)), (0, (.ref b)), (1, (.ref (ad 0))), (2, (.ref (ad 100))), (3, (.ref (ad 150))), (4, (.int (nI i)))]) C dL_law_907 (by decide) rfl ?_
    refine qr_aload_n C dL_law_909 rfl 3 rfl ?_
    refine qr_aload_n C dL_law_910 rfl 1 rfl ?_
    refine qr_iload C dL_law_911 5 rfl ?_
    refine qr_iconst (v := 1) C dL_law_913 (by decide) ?_
    refine qr_iadd C dL_law_914 ?_
    refine qr_sld C hX (j := i + 1) (by rw [show (1 : Int32) = nI 1 from rfl, nI_add]) (by omega) (by omega) dL_law_915 ?_
    refine qr_aload_n C dL_law_916 rfl 1 rfl ?_
    refine qr_iload C dL_law_917 5 rfl ?_
    refine qr_iconst (v := 2) C dL_law_919 (by decide) ?_
    refine qr_iadd C dL_law_920 ?_
    refine qr_sld C hX (j := i + 2) (by rw [show (2 : Int32) = nI 2 from rfl, nI_add]) (by omega) (by omega) dL_law_921 ?_
    refine qr_callV C (na := 2) (As := [(.int (xs (i + 1))), (.int (xs (i + 2)))]) (rest := []) (k_X7_isBuilt hst D ad g σ r hMP (xs (i + 1)) (xs (i + 2))) (100) (hMP.1) rfl rfl gi_L_121 rfl ⟨by decide, by decide, by decide +kernel⟩ rfl rfl (Nat.le_of_ble_eq_true rfl) rfl rfl ⟨Nat.le_of_ble_eq_true rfl, Nat.le_of_ble_eq_true rfl⟩ ⟨(show (k + 3) + 0 ≤ 601024 by omega), (show (n + 18) + 0 ≤ 7293034 by omega)⟩ dL_law_922 (fun v ad2 gm hmp => ?_)
    obtain ⟨rfl, hfm, ⟨hmc, rfl, hP⟩ | ⟨hmc, rfl, hP⟩⟩ := hmp
    · skip
      refine qr_istore (lv' := [(6, (.int (0 : Int32))), (5, (.int k0)), (0, (.ref b)), (1, (.ref (ad 0))), (2, (.ref (ad 100))), (3, (.ref (ad 150))), (4, (.int (nI i)))]) C dL_law_925 (by decide) rfl ?_
      refine qr_aload_n C dL_law_927 rfl 4 rfl ?_
      refine qr_callV C (na := 0) (As := []) (rest := []) (k_X7_thrown hst D ad gm σ ((sm_cB (xs (i + 1)) (xs (i + 2)))) hP) (100) (hP.1) rfl rfl gi_L_84 rfl ⟨by decide, by decide, by decide +kernel⟩ rfl rfl (Nat.le_of_ble_eq_true rfl) rfl rfl ⟨Nat.le_of_ble_eq_true rfl, Nat.le_of_ble_eq_true rfl⟩ ⟨(show ((k + 3) + 0) + 0 ≤ 601024 by omega), (show ((n + 18) + 0) + 0 ≤ 7293034 by omega)⟩ dL_law_928 (fun v ad2 gt hpt => ?_)
      obtain ⟨rfl, rfl, rfl⟩ := hpt
      refine qr_iload C dL_law_931 1 rfl ?_
      refine qr_icmp_eq_t C 938 dL_law_933 (by decide) hk0.2 ?_
      refine qr_iload C dL_law_938 1 rfl ?_
      refine qr_if_ne_t C 962 dL_law_940 (by decide) hk0.1 ?_
      refine qr_goto (tgt := 1481) C dL_law_962 (by decide) ?_
      refine qw_pick [2, 3, 4, 5, 6] (lv' := [(0, (.ref b)), (1, (.ref (ad 0))), (2, (.ref (ad 100))), (3, (.ref (ad 150))), (4, (.int (nI i)))]) rfl ?_
      exact qw_widen (by omega) (by omega) (kk ad gm _ _ _ _ _ _ (qx_keep hXP (fun t ht => hfm t (by omega))) hP (((hfm 150 (by omega)).trans hO)) hag.2.2)
    · skip
      exact absurd (hk0.2.symm.trans hmc) hk0.1
set_option maxHeartbeats 4000000 in
set_option maxRecDepth 100000 in
theorem q_case_11 {p : Program} {l : Launch} {e : Env} {s : State} {m : MethodId} {args : Array Value} {below : List Frame} {meth : Method} {c : Code} {D : va_G} {A : Nat → Prop} {Q : State → Prop} {k n : Nat} {ad : Nat → Nat} {g : qw_G} (C : qw_C p l s m args meth c D A 7 cL_law RL (some .boolean)) (hst : l.stackTraces = false) (RLr : (Nat → Nat → Int32) → Nat → Nat → (Nat → Nat → Int32) → Prop) {b L : Nat} {xs : Nat → Int32} (hX : ql_S b L xs A s) (hL : L ≤ 3072) {i : Nat} (hi : i + 6 ≤ L) (hk : k + 5 ≤ 601024) (hn : n + 30 ≤ 7293034) {χ σ : Nat → Nat → Int32} {nS nE : Nat} {r : Int32} {F : Nat → Int64} (hXP : qx_P D χ nS nE ad g) (hMP : qm_P D σ r ad g) (hO : g 150 = some (.inl (D.1 22, 1, .inr (.inl F)))) (hw : ql_wf χ nS nE σ) (hag : ((∀ E, qx_px ((cx_shown χ (xs (i + 1)) (xs (i + 2)) (xs (i + 3)) (xs (i + 4)))) E → (E = qw_E1 ∧ ql_pk ((sm_cshown σ (xs (i + 1)) (xs (i + 2)) (xs (i + 3)) (xs (i + 4)))) 1) ∨ (E = qw_E3 ∧ ql_pk ((sm_cshown σ (xs (i + 1)) (xs (i + 2)) (xs (i + 3)) (xs (i + 4)))) 2)) ∧ (((cx_shown χ (xs (i + 1)) (xs (i + 2)) (xs (i + 3)) (xs (i + 4)))) = 0 → ((sm_cshown σ (xs (i + 1)) (xs (i + 2)) (xs (i + 3)) (xs (i + 4)))) = 0 ∧ qx_oi ((cx_shownV χ (xs (i + 1)) (xs (i + 2)) (xs (i + 3)) (xs (i + 4)))) = qx_oi ((sm_shown σ nS (xs (i + 1)) (xs (i + 2)) (xs (i + 3)) (xs (i + 4)))) ∧ RLr ((χ)) nS nE (σ)) ∧ RLr χ nS nE σ)) (kk : ∀ (ad' : Nat → Nat) (g' : qw_G) (χ' : Nat → Nat → Int32) (nS' nE' : Nat) (σ' : Nat → Nat → Int32) (r' : Int32) (F' : Nat → Int64), qx_P D χ' nS' nE' ad' g' → qm_P D σ' r' ad' g' → g' 150 = some (.inl (D.1 22, 1, .inr (.inl F'))) → RLr χ' nS' nE' σ' → qw_W p l e { frames := 12, cells := 601024, slots := 7293034, locals := 448 } s m args below meth c D A 7 Q (k + 5) (n + 30) ad' g' 1481 [(0, .ref b), (1, .ref (ad' 0)), (2, .ref (ad' 100)), (3, .ref (ad' 150)), (4, .int (nI i))] []) : qw_W p l e { frames := 12, cells := 601024, slots := 7293034, locals := 448 } s m args below meth c D A 7 Q k n ad g 965 [(0, .ref b), (1, .ref (ad 0)), (2, .ref (ad 100)), (3, .ref (ad 150)), (4, .int (nI i))] [] := by
  have hb := (qx_ct hXP).2.2
  refine qr_aload_n C dL_law_965 rfl 1 rfl ?_
  refine qr_aload_n C dL_law_966 rfl 0 rfl ?_
  refine qr_iload C dL_law_967 4 rfl ?_
  refine qr_iconst (v := 1) C dL_law_969 (by decide) ?_
  refine qr_iadd C dL_law_970 ?_
  refine qr_sld C hX (j := i + 1) (by rw [show (1 : Int32) = nI 1 from rfl, nI_add]) (by omega) (by omega) dL_law_971 ?_
  refine qr_aload_n C dL_law_972 rfl 0 rfl ?_
  refine qr_iload C dL_law_973 4 rfl ?_
  refine qr_iconst (v := 2) C dL_law_975 (by decide) ?_
  refine qr_iadd C dL_law_976 ?_
  refine qr_sld C hX (j := i + 2) (by rw [show (2 : Int32) = nI 2 from rfl, nI_add]) (by omega) (by omega) dL_law_977 ?_
  refine qr_aload_n C dL_law_978 rfl 0 rfl ?_
  refine qr_iload C dL_law_979 4 rfl ?_
  refine qr_iconst (v := 3) C dL_law_981 (by decide) ?_
  refine qr_iadd C dL_law_982 ?_
  refine qr_sld C hX (j := i + 3) (by rw [show (3 : Int32) = nI 3 from rfl, nI_add]) (by omega) (by omega) dL_law_983 ?_
  refine qr_aload_n C dL_law_984 rfl 0 rfl ?_
  refine qr_iload C dL_law_985 4 rfl ?_
  refine qr_iconst (v := 4) C dL_law_987 (by decide) ?_
  refine qr_iadd C dL_law_988 ?_
  refine qr_sld C hX (j := i + 4) (by rw [show (4 : Int32) = nI 4 from rfl, nI_add]) (by omega) (by omega) dL_law_989 ?_
  refine qr_aload_n C dL_law_990 rfl 3 rfl ?_
  refine qr_callSH C (na := 6) (As := [(.ref (ad 0)), (.int (xs (i + 1))), (.int (xs (i + 2))), (.int (xs (i + 3))), (.int (xs (i + 4))), (.ref (ad 150))]) (rest := []) (k_L_shown hst D ad g (xs (i + 1)) (xs (i + 2)) (xs (i + 3)) (xs (i + 4)) F hO (qx_x hXP) _ _ (ql_pk ((sm_cshown σ (xs (i + 1)) (xs (i + 2)) (xs (i + 3)) (xs (i + 4))))) (k_X6_shown hst D ad g χ nS nE hXP (xs (i + 1)) (xs (i + 2)) (xs (i + 3)) (xs (i + 4))) qx_op.cp hag.1) gi_L_122 ⟨by decide, by decide, by decide +kernel⟩ rfl rfl (Nat.le_of_ble_eq_true rfl) rfl rfl ⟨(Nat.le_of_ble_eq_true rfl), (Nat.le_of_ble_eq_true rfl)⟩ ⟨(show k + 5 ≤ 601024 by omega), (show n + 30 ≤ 7293034 by omega)⟩ dL_law_991 (fun v ad2 gz hpo => ?_)
  rcases hpo with ⟨V, gy, hcp, rfl, hg⟩ | ⟨k0, hk0, rfl, rfl, rfl⟩
  · skip
    obtain ⟨hc0, hv, had, hXn, hfr⟩ := qx_op.n hcp
    replace hv := sg_vj hv
    obtain ⟨hm0, hov, hRL⟩ := hag.2.1 hc0
    have hgz : ∀ t, t ≠ 150 → gz t = gy t := fun t ht => by rw [← hg]; exact va_up_ne _ _ ht
    have hO2 : gz 150 = some (.inl (D.1 22, 1, .inr (.inl (vp_updL F 0 (qx_oi V))))) := by rw [← hg]; exact va_up_self _ _ _
    have hX2 := qx_keep hXn (g' := gz) (fun t ht => hgz t (by omega))
    have hM2 := qm_keep hMP (g' := gz) (ad' := ad2) (fun t ht => (hgz t (by omega)).trans (hfr t (by omega))) (fun t ht => had t (by omega))
    refine qw_to (lv' := [(0, (.ref b)), (1, (.ref (ad2 0))), (2, (.ref (ad2 100))), (3, (.ref (ad2 150))), (4, (.int (nI i)))]) (st' := [(.int (0 : Int32))]) rfl rfl (by rw [had 0 (by omega), had 100 (by omega), had 150 (by omega)]) rfl ?_
    refine qr_istore (lv' := [(5, (.int (0 : Int32))), (0, (.ref b)), (1, (.ref (ad2 0))), (2, (.ref (ad2 100))), (3, (.ref (ad2 150))), (4, (.int (nI i)))]) C dL_law_994 (by decide) rfl ?_
    refine qr_aload_n C dL_law_996 rfl 3 rfl ?_
    refine qr_aload_n C dL_law_997 rfl 1 rfl ?_
    refine qr_iload C dL_law_998 5 rfl ?_
    refine qr_iconst (v := 1) C dL_law_1000 (by decide) ?_
    refine qr_iadd C dL_law_1001 ?_
    refine qr_sld C hX (j := i + 1) (by rw [show (1 : Int32) = nI 1 from rfl, nI_add]) (by omega) (by omega) dL_law_1002 ?_
    refine qr_aload_n C dL_law_1003 rfl 1 rfl ?_
    refine qr_iload C dL_law_1004 5 rfl ?_
    refine qr_iconst (v := 2) C dL_law_1006 (by decide) ?_
    refine qr_iadd C dL_law_1007 ?_
    refine qr_sld C hX (j := i + 2) (by rw [show (2 : Int32) = nI 2 from rfl, nI_add]) (by omega) (by omega) dL_law_1008 ?_
    refine qr_aload_n C dL_law_1009 rfl 1 rfl ?_
    refine qr_iload C dL_law_1010 5 rfl ?_
    refine qr_iconst (v := 3) C dL_law_1012 (by decide) ?_
    refine qr_iadd C dL_law_1013 ?_
    refine qr_sld C hX (j := i + 3) (by rw [show (3 : Int32) = nI 3 from rfl, nI_add]) (by omega) (by omega) dL_law_1014 ?_
    refine qr_aload_n C dL_law_1015 rfl 1 rfl ?_
    refine qr_iload C dL_law_1016 5 rfl ?_
    refine qr_iconst (v := 4) C dL_law_1018 (by decide) ?_
    refine qr_iadd C dL_law_1019 ?_
    refine qr_sld C hX (j := i + 4) (by rw [show (4 : Int32) = nI 4 from rfl, nI_add]) (by omega) (by omega) dL_law_1020 ?_
    refine qr_callV C (na := 4) (As := [(.int (xs (i + 1))), (.int (xs (i + 2))), (.int (xs (i + 3))), (.int (xs (i + 4)))]) (rest := []) (k_X7_shown hst D ad2 gz σ r hM2 nS hw.1 hb.1 (xs (i + 1)) (xs (i + 2)) (xs (i + 3)) (xs (i + 4))) (100) (hM2.1) rfl rfl gi_L_124 rfl ⟨by decide, by decide, by decide +kernel⟩ rfl rfl (Nat.le_of_ble_eq_true rfl) rfl rfl ⟨Nat.le_of_ble_eq_true rfl, Nat.le_of_ble_eq_true rfl⟩ ⟨(show (k + 5) + 0 ≤ 601024 by omega), (show (n + 30) + 0 ≤ 7293034 by omega)⟩ dL_law_1021 (fun v ad2 gm hmp => ?_)
    obtain ⟨rfl, hfm, ⟨hmc, rfl, hP⟩ | ⟨hmc, rfl, hP⟩⟩ := hmp
    · skip
      exact absurd hm0 hmc
    · skip
      refine qr_istore (lv' := [(6, (.int ((sm_shown σ nS (xs (i + 1)) (xs (i + 2)) (xs (i + 3)) (xs (i + 4)))))), (5, (.int (0 : Int32))), (0, (.ref b)), (1, (.ref (ad2 0))), (2, (.ref (ad2 100))), (3, (.ref (ad2 150))), (4, (.int (nI i)))]) C dL_law_1024 (by decide) rfl ?_
      refine qr_aload_n C dL_law_1026 rfl 4 rfl ?_
      refine qr_callV C (na := 0) (As := []) (rest := []) (k_X7_thrown hst D ad2 gm (σ) ((sm_cshown σ (xs (i + 1)) (xs (i + 2)) (xs (i + 3)) (xs (i + 4)))) hP) (100) (hP.1) rfl rfl gi_L_84 rfl ⟨by decide, by decide, by decide +kernel⟩ rfl rfl (Nat.le_of_ble_eq_true rfl) rfl rfl ⟨Nat.le_of_ble_eq_true rfl, Nat.le_of_ble_eq_true rfl⟩ ⟨(show ((k + 5) + 0) + 0 ≤ 601024 by omega), (show ((n + 30) + 0) + 0 ≤ 7293034 by omega)⟩ dL_law_1027 (fun v ad2 gt hpt => ?_)
      obtain ⟨rfl, rfl, rfl⟩ := hpt
      refine qr_iload C dL_law_1030 1 rfl ?_
      refine qr_icmp_eq_t C 1037 dL_law_1032 (by decide) hm0 ?_
      refine qr_iload C dL_law_1037 1 rfl ?_
      refine qr_if_ne_f C 1054 dL_law_1039 (by decide) rfl ?_
      refine qr_aload_n C dL_law_1042 rfl 5 rfl ?_
      refine qr_iconst (v := 0) C dL_law_1043 (by decide) ?_
      refine qr_lald C (x := (qx_oi V)) (150) (((hfm 150 (by omega)).trans hO2)) rfl (j := 0) rfl (by omega) rfl rfl dL_law_1044 ?_
      refine qr_iload C dL_law_1045 0 rfl ?_
      refine qr_i2l C dL_law_1047 ?_
      refine qr_lcmp C dL_law_1048 ?_
      refine qr_if_eq_t C 1054 dL_law_1049 (by decide) (lg_cmp_same (by rw [← hv]; exact hov)) ?_
      refine qr_goto (tgt := 1481) C dL_law_1054 (by decide) ?_
      refine qw_pick [2, 3, 4, 5, 6] (lv' := [(0, (.ref b)), (1, (.ref (ad2 0))), (2, (.ref (ad2 100))), (3, (.ref (ad2 150))), (4, (.int (nI i)))]) rfl ?_
      exact qw_widen (by omega) (by omega) (kk ad2 gm _ _ _ _ _ _ (qx_keep hX2 (fun t ht => hfm t (by omega))) hP (((hfm 150 (by omega)).trans hO2)) hRL)
  · skip
    refine qr_istore (lv' := [(5, (.int k0)), (0, (.ref b)), (1, (.ref (ad 0))), (2, (.ref (ad 100))), (3, (.ref (ad 150))), (4, (.int (nI i)))]) C dL_law_994 (by decide) rfl ?_
    refine qr_aload_n C dL_law_996 rfl 3 rfl ?_
    refine qr_aload_n C dL_law_997 rfl 1 rfl ?_
    refine qr_iload C dL_law_998 5 rfl ?_
    refine qr_iconst (v := 1) C dL_law_1000 (by decide) ?_
    refine qr_iadd C dL_law_1001 ?_
    refine qr_sld C hX (j := i + 1) (by rw [show (1 : Int32) = nI 1 from rfl, nI_add]) (by omega) (by omega) dL_law_1002 ?_
    refine qr_aload_n C dL_law_1003 rfl 1 rfl ?_
    refine qr_iload C dL_law_1004 5 rfl ?_
    refine qr_iconst (v := 2) C dL_law_1006 (by decide) ?_
    refine qr_iadd C dL_law_1007 ?_
    refine qr_sld C hX (j := i + 2) (by rw [show (2 : Int32) = nI 2 from rfl, nI_add]) (by omega) (by omega) dL_law_1008 ?_
    refine qr_aload_n C dL_law_1009 rfl 1 rfl ?_
    refine qr_iload C dL_law_1010 5 rfl ?_
    refine qr_iconst (v := 3) C dL_law_1012 (by decide) ?_
    refine qr_iadd C dL_law_1013 ?_
    refine qr_sld C hX (j := i + 3) (by rw [show (3 : Int32) = nI 3 from rfl, nI_add]) (by omega) (by omega) dL_law_1014 ?_
    refine qr_aload_n C dL_law_1015 rfl 1 rfl ?_
    refine qr_iload C dL_law_1016 5 rfl ?_
    refine qr_iconst (v := 4) C dL_law_1018 (by decide) ?_
    refine qr_iadd C dL_law_1019 ?_
    refine qr_sld C hX (j := i + 4) (by rw [show (4 : Int32) = nI 4 from rfl, nI_add]) (by omega) (by omega) dL_law_1020 ?_
    refine qr_callV C (na := 4) (As := [(.int (xs (i + 1))), (.int (xs (i + 2))), (.int (xs (i + 3))), (.int (xs (i + 4)))]) (rest := []) (k_X7_shown hst D ad g σ r hMP nS hw.1 hb.1 (xs (i + 1)) (xs (i + 2)) (xs (i + 3)) (xs (i + 4))) (100) (hMP.1) rfl rfl gi_L_124 rfl ⟨by decide, by decide, by decide +kernel⟩ rfl rfl (Nat.le_of_ble_eq_true rfl) rfl rfl ⟨Nat.le_of_ble_eq_true rfl, Nat.le_of_ble_eq_true rfl⟩ ⟨(show (k + 5) + 0 ≤ 601024 by omega), (show (n + 30) + 0 ≤ 7293034 by omega)⟩ dL_law_1021 (fun v ad2 gm hmp => ?_)
    obtain ⟨rfl, hfm, ⟨hmc, rfl, hP⟩ | ⟨hmc, rfl, hP⟩⟩ := hmp
    · skip
      refine qr_istore (lv' := [(6, (.int (0 : Int32))), (5, (.int k0)), (0, (.ref b)), (1, (.ref (ad 0))), (2, (.ref (ad 100))), (3, (.ref (ad 150))), (4, (.int (nI i)))]) C dL_law_1024 (by decide) rfl ?_
      refine qr_aload_n C dL_law_1026 rfl 4 rfl ?_
      refine qr_callV C (na := 0) (As := []) (rest := []) (k_X7_thrown hst D ad gm σ ((sm_cshown σ (xs (i + 1)) (xs (i + 2)) (xs (i + 3)) (xs (i + 4)))) hP) (100) (hP.1) rfl rfl gi_L_84 rfl ⟨by decide, by decide, by decide +kernel⟩ rfl rfl (Nat.le_of_ble_eq_true rfl) rfl rfl ⟨Nat.le_of_ble_eq_true rfl, Nat.le_of_ble_eq_true rfl⟩ ⟨(show ((k + 5) + 0) + 0 ≤ 601024 by omega), (show ((n + 30) + 0) + 0 ≤ 7293034 by omega)⟩ dL_law_1027 (fun v ad2 gt hpt => ?_)
      obtain ⟨rfl, rfl, rfl⟩ := hpt
      refine qr_iload C dL_law_1030 1 rfl ?_
      refine qr_icmp_eq_t C 1037 dL_law_1032 (by decide) hk0.2 ?_
      refine qr_iload C dL_law_1037 1 rfl ?_
      refine qr_if_ne_t C 1054 dL_law_1039 (by decide) hk0.1 ?_
      refine qr_goto (tgt := 1481) C dL_law_1054 (by decide) ?_
      refine qw_pick [2, 3, 4, 5, 6] (lv' := [(0, (.ref b)), (1, (.ref (ad 0))), (2, (.ref (ad 100))), (3, (.ref (ad 150))), (4, (.int (nI i)))]) rfl ?_
      exact qw_widen (by omega) (by omega) (kk ad gm _ _ _ _ _ _ (qx_keep hXP (fun t ht => hfm t (by omega))) hP (((hfm 150 (by omega)).trans hO)) hag.2.2)
    · skip
      exact absurd (hk0.2.symm.trans hmc) hk0.1
set_option maxHeartbeats 4000000 in
set_option maxRecDepth 100000 in
theorem q_case_12 {p : Program} {l : Launch} {e : Env} {s : State} {m : MethodId} {args : Array Value} {below : List Frame} {meth : Method} {c : Code} {D : va_G} {A : Nat → Prop} {Q : State → Prop} {k n : Nat} {ad : Nat → Nat} {g : qw_G} (C : qw_C p l s m args meth c D A 7 cL_law RL (some .boolean)) (hst : l.stackTraces = false) (RLr : (Nat → Nat → Int32) → Nat → Nat → (Nat → Nat → Int32) → Prop) {b L : Nat} {xs : Nat → Int32} (hX : ql_S b L xs A s) (hL : L ≤ 3072) {i : Nat} (hi : i + 6 ≤ L) (hk : k + 5 ≤ 601024) (hn : n + 30 ≤ 7293034) {χ σ : Nat → Nat → Int32} {nS nE : Nat} {r : Int32} {F : Nat → Int64} (hXP : qx_P D χ nS nE ad g) (hMP : qm_P D σ r ad g) (hO : g 150 = some (.inl (D.1 22, 1, .inr (.inl F)))) (hw : ql_wf χ nS nE σ) (hag : ((∀ E, qx_px ((cx_whyC χ (xs (i + 1)) (xs (i + 2)) (xs (i + 3)) (xs (i + 4)))) E → (E = qw_E1 ∧ ql_pk ((sm_cwhy σ (xs (i + 1)) (xs (i + 2)) (xs (i + 3)) (xs (i + 4)))) 1)) ∧ (((cx_whyC χ (xs (i + 1)) (xs (i + 2)) (xs (i + 3)) (xs (i + 4)))) = 0 → ((sm_cwhy σ (xs (i + 1)) (xs (i + 2)) (xs (i + 3)) (xs (i + 4)))) = 0 ∧ qx_oi ((cx_whyV χ (xs (i + 1)) (xs (i + 2)) (xs (i + 3)) (xs (i + 4)))) = qx_oi ((sm_why σ (xs (i + 1)) (xs (i + 2)) (xs (i + 3)) (xs (i + 4)))) ∧ RLr (χ) nS nE (σ)) ∧ RLr χ nS nE σ)) (kk : ∀ (ad' : Nat → Nat) (g' : qw_G) (χ' : Nat → Nat → Int32) (nS' nE' : Nat) (σ' : Nat → Nat → Int32) (r' : Int32) (F' : Nat → Int64), qx_P D χ' nS' nE' ad' g' → qm_P D σ' r' ad' g' → g' 150 = some (.inl (D.1 22, 1, .inr (.inl F'))) → RLr χ' nS' nE' σ' → qw_W p l e { frames := 12, cells := 601024, slots := 7293034, locals := 448 } s m args below meth c D A 7 Q (k + 5) (n + 30) ad' g' 1481 [(0, .ref b), (1, .ref (ad' 0)), (2, .ref (ad' 100)), (3, .ref (ad' 150)), (4, .int (nI i))] []) : qw_W p l e { frames := 12, cells := 601024, slots := 7293034, locals := 448 } s m args below meth c D A 7 Q k n ad g 1057 [(0, .ref b), (1, .ref (ad 0)), (2, .ref (ad 100)), (3, .ref (ad 150)), (4, .int (nI i))] [] := by
  have hb := (qx_ct hXP).2.2
  refine qr_aload_n C dL_law_1057 rfl 1 rfl ?_
  refine qr_aload_n C dL_law_1058 rfl 0 rfl ?_
  refine qr_iload C dL_law_1059 4 rfl ?_
  refine qr_iconst (v := 1) C dL_law_1061 (by decide) ?_
  refine qr_iadd C dL_law_1062 ?_
  refine qr_sld C hX (j := i + 1) (by rw [show (1 : Int32) = nI 1 from rfl, nI_add]) (by omega) (by omega) dL_law_1063 ?_
  refine qr_aload_n C dL_law_1064 rfl 0 rfl ?_
  refine qr_iload C dL_law_1065 4 rfl ?_
  refine qr_iconst (v := 2) C dL_law_1067 (by decide) ?_
  refine qr_iadd C dL_law_1068 ?_
  refine qr_sld C hX (j := i + 2) (by rw [show (2 : Int32) = nI 2 from rfl, nI_add]) (by omega) (by omega) dL_law_1069 ?_
  refine qr_aload_n C dL_law_1070 rfl 0 rfl ?_
  refine qr_iload C dL_law_1071 4 rfl ?_
  refine qr_iconst (v := 3) C dL_law_1073 (by decide) ?_
  refine qr_iadd C dL_law_1074 ?_
  refine qr_sld C hX (j := i + 3) (by rw [show (3 : Int32) = nI 3 from rfl, nI_add]) (by omega) (by omega) dL_law_1075 ?_
  refine qr_aload_n C dL_law_1076 rfl 0 rfl ?_
  refine qr_iload C dL_law_1077 4 rfl ?_
  refine qr_iconst (v := 4) C dL_law_1079 (by decide) ?_
  refine qr_iadd C dL_law_1080 ?_
  refine qr_sld C hX (j := i + 4) (by rw [show (4 : Int32) = nI 4 from rfl, nI_add]) (by omega) (by omega) dL_law_1081 ?_
  refine qr_aload_n C dL_law_1082 rfl 3 rfl ?_
  refine qr_callSH C (na := 6) (As := [(.ref (ad 0)), (.int (xs (i + 1))), (.int (xs (i + 2))), (.int (xs (i + 3))), (.int (xs (i + 4))), (.ref (ad 150))]) (rest := []) (k_L_why hst D ad g (xs (i + 1)) (xs (i + 2)) (xs (i + 3)) (xs (i + 4)) F hO (qx_x hXP) _ _ (ql_pk ((sm_cwhy σ (xs (i + 1)) (xs (i + 2)) (xs (i + 3)) (xs (i + 4))))) (k_X6_why hst D ad g χ nS nE hXP (xs (i + 1)) (xs (i + 2)) (xs (i + 3)) (xs (i + 4))) qx_op.cp hag.1) gi_L_125 ⟨by decide, by decide, by decide +kernel⟩ rfl rfl (Nat.le_of_ble_eq_true rfl) rfl rfl ⟨(Nat.le_of_ble_eq_true rfl), (Nat.le_of_ble_eq_true rfl)⟩ ⟨(show k + 5 ≤ 601024 by omega), (show n + 30 ≤ 7293034 by omega)⟩ dL_law_1083 (fun v ad2 gz hpo => ?_)
  rcases hpo with ⟨V, gy, hcp, rfl, hg⟩ | ⟨k0, hk0, rfl, rfl, rfl⟩
  · skip
    obtain ⟨hc0, hv, had, hXn, hfr⟩ := qx_op.n hcp
    replace hv := sg_vj hv
    obtain ⟨hm0, hov, hRL⟩ := hag.2.1 hc0
    have hgz : ∀ t, t ≠ 150 → gz t = gy t := fun t ht => by rw [← hg]; exact va_up_ne _ _ ht
    have hO2 : gz 150 = some (.inl (D.1 22, 1, .inr (.inl (vp_updL F 0 (qx_oi V))))) := by rw [← hg]; exact va_up_self _ _ _
    have hX2 := qx_keep hXn (g' := gz) (fun t ht => hgz t (by omega))
    have hM2 := qm_keep hMP (g' := gz) (ad' := ad2) (fun t ht => (hgz t (by omega)).trans (hfr t (by omega))) (fun t ht => had t (by omega))
    refine qw_to (lv' := [(0, (.ref b)), (1, (.ref (ad2 0))), (2, (.ref (ad2 100))), (3, (.ref (ad2 150))), (4, (.int (nI i)))]) (st' := [(.int (0 : Int32))]) rfl rfl (by rw [had 0 (by omega), had 100 (by omega), had 150 (by omega)]) rfl ?_
    refine qr_istore (lv' := [(5, (.int (0 : Int32))), (0, (.ref b)), (1, (.ref (ad2 0))), (2, (.ref (ad2 100))), (3, (.ref (ad2 150))), (4, (.int (nI i)))]) C dL_law_1086 (by decide) rfl ?_
    refine qr_aload_n C dL_law_1088 rfl 3 rfl ?_
    refine qr_aload_n C dL_law_1089 rfl 1 rfl ?_
    refine qr_iload C dL_law_1090 5 rfl ?_
    refine qr_iconst (v := 1) C dL_law_1092 (by decide) ?_
    refine qr_iadd C dL_law_1093 ?_
    refine qr_sld C hX (j := i + 1) (by rw [show (1 : Int32) = nI 1 from rfl, nI_add]) (by omega) (by omega) dL_law_1094 ?_
    refine qr_aload_n C dL_law_1095 rfl 1 rfl ?_
    refine qr_iload C dL_law_1096 5 rfl ?_
    refine qr_iconst (v := 2) C dL_law_1098 (by decide) ?_
    refine qr_iadd C dL_law_1099 ?_
    refine qr_sld C hX (j := i + 2) (by rw [show (2 : Int32) = nI 2 from rfl, nI_add]) (by omega) (by omega) dL_law_1100 ?_
    refine qr_aload_n C dL_law_1101 rfl 1 rfl ?_
    refine qr_iload C dL_law_1102 5 rfl ?_
    refine qr_iconst (v := 3) C dL_law_1104 (by decide) ?_
    refine qr_iadd C dL_law_1105 ?_
    refine qr_sld C hX (j := i + 3) (by rw [show (3 : Int32) = nI 3 from rfl, nI_add]) (by omega) (by omega) dL_law_1106 ?_
    refine qr_aload_n C dL_law_1107 rfl 1 rfl ?_
    refine qr_iload C dL_law_1108 5 rfl ?_
    refine qr_iconst (v := 4) C dL_law_1110 (by decide) ?_
    refine qr_iadd C dL_law_1111 ?_
    refine qr_sld C hX (j := i + 4) (by rw [show (4 : Int32) = nI 4 from rfl, nI_add]) (by omega) (by omega) dL_law_1112 ?_
    refine qr_callV C (na := 4) (As := [(.int (xs (i + 1))), (.int (xs (i + 2))), (.int (xs (i + 3))), (.int (xs (i + 4)))]) (rest := []) (k_X7_why hst D ad2 gz σ r hM2 (xs (i + 1)) (xs (i + 2)) (xs (i + 3)) (xs (i + 4))) (100) (hM2.1) rfl rfl gi_L_127 rfl ⟨by decide, by decide, by decide +kernel⟩ rfl rfl (Nat.le_of_ble_eq_true rfl) rfl rfl ⟨Nat.le_of_ble_eq_true rfl, Nat.le_of_ble_eq_true rfl⟩ ⟨(show (k + 5) + 0 ≤ 601024 by omega), (show (n + 30) + 0 ≤ 7293034 by omega)⟩ dL_law_1113 (fun v ad2 gm hmp => ?_)
    obtain ⟨rfl, hfm, ⟨hmc, rfl, hP⟩ | ⟨hmc, rfl, hP⟩⟩ := hmp
    · skip
      exact absurd hm0 hmc
    · skip
      refine qr_istore (lv' := [(6, (.int ((sm_why σ (xs (i + 1)) (xs (i + 2)) (xs (i + 3)) (xs (i + 4)))))), (5, (.int (0 : Int32))), (0, (.ref b)), (1, (.ref (ad2 0))), (2, (.ref (ad2 100))), (3, (.ref (ad2 150))), (4, (.int (nI i)))]) C dL_law_1116 (by decide) rfl ?_
      refine qr_aload_n C dL_law_1118 rfl 4 rfl ?_
      refine qr_callV C (na := 0) (As := []) (rest := []) (k_X7_thrown hst D ad2 gm (σ) ((sm_cwhy σ (xs (i + 1)) (xs (i + 2)) (xs (i + 3)) (xs (i + 4)))) hP) (100) (hP.1) rfl rfl gi_L_84 rfl ⟨by decide, by decide, by decide +kernel⟩ rfl rfl (Nat.le_of_ble_eq_true rfl) rfl rfl ⟨Nat.le_of_ble_eq_true rfl, Nat.le_of_ble_eq_true rfl⟩ ⟨(show ((k + 5) + 0) + 0 ≤ 601024 by omega), (show ((n + 30) + 0) + 0 ≤ 7293034 by omega)⟩ dL_law_1119 (fun v ad2 gt hpt => ?_)
      obtain ⟨rfl, rfl, rfl⟩ := hpt
      refine qr_iload C dL_law_1122 1 rfl ?_
      refine qr_icmp_eq_t C 1129 dL_law_1124 (by decide) hm0 ?_
      refine qr_iload C dL_law_1129 1 rfl ?_
      refine qr_if_ne_f C 1146 dL_law_1131 (by decide) rfl ?_
      refine qr_aload_n C dL_law_1134 rfl 5 rfl ?_
      refine qr_iconst (v := 0) C dL_law_1135 (by decide) ?_
      refine qr_lald C (x := (qx_oi V)) (150) (((hfm 150 (by omega)).trans hO2)) rfl (j := 0) rfl (by omega) rfl rfl dL_law_1136 ?_
      refine qr_iload C dL_law_1137 0 rfl ?_
      refine qr_i2l C dL_law_1139 ?_
      refine qr_lcmp C dL_law_1140 ?_
      refine qr_if_eq_t C 1146 dL_law_1141 (by decide) (lg_cmp_same (by rw [← hv]; exact hov)) ?_
      refine qr_goto (tgt := 1481) C dL_law_1146 (by decide) ?_
      refine qw_pick [2, 3, 4, 5, 6] (lv' := [(0, (.ref b)), (1, (.ref (ad2 0))), (2, (.ref (ad2 100))), (3, (.ref (ad2 150))), (4, (.int (nI i)))]) rfl ?_
      exact qw_widen (by omega) (by omega) (kk ad2 gm _ _ _ _ _ _ (qx_keep hX2 (fun t ht => hfm t (by omega))) hP (((hfm 150 (by omega)).trans hO2)) hRL)
  · skip
    refine qr_istore (lv' := [(5, (.int k0)), (0, (.ref b)), (1, (.ref (ad 0))), (2, (.ref (ad 100))), (3, (.ref (ad 150))), (4, (.int (nI i)))]) C dL_law_1086 (by decide) rfl ?_
    refine qr_aload_n C dL_law_1088 rfl 3 rfl ?_
    refine qr_aload_n C dL_law_1089 rfl 1 rfl ?_
    refine qr_iload C dL_law_1090 5 rfl ?_
    refine qr_iconst (v := 1) C dL_law_1092 (by decide) ?_
    refine qr_iadd C dL_law_1093 ?_
    refine qr_sld C hX (j := i + 1) (by rw [show (1 : Int32) = nI 1 from rfl, nI_add]) (by omega) (by omega) dL_law_1094 ?_
    refine qr_aload_n C dL_law_1095 rfl 1 rfl ?_
    refine qr_iload C dL_law_1096 5 rfl ?_
    refine qr_iconst (v := 2) C dL_law_1098 (by decide) ?_
    refine qr_iadd C dL_law_1099 ?_
    refine qr_sld C hX (j := i + 2) (by rw [show (2 : Int32) = nI 2 from rfl, nI_add]) (by omega) (by omega) dL_law_1100 ?_
    refine qr_aload_n C dL_law_1101 rfl 1 rfl ?_
    refine qr_iload C dL_law_1102 5 rfl ?_
    refine qr_iconst (v := 3) C dL_law_1104 (by decide) ?_
    refine qr_iadd C dL_law_1105 ?_
    refine qr_sld C hX (j := i + 3) (by rw [show (3 : Int32) = nI 3 from rfl, nI_add]) (by omega) (by omega) dL_law_1106 ?_
    refine qr_aload_n C dL_law_1107 rfl 1 rfl ?_
    refine qr_iload C dL_law_1108 5 rfl ?_
    refine qr_iconst (v := 4) C dL_law_1110 (by decide) ?_
    refine qr_iadd C dL_law_1111 ?_
    refine qr_sld C hX (j := i + 4) (by rw [show (4 : Int32) = nI 4 from rfl, nI_add]) (by omega) (by omega) dL_law_1112 ?_
    refine qr_callV C (na := 4) (As := [(.int (xs (i + 1))), (.int (xs (i + 2))), (.int (xs (i + 3))), (.int (xs (i + 4)))]) (rest := []) (k_X7_why hst D ad g σ r hMP (xs (i + 1)) (xs (i + 2)) (xs (i + 3)) (xs (i + 4))) (100) (hMP.1) rfl rfl gi_L_127 rfl ⟨by decide, by decide, by decide +kernel⟩ rfl rfl (Nat.le_of_ble_eq_true rfl) rfl rfl ⟨Nat.le_of_ble_eq_true rfl, Nat.le_of_ble_eq_true rfl⟩ ⟨(show (k + 5) + 0 ≤ 601024 by omega), (show (n + 30) + 0 ≤ 7293034 by omega)⟩ dL_law_1113 (fun v ad2 gm hmp => ?_)
    obtain ⟨rfl, hfm, ⟨hmc, rfl, hP⟩ | ⟨hmc, rfl, hP⟩⟩ := hmp
    · skip
      refine qr_istore (lv' := [(6, (.int (0 : Int32))), (5, (.int k0)), (0, (.ref b)), (1, (.ref (ad 0))), (2, (.ref (ad 100))), (3, (.ref (ad 150))), (4, (.int (nI i)))]) C dL_law_1116 (by decide) rfl ?_
      refine qr_aload_n C dL_law_1118 rfl 4 rfl ?_
      refine qr_callV C (na := 0) (As := []) (rest := []) (k_X7_thrown hst D ad gm σ ((sm_cwhy σ (xs (i + 1)) (xs (i + 2)) (xs (i + 3)) (xs (i + 4)))) hP) (100) (hP.1) rfl rfl gi_L_84 rfl ⟨by decide, by decide, by decide +kernel⟩ rfl rfl (Nat.le_of_ble_eq_true rfl) rfl rfl ⟨Nat.le_of_ble_eq_true rfl, Nat.le_of_ble_eq_true rfl⟩ ⟨(show ((k + 5) + 0) + 0 ≤ 601024 by omega), (show ((n + 30) + 0) + 0 ≤ 7293034 by omega)⟩ dL_law_1119 (fun v ad2 gt hpt => ?_)
      obtain ⟨rfl, rfl, rfl⟩ := hpt
      refine qr_iload C dL_law_1122 1 rfl ?_
      refine qr_icmp_eq_t C 1129 dL_law_1124 (by decide) hk0.2 ?_
      refine qr_iload C dL_law_1129 1 rfl ?_
      refine qr_if_ne_t C 1146 dL_law_1131 (by decide) hk0.1 ?_
      refine qr_goto (tgt := 1481) C dL_law_1146 (by decide) ?_
      refine qw_pick [2, 3, 4, 5, 6] (lv' := [(0, (.ref b)), (1, (.ref (ad 0))), (2, (.ref (ad 100))), (3, (.ref (ad 150))), (4, (.int (nI i)))]) rfl ?_
      exact qw_widen (by omega) (by omega) (kk ad gm _ _ _ _ _ _ (qx_keep hXP (fun t ht => hfm t (by omega))) hP (((hfm 150 (by omega)).trans hO)) hag.2.2)
    · skip
      exact absurd (hk0.2.symm.trans hmc) hk0.1
set_option maxHeartbeats 4000000 in
set_option maxRecDepth 100000 in
theorem q_case_13 {p : Program} {l : Launch} {e : Env} {s : State} {m : MethodId} {args : Array Value} {below : List Frame} {meth : Method} {c : Code} {D : va_G} {A : Nat → Prop} {Q : State → Prop} {k n : Nat} {ad : Nat → Nat} {g : qw_G} (C : qw_C p l s m args meth c D A 7 cL_law RL (some .boolean)) (hst : l.stackTraces = false) (RLr : (Nat → Nat → Int32) → Nat → Nat → (Nat → Nat → Int32) → Prop) {b L : Nat} {xs : Nat → Int32} (hX : ql_S b L xs A s) (hL : L ≤ 3072) {i : Nat} (hi : i + 6 ≤ L) (hk : k + 5 ≤ 601024) (hn : n + 30 ≤ 7293034) {χ σ : Nat → Nat → Int32} {nS nE : Nat} {r : Int32} {F : Nat → Int64} (hXP : qx_P D χ nS nE ad g) (hMP : qm_P D σ r ad g) (hO : g 150 = some (.inl (D.1 22, 1, .inr (.inl F)))) (hw : ql_wf χ nS nE σ) (hag : ((∀ E, qx_px ((cx_read χ (xs (i + 1)) (xs (i + 2)))) E → (E = qw_E1 ∧ ql_pk ((sm_cread σ (xs (i + 1)) (xs (i + 2)))) 1) ∨ (E = qw_E3 ∧ ql_pk ((sm_cread σ (xs (i + 1)) (xs (i + 2)))) 2)) ∧ (((cx_read χ (xs (i + 1)) (xs (i + 2)))) = 0 → ((sm_cread σ (xs (i + 1)) (xs (i + 2)))) = 0 ∧ qx_oi ((χ 13 (sm_at (xs (i + 1)) (xs (i + 2))))) = qx_oi ((sm_read σ (xs (i + 1)) nS)) ∧ RLr ((χ)) nS nE (σ)) ∧ RLr χ nS nE σ)) (kk : ∀ (ad' : Nat → Nat) (g' : qw_G) (χ' : Nat → Nat → Int32) (nS' nE' : Nat) (σ' : Nat → Nat → Int32) (r' : Int32) (F' : Nat → Int64), qx_P D χ' nS' nE' ad' g' → qm_P D σ' r' ad' g' → g' 150 = some (.inl (D.1 22, 1, .inr (.inl F'))) → RLr χ' nS' nE' σ' → qw_W p l e { frames := 12, cells := 601024, slots := 7293034, locals := 448 } s m args below meth c D A 7 Q (k + 5) (n + 30) ad' g' 1481 [(0, .ref b), (1, .ref (ad' 0)), (2, .ref (ad' 100)), (3, .ref (ad' 150)), (4, .int (nI i))] []) : qw_W p l e { frames := 12, cells := 601024, slots := 7293034, locals := 448 } s m args below meth c D A 7 Q k n ad g 1149 [(0, .ref b), (1, .ref (ad 0)), (2, .ref (ad 100)), (3, .ref (ad 150)), (4, .int (nI i))] [] := by
  have hb := (qx_ct hXP).2.2
  refine qr_aload_n C dL_law_1149 rfl 1 rfl ?_
  refine qr_aload_n C dL_law_1150 rfl 0 rfl ?_
  refine qr_iload C dL_law_1151 4 rfl ?_
  refine qr_iconst (v := 1) C dL_law_1153 (by decide) ?_
  refine qr_iadd C dL_law_1154 ?_
  refine qr_sld C hX (j := i + 1) (by rw [show (1 : Int32) = nI 1 from rfl, nI_add]) (by omega) (by omega) dL_law_1155 ?_
  refine qr_aload_n C dL_law_1156 rfl 0 rfl ?_
  refine qr_iload C dL_law_1157 4 rfl ?_
  refine qr_iconst (v := 2) C dL_law_1159 (by decide) ?_
  refine qr_iadd C dL_law_1160 ?_
  refine qr_sld C hX (j := i + 2) (by rw [show (2 : Int32) = nI 2 from rfl, nI_add]) (by omega) (by omega) dL_law_1161 ?_
  refine qr_aload_n C dL_law_1162 rfl 3 rfl ?_
  refine qr_callSH C (na := 4) (As := [(.ref (ad 0)), (.int (xs (i + 1))), (.int (xs (i + 2))), (.ref (ad 150))]) (rest := []) (k_L_read hst D ad g (xs (i + 1)) (xs (i + 2)) F hO (qx_x hXP) _ _ (ql_pk ((sm_cread σ (xs (i + 1)) (xs (i + 2))))) (k_X6_read hst D ad g χ nS nE hXP (xs (i + 1)) (xs (i + 2))) qx_op.cp hag.1) gi_L_128 ⟨by decide, by decide, by decide +kernel⟩ rfl rfl (Nat.le_of_ble_eq_true rfl) rfl rfl ⟨(Nat.le_of_ble_eq_true rfl), (Nat.le_of_ble_eq_true rfl)⟩ ⟨(show k + 3 ≤ 601024 by omega), (show n + 18 ≤ 7293034 by omega)⟩ dL_law_1163 (fun v ad2 gz hpo => ?_)
  rcases hpo with ⟨V, gy, hcp, rfl, hg⟩ | ⟨k0, hk0, rfl, rfl, rfl⟩
  · skip
    obtain ⟨hc0, hv, had, hXn, hfr⟩ := qx_op.n hcp
    replace hv := sg_vj hv
    obtain ⟨hm0, hov, hRL⟩ := hag.2.1 hc0
    have hgz : ∀ t, t ≠ 150 → gz t = gy t := fun t ht => by rw [← hg]; exact va_up_ne _ _ ht
    have hO2 : gz 150 = some (.inl (D.1 22, 1, .inr (.inl (vp_updL F 0 (qx_oi V))))) := by rw [← hg]; exact va_up_self _ _ _
    have hX2 := qx_keep hXn (g' := gz) (fun t ht => hgz t (by omega))
    have hM2 := qm_keep hMP (g' := gz) (ad' := ad2) (fun t ht => (hgz t (by omega)).trans (hfr t (by omega))) (fun t ht => had t (by omega))
    refine qw_to (lv' := [(0, (.ref b)), (1, (.ref (ad2 0))), (2, (.ref (ad2 100))), (3, (.ref (ad2 150))), (4, (.int (nI i)))]) (st' := [(.int (0 : Int32))]) rfl rfl (by rw [had 0 (by omega), had 100 (by omega), had 150 (by omega)]) rfl ?_
    refine qr_istore (lv' := [(5, (.int (0 : Int32))), (0, (.ref b)), (1, (.ref (ad2 0))), (2, (.ref (ad2 100))), (3, (.ref (ad2 150))), (4, (.int (nI i)))]) C dL_law_1166 (by decide) rfl ?_
    refine qr_aload_n C dL_law_1168 rfl 3 rfl ?_
    refine qr_aload_n C dL_law_1169 rfl 1 rfl ?_
    refine qr_iload C dL_law_1170 5 rfl ?_
    refine qr_iconst (v := 1) C dL_law_1172 (by decide) ?_
    refine qr_iadd C dL_law_1173 ?_
    refine qr_sld C hX (j := i + 1) (by rw [show (1 : Int32) = nI 1 from rfl, nI_add]) (by omega) (by omega) dL_law_1174 ?_
    refine qr_aload_n C dL_law_1175 rfl 1 rfl ?_
    refine qr_iload C dL_law_1176 5 rfl ?_
    refine qr_iconst (v := 2) C dL_law_1178 (by decide) ?_
    refine qr_iadd C dL_law_1179 ?_
    refine qr_sld C hX (j := i + 2) (by rw [show (2 : Int32) = nI 2 from rfl, nI_add]) (by omega) (by omega) dL_law_1180 ?_
    refine qr_callV C (na := 2) (As := [(.int (xs (i + 1))), (.int (xs (i + 2)))]) (rest := []) (k_X7_read hst D ad2 gz σ r hM2 nS hw.1 hb.1 (xs (i + 1)) (xs (i + 2))) (100) (hM2.1) rfl rfl gi_L_130 rfl ⟨by decide, by decide, by decide +kernel⟩ rfl rfl (Nat.le_of_ble_eq_true rfl) rfl rfl ⟨Nat.le_of_ble_eq_true rfl, Nat.le_of_ble_eq_true rfl⟩ ⟨(show (k + 3) + 0 ≤ 601024 by omega), (show (n + 18) + 0 ≤ 7293034 by omega)⟩ dL_law_1181 (fun v ad2 gm hmp => ?_)
    obtain ⟨rfl, hfm, ⟨hmc, rfl, hP⟩ | ⟨hmc, rfl, hP⟩⟩ := hmp
    · skip
      exact absurd hm0 hmc
    · skip
      refine qr_istore (lv' := [(6, (.int ((sm_read σ (xs (i + 1)) nS)))), (5, (.int (0 : Int32))), (0, (.ref b)), (1, (.ref (ad2 0))), (2, (.ref (ad2 100))), (3, (.ref (ad2 150))), (4, (.int (nI i)))]) C dL_law_1184 (by decide) rfl ?_
      refine qr_aload_n C dL_law_1186 rfl 4 rfl ?_
      refine qr_callV C (na := 0) (As := []) (rest := []) (k_X7_thrown hst D ad2 gm (σ) ((sm_cread σ (xs (i + 1)) (xs (i + 2)))) hP) (100) (hP.1) rfl rfl gi_L_84 rfl ⟨by decide, by decide, by decide +kernel⟩ rfl rfl (Nat.le_of_ble_eq_true rfl) rfl rfl ⟨Nat.le_of_ble_eq_true rfl, Nat.le_of_ble_eq_true rfl⟩ ⟨(show ((k + 3) + 0) + 0 ≤ 601024 by omega), (show ((n + 18) + 0) + 0 ≤ 7293034 by omega)⟩ dL_law_1187 (fun v ad2 gt hpt => ?_)
      obtain ⟨rfl, rfl, rfl⟩ := hpt
      refine qr_iload C dL_law_1190 1 rfl ?_
      refine qr_icmp_eq_t C 1197 dL_law_1192 (by decide) hm0 ?_
      refine qr_iload C dL_law_1197 1 rfl ?_
      refine qr_if_ne_f C 1214 dL_law_1199 (by decide) rfl ?_
      refine qr_aload_n C dL_law_1202 rfl 5 rfl ?_
      refine qr_iconst (v := 0) C dL_law_1203 (by decide) ?_
      refine qr_lald C (x := (qx_oi V)) (150) (((hfm 150 (by omega)).trans hO2)) rfl (j := 0) rfl (by omega) rfl rfl dL_law_1204 ?_
      refine qr_iload C dL_law_1205 0 rfl ?_
      refine qr_i2l C dL_law_1207 ?_
      refine qr_lcmp C dL_law_1208 ?_
      refine qr_if_eq_t C 1214 dL_law_1209 (by decide) (lg_cmp_same (by rw [← hv]; exact hov)) ?_
      refine qr_goto (tgt := 1481) C dL_law_1214 (by decide) ?_
      refine qw_pick [2, 3, 4, 5, 6] (lv' := [(0, (.ref b)), (1, (.ref (ad2 0))), (2, (.ref (ad2 100))), (3, (.ref (ad2 150))), (4, (.int (nI i)))]) rfl ?_
      exact qw_widen (by omega) (by omega) (kk ad2 gm _ _ _ _ _ _ (qx_keep hX2 (fun t ht => hfm t (by omega))) hP (((hfm 150 (by omega)).trans hO2)) hRL)
  · skip
    refine qr_istore (lv' := [(5, (.int k0)), (0, (.ref b)), (1, (.ref (ad 0))), (2, (.ref (ad 100))), (3, (.ref (ad 150))), (4, (.int (nI i)))]) C dL_law_1166 (by decide) rfl ?_
    refine qr_aload_n C dL_law_1168 rfl 3 rfl ?_
    refine qr_aload_n C dL_law_1169 rfl 1 rfl ?_
    refine qr_iload C dL_law_1170 5 rfl ?_
    refine qr_iconst (v := 1) C dL_law_1172 (by decide) ?_
    refine qr_iadd C dL_law_1173 ?_
    refine qr_sld C hX (j := i + 1) (by rw [show (1 : Int32) = nI 1 from rfl, nI_add]) (by omega) (by omega) dL_law_1174 ?_
    refine qr_aload_n C dL_law_1175 rfl 1 rfl ?_
    refine qr_iload C dL_law_1176 5 rfl ?_
    refine qr_iconst (v := 2) C dL_law_1178 (by decide) ?_
    refine qr_iadd C dL_law_1179 ?_
    refine qr_sld C hX (j := i + 2) (by rw [show (2 : Int32) = nI 2 from rfl, nI_add]) (by omega) (by omega) dL_law_1180 ?_
    refine qr_callV C (na := 2) (As := [(.int (xs (i + 1))), (.int (xs (i + 2)))]) (rest := []) (k_X7_read hst D ad g σ r hMP nS hw.1 hb.1 (xs (i + 1)) (xs (i + 2))) (100) (hMP.1) rfl rfl gi_L_130 rfl ⟨by decide, by decide, by decide +kernel⟩ rfl rfl (Nat.le_of_ble_eq_true rfl) rfl rfl ⟨Nat.le_of_ble_eq_true rfl, Nat.le_of_ble_eq_true rfl⟩ ⟨(show (k + 3) + 0 ≤ 601024 by omega), (show (n + 18) + 0 ≤ 7293034 by omega)⟩ dL_law_1181 (fun v ad2 gm hmp => ?_)
    obtain ⟨rfl, hfm, ⟨hmc, rfl, hP⟩ | ⟨hmc, rfl, hP⟩⟩ := hmp
    · skip
      refine qr_istore (lv' := [(6, (.int (0 : Int32))), (5, (.int k0)), (0, (.ref b)), (1, (.ref (ad 0))), (2, (.ref (ad 100))), (3, (.ref (ad 150))), (4, (.int (nI i)))]) C dL_law_1184 (by decide) rfl ?_
      refine qr_aload_n C dL_law_1186 rfl 4 rfl ?_
      refine qr_callV C (na := 0) (As := []) (rest := []) (k_X7_thrown hst D ad gm σ ((sm_cread σ (xs (i + 1)) (xs (i + 2)))) hP) (100) (hP.1) rfl rfl gi_L_84 rfl ⟨by decide, by decide, by decide +kernel⟩ rfl rfl (Nat.le_of_ble_eq_true rfl) rfl rfl ⟨Nat.le_of_ble_eq_true rfl, Nat.le_of_ble_eq_true rfl⟩ ⟨(show ((k + 3) + 0) + 0 ≤ 601024 by omega), (show ((n + 18) + 0) + 0 ≤ 7293034 by omega)⟩ dL_law_1187 (fun v ad2 gt hpt => ?_)
      obtain ⟨rfl, rfl, rfl⟩ := hpt
      refine qr_iload C dL_law_1190 1 rfl ?_
      refine qr_icmp_eq_t C 1197 dL_law_1192 (by decide) hk0.2 ?_
      refine qr_iload C dL_law_1197 1 rfl ?_
      refine qr_if_ne_t C 1214 dL_law_1199 (by decide) hk0.1 ?_
      refine qr_goto (tgt := 1481) C dL_law_1214 (by decide) ?_
      refine qw_pick [2, 3, 4, 5, 6] (lv' := [(0, (.ref b)), (1, (.ref (ad 0))), (2, (.ref (ad 100))), (3, (.ref (ad 150))), (4, (.int (nI i)))]) rfl ?_
      exact qw_widen (by omega) (by omega) (kk ad gm _ _ _ _ _ _ (qx_keep hXP (fun t ht => hfm t (by omega))) hP (((hfm 150 (by omega)).trans hO)) hag.2.2)
    · skip
      exact absurd (hk0.2.symm.trans hmc) hk0.1
set_option maxHeartbeats 4000000 in
set_option maxRecDepth 100000 in
theorem q_case_15 {p : Program} {l : Launch} {e : Env} {s : State} {m : MethodId} {args : Array Value} {below : List Frame} {meth : Method} {c : Code} {D : va_G} {A : Nat → Prop} {Q : State → Prop} {k n : Nat} {ad : Nat → Nat} {g : qw_G} (C : qw_C p l s m args meth c D A 7 cL_law RL (some .boolean)) (hst : l.stackTraces = false) (RLr : (Nat → Nat → Int32) → Nat → Nat → (Nat → Nat → Int32) → Prop) {b L : Nat} {xs : Nat → Int32} (hX : ql_S b L xs A s) (hL : L ≤ 3072) {i : Nat} (hi : i + 6 ≤ L) (hk : k + 5 ≤ 601024) (hn : n + 30 ≤ 7293034) {χ σ : Nat → Nat → Int32} {nS nE : Nat} {r : Int32} {F : Nat → Int64} (hXP : qx_P D χ nS nE ad g) (hMP : qm_P D σ r ad g) (hO : g 150 = some (.inl (D.1 22, 1, .inr (.inl F)))) (hw : ql_wf χ nS nE σ) (hag : ((∀ E, qx_px ((cx_mark (xs (i + 1)) (xs (i + 2)))) E → (E = qw_E1 ∧ ql_pk ((sm_cE (xs (i + 1)) (xs (i + 2)))) 1)) ∧ (((cx_mark (xs (i + 1)) (xs (i + 2)))) = 0 → ((sm_cE (xs (i + 1)) (xs (i + 2)))) = 0 ∧ qx_ob ((sg_has (cx_mk χ (xs (i + 1)) (xs (i + 2))) ((xs (i + 1)) * 6 + (xs (i + 2))))) = qx_ob ((sm_b1 (sm_bit (sm_mk σ (xs (i + 1)) (xs (i + 2))) (6 * (xs (i + 1)) + (xs (i + 2)))))) ∧ RLr ((sg_u χ 4 (cx_mk χ (xs (i + 1)) (xs (i + 2))))) nS nE ((sg_u σ 19 (sm_mk σ (xs (i + 1)) (xs (i + 2)))))) ∧ RLr χ nS nE σ)) (kk : ∀ (ad' : Nat → Nat) (g' : qw_G) (χ' : Nat → Nat → Int32) (nS' nE' : Nat) (σ' : Nat → Nat → Int32) (r' : Int32) (F' : Nat → Int64), qx_P D χ' nS' nE' ad' g' → qm_P D σ' r' ad' g' → g' 150 = some (.inl (D.1 22, 1, .inr (.inl F'))) → RLr χ' nS' nE' σ' → qw_W p l e { frames := 12, cells := 601024, slots := 7293034, locals := 448 } s m args below meth c D A 7 Q (k + 5) (n + 30) ad' g' 1481 [(0, .ref b), (1, .ref (ad' 0)), (2, .ref (ad' 100)), (3, .ref (ad' 150)), (4, .int (nI i))] []) : qw_W p l e { frames := 12, cells := 601024, slots := 7293034, locals := 448 } s m args below meth c D A 7 Q k n ad g 1230 [(0, .ref b), (1, .ref (ad 0)), (2, .ref (ad 100)), (3, .ref (ad 150)), (4, .int (nI i))] [] := by
  have hb := (qx_ct hXP).2.2
  refine qr_aload_n C dL_law_1230 rfl 1 rfl ?_
  refine qr_aload_n C dL_law_1231 rfl 0 rfl ?_
  refine qr_iload C dL_law_1232 4 rfl ?_
  refine qr_iconst (v := 1) C dL_law_1234 (by decide) ?_
  refine qr_iadd C dL_law_1235 ?_
  refine qr_sld C hX (j := i + 1) (by rw [show (1 : Int32) = nI 1 from rfl, nI_add]) (by omega) (by omega) dL_law_1236 ?_
  refine qr_aload_n C dL_law_1237 rfl 0 rfl ?_
  refine qr_iload C dL_law_1238 4 rfl ?_
  refine qr_iconst (v := 2) C dL_law_1240 (by decide) ?_
  refine qr_iadd C dL_law_1241 ?_
  refine qr_sld C hX (j := i + 2) (by rw [show (2 : Int32) = nI 2 from rfl, nI_add]) (by omega) (by omega) dL_law_1242 ?_
  refine qr_aload_n C dL_law_1243 rfl 3 rfl ?_
  refine qr_callSH C (na := 4) (As := [(.ref (ad 0)), (.int (xs (i + 1))), (.int (xs (i + 2))), (.ref (ad 150))]) (rest := []) (k_L_mark hst D ad g (xs (i + 1)) (xs (i + 2)) F hO (qx_x hXP) _ _ (ql_pk ((sm_cE (xs (i + 1)) (xs (i + 2))))) (k_X6_mark hst D ad g χ nS nE hXP (xs (i + 1)) (xs (i + 2))) qx_op.cp hag.1) gi_L_135 ⟨by decide, by decide, by decide +kernel⟩ rfl rfl (Nat.le_of_ble_eq_true rfl) rfl rfl ⟨(Nat.le_of_ble_eq_true rfl), (Nat.le_of_ble_eq_true rfl)⟩ ⟨(show k + 2 ≤ 601024 by omega), (show n + 12 ≤ 7293034 by omega)⟩ dL_law_1244 (fun v ad2 gz hpo => ?_)
  rcases hpo with ⟨V, gy, hcp, rfl, hg⟩ | ⟨k0, hk0, rfl, rfl, rfl⟩
  · skip
    obtain ⟨hc0, hv, had, hXn, hfr⟩ := qx_op.n hcp
    replace hv := sg_vj hv
    obtain ⟨hm0, hov, hRL⟩ := hag.2.1 hc0
    have hgz : ∀ t, t ≠ 150 → gz t = gy t := fun t ht => by rw [← hg]; exact va_up_ne _ _ ht
    have hO2 : gz 150 = some (.inl (D.1 22, 1, .inr (.inl (vp_updL F 0 (qx_ob V))))) := by rw [← hg]; exact va_up_self _ _ _
    have hX2 := qx_keep hXn (g' := gz) (fun t ht => hgz t (by omega))
    have hM2 := qm_keep hMP (g' := gz) (ad' := ad2) (fun t ht => (hgz t (by omega)).trans (hfr t (by omega))) (fun t ht => had t (by omega))
    refine qw_to (lv' := [(0, (.ref b)), (1, (.ref (ad2 0))), (2, (.ref (ad2 100))), (3, (.ref (ad2 150))), (4, (.int (nI i)))]) (st' := [(.int (0 : Int32))]) rfl rfl (by rw [had 0 (by omega), had 100 (by omega), had 150 (by omega)]) rfl ?_
    refine qr_istore (lv' := [(5, (.int (0 : Int32))), (0, (.ref b)), (1, (.ref (ad2 0))), (2, (.ref (ad2 100))), (3, (.ref (ad2 150))), (4, (.int (nI i)))]) C dL_law_1247 (by decide) rfl ?_
    refine qr_aload_n C dL_law_1249 rfl 3 rfl ?_
    refine qr_aload_n C dL_law_1250 rfl 1 rfl ?_
    refine qr_iload C dL_law_1251 5 rfl ?_
    refine qr_iconst (v := 1) C dL_law_1253 (by decide) ?_
    refine qr_iadd C dL_law_1254 ?_
    refine qr_sld C hX (j := i + 1) (by rw [show (1 : Int32) = nI 1 from rfl, nI_add]) (by omega) (by omega) dL_law_1255 ?_
    refine qr_aload_n C dL_law_1256 rfl 1 rfl ?_
    refine qr_iload C dL_law_1257 5 rfl ?_
    refine qr_iconst (v := 2) C dL_law_1259 (by decide) ?_
    refine qr_iadd C dL_law_1260 ?_
    refine qr_sld C hX (j := i + 2) (by rw [show (2 : Int32) = nI 2 from rfl, nI_add]) (by omega) (by omega) dL_law_1261 ?_
    refine qr_callV C (na := 2) (As := [(.int (xs (i + 1))), (.int (xs (i + 2)))]) (rest := []) (k_X7_mark hst D ad2 gz σ r hM2 (xs (i + 1)) (xs (i + 2))) (100) (hM2.1) rfl rfl gi_L_137 rfl ⟨by decide, by decide, by decide +kernel⟩ rfl rfl (Nat.le_of_ble_eq_true rfl) rfl rfl ⟨Nat.le_of_ble_eq_true rfl, Nat.le_of_ble_eq_true rfl⟩ ⟨(show (k + 2) + 0 ≤ 601024 by omega), (show (n + 12) + 0 ≤ 7293034 by omega)⟩ dL_law_1262 (fun v ad2 gm hmp => ?_)
    obtain ⟨rfl, hfm, ⟨hmc, rfl, hP⟩ | ⟨hmc, rfl, hP⟩⟩ := hmp
    · skip
      exact absurd hm0 hmc
    · skip
      refine qr_istore (lv' := [(6, (.int ((sm_b1 (sm_bit (sm_mk σ (xs (i + 1)) (xs (i + 2))) (6 * (xs (i + 1)) + (xs (i + 2)))))))), (5, (.int (0 : Int32))), (0, (.ref b)), (1, (.ref (ad2 0))), (2, (.ref (ad2 100))), (3, (.ref (ad2 150))), (4, (.int (nI i)))]) C dL_law_1265 (by decide) rfl ?_
      refine qr_aload_n C dL_law_1267 rfl 4 rfl ?_
      refine qr_callV C (na := 0) (As := []) (rest := []) (k_X7_thrown hst D ad2 gm ((sg_u σ 19 (sm_mk σ (xs (i + 1)) (xs (i + 2))))) ((sm_cE (xs (i + 1)) (xs (i + 2)))) hP) (100) (hP.1) rfl rfl gi_L_84 rfl ⟨by decide, by decide, by decide +kernel⟩ rfl rfl (Nat.le_of_ble_eq_true rfl) rfl rfl ⟨Nat.le_of_ble_eq_true rfl, Nat.le_of_ble_eq_true rfl⟩ ⟨(show ((k + 2) + 0) + 0 ≤ 601024 by omega), (show ((n + 12) + 0) + 0 ≤ 7293034 by omega)⟩ dL_law_1268 (fun v ad2 gt hpt => ?_)
      obtain ⟨rfl, rfl, rfl⟩ := hpt
      refine qr_iload C dL_law_1271 1 rfl ?_
      refine qr_icmp_eq_t C 1278 dL_law_1273 (by decide) hm0 ?_
      refine qr_iload C dL_law_1278 1 rfl ?_
      refine qr_if_ne_f C 1302 dL_law_1280 (by decide) rfl ?_
      refine qr_aload_n C dL_law_1283 rfl 5 rfl ?_
      refine qr_iconst (v := 0) C dL_law_1284 (by decide) ?_
      refine qr_lald C (x := (qx_ob V)) (150) (((hfm 150 (by omega)).trans hO2)) rfl (j := 0) rfl (by omega) rfl rfl dL_law_1285 ?_
      refine qr_iload C dL_law_1286 0 rfl ?_
      refine qr_if_eq C 1295 dL_law_1288 (by decide) (fun cz => ?_) (fun cz => ?_)
      · skip
        refine qr_lconst (v := 0) C dL_law_1295 rfl ?_
        refine qr_lcmp C dL_law_1296 ?_
        refine qr_if_eq_t C 1302 dL_law_1297 (by decide) (lg_cmp_same2 (by rw [← hv]; exact hov) (if_pos cz)) ?_
        refine qr_goto (tgt := 1481) C dL_law_1302 (by decide) ?_
        refine qw_pick [2, 3, 4, 5, 6] (lv' := [(0, (.ref b)), (1, (.ref (ad2 0))), (2, (.ref (ad2 100))), (3, (.ref (ad2 150))), (4, (.int (nI i)))]) rfl ?_
        exact qw_widen (by omega) (by omega) (kk ad2 gm _ _ _ _ _ _ (qx_keep hX2 (fun t ht => hfm t (by omega))) hP (((hfm 150 (by omega)).trans hO2)) hRL)
      · skip
        refine qr_lconst (v := 1) C dL_law_1291 rfl ?_
        refine qr_goto (tgt := 1296) C dL_law_1292 (by decide) ?_
        refine qr_lcmp C dL_law_1296 ?_
        refine qr_if_eq_t C 1302 dL_law_1297 (by decide) (lg_cmp_same2 (by rw [← hv]; exact hov) (if_neg cz)) ?_
        refine qr_goto (tgt := 1481) C dL_law_1302 (by decide) ?_
        refine qw_pick [2, 3, 4, 5, 6] (lv' := [(0, (.ref b)), (1, (.ref (ad2 0))), (2, (.ref (ad2 100))), (3, (.ref (ad2 150))), (4, (.int (nI i)))]) rfl ?_
        exact qw_widen (by omega) (by omega) (kk ad2 gm _ _ _ _ _ _ (qx_keep hX2 (fun t ht => hfm t (by omega))) hP (((hfm 150 (by omega)).trans hO2)) hRL)
  · skip
    refine qr_istore (lv' := [(5, (.int k0)), (0, (.ref b)), (1, (.ref (ad 0))), (2, (.ref (ad 100))), (3, (.ref (ad 150))), (4, (.int (nI i)))]) C dL_law_1247 (by decide) rfl ?_
    refine qr_aload_n C dL_law_1249 rfl 3 rfl ?_
    refine qr_aload_n C dL_law_1250 rfl 1 rfl ?_
    refine qr_iload C dL_law_1251 5 rfl ?_
    refine qr_iconst (v := 1) C dL_law_1253 (by decide) ?_
    refine qr_iadd C dL_law_1254 ?_
    refine qr_sld C hX (j := i + 1) (by rw [show (1 : Int32) = nI 1 from rfl, nI_add]) (by omega) (by omega) dL_law_1255 ?_
    refine qr_aload_n C dL_law_1256 rfl 1 rfl ?_
    refine qr_iload C dL_law_1257 5 rfl ?_
    refine qr_iconst (v := 2) C dL_law_1259 (by decide) ?_
    refine qr_iadd C dL_law_1260 ?_
    refine qr_sld C hX (j := i + 2) (by rw [show (2 : Int32) = nI 2 from rfl, nI_add]) (by omega) (by omega) dL_law_1261 ?_
    refine qr_callV C (na := 2) (As := [(.int (xs (i + 1))), (.int (xs (i + 2)))]) (rest := []) (k_X7_mark hst D ad g σ r hMP (xs (i + 1)) (xs (i + 2))) (100) (hMP.1) rfl rfl gi_L_137 rfl ⟨by decide, by decide, by decide +kernel⟩ rfl rfl (Nat.le_of_ble_eq_true rfl) rfl rfl ⟨Nat.le_of_ble_eq_true rfl, Nat.le_of_ble_eq_true rfl⟩ ⟨(show (k + 2) + 0 ≤ 601024 by omega), (show (n + 12) + 0 ≤ 7293034 by omega)⟩ dL_law_1262 (fun v ad2 gm hmp => ?_)
    obtain ⟨rfl, hfm, ⟨hmc, rfl, hP⟩ | ⟨hmc, rfl, hP⟩⟩ := hmp
    · skip
      refine qr_istore (lv' := [(6, (.int (0 : Int32))), (5, (.int k0)), (0, (.ref b)), (1, (.ref (ad 0))), (2, (.ref (ad 100))), (3, (.ref (ad 150))), (4, (.int (nI i)))]) C dL_law_1265 (by decide) rfl ?_
      refine qr_aload_n C dL_law_1267 rfl 4 rfl ?_
      refine qr_callV C (na := 0) (As := []) (rest := []) (k_X7_thrown hst D ad gm σ ((sm_cE (xs (i + 1)) (xs (i + 2)))) hP) (100) (hP.1) rfl rfl gi_L_84 rfl ⟨by decide, by decide, by decide +kernel⟩ rfl rfl (Nat.le_of_ble_eq_true rfl) rfl rfl ⟨Nat.le_of_ble_eq_true rfl, Nat.le_of_ble_eq_true rfl⟩ ⟨(show ((k + 2) + 0) + 0 ≤ 601024 by omega), (show ((n + 12) + 0) + 0 ≤ 7293034 by omega)⟩ dL_law_1268 (fun v ad2 gt hpt => ?_)
      obtain ⟨rfl, rfl, rfl⟩ := hpt
      refine qr_iload C dL_law_1271 1 rfl ?_
      refine qr_icmp_eq_t C 1278 dL_law_1273 (by decide) hk0.2 ?_
      refine qr_iload C dL_law_1278 1 rfl ?_
      refine qr_if_ne_t C 1302 dL_law_1280 (by decide) hk0.1 ?_
      refine qr_goto (tgt := 1481) C dL_law_1302 (by decide) ?_
      refine qw_pick [2, 3, 4, 5, 6] (lv' := [(0, (.ref b)), (1, (.ref (ad 0))), (2, (.ref (ad 100))), (3, (.ref (ad 150))), (4, (.int (nI i)))]) rfl ?_
      exact qw_widen (by omega) (by omega) (kk ad gm _ _ _ _ _ _ (qx_keep hXP (fun t ht => hfm t (by omega))) hP (((hfm 150 (by omega)).trans hO)) hag.2.2)
    · skip
      exact absurd (hk0.2.symm.trans hmc) hk0.1
set_option maxHeartbeats 4000000 in
set_option maxRecDepth 100000 in
theorem q_case_17 {p : Program} {l : Launch} {e : Env} {s : State} {m : MethodId} {args : Array Value} {below : List Frame} {meth : Method} {c : Code} {D : va_G} {A : Nat → Prop} {Q : State → Prop} {k n : Nat} {ad : Nat → Nat} {g : qw_G} (C : qw_C p l s m args meth c D A 7 cL_law RL (some .boolean)) (hst : l.stackTraces = false) (RLr : (Nat → Nat → Int32) → Nat → Nat → (Nat → Nat → Int32) → Prop) {b L : Nat} {xs : Nat → Int32} (hX : ql_S b L xs A s) (hL : L ≤ 3072) {i : Nat} (hi : i + 6 ≤ L) (hk : k + 5 ≤ 601024) (hn : n + 30 ≤ 7293034) {χ σ : Nat → Nat → Int32} {nS nE : Nat} {r : Int32} {F : Nat → Int64} (hXP : qx_P D χ nS nE ad g) (hMP : qm_P D σ r ad g) (hO : g 150 = some (.inl (D.1 22, 1, .inr (.inl F)))) (hw : ql_wf χ nS nE σ) (hag : ((∀ E, qx_px ((cx_mark (xs (i + 1)) (xs (i + 2)))) E → (E = qw_E1 ∧ ql_pk ((sm_cE (xs (i + 1)) (xs (i + 2)))) 1)) ∧ (((cx_mark (xs (i + 1)) (xs (i + 2)))) = 0 → ((sm_cE (xs (i + 1)) (xs (i + 2)))) = 0 ∧ qx_ob ((cx_known χ (xs (i + 1)) (xs (i + 2)))) = qx_ob ((sm_known σ (xs (i + 1)) (xs (i + 2)))) ∧ RLr (χ) nS nE (σ)) ∧ RLr χ nS nE σ)) (kk : ∀ (ad' : Nat → Nat) (g' : qw_G) (χ' : Nat → Nat → Int32) (nS' nE' : Nat) (σ' : Nat → Nat → Int32) (r' : Int32) (F' : Nat → Int64), qx_P D χ' nS' nE' ad' g' → qm_P D σ' r' ad' g' → g' 150 = some (.inl (D.1 22, 1, .inr (.inl F'))) → RLr χ' nS' nE' σ' → qw_W p l e { frames := 12, cells := 601024, slots := 7293034, locals := 448 } s m args below meth c D A 7 Q (k + 5) (n + 30) ad' g' 1481 [(0, .ref b), (1, .ref (ad' 0)), (2, .ref (ad' 100)), (3, .ref (ad' 150)), (4, .int (nI i))] []) : qw_W p l e { frames := 12, cells := 601024, slots := 7293034, locals := 448 } s m args below meth c D A 7 Q k n ad g 1318 [(0, .ref b), (1, .ref (ad 0)), (2, .ref (ad 100)), (3, .ref (ad 150)), (4, .int (nI i))] [] := by
  have hb := (qx_ct hXP).2.2
  refine qr_aload_n C dL_law_1318 rfl 1 rfl ?_
  refine qr_aload_n C dL_law_1319 rfl 0 rfl ?_
  refine qr_iload C dL_law_1320 4 rfl ?_
  refine qr_iconst (v := 1) C dL_law_1322 (by decide) ?_
  refine qr_iadd C dL_law_1323 ?_
  refine qr_sld C hX (j := i + 1) (by rw [show (1 : Int32) = nI 1 from rfl, nI_add]) (by omega) (by omega) dL_law_1324 ?_
  refine qr_aload_n C dL_law_1325 rfl 0 rfl ?_
  refine qr_iload C dL_law_1326 4 rfl ?_
  refine qr_iconst (v := 2) C dL_law_1328 (by decide) ?_
  refine qr_iadd C dL_law_1329 ?_
  refine qr_sld C hX (j := i + 2) (by rw [show (2 : Int32) = nI 2 from rfl, nI_add]) (by omega) (by omega) dL_law_1330 ?_
  refine qr_aload_n C dL_law_1331 rfl 3 rfl ?_
  refine qr_callSH C (na := 4) (As := [(.ref (ad 0)), (.int (xs (i + 1))), (.int (xs (i + 2))), (.ref (ad 150))]) (rest := []) (k_L_isKnown hst D ad g (xs (i + 1)) (xs (i + 2)) F hO (qx_x hXP) _ _ (ql_pk ((sm_cE (xs (i + 1)) (xs (i + 2))))) (k_X6_isKnown hst D ad g χ nS nE hXP (xs (i + 1)) (xs (i + 2))) qx_op.cp hag.1) gi_L_142 ⟨by decide, by decide, by decide +kernel⟩ rfl rfl (Nat.le_of_ble_eq_true rfl) rfl rfl ⟨(Nat.le_of_ble_eq_true rfl), (Nat.le_of_ble_eq_true rfl)⟩ ⟨(show k + 2 ≤ 601024 by omega), (show n + 12 ≤ 7293034 by omega)⟩ dL_law_1332 (fun v ad2 gz hpo => ?_)
  rcases hpo with ⟨V, gy, hcp, rfl, hg⟩ | ⟨k0, hk0, rfl, rfl, rfl⟩
  · skip
    obtain ⟨hc0, hv, had, hXn, hfr⟩ := qx_op.n hcp
    replace hv := sg_vj hv
    obtain ⟨hm0, hov, hRL⟩ := hag.2.1 hc0
    have hgz : ∀ t, t ≠ 150 → gz t = gy t := fun t ht => by rw [← hg]; exact va_up_ne _ _ ht
    have hO2 : gz 150 = some (.inl (D.1 22, 1, .inr (.inl (vp_updL F 0 (qx_ob V))))) := by rw [← hg]; exact va_up_self _ _ _
    have hX2 := qx_keep hXn (g' := gz) (fun t ht => hgz t (by omega))
    have hM2 := qm_keep hMP (g' := gz) (ad' := ad2) (fun t ht => (hgz t (by omega)).trans (hfr t (by omega))) (fun t ht => had t (by omega))
    refine qw_to (lv' := [(0, (.ref b)), (1, (.ref (ad2 0))), (2, (.ref (ad2 100))), (3, (.ref (ad2 150))), (4, (.int (nI i)))]) (st' := [(.int (0 : Int32))]) rfl rfl (by rw [had 0 (by omega), had 100 (by omega), had 150 (by omega)]) rfl ?_
    refine qr_istore (lv' := [(5, (.int (0 : Int32))), (0, (.ref b)), (1, (.ref (ad2 0))), (2, (.ref (ad2 100))), (3, (.ref (ad2 150))), (4, (.int (nI i)))]) C dL_law_1335 (by decide) rfl ?_
    refine qr_aload_n C dL_law_1337 rfl 3 rfl ?_
    refine qr_aload_n C dL_law_1338 rfl 1 rfl ?_
    refine qr_iload C dL_law_1339 5 rfl ?_
    refine qr_iconst (v := 1) C dL_law_1341 (by decide) ?_
    refine qr_iadd C dL_law_1342 ?_
    refine qr_sld C hX (j := i + 1) (by rw [show (1 : Int32) = nI 1 from rfl, nI_add]) (by omega) (by omega) dL_law_1343 ?_
    refine qr_aload_n C dL_law_1344 rfl 1 rfl ?_
    refine qr_iload C dL_law_1345 5 rfl ?_
    refine qr_iconst (v := 2) C dL_law_1347 (by decide) ?_
    refine qr_iadd C dL_law_1348 ?_
    refine qr_sld C hX (j := i + 2) (by rw [show (2 : Int32) = nI 2 from rfl, nI_add]) (by omega) (by omega) dL_law_1349 ?_
    refine qr_callV C (na := 2) (As := [(.int (xs (i + 1))), (.int (xs (i + 2)))]) (rest := []) (k_X7_isKnown hst D ad2 gz σ r hM2 (xs (i + 1)) (xs (i + 2))) (100) (hM2.1) rfl rfl gi_L_144 rfl ⟨by decide, by decide, by decide +kernel⟩ rfl rfl (Nat.le_of_ble_eq_true rfl) rfl rfl ⟨Nat.le_of_ble_eq_true rfl, Nat.le_of_ble_eq_true rfl⟩ ⟨(show (k + 2) + 0 ≤ 601024 by omega), (show (n + 12) + 0 ≤ 7293034 by omega)⟩ dL_law_1350 (fun v ad2 gm hmp => ?_)
    obtain ⟨rfl, hfm, ⟨hmc, rfl, hP⟩ | ⟨hmc, rfl, hP⟩⟩ := hmp
    · skip
      exact absurd hm0 hmc
    · skip
      refine qr_istore (lv' := [(6, (.int ((sm_known σ (xs (i + 1)) (xs (i + 2)))))), (5, (.int (0 : Int32))), (0, (.ref b)), (1, (.ref (ad2 0))), (2, (.ref (ad2 100))), (3, (.ref (ad2 150))), (4, (.int (nI i)))]) C dL_law_1353 (by decide) rfl ?_
      refine qr_aload_n C dL_law_1355 rfl 4 rfl ?_
      refine qr_callV C (na := 0) (As := []) (rest := []) (k_X7_thrown hst D ad2 gm (σ) ((sm_cE (xs (i + 1)) (xs (i + 2)))) hP) (100) (hP.1) rfl rfl gi_L_84 rfl ⟨by decide, by decide, by decide +kernel⟩ rfl rfl (Nat.le_of_ble_eq_true rfl) rfl rfl ⟨Nat.le_of_ble_eq_true rfl, Nat.le_of_ble_eq_true rfl⟩ ⟨(show ((k + 2) + 0) + 0 ≤ 601024 by omega), (show ((n + 12) + 0) + 0 ≤ 7293034 by omega)⟩ dL_law_1356 (fun v ad2 gt hpt => ?_)
      obtain ⟨rfl, rfl, rfl⟩ := hpt
      refine qr_iload C dL_law_1359 1 rfl ?_
      refine qr_icmp_eq_t C 1366 dL_law_1361 (by decide) hm0 ?_
      refine qr_iload C dL_law_1366 1 rfl ?_
      refine qr_if_ne_f C 1390 dL_law_1368 (by decide) rfl ?_
      refine qr_aload_n C dL_law_1371 rfl 5 rfl ?_
      refine qr_iconst (v := 0) C dL_law_1372 (by decide) ?_
      refine qr_lald C (x := (qx_ob V)) (150) (((hfm 150 (by omega)).trans hO2)) rfl (j := 0) rfl (by omega) rfl rfl dL_law_1373 ?_
      refine qr_iload C dL_law_1374 0 rfl ?_
      refine qr_if_eq C 1383 dL_law_1376 (by decide) (fun cz => ?_) (fun cz => ?_)
      · skip
        refine qr_lconst (v := 0) C dL_law_1383 rfl ?_
        refine qr_lcmp C dL_law_1384 ?_
        refine qr_if_eq_t C 1390 dL_law_1385 (by decide) (lg_cmp_same2 (by rw [← hv]; exact hov) (if_pos cz)) ?_
        refine qr_goto (tgt := 1481) C dL_law_1390 (by decide) ?_
        refine qw_pick [2, 3, 4, 5, 6] (lv' := [(0, (.ref b)), (1, (.ref (ad2 0))), (2, (.ref (ad2 100))), (3, (.ref (ad2 150))), (4, (.int (nI i)))]) rfl ?_
        exact qw_widen (by omega) (by omega) (kk ad2 gm _ _ _ _ _ _ (qx_keep hX2 (fun t ht => hfm t (by omega))) hP (((hfm 150 (by omega)).trans hO2)) hRL)
      · skip
        refine qr_lconst (v := 1) C dL_law_1379 rfl ?_
        refine qr_goto (tgt := 1384) C dL_law_1380 (by decide) ?_
        refine qr_lcmp C dL_law_1384 ?_
        refine qr_if_eq_t C 1390 dL_law_1385 (by decide) (lg_cmp_same2 (by rw [← hv]; exact hov) (if_neg cz)) ?_
        refine qr_goto (tgt := 1481) C dL_law_1390 (by decide) ?_
        refine qw_pick [2, 3, 4, 5, 6] (lv' := [(0, (.ref b)), (1, (.ref (ad2 0))), (2, (.ref (ad2 100))), (3, (.ref (ad2 150))), (4, (.int (nI i)))]) rfl ?_
        exact qw_widen (by omega) (by omega) (kk ad2 gm _ _ _ _ _ _ (qx_keep hX2 (fun t ht => hfm t (by omega))) hP (((hfm 150 (by omega)).trans hO2)) hRL)
  · skip
    refine qr_istore (lv' := [(5, (.int k0)), (0, (.ref b)), (1, (.ref (ad 0))), (2, (.ref (ad 100))), (3, (.ref (ad 150))), (4, (.int (nI i)))]) C dL_law_1335 (by decide) rfl ?_
    refine qr_aload_n C dL_law_1337 rfl 3 rfl ?_
    refine qr_aload_n C dL_law_1338 rfl 1 rfl ?_
    refine qr_iload C dL_law_1339 5 rfl ?_
    refine qr_iconst (v := 1) C dL_law_1341 (by decide) ?_
    refine qr_iadd C dL_law_1342 ?_
    refine qr_sld C hX (j := i + 1) (by rw [show (1 : Int32) = nI 1 from rfl, nI_add]) (by omega) (by omega) dL_law_1343 ?_
    refine qr_aload_n C dL_law_1344 rfl 1 rfl ?_
    refine qr_iload C dL_law_1345 5 rfl ?_
    refine qr_iconst (v := 2) C dL_law_1347 (by decide) ?_
    refine qr_iadd C dL_law_1348 ?_
    refine qr_sld C hX (j := i + 2) (by rw [show (2 : Int32) = nI 2 from rfl, nI_add]) (by omega) (by omega) dL_law_1349 ?_
    refine qr_callV C (na := 2) (As := [(.int (xs (i + 1))), (.int (xs (i + 2)))]) (rest := []) (k_X7_isKnown hst D ad g σ r hMP (xs (i + 1)) (xs (i + 2))) (100) (hMP.1) rfl rfl gi_L_144 rfl ⟨by decide, by decide, by decide +kernel⟩ rfl rfl (Nat.le_of_ble_eq_true rfl) rfl rfl ⟨Nat.le_of_ble_eq_true rfl, Nat.le_of_ble_eq_true rfl⟩ ⟨(show (k + 2) + 0 ≤ 601024 by omega), (show (n + 12) + 0 ≤ 7293034 by omega)⟩ dL_law_1350 (fun v ad2 gm hmp => ?_)
    obtain ⟨rfl, hfm, ⟨hmc, rfl, hP⟩ | ⟨hmc, rfl, hP⟩⟩ := hmp
    · skip
      refine qr_istore (lv' := [(6, (.int (0 : Int32))), (5, (.int k0)), (0, (.ref b)), (1, (.ref (ad 0))), (2, (.ref (ad 100))), (3, (.ref (ad 150))), (4, (.int (nI i)))]) C dL_law_1353 (by decide) rfl ?_
      refine qr_aload_n C dL_law_1355 rfl 4 rfl ?_
      refine qr_callV C (na := 0) (As := []) (rest := []) (k_X7_thrown hst D ad gm σ ((sm_cE (xs (i + 1)) (xs (i + 2)))) hP) (100) (hP.1) rfl rfl gi_L_84 rfl ⟨by decide, by decide, by decide +kernel⟩ rfl rfl (Nat.le_of_ble_eq_true rfl) rfl rfl ⟨Nat.le_of_ble_eq_true rfl, Nat.le_of_ble_eq_true rfl⟩ ⟨(show ((k + 2) + 0) + 0 ≤ 601024 by omega), (show ((n + 12) + 0) + 0 ≤ 7293034 by omega)⟩ dL_law_1356 (fun v ad2 gt hpt => ?_)
      obtain ⟨rfl, rfl, rfl⟩ := hpt
      refine qr_iload C dL_law_1359 1 rfl ?_
      refine qr_icmp_eq_t C 1366 dL_law_1361 (by decide) hk0.2 ?_
      refine qr_iload C dL_law_1366 1 rfl ?_
      refine qr_if_ne_t C 1390 dL_law_1368 (by decide) hk0.1 ?_
      refine qr_goto (tgt := 1481) C dL_law_1390 (by decide) ?_
      refine qw_pick [2, 3, 4, 5, 6] (lv' := [(0, (.ref b)), (1, (.ref (ad 0))), (2, (.ref (ad 100))), (3, (.ref (ad 150))), (4, (.int (nI i)))]) rfl ?_
      exact qw_widen (by omega) (by omega) (kk ad gm _ _ _ _ _ _ (qx_keep hXP (fun t ht => hfm t (by omega))) hP (((hfm 150 (by omega)).trans hO)) hag.2.2)
    · skip
      exact absurd (hk0.2.symm.trans hmc) hk0.1
