theorem sm_dropS_keep (σ : Nat → Nat → Int32) (t L : Nat) {k : Nat} (h : k ≠ 15) (h2 : k ≠ 18) : sm_dropS σ t L k = σ k := by
  unfold sm_dropS sg_u
  rw [va_up_ne _ _ h2, va_up_ne _ _ h]
def sm_pstep (j : Nat) (s : Int32 × (Nat → Nat → Int32)) : Int32 × (Nat → Nat → Int32) :=
  if s.2 14 j = 0 then (if s.2 13 j = s.2 1 0 then (s.1 + (sm_drop (s.2 10 j).toNatClampNeg (s.2 15) (s.2 12 j).toNatClampNeg).1, sm_dropS s.2 (s.2 10 j).toNatClampNeg (s.2 12 j).toNatClampNeg) else (s.1 + 0, s.2)) else (s.1 + 0, s.2)
theorem sm_pA {j : Nat} {s : Int32 × (Nat → Nat → Int32)} (h : ¬ s.2 14 j = 0) : sm_pstep j s = (s.1 + 0, s.2) := if_neg h
theorem sm_pB {j : Nat} {s : Int32 × (Nat → Nat → Int32)} (h : s.2 14 j = 0) (h2 : ¬ s.2 13 j = s.2 1 0) : sm_pstep j s = (s.1 + 0, s.2) := (if_pos h).trans (if_neg h2)
theorem sm_pC {j : Nat} {s : Int32 × (Nat → Nat → Int32)} (h : s.2 14 j = 0) (h2 : s.2 13 j = s.2 1 0) : sm_pstep j s = (s.1 + (sm_drop (s.2 10 j).toNatClampNeg (s.2 15) (s.2 12 j).toNatClampNeg).1, sm_dropS s.2 (s.2 10 j).toNatClampNeg (s.2 12 j).toNatClampNeg) := (if_pos h).trans (if_pos h2)
def sm_pU (σ : Nat → Nat → Int32) : Nat → Nat → Int32 := sg_u σ 1 (σ 1 0 + 1)
def sm_phour (n : Nat) (s : Int32 × (Nat → Nat → Int32)) : Int32 × (Nat → Nat → Int32) := sg_it sm_pstep (s.1, sm_pU s.2) n
def sm_passP (σ : Nat → Nat → Int32) (n h : Nat) : Int32 × (Nat → Nat → Int32) := sg_it (fun _ s => sm_phour n s) (0, σ) h
theorem sm_pstep_keep (j : Nat) (s : Int32 × (Nat → Nat → Int32)) {k : Nat} (h : k ≠ 15) (h2 : k ≠ 18) : (sm_pstep j s).2 k = s.2 k := by
  unfold sm_pstep
  by_cases h3 : s.2 14 j = 0
  · rw [if_pos h3]
    by_cases h4 : s.2 13 j = s.2 1 0
    · rw [if_pos h4]; exact sm_dropS_keep _ _ _ h h2
    · rw [if_neg h4]
  · rw [if_neg h3]
theorem sm_pit_keep (s : Int32 × (Nat → Nat → Int32)) {k : Nat} (h : k ≠ 15) (h2 : k ≠ 18) : ∀ n, (sg_it sm_pstep s n).2 k = s.2 k
  | 0 => rfl
  | n + 1 => (sm_pstep_keep n _ h h2).trans (sm_pit_keep s h h2 n)
theorem sm_passP_keep (σ : Nat → Nat → Int32) (n : Nat) {k : Nat} (h1 : k ≠ 1) (h : k ≠ 15) (h2 : k ≠ 18) : ∀ i, (sm_passP σ n i).2 k = σ k
  | 0 => rfl
  | i + 1 => by
    show (sg_it sm_pstep ((sm_passP σ n i).1, sm_pU (sm_passP σ n i).2) n).2 k = σ k
    rw [sm_pit_keep _ h h2]
    show va_up (sm_passP σ n i).2 1 _ k = σ k
    rw [va_up_ne _ _ h1]
    exact sm_passP_keep σ n h1 h h2 i
def sm_cpass (σ : Nat → Nat → Int32) (x1 : Int32) : Int32 := if sm_in x1 1 100 = 0 then 1 else if σ 1 0 + x1 ≤ 10000 then 0 else 2
theorem sm_cpass_ok {σ : Nat → Nat → Int32} {x1 : Int32} (h : sm_cpass σ x1 = 0) : ∃ t, t < 101 ∧ 1 ≤ t ∧ x1 = nI t ∧ x1.toNatClampNeg = t := by
  have e1 : (1 : Int32).toInt = 1 := by decide
  have e3 : (100 : Int32).toInt = 100 := by decide
  unfold sm_cpass at h
  by_cases h1 : sm_in x1 1 100 = 0
  · rw [if_pos h1] at h; exact absurd h (by decide)
  · rw [sm_in_i] at h1
    obtain ⟨t, ht, hx⟩ := sg_nat (x := x1) (n := 101) (by omega) (by omega) (by omega)
    have q1 : x1.toInt = t := by rw [hx, nI_toInt (by omega)]
    exact ⟨t, ht, by omega, hx, by rw [hx, nI_clamp (by omega)]⟩
set_option maxHeartbeats 4000000 in
set_option maxRecDepth 100000 in
theorem k_X7_pass {l : Launch} (hst : l.stackTraces = false) (D : va_G) (ad : Nat → Nat) (g : qw_G) (σ : Nat → Nat → Int32) (r : Int32) (hM : qm_P D σ r ad g) (n : Nat) (hn : σ 9 0 = nI n) (hn2 : n ≤ 40) (hT : ∀ i, i < n → ∃ t, t < 3 ∧ σ 10 i = nI t) (hL : ∀ i, i < n → ∃ t, t < 4 ∧ σ 12 i = nI t) (x1 : Int32) : qw_M l yX7_pass [Cond.code yX7_pass cX7_pass 5 (some .int)] { frames := 2, cells := 0, slots := 0, locals := 80 } D ad g [(.ref (ad 100)), (.int x1)] (qm_op D ad g (sm_cpass σ x1) (sm_passP σ n x1.toNatClampNeg).1 σ (sm_passP σ n x1.toNatClampNeg).2) 0 0 := by
  refine qw_M.of (maxL := 5) (own := RX7) (lv := [(0, (.ref (ad 100))), (1, (.int x1))]) hst (by decide) rfl rfl (Nat.le_of_ble_eq_true rfl) ?_
  intro p e s m args below meth c A C hin
  refine qr_aload_n C dX7_pass_0 rfl 0 rfl ?_
  have M1_0 : ∀ bk : Int32, bk = (if (sm_in (x1) ((1 : Int32)) ((100 : Int32))) = 0 then (1 : Int32) else (if ((σ 1 0) + x1) ≤ (10000 : Int32) then (0 : Int32) else (2 : Int32))) → qw_W p l e { frames := 2, cells := 0, slots := 0, locals := 80 } s m args below meth c D A 5 (MQ below (qw_Q (qm_op D ad g (sm_cpass σ x1) (sm_passP σ n x1.toNatClampNeg).1 σ (sm_passP σ n x1.toNatClampNeg).2) D A) args s 0 0 A) 0 0 ad g 32 [(0, (.ref (ad 100))), (1, (.int x1))] [(.int bk), (.ref (ad 100))] := by
    intro bk hbk
    have hbk : bk = sm_cpass σ x1 := hbk.trans (rfl)
    refine qr_callV C (na := 1) (As := [(.int bk)]) (rest := []) (k_X7_refused hst D ad g σ r hM bk) (100) (hM.1) rfl rfl gi_X7_75 rfl ⟨by decide, by decide, by decide +kernel⟩ rfl rfl (Nat.le_of_ble_eq_true rfl) rfl rfl ⟨Nat.le_of_ble_eq_true rfl, Nat.le_of_ble_eq_true rfl⟩ ⟨Nat.le_of_ble_eq_true rfl, Nat.le_of_ble_eq_true rfl⟩ dX7_pass_32 (fun v ad2 gc2 hpo3 => ?_)
    obtain ⟨rfl, rfl, hM4, hfr5⟩ := hpo3
    refine qr_if_eq C 40 dX7_pass_35 (by decide) (fun c35 => ?_) (fun c35 => ?_)
    · skip
      obtain ⟨h0, hh0, hh1, hx1, hx1c⟩ := sm_cpass_ok (hbk.symm.trans (sm_ref0.mp c35))
      refine qr_iconst (v := 0) C dX7_pass_40 (by decide) ?_
      refine qr_istore_n (lv' := [(2, (.int (0 : Int32))), (0, (.ref (ad 100))), (1, (.int x1))]) C dX7_pass_41 rfl (by decide) rfl ?_
      refine qr_iconst (v := 0) C dX7_pass_42 (by decide) ?_
      refine qr_istore_n (lv' := [(3, (.int (0 : Int32))), (2, (.int (0 : Int32))), (0, (.ref (ad 100))), (1, (.int x1))]) C dX7_pass_43 rfl (by decide) rfl ?_
      have L44 : ∀ (j44 i44 : Nat) (gl44 : qw_G) (na : Int32), i44 + j44 = h0 → na = (sm_passP σ n i44).1 → (qm_P D (sm_passP σ n i44).2 bk ad gl44 ∧ ∀ t, (t < 100 ∨ 118 ≤ t) → gl44 t = g t) → qw_W p l e { frames := 2, cells := 0, slots := 0, locals := 80 } s m args below meth c D A 5 (MQ below (qw_Q (qm_op D ad g (sm_cpass σ x1) (sm_passP σ n x1.toNatClampNeg).1 σ (sm_passP σ n x1.toNatClampNeg).2) D A) args s 0 0 A) 0 0 ad gl44 44 [(0, (.ref (ad 100))), (1, (.int x1)), (2, (.int na)), (3, (.int (nI i44)))] [] := by
        intro j44
        induction j44 with
        | zero =>
          intro i44 gl44 na hi44 hna hw44
          obtain rfl : h0 = i44 := by omega
          obtain ⟨hM44, hfr44⟩ := hw44
          refine qr_iload_n C dX7_pass_44 rfl 3 rfl ?_
          refine qr_iload_n C dX7_pass_45 rfl 1 rfl ?_
          refine qr_icmp_ge_t C 132 dX7_pass_46 (by decide) ((sg_le (h0) (h0) hx1 rfl (by omega) (by omega)).mpr (Nat.le_refl _)) ?_
          refine qr_iload_n C dX7_pass_132 rfl 2 rfl ?_
          exact qr_iret C rfl (Nat.zero_le _) (Nat.zero_le _) dX7_pass_133 ((by subst hbk; exact ⟨rfl, fun t ht => ((hfr44 t ht).trans rfl), Or.inr ⟨sm_ref0.mp c35, sg_vi (by rw [hx1c]; exact hna.symm), (by rw [hx1c]; exact ⟨hM44.1, hM44.2.1, hM44.2.2.1, hM44.2.2.2.1, hM44.2.2.2.2.1, hM44.2.2.2.2.2.1, hM44.2.2.2.2.2.2.1, hM44.2.2.2.2.2.2.2.1, hM44.2.2.2.2.2.2.2.2.1, hM44.2.2.2.2.2.2.2.2.2.1, hM44.2.2.2.2.2.2.2.2.2.2.1, hM44.2.2.2.2.2.2.2.2.2.2.2.1, hM44.2.2.2.2.2.2.2.2.2.2.2.2.1, hM44.2.2.2.2.2.2.2.2.2.2.2.2.2.1, hM44.2.2.2.2.2.2.2.2.2.2.2.2.2.2⟩)⟩⟩))
        | succ j44 ih44 =>
          intro i44 gl44 na hi44 hna hw44
          obtain ⟨hM44, hfr44⟩ := hw44
          refine qr_iload_n C dX7_pass_44 rfl 3 rfl ?_
          refine qr_iload_n C dX7_pass_45 rfl 1 rfl ?_
          refine qr_icmp_ge_f C 132 dX7_pass_46 (by decide) (fun z => absurd ((sg_le (h0) (i44) hx1 rfl (by omega) (by omega)).mp z) (by omega)) ?_
          refine qr_aload_n C dX7_pass_49 rfl 0 rfl ?_
          refine qr_dup C dX7_pass_50 rfl ?_
          refine gf_X7_92 C (100) (hM44.1) rfl rfl dX7_pass_51 ?_
          refine qr_iconst (v := 1) C dX7_pass_54 (by decide) ?_
          refine qr_iadd C dX7_pass_55 ?_
          refine pf_X7_92 C (100) (hM44.1) rfl rfl rfl (Nat.le_of_ble_eq_true rfl) rfl dX7_pass_56 ?_
          generalize hg7 : va_up gl44 (100) _ = g6
          have f8 : g6 (100) = some (.inr (6, [(.int bk), (.int ((((sm_passP σ n i44).2) 1 0) + (1 : Int32))), (.int (((sm_passP σ n i44).2) 2 0)), (.ref (ad 103)), (.ref (ad 104)), (.ref (ad 105)), (.ref (ad 106)), (.ref (ad 107)), (.ref (ad 108)), (.int (((sm_passP σ n i44).2) 9 0)), (.ref (ad 110)), (.ref (ad 111)), (.ref (ad 112)), (.ref (ad 113)), (.ref (ad 114)), (.ref (ad 115)), (.ref (ad 116)), (.ref (ad 117)), (.int (((sm_passP σ n i44).2) 18 0)), (.int (((sm_passP σ n i44).2) 19 0))])) := by rw [← hg7]; exact va_up_self _ _ _
          have f9 : g6 (103) = gl44 (103) := by rw [← hg7]; exact va_up_ne _ _ (by omega)
          have f10 : g6 (104) = gl44 (104) := by rw [← hg7]; exact va_up_ne _ _ (by omega)
          have f11 : g6 (105) = gl44 (105) := by rw [← hg7]; exact va_up_ne _ _ (by omega)
          have f12 : g6 (106) = gl44 (106) := by rw [← hg7]; exact va_up_ne _ _ (by omega)
          have f13 : g6 (107) = gl44 (107) := by rw [← hg7]; exact va_up_ne _ _ (by omega)
          have f14 : g6 (108) = gl44 (108) := by rw [← hg7]; exact va_up_ne _ _ (by omega)
          have f15 : g6 (110) = gl44 (110) := by rw [← hg7]; exact va_up_ne _ _ (by omega)
          have f16 : g6 (111) = gl44 (111) := by rw [← hg7]; exact va_up_ne _ _ (by omega)
          have f17 : g6 (112) = gl44 (112) := by rw [← hg7]; exact va_up_ne _ _ (by omega)
          have f18 : g6 (113) = gl44 (113) := by rw [← hg7]; exact va_up_ne _ _ (by omega)
          have f19 : g6 (114) = gl44 (114) := by rw [← hg7]; exact va_up_ne _ _ (by omega)
          have f20 : g6 (115) = gl44 (115) := by rw [← hg7]; exact va_up_ne _ _ (by omega)
          have f21 : g6 (116) = gl44 (116) := by rw [← hg7]; exact va_up_ne _ _ (by omega)
          have f22 : g6 (117) = gl44 (117) := by rw [← hg7]; exact va_up_ne _ _ (by omega)
          refine qr_iconst (v := 0) C dX7_pass_59 (by decide) ?_
          refine qr_istore (lv' := [(4, (.int (0 : Int32))), (0, (.ref (ad 100))), (1, (.int x1)), (2, (.int na)), (3, (.int (nI i44)))]) C dX7_pass_60 (by decide) rfl ?_
          have L62 : ∀ (j62 i62 : Nat) (gl62 : qw_G) (nb : Int32), i62 + j62 = n → nb = (sg_it sm_pstep (na, (sm_pU (sm_passP σ n i44).2)) i62).1 → (qm_P D (sg_it sm_pstep (na, (sm_pU (sm_passP σ n i44).2)) i62).2 bk ad gl62 ∧ ∀ t, (t < 100 ∨ 118 ≤ t) → gl62 t = g t) → qw_W p l e { frames := 2, cells := 0, slots := 0, locals := 80 } s m args below meth c D A 5 (MQ below (qw_Q (qm_op D ad g (sm_cpass σ x1) (sm_passP σ n x1.toNatClampNeg).1 σ (sm_passP σ n x1.toNatClampNeg).2) D A) args s 0 0 A) 0 0 ad gl62 62 [(0, (.ref (ad 100))), (1, (.int x1)), (2, (.int nb)), (3, (.int (nI i44))), (4, (.int (nI i62)))] [] := by
            intro j62
            induction j62 with
            | zero =>
              intro i62 gl62 nb hi62 hnb hw62
              obtain rfl : n = i62 := by omega
              obtain ⟨hM62, hfr62⟩ := hw62
              have hB : (sg_it sm_pstep (na, (sm_pU (sm_passP σ n i44).2)) n).2 9 0 = nI n := by rw [sm_pit_keep _ (by decide) (by decide)]; show (sm_passP σ n i44).2 9 0 = nI n; rw [sm_passP_keep _ _ (by decide) (by decide) (by decide)]; exact hn
              refine qr_iload C dX7_pass_62 4 rfl ?_
              refine qr_aload_n C dX7_pass_64 rfl 0 rfl ?_
              refine gf_X7_95 C (100) (hM62.1) rfl rfl dX7_pass_65 ?_
              refine qr_icmp_ge_t C 126 dX7_pass_68 (by decide) ((sg_le (n) (n) hB rfl (by omega) (by omega)).mpr (Nat.le_refl _)) ?_
              refine qr_iinc (v := (nI (i44 + 1))) (lv' := [(3, (.int (nI (i44 + 1)))), (0, (.ref (ad 100))), (1, (.int x1)), (2, (.int nb)), (4, (.int (nI (n))))]) C dX7_pass_126 (w := 3) rfl (nI_1 _) (by decide) rfl ?_
              refine qr_goto (tgt := 44) C dX7_pass_129 (by decide) ?_
              refine qw_pick [1, 2, 3, 0] (lv' := [(0, (.ref (ad 100))), (1, (.int x1)), (2, (.int nb)), (3, (.int (nI (i44 + 1))))]) rfl ?_
              exact ih44 (i44 + 1) gl62 nb (by omega) (by subst hna; exact hnb) (by subst hna; exact ⟨⟨hM62.1, hM62.2.1, hM62.2.2.1, hM62.2.2.2.1, hM62.2.2.2.2.1, hM62.2.2.2.2.2.1, hM62.2.2.2.2.2.2.1, hM62.2.2.2.2.2.2.2.1, hM62.2.2.2.2.2.2.2.2.1, hM62.2.2.2.2.2.2.2.2.2.1, hM62.2.2.2.2.2.2.2.2.2.2.1, hM62.2.2.2.2.2.2.2.2.2.2.2.1, hM62.2.2.2.2.2.2.2.2.2.2.2.2.1, hM62.2.2.2.2.2.2.2.2.2.2.2.2.2.1, hM62.2.2.2.2.2.2.2.2.2.2.2.2.2.2⟩, fun t1 ht => ((hfr62 t1 ht).trans rfl)⟩)
            | succ j62 ih62 =>
              intro i62 gl62 nb hi62 hnb hw62
              obtain ⟨hM62, hfr62⟩ := hw62
              have hB : (sg_it sm_pstep (na, (sm_pU (sm_passP σ n i44).2)) i62).2 9 0 = nI n := by rw [sm_pit_keep _ (by decide) (by decide)]; show (sm_passP σ n i44).2 9 0 = nI n; rw [sm_passP_keep _ _ (by decide) (by decide) (by decide)]; exact hn
              refine qr_iload C dX7_pass_62 4 rfl ?_
              refine qr_aload_n C dX7_pass_64 rfl 0 rfl ?_
              refine gf_X7_95 C (100) (hM62.1) rfl rfl dX7_pass_65 ?_
              refine qr_icmp_ge_f C 126 dX7_pass_68 (by decide) (fun z => absurd ((sg_le (n) (i62) hB rfl (by omega) (by omega)).mp z) (by omega)) ?_
              refine qr_iload_n C dX7_pass_71 rfl 2 rfl ?_
              refine qr_aload_n C dX7_pass_72 rfl 0 rfl ?_
              refine gf_X7_41 C (100) (hM62.1) rfl rfl dX7_pass_73 ?_
              refine qr_iload C dX7_pass_76 4 rfl ?_
              refine qr_zald C (x := ((((sg_it sm_pstep (na, (sm_pU (sm_passP σ n i44).2)) i62).2) 14) (i62))) (114) (hM62.2.2.2.2.2.2.2.2.2.2.2.1) rfl (j := i62) rfl (by omega) rfl rfl dX7_pass_78 ?_
              refine qr_if_ne C 117 dX7_pass_79 (by decide) (fun c79 => ?_) (fun c79 => ?_)
              · skip
                refine qr_iconst (v := 0) C dX7_pass_117 (by decide) ?_
                refine qr_iadd C dX7_pass_118 ?_
                refine qr_istore_n (lv' := [(2, (.int (nb + (0 : Int32)))), (0, (.ref (ad 100))), (1, (.int x1)), (3, (.int (nI i44))), (4, (.int (nI i62)))]) C dX7_pass_119 rfl (by decide) rfl ?_
                refine qr_iinc (v := (nI (i62 + 1))) (lv' := [(4, (.int (nI (i62 + 1)))), (2, (.int (nb + (0 : Int32)))), (0, (.ref (ad 100))), (1, (.int x1)), (3, (.int (nI i44)))]) C dX7_pass_120 (w := 4) rfl (nI_1 _) (by decide) rfl ?_
                refine qr_goto (tgt := 62) C dX7_pass_123 (by decide) ?_
                refine qw_pick [2, 3, 1, 4, 0] (lv' := [(0, (.ref (ad 100))), (1, (.int x1)), (2, (.int (nb + (0 : Int32)))), (3, (.int (nI i44))), (4, (.int (nI (i62 + 1))))]) rfl ?_
                exact ih62 (i62 + 1) gl62 (nb + (0 : Int32)) (by omega) (by subst hnb; exact (congrArg Prod.fst (sm_pA c79)).symm) (by rw [show (sg_it sm_pstep (na, (sm_pU (sm_passP σ n i44).2)) (i62 + 1)).2 = _ from congrArg Prod.snd (sm_pA c79)]; exact ⟨⟨hM62.1, hM62.2.1, hM62.2.2.1, hM62.2.2.2.1, hM62.2.2.2.2.1, hM62.2.2.2.2.2.1, hM62.2.2.2.2.2.2.1, hM62.2.2.2.2.2.2.2.1, hM62.2.2.2.2.2.2.2.2.1, hM62.2.2.2.2.2.2.2.2.2.1, hM62.2.2.2.2.2.2.2.2.2.2.1, hM62.2.2.2.2.2.2.2.2.2.2.2.1, hM62.2.2.2.2.2.2.2.2.2.2.2.2.1, hM62.2.2.2.2.2.2.2.2.2.2.2.2.2.1, hM62.2.2.2.2.2.2.2.2.2.2.2.2.2.2⟩, fun t1 ht => ((hfr62 t1 ht).trans rfl)⟩)
              · skip
                refine qr_aload_n C dX7_pass_82 rfl 0 rfl ?_
                refine gf_X7_38 C (100) (hM62.1) rfl rfl dX7_pass_83 ?_
                refine qr_iload C dX7_pass_86 4 rfl ?_
                refine qr_iald C (x := ((((sg_it sm_pstep (na, (sm_pU (sm_passP σ n i44).2)) i62).2) 13) (i62))) (113) (hM62.2.2.2.2.2.2.2.2.2.2.1) rfl (j := i62) rfl (by omega) rfl rfl dX7_pass_88 ?_
                refine qr_aload_n C dX7_pass_89 rfl 0 rfl ?_
                refine gf_X7_92 C (100) (hM62.1) rfl rfl dX7_pass_90 ?_
                refine qr_icmp_ne C 117 dX7_pass_93 (by decide) (fun c93 => ?_) (fun c93 => ?_)
                · skip
                  refine qr_iconst (v := 0) C dX7_pass_117 (by decide) ?_
                  refine qr_iadd C dX7_pass_118 ?_
                  refine qr_istore_n (lv' := [(2, (.int (nb + (0 : Int32)))), (0, (.ref (ad 100))), (1, (.int x1)), (3, (.int (nI i44))), (4, (.int (nI i62)))]) C dX7_pass_119 rfl (by decide) rfl ?_
                  refine qr_iinc (v := (nI (i62 + 1))) (lv' := [(4, (.int (nI (i62 + 1)))), (2, (.int (nb + (0 : Int32)))), (0, (.ref (ad 100))), (1, (.int x1)), (3, (.int (nI i44)))]) C dX7_pass_120 (w := 4) rfl (nI_1 _) (by decide) rfl ?_
                  refine qr_goto (tgt := 62) C dX7_pass_123 (by decide) ?_
                  refine qw_pick [2, 3, 1, 4, 0] (lv' := [(0, (.ref (ad 100))), (1, (.int x1)), (2, (.int (nb + (0 : Int32)))), (3, (.int (nI i44))), (4, (.int (nI (i62 + 1))))]) rfl ?_
                  exact ih62 (i62 + 1) gl62 (nb + (0 : Int32)) (by omega) (by subst hnb; exact (congrArg Prod.fst (sm_pB c79 c93)).symm) (by rw [show (sg_it sm_pstep (na, (sm_pU (sm_passP σ n i44).2)) (i62 + 1)).2 = _ from congrArg Prod.snd (sm_pB c79 c93)]; exact ⟨⟨hM62.1, hM62.2.1, hM62.2.2.1, hM62.2.2.2.1, hM62.2.2.2.2.1, hM62.2.2.2.2.2.1, hM62.2.2.2.2.2.2.1, hM62.2.2.2.2.2.2.2.1, hM62.2.2.2.2.2.2.2.2.1, hM62.2.2.2.2.2.2.2.2.2.1, hM62.2.2.2.2.2.2.2.2.2.2.1, hM62.2.2.2.2.2.2.2.2.2.2.2.1, hM62.2.2.2.2.2.2.2.2.2.2.2.2.1, hM62.2.2.2.2.2.2.2.2.2.2.2.2.2.1, hM62.2.2.2.2.2.2.2.2.2.2.2.2.2.2⟩, fun t1 ht => ((hfr62 t1 ht).trans rfl)⟩)
                · skip
                  obtain ⟨t0, ht0, htt⟩ := hT i62 (by omega)
                  obtain ⟨L0, hL0, htL⟩ := hL i62 (by omega)
                  have h10 : (sg_it sm_pstep (na, (sm_pU (sm_passP σ n i44).2)) i62).2 10 i62 = nI t0 := by rw [sm_pit_keep _ (by decide) (by decide)]; show (sm_passP σ n i44).2 10 i62 = _; rw [sm_passP_keep _ _ (by decide) (by decide) (by decide)]; exact htt
                  have h12 : (sg_it sm_pstep (na, (sm_pU (sm_passP σ n i44).2)) i62).2 12 i62 = nI L0 := by rw [sm_pit_keep _ (by decide) (by decide)]; show (sm_passP σ n i44).2 12 i62 = _; rw [sm_passP_keep _ _ (by decide) (by decide) (by decide)]; exact htL
                  have h10c : ((sg_it sm_pstep (na, (sm_pU (sm_passP σ n i44).2)) i62).2 10 i62).toNatClampNeg = t0 := by rw [h10, nI_clamp (by omega)]
                  have h12c : ((sg_it sm_pstep (na, (sm_pU (sm_passP σ n i44).2)) i62).2 12 i62).toNatClampNeg = L0 := by rw [h12, nI_clamp (by omega)]
                  refine qr_aload_n C dX7_pass_96 rfl 0 rfl ?_
                  refine qr_aload_n C dX7_pass_97 rfl 0 rfl ?_
                  refine gf_X7_29 C (100) (hM62.1) rfl rfl dX7_pass_98 ?_
                  refine qr_iload C dX7_pass_101 4 rfl ?_
                  refine qr_iald C (x := ((((sg_it sm_pstep (na, (sm_pU (sm_passP σ n i44).2)) i62).2) 10) (i62))) (110) (hM62.2.2.2.2.2.2.2.1) rfl (j := i62) rfl (by omega) rfl rfl dX7_pass_103 ?_
                  refine qr_aload_n C dX7_pass_104 rfl 0 rfl ?_
                  refine gf_X7_35 C (100) (hM62.1) rfl rfl dX7_pass_105 ?_
                  refine qr_iload C dX7_pass_108 4 rfl ?_
                  refine qr_iald C (x := ((((sg_it sm_pstep (na, (sm_pU (sm_passP σ n i44).2)) i62).2) 12) (i62))) (112) (hM62.2.2.2.2.2.2.2.2.2.1) rfl (j := i62) rfl (by omega) rfl rfl dX7_pass_110 ?_
                  have hM27 : qm_P D ((sg_it sm_pstep (na, (sm_pU (sm_passP σ n i44).2)) i62).2) bk ad gl62 := ⟨hM62.1, hM62.2.1, hM62.2.2.1, hM62.2.2.2.1, hM62.2.2.2.2.1, hM62.2.2.2.2.2.1, hM62.2.2.2.2.2.2.1, hM62.2.2.2.2.2.2.2.1, hM62.2.2.2.2.2.2.2.2.1, hM62.2.2.2.2.2.2.2.2.2.1, hM62.2.2.2.2.2.2.2.2.2.2.1, hM62.2.2.2.2.2.2.2.2.2.2.2.1, hM62.2.2.2.2.2.2.2.2.2.2.2.2.1, hM62.2.2.2.2.2.2.2.2.2.2.2.2.2.1, hM62.2.2.2.2.2.2.2.2.2.2.2.2.2.2⟩
                  refine qr_callV C (na := 2) (As := [(.int ((((sg_it sm_pstep (na, (sm_pU (sm_passP σ n i44).2)) i62).2) 10) (i62))), (.int ((((sg_it sm_pstep (na, (sm_pU (sm_passP σ n i44).2)) i62).2) 12) (i62)))]) (rest := [(.int nb)]) (k_X7_drop hst D ad gl62 ((sg_it sm_pstep (na, (sm_pU (sm_passP σ n i44).2)) i62).2) bk hM27 (((((sg_it sm_pstep (na, (sm_pU (sm_passP σ n i44).2)) i62).2) 10) (i62))) (((((sg_it sm_pstep (na, (sm_pU (sm_passP σ n i44).2)) i62).2) 12) (i62))) (((sg_it sm_pstep (na, (sm_pU (sm_passP σ n i44).2)) i62).2 10 i62).toNatClampNeg) (((sg_it sm_pstep (na, (sm_pU (sm_passP σ n i44).2)) i62).2 12 i62).toNatClampNeg) (by rw [h10c]; exact ht0) (by rw [h12c]; omega) (by rw [h10c]; exact h10) (by rw [h12c]; exact h12)) (100) (hM62.1) rfl rfl gi_X7_78 rfl ⟨by decide, by decide, by decide +kernel⟩ rfl rfl (Nat.le_of_ble_eq_true rfl) rfl rfl ⟨Nat.le_of_ble_eq_true rfl, Nat.le_of_ble_eq_true rfl⟩ ⟨Nat.le_of_ble_eq_true rfl, Nat.le_of_ble_eq_true rfl⟩ dX7_pass_111 (fun v ad2 gc23 hpo24 => ?_)
                  obtain ⟨rfl, rfl, hM25, hfr26⟩ := hpo24
                  refine qr_goto (tgt := 118) C dX7_pass_114 (by decide) ?_
                  refine qr_iadd C dX7_pass_118 ?_
                  refine qr_istore_n (lv' := [(2, (.int (nb + ((sm_drop (((sg_it sm_pstep (na, (sm_pU (sm_passP σ n i44).2)) i62).2 10 i62).toNatClampNeg) (((sg_it sm_pstep (na, (sm_pU (sm_passP σ n i44).2)) i62).2) 15) (((sg_it sm_pstep (na, (sm_pU (sm_passP σ n i44).2)) i62).2 12 i62).toNatClampNeg)).1)))), (0, (.ref (ad 100))), (1, (.int x1)), (3, (.int (nI i44))), (4, (.int (nI i62)))]) C dX7_pass_119 rfl (by decide) rfl ?_
                  refine qr_iinc (v := (nI (i62 + 1))) (lv' := [(4, (.int (nI (i62 + 1)))), (2, (.int (nb + ((sm_drop (((sg_it sm_pstep (na, (sm_pU (sm_passP σ n i44).2)) i62).2 10 i62).toNatClampNeg) (((sg_it sm_pstep (na, (sm_pU (sm_passP σ n i44).2)) i62).2) 15) (((sg_it sm_pstep (na, (sm_pU (sm_passP σ n i44).2)) i62).2 12 i62).toNatClampNeg)).1)))), (0, (.ref (ad 100))), (1, (.int x1)), (3, (.int (nI i44)))]) C dX7_pass_120 (w := 4) rfl (nI_1 _) (by decide) rfl ?_
                  refine qr_goto (tgt := 62) C dX7_pass_123 (by decide) ?_
                  refine qw_pick [2, 3, 1, 4, 0] (lv' := [(0, (.ref (ad 100))), (1, (.int x1)), (2, (.int (nb + ((sm_drop (((sg_it sm_pstep (na, (sm_pU (sm_passP σ n i44).2)) i62).2 10 i62).toNatClampNeg) (((sg_it sm_pstep (na, (sm_pU (sm_passP σ n i44).2)) i62).2) 15) (((sg_it sm_pstep (na, (sm_pU (sm_passP σ n i44).2)) i62).2 12 i62).toNatClampNeg)).1)))), (3, (.int (nI i44))), (4, (.int (nI (i62 + 1))))]) rfl ?_
                  exact ih62 (i62 + 1) gc23 (nb + ((sm_drop (((sg_it sm_pstep (na, (sm_pU (sm_passP σ n i44).2)) i62).2 10 i62).toNatClampNeg) (((sg_it sm_pstep (na, (sm_pU (sm_passP σ n i44).2)) i62).2) 15) (((sg_it sm_pstep (na, (sm_pU (sm_passP σ n i44).2)) i62).2 12 i62).toNatClampNeg)).1)) (by omega) (by subst hnb; exact (congrArg Prod.fst (sm_pC c79 c93)).symm) (by rw [show (sg_it sm_pstep (na, (sm_pU (sm_passP σ n i44).2)) (i62 + 1)).2 = _ from congrArg Prod.snd (sm_pC c79 c93)]; exact ⟨hM25, fun t1 ht => ((hfr26 t1 ht).trans ((hfr62 t1 ht).trans rfl))⟩)
          refine qw_pick [1, 2, 3, 4, 0] (lv' := [(0, (.ref (ad 100))), (1, (.int x1)), (2, (.int na)), (3, (.int (nI i44))), (4, (.int (0 : Int32)))]) rfl ?_
          exact L62 (n) 0 g6 na (by omega) rfl ⟨⟨f8, (f9.trans (hM44.2.1)), (f10.trans (hM44.2.2.1)), (f11.trans (hM44.2.2.2.1)), (f12.trans (hM44.2.2.2.2.1)), (f13.trans (hM44.2.2.2.2.2.1)), (f14.trans (hM44.2.2.2.2.2.2.1)), (f15.trans (hM44.2.2.2.2.2.2.2.1)), (f16.trans (hM44.2.2.2.2.2.2.2.2.1)), (f17.trans (hM44.2.2.2.2.2.2.2.2.2.1)), (f18.trans (hM44.2.2.2.2.2.2.2.2.2.2.1)), (f19.trans (hM44.2.2.2.2.2.2.2.2.2.2.2.1)), (f20.trans (hM44.2.2.2.2.2.2.2.2.2.2.2.2.1)), (f21.trans (hM44.2.2.2.2.2.2.2.2.2.2.2.2.2.1)), (f22.trans (hM44.2.2.2.2.2.2.2.2.2.2.2.2.2.2))⟩, fun t1 ht => ((congrFun hg7 t1).symm.trans ((va_up_ne _ _ (by omega)).trans ((hfr44 t1 ht).trans rfl)))⟩
      refine qw_pick [2, 3, 1, 0] (lv' := [(0, (.ref (ad 100))), (1, (.int x1)), (2, (.int (0 : Int32))), (3, (.int (0 : Int32)))]) rfl ?_
      exact L44 (h0) 0 gc2 (0 : Int32) (by omega) rfl ⟨hM4, fun t1 ht => ((hfr5 t1 ht).trans rfl)⟩
    · skip
      refine qr_iconst (v := 0) C dX7_pass_38 (by decide) ?_
      exact qr_iret C rfl (Nat.zero_le _) (Nat.zero_le _) dX7_pass_39 ((by subst hbk; exact ⟨rfl, fun t ht => ((hfr5 t ht).trans rfl), Or.inl ⟨fun z => c35 (sm_ref0.mpr z), rfl, hM4⟩⟩))
  refine qr_iload_n C dX7_pass_1 rfl 1 rfl ?_
  refine qr_iconst (v := 1) C dX7_pass_2 (by decide) ?_
  refine qr_bipush (v := 100) C dX7_pass_3 (by decide) ?_
  refine qr_callS C (na := 3) (As := [(.int x1), (.int (1 : Int32)), (.int (100 : Int32))]) (rest := [(.ref (ad 100))]) (k_X7_in hst D ad g (x1) ((1 : Int32)) ((100 : Int32))) gi_X7_57 ⟨by decide, by decide, by decide +kernel⟩ rfl rfl (Nat.le_of_ble_eq_true rfl) rfl rfl ⟨Nat.le_of_ble_eq_true rfl, Nat.le_of_ble_eq_true rfl⟩ ⟨Nat.le_of_ble_eq_true rfl, Nat.le_of_ble_eq_true rfl⟩ dX7_pass_5 (fun v ad2 g2 hpo => ?_)
  obtain ⟨rfl, rfl, rfl⟩ := hpo
  refine qr_if_ne C 15 dX7_pass_8 (by decide) (fun c28 => ?_) (fun c28 => ?_)
  · skip
    refine qr_aload_n C dX7_pass_15 rfl 0 rfl ?_
    refine gf_X7_92 C (100) (hM.1) rfl rfl dX7_pass_16 ?_
    refine qr_iload_n C dX7_pass_19 rfl 1 rfl ?_
    refine qr_iadd C dX7_pass_20 ?_
    refine qr_sipush (v := 10000) C dX7_pass_21 (by decide) ?_
    refine qr_icmp_le C 31 dX7_pass_24 (by decide) (fun c29 => ?_) (fun c29 => ?_)
    · skip
      refine qr_iconst (v := 0) C dX7_pass_31 (by decide) ?_
      exact M1_0 _ (by simp only [if_neg c28, if_pos c29])
    · skip
      refine qr_iconst (v := 2) C dX7_pass_27 (by decide) ?_
      refine qr_goto (tgt := 32) C dX7_pass_28 (by decide) ?_
      exact M1_0 _ (by simp only [if_neg c28, if_neg c29])
  · skip
    refine qr_iconst (v := 1) C dX7_pass_11 (by decide) ?_
    refine qr_goto (tgt := 32) C dX7_pass_12 (by decide) ?_
    exact M1_0 _ (by simp only [if_pos c28])
