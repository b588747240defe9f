/-! the equations -/
theorem qF_self {χ : Nat → Nat → Int32} : qw_upN χ 60 11 (fun i => χ (60 + i)) = χ := by
  funext t
  by_cases h : 60 ≤ t ∧ t < 60 + 11
  · obtain ⟨i, rfl⟩ := Nat.exists_eq_add_of_le h.1
    exact qw_upN_in (by omega)
  · exact qw_upN_out (by omega)
theorem qF_up {χ M : Nat → Nat → Int32} {a : Nat} (ha : a < 11) {F : Nat → Int32} : va_up (qw_upN χ 60 11 M) (60 + a) F = qw_upN χ 60 11 (va_up M a F) := by
  funext t
  by_cases h : 60 ≤ t ∧ t < 60 + 11
  · obtain ⟨i, rfl⟩ := Nat.exists_eq_add_of_le h.1
    rw [qw_upN_in (by omega)]
    by_cases e : i = a
    · subst e; rw [va_up_self, va_up_self]
    · rw [va_up_ne _ _ e, va_up_ne _ _ (by omega), qw_upN_in (by omega)]
  · rw [qw_upN_out (by omega), va_up_ne _ _ (by omega), qw_upN_out (by omega)]
theorem qF_fr {D : va_G} {χ M : Nat → Nat → Int32} {nS nE : Nat} {ad : Nat → Nat} {g : qw_G} (h : qx_P D (qw_upN χ 60 11 M) nS nE ad g) (i : Nat) (hi : i < 11) : g (60 + i) = some (.inl (D.1 20, 30, .inl (M i))) := by
  have h9 := qx_fr h i hi
  rw [qw_upN_in hi] at h9
  exact h9
theorem qF_w {D : va_G} {χ M : Nat → Nat → Int32} {nS nE : Nat} {ad : Nat → Nat} {g : qw_G} (h : qx_P D (qw_upN χ 60 11 M) nS nE ad g) (a : Nat) (ha : a < 11) (F : Nat → Int32) : qx_P D (qw_upN χ 60 11 (va_up M a F)) nS nE ad (va_up g (60 + a) (some (.inl (D.1 20, 30, .inl F)))) := by
  rw [← qF_up ha]
  exact qx_w_fac h a ha F
def cq_first (p : Nat → Bool) : Nat → Nat
  | 0 => 0
  | n + 1 => if cq_first p n < n then cq_first p n else if p n = true then n else n + 1
theorem cq_first_of {p : Nat → Bool} {n i : Nat} (h : ∀ k, k < i → p k = false) (hi : i ≤ n) (h2 : i < n → p i = true) : cq_first p n = i := by
  induction n generalizing i with
  | zero => exact (Nat.le_zero.mp hi).symm
  | succ n ih =>
    unfold cq_first
    by_cases e : i = n + 1
    · subst e
      rw [ih (i := n) (fun k hk => h k (by omega)) (Nat.le_refl _) (fun q => absurd q (by omega)), if_neg (by omega), if_neg (by rw [h n (by omega)]; decide)]
    · rw [ih h (by omega) (fun q => h2 (by omega))]
      by_cases e2 : i < n
      · rw [if_pos e2]
      · have e3 : i = n := by omega
        subst e3
        rw [if_neg e2, if_pos (h2 (by omega))]
def cq_hit (M : Nat → Nat → Int32) (e : Nat) (s : Int32) (k : Nat) : Bool := decide (sg_has s (nI k) = 0 ∧ ¬ M k e = 0)
noncomputable def cq_tells (M : Nat → Nat → Int32) (i e : Nat) : Int32 := @ite Int32 (∀ k, k < 30 → (k = e ∨ M i k = 0)) (Classical.propDecidable _) (if M i e = 0 then 0 else 1) 0
theorem sg_ls {P : Nat → Prop} {i : Nat} (h : ∀ k, k < i → P k) (h2 : P i) : ∀ k, k < i + 1 → P k := fun k hk => by
  by_cases e : k = i
  · rw [e]; exact h2
  · exact h k (by omega)
set_option maxHeartbeats 4000000 in
set_option maxRecDepth 100000 in
theorem k_X2_unspentWith {l : Launch} (hst : l.stackTraces = false) (D : va_G) (ad : Nat → Nat) (g : qw_G) (χ M : Nat → Nat → Int32) (nS nE : Nat) (hX : qx_P D (qw_upN χ 60 11 M) nS nE ad g) (e1 : Nat) (x1 x2 : Int32) (he : e1 < 30) (hx1 : x1 = nI e1) : qw_M l yX2_unspentWith [Cond.code yX2_unspentWith cX2_unspentWith 4 (some .int)] { frames := 1, cells := 0, slots := 0, locals := 40 } D ad g [(.ref (ad 4)), (.int x1), (.int x2)] (qw_kp ad g (some (.int (nI (cq_first (cq_hit M e1 x2) 11))))) 0 0 := by
  refine qw_M.of (maxL := 4) (own := RX2) (lv := [(0, (.ref (ad 4))), (1, (.int x1)), (2, (.int x2))]) hst (by decide) rfl rfl (Nat.le_of_ble_eq_true rfl) ?_
  intro p e s m args below meth c A C hin
  refine qr_iconst (v := 0) C dX2_unspentWith_0 (by decide) ?_
  refine qr_istore_n (lv' := [(3, (.int (0 : Int32))), (0, (.ref (ad 4))), (1, (.int x1)), (2, (.int x2))]) C dX2_unspentWith_1 rfl (by decide) rfl ?_
  have L2 : ∀ (j2 i2 : Nat) , i2 + j2 = 11 → (∀ k, k < i2 → cq_hit M e1 x2 k = false) → qw_W p l e { frames := 1, cells := 0, slots := 0, locals := 40 } s m args below meth c D A 4 (MQ below (qw_Q (qw_kp ad g (some (.int (nI (cq_first (cq_hit M e1 x2) 11))))) D A) args s 0 0 A) 0 0 ad g 2 [(0, (.ref (ad 4))), (1, (.int x1)), (2, (.int x2)), (3, (.int (nI i2)))] [] := by
    intro j2
    induction j2 with
    | zero =>
      intro i2  hi2  hw2
      obtain rfl : 11 = i2 := by omega
      refine qr_iload_n C dX2_unspentWith_2 rfl 3 rfl ?_
      refine qr_bipush (v := 11) C dX2_unspentWith_3 (by decide) ?_
      refine qr_icmp_ge_t C 35 dX2_unspentWith_5 (by decide) ((sg_le (11) (11) rfl rfl (by omega) (by omega)).mpr (Nat.le_refl _)) ?_
      refine qr_bipush (v := 11) C dX2_unspentWith_35 (by decide) ?_
      exact qr_iret C rfl (Nat.le_of_ble_eq_true rfl) (Nat.le_of_ble_eq_true rfl) dX2_unspentWith_37 (qw_kpn (congrArg nI (cq_first_of hw2 (Nat.le_refl _) (fun q => absurd q (Nat.lt_irrefl _)))))
    | succ j2 ih2 =>
      intro i2  hi2  hw2
      refine qr_iload_n C dX2_unspentWith_2 rfl 3 rfl ?_
      refine qr_bipush (v := 11) C dX2_unspentWith_3 (by decide) ?_
      refine qr_icmp_ge_f C 35 dX2_unspentWith_5 (by decide) (fun z => absurd ((sg_le (11) (i2) rfl rfl (by omega) (by omega)).mp z) (by omega)) ?_
      refine qr_iload_n C dX2_unspentWith_8 rfl 2 rfl ?_
      refine qr_iload_n C dX2_unspentWith_9 rfl 3 rfl ?_
      refine qr_callNS C (na := 2) (As := [(.int x2), (.int (nI i2))]) (rest := []) (k_X6_contains hst D ad g (x2) ((nI i2))) gi_X2_27.1 gi_X2_27.2.1 gi_X2_27.2.2.1 gi_X2_27.2.2.2 ⟨by decide, by decide, by decide +kernel⟩ rfl rfl (Nat.le_of_ble_eq_true rfl) rfl rfl ⟨Nat.le_of_ble_eq_true rfl, Nat.le_of_ble_eq_true rfl⟩ ⟨Nat.le_of_ble_eq_true rfl, Nat.le_of_ble_eq_true rfl⟩ dX2_unspentWith_10 (fun v ad2 gc1 hpo2 => ?_)
      obtain ⟨rfl, rfl, rfl⟩ := hpo2
      refine qr_if_ne C 29 dX2_unspentWith_13 (by decide) (fun c13 => ?_) (fun c13 => ?_)
      · skip
        refine qr_iinc (v := (nI (i2 + 1))) (lv' := [(3, (.int (nI (i2 + 1)))), (0, (.ref (ad 4))), (1, (.int x1)), (2, (.int x2))]) C dX2_unspentWith_29 (w := 3) rfl (nI_1 _) (by decide) rfl ?_
        refine qr_goto (tgt := 2) C dX2_unspentWith_32 (by decide) ?_
        refine qw_pick [1, 2, 3, 0] (lv' := [(0, (.ref (ad 4))), (1, (.int x1)), (2, (.int x2)), (3, (.int (nI (i2 + 1))))]) rfl ?_
        exact ih2 (i2 + 1)  (by omega) (sg_ls hw2 (decide_eq_false (fun h => c13 h.1)))
      · skip
        refine qr_aload_n C dX2_unspentWith_16 rfl 0 rfl ?_
        refine gf_X2_13 C (4) (qx_eq hX) rfl rfl dX2_unspentWith_17 ?_
        refine qr_iload_n C dX2_unspentWith_20 rfl 3 rfl ?_
        refine qr_aald C 7 rfl rfl (5) (qx_fa hX) rfl (j := i2) rfl (by omega) rfl (if_pos (by omega)) dX2_unspentWith_21 ?_
        refine qr_iload_n C dX2_unspentWith_22 rfl 1 rfl ?_
        refine qr_iald C (x := ((M i2) (e1))) ((60 + i2)) (qF_fr hX i2 (by omega)) rfl (j := e1) hx1 (by omega) rfl rfl dX2_unspentWith_23 ?_
        refine qr_if_eq C 29 dX2_unspentWith_24 (by decide) (fun c24 => ?_) (fun c24 => ?_)
        · skip
          refine qr_iinc (v := (nI (i2 + 1))) (lv' := [(3, (.int (nI (i2 + 1)))), (0, (.ref (ad 4))), (1, (.int x1)), (2, (.int x2))]) C dX2_unspentWith_29 (w := 3) rfl (nI_1 _) (by decide) rfl ?_
          refine qr_goto (tgt := 2) C dX2_unspentWith_32 (by decide) ?_
          refine qw_pick [1, 2, 3, 0] (lv' := [(0, (.ref (ad 4))), (1, (.int x1)), (2, (.int x2)), (3, (.int (nI (i2 + 1))))]) rfl ?_
          exact ih2 (i2 + 1)  (by omega) (sg_ls hw2 (decide_eq_false (fun h => h.2 c24)))
        · skip
          refine qr_iload_n C dX2_unspentWith_27 rfl 3 rfl ?_
          exact qr_iret C rfl (Nat.le_of_ble_eq_true rfl) (Nat.le_of_ble_eq_true rfl) dX2_unspentWith_28 (qw_kpn (congrArg nI (cq_first_of hw2 (by omega) (fun _ => decide_eq_true ⟨c13, c24⟩))))
  refine qw_pick [1, 2, 3, 0] (lv' := [(0, (.ref (ad 4))), (1, (.int x1)), (2, (.int x2)), (3, (.int (0 : Int32)))]) rfl ?_
  exact L2 (11) 0  (by omega) (fun k hk => absurd hk (by omega))
set_option maxHeartbeats 4000000 in
set_option maxRecDepth 100000 in
theorem k_X2_tellsOnly {l : Launch} (hst : l.stackTraces = false) (D : va_G) (ad : Nat → Nat) (g : qw_G) (χ M : Nat → Nat → Int32) (nS nE : Nat) (hX : qx_P D (qw_upN χ 60 11 M) nS nE ad g) (i1 e1 : Nat) (x1 x2 : Int32) (hi : i1 < 11) (he : e1 < 30) (hx1 : x1 = nI i1) (hx2 : x2 = nI e1) : qw_M l yX2_tellsOnly [Cond.code yX2_tellsOnly cX2_tellsOnly 4 (some .boolean)] { frames := 0, cells := 0, slots := 0, locals := 0 } D ad g [(.ref (ad 4)), (.int x1), (.int x2)] (qw_kp ad g (some (.int (cq_tells M i1 e1)))) 0 0 := by
  refine qw_M.of (maxL := 4) (own := RX2) (lv := [(0, (.ref (ad 4))), (1, (.int x1)), (2, (.int x2))]) hst (by decide) rfl rfl (Nat.le_of_ble_eq_true rfl) ?_
  intro p e s m args below meth c A C hin
  refine qr_iconst (v := 0) C dX2_tellsOnly_0 (by decide) ?_
  refine qr_istore_n (lv' := [(3, (.int (0 : Int32))), (0, (.ref (ad 4))), (1, (.int x1)), (2, (.int x2))]) C dX2_tellsOnly_1 rfl (by decide) rfl ?_
  have L2 : ∀ (j2 i2 : Nat) , i2 + j2 = 30 → (∀ k, k < i2 → (k = e1 ∨ M i1 k = 0)) → qw_W p l e { frames := 0, cells := 0, slots := 0, locals := 0 } s m args below meth c D A 4 (MQ below (qw_Q (qw_kp ad g (some (.int (cq_tells M i1 e1)))) D A) args s 0 0 A) 0 0 ad g 2 [(0, (.ref (ad 4))), (1, (.int x1)), (2, (.int x2)), (3, (.int (nI i2)))] [] := by
    intro j2
    induction j2 with
    | zero =>
      intro i2  hi2  hw2
      obtain rfl : 30 = i2 := by omega
      refine qr_iload_n C dX2_tellsOnly_2 rfl 3 rfl ?_
      refine qr_bipush (v := 30) C dX2_tellsOnly_3 (by decide) ?_
      refine qr_icmp_ge_t C 32 dX2_tellsOnly_5 (by decide) ((sg_le (30) (30) rfl rfl (by omega) (by omega)).mpr (Nat.le_refl _)) ?_
      refine qr_aload_n C dX2_tellsOnly_32 rfl 0 rfl ?_
      refine gf_X2_13 C (4) (qx_eq hX) rfl rfl dX2_tellsOnly_33 ?_
      refine qr_iload_n C dX2_tellsOnly_36 rfl 1 rfl ?_
      refine qr_aald C 7 rfl rfl (5) (qx_fa hX) rfl (j := i1) hx1 (by omega) rfl (if_pos (by omega)) dX2_tellsOnly_37 ?_
      refine qr_iload_n C dX2_tellsOnly_38 rfl 2 rfl ?_
      refine qr_iald C (x := ((M i1) (e1))) ((60 + i1)) (qF_fr hX i1 (by omega)) rfl (j := e1) hx2 (by omega) rfl rfl dX2_tellsOnly_39 ?_
      refine qr_if_eq C 47 dX2_tellsOnly_40 (by decide) (fun c40 => ?_) (fun c40 => ?_)
      · skip
        refine qr_iconst (v := 0) C dX2_tellsOnly_47 (by decide) ?_
        exact qr_zret C rfl (by decide) (Nat.le_of_ble_eq_true rfl) (Nat.le_of_ble_eq_true rfl) dX2_tellsOnly_48 (qw_kpn ((if_pos hw2).trans (if_pos c40)))
      · skip
        refine qr_iconst (v := 1) C dX2_tellsOnly_43 (by decide) ?_
        refine qr_goto (tgt := 48) C dX2_tellsOnly_44 (by decide) ?_
        exact qr_zret C rfl (by decide) (Nat.le_of_ble_eq_true rfl) (Nat.le_of_ble_eq_true rfl) dX2_tellsOnly_48 (qw_kpn ((if_pos hw2).trans (if_neg c40)))
    | succ j2 ih2 =>
      intro i2  hi2  hw2
      refine qr_iload_n C dX2_tellsOnly_2 rfl 3 rfl ?_
      refine qr_bipush (v := 30) C dX2_tellsOnly_3 (by decide) ?_
      refine qr_icmp_ge_f C 32 dX2_tellsOnly_5 (by decide) (fun z => absurd ((sg_le (30) (i2) rfl rfl (by omega) (by omega)).mp z) (by omega)) ?_
      refine qr_iload_n C dX2_tellsOnly_8 rfl 3 rfl ?_
      refine qr_iload_n C dX2_tellsOnly_9 rfl 2 rfl ?_
      refine qr_icmp_eq C 26 dX2_tellsOnly_10 (by decide) (fun c10 => ?_) (fun c10 => ?_)
      · skip
        refine qr_iinc (v := (nI (i2 + 1))) (lv' := [(3, (.int (nI (i2 + 1)))), (0, (.ref (ad 4))), (1, (.int x1)), (2, (.int x2))]) C dX2_tellsOnly_26 (w := 3) rfl (nI_1 _) (by decide) rfl ?_
        refine qr_goto (tgt := 2) C dX2_tellsOnly_29 (by decide) ?_
        refine qw_pick [1, 2, 3, 0] (lv' := [(0, (.ref (ad 4))), (1, (.int x1)), (2, (.int x2)), (3, (.int (nI (i2 + 1))))]) rfl ?_
        exact ih2 (i2 + 1)  (by omega) (sg_ls hw2 (Or.inl ((sg_eq i2 e1 rfl hx2 (by omega) (by omega)).mp c10)))
      · skip
        refine qr_aload_n C dX2_tellsOnly_13 rfl 0 rfl ?_
        refine gf_X2_13 C (4) (qx_eq hX) rfl rfl dX2_tellsOnly_14 ?_
        refine qr_iload_n C dX2_tellsOnly_17 rfl 1 rfl ?_
        refine qr_aald C 7 rfl rfl (5) (qx_fa hX) rfl (j := i1) hx1 (by omega) rfl (if_pos (by omega)) dX2_tellsOnly_18 ?_
        refine qr_iload_n C dX2_tellsOnly_19 rfl 3 rfl ?_
        refine qr_iald C (x := ((M i1) (i2))) ((60 + i1)) (qF_fr hX i1 (by omega)) rfl (j := i2) rfl (by omega) rfl rfl dX2_tellsOnly_20 ?_
        refine qr_if_eq C 26 dX2_tellsOnly_21 (by decide) (fun c21 => ?_) (fun c21 => ?_)
        · skip
          refine qr_iinc (v := (nI (i2 + 1))) (lv' := [(3, (.int (nI (i2 + 1)))), (0, (.ref (ad 4))), (1, (.int x1)), (2, (.int x2))]) C dX2_tellsOnly_26 (w := 3) rfl (nI_1 _) (by decide) rfl ?_
          refine qr_goto (tgt := 2) C dX2_tellsOnly_29 (by decide) ?_
          refine qw_pick [1, 2, 3, 0] (lv' := [(0, (.ref (ad 4))), (1, (.int x1)), (2, (.int x2)), (3, (.int (nI (i2 + 1))))]) rfl ?_
          exact ih2 (i2 + 1)  (by omega) (sg_ls hw2 (Or.inr c21))
        · skip
          refine qr_iconst (v := 0) C dX2_tellsOnly_24 (by decide) ?_
          exact qr_zret C rfl (by decide) (Nat.le_of_ble_eq_true rfl) (Nat.le_of_ble_eq_true rfl) dX2_tellsOnly_25 (qw_kpn (if_neg (fun h => (h i2 (by omega)).elim (fun e => c10 ((sg_eq i2 e1 rfl hx2 (by omega) (by omega)).mpr e)) c21)))
  refine qw_pick [1, 2, 3, 0] (lv' := [(0, (.ref (ad 4))), (1, (.int x1)), (2, (.int x2)), (3, (.int (0 : Int32)))]) rfl ?_
  exact L2 (30) 0  (by omega) (fun k hk => absurd hk (by omega))
def cq_row (own oth : Int32) (rc : Nat → Int32) (k : Nat) (r : Nat → Int32) : Nat → Int32 := upd r k (r k * own - rc k * oth)
def cq_remi (e c : Nat) (own : Int32) (i : Nat) (M : Nat → Nat → Int32) : Nat → Nat → Int32 := if i = c then M else if M i e = 0 then M else va_up M i (sg_it (cq_row own (M i e) (M c)) (M i) 30)
def cq_rem (M : Nat → Nat → Int32) (e c : Nat) : Nat → Nat → Int32 := sg_it (cq_remi e c (M c e)) M 11
theorem va_up_id {α : Type} {f : Nat → α} {t : Nat} : va_up f t (f t) = f := by
  funext u
  by_cases h : u = t
  · subst h; exact va_up_self _ _ _
  · exact va_up_ne _ _ h
set_option maxHeartbeats 4000000 in
set_option maxRecDepth 100000 in
theorem k_X2_removeFromOthers {l : Launch} (hst : l.stackTraces = false) (D : va_G) (ad : Nat → Nat) (g : qw_G) (χ M : Nat → Nat → Int32) (nS nE : Nat) (hX : qx_P D (qw_upN χ 60 11 M) nS nE ad g) (e1 c1 : Nat) (x1 x2 : Int32) (he : e1 < 30) (hc : c1 < 11) (hx1 : x1 = nI e1) (hx2 : x2 = nI c1) : qw_M l yX2_removeFromOthers [Cond.code yX2_removeFromOthers cX2_removeFromOthers 7 none] { frames := 0, cells := 0, slots := 0, locals := 0 } D ad g [(.ref (ad 4)), (.int x1), (.int x2)] (qx_to D ad g nS nE none (qw_upN χ 60 11 (cq_rem M e1 c1))) 0 0 := by
  refine qw_M.of (maxL := 7) (own := RX2) (lv := [(0, (.ref (ad 4))), (1, (.int x1)), (2, (.int x2))]) hst (by decide) rfl rfl (Nat.le_of_ble_eq_true rfl) ?_
  intro p e s m args below meth c A C hin
  refine qr_aload_n C dX2_removeFromOthers_0 rfl 0 rfl ?_
  refine gf_X2_13 C (4) (qx_eq hX) rfl rfl dX2_removeFromOthers_1 ?_
  refine qr_iload_n C dX2_removeFromOthers_4 rfl 2 rfl ?_
  refine qr_aald C 7 rfl rfl (5) (qx_fa hX) rfl (j := c1) hx2 (by omega) rfl (if_pos (by omega)) dX2_removeFromOthers_5 ?_
  refine qr_iload_n C dX2_removeFromOthers_6 rfl 1 rfl ?_
  refine qr_iald C (x := ((M c1) (e1))) ((60 + c1)) (qF_fr hX c1 (by omega)) rfl (j := e1) hx1 (by omega) rfl rfl dX2_removeFromOthers_7 ?_
  refine qr_istore_n (lv' := [(3, (.int ((M c1) (e1)))), (0, (.ref (ad 4))), (1, (.int x1)), (2, (.int x2))]) C dX2_removeFromOthers_8 rfl (by decide) rfl ?_
  refine qr_iconst (v := 0) C dX2_removeFromOthers_9 (by decide) ?_
  refine qr_istore (lv' := [(4, (.int (0 : Int32))), (3, (.int ((M c1) (e1)))), (0, (.ref (ad 4))), (1, (.int x1)), (2, (.int x2))]) C dX2_removeFromOthers_10 (by decide) rfl ?_
  have L12 : ∀ (j12 i12 : Nat) (gl12 : qw_G) , i12 + j12 = 11 → (qx_P D (qw_upN χ 60 11 (sg_it (cq_remi e1 c1 (M c1 e1)) M i12)) nS nE ad gl12 ∧ ∀ t, (100 ≤ t ∧ t < 1000) → gl12 t = g t) → qw_W p l e { frames := 0, cells := 0, slots := 0, locals := 0 } s m args below meth c D A 7 (MQ below (qw_Q (qx_to D ad g nS nE none (qw_upN χ 60 11 (cq_rem M e1 c1))) D A) args s 0 0 A) 0 0 ad gl12 12 [(0, (.ref (ad 4))), (1, (.int x1)), (2, (.int x2)), (3, (.int ((M c1) (e1)))), (4, (.int (nI i12)))] [] := by
    intro j12
    induction j12 with
    | zero =>
      intro i12 gl12  hi12  hw12
      obtain rfl : 11 = i12 := by omega
      obtain ⟨hX2, hfr2⟩ := hw12
      refine qr_iload C dX2_removeFromOthers_12 4 rfl ?_
      refine qr_bipush (v := 11) C dX2_removeFromOthers_14 (by decide) ?_
      refine qr_icmp_ge_t C 98 dX2_removeFromOthers_16 (by decide) ((sg_le (11) (11) rfl rfl (by omega) (by omega)).mpr (Nat.le_refl _)) ?_
      exact qr_vret C rfl (Nat.le_of_ble_eq_true rfl) (Nat.le_of_ble_eq_true rfl) dX2_removeFromOthers_98 (⟨rfl, rfl, hX2, fun t1 ht1 => ((hfr2 t1 ht1).trans rfl)⟩)
    | succ j12 ih12 =>
      intro i12 gl12  hi12  hw12
      obtain ⟨hX2, hfr2⟩ := hw12
      refine qr_iload C dX2_removeFromOthers_12 4 rfl ?_
      refine qr_bipush (v := 11) C dX2_removeFromOthers_14 (by decide) ?_
      refine qr_icmp_ge_f C 98 dX2_removeFromOthers_16 (by decide) (fun z => absurd ((sg_le (11) (i12) rfl rfl (by omega) (by omega)).mp z) (by omega)) ?_
      refine qr_aload_n C dX2_removeFromOthers_19 rfl 0 rfl ?_
      refine gf_X2_13 C (4) (qx_eq hX2) rfl rfl dX2_removeFromOthers_20 ?_
      refine qr_iload C dX2_removeFromOthers_23 4 rfl ?_
      refine qr_aald C 7 rfl rfl (5) (qx_fa hX2) rfl (j := i12) rfl (by omega) rfl (if_pos (by omega)) dX2_removeFromOthers_25 ?_
      refine qr_iload_n C dX2_removeFromOthers_26 rfl 1 rfl ?_
      refine qr_iald C (x := (((sg_it (cq_remi e1 c1 (M c1 e1)) M i12) i12) (e1))) ((60 + i12)) (qF_fr hX2 i12 (by omega)) rfl (j := e1) hx1 (by omega) rfl rfl dX2_removeFromOthers_27 ?_
      refine qr_istore (lv' := [(5, (.int (((sg_it (cq_remi e1 c1 (M c1 e1)) M i12) i12) (e1)))), (0, (.ref (ad 4))), (1, (.int x1)), (2, (.int x2)), (3, (.int ((M c1) (e1)))), (4, (.int (nI i12)))]) C dX2_removeFromOthers_28 (by decide) rfl ?_
      refine qr_iload C dX2_removeFromOthers_30 5 rfl ?_
      refine qr_iload_n C dX2_removeFromOthers_32 rfl 3 rfl ?_
      refine qr_icmp_eq C 92 dX2_removeFromOthers_33 (by decide) (fun c33 => ?_) (fun c33 => ?_)
      · skip
        refine qr_iinc (v := (nI (i12 + 1))) (lv' := [(4, (.int (nI (i12 + 1)))), (5, (.int (((sg_it (cq_remi e1 c1 (M c1 e1)) M i12) i12) (e1)))), (0, (.ref (ad 4))), (1, (.int x1)), (2, (.int x2)), (3, (.int ((M c1) (e1))))]) C dX2_removeFromOthers_92 (w := 5) rfl (nI_1 _) (by decide) rfl ?_
        refine qr_goto (tgt := 12) C dX2_removeFromOthers_95 (by decide) ?_
        refine qw_pick [2, 3, 4, 5, 0] (lv' := [(0, (.ref (ad 4))), (1, (.int x1)), (2, (.int x2)), (3, (.int ((M c1) (e1)))), (4, (.int (nI (i12 + 1))))]) rfl ?_
        exact ih12 (i12 + 1) gl12  (by omega) ⟨(by rw [show (sg_it (cq_remi e1 c1 (M c1 e1)) M (i12 + 1)) = _ from if_pos ((sg_eq i12 c1 rfl hx2 (by omega) (by omega)).mp c33)]; exact hX2), fun t1 ht1 => ((hfr2 t1 ht1).trans rfl)⟩
      · skip
        refine qr_iload C dX2_removeFromOthers_36 0 rfl ?_
        refine qr_if_eq C 92 dX2_removeFromOthers_38 (by decide) (fun c38 => ?_) (fun c38 => ?_)
        · skip
          refine qr_iinc (v := (nI (i12 + 1))) (lv' := [(4, (.int (nI (i12 + 1)))), (5, (.int (((sg_it (cq_remi e1 c1 (M c1 e1)) M i12) i12) (e1)))), (0, (.ref (ad 4))), (1, (.int x1)), (2, (.int x2)), (3, (.int ((M c1) (e1))))]) C dX2_removeFromOthers_92 (w := 5) rfl (nI_1 _) (by decide) rfl ?_
          refine qr_goto (tgt := 12) C dX2_removeFromOthers_95 (by decide) ?_
          refine qw_pick [2, 3, 4, 5, 0] (lv' := [(0, (.ref (ad 4))), (1, (.int x1)), (2, (.int x2)), (3, (.int ((M c1) (e1)))), (4, (.int (nI (i12 + 1))))]) rfl ?_
          exact ih12 (i12 + 1) gl12  (by omega) ⟨(by rw [show (sg_it (cq_remi e1 c1 (M c1 e1)) M (i12 + 1)) = _ from (if_neg (fun q => c33 ((sg_eq i12 c1 rfl hx2 (by omega) (by omega)).mpr q))).trans (if_pos c38)]; exact hX2), fun t1 ht1 => ((hfr2 t1 ht1).trans rfl)⟩
        · skip
          refine qr_iconst (v := 0) C dX2_removeFromOthers_41 (by decide) ?_
          refine qr_istore (lv' := [(6, (.int (0 : Int32))), (5, (.int (((sg_it (cq_remi e1 c1 (M c1 e1)) M i12) i12) (e1)))), (0, (.ref (ad 4))), (1, (.int x1)), (2, (.int x2)), (3, (.int ((M c1) (e1)))), (4, (.int (nI i12)))]) C dX2_removeFromOthers_42 (by decide) rfl ?_
          have hnc : c1 ≠ i12 := fun q => c33 ((sg_eq i12 c1 rfl hx2 (by omega) (by omega)).mpr q.symm)
          have L44 : ∀ (j44 i44 : Nat) (gl44 : qw_G) , i44 + j44 = 30 → (qx_P D (qw_upN χ 60 11 (va_up (sg_it (cq_remi e1 c1 (M c1 e1)) M i12) i12 (sg_it (cq_row (M c1 e1) ((sg_it (cq_remi e1 c1 (M c1 e1)) M i12) i12 e1) ((sg_it (cq_remi e1 c1 (M c1 e1)) M i12) c1)) ((sg_it (cq_remi e1 c1 (M c1 e1)) M i12) i12) i44))) nS nE ad gl44 ∧ ∀ t, (100 ≤ t ∧ t < 1000) → gl44 t = g t) → qw_W p l e { frames := 0, cells := 0, slots := 0, locals := 0 } s m args below meth c D A 7 (MQ below (qw_Q (qx_to D ad g nS nE none (qw_upN χ 60 11 (cq_rem M e1 c1))) D A) args s 0 0 A) 0 0 ad gl44 44 [(0, (.ref (ad 4))), (1, (.int x1)), (2, (.int x2)), (3, (.int ((M c1) (e1)))), (4, (.int (nI i12))), (5, (.int (((sg_it (cq_remi e1 c1 (M c1 e1)) M i12) i12) (e1)))), (6, (.int (nI i44)))] [] := by
            intro j44
            induction j44 with
            | zero =>
              intro i44 gl44  hi44  hw44
              obtain rfl : 30 = i44 := by omega
              obtain ⟨hX4, hfr4⟩ := hw44
              refine qr_iload C dX2_removeFromOthers_44 6 rfl ?_
              refine qr_bipush (v := 30) C dX2_removeFromOthers_46 (by decide) ?_
              refine qr_icmp_ge_t C 92 dX2_removeFromOthers_48 (by decide) ((sg_le (30) (30) rfl rfl (by omega) (by omega)).mpr (Nat.le_refl _)) ?_
              refine qr_iinc (v := (nI (i12 + 1))) (lv' := [(4, (.int (nI (i12 + 1)))), (0, (.ref (ad 4))), (1, (.int x1)), (2, (.int x2)), (3, (.int ((M c1) (e1)))), (5, (.int (((sg_it (cq_remi e1 c1 (M c1 e1)) M i12) i12) (e1)))), (6, (.int (nI (30))))]) C dX2_removeFromOthers_92 (w := 4) rfl (nI_1 _) (by decide) rfl ?_
              refine qr_goto (tgt := 12) C dX2_removeFromOthers_95 (by decide) ?_
              refine qw_pick [1, 2, 3, 4, 0] (lv' := [(0, (.ref (ad 4))), (1, (.int x1)), (2, (.int x2)), (3, (.int ((M c1) (e1)))), (4, (.int (nI (i12 + 1))))]) rfl ?_
              exact ih12 (i12 + 1) gl44  (by omega) ⟨(by rw [show (sg_it (cq_remi e1 c1 (M c1 e1)) M (i12 + 1)) = _ from (if_neg (fun q => c33 ((sg_eq i12 c1 rfl hx2 (by omega) (by omega)).mpr q))).trans (if_neg c38)]; exact hX4), fun t1 ht1 => ((hfr4 t1 ht1).trans rfl)⟩
            | succ j44 ih44 =>
              intro i44 gl44  hi44  hw44
              obtain ⟨hX4, hfr4⟩ := hw44
              refine qr_iload C dX2_removeFromOthers_44 6 rfl ?_
              refine qr_bipush (v := 30) C dX2_removeFromOthers_46 (by decide) ?_
              refine qr_icmp_ge_f C 92 dX2_removeFromOthers_48 (by decide) (fun z => absurd ((sg_le (30) (i44) rfl rfl (by omega) (by omega)).mp z) (by omega)) ?_
              refine qr_aload_n C dX2_removeFromOthers_51 rfl 0 rfl ?_
              refine gf_X2_13 C (4) (qx_eq hX4) rfl rfl dX2_removeFromOthers_52 ?_
              refine qr_iload C dX2_removeFromOthers_55 4 rfl ?_
              refine qr_aald C 7 rfl rfl (5) (qx_fa hX4) rfl (j := i12) rfl (by omega) rfl (if_pos (by omega)) dX2_removeFromOthers_57 ?_
              refine qr_iload C dX2_removeFromOthers_58 6 rfl ?_
              refine qr_aload_n C dX2_removeFromOthers_60 rfl 0 rfl ?_
              refine gf_X2_13 C (4) (qx_eq hX4) rfl rfl dX2_removeFromOthers_61 ?_
              refine qr_iload C dX2_removeFromOthers_64 4 rfl ?_
              refine qr_aald C 7 rfl rfl (5) (qx_fa hX4) rfl (j := i12) rfl (by omega) rfl (if_pos (by omega)) dX2_removeFromOthers_66 ?_
              refine qr_iload C dX2_removeFromOthers_67 6 rfl ?_
              refine qr_iald C (x := (((va_up (sg_it (cq_remi e1 c1 (M c1 e1)) M i12) i12 (sg_it (cq_row (M c1 e1) ((sg_it (cq_remi e1 c1 (M c1 e1)) M i12) i12 e1) ((sg_it (cq_remi e1 c1 (M c1 e1)) M i12) c1)) ((sg_it (cq_remi e1 c1 (M c1 e1)) M i12) i12) i44)) i12) (i44))) ((60 + i12)) (qF_fr hX4 i12 (by omega)) rfl (j := i44) rfl (by omega) rfl rfl dX2_removeFromOthers_69 ?_
              refine qr_iload_n C dX2_removeFromOthers_70 rfl 3 rfl ?_
              refine qr_imul C dX2_removeFromOthers_71 ?_
              refine qr_aload_n C dX2_removeFromOthers_72 rfl 0 rfl ?_
              refine gf_X2_13 C (4) (qx_eq hX4) rfl rfl dX2_removeFromOthers_73 ?_
              refine qr_iload_n C dX2_removeFromOthers_76 rfl 2 rfl ?_
              refine qr_aald C 7 rfl rfl (5) (qx_fa hX4) rfl (j := c1) hx2 (by omega) rfl (if_pos (by omega)) dX2_removeFromOthers_77 ?_
              refine qr_iload C dX2_removeFromOthers_78 6 rfl ?_
              refine qr_iald C (x := (((va_up (sg_it (cq_remi e1 c1 (M c1 e1)) M i12) i12 (sg_it (cq_row (M c1 e1) ((sg_it (cq_remi e1 c1 (M c1 e1)) M i12) i12 e1) ((sg_it (cq_remi e1 c1 (M c1 e1)) M i12) c1)) ((sg_it (cq_remi e1 c1 (M c1 e1)) M i12) i12) i44)) c1) (i44))) ((60 + c1)) (qF_fr hX4 c1 (by omega)) rfl (j := i44) rfl (by omega) rfl rfl dX2_removeFromOthers_80 ?_
              refine qr_iload C dX2_removeFromOthers_81 5 rfl ?_
              refine qr_imul C dX2_removeFromOthers_83 ?_
              refine qr_isub C dX2_removeFromOthers_84 ?_
              refine qr_iast C ((60 + i12)) (qF_fr hX4 i12 (by omega)) rfl (j := i44) rfl (by omega) rfl dX2_removeFromOthers_85 ?_
              generalize hg2 : va_up gl44 ((60 + i12)) _ = g1
              have hX3 : qx_P D (qw_upN χ 60 11 (va_up (va_up (sg_it (cq_remi e1 c1 (M c1 e1)) M i12) i12 (sg_it (cq_row (M c1 e1) ((sg_it (cq_remi e1 c1 (M c1 e1)) M i12) i12 e1) ((sg_it (cq_remi e1 c1 (M c1 e1)) M i12) c1)) ((sg_it (cq_remi e1 c1 (M c1 e1)) M i12) i12) i44)) i12 (upd ((va_up (sg_it (cq_remi e1 c1 (M c1 e1)) M i12) i12 (sg_it (cq_row (M c1 e1) ((sg_it (cq_remi e1 c1 (M c1 e1)) M i12) i12 e1) ((sg_it (cq_remi e1 c1 (M c1 e1)) M i12) c1)) ((sg_it (cq_remi e1 c1 (M c1 e1)) M i12) i12) i44)) i12) (i44) (((((va_up (sg_it (cq_remi e1 c1 (M c1 e1)) M i12) i12 (sg_it (cq_row (M c1 e1) ((sg_it (cq_remi e1 c1 (M c1 e1)) M i12) i12 e1) ((sg_it (cq_remi e1 c1 (M c1 e1)) M i12) c1)) ((sg_it (cq_remi e1 c1 (M c1 e1)) M i12) i12) i44)) i12) (i44)) * ((M c1) (e1))) - ((((va_up (sg_it (cq_remi e1 c1 (M c1 e1)) M i12) i12 (sg_it (cq_row (M c1 e1) ((sg_it (cq_remi e1 c1 (M c1 e1)) M i12) i12 e1) ((sg_it (cq_remi e1 c1 (M c1 e1)) M i12) c1)) ((sg_it (cq_remi e1 c1 (M c1 e1)) M i12) i12) i44)) c1) (i44)) * (((sg_it (cq_remi e1 c1 (M c1 e1)) M i12) i12) (e1))))))) nS nE ad g1 := by rw [← hg2]; exact qF_w hX4 i12 (by omega) (upd ((va_up (sg_it (cq_remi e1 c1 (M c1 e1)) M i12) i12 (sg_it (cq_row (M c1 e1) ((sg_it (cq_remi e1 c1 (M c1 e1)) M i12) i12 e1) ((sg_it (cq_remi e1 c1 (M c1 e1)) M i12) c1)) ((sg_it (cq_remi e1 c1 (M c1 e1)) M i12) i12) i44)) i12) (i44) (((((va_up (sg_it (cq_remi e1 c1 (M c1 e1)) M i12) i12 (sg_it (cq_row (M c1 e1) ((sg_it (cq_remi e1 c1 (M c1 e1)) M i12) i12 e1) ((sg_it (cq_remi e1 c1 (M c1 e1)) M i12) c1)) ((sg_it (cq_remi e1 c1 (M c1 e1)) M i12) i12) i44)) i12) (i44)) * ((M c1) (e1))) - ((((va_up (sg_it (cq_remi e1 c1 (M c1 e1)) M i12) i12 (sg_it (cq_row (M c1 e1) ((sg_it (cq_remi e1 c1 (M c1 e1)) M i12) i12 e1) ((sg_it (cq_remi e1 c1 (M c1 e1)) M i12) c1)) ((sg_it (cq_remi e1 c1 (M c1 e1)) M i12) i12) i44)) c1) (i44)) * (((sg_it (cq_remi e1 c1 (M c1 e1)) M i12) i12) (e1)))))
              refine qr_iinc (v := (nI (i44 + 1))) (lv' := [(6, (.int (nI (i44 + 1)))), (0, (.ref (ad 4))), (1, (.int x1)), (2, (.int x2)), (3, (.int ((M c1) (e1)))), (4, (.int (nI i12))), (5, (.int (((sg_it (cq_remi e1 c1 (M c1 e1)) M i12) i12) (e1))))]) C dX2_removeFromOthers_86 (w := 6) rfl (nI_1 _) (by decide) rfl ?_
              refine qr_goto (tgt := 44) C dX2_removeFromOthers_89 (by decide) ?_
              refine qw_pick [1, 2, 3, 4, 5, 6, 0] (lv' := [(0, (.ref (ad 4))), (1, (.int x1)), (2, (.int x2)), (3, (.int ((M c1) (e1)))), (4, (.int (nI i12))), (5, (.int (((sg_it (cq_remi e1 c1 (M c1 e1)) M i12) i12) (e1)))), (6, (.int (nI (i44 + 1))))]) rfl ?_
              exact ih44 (i44 + 1) g1  (by omega) ⟨(by have h9 := hX3; simp only [bx_uu, va_up_self, va_up_ne _ _ hnc] at h9; exact h9), fun t1 ht1 => ((congrFun hg2 t1).symm.trans ((va_up_ne _ _ (by omega)).trans ((hfr4 t1 ht1).trans rfl)))⟩
          refine qw_pick [2, 3, 4, 5, 6, 1, 0] (lv' := [(0, (.ref (ad 4))), (1, (.int x1)), (2, (.int x2)), (3, (.int ((M c1) (e1)))), (4, (.int (nI i12))), (5, (.int (((sg_it (cq_remi e1 c1 (M c1 e1)) M i12) i12) (e1)))), (6, (.int (0 : Int32)))]) rfl ?_
          exact L44 (30) 0 gl12  (by omega) ⟨(by rw [show (va_up (sg_it (cq_remi e1 c1 (M c1 e1)) M i12) i12 (sg_it (cq_row (M c1 e1) ((sg_it (cq_remi e1 c1 (M c1 e1)) M i12) i12 e1) ((sg_it (cq_remi e1 c1 (M c1 e1)) M i12) c1)) ((sg_it (cq_remi e1 c1 (M c1 e1)) M i12) i12) 0)) = (sg_it (cq_remi e1 c1 (M c1 e1)) M i12) from va_up_id]; exact hX2), fun t1 ht1 => ((hfr2 t1 ht1).trans rfl)⟩
  refine qw_pick [2, 3, 4, 1, 0] (lv' := [(0, (.ref (ad 4))), (1, (.int x1)), (2, (.int x2)), (3, (.int ((M c1) (e1)))), (4, (.int (0 : Int32)))]) rfl ?_
  exact L12 (11) 0 g  (by omega) ⟨hX, fun _ _ => rfl⟩
