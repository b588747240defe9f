/-! the law's wrappers: what the class throws becomes a number -/
theorem qw_T.ofH {l : Launch} {D : va_G} {ad : Nat → Nat} {g : qw_G} {y : MethodName} {rm : Room} {cc : ByteArray} {maxL : Nat} {ret : Option FieldType} {own : String} {av : List Value} {lv : List (Nat × Value)} {post : Option Value → (Nat → Nat) → qw_G → Prop} {px : String → Prop} {mc ms : Nat} {hh : List (Nat × Nat × Nat × Nat)} (hst : l.stackTraces = false) (hy : plainName y.cls = true) (hown : y.cls = own) (hlv : lv_args 0 av = lv) (hlen : (lg_sl av).length ≤ maxL)
    (body : ∀ p e s m args below meth c A, qw_C p l s m args meth c D A maxL cc own ret → c.exceptionTable.toList = tableOf hh → qw_W p l e rm s m args below meth c D A maxL (vx_MQ below (qw_Q post D A) (qw_X px D A ad g) args s mc ms A) 0 0 ad g 0 lv []) : qw_T l y [Cond.codeWith y cc maxL ret hh] rm D ad g av post px mc ms := by
  intro sz
  refine vx_ofWH (cc := cc) (maxL := maxL) (ret := ret) (hh := hh) hy rfl ?_
  intro p e s m args below meth c s₁ B hml hv
  obtain ⟨rfl, hv⟩ := hv
  have ht := vx_table (x := y) B (atoms_spec (ws := [Cond.codeWith y cc maxL ret hh]) B.pre _ List.mem_cons_self)
  have C := qw_enterC (own := own) hst B hml hown hv
  rw [lg_entry_eq]
  exact body p e s m _ below meth c _ C ht s.heap [] _ hv.2.1 hv.2.2.2.1.self va_S.rf (by rw [← hlv]; exact lv_entry av hlen)
/-- what a wrapper does: the class's answer at the place 150, or a number -/
def qx_wp (D : va_G) (ad : Nat → Nat) (g : qw_G) (F : Nat → Int64) (ov : Int32 → Int64) (cp : Option Value → (Nat → Nat) → qw_G → Prop) (pk : Int32 → Prop) : Option Value → (Nat → Nat) → qw_G → Prop := fun v' ad' g'' => (∃ V g', cp (some (.int V)) ad' g' ∧ some (.int 0) = v' ∧ va_up g' 150 (some (.inl (D.1 22, 1, .inr (.inl (vp_updL F 0 (ov V)))))) = g'') ∨ (∃ k, pk k ∧ some (.int k) = v' ∧ ad = ad' ∧ g = g'')
def qx_cp (ad : Nat → Nat) (g : qw_G) (cp : Option Value → (Nat → Nat) → qw_G → Prop) : Prop := ∀ v ad' g', cp v ad' g' → (∃ V, v = some (.int V)) ∧ g' 150 = g 150 ∧ ad' 150 = ad 150
def qx_oi (V : Int32) : Int64 := V.toInt64
def qx_ob (V : Int32) : Int64 := if V = 0 then 0 else 1
set_option maxRecDepth 20000 in
theorem gh_1 : (Cond.classLink RL 13 qw_E1) ∈ qw_Ts ∧ (Cond.castable qw_E1 qw_E1) ∈ qw_Ts := by decide +kernel
set_option maxRecDepth 20000 in
theorem gh_2 : (Cond.classLink RL 15 qw_E2) ∈ qw_Ts ∧ (Cond.castable qw_E2 qw_E2) ∈ qw_Ts := by decide +kernel
set_option maxRecDepth 20000 in
theorem gh_3 : (Cond.classLink RL 17 qw_E3) ∈ qw_Ts ∧ (Cond.castable qw_E3 qw_E3) ∈ qw_Ts := by decide +kernel
set_option maxHeartbeats 4000000 in
set_option maxRecDepth 100000 in
theorem k_L_sale {l : Launch} (hst : l.stackTraces = false) (D : va_G) (ad : Nat → Nat) (g : qw_G) (x1 x2 x3 x4 : Int32) (F : Nat → Int64) (hO : g 150 = some (.inl (D.1 22, 1, .inr (.inl F)))) {fs : List Value} (h0 : g 0 = some (.inr (5, fs))) (cp : Option Value → (Nat → Nat) → qw_G → Prop) (px : String → Prop) (pk : Int32 → Prop) (hM : qw_T l yX6_sale [Cond.code yX6_sale cX6_sale 7 (some .int)] { frames := 8, cells := 5, slots := 30, locals := 150 } D ad g [(.ref (ad 0)), (.int x1), (.int x2), (.int x3), (.int x4)] cp px 5 30) (hcp : qx_cp ad g cp) (hpx : ∀ E, px E → (E = qw_E1 ∧ pk 1) ∨ (E = qw_E2 ∧ pk 2) ∨ (E = qw_E3 ∧ pk 3)) : qw_T l yL_sale [Cond.codeWith yL_sale cL_sale 7 (some .int) [(0, 14, 17, 13), (0, 14, 21, 15), (0, 14, 25, 17)]] { frames := 9, cells := 5, slots := 30, locals := 210 } D ad g [(.ref (ad 0)), (.int x1), (.int x2), (.int x3), (.int x4), (.ref (ad 150))] (qx_wp D ad g F qx_oi cp pk) (fun _ => False) 5 30 := by
  refine qw_T.ofH (maxL := 7) (own := RL) (lv := [(0, (.ref (ad 0))), (1, (.int x1)), (2, (.int x2)), (3, (.int x3)), (4, (.int x4)), (5, (.ref (ad 150)))]) hst (by decide) rfl rfl (Nat.le_of_ble_eq_true rfl) ?_
  intro p e s m args below meth c A C htab
  refine qr_aload C dL_sale_0 5 rfl ?_
  refine qr_iconst (v := 0) C dL_sale_2 (by decide) ?_
  refine qr_aload_n C dL_sale_3 rfl 0 rfl ?_
  refine qr_iload_n C dL_sale_4 rfl 1 rfl ?_
  refine qr_iload_n C dL_sale_5 rfl 2 rfl ?_
  refine qr_iload_n C dL_sale_6 rfl 3 rfl ?_
  refine qr_iload C dL_sale_7 4 rfl ?_
  refine qr_callVX C (na := 4) (As := [(.int x1), (.int x2), (.int x3), (.int x4)]) (rest := [(.int (0 : Int32)), (.ref (ad 150))]) (hM) (0) (h0) rfl rfl gi_L_7 rfl ⟨by decide, by decide, by decide +kernel⟩ rfl rfl (Nat.le_of_ble_eq_true rfl) rfl rfl ⟨Nat.le_of_ble_eq_true rfl, Nat.le_of_ble_eq_true rfl⟩ ⟨Nat.le_of_ble_eq_true rfl, Nat.le_of_ble_eq_true rfl⟩ dL_sale_9 (?_) (fun v ad2 gz hpo => ?_)
  · intro E hE
    rcases hpx E hE with ⟨rfl, hk⟩ | ⟨rfl, hk⟩ | ⟨rfl, hk⟩
    · skip
      refine qr_catch C htab [] ⟨0, 14, 17, 13⟩ [⟨0, 14, 21, 15⟩, ⟨0, 14, 25, 17⟩] rfl (fun z hz => nomatch hz) rfl (by decide) gh_1.1 gh_1.2 (fun q => ?_)
      refine qr_astore (lv' := [(6, (.ref q)), (0, (.ref (ad 0))), (1, (.int x1)), (2, (.int x2)), (3, (.int x3)), (4, (.int x4)), (5, (.ref (ad 150)))]) C dL_sale_17 (by decide) rfl ?_
      refine qr_iconst (v := 1) C dL_sale_19 (by decide) ?_
      exact qr_iretX C rfl (Nat.le_of_ble_eq_true rfl) (Nat.le_of_ble_eq_true rfl) dL_sale_20 (Or.inr ⟨1, hk, rfl, rfl, rfl⟩)
    · skip
      refine qr_catch C htab [⟨0, 14, 17, 13⟩] ⟨0, 14, 21, 15⟩ [⟨0, 14, 25, 17⟩] rfl (fun z hz => Or.inr (by obtain rfl := List.mem_singleton.mp hz; exact ⟨by decide, qw_E1, gh_1.1, C.2.2.2.2.1.2.2.2.1.1⟩)) rfl (by decide) gh_2.1 gh_2.2 (fun q => ?_)
      refine qr_astore (lv' := [(6, (.ref q)), (0, (.ref (ad 0))), (1, (.int x1)), (2, (.int x2)), (3, (.int x3)), (4, (.int x4)), (5, (.ref (ad 150)))]) C dL_sale_21 (by decide) rfl ?_
      refine qr_iconst (v := 2) C dL_sale_23 (by decide) ?_
      exact qr_iretX C rfl (Nat.le_of_ble_eq_true rfl) (Nat.le_of_ble_eq_true rfl) dL_sale_24 (Or.inr ⟨2, hk, rfl, rfl, rfl⟩)
    · skip
      refine qr_catch C htab [⟨0, 14, 17, 13⟩, ⟨0, 14, 21, 15⟩] ⟨0, 14, 25, 17⟩ [] rfl (fun z hz => Or.inr (by rcases List.mem_cons.mp hz with rfl | hz; exact ⟨by decide, qw_E1, gh_1.1, C.2.2.2.2.1.2.2.2.1.2.1⟩; obtain rfl := List.mem_singleton.mp hz; exact ⟨by decide, qw_E2, gh_2.1, C.2.2.2.2.1.2.2.2.1.2.2⟩)) rfl (by decide) gh_3.1 gh_3.2 (fun q => ?_)
      refine qr_astore (lv' := [(6, (.ref q)), (0, (.ref (ad 0))), (1, (.int x1)), (2, (.int x2)), (3, (.int x3)), (4, (.int x4)), (5, (.ref (ad 150)))]) C dL_sale_25 (by decide) rfl ?_
      refine qr_iconst (v := 3) C dL_sale_27 (by decide) ?_
      exact qr_iretX C rfl (Nat.le_of_ble_eq_true rfl) (Nat.le_of_ble_eq_true rfl) dL_sale_28 (Or.inr ⟨3, hk, rfl, rfl, rfl⟩)
  · skip
    obtain ⟨⟨V, rfl⟩, hg150, ha150⟩ := hcp _ _ _ hpo
    refine qr_i2l C dL_sale_12 ?_
    refine qr_last C (150) ((hg150.trans hO)) ha150 (j := 0) rfl (by omega) rfl dL_sale_13 ?_
    generalize hg2 : va_up gz (150) _ = g1
    have f3 : g1 (150) = some (.inl (D.1 22, 1, .inr (.inl (vp_updL F (0) (V.toInt64))))) := by rw [← hg2]; exact va_up_self _ _ _
    refine qr_goto (tgt := 29) C dL_sale_14 (by decide) ?_
    refine qr_iconst (v := 0) C dL_sale_29 (by decide) ?_
    exact qr_iretX C rfl (Nat.le_of_ble_eq_true rfl) (Nat.le_of_ble_eq_true rfl) dL_sale_30 (Or.inl ⟨V, gz, hpo, rfl, hg2⟩)
set_option maxHeartbeats 4000000 in
set_option maxRecDepth 100000 in
theorem k_L_takeBack {l : Launch} (hst : l.stackTraces = false) (D : va_G) (ad : Nat → Nat) (g : qw_G) (x1 : Int32) (F : Nat → Int64) (hO : g 150 = some (.inl (D.1 22, 1, .inr (.inl F)))) {fs : List Value} (h0 : g 0 = some (.inr (5, fs))) (cp : Option Value → (Nat → Nat) → qw_G → Prop) (px : String → Prop) (pk : Int32 → Prop) (hM : qw_T l yX6_takeBack [Cond.code yX6_takeBack cX6_takeBack 4 (some .int)] { frames := 8, cells := 5, slots := 30, locals := 150 } D ad g [(.ref (ad 0)), (.int x1)] cp px 5 30) (hcp : qx_cp ad g cp) (hpx : ∀ E, px E → (E = qw_E1 ∧ pk 1) ∨ (E = qw_E3 ∧ pk 2)) : qw_T l yL_takeBack [Cond.codeWith yL_takeBack cL_takeBack 4 (some .int) [(0, 9, 12, 13), (0, 9, 15, 17)]] { frames := 9, cells := 5, slots := 30, locals := 210 } D ad g [(.ref (ad 0)), (.int x1), (.ref (ad 150))] (qx_wp D ad g F qx_oi cp pk) (fun _ => False) 5 30 := by
  refine qw_T.ofH (maxL := 4) (own := RL) (lv := [(0, (.ref (ad 0))), (1, (.int x1)), (2, (.ref (ad 150)))]) hst (by decide) rfl rfl (Nat.le_of_ble_eq_true rfl) ?_
  intro p e s m args below meth c A C htab
  refine qr_aload_n C dL_takeBack_0 rfl 2 rfl ?_
  refine qr_iconst (v := 0) C dL_takeBack_1 (by decide) ?_
  refine qr_aload_n C dL_takeBack_2 rfl 0 rfl ?_
  refine qr_iload_n C dL_takeBack_3 rfl 1 rfl ?_
  refine qr_callVX C (na := 1) (As := [(.int x1)]) (rest := [(.int (0 : Int32)), (.ref (ad 150))]) (hM) (0) (h0) rfl rfl gi_L_19 rfl ⟨by decide, by decide, by decide +kernel⟩ rfl rfl (Nat.le_of_ble_eq_true rfl) rfl rfl ⟨Nat.le_of_ble_eq_true rfl, Nat.le_of_ble_eq_true rfl⟩ ⟨Nat.le_of_ble_eq_true rfl, Nat.le_of_ble_eq_true rfl⟩ dL_takeBack_4 (?_) (fun v ad2 gz hpo => ?_)
  · intro E hE
    rcases hpx E hE with ⟨rfl, hk⟩ | ⟨rfl, hk⟩
    · skip
      refine qr_catch C htab [] ⟨0, 9, 12, 13⟩ [⟨0, 9, 15, 17⟩] rfl (fun z hz => nomatch hz) rfl (by decide) gh_1.1 gh_1.2 (fun q => ?_)
      refine qr_astore_n (lv' := [(3, (.ref q)), (0, (.ref (ad 0))), (1, (.int x1)), (2, (.ref (ad 150)))]) C dL_takeBack_12 rfl (by decide) rfl ?_
      refine qr_iconst (v := 1) C dL_takeBack_13 (by decide) ?_
      exact qr_iretX C rfl (Nat.le_of_ble_eq_true rfl) (Nat.le_of_ble_eq_true rfl) dL_takeBack_14 (Or.inr ⟨1, hk, rfl, rfl, rfl⟩)
    · skip
      refine qr_catch C htab [⟨0, 9, 12, 13⟩] ⟨0, 9, 15, 17⟩ [] rfl (fun z hz => Or.inr (by obtain rfl := List.mem_singleton.mp hz; exact ⟨by decide, qw_E1, gh_1.1, C.2.2.2.2.1.2.2.2.1.2.1⟩)) rfl (by decide) gh_3.1 gh_3.2 (fun q => ?_)
      refine qr_astore_n (lv' := [(3, (.ref q)), (0, (.ref (ad 0))), (1, (.int x1)), (2, (.ref (ad 150)))]) C dL_takeBack_15 rfl (by decide) rfl ?_
      refine qr_iconst (v := 2) C dL_takeBack_16 (by decide) ?_
      exact qr_iretX C rfl (Nat.le_of_ble_eq_true rfl) (Nat.le_of_ble_eq_true rfl) dL_takeBack_17 (Or.inr ⟨2, hk, rfl, rfl, rfl⟩)
  · skip
    obtain ⟨⟨V, rfl⟩, hg150, ha150⟩ := hcp _ _ _ hpo
    refine qr_i2l C dL_takeBack_7 ?_
    refine qr_last C (150) ((hg150.trans hO)) ha150 (j := 0) rfl (by omega) rfl dL_takeBack_8 ?_
    generalize hg2 : va_up gz (150) _ = g1
    have f3 : g1 (150) = some (.inl (D.1 22, 1, .inr (.inl (vp_updL F (0) (V.toInt64))))) := by rw [← hg2]; exact va_up_self _ _ _
    refine qr_goto (tgt := 18) C dL_takeBack_9 (by decide) ?_
    refine qr_iconst (v := 0) C dL_takeBack_18 (by decide) ?_
    exact qr_iretX C rfl (Nat.le_of_ble_eq_true rfl) (Nat.le_of_ble_eq_true rfl) dL_takeBack_19 (Or.inl ⟨V, gz, hpo, rfl, hg2⟩)
set_option maxHeartbeats 4000000 in
set_option maxRecDepth 100000 in
theorem k_L_turn {l : Launch} (hst : l.stackTraces = false) (D : va_G) (ad : Nat → Nat) (g : qw_G) (x1 : Int32) (F : Nat → Int64) (hO : g 150 = some (.inl (D.1 22, 1, .inr (.inl F)))) {fs : List Value} (h0 : g 0 = some (.inr (5, fs))) (cp : Option Value → (Nat → Nat) → qw_G → Prop) (px : String → Prop) (pk : Int32 → Prop) (hM : qw_T l yX6_turn [Cond.code yX6_turn cX6_turn 3 (some .boolean)] { frames := 7, cells := 2, slots := 12, locals := 120 } D ad g [(.ref (ad 0)), (.int x1)] cp px 2 12) (hcp : qx_cp ad g cp) (hpx : ∀ E, px E → (E = qw_E1 ∧ pk 1)) : qw_T l yL_turn [Cond.codeWith yL_turn cL_turn 4 (some .int) [(0, 16, 19, 13)]] { frames := 8, cells := 2, slots := 12, locals := 180 } D ad g [(.ref (ad 0)), (.int x1), (.ref (ad 150))] (qx_wp D ad g F qx_ob cp pk) (fun _ => False) 2 12 := by
  refine qw_T.ofH (maxL := 4) (own := RL) (lv := [(0, (.ref (ad 0))), (1, (.int x1)), (2, (.ref (ad 150)))]) hst (by decide) rfl rfl (Nat.le_of_ble_eq_true rfl) ?_
  intro p e s m args below meth c A C htab
  refine qr_aload_n C dL_turn_0 rfl 2 rfl ?_
  refine qr_iconst (v := 0) C dL_turn_1 (by decide) ?_
  refine qr_aload_n C dL_turn_2 rfl 0 rfl ?_
  refine qr_iload_n C dL_turn_3 rfl 1 rfl ?_
  refine qr_callVX C (na := 1) (As := [(.int x1)]) (rest := [(.int (0 : Int32)), (.ref (ad 150))]) (hM) (0) (h0) rfl rfl gi_L_23 rfl ⟨by decide, by decide, by decide +kernel⟩ rfl rfl (Nat.le_of_ble_eq_true rfl) rfl rfl ⟨Nat.le_of_ble_eq_true rfl, Nat.le_of_ble_eq_true rfl⟩ ⟨Nat.le_of_ble_eq_true rfl, Nat.le_of_ble_eq_true rfl⟩ dL_turn_4 (?_) (fun v ad2 gz hpo => ?_)
  · intro E hE
    obtain ⟨rfl, hk⟩ := hpx E hE
    refine qr_catch C htab [] ⟨0, 16, 19, 13⟩ [] rfl (fun z hz => nomatch hz) rfl (by decide) gh_1.1 gh_1.2 (fun q => ?_)
    refine qr_astore_n (lv' := [(3, (.ref q)), (0, (.ref (ad 0))), (1, (.int x1)), (2, (.ref (ad 150)))]) C dL_turn_19 rfl (by decide) rfl ?_
    refine qr_iconst (v := 1) C dL_turn_20 (by decide) ?_
    exact qr_iretX C rfl (Nat.le_of_ble_eq_true rfl) (Nat.le_of_ble_eq_true rfl) dL_turn_21 (Or.inr ⟨1, hk, rfl, rfl, rfl⟩)
  · skip
    obtain ⟨⟨V, rfl⟩, hg150, ha150⟩ := hcp _ _ _ hpo
    refine qr_if_eq C 14 dL_turn_7 (by decide) (fun c1 => ?_) (fun c1 => ?_)
    · skip
      refine qr_lconst (v := 0) C dL_turn_14 rfl ?_
      refine qr_last C (150) ((hg150.trans hO)) ha150 (j := 0) rfl (by omega) rfl dL_turn_15 ?_
      generalize hg3 : va_up gz (150) _ = g2
      have f4 : g2 (150) = some (.inl (D.1 22, 1, .inr (.inl (vp_updL F (0) (0 : Int64))))) := by rw [← hg3]; exact va_up_self _ _ _
      refine qr_goto (tgt := 22) C dL_turn_16 (by decide) ?_
      refine qr_iconst (v := 0) C dL_turn_22 (by decide) ?_
      exact qr_iretX C rfl (Nat.le_of_ble_eq_true rfl) (Nat.le_of_ble_eq_true rfl) dL_turn_23 (Or.inl ⟨V, gz, hpo, rfl, by rw [show qx_ob V = _ from if_pos c1]; exact hg3⟩)
    · skip
      refine qr_lconst (v := 1) C dL_turn_10 rfl ?_
      refine qr_goto (tgt := 15) C dL_turn_11 (by decide) ?_
      refine qr_last C (150) ((hg150.trans hO)) ha150 (j := 0) rfl (by omega) rfl dL_turn_15 ?_
      generalize hg6 : va_up gz (150) _ = g5
      have f7 : g5 (150) = some (.inl (D.1 22, 1, .inr (.inl (vp_updL F (0) (1 : Int64))))) := by rw [← hg6]; exact va_up_self _ _ _
      refine qr_goto (tgt := 22) C dL_turn_16 (by decide) ?_
      refine qr_iconst (v := 0) C dL_turn_22 (by decide) ?_
      exact qr_iretX C rfl (Nat.le_of_ble_eq_true rfl) (Nat.le_of_ble_eq_true rfl) dL_turn_23 (Or.inl ⟨V, gz, hpo, rfl, by rw [show qx_ob V = _ from if_neg c1]; exact hg6⟩)
set_option maxHeartbeats 4000000 in
set_option maxRecDepth 100000 in
theorem k_L_sum {l : Launch} (hst : l.stackTraces = false) (D : va_G) (ad : Nat → Nat) (g : qw_G) (x1 x2 x3 : Int32) (F : Nat → Int64) (hO : g 150 = some (.inl (D.1 22, 1, .inr (.inl F)))) {fs : List Value} (h0 : g 0 = some (.inr (5, fs))) (cp : Option Value → (Nat → Nat) → qw_G → Prop) (px : String → Prop) (pk : Int32 → Prop) (hM : qw_T l yX6_sum [Cond.code yX6_sum cX6_sum 5 (some .int)] { frames := 8, cells := 3, slots := 18, locals := 150 } D ad g [(.ref (ad 0)), (.int x1), (.int x2), (.int x3)] cp px 3 18) (hcp : qx_cp ad g cp) (hpx : ∀ E, px E → (E = qw_E1 ∧ pk 1)) : qw_T l yL_sum [Cond.codeWith yL_sum cL_sum 6 (some .int) [(0, 12, 15, 13)]] { frames := 9, cells := 3, slots := 18, locals := 210 } D ad g [(.ref (ad 0)), (.int x1), (.int x2), (.int x3), (.ref (ad 150))] (qx_wp D ad g F qx_oi cp pk) (fun _ => False) 3 18 := by
  refine qw_T.ofH (maxL := 6) (own := RL) (lv := [(0, (.ref (ad 0))), (1, (.int x1)), (2, (.int x2)), (3, (.int x3)), (4, (.ref (ad 150)))]) hst (by decide) rfl rfl (Nat.le_of_ble_eq_true rfl) ?_
  intro p e s m args below meth c A C htab
  refine qr_aload C dL_sum_0 4 rfl ?_
  refine qr_iconst (v := 0) C dL_sum_2 (by decide) ?_
  refine qr_aload_n C dL_sum_3 rfl 0 rfl ?_
  refine qr_iload_n C dL_sum_4 rfl 1 rfl ?_
  refine qr_iload_n C dL_sum_5 rfl 2 rfl ?_
  refine qr_iload_n C dL_sum_6 rfl 3 rfl ?_
  refine qr_callVX C (na := 3) (As := [(.int x1), (.int x2), (.int x3)]) (rest := [(.int (0 : Int32)), (.ref (ad 150))]) (hM) (0) (h0) rfl rfl gi_L_27 rfl ⟨by decide, by decide, by decide +kernel⟩ rfl rfl (Nat.le_of_ble_eq_true rfl) rfl rfl ⟨Nat.le_of_ble_eq_true rfl, Nat.le_of_ble_eq_true rfl⟩ ⟨Nat.le_of_ble_eq_true rfl, Nat.le_of_ble_eq_true rfl⟩ dL_sum_7 (?_) (fun v ad2 gz hpo => ?_)
  · intro E hE
    obtain ⟨rfl, hk⟩ := hpx E hE
    refine qr_catch C htab [] ⟨0, 12, 15, 13⟩ [] rfl (fun z hz => nomatch hz) rfl (by decide) gh_1.1 gh_1.2 (fun q => ?_)
    refine qr_astore (lv' := [(5, (.ref q)), (0, (.ref (ad 0))), (1, (.int x1)), (2, (.int x2)), (3, (.int x3)), (4, (.ref (ad 150)))]) C dL_sum_15 (by decide) rfl ?_
    refine qr_iconst (v := 1) C dL_sum_17 (by decide) ?_
    exact qr_iretX C rfl (Nat.le_of_ble_eq_true rfl) (Nat.le_of_ble_eq_true rfl) dL_sum_18 (Or.inr ⟨1, hk, rfl, rfl, rfl⟩)
  · skip
    obtain ⟨⟨V, rfl⟩, hg150, ha150⟩ := hcp _ _ _ hpo
    refine qr_i2l C dL_sum_10 ?_
    refine qr_last C (150) ((hg150.trans hO)) ha150 (j := 0) rfl (by omega) rfl dL_sum_11 ?_
    generalize hg2 : va_up gz (150) _ = g1
    have f3 : g1 (150) = some (.inl (D.1 22, 1, .inr (.inl (vp_updL F (0) (V.toInt64))))) := by rw [← hg2]; exact va_up_self _ _ _
    refine qr_goto (tgt := 19) C dL_sum_12 (by decide) ?_
    refine qr_iconst (v := 0) C dL_sum_19 (by decide) ?_
    exact qr_iretX C rfl (Nat.le_of_ble_eq_true rfl) (Nat.le_of_ble_eq_true rfl) dL_sum_20 (Or.inl ⟨V, gz, hpo, rfl, hg2⟩)
set_option maxHeartbeats 4000000 in
set_option maxRecDepth 100000 in
theorem k_L_sumFromSales {l : Launch} (hst : l.stackTraces = false) (D : va_G) (ad : Nat → Nat) (g : qw_G) (x1 x2 x3 : Int32) (F : Nat → Int64) (hO : g 150 = some (.inl (D.1 22, 1, .inr (.inl F)))) {fs : List Value} (h0 : g 0 = some (.inr (5, fs))) (cp : Option Value → (Nat → Nat) → qw_G → Prop) (px : String → Prop) (pk : Int32 → Prop) (hM : qw_T l yX6_sumFromSales [Cond.code yX6_sumFromSales cX6_sumFromSales 7 (some .int)] { frames := 8, cells := 3, slots := 18, locals := 150 } D ad g [(.ref (ad 0)), (.int x1), (.int x2), (.int x3)] cp px 3 18) (hcp : qx_cp ad g cp) (hpx : ∀ E, px E → (E = qw_E1 ∧ pk 1)) : qw_T l yL_sumFromSales [Cond.codeWith yL_sumFromSales cL_sumFromSales 6 (some .int) [(0, 12, 15, 13)]] { frames := 9, cells := 3, slots := 18, locals := 210 } D ad g [(.ref (ad 0)), (.int x1), (.int x2), (.int x3), (.ref (ad 150))] (qx_wp D ad g F qx_oi cp pk) (fun _ => False) 3 18 := by
  refine qw_T.ofH (maxL := 6) (own := RL) (lv := [(0, (.ref (ad 0))), (1, (.int x1)), (2, (.int x2)), (3, (.int x3)), (4, (.ref (ad 150)))]) hst (by decide) rfl rfl (Nat.le_of_ble_eq_true rfl) ?_
  intro p e s m args below meth c A C htab
  refine qr_aload C dL_sumFromSales_0 4 rfl ?_
  refine qr_iconst (v := 0) C dL_sumFromSales_2 (by decide) ?_
  refine qr_aload_n C dL_sumFromSales_3 rfl 0 rfl ?_
  refine qr_iload_n C dL_sumFromSales_4 rfl 1 rfl ?_
  refine qr_iload_n C dL_sumFromSales_5 rfl 2 rfl ?_
  refine qr_iload_n C dL_sumFromSales_6 rfl 3 rfl ?_
  refine qr_callVX C (na := 3) (As := [(.int x1), (.int x2), (.int x3)]) (rest := [(.int (0 : Int32)), (.ref (ad 150))]) (hM) (0) (h0) rfl rfl gi_L_31 rfl ⟨by decide, by decide, by decide +kernel⟩ rfl rfl (Nat.le_of_ble_eq_true rfl) rfl rfl ⟨Nat.le_of_ble_eq_true rfl, Nat.le_of_ble_eq_true rfl⟩ ⟨Nat.le_of_ble_eq_true rfl, Nat.le_of_ble_eq_true rfl⟩ dL_sumFromSales_7 (?_) (fun v ad2 gz hpo => ?_)
  · intro E hE
    obtain ⟨rfl, hk⟩ := hpx E hE
    refine qr_catch C htab [] ⟨0, 12, 15, 13⟩ [] rfl (fun z hz => nomatch hz) rfl (by decide) gh_1.1 gh_1.2 (fun q => ?_)
    refine qr_astore (lv' := [(5, (.ref q)), (0, (.ref (ad 0))), (1, (.int x1)), (2, (.int x2)), (3, (.int x3)), (4, (.ref (ad 150)))]) C dL_sumFromSales_15 (by decide) rfl ?_
    refine qr_iconst (v := 1) C dL_sumFromSales_17 (by decide) ?_
    exact qr_iretX C rfl (Nat.le_of_ble_eq_true rfl) (Nat.le_of_ble_eq_true rfl) dL_sumFromSales_18 (Or.inr ⟨1, hk, rfl, rfl, rfl⟩)
  · skip
    obtain ⟨⟨V, rfl⟩, hg150, ha150⟩ := hcp _ _ _ hpo
    refine qr_i2l C dL_sumFromSales_10 ?_
    refine qr_last C (150) ((hg150.trans hO)) ha150 (j := 0) rfl (by omega) rfl dL_sumFromSales_11 ?_
    generalize hg2 : va_up gz (150) _ = g1
    have f3 : g1 (150) = some (.inl (D.1 22, 1, .inr (.inl (vp_updL F (0) (V.toInt64))))) := by rw [← hg2]; exact va_up_self _ _ _
    refine qr_goto (tgt := 19) C dL_sumFromSales_12 (by decide) ?_
    refine qr_iconst (v := 0) C dL_sumFromSales_19 (by decide) ?_
    exact qr_iretX C rfl (Nat.le_of_ble_eq_true rfl) (Nat.le_of_ble_eq_true rfl) dL_sumFromSales_20 (Or.inl ⟨V, gz, hpo, rfl, hg2⟩)
set_option maxHeartbeats 4000000 in
set_option maxRecDepth 100000 in
theorem k_L_embargo {l : Launch} (hst : l.stackTraces = false) (D : va_G) (ad : Nat → Nat) (g : qw_G) (x1 x2 x3 x4 x5 : Int32) (F : Nat → Int64) (hO : g 150 = some (.inl (D.1 22, 1, .inr (.inl F)))) {fs : List Value} (h0 : g 0 = some (.inr (5, fs))) (cp : Option Value → (Nat → Nat) → qw_G → Prop) (px : String → Prop) (pk : Int32 → Prop) (hM : qw_T l yX6_embargo [Cond.code yX6_embargo cX6_embargo 8 (some .int)] { frames := 8, cells := 5, slots := 30, locals := 150 } D ad g [(.ref (ad 0)), (.int x1), (.int x2), (.int x3), (.int x4), (.int x5)] cp px 5 30) (hcp : qx_cp ad g cp) (hpx : ∀ E, px E → (E = qw_E1 ∧ pk 1) ∨ (E = qw_E2 ∧ pk 2) ∨ (E = qw_E3 ∧ pk 3)) : qw_T l yL_embargo [Cond.codeWith yL_embargo cL_embargo 8 (some .int) [(0, 16, 19, 13), (0, 16, 23, 15), (0, 16, 27, 17)]] { frames := 9, cells := 5, slots := 30, locals := 210 } D ad g [(.ref (ad 0)), (.int x1), (.int x2), (.int x3), (.int x4), (.int x5), (.ref (ad 150))] (qx_wp D ad g F qx_oi cp pk) (fun _ => False) 5 30 := by
  refine qw_T.ofH (maxL := 8) (own := RL) (lv := [(0, (.ref (ad 0))), (1, (.int x1)), (2, (.int x2)), (3, (.int x3)), (4, (.int x4)), (5, (.int x5)), (6, (.ref (ad 150)))]) hst (by decide) rfl rfl (Nat.le_of_ble_eq_true rfl) ?_
  intro p e s m args below meth c A C htab
  refine qr_aload C dL_embargo_0 6 rfl ?_
  refine qr_iconst (v := 0) C dL_embargo_2 (by decide) ?_
  refine qr_aload_n C dL_embargo_3 rfl 0 rfl ?_
  refine qr_iload_n C dL_embargo_4 rfl 1 rfl ?_
  refine qr_iload_n C dL_embargo_5 rfl 2 rfl ?_
  refine qr_iload_n C dL_embargo_6 rfl 3 rfl ?_
  refine qr_iload C dL_embargo_7 4 rfl ?_
  refine qr_iload C dL_embargo_9 5 rfl ?_
  refine qr_callVX C (na := 5) (As := [(.int x1), (.int x2), (.int x3), (.int x4), (.int x5)]) (rest := [(.int (0 : Int32)), (.ref (ad 150))]) (hM) (0) (h0) rfl rfl gi_L_34 rfl ⟨by decide, by decide, by decide +kernel⟩ rfl rfl (Nat.le_of_ble_eq_true rfl) rfl rfl ⟨Nat.le_of_ble_eq_true rfl, Nat.le_of_ble_eq_true rfl⟩ ⟨Nat.le_of_ble_eq_true rfl, Nat.le_of_ble_eq_true rfl⟩ dL_embargo_11 (?_) (fun v ad2 gz hpo => ?_)
  · intro E hE
    rcases hpx E hE with ⟨rfl, hk⟩ | ⟨rfl, hk⟩ | ⟨rfl, hk⟩
    · skip
      refine qr_catch C htab [] ⟨0, 16, 19, 13⟩ [⟨0, 16, 23, 15⟩, ⟨0, 16, 27, 17⟩] rfl (fun z hz => nomatch hz) rfl (by decide) gh_1.1 gh_1.2 (fun q => ?_)
      refine qr_astore (lv' := [(7, (.ref q)), (0, (.ref (ad 0))), (1, (.int x1)), (2, (.int x2)), (3, (.int x3)), (4, (.int x4)), (5, (.int x5)), (6, (.ref (ad 150)))]) C dL_embargo_19 (by decide) rfl ?_
      refine qr_iconst (v := 1) C dL_embargo_21 (by decide) ?_
      exact qr_iretX C rfl (Nat.le_of_ble_eq_true rfl) (Nat.le_of_ble_eq_true rfl) dL_embargo_22 (Or.inr ⟨1, hk, rfl, rfl, rfl⟩)
    · skip
      refine qr_catch C htab [⟨0, 16, 19, 13⟩] ⟨0, 16, 23, 15⟩ [⟨0, 16, 27, 17⟩] rfl (fun z hz => Or.inr (by obtain rfl := List.mem_singleton.mp hz; exact ⟨by decide, qw_E1, gh_1.1, C.2.2.2.2.1.2.2.2.1.1⟩)) rfl (by decide) gh_2.1 gh_2.2 (fun q => ?_)
      refine qr_astore (lv' := [(7, (.ref q)), (0, (.ref (ad 0))), (1, (.int x1)), (2, (.int x2)), (3, (.int x3)), (4, (.int x4)), (5, (.int x5)), (6, (.ref (ad 150)))]) C dL_embargo_23 (by decide) rfl ?_
      refine qr_iconst (v := 2) C dL_embargo_25 (by decide) ?_
      exact qr_iretX C rfl (Nat.le_of_ble_eq_true rfl) (Nat.le_of_ble_eq_true rfl) dL_embargo_26 (Or.inr ⟨2, hk, rfl, rfl, rfl⟩)
    · skip
      refine qr_catch C htab [⟨0, 16, 19, 13⟩, ⟨0, 16, 23, 15⟩] ⟨0, 16, 27, 17⟩ [] rfl (fun z hz => Or.inr (by rcases List.mem_cons.mp hz with rfl | hz; exact ⟨by decide, qw_E1, gh_1.1, C.2.2.2.2.1.2.2.2.1.2.1⟩; obtain rfl := List.mem_singleton.mp hz; exact ⟨by decide, qw_E2, gh_2.1, C.2.2.2.2.1.2.2.2.1.2.2⟩)) rfl (by decide) gh_3.1 gh_3.2 (fun q => ?_)
      refine qr_astore (lv' := [(7, (.ref q)), (0, (.ref (ad 0))), (1, (.int x1)), (2, (.int x2)), (3, (.int x3)), (4, (.int x4)), (5, (.int x5)), (6, (.ref (ad 150)))]) C dL_embargo_27 (by decide) rfl ?_
      refine qr_iconst (v := 3) C dL_embargo_29 (by decide) ?_
      exact qr_iretX C rfl (Nat.le_of_ble_eq_true rfl) (Nat.le_of_ble_eq_true rfl) dL_embargo_30 (Or.inr ⟨3, hk, rfl, rfl, rfl⟩)
  · skip
    obtain ⟨⟨V, rfl⟩, hg150, ha150⟩ := hcp _ _ _ hpo
    refine qr_i2l C dL_embargo_14 ?_
    refine qr_last C (150) ((hg150.trans hO)) ha150 (j := 0) rfl (by omega) rfl dL_embargo_15 ?_
    generalize hg2 : va_up gz (150) _ = g1
    have f3 : g1 (150) = some (.inl (D.1 22, 1, .inr (.inl (vp_updL F (0) (V.toInt64))))) := by rw [← hg2]; exact va_up_self _ _ _
    refine qr_goto (tgt := 31) C dL_embargo_16 (by decide) ?_
    refine qr_iconst (v := 0) C dL_embargo_31 (by decide) ?_
    exact qr_iretX C rfl (Nat.le_of_ble_eq_true rfl) (Nat.le_of_ble_eq_true rfl) dL_embargo_32 (Or.inl ⟨V, gz, hpo, rfl, hg2⟩)
set_option maxHeartbeats 4000000 in
set_option maxRecDepth 100000 in
theorem k_L_lift {l : Launch} (hst : l.stackTraces = false) (D : va_G) (ad : Nat → Nat) (g : qw_G) (x1 : Int32) (F : Nat → Int64) (hO : g 150 = some (.inl (D.1 22, 1, .inr (.inl F)))) {fs : List Value} (h0 : g 0 = some (.inr (5, fs))) (cp : Option Value → (Nat → Nat) → qw_G → Prop) (px : String → Prop) (pk : Int32 → Prop) (hM : qw_T l yX6_lift [Cond.code yX6_lift cX6_lift 3 (some .int)] { frames := 8, cells := 5, slots := 30, locals := 150 } D ad g [(.ref (ad 0)), (.int x1)] cp px 5 30) (hcp : qx_cp ad g cp) (hpx : ∀ E, px E → (E = qw_E1 ∧ pk 1) ∨ (E = qw_E3 ∧ pk 2)) : qw_T l yL_lift [Cond.codeWith yL_lift cL_lift 4 (some .int) [(0, 9, 12, 13), (0, 9, 15, 17)]] { frames := 9, cells := 5, slots := 30, locals := 210 } D ad g [(.ref (ad 0)), (.int x1), (.ref (ad 150))] (qx_wp D ad g F qx_oi cp pk) (fun _ => False) 5 30 := by
  refine qw_T.ofH (maxL := 4) (own := RL) (lv := [(0, (.ref (ad 0))), (1, (.int x1)), (2, (.ref (ad 150)))]) hst (by decide) rfl rfl (Nat.le_of_ble_eq_true rfl) ?_
  intro p e s m args below meth c A C htab
  refine qr_aload_n C dL_lift_0 rfl 2 rfl ?_
  refine qr_iconst (v := 0) C dL_lift_1 (by decide) ?_
  refine qr_aload_n C dL_lift_2 rfl 0 rfl ?_
  refine qr_iload_n C dL_lift_3 rfl 1 rfl ?_
  refine qr_callVX C (na := 1) (As := [(.int x1)]) (rest := [(.int (0 : Int32)), (.ref (ad 150))]) (hM) (0) (h0) rfl rfl gi_L_38 rfl ⟨by decide, by decide, by decide +kernel⟩ rfl rfl (Nat.le_of_ble_eq_true rfl) rfl rfl ⟨Nat.le_of_ble_eq_true rfl, Nat.le_of_ble_eq_true rfl⟩ ⟨Nat.le_of_ble_eq_true rfl, Nat.le_of_ble_eq_true rfl⟩ dL_lift_4 (?_) (fun v ad2 gz hpo => ?_)
  · intro E hE
    rcases hpx E hE with ⟨rfl, hk⟩ | ⟨rfl, hk⟩
    · skip
      refine qr_catch C htab [] ⟨0, 9, 12, 13⟩ [⟨0, 9, 15, 17⟩] rfl (fun z hz => nomatch hz) rfl (by decide) gh_1.1 gh_1.2 (fun q => ?_)
      refine qr_astore_n (lv' := [(3, (.ref q)), (0, (.ref (ad 0))), (1, (.int x1)), (2, (.ref (ad 150)))]) C dL_lift_12 rfl (by decide) rfl ?_
      refine qr_iconst (v := 1) C dL_lift_13 (by decide) ?_
      exact qr_iretX C rfl (Nat.le_of_ble_eq_true rfl) (Nat.le_of_ble_eq_true rfl) dL_lift_14 (Or.inr ⟨1, hk, rfl, rfl, rfl⟩)
    · skip
      refine qr_catch C htab [⟨0, 9, 12, 13⟩] ⟨0, 9, 15, 17⟩ [] rfl (fun z hz => Or.inr (by obtain rfl := List.mem_singleton.mp hz; exact ⟨by decide, qw_E1, gh_1.1, C.2.2.2.2.1.2.2.2.1.2.1⟩)) rfl (by decide) gh_3.1 gh_3.2 (fun q => ?_)
      refine qr_astore_n (lv' := [(3, (.ref q)), (0, (.ref (ad 0))), (1, (.int x1)), (2, (.ref (ad 150)))]) C dL_lift_15 rfl (by decide) rfl ?_
      refine qr_iconst (v := 2) C dL_lift_16 (by decide) ?_
      exact qr_iretX C rfl (Nat.le_of_ble_eq_true rfl) (Nat.le_of_ble_eq_true rfl) dL_lift_17 (Or.inr ⟨2, hk, rfl, rfl, rfl⟩)
  · skip
    obtain ⟨⟨V, rfl⟩, hg150, ha150⟩ := hcp _ _ _ hpo
    refine qr_i2l C dL_lift_7 ?_
    refine qr_last C (150) ((hg150.trans hO)) ha150 (j := 0) rfl (by omega) rfl dL_lift_8 ?_
    generalize hg2 : va_up gz (150) _ = g1
    have f3 : g1 (150) = some (.inl (D.1 22, 1, .inr (.inl (vp_updL F (0) (V.toInt64))))) := by rw [← hg2]; exact va_up_self _ _ _
    refine qr_goto (tgt := 18) C dL_lift_9 (by decide) ?_
    refine qr_iconst (v := 0) C dL_lift_18 (by decide) ?_
    exact qr_iretX C rfl (Nat.le_of_ble_eq_true rfl) (Nat.le_of_ble_eq_true rfl) dL_lift_19 (Or.inl ⟨V, gz, hpo, rfl, hg2⟩)
set_option maxHeartbeats 4000000 in
set_option maxRecDepth 100000 in
theorem k_L_isEmbargoed {l : Launch} (hst : l.stackTraces = false) (D : va_G) (ad : Nat → Nat) (g : qw_G) (x1 x2 x3 x4 : Int32) (F : Nat → Int64) (hO : g 150 = some (.inl (D.1 22, 1, .inr (.inl F)))) {fs : List Value} (h0 : g 0 = some (.inr (5, fs))) (cp : Option Value → (Nat → Nat) → qw_G → Prop) (px : String → Prop) (pk : Int32 → Prop) (hM : qw_T l yX6_isEmbargoed [Cond.code yX6_isEmbargoed cX6_isEmbargoed 6 (some .boolean)] { frames := 8, cells := 3, slots := 18, locals := 150 } D ad g [(.ref (ad 0)), (.int x1), (.int x2), (.int x3), (.int x4)] cp px 3 18) (hcp : qx_cp ad g cp) (hpx : ∀ E, px E → (E = qw_E1 ∧ pk 1)) : qw_T l yL_isEmbargoed [Cond.codeWith yL_isEmbargoed cL_isEmbargoed 7 (some .int) [(0, 21, 24, 13)]] { frames := 9, cells := 3, slots := 18, locals := 210 } D ad g [(.ref (ad 0)), (.int x1), (.int x2), (.int x3), (.int x4), (.ref (ad 150))] (qx_wp D ad g F qx_ob cp pk) (fun _ => False) 3 18 := by
  refine qw_T.ofH (maxL := 7) (own := RL) (lv := [(0, (.ref (ad 0))), (1, (.int x1)), (2, (.int x2)), (3, (.int x3)), (4, (.int x4)), (5, (.ref (ad 150)))]) hst (by decide) rfl rfl (Nat.le_of_ble_eq_true rfl) ?_
  intro p e s m args below meth c A C htab
  refine qr_aload C dL_isEmbargoed_0 5 rfl ?_
  refine qr_iconst (v := 0) C dL_isEmbargoed_2 (by decide) ?_
  refine qr_aload_n C dL_isEmbargoed_3 rfl 0 rfl ?_
  refine qr_iload_n C dL_isEmbargoed_4 rfl 1 rfl ?_
  refine qr_iload_n C dL_isEmbargoed_5 rfl 2 rfl ?_
  refine qr_iload_n C dL_isEmbargoed_6 rfl 3 rfl ?_
  refine qr_iload C dL_isEmbargoed_7 4 rfl ?_
  refine qr_callVX C (na := 4) (As := [(.int x1), (.int x2), (.int x3), (.int x4)]) (rest := [(.int (0 : Int32)), (.ref (ad 150))]) (hM) (0) (h0) rfl rfl gi_L_41 rfl ⟨by decide, by decide, by decide +kernel⟩ rfl rfl (Nat.le_of_ble_eq_true rfl) rfl rfl ⟨Nat.le_of_ble_eq_true rfl, Nat.le_of_ble_eq_true rfl⟩ ⟨Nat.le_of_ble_eq_true rfl, Nat.le_of_ble_eq_true rfl⟩ dL_isEmbargoed_9 (?_) (fun v ad2 gz hpo => ?_)
  · intro E hE
    obtain ⟨rfl, hk⟩ := hpx E hE
    refine qr_catch C htab [] ⟨0, 21, 24, 13⟩ [] rfl (fun z hz => nomatch hz) rfl (by decide) gh_1.1 gh_1.2 (fun q => ?_)
    refine qr_astore (lv' := [(6, (.ref q)), (0, (.ref (ad 0))), (1, (.int x1)), (2, (.int x2)), (3, (.int x3)), (4, (.int x4)), (5, (.ref (ad 150)))]) C dL_isEmbargoed_24 (by decide) rfl ?_
    refine qr_iconst (v := 1) C dL_isEmbargoed_26 (by decide) ?_
    exact qr_iretX C rfl (Nat.le_of_ble_eq_true rfl) (Nat.le_of_ble_eq_true rfl) dL_isEmbargoed_27 (Or.inr ⟨1, hk, rfl, rfl, rfl⟩)
  · skip
    obtain ⟨⟨V, rfl⟩, hg150, ha150⟩ := hcp _ _ _ hpo
    refine qr_if_eq C 19 dL_isEmbargoed_12 (by decide) (fun c1 => ?_) (fun c1 => ?_)
    · skip
      refine qr_lconst (v := 0) C dL_isEmbargoed_19 rfl ?_
      refine qr_last C (150) ((hg150.trans hO)) ha150 (j := 0) rfl (by omega) rfl dL_isEmbargoed_20 ?_
      generalize hg3 : va_up gz (150) _ = g2
      have f4 : g2 (150) = some (.inl (D.1 22, 1, .inr (.inl (vp_updL F (0) (0 : Int64))))) := by rw [← hg3]; exact va_up_self _ _ _
      refine qr_goto (tgt := 28) C dL_isEmbargoed_21 (by decide) ?_
      refine qr_iconst (v := 0) C dL_isEmbargoed_28 (by decide) ?_
      exact qr_iretX C rfl (Nat.le_of_ble_eq_true rfl) (Nat.le_of_ble_eq_true rfl) dL_isEmbargoed_29 (Or.inl ⟨V, gz, hpo, rfl, by rw [show qx_ob V = _ from if_pos c1]; exact hg3⟩)
    · skip
      refine qr_lconst (v := 1) C dL_isEmbargoed_15 rfl ?_
      refine qr_goto (tgt := 20) C dL_isEmbargoed_16 (by decide) ?_
      refine qr_last C (150) ((hg150.trans hO)) ha150 (j := 0) rfl (by omega) rfl dL_isEmbargoed_20 ?_
      generalize hg6 : va_up gz (150) _ = g5
      have f7 : g5 (150) = some (.inl (D.1 22, 1, .inr (.inl (vp_updL F (0) (1 : Int64))))) := by rw [← hg6]; exact va_up_self _ _ _
      refine qr_goto (tgt := 28) C dL_isEmbargoed_21 (by decide) ?_
      refine qr_iconst (v := 0) C dL_isEmbargoed_28 (by decide) ?_
      exact qr_iretX C rfl (Nat.le_of_ble_eq_true rfl) (Nat.le_of_ble_eq_true rfl) dL_isEmbargoed_29 (Or.inl ⟨V, gz, hpo, rfl, by rw [show qx_ob V = _ from if_neg c1]; exact hg6⟩)
set_option maxHeartbeats 4000000 in
set_option maxRecDepth 100000 in
theorem k_L_pass {l : Launch} (hst : l.stackTraces = false) (D : va_G) (ad : Nat → Nat) (g : qw_G) (x1 : Int32) (F : Nat → Int64) (hO : g 150 = some (.inl (D.1 22, 1, .inr (.inl F)))) {fs : List Value} (h0 : g 0 = some (.inr (5, fs))) (cp : Option Value → (Nat → Nat) → qw_G → Prop) (px : String → Prop) (pk : Int32 → Prop) (hM : qw_T l yX6_pass [Cond.code yX6_pass cX6_pass 6 (some .int)] { frames := 8, cells := 5, slots := 30, locals := 150 } D ad g [(.ref (ad 0)), (.int x1)] cp px 5 30) (hcp : qx_cp ad g cp) (hpx : ∀ E, px E → (E = qw_E2 ∧ pk 1) ∨ (E = qw_E3 ∧ pk 2)) : qw_T l yL_pass [Cond.codeWith yL_pass cL_pass 4 (some .int) [(0, 9, 12, 15), (0, 9, 15, 17)]] { frames := 9, cells := 5, slots := 30, locals := 210 } D ad g [(.ref (ad 0)), (.int x1), (.ref (ad 150))] (qx_wp D ad g F qx_oi cp pk) (fun _ => False) 5 30 := by
  refine qw_T.ofH (maxL := 4) (own := RL) (lv := [(0, (.ref (ad 0))), (1, (.int x1)), (2, (.ref (ad 150)))]) hst (by decide) rfl rfl (Nat.le_of_ble_eq_true rfl) ?_
  intro p e s m args below meth c A C htab
  refine qr_aload_n C dL_pass_0 rfl 2 rfl ?_
  refine qr_iconst (v := 0) C dL_pass_1 (by decide) ?_
  refine qr_aload_n C dL_pass_2 rfl 0 rfl ?_
  refine qr_iload_n C dL_pass_3 rfl 1 rfl ?_
  refine qr_callVX C (na := 1) (As := [(.int x1)]) (rest := [(.int (0 : Int32)), (.ref (ad 150))]) (hM) (0) (h0) rfl rfl gi_L_45 rfl ⟨by decide, by decide, by decide +kernel⟩ rfl rfl (Nat.le_of_ble_eq_true rfl) rfl rfl ⟨Nat.le_of_ble_eq_true rfl, Nat.le_of_ble_eq_true rfl⟩ ⟨Nat.le_of_ble_eq_true rfl, Nat.le_of_ble_eq_true rfl⟩ dL_pass_4 (?_) (fun v ad2 gz hpo => ?_)
  · intro E hE
    rcases hpx E hE with ⟨rfl, hk⟩ | ⟨rfl, hk⟩
    · skip
      refine qr_catch C htab [] ⟨0, 9, 12, 15⟩ [⟨0, 9, 15, 17⟩] rfl (fun z hz => nomatch hz) rfl (by decide) gh_2.1 gh_2.2 (fun q => ?_)
      refine qr_astore_n (lv' := [(3, (.ref q)), (0, (.ref (ad 0))), (1, (.int x1)), (2, (.ref (ad 150)))]) C dL_pass_12 rfl (by decide) rfl ?_
      refine qr_iconst (v := 1) C dL_pass_13 (by decide) ?_
      exact qr_iretX C rfl (Nat.le_of_ble_eq_true rfl) (Nat.le_of_ble_eq_true rfl) dL_pass_14 (Or.inr ⟨1, hk, rfl, rfl, rfl⟩)
    · skip
      refine qr_catch C htab [⟨0, 9, 12, 15⟩] ⟨0, 9, 15, 17⟩ [] rfl (fun z hz => Or.inr (by obtain rfl := List.mem_singleton.mp hz; exact ⟨by decide, qw_E2, gh_2.1, C.2.2.2.2.1.2.2.2.1.2.2⟩)) rfl (by decide) gh_3.1 gh_3.2 (fun q => ?_)
      refine qr_astore_n (lv' := [(3, (.ref q)), (0, (.ref (ad 0))), (1, (.int x1)), (2, (.ref (ad 150)))]) C dL_pass_15 rfl (by decide) rfl ?_
      refine qr_iconst (v := 2) C dL_pass_16 (by decide) ?_
      exact qr_iretX C rfl (Nat.le_of_ble_eq_true rfl) (Nat.le_of_ble_eq_true rfl) dL_pass_17 (Or.inr ⟨2, hk, rfl, rfl, rfl⟩)
  · skip
    obtain ⟨⟨V, rfl⟩, hg150, ha150⟩ := hcp _ _ _ hpo
    refine qr_i2l C dL_pass_7 ?_
    refine qr_last C (150) ((hg150.trans hO)) ha150 (j := 0) rfl (by omega) rfl dL_pass_8 ?_
    generalize hg2 : va_up gz (150) _ = g1
    have f3 : g1 (150) = some (.inl (D.1 22, 1, .inr (.inl (vp_updL F (0) (V.toInt64))))) := by rw [← hg2]; exact va_up_self _ _ _
    refine qr_goto (tgt := 18) C dL_pass_9 (by decide) ?_
    refine qr_iconst (v := 0) C dL_pass_18 (by decide) ?_
    exact qr_iretX C rfl (Nat.le_of_ble_eq_true rfl) (Nat.le_of_ble_eq_true rfl) dL_pass_19 (Or.inl ⟨V, gz, hpo, rfl, hg2⟩)
set_option maxHeartbeats 4000000 in
set_option maxRecDepth 100000 in
theorem k_L_build {l : Launch} (hst : l.stackTraces = false) (D : va_G) (ad : Nat → Nat) (g : qw_G) (x1 x2 : Int32) (F : Nat → Int64) (hO : g 150 = some (.inl (D.1 22, 1, .inr (.inl F)))) {fs : List Value} (h0 : g 0 = some (.inr (5, fs))) (cp : Option Value → (Nat → Nat) → qw_G → Prop) (px : String → Prop) (pk : Int32 → Prop) (hM : qw_T l yX6_build [Cond.code yX6_build cX6_build 5 (some .int)] { frames := 8, cells := 3, slots := 18, locals := 150 } D ad g [(.ref (ad 0)), (.int x1), (.int x2)] cp px 3 18) (hcp : qx_cp ad g cp) (hpx : ∀ E, px E → (E = qw_E1 ∧ pk 1)) : qw_T l yL_build [Cond.codeWith yL_build cL_build 5 (some .int) [(0, 10, 13, 13)]] { frames := 9, cells := 3, slots := 18, locals := 210 } D ad g [(.ref (ad 0)), (.int x1), (.int x2), (.ref (ad 150))] (qx_wp D ad g F qx_oi cp pk) (fun _ => False) 3 18 := by
  refine qw_T.ofH (maxL := 5) (own := RL) (lv := [(0, (.ref (ad 0))), (1, (.int x1)), (2, (.int x2)), (3, (.ref (ad 150)))]) hst (by decide) rfl rfl (Nat.le_of_ble_eq_true rfl) ?_
  intro p e s m args below meth c A C htab
  refine qr_aload_n C dL_build_0 rfl 3 rfl ?_
  refine qr_iconst (v := 0) C dL_build_1 (by decide) ?_
  refine qr_aload_n C dL_build_2 rfl 0 rfl ?_
  refine qr_iload_n C dL_build_3 rfl 1 rfl ?_
  refine qr_iload_n C dL_build_4 rfl 2 rfl ?_
  refine qr_callVX C (na := 2) (As := [(.int x1), (.int x2)]) (rest := [(.int (0 : Int32)), (.ref (ad 150))]) (hM) (0) (h0) rfl rfl gi_L_48 rfl ⟨by decide, by decide, by decide +kernel⟩ rfl rfl (Nat.le_of_ble_eq_true rfl) rfl rfl ⟨Nat.le_of_ble_eq_true rfl, Nat.le_of_ble_eq_true rfl⟩ ⟨Nat.le_of_ble_eq_true rfl, Nat.le_of_ble_eq_true rfl⟩ dL_build_5 (?_) (fun v ad2 gz hpo => ?_)
  · intro E hE
    obtain ⟨rfl, hk⟩ := hpx E hE
    refine qr_catch C htab [] ⟨0, 10, 13, 13⟩ [] rfl (fun z hz => nomatch hz) rfl (by decide) gh_1.1 gh_1.2 (fun q => ?_)
    refine qr_astore (lv' := [(4, (.ref q)), (0, (.ref (ad 0))), (1, (.int x1)), (2, (.int x2)), (3, (.ref (ad 150)))]) C dL_build_13 (by decide) rfl ?_
    refine qr_iconst (v := 1) C dL_build_15 (by decide) ?_
    exact qr_iretX C rfl (Nat.le_of_ble_eq_true rfl) (Nat.le_of_ble_eq_true rfl) dL_build_16 (Or.inr ⟨1, hk, rfl, rfl, rfl⟩)
  · skip
    obtain ⟨⟨V, rfl⟩, hg150, ha150⟩ := hcp _ _ _ hpo
    refine qr_i2l C dL_build_8 ?_
    refine qr_last C (150) ((hg150.trans hO)) ha150 (j := 0) rfl (by omega) rfl dL_build_9 ?_
    generalize hg2 : va_up gz (150) _ = g1
    have f3 : g1 (150) = some (.inl (D.1 22, 1, .inr (.inl (vp_updL F (0) (V.toInt64))))) := by rw [← hg2]; exact va_up_self _ _ _
    refine qr_goto (tgt := 17) C dL_build_10 (by decide) ?_
    refine qr_iconst (v := 0) C dL_build_17 (by decide) ?_
    exact qr_iretX C rfl (Nat.le_of_ble_eq_true rfl) (Nat.le_of_ble_eq_true rfl) dL_build_18 (Or.inl ⟨V, gz, hpo, rfl, hg2⟩)
set_option maxHeartbeats 4000000 in
set_option maxRecDepth 100000 in
theorem k_L_isBuilt {l : Launch} (hst : l.stackTraces = false) (D : va_G) (ad : Nat → Nat) (g : qw_G) (x1 x2 : Int32) (F : Nat → Int64) (hO : g 150 = some (.inl (D.1 22, 1, .inr (.inl F)))) {fs : List Value} (h0 : g 0 = some (.inr (5, fs))) (cp : Option Value → (Nat → Nat) → qw_G → Prop) (px : String → Prop) (pk : Int32 → Prop) (hM : qw_T l yX6_isBuilt [Cond.code yX6_isBuilt cX6_isBuilt 3 (some .boolean)] { frames := 8, cells := 3, slots := 18, locals := 150 } D ad g [(.ref (ad 0)), (.int x1), (.int x2)] cp px 3 18) (hcp : qx_cp ad g cp) (hpx : ∀ E, px E → (E = qw_E1 ∧ pk 1)) : qw_T l yL_isBuilt [Cond.codeWith yL_isBuilt cL_isBuilt 5 (some .int) [(0, 17, 20, 13)]] { frames := 9, cells := 3, slots := 18, locals := 210 } D ad g [(.ref (ad 0)), (.int x1), (.int x2), (.ref (ad 150))] (qx_wp D ad g F qx_ob cp pk) (fun _ => False) 3 18 := by
  refine qw_T.ofH (maxL := 5) (own := RL) (lv := [(0, (.ref (ad 0))), (1, (.int x1)), (2, (.int x2)), (3, (.ref (ad 150)))]) hst (by decide) rfl rfl (Nat.le_of_ble_eq_true rfl) ?_
  intro p e s m args below meth c A C htab
  refine qr_aload_n C dL_isBuilt_0 rfl 3 rfl ?_
  refine qr_iconst (v := 0) C dL_isBuilt_1 (by decide) ?_
  refine qr_aload_n C dL_isBuilt_2 rfl 0 rfl ?_
  refine qr_iload_n C dL_isBuilt_3 rfl 1 rfl ?_
  refine qr_iload_n C dL_isBuilt_4 rfl 2 rfl ?_
  refine qr_callVX C (na := 2) (As := [(.int x1), (.int x2)]) (rest := [(.int (0 : Int32)), (.ref (ad 150))]) (hM) (0) (h0) rfl rfl gi_L_52 rfl ⟨by decide, by decide, by decide +kernel⟩ rfl rfl (Nat.le_of_ble_eq_true rfl) rfl rfl ⟨Nat.le_of_ble_eq_true rfl, Nat.le_of_ble_eq_true rfl⟩ ⟨Nat.le_of_ble_eq_true rfl, Nat.le_of_ble_eq_true rfl⟩ dL_isBuilt_5 (?_) (fun v ad2 gz hpo => ?_)
  · intro E hE
    obtain ⟨rfl, hk⟩ := hpx E hE
    refine qr_catch C htab [] ⟨0, 17, 20, 13⟩ [] rfl (fun z hz => nomatch hz) rfl (by decide) gh_1.1 gh_1.2 (fun q => ?_)
    refine qr_astore (lv' := [(4, (.ref q)), (0, (.ref (ad 0))), (1, (.int x1)), (2, (.int x2)), (3, (.ref (ad 150)))]) C dL_isBuilt_20 (by decide) rfl ?_
    refine qr_iconst (v := 1) C dL_isBuilt_22 (by decide) ?_
    exact qr_iretX C rfl (Nat.le_of_ble_eq_true rfl) (Nat.le_of_ble_eq_true rfl) dL_isBuilt_23 (Or.inr ⟨1, hk, rfl, rfl, rfl⟩)
  · skip
    obtain ⟨⟨V, rfl⟩, hg150, ha150⟩ := hcp _ _ _ hpo
    refine qr_if_eq C 15 dL_isBuilt_8 (by decide) (fun c1 => ?_) (fun c1 => ?_)
    · skip
      refine qr_lconst (v := 0) C dL_isBuilt_15 rfl ?_
      refine qr_last C (150) ((hg150.trans hO)) ha150 (j := 0) rfl (by omega) rfl dL_isBuilt_16 ?_
      generalize hg3 : va_up gz (150) _ = g2
      have f4 : g2 (150) = some (.inl (D.1 22, 1, .inr (.inl (vp_updL F (0) (0 : Int64))))) := by rw [← hg3]; exact va_up_self _ _ _
      refine qr_goto (tgt := 24) C dL_isBuilt_17 (by decide) ?_
      refine qr_iconst (v := 0) C dL_isBuilt_24 (by decide) ?_
      exact qr_iretX C rfl (Nat.le_of_ble_eq_true rfl) (Nat.le_of_ble_eq_true rfl) dL_isBuilt_25 (Or.inl ⟨V, gz, hpo, rfl, by rw [show qx_ob V = _ from if_pos c1]; exact hg3⟩)
    · skip
      refine qr_lconst (v := 1) C dL_isBuilt_11 rfl ?_
      refine qr_goto (tgt := 16) C dL_isBuilt_12 (by decide) ?_
      refine qr_last C (150) ((hg150.trans hO)) ha150 (j := 0) rfl (by omega) rfl dL_isBuilt_16 ?_
      generalize hg6 : va_up gz (150) _ = g5
      have f7 : g5 (150) = some (.inl (D.1 22, 1, .inr (.inl (vp_updL F (0) (1 : Int64))))) := by rw [← hg6]; exact va_up_self _ _ _
      refine qr_goto (tgt := 24) C dL_isBuilt_17 (by decide) ?_
      refine qr_iconst (v := 0) C dL_isBuilt_24 (by decide) ?_
      exact qr_iretX C rfl (Nat.le_of_ble_eq_true rfl) (Nat.le_of_ble_eq_true rfl) dL_isBuilt_25 (Or.inl ⟨V, gz, hpo, rfl, by rw [show qx_ob V = _ from if_neg c1]; exact hg6⟩)
set_option maxHeartbeats 4000000 in
set_option maxRecDepth 100000 in
theorem k_L_shown {l : Launch} (hst : l.stackTraces = false) (D : va_G) (ad : Nat → Nat) (g : qw_G) (x1 x2 x3 x4 : Int32) (F : Nat → Int64) (hO : g 150 = some (.inl (D.1 22, 1, .inr (.inl F)))) {fs : List Value} (h0 : g 0 = some (.inr (5, fs))) (cp : Option Value → (Nat → Nat) → qw_G → Prop) (px : String → Prop) (pk : Int32 → Prop) (hM : qw_T l yX6_shown [Cond.code yX6_shown cX6_shown 7 (some .int)] { frames := 8, cells := 5, slots := 30, locals := 150 } D ad g [(.ref (ad 0)), (.int x1), (.int x2), (.int x3), (.int x4)] cp px 5 30) (hcp : qx_cp ad g cp) (hpx : ∀ E, px E → (E = qw_E1 ∧ pk 1) ∨ (E = qw_E3 ∧ pk 2)) : qw_T l yL_shown [Cond.codeWith yL_shown cL_shown 7 (some .int) [(0, 14, 17, 13), (0, 14, 21, 17)]] { frames := 9, cells := 5, slots := 30, locals := 210 } D ad g [(.ref (ad 0)), (.int x1), (.int x2), (.int x3), (.int x4), (.ref (ad 150))] (qx_wp D ad g F qx_oi cp pk) (fun _ => False) 5 30 := by
  refine qw_T.ofH (maxL := 7) (own := RL) (lv := [(0, (.ref (ad 0))), (1, (.int x1)), (2, (.int x2)), (3, (.int x3)), (4, (.int x4)), (5, (.ref (ad 150)))]) hst (by decide) rfl rfl (Nat.le_of_ble_eq_true rfl) ?_
  intro p e s m args below meth c A C htab
  refine qr_aload C dL_shown_0 5 rfl ?_
  refine qr_iconst (v := 0) C dL_shown_2 (by decide) ?_
  refine qr_aload_n C dL_shown_3 rfl 0 rfl ?_
  refine qr_iload_n C dL_shown_4 rfl 1 rfl ?_
  refine qr_iload_n C dL_shown_5 rfl 2 rfl ?_
  refine qr_iload_n C dL_shown_6 rfl 3 rfl ?_
  refine qr_iload C dL_shown_7 4 rfl ?_
  refine qr_callVX C (na := 4) (As := [(.int x1), (.int x2), (.int x3), (.int x4)]) (rest := [(.int (0 : Int32)), (.ref (ad 150))]) (hM) (0) (h0) rfl rfl gi_L_56 rfl ⟨by decide, by decide, by decide +kernel⟩ rfl rfl (Nat.le_of_ble_eq_true rfl) rfl rfl ⟨Nat.le_of_ble_eq_true rfl, Nat.le_of_ble_eq_true rfl⟩ ⟨Nat.le_of_ble_eq_true rfl, Nat.le_of_ble_eq_true rfl⟩ dL_shown_9 (?_) (fun v ad2 gz hpo => ?_)
  · intro E hE
    rcases hpx E hE with ⟨rfl, hk⟩ | ⟨rfl, hk⟩
    · skip
      refine qr_catch C htab [] ⟨0, 14, 17, 13⟩ [⟨0, 14, 21, 17⟩] rfl (fun z hz => nomatch hz) rfl (by decide) gh_1.1 gh_1.2 (fun q => ?_)
      refine qr_astore (lv' := [(6, (.ref q)), (0, (.ref (ad 0))), (1, (.int x1)), (2, (.int x2)), (3, (.int x3)), (4, (.int x4)), (5, (.ref (ad 150)))]) C dL_shown_17 (by decide) rfl ?_
      refine qr_iconst (v := 1) C dL_shown_19 (by decide) ?_
      exact qr_iretX C rfl (Nat.le_of_ble_eq_true rfl) (Nat.le_of_ble_eq_true rfl) dL_shown_20 (Or.inr ⟨1, hk, rfl, rfl, rfl⟩)
    · skip
      refine qr_catch C htab [⟨0, 14, 17, 13⟩] ⟨0, 14, 21, 17⟩ [] rfl (fun z hz => Or.inr (by obtain rfl := List.mem_singleton.mp hz; exact ⟨by decide, qw_E1, gh_1.1, C.2.2.2.2.1.2.2.2.1.2.1⟩)) rfl (by decide) gh_3.1 gh_3.2 (fun q => ?_)
      refine qr_astore (lv' := [(6, (.ref q)), (0, (.ref (ad 0))), (1, (.int x1)), (2, (.int x2)), (3, (.int x3)), (4, (.int x4)), (5, (.ref (ad 150)))]) C dL_shown_21 (by decide) rfl ?_
      refine qr_iconst (v := 2) C dL_shown_23 (by decide) ?_
      exact qr_iretX C rfl (Nat.le_of_ble_eq_true rfl) (Nat.le_of_ble_eq_true rfl) dL_shown_24 (Or.inr ⟨2, hk, rfl, rfl, rfl⟩)
  · skip
    obtain ⟨⟨V, rfl⟩, hg150, ha150⟩ := hcp _ _ _ hpo
    refine qr_i2l C dL_shown_12 ?_
    refine qr_last C (150) ((hg150.trans hO)) ha150 (j := 0) rfl (by omega) rfl dL_shown_13 ?_
    generalize hg2 : va_up gz (150) _ = g1
    have f3 : g1 (150) = some (.inl (D.1 22, 1, .inr (.inl (vp_updL F (0) (V.toInt64))))) := by rw [← hg2]; exact va_up_self _ _ _
    refine qr_goto (tgt := 25) C dL_shown_14 (by decide) ?_
    refine qr_iconst (v := 0) C dL_shown_25 (by decide) ?_
    exact qr_iretX C rfl (Nat.le_of_ble_eq_true rfl) (Nat.le_of_ble_eq_true rfl) dL_shown_26 (Or.inl ⟨V, gz, hpo, rfl, hg2⟩)
set_option maxHeartbeats 4000000 in
set_option maxRecDepth 100000 in
theorem k_L_why {l : Launch} (hst : l.stackTraces = false) (D : va_G) (ad : Nat → Nat) (g : qw_G) (x1 x2 x3 x4 : Int32) (F : Nat → Int64) (hO : g 150 = some (.inl (D.1 22, 1, .inr (.inl F)))) {fs : List Value} (h0 : g 0 = some (.inr (5, fs))) (cp : Option Value → (Nat → Nat) → qw_G → Prop) (px : String → Prop) (pk : Int32 → Prop) (hM : qw_T l yX6_why [Cond.code yX6_why cX6_why 7 (some .int)] { frames := 8, cells := 5, slots := 30, locals := 150 } D ad g [(.ref (ad 0)), (.int x1), (.int x2), (.int x3), (.int x4)] cp px 5 30) (hcp : qx_cp ad g cp) (hpx : ∀ E, px E → (E = qw_E1 ∧ pk 1)) : qw_T l yL_why [Cond.codeWith yL_why cL_why 7 (some .int) [(0, 14, 17, 13)]] { frames := 9, cells := 5, slots := 30, locals := 210 } D ad g [(.ref (ad 0)), (.int x1), (.int x2), (.int x3), (.int x4), (.ref (ad 150))] (qx_wp D ad g F qx_oi cp pk) (fun _ => False) 5 30 := by
  refine qw_T.ofH (maxL := 7) (own := RL) (lv := [(0, (.ref (ad 0))), (1, (.int x1)), (2, (.int x2)), (3, (.int x3)), (4, (.int x4)), (5, (.ref (ad 150)))]) hst (by decide) rfl rfl (Nat.le_of_ble_eq_true rfl) ?_
  intro p e s m args below meth c A C htab
  refine qr_aload C dL_why_0 5 rfl ?_
  refine qr_iconst (v := 0) C dL_why_2 (by decide) ?_
  refine qr_aload_n C dL_why_3 rfl 0 rfl ?_
  refine qr_iload_n C dL_why_4 rfl 1 rfl ?_
  refine qr_iload_n C dL_why_5 rfl 2 rfl ?_
  refine qr_iload_n C dL_why_6 rfl 3 rfl ?_
  refine qr_iload C dL_why_7 4 rfl ?_
  refine qr_callVX C (na := 4) (As := [(.int x1), (.int x2), (.int x3), (.int x4)]) (rest := [(.int (0 : Int32)), (.ref (ad 150))]) (hM) (0) (h0) rfl rfl gi_L_59 rfl ⟨by decide, by decide, by decide +kernel⟩ rfl rfl (Nat.le_of_ble_eq_true rfl) rfl rfl ⟨Nat.le_of_ble_eq_true rfl, Nat.le_of_ble_eq_true rfl⟩ ⟨Nat.le_of_ble_eq_true rfl, Nat.le_of_ble_eq_true rfl⟩ dL_why_9 (?_) (fun v ad2 gz hpo => ?_)
  · intro E hE
    obtain ⟨rfl, hk⟩ := hpx E hE
    refine qr_catch C htab [] ⟨0, 14, 17, 13⟩ [] rfl (fun z hz => nomatch hz) rfl (by decide) gh_1.1 gh_1.2 (fun q => ?_)
    refine qr_astore (lv' := [(6, (.ref q)), (0, (.ref (ad 0))), (1, (.int x1)), (2, (.int x2)), (3, (.int x3)), (4, (.int x4)), (5, (.ref (ad 150)))]) C dL_why_17 (by decide) rfl ?_
    refine qr_iconst (v := 1) C dL_why_19 (by decide) ?_
    exact qr_iretX C rfl (Nat.le_of_ble_eq_true rfl) (Nat.le_of_ble_eq_true rfl) dL_why_20 (Or.inr ⟨1, hk, rfl, rfl, rfl⟩)
  · skip
    obtain ⟨⟨V, rfl⟩, hg150, ha150⟩ := hcp _ _ _ hpo
    refine qr_i2l C dL_why_12 ?_
    refine qr_last C (150) ((hg150.trans hO)) ha150 (j := 0) rfl (by omega) rfl dL_why_13 ?_
    generalize hg2 : va_up gz (150) _ = g1
    have f3 : g1 (150) = some (.inl (D.1 22, 1, .inr (.inl (vp_updL F (0) (V.toInt64))))) := by rw [← hg2]; exact va_up_self _ _ _
    refine qr_goto (tgt := 21) C dL_why_14 (by decide) ?_
    refine qr_iconst (v := 0) C dL_why_21 (by decide) ?_
    exact qr_iretX C rfl (Nat.le_of_ble_eq_true rfl) (Nat.le_of_ble_eq_true rfl) dL_why_22 (Or.inl ⟨V, gz, hpo, rfl, hg2⟩)
set_option maxHeartbeats 4000000 in
set_option maxRecDepth 100000 in
theorem k_L_read {l : Launch} (hst : l.stackTraces = false) (D : va_G) (ad : Nat → Nat) (g : qw_G) (x1 x2 : Int32) (F : Nat → Int64) (hO : g 150 = some (.inl (D.1 22, 1, .inr (.inl F)))) {fs : List Value} (h0 : g 0 = some (.inr (5, fs))) (cp : Option Value → (Nat → Nat) → qw_G → Prop) (px : String → Prop) (pk : Int32 → Prop) (hM : qw_T l yX6_read [Cond.code yX6_read cX6_read 4 (some .int)] { frames := 8, cells := 3, slots := 18, locals := 150 } D ad g [(.ref (ad 0)), (.int x1), (.int x2)] cp px 3 18) (hcp : qx_cp ad g cp) (hpx : ∀ E, px E → (E = qw_E1 ∧ pk 1) ∨ (E = qw_E3 ∧ pk 2)) : qw_T l yL_read [Cond.codeWith yL_read cL_read 5 (some .int) [(0, 10, 13, 13), (0, 10, 17, 17)]] { frames := 9, cells := 3, slots := 18, locals := 210 } D ad g [(.ref (ad 0)), (.int x1), (.int x2), (.ref (ad 150))] (qx_wp D ad g F qx_oi cp pk) (fun _ => False) 3 18 := by
  refine qw_T.ofH (maxL := 5) (own := RL) (lv := [(0, (.ref (ad 0))), (1, (.int x1)), (2, (.int x2)), (3, (.ref (ad 150)))]) hst (by decide) rfl rfl (Nat.le_of_ble_eq_true rfl) ?_
  intro p e s m args below meth c A C htab
  refine qr_aload_n C dL_read_0 rfl 3 rfl ?_
  refine qr_iconst (v := 0) C dL_read_1 (by decide) ?_
  refine qr_aload_n C dL_read_2 rfl 0 rfl ?_
  refine qr_iload_n C dL_read_3 rfl 1 rfl ?_
  refine qr_iload_n C dL_read_4 rfl 2 rfl ?_
  refine qr_callVX C (na := 2) (As := [(.int x1), (.int x2)]) (rest := [(.int (0 : Int32)), (.ref (ad 150))]) (hM) (0) (h0) rfl rfl gi_L_62 rfl ⟨by decide, by decide, by decide +kernel⟩ rfl rfl (Nat.le_of_ble_eq_true rfl) rfl rfl ⟨Nat.le_of_ble_eq_true rfl, Nat.le_of_ble_eq_true rfl⟩ ⟨Nat.le_of_ble_eq_true rfl, Nat.le_of_ble_eq_true rfl⟩ dL_read_5 (?_) (fun v ad2 gz hpo => ?_)
  · intro E hE
    rcases hpx E hE with ⟨rfl, hk⟩ | ⟨rfl, hk⟩
    · skip
      refine qr_catch C htab [] ⟨0, 10, 13, 13⟩ [⟨0, 10, 17, 17⟩] rfl (fun z hz => nomatch hz) rfl (by decide) gh_1.1 gh_1.2 (fun q => ?_)
      refine qr_astore (lv' := [(4, (.ref q)), (0, (.ref (ad 0))), (1, (.int x1)), (2, (.int x2)), (3, (.ref (ad 150)))]) C dL_read_13 (by decide) rfl ?_
      refine qr_iconst (v := 1) C dL_read_15 (by decide) ?_
      exact qr_iretX C rfl (Nat.le_of_ble_eq_true rfl) (Nat.le_of_ble_eq_true rfl) dL_read_16 (Or.inr ⟨1, hk, rfl, rfl, rfl⟩)
    · skip
      refine qr_catch C htab [⟨0, 10, 13, 13⟩] ⟨0, 10, 17, 17⟩ [] rfl (fun z hz => Or.inr (by obtain rfl := List.mem_singleton.mp hz; exact ⟨by decide, qw_E1, gh_1.1, C.2.2.2.2.1.2.2.2.1.2.1⟩)) rfl (by decide) gh_3.1 gh_3.2 (fun q => ?_)
      refine qr_astore (lv' := [(4, (.ref q)), (0, (.ref (ad 0))), (1, (.int x1)), (2, (.int x2)), (3, (.ref (ad 150)))]) C dL_read_17 (by decide) rfl ?_
      refine qr_iconst (v := 2) C dL_read_19 (by decide) ?_
      exact qr_iretX C rfl (Nat.le_of_ble_eq_true rfl) (Nat.le_of_ble_eq_true rfl) dL_read_20 (Or.inr ⟨2, hk, rfl, rfl, rfl⟩)
  · skip
    obtain ⟨⟨V, rfl⟩, hg150, ha150⟩ := hcp _ _ _ hpo
    refine qr_i2l C dL_read_8 ?_
    refine qr_last C (150) ((hg150.trans hO)) ha150 (j := 0) rfl (by omega) rfl dL_read_9 ?_
    generalize hg2 : va_up gz (150) _ = g1
    have f3 : g1 (150) = some (.inl (D.1 22, 1, .inr (.inl (vp_updL F (0) (V.toInt64))))) := by rw [← hg2]; exact va_up_self _ _ _
    refine qr_goto (tgt := 21) C dL_read_10 (by decide) ?_
    refine qr_iconst (v := 0) C dL_read_21 (by decide) ?_
    exact qr_iretX C rfl (Nat.le_of_ble_eq_true rfl) (Nat.le_of_ble_eq_true rfl) dL_read_22 (Or.inl ⟨V, gz, hpo, rfl, hg2⟩)
set_option maxHeartbeats 4000000 in
set_option maxRecDepth 100000 in
theorem k_L_mark {l : Launch} (hst : l.stackTraces = false) (D : va_G) (ad : Nat → Nat) (g : qw_G) (x1 x2 : Int32) (F : Nat → Int64) (hO : g 150 = some (.inl (D.1 22, 1, .inr (.inl F)))) {fs : List Value} (h0 : g 0 = some (.inr (5, fs))) (cp : Option Value → (Nat → Nat) → qw_G → Prop) (px : String → Prop) (pk : Int32 → Prop) (hM : qw_T l yX6_mark [Cond.code yX6_mark cX6_mark 4 (some .boolean)] { frames := 7, cells := 2, slots := 12, locals := 120 } D ad g [(.ref (ad 0)), (.int x1), (.int x2)] cp px 2 12) (hcp : qx_cp ad g cp) (hpx : ∀ E, px E → (E = qw_E1 ∧ pk 1)) : qw_T l yL_mark [Cond.codeWith yL_mark cL_mark 5 (some .int) [(0, 17, 20, 13)]] { frames := 8, cells := 2, slots := 12, locals := 180 } D ad g [(.ref (ad 0)), (.int x1), (.int x2), (.ref (ad 150))] (qx_wp D ad g F qx_ob cp pk) (fun _ => False) 2 12 := by
  refine qw_T.ofH (maxL := 5) (own := RL) (lv := [(0, (.ref (ad 0))), (1, (.int x1)), (2, (.int x2)), (3, (.ref (ad 150)))]) hst (by decide) rfl rfl (Nat.le_of_ble_eq_true rfl) ?_
  intro p e s m args below meth c A C htab
  refine qr_aload_n C dL_mark_0 rfl 3 rfl ?_
  refine qr_iconst (v := 0) C dL_mark_1 (by decide) ?_
  refine qr_aload_n C dL_mark_2 rfl 0 rfl ?_
  refine qr_iload_n C dL_mark_3 rfl 1 rfl ?_
  refine qr_iload_n C dL_mark_4 rfl 2 rfl ?_
  refine qr_callVX C (na := 2) (As := [(.int x1), (.int x2)]) (rest := [(.int (0 : Int32)), (.ref (ad 150))]) (hM) (0) (h0) rfl rfl gi_L_65 rfl ⟨by decide, by decide, by decide +kernel⟩ rfl rfl (Nat.le_of_ble_eq_true rfl) rfl rfl ⟨Nat.le_of_ble_eq_true rfl, Nat.le_of_ble_eq_true rfl⟩ ⟨Nat.le_of_ble_eq_true rfl, Nat.le_of_ble_eq_true rfl⟩ dL_mark_5 (?_) (fun v ad2 gz hpo => ?_)
  · intro E hE
    obtain ⟨rfl, hk⟩ := hpx E hE
    refine qr_catch C htab [] ⟨0, 17, 20, 13⟩ [] rfl (fun z hz => nomatch hz) rfl (by decide) gh_1.1 gh_1.2 (fun q => ?_)
    refine qr_astore (lv' := [(4, (.ref q)), (0, (.ref (ad 0))), (1, (.int x1)), (2, (.int x2)), (3, (.ref (ad 150)))]) C dL_mark_20 (by decide) rfl ?_
    refine qr_iconst (v := 1) C dL_mark_22 (by decide) ?_
    exact qr_iretX C rfl (Nat.le_of_ble_eq_true rfl) (Nat.le_of_ble_eq_true rfl) dL_mark_23 (Or.inr ⟨1, hk, rfl, rfl, rfl⟩)
  · skip
    obtain ⟨⟨V, rfl⟩, hg150, ha150⟩ := hcp _ _ _ hpo
    refine qr_if_eq C 15 dL_mark_8 (by decide) (fun c1 => ?_) (fun c1 => ?_)
    · skip
      refine qr_lconst (v := 0) C dL_mark_15 rfl ?_
      refine qr_last C (150) ((hg150.trans hO)) ha150 (j := 0) rfl (by omega) rfl dL_mark_16 ?_
      generalize hg3 : va_up gz (150) _ = g2
      have f4 : g2 (150) = some (.inl (D.1 22, 1, .inr (.inl (vp_updL F (0) (0 : Int64))))) := by rw [← hg3]; exact va_up_self _ _ _
      refine qr_goto (tgt := 24) C dL_mark_17 (by decide) ?_
      refine qr_iconst (v := 0) C dL_mark_24 (by decide) ?_
      exact qr_iretX C rfl (Nat.le_of_ble_eq_true rfl) (Nat.le_of_ble_eq_true rfl) dL_mark_25 (Or.inl ⟨V, gz, hpo, rfl, by rw [show qx_ob V = _ from if_pos c1]; exact hg3⟩)
    · skip
      refine qr_lconst (v := 1) C dL_mark_11 rfl ?_
      refine qr_goto (tgt := 16) C dL_mark_12 (by decide) ?_
      refine qr_last C (150) ((hg150.trans hO)) ha150 (j := 0) rfl (by omega) rfl dL_mark_16 ?_
      generalize hg6 : va_up gz (150) _ = g5
      have f7 : g5 (150) = some (.inl (D.1 22, 1, .inr (.inl (vp_updL F (0) (1 : Int64))))) := by rw [← hg6]; exact va_up_self _ _ _
      refine qr_goto (tgt := 24) C dL_mark_17 (by decide) ?_
      refine qr_iconst (v := 0) C dL_mark_24 (by decide) ?_
      exact qr_iretX C rfl (Nat.le_of_ble_eq_true rfl) (Nat.le_of_ble_eq_true rfl) dL_mark_25 (Or.inl ⟨V, gz, hpo, rfl, by rw [show qx_ob V = _ from if_neg c1]; exact hg6⟩)
set_option maxHeartbeats 4000000 in
set_option maxRecDepth 100000 in
theorem k_L_isKnown {l : Launch} (hst : l.stackTraces = false) (D : va_G) (ad : Nat → Nat) (g : qw_G) (x1 x2 : Int32) (F : Nat → Int64) (hO : g 150 = some (.inl (D.1 22, 1, .inr (.inl F)))) {fs : List Value} (h0 : g 0 = some (.inr (5, fs))) (cp : Option Value → (Nat → Nat) → qw_G → Prop) (px : String → Prop) (pk : Int32 → Prop) (hM : qw_T l yX6_isKnown [Cond.code yX6_isKnown cX6_isKnown 4 (some .boolean)] { frames := 7, cells := 2, slots := 12, locals := 120 } D ad g [(.ref (ad 0)), (.int x1), (.int x2)] cp px 2 12) (hcp : qx_cp ad g cp) (hpx : ∀ E, px E → (E = qw_E1 ∧ pk 1)) : qw_T l yL_isKnown [Cond.codeWith yL_isKnown cL_isKnown 5 (some .int) [(0, 17, 20, 13)]] { frames := 8, cells := 2, slots := 12, locals := 180 } D ad g [(.ref (ad 0)), (.int x1), (.int x2), (.ref (ad 150))] (qx_wp D ad g F qx_ob cp pk) (fun _ => False) 2 12 := by
  refine qw_T.ofH (maxL := 5) (own := RL) (lv := [(0, (.ref (ad 0))), (1, (.int x1)), (2, (.int x2)), (3, (.ref (ad 150)))]) hst (by decide) rfl rfl (Nat.le_of_ble_eq_true rfl) ?_
  intro p e s m args below meth c A C htab
  refine qr_aload_n C dL_isKnown_0 rfl 3 rfl ?_
  refine qr_iconst (v := 0) C dL_isKnown_1 (by decide) ?_
  refine qr_aload_n C dL_isKnown_2 rfl 0 rfl ?_
  refine qr_iload_n C dL_isKnown_3 rfl 1 rfl ?_
  refine qr_iload_n C dL_isKnown_4 rfl 2 rfl ?_
  refine qr_callVX C (na := 2) (As := [(.int x1), (.int x2)]) (rest := [(.int (0 : Int32)), (.ref (ad 150))]) (hM) (0) (h0) rfl rfl gi_L_68 rfl ⟨by decide, by decide, by decide +kernel⟩ rfl rfl (Nat.le_of_ble_eq_true rfl) rfl rfl ⟨Nat.le_of_ble_eq_true rfl, Nat.le_of_ble_eq_true rfl⟩ ⟨Nat.le_of_ble_eq_true rfl, Nat.le_of_ble_eq_true rfl⟩ dL_isKnown_5 (?_) (fun v ad2 gz hpo => ?_)
  · intro E hE
    obtain ⟨rfl, hk⟩ := hpx E hE
    refine qr_catch C htab [] ⟨0, 17, 20, 13⟩ [] rfl (fun z hz => nomatch hz) rfl (by decide) gh_1.1 gh_1.2 (fun q => ?_)
    refine qr_astore (lv' := [(4, (.ref q)), (0, (.ref (ad 0))), (1, (.int x1)), (2, (.int x2)), (3, (.ref (ad 150)))]) C dL_isKnown_20 (by decide) rfl ?_
    refine qr_iconst (v := 1) C dL_isKnown_22 (by decide) ?_
    exact qr_iretX C rfl (Nat.le_of_ble_eq_true rfl) (Nat.le_of_ble_eq_true rfl) dL_isKnown_23 (Or.inr ⟨1, hk, rfl, rfl, rfl⟩)
  · skip
    obtain ⟨⟨V, rfl⟩, hg150, ha150⟩ := hcp _ _ _ hpo
    refine qr_if_eq C 15 dL_isKnown_8 (by decide) (fun c1 => ?_) (fun c1 => ?_)
    · skip
      refine qr_lconst (v := 0) C dL_isKnown_15 rfl ?_
      refine qr_last C (150) ((hg150.trans hO)) ha150 (j := 0) rfl (by omega) rfl dL_isKnown_16 ?_
      generalize hg3 : va_up gz (150) _ = g2
      have f4 : g2 (150) = some (.inl (D.1 22, 1, .inr (.inl (vp_updL F (0) (0 : Int64))))) := by rw [← hg3]; exact va_up_self _ _ _
      refine qr_goto (tgt := 24) C dL_isKnown_17 (by decide) ?_
      refine qr_iconst (v := 0) C dL_isKnown_24 (by decide) ?_
      exact qr_iretX C rfl (Nat.le_of_ble_eq_true rfl) (Nat.le_of_ble_eq_true rfl) dL_isKnown_25 (Or.inl ⟨V, gz, hpo, rfl, by rw [show qx_ob V = _ from if_pos c1]; exact hg3⟩)
    · skip
      refine qr_lconst (v := 1) C dL_isKnown_11 rfl ?_
      refine qr_goto (tgt := 16) C dL_isKnown_12 (by decide) ?_
      refine qr_last C (150) ((hg150.trans hO)) ha150 (j := 0) rfl (by omega) rfl dL_isKnown_16 ?_
      generalize hg6 : va_up gz (150) _ = g5
      have f7 : g5 (150) = some (.inl (D.1 22, 1, .inr (.inl (vp_updL F (0) (1 : Int64))))) := by rw [← hg6]; exact va_up_self _ _ _
      refine qr_goto (tgt := 24) C dL_isKnown_17 (by decide) ?_
      refine qr_iconst (v := 0) C dL_isKnown_24 (by decide) ?_
      exact qr_iretX C rfl (Nat.le_of_ble_eq_true rfl) (Nat.le_of_ble_eq_true rfl) dL_isKnown_25 (Or.inl ⟨V, gz, hpo, rfl, by rw [show qx_ob V = _ from if_neg c1]; exact hg6⟩)
set_option maxHeartbeats 4000000 in
set_option maxRecDepth 100000 in
theorem k_L_isKnownBySolving {l : Launch} (hst : l.stackTraces = false) (D : va_G) (ad : Nat → Nat) (g : qw_G) (x1 x2 : Int32) (F : Nat → Int64) (hO : g 150 = some (.inl (D.1 22, 1, .inr (.inl F)))) {fs : List Value} (h0 : g 0 = some (.inr (5, fs))) (cp : Option Value → (Nat → Nat) → qw_G → Prop) (px : String → Prop) (pk : Int32 → Prop) (hM : qw_T l yX6_isKnownBySolving [Cond.code yX6_isKnownBySolving cX6_isKnownBySolving 4 (some .boolean)] { frames := 7, cells := 2, slots := 12, locals := 180 } D ad g [(.ref (ad 0)), (.int x1), (.int x2)] cp px 2 12) (hcp : qx_cp ad g cp) (hpx : ∀ E, px E → (E = qw_E1 ∧ pk 1)) : qw_T l yL_isKnownBySolving [Cond.codeWith yL_isKnownBySolving cL_isKnownBySolving 5 (some .int) [(0, 17, 20, 13)]] { frames := 8, cells := 2, slots := 12, locals := 240 } D ad g [(.ref (ad 0)), (.int x1), (.int x2), (.ref (ad 150))] (qx_wp D ad g F qx_ob cp pk) (fun _ => False) 2 12 := by
  refine qw_T.ofH (maxL := 5) (own := RL) (lv := [(0, (.ref (ad 0))), (1, (.int x1)), (2, (.int x2)), (3, (.ref (ad 150)))]) hst (by decide) rfl rfl (Nat.le_of_ble_eq_true rfl) ?_
  intro p e s m args below meth c A C htab
  refine qr_aload_n C dL_isKnownBySolving_0 rfl 3 rfl ?_
  refine qr_iconst (v := 0) C dL_isKnownBySolving_1 (by decide) ?_
  refine qr_aload_n C dL_isKnownBySolving_2 rfl 0 rfl ?_
  refine qr_iload_n C dL_isKnownBySolving_3 rfl 1 rfl ?_
  refine qr_iload_n C dL_isKnownBySolving_4 rfl 2 rfl ?_
  refine qr_callVX C (na := 2) (As := [(.int x1), (.int x2)]) (rest := [(.int (0 : Int32)), (.ref (ad 150))]) (hM) (0) (h0) rfl rfl gi_L_71 rfl ⟨by decide, by decide, by decide +kernel⟩ rfl rfl (Nat.le_of_ble_eq_true rfl) rfl rfl ⟨Nat.le_of_ble_eq_true rfl, Nat.le_of_ble_eq_true rfl⟩ ⟨Nat.le_of_ble_eq_true rfl, Nat.le_of_ble_eq_true rfl⟩ dL_isKnownBySolving_5 (?_) (fun v ad2 gz hpo => ?_)
  · intro E hE
    obtain ⟨rfl, hk⟩ := hpx E hE
    refine qr_catch C htab [] ⟨0, 17, 20, 13⟩ [] rfl (fun z hz => nomatch hz) rfl (by decide) gh_1.1 gh_1.2 (fun q => ?_)
    refine qr_astore (lv' := [(4, (.ref q)), (0, (.ref (ad 0))), (1, (.int x1)), (2, (.int x2)), (3, (.ref (ad 150)))]) C dL_isKnownBySolving_20 (by decide) rfl ?_
    refine qr_iconst (v := 1) C dL_isKnownBySolving_22 (by decide) ?_
    exact qr_iretX C rfl (Nat.le_of_ble_eq_true rfl) (Nat.le_of_ble_eq_true rfl) dL_isKnownBySolving_23 (Or.inr ⟨1, hk, rfl, rfl, rfl⟩)
  · skip
    obtain ⟨⟨V, rfl⟩, hg150, ha150⟩ := hcp _ _ _ hpo
    refine qr_if_eq C 15 dL_isKnownBySolving_8 (by decide) (fun c1 => ?_) (fun c1 => ?_)
    · skip
      refine qr_lconst (v := 0) C dL_isKnownBySolving_15 rfl ?_
      refine qr_last C (150) ((hg150.trans hO)) ha150 (j := 0) rfl (by omega) rfl dL_isKnownBySolving_16 ?_
      generalize hg3 : va_up gz (150) _ = g2
      have f4 : g2 (150) = some (.inl (D.1 22, 1, .inr (.inl (vp_updL F (0) (0 : Int64))))) := by rw [← hg3]; exact va_up_self _ _ _
      refine qr_goto (tgt := 24) C dL_isKnownBySolving_17 (by decide) ?_
      refine qr_iconst (v := 0) C dL_isKnownBySolving_24 (by decide) ?_
      exact qr_iretX C rfl (Nat.le_of_ble_eq_true rfl) (Nat.le_of_ble_eq_true rfl) dL_isKnownBySolving_25 (Or.inl ⟨V, gz, hpo, rfl, by rw [show qx_ob V = _ from if_pos c1]; exact hg3⟩)
    · skip
      refine qr_lconst (v := 1) C dL_isKnownBySolving_11 rfl ?_
      refine qr_goto (tgt := 16) C dL_isKnownBySolving_12 (by decide) ?_
      refine qr_last C (150) ((hg150.trans hO)) ha150 (j := 0) rfl (by omega) rfl dL_isKnownBySolving_16 ?_
      generalize hg6 : va_up gz (150) _ = g5
      have f7 : g5 (150) = some (.inl (D.1 22, 1, .inr (.inl (vp_updL F (0) (1 : Int64))))) := by rw [← hg6]; exact va_up_self _ _ _
      refine qr_goto (tgt := 24) C dL_isKnownBySolving_17 (by decide) ?_
      refine qr_iconst (v := 0) C dL_isKnownBySolving_24 (by decide) ?_
      exact qr_iretX C rfl (Nat.le_of_ble_eq_true rfl) (Nat.le_of_ble_eq_true rfl) dL_isKnownBySolving_25 (Or.inl ⟨V, gz, hpo, rfl, by rw [show qx_ob V = _ from if_neg c1]; exact hg6⟩)
