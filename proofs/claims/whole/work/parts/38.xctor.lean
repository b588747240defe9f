/-! the class's constructors -/
theorem qz_X3 : ∀ j, j < 5 → defaultValue (tyX3 j) = vp_V [.null, .int 0, .int 0, .int 0, .int 0] j := fun j hj => match j, hj with | 0, _ => rfl | 1, _ => rfl | 2, _ => rfl | 3, _ => rfl | 4, _ => rfl
theorem qz_X5 : ∀ j, j < 4 → defaultValue (tyX5 j) = vp_V [.null, .null, .int 0, .int 0] j := fun j hj => match j, hj with | 0, _ => rfl | 1, _ => rfl | 2, _ => rfl | 3, _ => rfl
theorem qz_X2 : ∀ j, j < 1 → defaultValue (tyX2 j) = vp_V [.null] j := fun j hj => match j, hj with | 0, _ => rfl
set_option maxRecDepth 20000 in
theorem gcn_X3 : (Cond.instantiable RX3 5) ∈ qw_Ts ∧ (Cond.initialized RX3) ∈ qw_Ts := by decide +kernel
set_option maxRecDepth 20000 in
theorem gcn_X5 : (Cond.instantiable RX5 4) ∈ qw_Ts ∧ (Cond.initialized RX5) ∈ qw_Ts := by decide +kernel
/-- a fresh Report at 20 + j -/
def qx_R0 (D : va_G) (ad : Nat → Nat) (g : qw_G) (j : Nat) : Prop := g (20 + j) = some (.inr (2, [.ref (ad (40 + j)), .int 0, .int 0, .int 0, .int 0])) ∧ g (40 + j) = some (.inl (D.1 20, 30, .inl (fun _ => 0)))
def qx_R0p (D : va_G) (ad : Nat → Nat) (g : qw_G) (j : Nat) : Option Value → (Nat → Nat) → qw_G → Prop := fun v' ad' g' => none = v' ∧ qx_R0 D ad' g' j ∧ (∀ t, t ≠ 40 + j → ad' t = ad t) ∧ (∀ t, t ≠ 20 + j → t ≠ 40 + j → g' t = g t)
theorem qx_l4 {f : Nat → Nat} {q0 q1 q2 q3 : Nat} (h0 : f 0 = q0) (h1 : f 1 = q1) (h2 : f 2 = q2) (h3 : f 3 = q3) : (va_up (va_up (va_up (va_up (fun _ => none) 0 (some q0)) 1 (some q1)) 2 (some q2)) 3 (some q3) : Nat → Option Nat) = fun v => if v < 4 then some (f v) else none := by
  funext v
  match v with
  | 0 => rw [if_pos (by omega), h0]; rfl
  | 1 => rw [if_pos (by omega), h1]; rfl
  | 2 => rw [if_pos (by omega), h2]; rfl
  | 3 => rw [if_pos (by omega), h3]; rfl
  | n + 4 => rw [if_neg (by omega), va_up_ne _ _ (by omega), va_up_ne _ _ (by omega), va_up_ne _ _ (by omega), va_up_ne _ _ (by omega)]
theorem qx_l3 {f : Nat → Nat} {q0 q1 q2 : Nat} (h0 : f 0 = q0) (h1 : f 1 = q1) (h2 : f 2 = q2) : (va_up (va_up (va_up (fun _ => none) 0 (some q0)) 1 (some q1)) 2 (some q2) : Nat → Option Nat) = fun v => if v < 3 then some (f v) else none := by
  funext v
  match v with
  | 0 => rw [if_pos (by omega), h0]; rfl
  | 1 => rw [if_pos (by omega), h1]; rfl
  | 2 => rw [if_pos (by omega), h2]; rfl
  | n + 3 => rw [if_neg (by omega), va_up_ne _ _ (by omega), va_up_ne _ _ (by omega), va_up_ne _ _ (by omega)]
set_option maxHeartbeats 4000000 in
set_option maxRecDepth 100000 in
theorem k_X3_init {l : Launch} (hst : l.stackTraces = false) (D : va_G) (ad : Nat → Nat) (g : qw_G) (j a : Nat) (ha : ad (20 + j) = a) (hu : g (20 + j) = some (.inr (2, [.null, .int 0, .int 0, .int 0, .int 0]))) (hf : g (40 + j) = none) : qw_M l yX3_init [Cond.code yX3_init cX3_init 1 none] { frames := 1, cells := 1, slots := 30, locals := 60 } D ad g [(.ref a)] (qx_R0p D ad g j) 1 30 := by
  refine qw_M.of (maxL := 1) (own := RX3) (lv := [(0, (.ref a))]) hst (by decide) rfl rfl (Nat.le_of_ble_eq_true rfl) ?_
  intro p e s m args below meth c A C hin
  refine qr_aload_n C dX3_init_0 rfl 0 rfl ?_
  refine qr_obj C go_X3.1 go_X3.2.1 go_X3.2.2 (Nat.le_of_ble_eq_true rfl) (Nat.le_of_ble_eq_true rfl) dX3_init_1 ?_
  refine qr_aload_n C dX3_init_4 rfl 0 rfl ?_
  refine qr_bipush (v := 30) C dX3_init_5 (by decide) ?_
  refine qr_newI C gA_int (N := 30) rfl rfl (40 + j) (rfl.trans (hf)) (Nat.le_of_ble_eq_true rfl) (Nat.le_of_ble_eq_true rfl) dX3_init_7 ?_
  intro q1
  generalize hA3 : va_up ad (40 + j) q1 = ad2
  have hq6 : ad2 (40 + j) = q1 := by rw [← hA3]; exact va_up_self _ _ _
  have had7 : ∀ t, t ≠ 40 + j → ad2 t = ad t := fun t ht => by rw [← hA3]; exact va_up_ne _ _ ht
  generalize hgn5 : va_up g (40 + j) _ = gn4
  have hne8 : ∀ t, t ≠ 40 + j → gn4 t = g t := fun t ht => by rw [← hgn5]; exact va_up_ne _ _ ht
  have hnu9 : gn4 (40 + j) = some (.inl (D.1 20, 30, .inl (fun _ => 0))) := by rw [← hgn5]; exact va_up_self _ _ _
  have f10 : gn4 (20 + j) = g (20 + j) := hne8 (20 + j) (by omega)
  have pa11 : ad2 (20 + j) = a := (had7 (20 + j) (by omega)).trans ha
  refine pf_X3_9 C hin (20 + j) ((f10.trans (hu))) pa11 rfl rfl (Nat.le_of_ble_eq_true rfl) rfl dX3_init_9 ?_
  generalize hg13 : va_up gn4 (20 + j) _ = g12
  have f14 : g12 (20 + j) = some (.inr (2, [(.ref q1), (.int 0), (.int 0), (.int 0), (.int 0)])) := by rw [← hg13]; exact va_up_self _ _ _
  have f15 : g12 (40 + j) = gn4 (40 + j) := by rw [← hg13]; exact va_up_ne _ _ (by omega)
  exact qr_vret C rfl (Nat.le_of_ble_eq_true rfl) (Nat.le_of_ble_eq_true rfl) dX3_init_12 (⟨rfl, ⟨by rw [hq6]; exact f14, (f15.trans (hnu9))⟩, fun t h1 => ((had7 t (by omega)).trans rfl), fun t h1 h2 => ((congrFun hg13 t).symm.trans ((va_up_ne _ _ (by omega)).trans ((hne8 t (by omega)).trans rfl)))⟩)
/-- a fresh Table at 10 + i -/
def qx_T0 (D : va_G) (ad : Nat → Nat) (g : qw_G) (i : Nat) : Prop := g (10 + i) = some (.inr (4, [.ref (ad (13 + i)), .ref (ad (16 + i)), .int 0, .int 0])) ∧ g (13 + i) = some (.inl (D.1 20, 30, .inl (fun _ => 0))) ∧ g (16 + i) = some (.inl (D.1 26, 4, .inr (.inr (.inr (.inr (fun v => if v < 4 then some (ad (20 + (4 * i + v))) else none)))))) ∧ ∀ v, v < 4 → qx_R0 D ad g (4 * i + v)
def qx_T0p (D : va_G) (ad : Nat → Nat) (g : qw_G) (i : Nat) : Option Value → (Nat → Nat) → qw_G → Prop := fun v' ad' g' => none = v' ∧ qx_T0 D ad' g' i ∧ (∀ t, t ≠ 13 + i → t ≠ 16 + i → (t < 20 + 4 * i ∨ 24 + 4 * i ≤ t) → (t < 40 + 4 * i ∨ 44 + 4 * i ≤ t) → ad' t = ad t) ∧ (∀ t, t ≠ 10 + i → t ≠ 13 + i → t ≠ 16 + i → (t < 20 + 4 * i ∨ 24 + 4 * i ≤ t) → (t < 40 + 4 * i ∨ 44 + 4 * i ≤ t) → g' t = g t)
theorem qx_T0.mono {D : va_G} {ad ad' : Nat → Nat} {g g' : qw_G} {i : Nat} (h : qx_T0 D ad g i) (hi : i < 3) (ha : ∀ t, (t = 10 + i ∨ t = 13 + i ∨ t = 16 + i ∨ (20 + 4 * i ≤ t ∧ t < 24 + 4 * i) ∨ (40 + 4 * i ≤ t ∧ t < 44 + 4 * i)) → ad' t = ad t) (hg : ∀ t, (t = 10 + i ∨ t = 13 + i ∨ t = 16 + i ∨ (20 + 4 * i ≤ t ∧ t < 24 + 4 * i) ∨ (40 + 4 * i ≤ t ∧ t < 44 + 4 * i)) → g' t = g t) : qx_T0 D ad' g' i := by
  refine ⟨?_, ?_, ?_, fun v hv => ⟨?_, ?_⟩⟩
  · rw [hg _ (by omega), ha (13 + i) (by omega), ha (16 + i) (by omega)]; exact h.1
  · rw [hg _ (by omega)]; exact h.2.1
  · rw [hg _ (by omega), h.2.2.1]; congr 8; funext v; by_cases hv : v < 4
    · rw [if_pos hv, if_pos hv, ha _ (by omega)]
    · rw [if_neg hv, if_neg hv]
  · rw [hg _ (by omega), ha (40 + (4 * i + v)) (by omega)]; exact (h.2.2.2 v hv).1
  · rw [hg _ (by omega)]; exact (h.2.2.2 v hv).2
set_option maxHeartbeats 4000000 in
set_option maxRecDepth 100000 in
theorem k_X5_init {l : Launch} (hst : l.stackTraces = false) (D : va_G) (ad : Nat → Nat) (g : qw_G) (i a : Nat) (hi : i < 3) (ha : ad (10 + i) = a) (hu : g (10 + i) = some (.inr (4, [.null, .null, .int 0, .int 0]))) (hf : ∀ t, (t = 13 + i ∨ t = 16 + i ∨ (20 + 4 * i ≤ t ∧ t < 24 + 4 * i) ∨ (40 + 4 * i ≤ t ∧ t < 44 + 4 * i)) → g t = none) : qw_M l yX5_init [Cond.code yX5_init cX5_init 2 none] { frames := 3, cells := 10, slots := 174, locals := 120 } D ad g [(.ref a)] (qx_T0p D ad g i) 10 174 := by
  refine qw_M.of (maxL := 2) (own := RX5) (lv := [(0, (.ref a))]) hst (by decide) rfl rfl (Nat.le_of_ble_eq_true rfl) ?_
  intro p e s m args below meth c A C hin
  refine qr_aload_n C dX5_init_0 rfl 0 rfl ?_
  refine qr_obj C go_X5.1 go_X5.2.1 go_X5.2.2 (Nat.le_of_ble_eq_true rfl) (Nat.le_of_ble_eq_true rfl) dX5_init_1 ?_
  refine qr_aload_n C dX5_init_4 rfl 0 rfl ?_
  refine qr_bipush (v := 30) C dX5_init_5 (by decide) ?_
  refine qr_newI C gA_int (N := 30) rfl rfl (13 + i) (rfl.trans ((hf _ (by omega)))) (Nat.le_of_ble_eq_true rfl) (Nat.le_of_ble_eq_true rfl) dX5_init_7 ?_
  intro q1
  generalize hA3 : va_up ad (13 + i) q1 = ad2
  have hq6 : ad2 (13 + i) = q1 := by rw [← hA3]; exact va_up_self _ _ _
  have had7 : ∀ t, t ≠ 13 + i → ad2 t = ad t := fun t ht => by rw [← hA3]; exact va_up_ne _ _ ht
  generalize hgn5 : va_up g (13 + i) _ = gn4
  have hne8 : ∀ t, t ≠ 13 + i → gn4 t = g t := fun t ht => by rw [← hgn5]; exact va_up_ne _ _ ht
  have hnu9 : gn4 (13 + i) = some (.inl (D.1 20, 30, .inl (fun _ => 0))) := by rw [← hgn5]; exact va_up_self _ _ _
  have f10 : gn4 (10 + i) = g (10 + i) := hne8 (10 + i) (by omega)
  have pa11 : ad2 (10 + i) = a := (had7 (10 + i) (by omega)).trans ha
  refine pf_X5_9 C hin (10 + i) ((f10.trans (hu))) pa11 rfl rfl (Nat.le_of_ble_eq_true rfl) rfl dX5_init_9 ?_
  generalize hg13 : va_up gn4 (10 + i) _ = g12
  have f14 : g12 (10 + i) = some (.inr (4, [(.ref q1), .null, (.int 0), (.int 0)])) := by rw [← hg13]; exact va_up_self _ _ _
  have f15 : g12 (13 + i) = gn4 (13 + i) := by rw [← hg13]; exact va_up_ne _ _ (by omega)
  refine qr_aload_n C dX5_init_12 rfl 0 rfl ?_
  refine qr_iconst (v := 4) C dX5_init_13 (by decide) ?_
  refine qr_newQ C gc_X5_15 C.2.2.2.2.1.2.2.2.2.2.2.2.1 (t0 := 6) rfl (N := 4) rfl rfl (16 + i) (((congrFun hg13 (16 + i)).symm.trans ((va_up_ne _ _ (by omega)).trans ((hne8 (16 + i) (by omega)).trans rfl))).trans ((hf _ (by omega)))) (Nat.le_of_ble_eq_true rfl) (Nat.le_of_ble_eq_true rfl) dX5_init_14 ?_
  intro q16
  generalize hA18 : va_up ad2 (16 + i) q16 = ad17
  have hq21 : ad17 (16 + i) = q16 := by rw [← hA18]; exact va_up_self _ _ _
  have had22 : ∀ t, t ≠ 16 + i → ad17 t = ad2 t := fun t ht => by rw [← hA18]; exact va_up_ne _ _ ht
  generalize hgn20 : va_up g12 (16 + i) _ = gn19
  have hne23 : ∀ t, t ≠ 16 + i → gn19 t = g12 t := fun t ht => by rw [← hgn20]; exact va_up_ne _ _ ht
  have hnu24 : gn19 (16 + i) = some (.inl (D.1 26, 4, .inr (.inr (.inr (.inr (fun _ => none)))))) := by rw [← hgn20]; exact va_up_self _ _ _
  have f25 : gn19 (13 + i) = g12 (13 + i) := hne23 (13 + i) (by omega)
  have f26 : gn19 (10 + i) = g12 (10 + i) := hne23 (10 + i) (by omega)
  have pa27 : ad17 (10 + i) = a := (had22 (10 + i) (by omega)).trans pa11
  have pa28 : ad17 (13 + i) = q1 := (had22 (13 + i) (by omega)).trans hq6
  refine pf_X5_17 C hin (10 + i) ((f26.trans (f14))) pa27 rfl rfl (Nat.le_of_ble_eq_true rfl) rfl dX5_init_17 ?_
  generalize hg30 : va_up gn19 (10 + i) _ = g29
  have f31 : g29 (10 + i) = some (.inr (4, [(.ref q1), (.ref q16), (.int 0), (.int 0)])) := by rw [← hg30]; exact va_up_self _ _ _
  have f32 : g29 (13 + i) = gn19 (13 + i) := by rw [← hg30]; exact va_up_ne _ _ (by omega)
  have f33 : g29 (16 + i) = gn19 (16 + i) := by rw [← hg30]; exact va_up_ne _ _ (by omega)
  refine qr_iconst (v := 0) C dX5_init_20 (by decide) ?_
  refine qr_istore_n (lv' := [(1, (.int (0 : Int32))), (0, (.ref a))]) C dX5_init_21 rfl (by decide) rfl ?_
  refine qr_iload_n C dX5_init_22 rfl 0 rfl ?_
  refine qr_iconst (v := 4) C dX5_init_23 (by decide) ?_
  refine qr_icmp_ge_f C 46 dX5_init_24 (by decide) (by decide) ?_
  refine qr_aload_n C dX5_init_27 rfl 1 rfl ?_
  refine gf_X5_17 C (10 + i) (f31) pa27 rfl dX5_init_28 ?_
  refine qr_iload_n C dX5_init_31 rfl 0 rfl ?_
  refine qr_new C qi_X3 tyX3 tyX3_ok gc_X5_15 gcn_X3.1 gcn_X3.2 [.null, (.int 0), (.int 0), (.int 0), (.int 0)] qz_X3 (20 + (4 * i + 0)) (((congrFun hg30 (20 + (4 * i + 0))).symm.trans ((va_up_ne _ _ (by omega)).trans ((hne23 (20 + (4 * i + 0)) (by omega)).trans ((congrFun hg13 (20 + (4 * i + 0))).symm.trans ((va_up_ne _ _ (by omega)).trans ((hne8 (20 + (4 * i + 0)) (by omega)).trans rfl)))))).trans ((hf _ (by omega)))) (Nat.le_of_ble_eq_true rfl) (Nat.le_of_ble_eq_true rfl) dX5_init_32 ?_
  intro q34
  generalize hA36 : va_up ad17 (20 + (4 * i + 0)) q34 = ad35
  have hq39 : ad35 (20 + (4 * i + 0)) = q34 := by rw [← hA36]; exact va_up_self _ _ _
  have had40 : ∀ t, t ≠ 20 + (4 * i + 0) → ad35 t = ad17 t := fun t ht => by rw [← hA36]; exact va_up_ne _ _ ht
  generalize hgn38 : va_up g29 (20 + (4 * i + 0)) _ = gn37
  have hne41 : ∀ t, t ≠ 20 + (4 * i + 0) → gn37 t = g29 t := fun t ht => by rw [← hgn38]; exact va_up_ne _ _ ht
  have hnu42 : gn37 (20 + (4 * i + 0)) = some (.inr (2, [.null, (.int 0), (.int 0), (.int 0), (.int 0)])) := by rw [← hgn38]; exact va_up_self _ _ _
  have f43 : gn37 (13 + i) = g29 (13 + i) := hne41 (13 + i) (by omega)
  have f44 : gn37 (16 + i) = g29 (16 + i) := hne41 (16 + i) (by omega)
  have f45 : gn37 (10 + i) = g29 (10 + i) := hne41 (10 + i) (by omega)
  have pa46 : ad35 (10 + i) = a := (had40 (10 + i) (by omega)).trans pa27
  have pa47 : ad35 (13 + i) = q1 := (had40 (13 + i) (by omega)).trans pa28
  have pa48 : ad35 (16 + i) = q16 := (had40 (16 + i) (by omega)).trans hq21
  refine qr_dup C dX5_init_35 rfl ?_
  refine qr_callNI (cret := none) C (na := 0) (As := []) (rest := [(.ref q34), (.int (0 : Int32)), (.ref q16)]) (k_X3_init hst D ad35 gn37 (4 * i + 0) q34 hq39 (hnu42) (((hne41 (40 + (4 * i + 0)) (by omega)).trans ((congrFun hg30 (40 + (4 * i + 0))).symm.trans ((va_up_ne _ _ (by omega)).trans ((hne23 (40 + (4 * i + 0)) (by omega)).trans ((congrFun hg13 (40 + (4 * i + 0))).symm.trans ((va_up_ne _ _ (by omega)).trans ((hne8 (40 + (4 * i + 0)) (by omega)).trans rfl))))))).trans ((hf _ (by omega))))) gi_X5_21.1 gi_X5_21.2.1 gi_X5_21.2.2.1 gi_X5_21.2.2.2 rfl ⟨by decide, by decide, by decide +kernel⟩ rfl rfl (Nat.le_of_ble_eq_true rfl) rfl rfl ⟨Nat.le_of_ble_eq_true rfl, Nat.le_of_ble_eq_true rfl⟩ ⟨Nat.le_of_ble_eq_true rfl, Nat.le_of_ble_eq_true rfl⟩ dX5_init_36 (fun v ad49 gc50 hpo51 => ?_)
  obtain ⟨rfl, ⟨z54a, z54b⟩, had53, hfr52⟩ := hpo51
  generalize hqq56 : ad49 (40 + (4 * i + 0)) = qq55 at z54a
  have f57 : gc50 (13 + i) = gn37 (13 + i) := hfr52 (13 + i) (by omega) (by omega)
  have f58 : gc50 (16 + i) = gn37 (16 + i) := hfr52 (16 + i) (by omega) (by omega)
  have f59 : gc50 (10 + i) = gn37 (10 + i) := hfr52 (10 + i) (by omega) (by omega)
  have pa60 : ad49 (10 + i) = a := (had53 (10 + i) (by omega)).trans pa46
  have pa61 : ad49 (13 + i) = q1 := (had53 (13 + i) (by omega)).trans pa47
  have pa62 : ad49 (16 + i) = q16 := (had53 (16 + i) (by omega)).trans pa48
  have pa63 : ad49 (20 + (4 * i + 0)) = q34 := (had53 (20 + (4 * i + 0)) (by omega)).trans hq39
  refine qr_aast C 6 rfl rfl (16 + i) (20 + (4 * i + 0)) ((f58.trans ((f44.trans ((f33.trans (hnu24))))))) pa62 (z54a) pa63 (j := 0) rfl (by decide) rfl dX5_init_39 ?_
  generalize hga65 : va_up gc50 (16 + i) _ = ga64
  have hne66 : ∀ t, t ≠ 16 + i → ga64 t = gc50 t := fun t ht => by rw [← hga65]; exact va_up_ne _ _ ht
  have hnu67 : ga64 (16 + i) = some (.inl (D.1 26, 4, .inr (.inr (.inr (.inr (va_up (fun _ => none) 0 (some q34))))))) := by rw [← hga65]; exact va_up_self _ _ _
  have f68 : ga64 (13 + i) = gc50 (13 + i) := hne66 (13 + i) (by omega)
  have f69 : ga64 (10 + i) = gc50 (10 + i) := hne66 (10 + i) (by omega)
  have f70 : ga64 (20 + (4 * i + 0)) = gc50 (20 + (4 * i + 0)) := hne66 (20 + (4 * i + 0)) (by omega)
  have f71 : ga64 (40 + (4 * i + 0)) = gc50 (40 + (4 * i + 0)) := hne66 (40 + (4 * i + 0)) (by omega)
  refine qr_iinc (v := (1 : Int32)) (lv' := [(1, (.int (1 : Int32))), (0, (.ref a))]) C dX5_init_40 (w := 0) rfl (by decide) (by decide) rfl ?_
  refine qr_goto (tgt := 22) C dX5_init_43 (by decide) ?_
  refine qr_iload_n C dX5_init_22 rfl 0 rfl ?_
  refine qr_iconst (v := 4) C dX5_init_23 (by decide) ?_
  refine qr_icmp_ge_f C 46 dX5_init_24 (by decide) (by decide) ?_
  refine qr_aload_n C dX5_init_27 rfl 1 rfl ?_
  refine gf_X5_17 C (10 + i) ((f69.trans ((f59.trans ((f45.trans (f31))))))) pa60 rfl dX5_init_28 ?_
  refine qr_iload_n C dX5_init_31 rfl 0 rfl ?_
  refine qr_new C qi_X3 tyX3 tyX3_ok gc_X5_15 gcn_X3.1 gcn_X3.2 [.null, (.int 0), (.int 0), (.int 0), (.int 0)] qz_X3 (20 + (4 * i + 1)) (((hne66 (20 + (4 * i + 1)) (by omega)).trans ((hfr52 (20 + (4 * i + 1)) (by omega) (by omega)).trans ((hne41 (20 + (4 * i + 1)) (by omega)).trans ((congrFun hg30 (20 + (4 * i + 1))).symm.trans ((va_up_ne _ _ (by omega)).trans ((hne23 (20 + (4 * i + 1)) (by omega)).trans ((congrFun hg13 (20 + (4 * i + 1))).symm.trans ((va_up_ne _ _ (by omega)).trans ((hne8 (20 + (4 * i + 1)) (by omega)).trans rfl))))))))).trans ((hf _ (by omega)))) (Nat.le_of_ble_eq_true rfl) (Nat.le_of_ble_eq_true rfl) dX5_init_32 ?_
  intro q72
  generalize hA74 : va_up ad49 (20 + (4 * i + 1)) q72 = ad73
  have hq77 : ad73 (20 + (4 * i + 1)) = q72 := by rw [← hA74]; exact va_up_self _ _ _
  have had78 : ∀ t, t ≠ 20 + (4 * i + 1) → ad73 t = ad49 t := fun t ht => by rw [← hA74]; exact va_up_ne _ _ ht
  generalize hgn76 : va_up ga64 (20 + (4 * i + 1)) _ = gn75
  have hne79 : ∀ t, t ≠ 20 + (4 * i + 1) → gn75 t = ga64 t := fun t ht => by rw [← hgn76]; exact va_up_ne _ _ ht
  have hnu80 : gn75 (20 + (4 * i + 1)) = some (.inr (2, [.null, (.int 0), (.int 0), (.int 0), (.int 0)])) := by rw [← hgn76]; exact va_up_self _ _ _
  have f81 : gn75 (13 + i) = ga64 (13 + i) := hne79 (13 + i) (by omega)
  have f82 : gn75 (10 + i) = ga64 (10 + i) := hne79 (10 + i) (by omega)
  have f83 : gn75 (20 + (4 * i + 0)) = ga64 (20 + (4 * i + 0)) := hne79 (20 + (4 * i + 0)) (by omega)
  have f84 : gn75 (40 + (4 * i + 0)) = ga64 (40 + (4 * i + 0)) := hne79 (40 + (4 * i + 0)) (by omega)
  have f85 : gn75 (16 + i) = ga64 (16 + i) := hne79 (16 + i) (by omega)
  have pa86 : ad73 (10 + i) = a := (had78 (10 + i) (by omega)).trans pa60
  have pa87 : ad73 (13 + i) = q1 := (had78 (13 + i) (by omega)).trans pa61
  have pa88 : ad73 (16 + i) = q16 := (had78 (16 + i) (by omega)).trans pa62
  have pa89 : ad73 (20 + (4 * i + 0)) = q34 := (had78 (20 + (4 * i + 0)) (by omega)).trans pa63
  have pa90 : ad73 (40 + (4 * i + 0)) = qq55 := (had78 (40 + (4 * i + 0)) (by omega)).trans hqq56
  refine qr_dup C dX5_init_35 rfl ?_
  refine qr_callNI (cret := none) C (na := 0) (As := []) (rest := [(.ref q72), (.int (1 : Int32)), (.ref q16)]) (k_X3_init hst D ad73 gn75 (4 * i + 1) q72 hq77 (hnu80) (((hne79 (40 + (4 * i + 1)) (by omega)).trans ((hne66 (40 + (4 * i + 1)) (by omega)).trans ((hfr52 (40 + (4 * i + 1)) (by omega) (by omega)).trans ((hne41 (40 + (4 * i + 1)) (by omega)).trans ((congrFun hg30 (40 + (4 * i + 1))).symm.trans ((va_up_ne _ _ (by omega)).trans ((hne23 (40 + (4 * i + 1)) (by omega)).trans ((congrFun hg13 (40 + (4 * i + 1))).symm.trans ((va_up_ne _ _ (by omega)).trans ((hne8 (40 + (4 * i + 1)) (by omega)).trans rfl)))))))))).trans ((hf _ (by omega))))) gi_X5_21.1 gi_X5_21.2.1 gi_X5_21.2.2.1 gi_X5_21.2.2.2 rfl ⟨by decide, by decide, by decide +kernel⟩ rfl rfl (Nat.le_of_ble_eq_true rfl) rfl rfl ⟨Nat.le_of_ble_eq_true rfl, Nat.le_of_ble_eq_true rfl⟩ ⟨Nat.le_of_ble_eq_true rfl, Nat.le_of_ble_eq_true rfl⟩ dX5_init_36 (fun v ad91 gc92 hpo93 => ?_)
  obtain ⟨rfl, ⟨z96a, z96b⟩, had95, hfr94⟩ := hpo93
  generalize hqq98 : ad91 (40 + (4 * i + 1)) = qq97 at z96a
  have f99 : gc92 (13 + i) = gn75 (13 + i) := hfr94 (13 + i) (by omega) (by omega)
  have f100 : gc92 (10 + i) = gn75 (10 + i) := hfr94 (10 + i) (by omega) (by omega)
  have f101 : gc92 (20 + (4 * i + 0)) = gn75 (20 + (4 * i + 0)) := hfr94 (20 + (4 * i + 0)) (by omega) (by omega)
  have f102 : gc92 (40 + (4 * i + 0)) = gn75 (40 + (4 * i + 0)) := hfr94 (40 + (4 * i + 0)) (by omega) (by omega)
  have f103 : gc92 (16 + i) = gn75 (16 + i) := hfr94 (16 + i) (by omega) (by omega)
  have pa104 : ad91 (10 + i) = a := (had95 (10 + i) (by omega)).trans pa86
  have pa105 : ad91 (13 + i) = q1 := (had95 (13 + i) (by omega)).trans pa87
  have pa106 : ad91 (16 + i) = q16 := (had95 (16 + i) (by omega)).trans pa88
  have pa107 : ad91 (20 + (4 * i + 0)) = q34 := (had95 (20 + (4 * i + 0)) (by omega)).trans pa89
  have pa108 : ad91 (40 + (4 * i + 0)) = qq55 := (had95 (40 + (4 * i + 0)) (by omega)).trans pa90
  have pa109 : ad91 (20 + (4 * i + 1)) = q72 := (had95 (20 + (4 * i + 1)) (by omega)).trans hq77
  refine qr_aast C 6 rfl rfl (16 + i) (20 + (4 * i + 1)) ((f103.trans ((f85.trans (hnu67))))) pa106 (z96a) pa109 (j := 1) rfl (by decide) rfl dX5_init_39 ?_
  generalize hga111 : va_up gc92 (16 + i) _ = ga110
  have hne112 : ∀ t, t ≠ 16 + i → ga110 t = gc92 t := fun t ht => by rw [← hga111]; exact va_up_ne _ _ ht
  have hnu113 : ga110 (16 + i) = some (.inl (D.1 26, 4, .inr (.inr (.inr (.inr (va_up (va_up (fun _ => none) 0 (some q34)) 1 (some q72))))))) := by rw [← hga111]; exact va_up_self _ _ _
  have f114 : ga110 (13 + i) = gc92 (13 + i) := hne112 (13 + i) (by omega)
  have f115 : ga110 (10 + i) = gc92 (10 + i) := hne112 (10 + i) (by omega)
  have f116 : ga110 (20 + (4 * i + 0)) = gc92 (20 + (4 * i + 0)) := hne112 (20 + (4 * i + 0)) (by omega)
  have f117 : ga110 (40 + (4 * i + 0)) = gc92 (40 + (4 * i + 0)) := hne112 (40 + (4 * i + 0)) (by omega)
  have f118 : ga110 (20 + (4 * i + 1)) = gc92 (20 + (4 * i + 1)) := hne112 (20 + (4 * i + 1)) (by omega)
  have f119 : ga110 (40 + (4 * i + 1)) = gc92 (40 + (4 * i + 1)) := hne112 (40 + (4 * i + 1)) (by omega)
  refine qr_iinc (v := (2 : Int32)) (lv' := [(1, (.int (2 : Int32))), (0, (.ref a))]) C dX5_init_40 (w := 0) rfl (by decide) (by decide) rfl ?_
  refine qr_goto (tgt := 22) C dX5_init_43 (by decide) ?_
  refine qr_iload_n C dX5_init_22 rfl 0 rfl ?_
  refine qr_iconst (v := 4) C dX5_init_23 (by decide) ?_
  refine qr_icmp_ge_f C 46 dX5_init_24 (by decide) (by decide) ?_
  refine qr_aload_n C dX5_init_27 rfl 1 rfl ?_
  refine gf_X5_17 C (10 + i) ((f115.trans ((f100.trans ((f82.trans ((f69.trans ((f59.trans ((f45.trans (f31))))))))))))) pa104 rfl dX5_init_28 ?_
  refine qr_iload_n C dX5_init_31 rfl 0 rfl ?_
  refine qr_new C qi_X3 tyX3 tyX3_ok gc_X5_15 gcn_X3.1 gcn_X3.2 [.null, (.int 0), (.int 0), (.int 0), (.int 0)] qz_X3 (20 + (4 * i + 2)) (((hne112 (20 + (4 * i + 2)) (by omega)).trans ((hfr94 (20 + (4 * i + 2)) (by omega) (by omega)).trans ((hne79 (20 + (4 * i + 2)) (by omega)).trans ((hne66 (20 + (4 * i + 2)) (by omega)).trans ((hfr52 (20 + (4 * i + 2)) (by omega) (by omega)).trans ((hne41 (20 + (4 * i + 2)) (by omega)).trans ((congrFun hg30 (20 + (4 * i + 2))).symm.trans ((va_up_ne _ _ (by omega)).trans ((hne23 (20 + (4 * i + 2)) (by omega)).trans ((congrFun hg13 (20 + (4 * i + 2))).symm.trans ((va_up_ne _ _ (by omega)).trans ((hne8 (20 + (4 * i + 2)) (by omega)).trans rfl)))))))))))).trans ((hf _ (by omega)))) (Nat.le_of_ble_eq_true rfl) (Nat.le_of_ble_eq_true rfl) dX5_init_32 ?_
  intro q120
  generalize hA122 : va_up ad91 (20 + (4 * i + 2)) q120 = ad121
  have hq125 : ad121 (20 + (4 * i + 2)) = q120 := by rw [← hA122]; exact va_up_self _ _ _
  have had126 : ∀ t, t ≠ 20 + (4 * i + 2) → ad121 t = ad91 t := fun t ht => by rw [← hA122]; exact va_up_ne _ _ ht
  generalize hgn124 : va_up ga110 (20 + (4 * i + 2)) _ = gn123
  have hne127 : ∀ t, t ≠ 20 + (4 * i + 2) → gn123 t = ga110 t := fun t ht => by rw [← hgn124]; exact va_up_ne _ _ ht
  have hnu128 : gn123 (20 + (4 * i + 2)) = some (.inr (2, [.null, (.int 0), (.int 0), (.int 0), (.int 0)])) := by rw [← hgn124]; exact va_up_self _ _ _
  have f129 : gn123 (13 + i) = ga110 (13 + i) := hne127 (13 + i) (by omega)
  have f130 : gn123 (10 + i) = ga110 (10 + i) := hne127 (10 + i) (by omega)
  have f131 : gn123 (20 + (4 * i + 0)) = ga110 (20 + (4 * i + 0)) := hne127 (20 + (4 * i + 0)) (by omega)
  have f132 : gn123 (40 + (4 * i + 0)) = ga110 (40 + (4 * i + 0)) := hne127 (40 + (4 * i + 0)) (by omega)
  have f133 : gn123 (20 + (4 * i + 1)) = ga110 (20 + (4 * i + 1)) := hne127 (20 + (4 * i + 1)) (by omega)
  have f134 : gn123 (40 + (4 * i + 1)) = ga110 (40 + (4 * i + 1)) := hne127 (40 + (4 * i + 1)) (by omega)
  have f135 : gn123 (16 + i) = ga110 (16 + i) := hne127 (16 + i) (by omega)
  have pa136 : ad121 (10 + i) = a := (had126 (10 + i) (by omega)).trans pa104
  have pa137 : ad121 (13 + i) = q1 := (had126 (13 + i) (by omega)).trans pa105
  have pa138 : ad121 (16 + i) = q16 := (had126 (16 + i) (by omega)).trans pa106
  have pa139 : ad121 (20 + (4 * i + 0)) = q34 := (had126 (20 + (4 * i + 0)) (by omega)).trans pa107
  have pa140 : ad121 (40 + (4 * i + 0)) = qq55 := (had126 (40 + (4 * i + 0)) (by omega)).trans pa108
  have pa141 : ad121 (20 + (4 * i + 1)) = q72 := (had126 (20 + (4 * i + 1)) (by omega)).trans pa109
  have pa142 : ad121 (40 + (4 * i + 1)) = qq97 := (had126 (40 + (4 * i + 1)) (by omega)).trans hqq98
  refine qr_dup C dX5_init_35 rfl ?_
  refine qr_callNI (cret := none) C (na := 0) (As := []) (rest := [(.ref q120), (.int (2 : Int32)), (.ref q16)]) (k_X3_init hst D ad121 gn123 (4 * i + 2) q120 hq125 (hnu128) (((hne127 (40 + (4 * i + 2)) (by omega)).trans ((hne112 (40 + (4 * i + 2)) (by omega)).trans ((hfr94 (40 + (4 * i + 2)) (by omega) (by omega)).trans ((hne79 (40 + (4 * i + 2)) (by omega)).trans ((hne66 (40 + (4 * i + 2)) (by omega)).trans ((hfr52 (40 + (4 * i + 2)) (by omega) (by omega)).trans ((hne41 (40 + (4 * i + 2)) (by omega)).trans ((congrFun hg30 (40 + (4 * i + 2))).symm.trans ((va_up_ne _ _ (by omega)).trans ((hne23 (40 + (4 * i + 2)) (by omega)).trans ((congrFun hg13 (40 + (4 * i + 2))).symm.trans ((va_up_ne _ _ (by omega)).trans ((hne8 (40 + (4 * i + 2)) (by omega)).trans rfl))))))))))))).trans ((hf _ (by omega))))) gi_X5_21.1 gi_X5_21.2.1 gi_X5_21.2.2.1 gi_X5_21.2.2.2 rfl ⟨by decide, by decide, by decide +kernel⟩ rfl rfl (Nat.le_of_ble_eq_true rfl) rfl rfl ⟨Nat.le_of_ble_eq_true rfl, Nat.le_of_ble_eq_true rfl⟩ ⟨Nat.le_of_ble_eq_true rfl, Nat.le_of_ble_eq_true rfl⟩ dX5_init_36 (fun v ad143 gc144 hpo145 => ?_)
  obtain ⟨rfl, ⟨z148a, z148b⟩, had147, hfr146⟩ := hpo145
  generalize hqq150 : ad143 (40 + (4 * i + 2)) = qq149 at z148a
  have f151 : gc144 (13 + i) = gn123 (13 + i) := hfr146 (13 + i) (by omega) (by omega)
  have f152 : gc144 (10 + i) = gn123 (10 + i) := hfr146 (10 + i) (by omega) (by omega)
  have f153 : gc144 (20 + (4 * i + 0)) = gn123 (20 + (4 * i + 0)) := hfr146 (20 + (4 * i + 0)) (by omega) (by omega)
  have f154 : gc144 (40 + (4 * i + 0)) = gn123 (40 + (4 * i + 0)) := hfr146 (40 + (4 * i + 0)) (by omega) (by omega)
  have f155 : gc144 (20 + (4 * i + 1)) = gn123 (20 + (4 * i + 1)) := hfr146 (20 + (4 * i + 1)) (by omega) (by omega)
  have f156 : gc144 (40 + (4 * i + 1)) = gn123 (40 + (4 * i + 1)) := hfr146 (40 + (4 * i + 1)) (by omega) (by omega)
  have f157 : gc144 (16 + i) = gn123 (16 + i) := hfr146 (16 + i) (by omega) (by omega)
  have pa158 : ad143 (10 + i) = a := (had147 (10 + i) (by omega)).trans pa136
  have pa159 : ad143 (13 + i) = q1 := (had147 (13 + i) (by omega)).trans pa137
  have pa160 : ad143 (16 + i) = q16 := (had147 (16 + i) (by omega)).trans pa138
  have pa161 : ad143 (20 + (4 * i + 0)) = q34 := (had147 (20 + (4 * i + 0)) (by omega)).trans pa139
  have pa162 : ad143 (40 + (4 * i + 0)) = qq55 := (had147 (40 + (4 * i + 0)) (by omega)).trans pa140
  have pa163 : ad143 (20 + (4 * i + 1)) = q72 := (had147 (20 + (4 * i + 1)) (by omega)).trans pa141
  have pa164 : ad143 (40 + (4 * i + 1)) = qq97 := (had147 (40 + (4 * i + 1)) (by omega)).trans pa142
  have pa165 : ad143 (20 + (4 * i + 2)) = q120 := (had147 (20 + (4 * i + 2)) (by omega)).trans hq125
  refine qr_aast C 6 rfl rfl (16 + i) (20 + (4 * i + 2)) ((f157.trans ((f135.trans (hnu113))))) pa160 (z148a) pa165 (j := 2) rfl (by decide) rfl dX5_init_39 ?_
  generalize hga167 : va_up gc144 (16 + i) _ = ga166
  have hne168 : ∀ t, t ≠ 16 + i → ga166 t = gc144 t := fun t ht => by rw [← hga167]; exact va_up_ne _ _ ht
  have hnu169 : ga166 (16 + i) = some (.inl (D.1 26, 4, .inr (.inr (.inr (.inr (va_up (va_up (va_up (fun _ => none) 0 (some q34)) 1 (some q72)) 2 (some q120))))))) := by rw [← hga167]; exact va_up_self _ _ _
  have f170 : ga166 (13 + i) = gc144 (13 + i) := hne168 (13 + i) (by omega)
  have f171 : ga166 (10 + i) = gc144 (10 + i) := hne168 (10 + i) (by omega)
  have f172 : ga166 (20 + (4 * i + 0)) = gc144 (20 + (4 * i + 0)) := hne168 (20 + (4 * i + 0)) (by omega)
  have f173 : ga166 (40 + (4 * i + 0)) = gc144 (40 + (4 * i + 0)) := hne168 (40 + (4 * i + 0)) (by omega)
  have f174 : ga166 (20 + (4 * i + 1)) = gc144 (20 + (4 * i + 1)) := hne168 (20 + (4 * i + 1)) (by omega)
  have f175 : ga166 (40 + (4 * i + 1)) = gc144 (40 + (4 * i + 1)) := hne168 (40 + (4 * i + 1)) (by omega)
  have f176 : ga166 (20 + (4 * i + 2)) = gc144 (20 + (4 * i + 2)) := hne168 (20 + (4 * i + 2)) (by omega)
  have f177 : ga166 (40 + (4 * i + 2)) = gc144 (40 + (4 * i + 2)) := hne168 (40 + (4 * i + 2)) (by omega)
  refine qr_iinc (v := (3 : Int32)) (lv' := [(1, (.int (3 : Int32))), (0, (.ref a))]) C dX5_init_40 (w := 0) rfl (by decide) (by decide) rfl ?_
  refine qr_goto (tgt := 22) C dX5_init_43 (by decide) ?_
  refine qr_iload_n C dX5_init_22 rfl 0 rfl ?_
  refine qr_iconst (v := 4) C dX5_init_23 (by decide) ?_
  refine qr_icmp_ge_f C 46 dX5_init_24 (by decide) (by decide) ?_
  refine qr_aload_n C dX5_init_27 rfl 1 rfl ?_
  refine gf_X5_17 C (10 + i) ((f171.trans ((f152.trans ((f130.trans ((f115.trans ((f100.trans ((f82.trans ((f69.trans ((f59.trans ((f45.trans (f31))))))))))))))))))) pa158 rfl dX5_init_28 ?_
  refine qr_iload_n C dX5_init_31 rfl 0 rfl ?_
  refine qr_new C qi_X3 tyX3 tyX3_ok gc_X5_15 gcn_X3.1 gcn_X3.2 [.null, (.int 0), (.int 0), (.int 0), (.int 0)] qz_X3 (20 + (4 * i + 3)) (((hne168 (20 + (4 * i + 3)) (by omega)).trans ((hfr146 (20 + (4 * i + 3)) (by omega) (by omega)).trans ((hne127 (20 + (4 * i + 3)) (by omega)).trans ((hne112 (20 + (4 * i + 3)) (by omega)).trans ((hfr94 (20 + (4 * i + 3)) (by omega) (by omega)).trans ((hne79 (20 + (4 * i + 3)) (by omega)).trans ((hne66 (20 + (4 * i + 3)) (by omega)).trans ((hfr52 (20 + (4 * i + 3)) (by omega) (by omega)).trans ((hne41 (20 + (4 * i + 3)) (by omega)).trans ((congrFun hg30 (20 + (4 * i + 3))).symm.trans ((va_up_ne _ _ (by omega)).trans ((hne23 (20 + (4 * i + 3)) (by omega)).trans ((congrFun hg13 (20 + (4 * i + 3))).symm.trans ((va_up_ne _ _ (by omega)).trans ((hne8 (20 + (4 * i + 3)) (by omega)).trans rfl))))))))))))))).trans ((hf _ (by omega)))) (Nat.le_of_ble_eq_true rfl) (Nat.le_of_ble_eq_true rfl) dX5_init_32 ?_
  intro q178
  generalize hA180 : va_up ad143 (20 + (4 * i + 3)) q178 = ad179
  have hq183 : ad179 (20 + (4 * i + 3)) = q178 := by rw [← hA180]; exact va_up_self _ _ _
  have had184 : ∀ t, t ≠ 20 + (4 * i + 3) → ad179 t = ad143 t := fun t ht => by rw [← hA180]; exact va_up_ne _ _ ht
  generalize hgn182 : va_up ga166 (20 + (4 * i + 3)) _ = gn181
  have hne185 : ∀ t, t ≠ 20 + (4 * i + 3) → gn181 t = ga166 t := fun t ht => by rw [← hgn182]; exact va_up_ne _ _ ht
  have hnu186 : gn181 (20 + (4 * i + 3)) = some (.inr (2, [.null, (.int 0), (.int 0), (.int 0), (.int 0)])) := by rw [← hgn182]; exact va_up_self _ _ _
  have f187 : gn181 (13 + i) = ga166 (13 + i) := hne185 (13 + i) (by omega)
  have f188 : gn181 (10 + i) = ga166 (10 + i) := hne185 (10 + i) (by omega)
  have f189 : gn181 (20 + (4 * i + 0)) = ga166 (20 + (4 * i + 0)) := hne185 (20 + (4 * i + 0)) (by omega)
  have f190 : gn181 (40 + (4 * i + 0)) = ga166 (40 + (4 * i + 0)) := hne185 (40 + (4 * i + 0)) (by omega)
  have f191 : gn181 (20 + (4 * i + 1)) = ga166 (20 + (4 * i + 1)) := hne185 (20 + (4 * i + 1)) (by omega)
  have f192 : gn181 (40 + (4 * i + 1)) = ga166 (40 + (4 * i + 1)) := hne185 (40 + (4 * i + 1)) (by omega)
  have f193 : gn181 (20 + (4 * i + 2)) = ga166 (20 + (4 * i + 2)) := hne185 (20 + (4 * i + 2)) (by omega)
  have f194 : gn181 (40 + (4 * i + 2)) = ga166 (40 + (4 * i + 2)) := hne185 (40 + (4 * i + 2)) (by omega)
  have f195 : gn181 (16 + i) = ga166 (16 + i) := hne185 (16 + i) (by omega)
  have pa196 : ad179 (10 + i) = a := (had184 (10 + i) (by omega)).trans pa158
  have pa197 : ad179 (13 + i) = q1 := (had184 (13 + i) (by omega)).trans pa159
  have pa198 : ad179 (16 + i) = q16 := (had184 (16 + i) (by omega)).trans pa160
  have pa199 : ad179 (20 + (4 * i + 0)) = q34 := (had184 (20 + (4 * i + 0)) (by omega)).trans pa161
  have pa200 : ad179 (40 + (4 * i + 0)) = qq55 := (had184 (40 + (4 * i + 0)) (by omega)).trans pa162
  have pa201 : ad179 (20 + (4 * i + 1)) = q72 := (had184 (20 + (4 * i + 1)) (by omega)).trans pa163
  have pa202 : ad179 (40 + (4 * i + 1)) = qq97 := (had184 (40 + (4 * i + 1)) (by omega)).trans pa164
  have pa203 : ad179 (20 + (4 * i + 2)) = q120 := (had184 (20 + (4 * i + 2)) (by omega)).trans pa165
  have pa204 : ad179 (40 + (4 * i + 2)) = qq149 := (had184 (40 + (4 * i + 2)) (by omega)).trans hqq150
  refine qr_dup C dX5_init_35 rfl ?_
  refine qr_callNI (cret := none) C (na := 0) (As := []) (rest := [(.ref q178), (.int (3 : Int32)), (.ref q16)]) (k_X3_init hst D ad179 gn181 (4 * i + 3) q178 hq183 (hnu186) (((hne185 (40 + (4 * i + 3)) (by omega)).trans ((hne168 (40 + (4 * i + 3)) (by omega)).trans ((hfr146 (40 + (4 * i + 3)) (by omega) (by omega)).trans ((hne127 (40 + (4 * i + 3)) (by omega)).trans ((hne112 (40 + (4 * i + 3)) (by omega)).trans ((hfr94 (40 + (4 * i + 3)) (by omega) (by omega)).trans ((hne79 (40 + (4 * i + 3)) (by omega)).trans ((hne66 (40 + (4 * i + 3)) (by omega)).trans ((hfr52 (40 + (4 * i + 3)) (by omega) (by omega)).trans ((hne41 (40 + (4 * i + 3)) (by omega)).trans ((congrFun hg30 (40 + (4 * i + 3))).symm.trans ((va_up_ne _ _ (by omega)).trans ((hne23 (40 + (4 * i + 3)) (by omega)).trans ((congrFun hg13 (40 + (4 * i + 3))).symm.trans ((va_up_ne _ _ (by omega)).trans ((hne8 (40 + (4 * i + 3)) (by omega)).trans rfl)))))))))))))))).trans ((hf _ (by omega))))) gi_X5_21.1 gi_X5_21.2.1 gi_X5_21.2.2.1 gi_X5_21.2.2.2 rfl ⟨by decide, by decide, by decide +kernel⟩ rfl rfl (Nat.le_of_ble_eq_true rfl) rfl rfl ⟨Nat.le_of_ble_eq_true rfl, Nat.le_of_ble_eq_true rfl⟩ ⟨Nat.le_of_ble_eq_true rfl, Nat.le_of_ble_eq_true rfl⟩ dX5_init_36 (fun v ad205 gc206 hpo207 => ?_)
  obtain ⟨rfl, ⟨z210a, z210b⟩, had209, hfr208⟩ := hpo207
  generalize hqq212 : ad205 (40 + (4 * i + 3)) = qq211 at z210a
  have f213 : gc206 (13 + i) = gn181 (13 + i) := hfr208 (13 + i) (by omega) (by omega)
  have f214 : gc206 (10 + i) = gn181 (10 + i) := hfr208 (10 + i) (by omega) (by omega)
  have f215 : gc206 (20 + (4 * i + 0)) = gn181 (20 + (4 * i + 0)) := hfr208 (20 + (4 * i + 0)) (by omega) (by omega)
  have f216 : gc206 (40 + (4 * i + 0)) = gn181 (40 + (4 * i + 0)) := hfr208 (40 + (4 * i + 0)) (by omega) (by omega)
  have f217 : gc206 (20 + (4 * i + 1)) = gn181 (20 + (4 * i + 1)) := hfr208 (20 + (4 * i + 1)) (by omega) (by omega)
  have f218 : gc206 (40 + (4 * i + 1)) = gn181 (40 + (4 * i + 1)) := hfr208 (40 + (4 * i + 1)) (by omega) (by omega)
  have f219 : gc206 (20 + (4 * i + 2)) = gn181 (20 + (4 * i + 2)) := hfr208 (20 + (4 * i + 2)) (by omega) (by omega)
  have f220 : gc206 (40 + (4 * i + 2)) = gn181 (40 + (4 * i + 2)) := hfr208 (40 + (4 * i + 2)) (by omega) (by omega)
  have f221 : gc206 (16 + i) = gn181 (16 + i) := hfr208 (16 + i) (by omega) (by omega)
  have pa222 : ad205 (10 + i) = a := (had209 (10 + i) (by omega)).trans pa196
  have pa223 : ad205 (13 + i) = q1 := (had209 (13 + i) (by omega)).trans pa197
  have pa224 : ad205 (16 + i) = q16 := (had209 (16 + i) (by omega)).trans pa198
  have pa225 : ad205 (20 + (4 * i + 0)) = q34 := (had209 (20 + (4 * i + 0)) (by omega)).trans pa199
  have pa226 : ad205 (40 + (4 * i + 0)) = qq55 := (had209 (40 + (4 * i + 0)) (by omega)).trans pa200
  have pa227 : ad205 (20 + (4 * i + 1)) = q72 := (had209 (20 + (4 * i + 1)) (by omega)).trans pa201
  have pa228 : ad205 (40 + (4 * i + 1)) = qq97 := (had209 (40 + (4 * i + 1)) (by omega)).trans pa202
  have pa229 : ad205 (20 + (4 * i + 2)) = q120 := (had209 (20 + (4 * i + 2)) (by omega)).trans pa203
  have pa230 : ad205 (40 + (4 * i + 2)) = qq149 := (had209 (40 + (4 * i + 2)) (by omega)).trans pa204
  have pa231 : ad205 (20 + (4 * i + 3)) = q178 := (had209 (20 + (4 * i + 3)) (by omega)).trans hq183
  refine qr_aast C 6 rfl rfl (16 + i) (20 + (4 * i + 3)) ((f221.trans ((f195.trans (hnu169))))) pa224 (z210a) pa231 (j := 3) rfl (by decide) rfl dX5_init_39 ?_
  generalize hga233 : va_up gc206 (16 + i) _ = ga232
  have hne234 : ∀ t, t ≠ 16 + i → ga232 t = gc206 t := fun t ht => by rw [← hga233]; exact va_up_ne _ _ ht
  have hnu235 : ga232 (16 + i) = some (.inl (D.1 26, 4, .inr (.inr (.inr (.inr (va_up (va_up (va_up (va_up (fun _ => none) 0 (some q34)) 1 (some q72)) 2 (some q120)) 3 (some q178))))))) := by rw [← hga233]; exact va_up_self _ _ _
  have f236 : ga232 (13 + i) = gc206 (13 + i) := hne234 (13 + i) (by omega)
  have f237 : ga232 (10 + i) = gc206 (10 + i) := hne234 (10 + i) (by omega)
  have f238 : ga232 (20 + (4 * i + 0)) = gc206 (20 + (4 * i + 0)) := hne234 (20 + (4 * i + 0)) (by omega)
  have f239 : ga232 (40 + (4 * i + 0)) = gc206 (40 + (4 * i + 0)) := hne234 (40 + (4 * i + 0)) (by omega)
  have f240 : ga232 (20 + (4 * i + 1)) = gc206 (20 + (4 * i + 1)) := hne234 (20 + (4 * i + 1)) (by omega)
  have f241 : ga232 (40 + (4 * i + 1)) = gc206 (40 + (4 * i + 1)) := hne234 (40 + (4 * i + 1)) (by omega)
  have f242 : ga232 (20 + (4 * i + 2)) = gc206 (20 + (4 * i + 2)) := hne234 (20 + (4 * i + 2)) (by omega)
  have f243 : ga232 (40 + (4 * i + 2)) = gc206 (40 + (4 * i + 2)) := hne234 (40 + (4 * i + 2)) (by omega)
  have f244 : ga232 (20 + (4 * i + 3)) = gc206 (20 + (4 * i + 3)) := hne234 (20 + (4 * i + 3)) (by omega)
  have f245 : ga232 (40 + (4 * i + 3)) = gc206 (40 + (4 * i + 3)) := hne234 (40 + (4 * i + 3)) (by omega)
  refine qr_iinc (v := (4 : Int32)) (lv' := [(1, (.int (4 : Int32))), (0, (.ref a))]) C dX5_init_40 (w := 0) rfl (by decide) (by decide) rfl ?_
  refine qr_goto (tgt := 22) C dX5_init_43 (by decide) ?_
  refine qr_iload_n C dX5_init_22 rfl 0 rfl ?_
  refine qr_iconst (v := 4) C dX5_init_23 (by decide) ?_
  refine qr_icmp_ge_t C 46 dX5_init_24 (by decide) (by decide) ?_
  exact qr_vret C rfl (Nat.le_of_ble_eq_true rfl) (Nat.le_of_ble_eq_true rfl) dX5_init_46 (⟨rfl, ⟨by rw [pa223, pa224]; exact (f237.trans ((f214.trans ((f188.trans ((f171.trans ((f152.trans ((f130.trans ((f115.trans ((f100.trans ((f82.trans ((f69.trans ((f59.trans ((f45.trans (f31)))))))))))))))))))))))), (f236.trans ((f213.trans ((f187.trans ((f170.trans ((f151.trans ((f129.trans ((f114.trans ((f99.trans ((f81.trans ((f68.trans ((f57.trans ((f43.trans ((f32.trans ((f25.trans ((f15.trans (hnu9)))))))))))))))))))))))))))))), by rw [← qx_l4 (f := fun v => ad205 (20 + (4 * i + v))) pa225 pa227 pa229 pa231]; exact hnu235, fun v hv => match v, hv with | 0, _ => ⟨by rw [pa226]; exact (f238.trans ((f215.trans ((f189.trans ((f172.trans ((f153.trans ((f131.trans ((f116.trans ((f101.trans ((f83.trans ((f70.trans (z54a)))))))))))))))))))), (f239.trans ((f216.trans ((f190.trans ((f173.trans ((f154.trans ((f132.trans ((f117.trans ((f102.trans ((f84.trans ((f71.trans (z54b))))))))))))))))))))⟩ | 1, _ => ⟨by rw [pa228]; exact (f240.trans ((f217.trans ((f191.trans ((f174.trans ((f155.trans ((f133.trans ((f118.trans (z96a)))))))))))))), (f241.trans ((f218.trans ((f192.trans ((f175.trans ((f156.trans ((f134.trans ((f119.trans (z96b))))))))))))))⟩ | 2, _ => ⟨by rw [pa230]; exact (f242.trans ((f219.trans ((f193.trans ((f176.trans (z148a)))))))), (f243.trans ((f220.trans ((f194.trans ((f177.trans (z148b))))))))⟩ | 3, _ => ⟨by rw [hqq212]; exact (f244.trans (z210a)), (f245.trans (z210b))⟩⟩, fun t h1 h2 h3 h4 => ((had209 t (by omega)).trans ((had184 t (by omega)).trans ((had147 t (by omega)).trans ((had126 t (by omega)).trans ((had95 t (by omega)).trans ((had78 t (by omega)).trans ((had53 t (by omega)).trans ((had40 t (by omega)).trans ((had22 t (by omega)).trans ((had7 t (by omega)).trans rfl)))))))))), fun t h1 h2 h3 h4 h5 => ((hne234 t (by omega)).trans ((hfr208 t (by omega) (by omega)).trans ((hne185 t (by omega)).trans ((hne168 t (by omega)).trans ((hfr146 t (by omega) (by omega)).trans ((hne127 t (by omega)).trans ((hne112 t (by omega)).trans ((hfr94 t (by omega) (by omega)).trans ((hne79 t (by omega)).trans ((hne66 t (by omega)).trans ((hfr52 t (by omega) (by omega)).trans ((hne41 t (by omega)).trans ((congrFun hg30 t).symm.trans ((va_up_ne _ _ (by omega)).trans ((hne23 t (by omega)).trans ((congrFun hg13 t).symm.trans ((va_up_ne _ _ (by omega)).trans ((hne8 t (by omega)).trans rfl))))))))))))))))))⟩)
