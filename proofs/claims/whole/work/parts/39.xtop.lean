/-! the constructors of the class and of the model -/
def qx_E0p (D : va_G) (ad : Nat → Nat) (g : qw_G) : Option Value → (Nat → Nat) → qw_G → Prop := fun v' ad' g' => none = v' ∧ (g' 4 = some (.inr (1, [.ref (ad' 5)])) ∧ g' 5 = some (.inl (D.1 27, 11, .inr (.inr (.inr (.inr (fun i => if i < 11 then some (ad' (60 + i)) else none)))))) ∧ ∀ i, i < 11 → g' (60 + i) = some (.inl (D.1 20, 30, .inl (fun _ => 0)))) ∧ (∀ t, t ≠ 5 → (t < 60 ∨ 71 ≤ t) → ad' t = ad t) ∧ (∀ t, t ≠ 4 → t ≠ 5 → (t < 60 ∨ 71 ≤ t) → g' t = g t)
set_option maxHeartbeats 4000000 in
set_option maxRecDepth 100000 in
theorem k_X2_init {l : Launch} (hst : l.stackTraces = false) (D : va_G) (ad : Nat → Nat) (g : qw_G) (a : Nat) (ha : ad 4 = a) (hu : g 4 = some (.inr (1, [.null]))) (hf5 : g 5 = none) (hf6 : ∀ i, i < 11 → g (60 + i) = none) : qw_M l yX2_init [Cond.code yX2_init cX2_init 1 none] { frames := 1, cells := 12, slots := 341, locals := 60 } D ad g [(.ref a)] (qx_E0p D ad g) 12 341 := by
  refine qw_M.of (maxL := 1) (own := RX2) (lv := [(0, (.ref a))]) hst (by decide) rfl rfl (Nat.le_of_ble_eq_true rfl) ?_
  intro p e s m args below meth c A C hin
  refine qr_aload_n C dX2_init_0 rfl 0 rfl ?_
  refine qr_obj C go_X2.1 go_X2.2.1 go_X2.2.2 (Nat.le_of_ble_eq_true rfl) (Nat.le_of_ble_eq_true rfl) dX2_init_1 ?_
  refine qr_aload_n C dX2_init_4 rfl 0 rfl ?_
  refine qr_bipush (v := 11) C dX2_init_5 (by decide) ?_
  refine qr_bipush (v := 30) C dX2_init_7 (by decide) ?_
  refine qr_mna C gc_X2_11 gA_int (N := 11) (K := 30) rfl rfl rfl rfl (fun c => rfl) 5 60 hf5 hf6 (by omega) (Nat.le_of_ble_eq_true rfl) (Nat.le_of_ble_eq_true rfl) dX2_init_9 ?_
  intro q r
  generalize hA : qw_upN (va_up ad 5 q) 60 11 r = ad1
  have hq : ad1 5 = q := by rw [← hA]; exact (qw_upN_out (by omega)).trans (va_up_self _ _ _)
  have hr : ∀ i, i < 11 → ad1 (60 + i) = r i := fun i hi => by rw [← hA]; exact qw_upN_in hi
  have had : ∀ t, t ≠ 5 → (t < 60 ∨ 71 ≤ t) → ad1 t = ad t := fun t h1 h2 => by rw [← hA]; exact (qw_upN_out h2).trans (va_up_ne _ _ h1)
  generalize hG : qw_upN (va_up g 5 _) 60 11 _ = g1
  have h5 : g1 5 = some (.inl (D.1 27, 11, .inr (.inr (.inr (.inr (fun i => if i < 11 then some (r i) else none)))))) := by rw [← hG]; exact (qw_upN_out (by omega)).trans (va_up_self _ _ _)
  have h60 : ∀ i, i < 11 → g1 (60 + i) = some (.inl (D.1 20, 30, .inl (fun _ => 0))) := fun i hi => by rw [← hG]; exact qw_upN_in hi
  have hne : ∀ t, t ≠ 5 → (t < 60 ∨ 71 ≤ t) → g1 t = g t := fun t h1 h2 => by rw [← hG]; exact (qw_upN_out h2).trans (va_up_ne _ _ h1)
  have f1 : g1 (4) = g (4) := hne (4) (by omega) (by omega)
  have pa2 : ad1 (4) = a := (had (4) (by omega) (by omega)).trans ha
  refine pf_X2_13 C hin (4) ((f1.trans (hu))) pa2 rfl rfl (Nat.le_of_ble_eq_true rfl) rfl dX2_init_13 ?_
  generalize hg4 : va_up g1 (4) _ = g3
  have f5 : g3 (4) = some (.inr (1, [(.ref q)])) := by rw [← hg4]; exact va_up_self _ _ _
  have f6 : g3 (5) = g1 (5) := by rw [← hg4]; exact va_up_ne _ _ (by omega)
  exact qr_vret C rfl (Nat.le_of_ble_eq_true rfl) (Nat.le_of_ble_eq_true rfl) dX2_init_16 (⟨rfl, ⟨by rw [hq]; exact f5, by rw [show (fun i => if i < 11 then some (ad1 (60 + i)) else none : Nat → Option Nat) = fun i => if i < 11 then some (r i) else none from funext fun i => by by_cases hi : i < 11 <;> simp [hi, hr]]; exact (f6.trans (h5)), fun i hi => ((congrFun hg4 (60 + i)).symm.trans ((va_up_ne _ _ (by omega)).trans rfl)).trans (h60 i hi)⟩, fun t h1 h2 => ((had t (by omega) (by omega)).trans rfl), fun t h1 h2 h3 => ((congrFun hg4 t).symm.trans ((va_up_ne _ _ (by omega)).trans ((hne t (by omega) (by omega)).trans rfl)))⟩)
def qx_X0p (D : va_G) (ad : Nat → Nat) (g : qw_G) : Option Value → (Nat → Nat) → qw_G → Prop := fun v' ad' g' => none = v' ∧ qx_P D (fun _ _ => 0) 0 0 ad' g' ∧ (∀ t, (t = 0 ∨ 100 ≤ t) → ad' t = ad t) ∧ (∀ t, 100 ≤ t → g' t = g t)
theorem qx_l0 {f : Nat → Nat} : (fun _ => none : Nat → Option Nat) = fun i => if i < 0 then some (f i) else none := funext fun i => (if_neg (by omega)).symm
set_option maxHeartbeats 4000000 in
set_option maxRecDepth 100000 in
theorem k_X6_init {l : Launch} (hst : l.stackTraces = false) (D : va_G) (ad : Nat → Nat) (g : qw_G) (a : Nat) (ha : ad 0 = a) (hu : g 0 = some (.inr (5, [.null, .null, .null, .null, .int 0, .int 0, .int 0, .int 0, .int 0]))) (hf : ∀ t, ((0 < t ∧ t < 100) ∨ (1000 ≤ t ∧ t < 1120) ∨ (2000 ≤ t ∧ t < 2040)) → g t = none) : qw_M l yX6_init [Cond.code yX6_init cX6_init 2 none] { frames := 5, cells := 60, slots := 1100, locals := 250 } D ad g [(.ref a)] (qx_X0p D ad g) 60 1100 := by
  refine qw_M.of (maxL := 2) (own := RX6) (lv := [(0, (.ref a))]) hst (by decide) rfl rfl (Nat.le_of_ble_eq_true rfl) ?_
  intro p e s m args below meth c A C hin
  refine qr_aload_n C dX6_init_0 rfl 0 rfl ?_
  refine qr_obj C go_X6.1 go_X6.2.1 go_X6.2.2 (Nat.le_of_ble_eq_true rfl) (Nat.le_of_ble_eq_true rfl) dX6_init_1 ?_
  refine qr_aload_n C dX6_init_4 rfl 0 rfl ?_
  refine qr_iconst (v := 3) C dX6_init_5 (by decide) ?_
  refine qr_newQ C gc_X6_9 C.2.2.2.2.1.2.2.2.2.1 (t0 := 3) rfl (N := 3) rfl rfl (1) (rfl.trans ((hf _ (by omega)))) (Nat.le_of_ble_eq_true rfl) (Nat.le_of_ble_eq_true rfl) dX6_init_6 ?_
  intro q1
  generalize hA3 : va_up ad (1) q1 = ad2
  have hq6 : ad2 (1) = q1 := by rw [← hA3]; exact va_up_self _ _ _
  have had7 : ∀ t, t ≠ 1 → ad2 t = ad t := fun t ht => by rw [← hA3]; exact va_up_ne _ _ ht
  generalize hgn5 : va_up g (1) _ = gn4
  have hne8 : ∀ t, t ≠ 1 → gn4 t = g t := fun t ht => by rw [← hgn5]; exact va_up_ne _ _ ht
  have hnu9 : gn4 (1) = some (.inl (D.1 23, 3, .inr (.inr (.inr (.inr (fun _ => none)))))) := by rw [← hgn5]; exact va_up_self _ _ _
  have f10 : gn4 (0) = g (0) := hne8 (0) (by omega)
  have pa11 : ad2 (0) = a := (had7 (0) (by omega)).trans ha
  refine pf_X6_11 C hin (0) ((f10.trans (hu))) pa11 rfl rfl (Nat.le_of_ble_eq_true rfl) rfl dX6_init_9 ?_
  generalize hg13 : va_up gn4 (0) _ = g12
  have f14 : g12 (0) = some (.inr (5, [(.ref q1), .null, .null, .null, (.int 0), (.int 0), (.int 0), (.int 0), (.int 0)])) := by rw [← hg13]; exact va_up_self _ _ _
  have f15 : g12 (1) = gn4 (1) := by rw [← hg13]; exact va_up_ne _ _ (by omega)
  refine qr_iconst (v := 0) C dX6_init_12 (by decide) ?_
  refine qr_istore_n (lv' := [(1, (.int (0 : Int32))), (0, (.ref a))]) C dX6_init_13 rfl (by decide) rfl ?_
  refine qr_iload_n C dX6_init_14 rfl 0 rfl ?_
  refine qr_iconst (v := 3) C dX6_init_15 (by decide) ?_
  refine qr_icmp_ge_f C 38 dX6_init_16 (by decide) (by decide) ?_
  refine qr_aload_n C dX6_init_19 rfl 1 rfl ?_
  refine gf_X6_11 C (0) (f14) pa11 rfl dX6_init_20 ?_
  refine qr_iload_n C dX6_init_23 rfl 0 rfl ?_
  refine qr_new C qi_X5 tyX5 tyX5_ok gc_X6_9 gcn_X5.1 gcn_X5.2 [.null, .null, (.int 0), (.int 0)] qz_X5 (10 + 0) (((congrFun hg13 (10 + 0)).symm.trans ((va_up_ne _ _ (by omega)).trans ((hne8 (10 + 0) (by omega)).trans rfl))).trans ((hf _ (by omega)))) (Nat.le_of_ble_eq_true rfl) (Nat.le_of_ble_eq_true rfl) dX6_init_24 ?_
  intro q16
  generalize hA18 : va_up ad2 (10 + 0) q16 = ad17
  have hq21 : ad17 (10 + 0) = q16 := by rw [← hA18]; exact va_up_self _ _ _
  have had22 : ∀ t, t ≠ 10 + 0 → ad17 t = ad2 t := fun t ht => by rw [← hA18]; exact va_up_ne _ _ ht
  generalize hgn20 : va_up g12 (10 + 0) _ = gn19
  have hne23 : ∀ t, t ≠ 10 + 0 → gn19 t = g12 t := fun t ht => by rw [← hgn20]; exact va_up_ne _ _ ht
  have hnu24 : gn19 (10 + 0) = some (.inr (4, [.null, .null, (.int 0), (.int 0)])) := by rw [← hgn20]; exact va_up_self _ _ _
  have f25 : gn19 (1) = g12 (1) := hne23 (1) (by omega)
  have f26 : gn19 (0) = g12 (0) := hne23 (0) (by omega)
  have pa27 : ad17 (0) = a := (had22 (0) (by omega)).trans pa11
  have pa28 : ad17 (1) = q1 := (had22 (1) (by omega)).trans hq6
  refine qr_dup C dX6_init_27 rfl ?_
  refine qr_callNI (cret := none) C (na := 0) (As := []) (rest := [(.ref q16), (.int (0 : Int32)), (.ref q1)]) (k_X5_init hst D ad17 gn19 0 q16 (by omega) hq21 (hnu24) (fun t ht => ((hne23 t (by omega)).trans ((congrFun hg13 t).symm.trans ((va_up_ne _ _ (by omega)).trans ((hne8 t (by omega)).trans rfl)))).trans (hf t (by omega)))) gi_X6_15.1 gi_X6_15.2.1 gi_X6_15.2.2.1 gi_X6_15.2.2.2 rfl ⟨by decide, by decide, by decide +kernel⟩ rfl rfl (Nat.le_of_ble_eq_true rfl) rfl rfl ⟨Nat.le_of_ble_eq_true rfl, Nat.le_of_ble_eq_true rfl⟩ ⟨Nat.le_of_ble_eq_true rfl, Nat.le_of_ble_eq_true rfl⟩ dX6_init_28 (fun v ad29 gc30 hpo31 => ?_)
  obtain ⟨rfl, z34, had33, hfr32⟩ := hpo31
  have f35 : gc30 (1) = gn19 (1) := hfr32 (1) (by omega) (by omega) (by omega) (by omega) (by omega)
  have f36 : gc30 (0) = gn19 (0) := hfr32 (0) (by omega) (by omega) (by omega) (by omega) (by omega)
  have pa37 : ad29 (0) = a := (had33 (0) (by omega) (by omega) (by omega) (by omega)).trans pa27
  have pa38 : ad29 (1) = q1 := (had33 (1) (by omega) (by omega) (by omega) (by omega)).trans pa28
  have pa39 : ad29 (10 + 0) = q16 := (had33 (10 + 0) (by omega) (by omega) (by omega) (by omega)).trans hq21
  refine qr_aast C 3 rfl rfl (1) (10 + 0) ((f35.trans ((f25.trans ((f15.trans (hnu9))))))) pa38 (z34.1) pa39 (j := 0) rfl (by decide) rfl dX6_init_31 ?_
  generalize hga41 : va_up gc30 (1) _ = ga40
  have hne42 : ∀ t, t ≠ 1 → ga40 t = gc30 t := fun t ht => by rw [← hga41]; exact va_up_ne _ _ ht
  have hnu43 : ga40 (1) = some (.inl (D.1 23, 3, .inr (.inr (.inr (.inr (va_up (fun _ => none) 0 (some q16))))))) := by rw [← hga41]; exact va_up_self _ _ _
  have f44 : ga40 (0) = gc30 (0) := hne42 (0) (by omega)
  have f45 : ga40 (10 + 0) = gc30 (10 + 0) := hne42 (10 + 0) (by omega)
  refine qr_iinc (v := (1 : Int32)) (lv' := [(1, (.int (1 : Int32))), (0, (.ref a))]) C dX6_init_32 (w := 0) rfl (by decide) (by decide) rfl ?_
  refine qr_goto (tgt := 14) C dX6_init_35 (by decide) ?_
  refine qr_iload_n C dX6_init_14 rfl 0 rfl ?_
  refine qr_iconst (v := 3) C dX6_init_15 (by decide) ?_
  refine qr_icmp_ge_f C 38 dX6_init_16 (by decide) (by decide) ?_
  refine qr_aload_n C dX6_init_19 rfl 1 rfl ?_
  refine gf_X6_11 C (0) ((f44.trans ((f36.trans ((f26.trans (f14))))))) pa37 rfl dX6_init_20 ?_
  refine qr_iload_n C dX6_init_23 rfl 0 rfl ?_
  refine qr_new C qi_X5 tyX5 tyX5_ok gc_X6_9 gcn_X5.1 gcn_X5.2 [.null, .null, (.int 0), (.int 0)] qz_X5 (10 + 1) (((hne42 (10 + 1) (by omega)).trans ((hfr32 (10 + 1) (by omega) (by omega) (by omega) (by omega) (by omega)).trans ((hne23 (10 + 1) (by omega)).trans ((congrFun hg13 (10 + 1)).symm.trans ((va_up_ne _ _ (by omega)).trans ((hne8 (10 + 1) (by omega)).trans rfl)))))).trans ((hf _ (by omega)))) (Nat.le_of_ble_eq_true rfl) (Nat.le_of_ble_eq_true rfl) dX6_init_24 ?_
  intro q46
  generalize hA48 : va_up ad29 (10 + 1) q46 = ad47
  have hq51 : ad47 (10 + 1) = q46 := by rw [← hA48]; exact va_up_self _ _ _
  have had52 : ∀ t, t ≠ 10 + 1 → ad47 t = ad29 t := fun t ht => by rw [← hA48]; exact va_up_ne _ _ ht
  generalize hgn50 : va_up ga40 (10 + 1) _ = gn49
  have hne53 : ∀ t, t ≠ 10 + 1 → gn49 t = ga40 t := fun t ht => by rw [← hgn50]; exact va_up_ne _ _ ht
  have hnu54 : gn49 (10 + 1) = some (.inr (4, [.null, .null, (.int 0), (.int 0)])) := by rw [← hgn50]; exact va_up_self _ _ _
  have f55 : gn49 (0) = ga40 (0) := hne53 (0) (by omega)
  have f56 : gn49 (10 + 0) = ga40 (10 + 0) := hne53 (10 + 0) (by omega)
  have f57 : gn49 (1) = ga40 (1) := hne53 (1) (by omega)
  have pa58 : ad47 (0) = a := (had52 (0) (by omega)).trans pa37
  have pa59 : ad47 (1) = q1 := (had52 (1) (by omega)).trans pa38
  have pa60 : ad47 (10 + 0) = q16 := (had52 (10 + 0) (by omega)).trans pa39
  refine qr_dup C dX6_init_27 rfl ?_
  refine qr_callNI (cret := none) C (na := 0) (As := []) (rest := [(.ref q46), (.int (1 : Int32)), (.ref q1)]) (k_X5_init hst D ad47 gn49 1 q46 (by omega) hq51 (hnu54) (fun t ht => ((hne53 t (by omega)).trans ((hne42 t (by omega)).trans ((hfr32 t (by omega) (by omega) (by omega) (by omega) (by omega)).trans ((hne23 t (by omega)).trans ((congrFun hg13 t).symm.trans ((va_up_ne _ _ (by omega)).trans ((hne8 t (by omega)).trans rfl))))))).trans (hf t (by omega)))) gi_X6_15.1 gi_X6_15.2.1 gi_X6_15.2.2.1 gi_X6_15.2.2.2 rfl ⟨by decide, by decide, by decide +kernel⟩ rfl rfl (Nat.le_of_ble_eq_true rfl) rfl rfl ⟨Nat.le_of_ble_eq_true rfl, Nat.le_of_ble_eq_true rfl⟩ ⟨Nat.le_of_ble_eq_true rfl, Nat.le_of_ble_eq_true rfl⟩ dX6_init_28 (fun v ad61 gc62 hpo63 => ?_)
  obtain ⟨rfl, z66, had65, hfr64⟩ := hpo63
  have f67 : gc62 (0) = gn49 (0) := hfr64 (0) (by omega) (by omega) (by omega) (by omega) (by omega)
  have f68 : gc62 (10 + 0) = gn49 (10 + 0) := hfr64 (10 + 0) (by omega) (by omega) (by omega) (by omega) (by omega)
  have f69 : gc62 (1) = gn49 (1) := hfr64 (1) (by omega) (by omega) (by omega) (by omega) (by omega)
  have pa70 : ad61 (0) = a := (had65 (0) (by omega) (by omega) (by omega) (by omega)).trans pa58
  have pa71 : ad61 (1) = q1 := (had65 (1) (by omega) (by omega) (by omega) (by omega)).trans pa59
  have pa72 : ad61 (10 + 0) = q16 := (had65 (10 + 0) (by omega) (by omega) (by omega) (by omega)).trans pa60
  have pa73 : ad61 (10 + 1) = q46 := (had65 (10 + 1) (by omega) (by omega) (by omega) (by omega)).trans hq51
  refine qr_aast C 3 rfl rfl (1) (10 + 1) ((f69.trans ((f57.trans (hnu43))))) pa71 (z66.1) pa73 (j := 1) rfl (by decide) rfl dX6_init_31 ?_
  generalize hga75 : va_up gc62 (1) _ = ga74
  have hne76 : ∀ t, t ≠ 1 → ga74 t = gc62 t := fun t ht => by rw [← hga75]; exact va_up_ne _ _ ht
  have hnu77 : ga74 (1) = some (.inl (D.1 23, 3, .inr (.inr (.inr (.inr (va_up (va_up (fun _ => none) 0 (some q16)) 1 (some q46))))))) := by rw [← hga75]; exact va_up_self _ _ _
  have f78 : ga74 (0) = gc62 (0) := hne76 (0) (by omega)
  have f79 : ga74 (10 + 0) = gc62 (10 + 0) := hne76 (10 + 0) (by omega)
  have f80 : ga74 (10 + 1) = gc62 (10 + 1) := hne76 (10 + 1) (by omega)
  refine qr_iinc (v := (2 : Int32)) (lv' := [(1, (.int (2 : Int32))), (0, (.ref a))]) C dX6_init_32 (w := 0) rfl (by decide) (by decide) rfl ?_
  refine qr_goto (tgt := 14) C dX6_init_35 (by decide) ?_
  refine qr_iload_n C dX6_init_14 rfl 0 rfl ?_
  refine qr_iconst (v := 3) C dX6_init_15 (by decide) ?_
  refine qr_icmp_ge_f C 38 dX6_init_16 (by decide) (by decide) ?_
  refine qr_aload_n C dX6_init_19 rfl 1 rfl ?_
  refine gf_X6_11 C (0) ((f78.trans ((f67.trans ((f55.trans ((f44.trans ((f36.trans ((f26.trans (f14))))))))))))) pa70 rfl dX6_init_20 ?_
  refine qr_iload_n C dX6_init_23 rfl 0 rfl ?_
  refine qr_new C qi_X5 tyX5 tyX5_ok gc_X6_9 gcn_X5.1 gcn_X5.2 [.null, .null, (.int 0), (.int 0)] qz_X5 (10 + 2) (((hne76 (10 + 2) (by omega)).trans ((hfr64 (10 + 2) (by omega) (by omega) (by omega) (by omega) (by omega)).trans ((hne53 (10 + 2) (by omega)).trans ((hne42 (10 + 2) (by omega)).trans ((hfr32 (10 + 2) (by omega) (by omega) (by omega) (by omega) (by omega)).trans ((hne23 (10 + 2) (by omega)).trans ((congrFun hg13 (10 + 2)).symm.trans ((va_up_ne _ _ (by omega)).trans ((hne8 (10 + 2) (by omega)).trans rfl))))))))).trans ((hf _ (by omega)))) (Nat.le_of_ble_eq_true rfl) (Nat.le_of_ble_eq_true rfl) dX6_init_24 ?_
  intro q81
  generalize hA83 : va_up ad61 (10 + 2) q81 = ad82
  have hq86 : ad82 (10 + 2) = q81 := by rw [← hA83]; exact va_up_self _ _ _
  have had87 : ∀ t, t ≠ 10 + 2 → ad82 t = ad61 t := fun t ht => by rw [← hA83]; exact va_up_ne _ _ ht
  generalize hgn85 : va_up ga74 (10 + 2) _ = gn84
  have hne88 : ∀ t, t ≠ 10 + 2 → gn84 t = ga74 t := fun t ht => by rw [← hgn85]; exact va_up_ne _ _ ht
  have hnu89 : gn84 (10 + 2) = some (.inr (4, [.null, .null, (.int 0), (.int 0)])) := by rw [← hgn85]; exact va_up_self _ _ _
  have f90 : gn84 (0) = ga74 (0) := hne88 (0) (by omega)
  have f91 : gn84 (10 + 0) = ga74 (10 + 0) := hne88 (10 + 0) (by omega)
  have f92 : gn84 (10 + 1) = ga74 (10 + 1) := hne88 (10 + 1) (by omega)
  have f93 : gn84 (1) = ga74 (1) := hne88 (1) (by omega)
  have pa94 : ad82 (0) = a := (had87 (0) (by omega)).trans pa70
  have pa95 : ad82 (1) = q1 := (had87 (1) (by omega)).trans pa71
  have pa96 : ad82 (10 + 0) = q16 := (had87 (10 + 0) (by omega)).trans pa72
  have pa97 : ad82 (10 + 1) = q46 := (had87 (10 + 1) (by omega)).trans pa73
  refine qr_dup C dX6_init_27 rfl ?_
  refine qr_callNI (cret := none) C (na := 0) (As := []) (rest := [(.ref q81), (.int (2 : Int32)), (.ref q1)]) (k_X5_init hst D ad82 gn84 2 q81 (by omega) hq86 (hnu89) (fun t ht => ((hne88 t (by omega)).trans ((hne76 t (by omega)).trans ((hfr64 t (by omega) (by omega) (by omega) (by omega) (by omega)).trans ((hne53 t (by omega)).trans ((hne42 t (by omega)).trans ((hfr32 t (by omega) (by omega) (by omega) (by omega) (by omega)).trans ((hne23 t (by omega)).trans ((congrFun hg13 t).symm.trans ((va_up_ne _ _ (by omega)).trans ((hne8 t (by omega)).trans rfl)))))))))).trans (hf t (by omega)))) gi_X6_15.1 gi_X6_15.2.1 gi_X6_15.2.2.1 gi_X6_15.2.2.2 rfl ⟨by decide, by decide, by decide +kernel⟩ rfl rfl (Nat.le_of_ble_eq_true rfl) rfl rfl ⟨Nat.le_of_ble_eq_true rfl, Nat.le_of_ble_eq_true rfl⟩ ⟨Nat.le_of_ble_eq_true rfl, Nat.le_of_ble_eq_true rfl⟩ dX6_init_28 (fun v ad98 gc99 hpo100 => ?_)
  obtain ⟨rfl, z103, had102, hfr101⟩ := hpo100
  have f104 : gc99 (0) = gn84 (0) := hfr101 (0) (by omega) (by omega) (by omega) (by omega) (by omega)
  have f105 : gc99 (10 + 0) = gn84 (10 + 0) := hfr101 (10 + 0) (by omega) (by omega) (by omega) (by omega) (by omega)
  have f106 : gc99 (10 + 1) = gn84 (10 + 1) := hfr101 (10 + 1) (by omega) (by omega) (by omega) (by omega) (by omega)
  have f107 : gc99 (1) = gn84 (1) := hfr101 (1) (by omega) (by omega) (by omega) (by omega) (by omega)
  have pa108 : ad98 (0) = a := (had102 (0) (by omega) (by omega) (by omega) (by omega)).trans pa94
  have pa109 : ad98 (1) = q1 := (had102 (1) (by omega) (by omega) (by omega) (by omega)).trans pa95
  have pa110 : ad98 (10 + 0) = q16 := (had102 (10 + 0) (by omega) (by omega) (by omega) (by omega)).trans pa96
  have pa111 : ad98 (10 + 1) = q46 := (had102 (10 + 1) (by omega) (by omega) (by omega) (by omega)).trans pa97
  have pa112 : ad98 (10 + 2) = q81 := (had102 (10 + 2) (by omega) (by omega) (by omega) (by omega)).trans hq86
  refine qr_aast C 3 rfl rfl (1) (10 + 2) ((f107.trans ((f93.trans (hnu77))))) pa109 (z103.1) pa112 (j := 2) rfl (by decide) rfl dX6_init_31 ?_
  generalize hga114 : va_up gc99 (1) _ = ga113
  have hne115 : ∀ t, t ≠ 1 → ga113 t = gc99 t := fun t ht => by rw [← hga114]; exact va_up_ne _ _ ht
  have hnu116 : ga113 (1) = some (.inl (D.1 23, 3, .inr (.inr (.inr (.inr (va_up (va_up (va_up (fun _ => none) 0 (some q16)) 1 (some q46)) 2 (some q81))))))) := by rw [← hga114]; exact va_up_self _ _ _
  have f117 : ga113 (0) = gc99 (0) := hne115 (0) (by omega)
  have f118 : ga113 (10 + 0) = gc99 (10 + 0) := hne115 (10 + 0) (by omega)
  have f119 : ga113 (10 + 1) = gc99 (10 + 1) := hne115 (10 + 1) (by omega)
  have f120 : ga113 (10 + 2) = gc99 (10 + 2) := hne115 (10 + 2) (by omega)
  refine qr_iinc (v := (3 : Int32)) (lv' := [(1, (.int (3 : Int32))), (0, (.ref a))]) C dX6_init_32 (w := 0) rfl (by decide) (by decide) rfl ?_
  refine qr_goto (tgt := 14) C dX6_init_35 (by decide) ?_
  refine qr_iload_n C dX6_init_14 rfl 0 rfl ?_
  refine qr_iconst (v := 3) C dX6_init_15 (by decide) ?_
  refine qr_icmp_ge_t C 38 dX6_init_16 (by decide) (by decide) ?_
  refine qr_aload_n C dX6_init_38 rfl 1 rfl ?_
  refine qr_bipush (v := 120) C dX6_init_39 (by decide) ?_
  refine qr_newQ C gc_X6_16 C.2.2.2.2.1.2.2.2.2.2.1 (t0 := 4) rfl (N := 120) rfl rfl (2) (((hne115 (2) (by omega)).trans ((hfr101 (2) (by omega) (by omega) (by omega) (by omega) (by omega)).trans ((hne88 (2) (by omega)).trans ((hne76 (2) (by omega)).trans ((hfr64 (2) (by omega) (by omega) (by omega) (by omega) (by omega)).trans ((hne53 (2) (by omega)).trans ((hne42 (2) (by omega)).trans ((hfr32 (2) (by omega) (by omega) (by omega) (by omega) (by omega)).trans ((hne23 (2) (by omega)).trans ((congrFun hg13 (2)).symm.trans ((va_up_ne _ _ (by omega)).trans ((hne8 (2) (by omega)).trans rfl)))))))))))).trans ((hf _ (by omega)))) (Nat.le_of_ble_eq_true rfl) (Nat.le_of_ble_eq_true rfl) dX6_init_41 ?_
  intro q121
  generalize hA123 : va_up ad98 (2) q121 = ad122
  have hq126 : ad122 (2) = q121 := by rw [← hA123]; exact va_up_self _ _ _
  have had127 : ∀ t, t ≠ 2 → ad122 t = ad98 t := fun t ht => by rw [← hA123]; exact va_up_ne _ _ ht
  generalize hgn125 : va_up ga113 (2) _ = gn124
  have hne128 : ∀ t, t ≠ 2 → gn124 t = ga113 t := fun t ht => by rw [← hgn125]; exact va_up_ne _ _ ht
  have hnu129 : gn124 (2) = some (.inl (D.1 24, 120, .inr (.inr (.inr (.inr (fun _ => none)))))) := by rw [← hgn125]; exact va_up_self _ _ _
  have f130 : gn124 (0) = ga113 (0) := hne128 (0) (by omega)
  have f131 : gn124 (10 + 0) = ga113 (10 + 0) := hne128 (10 + 0) (by omega)
  have f132 : gn124 (10 + 1) = ga113 (10 + 1) := hne128 (10 + 1) (by omega)
  have f133 : gn124 (10 + 2) = ga113 (10 + 2) := hne128 (10 + 2) (by omega)
  have f134 : gn124 (1) = ga113 (1) := hne128 (1) (by omega)
  have pa135 : ad122 (0) = a := (had127 (0) (by omega)).trans pa108
  have pa136 : ad122 (1) = q1 := (had127 (1) (by omega)).trans pa109
  have pa137 : ad122 (10 + 0) = q16 := (had127 (10 + 0) (by omega)).trans pa110
  have pa138 : ad122 (10 + 1) = q46 := (had127 (10 + 1) (by omega)).trans pa111
  have pa139 : ad122 (10 + 2) = q81 := (had127 (10 + 2) (by omega)).trans pa112
  refine pf_X6_18 C hin (0) ((f130.trans ((f117.trans ((f104.trans ((f90.trans ((f78.trans ((f67.trans ((f55.trans ((f44.trans ((f36.trans ((f26.trans (f14))))))))))))))))))))) pa135 rfl rfl (Nat.le_of_ble_eq_true rfl) rfl dX6_init_44 ?_
  generalize hg141 : va_up gn124 (0) _ = g140
  have f142 : g140 (0) = some (.inr (5, [(.ref q1), (.ref q121), .null, .null, (.int 0), (.int 0), (.int 0), (.int 0), (.int 0)])) := by rw [← hg141]; exact va_up_self _ _ _
  have f143 : g140 (10 + 0) = gn124 (10 + 0) := by rw [← hg141]; exact va_up_ne _ _ (by omega)
  have f144 : g140 (10 + 1) = gn124 (10 + 1) := by rw [← hg141]; exact va_up_ne _ _ (by omega)
  have f145 : g140 (10 + 2) = gn124 (10 + 2) := by rw [← hg141]; exact va_up_ne _ _ (by omega)
  have f146 : g140 (1) = gn124 (1) := by rw [← hg141]; exact va_up_ne _ _ (by omega)
  have f147 : g140 (2) = gn124 (2) := by rw [← hg141]; exact va_up_ne _ _ (by omega)
  refine qr_aload_n C dX6_init_47 rfl 1 rfl ?_
  refine qr_bipush (v := 40) C dX6_init_48 (by decide) ?_
  refine qr_newQ C gc_X6_22 C.2.2.2.2.1.2.2.2.2.2.2.1 (t0 := 5) rfl (N := 40) rfl rfl (3) (((congrFun hg141 (3)).symm.trans ((va_up_ne _ _ (by omega)).trans ((hne128 (3) (by omega)).trans ((hne115 (3) (by omega)).trans ((hfr101 (3) (by omega) (by omega) (by omega) (by omega) (by omega)).trans ((hne88 (3) (by omega)).trans ((hne76 (3) (by omega)).trans ((hfr64 (3) (by omega) (by omega) (by omega) (by omega) (by omega)).trans ((hne53 (3) (by omega)).trans ((hne42 (3) (by omega)).trans ((hfr32 (3) (by omega) (by omega) (by omega) (by omega) (by omega)).trans ((hne23 (3) (by omega)).trans ((congrFun hg13 (3)).symm.trans ((va_up_ne _ _ (by omega)).trans ((hne8 (3) (by omega)).trans rfl))))))))))))))).trans ((hf _ (by omega)))) (Nat.le_of_ble_eq_true rfl) (Nat.le_of_ble_eq_true rfl) dX6_init_50 ?_
  intro q148
  generalize hA150 : va_up ad122 (3) q148 = ad149
  have hq153 : ad149 (3) = q148 := by rw [← hA150]; exact va_up_self _ _ _
  have had154 : ∀ t, t ≠ 3 → ad149 t = ad122 t := fun t ht => by rw [← hA150]; exact va_up_ne _ _ ht
  generalize hgn152 : va_up g140 (3) _ = gn151
  have hne155 : ∀ t, t ≠ 3 → gn151 t = g140 t := fun t ht => by rw [← hgn152]; exact va_up_ne _ _ ht
  have hnu156 : gn151 (3) = some (.inl (D.1 25, 40, .inr (.inr (.inr (.inr (fun _ => none)))))) := by rw [← hgn152]; exact va_up_self _ _ _
  have f157 : gn151 (10 + 0) = g140 (10 + 0) := hne155 (10 + 0) (by omega)
  have f158 : gn151 (10 + 1) = g140 (10 + 1) := hne155 (10 + 1) (by omega)
  have f159 : gn151 (10 + 2) = g140 (10 + 2) := hne155 (10 + 2) (by omega)
  have f160 : gn151 (1) = g140 (1) := hne155 (1) (by omega)
  have f161 : gn151 (2) = g140 (2) := hne155 (2) (by omega)
  have f162 : gn151 (0) = g140 (0) := hne155 (0) (by omega)
  have pa163 : ad149 (0) = a := (had154 (0) (by omega)).trans pa135
  have pa164 : ad149 (1) = q1 := (had154 (1) (by omega)).trans pa136
  have pa165 : ad149 (10 + 0) = q16 := (had154 (10 + 0) (by omega)).trans pa137
  have pa166 : ad149 (10 + 1) = q46 := (had154 (10 + 1) (by omega)).trans pa138
  have pa167 : ad149 (10 + 2) = q81 := (had154 (10 + 2) (by omega)).trans pa139
  have pa168 : ad149 (2) = q121 := (had154 (2) (by omega)).trans hq126
  refine pf_X6_24 C hin (0) ((f162.trans (f142))) pa163 rfl rfl (Nat.le_of_ble_eq_true rfl) rfl dX6_init_53 ?_
  generalize hg170 : va_up gn151 (0) _ = g169
  have f171 : g169 (0) = some (.inr (5, [(.ref q1), (.ref q121), (.ref q148), .null, (.int 0), (.int 0), (.int 0), (.int 0), (.int 0)])) := by rw [← hg170]; exact va_up_self _ _ _
  have f172 : g169 (10 + 0) = gn151 (10 + 0) := by rw [← hg170]; exact va_up_ne _ _ (by omega)
  have f173 : g169 (10 + 1) = gn151 (10 + 1) := by rw [← hg170]; exact va_up_ne _ _ (by omega)
  have f174 : g169 (10 + 2) = gn151 (10 + 2) := by rw [← hg170]; exact va_up_ne _ _ (by omega)
  have f175 : g169 (1) = gn151 (1) := by rw [← hg170]; exact va_up_ne _ _ (by omega)
  have f176 : g169 (2) = gn151 (2) := by rw [← hg170]; exact va_up_ne _ _ (by omega)
  have f177 : g169 (3) = gn151 (3) := by rw [← hg170]; exact va_up_ne _ _ (by omega)
  refine qr_aload_n C dX6_init_56 rfl 1 rfl ?_
  refine qr_new C qi_X2 tyX2 tyX2_ok gc_X6_28.1 gc_X6_28.2.1 gc_X6_28.2.2 [.null] qz_X2 (4) (((congrFun hg170 (4)).symm.trans ((va_up_ne _ _ (by omega)).trans ((hne155 (4) (by omega)).trans ((congrFun hg141 (4)).symm.trans ((va_up_ne _ _ (by omega)).trans ((hne128 (4) (by omega)).trans ((hne115 (4) (by omega)).trans ((hfr101 (4) (by omega) (by omega) (by omega) (by omega) (by omega)).trans ((hne88 (4) (by omega)).trans ((hne76 (4) (by omega)).trans ((hfr64 (4) (by omega) (by omega) (by omega) (by omega) (by omega)).trans ((hne53 (4) (by omega)).trans ((hne42 (4) (by omega)).trans ((hfr32 (4) (by omega) (by omega) (by omega) (by omega) (by omega)).trans ((hne23 (4) (by omega)).trans ((congrFun hg13 (4)).symm.trans ((va_up_ne _ _ (by omega)).trans ((hne8 (4) (by omega)).trans rfl)))))))))))))))))).trans ((hf _ (by omega)))) (Nat.le_of_ble_eq_true rfl) (Nat.le_of_ble_eq_true rfl) dX6_init_57 ?_
  intro q178
  generalize hA180 : va_up ad149 (4) q178 = ad179
  have hq183 : ad179 (4) = q178 := by rw [← hA180]; exact va_up_self _ _ _
  have had184 : ∀ t, t ≠ 4 → ad179 t = ad149 t := fun t ht => by rw [← hA180]; exact va_up_ne _ _ ht
  generalize hgn182 : va_up g169 (4) _ = gn181
  have hne185 : ∀ t, t ≠ 4 → gn181 t = g169 t := fun t ht => by rw [← hgn182]; exact va_up_ne _ _ ht
  have hnu186 : gn181 (4) = some (.inr (1, [.null])) := by rw [← hgn182]; exact va_up_self _ _ _
  have f187 : gn181 (10 + 0) = g169 (10 + 0) := hne185 (10 + 0) (by omega)
  have f188 : gn181 (10 + 1) = g169 (10 + 1) := hne185 (10 + 1) (by omega)
  have f189 : gn181 (10 + 2) = g169 (10 + 2) := hne185 (10 + 2) (by omega)
  have f190 : gn181 (1) = g169 (1) := hne185 (1) (by omega)
  have f191 : gn181 (2) = g169 (2) := hne185 (2) (by omega)
  have f192 : gn181 (3) = g169 (3) := hne185 (3) (by omega)
  have f193 : gn181 (0) = g169 (0) := hne185 (0) (by omega)
  have pa194 : ad179 (0) = a := (had184 (0) (by omega)).trans pa163
  have pa195 : ad179 (1) = q1 := (had184 (1) (by omega)).trans pa164
  have pa196 : ad179 (10 + 0) = q16 := (had184 (10 + 0) (by omega)).trans pa165
  have pa197 : ad179 (10 + 1) = q46 := (had184 (10 + 1) (by omega)).trans pa166
  have pa198 : ad179 (10 + 2) = q81 := (had184 (10 + 2) (by omega)).trans pa167
  have pa199 : ad179 (2) = q121 := (had184 (2) (by omega)).trans pa168
  have pa200 : ad179 (3) = q148 := (had184 (3) (by omega)).trans hq153
  refine qr_dup C dX6_init_60 rfl ?_
  refine qr_callNI (cret := none) C (na := 0) (As := []) (rest := [(.ref q178), (.ref a)]) (k_X2_init hst D ad179 gn181 q178 hq183 (hnu186) (((hne185 (5) (by omega)).trans ((congrFun hg170 (5)).symm.trans ((va_up_ne _ _ (by omega)).trans ((hne155 (5) (by omega)).trans ((congrFun hg141 (5)).symm.trans ((va_up_ne _ _ (by omega)).trans ((hne128 (5) (by omega)).trans ((hne115 (5) (by omega)).trans ((hfr101 (5) (by omega) (by omega) (by omega) (by omega) (by omega)).trans ((hne88 (5) (by omega)).trans ((hne76 (5) (by omega)).trans ((hfr64 (5) (by omega) (by omega) (by omega) (by omega) (by omega)).trans ((hne53 (5) (by omega)).trans ((hne42 (5) (by omega)).trans ((hfr32 (5) (by omega) (by omega) (by omega) (by omega) (by omega)).trans ((hne23 (5) (by omega)).trans ((congrFun hg13 (5)).symm.trans ((va_up_ne _ _ (by omega)).trans ((hne8 (5) (by omega)).trans rfl))))))))))))))))))).trans ((hf _ (by omega)))) (fun i hi => ((hne185 (60 + i) (by omega)).trans ((congrFun hg170 (60 + i)).symm.trans ((va_up_ne _ _ (by omega)).trans ((hne155 (60 + i) (by omega)).trans ((congrFun hg141 (60 + i)).symm.trans ((va_up_ne _ _ (by omega)).trans ((hne128 (60 + i) (by omega)).trans ((hne115 (60 + i) (by omega)).trans ((hfr101 (60 + i) (by omega) (by omega) (by omega) (by omega) (by omega)).trans ((hne88 (60 + i) (by omega)).trans ((hne76 (60 + i) (by omega)).trans ((hfr64 (60 + i) (by omega) (by omega) (by omega) (by omega) (by omega)).trans ((hne53 (60 + i) (by omega)).trans ((hne42 (60 + i) (by omega)).trans ((hfr32 (60 + i) (by omega) (by omega) (by omega) (by omega) (by omega)).trans ((hne23 (60 + i) (by omega)).trans ((congrFun hg13 (60 + i)).symm.trans ((va_up_ne _ _ (by omega)).trans ((hne8 (60 + i) (by omega)).trans rfl))))))))))))))))))).trans (hf _ (by omega)))) gi_X6_30.1 gi_X6_30.2.1 gi_X6_30.2.2.1 gi_X6_30.2.2.2 rfl ⟨by decide, by decide, by decide +kernel⟩ rfl rfl (Nat.le_of_ble_eq_true rfl) rfl rfl ⟨Nat.le_of_ble_eq_true rfl, Nat.le_of_ble_eq_true rfl⟩ ⟨Nat.le_of_ble_eq_true rfl, Nat.le_of_ble_eq_true rfl⟩ dX6_init_61 (fun v ad201 gc202 hpo203 => ?_)
  obtain ⟨rfl, z206, had205, hfr204⟩ := hpo203
  have f207 : gc202 (10 + 0) = gn181 (10 + 0) := hfr204 (10 + 0) (by omega) (by omega) (by omega)
  have f208 : gc202 (10 + 1) = gn181 (10 + 1) := hfr204 (10 + 1) (by omega) (by omega) (by omega)
  have f209 : gc202 (10 + 2) = gn181 (10 + 2) := hfr204 (10 + 2) (by omega) (by omega) (by omega)
  have f210 : gc202 (1) = gn181 (1) := hfr204 (1) (by omega) (by omega) (by omega)
  have f211 : gc202 (2) = gn181 (2) := hfr204 (2) (by omega) (by omega) (by omega)
  have f212 : gc202 (3) = gn181 (3) := hfr204 (3) (by omega) (by omega) (by omega)
  have f213 : gc202 (0) = gn181 (0) := hfr204 (0) (by omega) (by omega) (by omega)
  have pa214 : ad201 (0) = a := (had205 (0) (by omega) (by omega)).trans pa194
  have pa215 : ad201 (1) = q1 := (had205 (1) (by omega) (by omega)).trans pa195
  have pa216 : ad201 (10 + 0) = q16 := (had205 (10 + 0) (by omega) (by omega)).trans pa196
  have pa217 : ad201 (10 + 1) = q46 := (had205 (10 + 1) (by omega) (by omega)).trans pa197
  have pa218 : ad201 (10 + 2) = q81 := (had205 (10 + 2) (by omega) (by omega)).trans pa198
  have pa219 : ad201 (2) = q121 := (had205 (2) (by omega) (by omega)).trans pa199
  have pa220 : ad201 (3) = q148 := (had205 (3) (by omega) (by omega)).trans pa200
  have pa221 : ad201 (4) = q178 := (had205 (4) (by omega) (by omega)).trans hq183
  refine pf_X6_31 C hin (0) ((f213.trans ((f193.trans (f171))))) pa214 rfl rfl (Nat.le_of_ble_eq_true rfl) rfl dX6_init_64 ?_
  generalize hg223 : va_up gc202 (0) _ = g222
  have f224 : g222 (0) = some (.inr (5, [(.ref q1), (.ref q121), (.ref q148), (.ref q178), (.int 0), (.int 0), (.int 0), (.int 0), (.int 0)])) := by rw [← hg223]; exact va_up_self _ _ _
  have f225 : g222 (10 + 0) = gc202 (10 + 0) := by rw [← hg223]; exact va_up_ne _ _ (by omega)
  have f226 : g222 (10 + 1) = gc202 (10 + 1) := by rw [← hg223]; exact va_up_ne _ _ (by omega)
  have f227 : g222 (10 + 2) = gc202 (10 + 2) := by rw [← hg223]; exact va_up_ne _ _ (by omega)
  have f228 : g222 (1) = gc202 (1) := by rw [← hg223]; exact va_up_ne _ _ (by omega)
  have f229 : g222 (2) = gc202 (2) := by rw [← hg223]; exact va_up_ne _ _ (by omega)
  have f230 : g222 (3) = gc202 (3) := by rw [← hg223]; exact va_up_ne _ _ (by omega)
  have f231 : g222 (4) = gc202 (4) := by rw [← hg223]; exact va_up_ne _ _ (by omega)
  have f232 : g222 (5) = gc202 (5) := by rw [← hg223]; exact va_up_ne _ _ (by omega)
  have hTf : ∀ i, i < 3 → qx_T0 D ad201 g222 i := fun i hi => match i, hi with | 0, _ => z34.mono (by omega) (fun t ht => ((had205 t (by omega) (by omega)).trans ((had184 t (by omega)).trans ((had154 t (by omega)).trans ((had127 t (by omega)).trans ((had102 t (by omega) (by omega) (by omega) (by omega)).trans ((had87 t (by omega)).trans ((had65 t (by omega) (by omega) (by omega) (by omega)).trans ((had52 t (by omega)).trans rfl))))))))) (fun t ht => ((congrFun hg223 t).symm.trans ((va_up_ne _ _ (by omega)).trans ((hfr204 t (by omega) (by omega) (by omega)).trans ((hne185 t (by omega)).trans ((congrFun hg170 t).symm.trans ((va_up_ne _ _ (by omega)).trans ((hne155 t (by omega)).trans ((congrFun hg141 t).symm.trans ((va_up_ne _ _ (by omega)).trans ((hne128 t (by omega)).trans ((hne115 t (by omega)).trans ((hfr101 t (by omega) (by omega) (by omega) (by omega) (by omega)).trans ((hne88 t (by omega)).trans ((hne76 t (by omega)).trans ((hfr64 t (by omega) (by omega) (by omega) (by omega) (by omega)).trans ((hne53 t (by omega)).trans ((hne42 t (by omega)).trans rfl)))))))))))))))))) | 1, _ => z66.mono (by omega) (fun t ht => ((had205 t (by omega) (by omega)).trans ((had184 t (by omega)).trans ((had154 t (by omega)).trans ((had127 t (by omega)).trans ((had102 t (by omega) (by omega) (by omega) (by omega)).trans ((had87 t (by omega)).trans rfl))))))) (fun t ht => ((congrFun hg223 t).symm.trans ((va_up_ne _ _ (by omega)).trans ((hfr204 t (by omega) (by omega) (by omega)).trans ((hne185 t (by omega)).trans ((congrFun hg170 t).symm.trans ((va_up_ne _ _ (by omega)).trans ((hne155 t (by omega)).trans ((congrFun hg141 t).symm.trans ((va_up_ne _ _ (by omega)).trans ((hne128 t (by omega)).trans ((hne115 t (by omega)).trans ((hfr101 t (by omega) (by omega) (by omega) (by omega) (by omega)).trans ((hne88 t (by omega)).trans ((hne76 t (by omega)).trans rfl))))))))))))))) | 2, _ => z103.mono (by omega) (fun t ht => ((had205 t (by omega) (by omega)).trans ((had184 t (by omega)).trans ((had154 t (by omega)).trans ((had127 t (by omega)).trans rfl))))) (fun t ht => ((congrFun hg223 t).symm.trans ((va_up_ne _ _ (by omega)).trans ((hfr204 t (by omega) (by omega) (by omega)).trans ((hne185 t (by omega)).trans ((congrFun hg170 t).symm.trans ((va_up_ne _ _ (by omega)).trans ((hne155 t (by omega)).trans ((congrFun hg141 t).symm.trans ((va_up_ne _ _ (by omega)).trans ((hne128 t (by omega)).trans ((hne115 t (by omega)).trans rfl))))))))))))
  exact qr_vret C rfl (Nat.le_of_ble_eq_true rfl) (Nat.le_of_ble_eq_true rfl) dX6_init_67 (⟨rfl, ⟨by rw [pa215, pa219, pa220, pa221]; exact f224, by rw [← qx_l3 (f := fun v => ad201 (10 + v)) pa216 pa217 pa218]; exact (f228.trans ((f210.trans ((f190.trans ((f175.trans ((f160.trans ((f146.trans ((f134.trans (hnu116)))))))))))))), by rw [← qx_l0 (f := fun v => ad201 (1000 + v))]; exact (f229.trans ((f211.trans ((f191.trans ((f176.trans ((f161.trans ((f147.trans (hnu129)))))))))))), by rw [← qx_l0 (f := fun v => ad201 (2000 + v))]; exact (f230.trans ((f212.trans ((f192.trans ((f177.trans (hnu156)))))))), (f231.trans (z206.1)), (f232.trans (z206.2.1)), fun i hi => (hTf i hi).1, fun i hi => (hTf i hi).2.1, fun i hi => (hTf i hi).2.2.1, fun i hi => by have h := ((hTf (i / 4) (by omega)).2.2.2 (i % 4) (by omega)).1; rw [show 4 * (i / 4) + i % 4 = i by omega] at h; exact h, fun i hi => by have h := ((hTf (i / 4) (by omega)).2.2.2 (i % 4) (by omega)).2; rw [show 4 * (i / 4) + i % 4 = i by omega] at h; exact h, fun i hi => ((congrFun hg223 (60 + i)).symm.trans ((va_up_ne _ _ (by omega)).trans rfl)).trans (z206.2.2 i hi), fun i hi => absurd hi (by omega), fun i hi => absurd hi (by omega), ⟨fun i h1 h2 => ((congrFun hg223 (1000 + i)).symm.trans ((va_up_ne _ _ (by omega)).trans ((hfr204 (1000 + i) (by omega) (by omega) (by omega)).trans ((hne185 (1000 + i) (by omega)).trans ((congrFun hg170 (1000 + i)).symm.trans ((va_up_ne _ _ (by omega)).trans ((hne155 (1000 + i) (by omega)).trans ((congrFun hg141 (1000 + i)).symm.trans ((va_up_ne _ _ (by omega)).trans ((hne128 (1000 + i) (by omega)).trans ((hne115 (1000 + i) (by omega)).trans ((hfr101 (1000 + i) (by omega) (by omega) (by omega) (by omega) (by omega)).trans ((hne88 (1000 + i) (by omega)).trans ((hne76 (1000 + i) (by omega)).trans ((hfr64 (1000 + i) (by omega) (by omega) (by omega) (by omega) (by omega)).trans ((hne53 (1000 + i) (by omega)).trans ((hne42 (1000 + i) (by omega)).trans ((hfr32 (1000 + i) (by omega) (by omega) (by omega) (by omega) (by omega)).trans ((hne23 (1000 + i) (by omega)).trans ((congrFun hg13 (1000 + i)).symm.trans ((va_up_ne _ _ (by omega)).trans ((hne8 (1000 + i) (by omega)).trans rfl)))))))))))))))))))))).trans (hf _ (by omega)), fun i h1 h2 => ((congrFun hg223 (2000 + i)).symm.trans ((va_up_ne _ _ (by omega)).trans ((hfr204 (2000 + i) (by omega) (by omega) (by omega)).trans ((hne185 (2000 + i) (by omega)).trans ((congrFun hg170 (2000 + i)).symm.trans ((va_up_ne _ _ (by omega)).trans ((hne155 (2000 + i) (by omega)).trans ((congrFun hg141 (2000 + i)).symm.trans ((va_up_ne _ _ (by omega)).trans ((hne128 (2000 + i) (by omega)).trans ((hne115 (2000 + i) (by omega)).trans ((hfr101 (2000 + i) (by omega) (by omega) (by omega) (by omega) (by omega)).trans ((hne88 (2000 + i) (by omega)).trans ((hne76 (2000 + i) (by omega)).trans ((hfr64 (2000 + i) (by omega) (by omega) (by omega) (by omega) (by omega)).trans ((hne53 (2000 + i) (by omega)).trans ((hne42 (2000 + i) (by omega)).trans ((hfr32 (2000 + i) (by omega) (by omega) (by omega) (by omega) (by omega)).trans ((hne23 (2000 + i) (by omega)).trans ((congrFun hg13 (2000 + i)).symm.trans ((va_up_ne _ _ (by omega)).trans ((hne8 (2000 + i) (by omega)).trans rfl)))))))))))))))))))))).trans (hf _ (by omega))⟩, ⟨rfl, rfl, by omega, by omega⟩⟩, fun t h1 => ((had205 t (by omega) (by omega)).trans ((had184 t (by omega)).trans ((had154 t (by omega)).trans ((had127 t (by omega)).trans ((had102 t (by omega) (by omega) (by omega) (by omega)).trans ((had87 t (by omega)).trans ((had65 t (by omega) (by omega) (by omega) (by omega)).trans ((had52 t (by omega)).trans ((had33 t (by omega) (by omega) (by omega) (by omega)).trans ((had22 t (by omega)).trans ((had7 t (by omega)).trans rfl))))))))))), fun t h1 => ((congrFun hg223 t).symm.trans ((va_up_ne _ _ (by omega)).trans ((hfr204 t (by omega) (by omega) (by omega)).trans ((hne185 t (by omega)).trans ((congrFun hg170 t).symm.trans ((va_up_ne _ _ (by omega)).trans ((hne155 t (by omega)).trans ((congrFun hg141 t).symm.trans ((va_up_ne _ _ (by omega)).trans ((hne128 t (by omega)).trans ((hne115 t (by omega)).trans ((hfr101 t (by omega) (by omega) (by omega) (by omega) (by omega)).trans ((hne88 t (by omega)).trans ((hne76 t (by omega)).trans ((hfr64 t (by omega) (by omega) (by omega) (by omega) (by omega)).trans ((hne53 t (by omega)).trans ((hne42 t (by omega)).trans ((hfr32 t (by omega) (by omega) (by omega) (by omega) (by omega)).trans ((hne23 t (by omega)).trans ((congrFun hg13 t).symm.trans ((va_up_ne _ _ (by omega)).trans ((hne8 t (by omega)).trans rfl))))))))))))))))))))))⟩)
