/-! the model's constructor -/
def qm_0p (D : va_G) (ad : Nat → Nat) (g : qw_G) : Option Value → (Nat → Nat) → qw_G → Prop := fun v' ad' g' => none = v' ∧ qm_P D (fun _ _ => 0) 0 ad' g' ∧ (∀ t, (t ≤ 100 ∨ 118 ≤ t) → ad' t = ad t) ∧ (∀ t, (t < 100 ∨ 118 ≤ t) → g' t = g t)
theorem qz_X7 : ∀ j, j < 20 → defaultValue (tyX7 j) = vp_V [.int 0, .int 0, .int 0, .null, .null, .null, .null, .null, .null, .int 0, .null, .null, .null, .null, .null, .null, .null, .null, .int 0, .int 0] j := fun j hj => match j, hj with | 0, _ => rfl | 1, _ => rfl | 2, _ => rfl | 3, _ => rfl | 4, _ => rfl | 5, _ => rfl | 6, _ => rfl | 7, _ => rfl | 8, _ => rfl | 9, _ => rfl | 10, _ => rfl | 11, _ => rfl | 12, _ => rfl | 13, _ => rfl | 14, _ => rfl | 15, _ => rfl | 16, _ => rfl | 17, _ => rfl | 18, _ => rfl | 19, _ => rfl | n + 20, h => absurd h (by omega)
set_option maxRecDepth 20000 in
theorem gcn_X7 : (Cond.instantiable RX7 20) ∈ qw_Ts ∧ (Cond.initialized RX7) ∈ qw_Ts := by decide +kernel
set_option maxHeartbeats 4000000 in
set_option maxRecDepth 100000 in
theorem k_X7_init {l : Launch} (hst : l.stackTraces = false) (D : va_G) (ad : Nat → Nat) (g : qw_G) (a : Nat) (ha : ad 100 = a) (hu : g 100 = some (.inr (6, [.int 0, .int 0, .int 0, .null, .null, .null, .null, .null, .null, .int 0, .null, .null, .null, .null, .null, .null, .null, .null, .int 0, .int 0]))) (hf : ∀ t, 100 < t ∧ t < 118 → g t = none) : qw_M l yX7_init [Cond.code yX7_init cX7_init 1 none] { frames := 1, cells := 14, slots := 839, locals := 60 } D ad g [(.ref a)] (qm_0p D ad g) 14 839 := by
  refine qw_M.of (maxL := 1) (own := RX7) (lv := [(0, (.ref a))]) hst (by decide) rfl rfl (Nat.le_of_ble_eq_true rfl) ?_
  intro p e s m args below meth c A C hin
  refine qr_aload_n C dX7_init_0 rfl 0 rfl ?_
  refine qr_obj C go_X7.1 go_X7.2.1 go_X7.2.2 (Nat.le_of_ble_eq_true rfl) (Nat.le_of_ble_eq_true rfl) dX7_init_1 ?_
  refine qr_aload_n C dX7_init_4 rfl 0 rfl ?_
  refine qr_bipush (v := 120) C dX7_init_5 (by decide) ?_
  refine qr_newI C gA_int (N := 120) rfl rfl (103) (rfl.trans ((hf _ (by omega)))) (Nat.le_of_ble_eq_true rfl) (Nat.le_of_ble_eq_true rfl) dX7_init_7 ?_
  intro q1
  generalize hA3 : va_up ad (103) q1 = ad2
  have hq6 : ad2 (103) = q1 := by rw [← hA3]; exact va_up_self _ _ _
  have had7 : ∀ t, t ≠ 103 → ad2 t = ad t := fun t ht => by rw [← hA3]; exact va_up_ne _ _ ht
  generalize hgn5 : va_up g (103) _ = gn4
  have hne8 : ∀ t, t ≠ 103 → gn4 t = g t := fun t ht => by rw [← hgn5]; exact va_up_ne _ _ ht
  have hnu9 : gn4 (103) = some (.inl (D.1 20, 120, .inl (fun _ => 0))) := by rw [← hgn5]; exact va_up_self _ _ _
  have f10 : gn4 (100) = g (100) := hne8 (100) (by omega)
  have pa11 : ad2 (100) = a := (had7 (100) (by omega)).trans ha
  refine pf_X7_7 C hin (100) ((f10.trans (hu))) pa11 rfl rfl (Nat.le_of_ble_eq_true rfl) rfl dX7_init_9 ?_
  generalize hg13 : va_up gn4 (100) _ = g12
  have f14 : g12 (100) = some (.inr (6, [(.int 0), (.int 0), (.int 0), (.ref q1), .null, .null, .null, .null, .null, (.int 0), .null, .null, .null, .null, .null, .null, .null, .null, (.int 0), (.int 0)])) := by rw [← hg13]; exact va_up_self _ _ _
  have f15 : g12 (103) = gn4 (103) := by rw [← hg13]; exact va_up_ne _ _ (by omega)
  refine qr_aload_n C dX7_init_12 rfl 0 rfl ?_
  refine qr_bipush (v := 120) C dX7_init_13 (by decide) ?_
  refine qr_newI C gA_int (N := 120) rfl rfl (104) (((congrFun hg13 (104)).symm.trans ((va_up_ne _ _ (by omega)).trans ((hne8 (104) (by omega)).trans rfl))).trans ((hf _ (by omega)))) (Nat.le_of_ble_eq_true rfl) (Nat.le_of_ble_eq_true rfl) dX7_init_15 ?_
  intro q16
  generalize hA18 : va_up ad2 (104) q16 = ad17
  have hq21 : ad17 (104) = q16 := by rw [← hA18]; exact va_up_self _ _ _
  have had22 : ∀ t, t ≠ 104 → ad17 t = ad2 t := fun t ht => by rw [← hA18]; exact va_up_ne _ _ ht
  generalize hgn20 : va_up g12 (104) _ = gn19
  have hne23 : ∀ t, t ≠ 104 → gn19 t = g12 t := fun t ht => by rw [← hgn20]; exact va_up_ne _ _ ht
  have hnu24 : gn19 (104) = some (.inl (D.1 20, 120, .inl (fun _ => 0))) := by rw [← hgn20]; exact va_up_self _ _ _
  have f25 : gn19 (103) = g12 (103) := hne23 (103) (by omega)
  have f26 : gn19 (100) = g12 (100) := hne23 (100) (by omega)
  have pa27 : ad17 (100) = a := (had22 (100) (by omega)).trans pa11
  have pa28 : ad17 (103) = q1 := (had22 (103) (by omega)).trans hq6
  refine pf_X7_13 C hin (100) ((f26.trans (f14))) pa27 rfl rfl (Nat.le_of_ble_eq_true rfl) rfl dX7_init_17 ?_
  generalize hg30 : va_up gn19 (100) _ = g29
  have f31 : g29 (100) = some (.inr (6, [(.int 0), (.int 0), (.int 0), (.ref q1), (.ref q16), .null, .null, .null, .null, (.int 0), .null, .null, .null, .null, .null, .null, .null, .null, (.int 0), (.int 0)])) := by rw [← hg30]; exact va_up_self _ _ _
  have f32 : g29 (103) = gn19 (103) := by rw [← hg30]; exact va_up_ne _ _ (by omega)
  have f33 : g29 (104) = gn19 (104) := by rw [← hg30]; exact va_up_ne _ _ (by omega)
  refine qr_aload_n C dX7_init_20 rfl 0 rfl ?_
  refine qr_bipush (v := 120) C dX7_init_21 (by decide) ?_
  refine qr_newI C gA_int (N := 120) rfl rfl (105) (((congrFun hg30 (105)).symm.trans ((va_up_ne _ _ (by omega)).trans ((hne23 (105) (by omega)).trans ((congrFun hg13 (105)).symm.trans ((va_up_ne _ _ (by omega)).trans ((hne8 (105) (by omega)).trans rfl)))))).trans ((hf _ (by omega)))) (Nat.le_of_ble_eq_true rfl) (Nat.le_of_ble_eq_true rfl) dX7_init_23 ?_
  intro q34
  generalize hA36 : va_up ad17 (105) q34 = ad35
  have hq39 : ad35 (105) = q34 := by rw [← hA36]; exact va_up_self _ _ _
  have had40 : ∀ t, t ≠ 105 → ad35 t = ad17 t := fun t ht => by rw [← hA36]; exact va_up_ne _ _ ht
  generalize hgn38 : va_up g29 (105) _ = gn37
  have hne41 : ∀ t, t ≠ 105 → gn37 t = g29 t := fun t ht => by rw [← hgn38]; exact va_up_ne _ _ ht
  have hnu42 : gn37 (105) = some (.inl (D.1 20, 120, .inl (fun _ => 0))) := by rw [← hgn38]; exact va_up_self _ _ _
  have f43 : gn37 (103) = g29 (103) := hne41 (103) (by omega)
  have f44 : gn37 (104) = g29 (104) := hne41 (104) (by omega)
  have f45 : gn37 (100) = g29 (100) := hne41 (100) (by omega)
  have pa46 : ad35 (100) = a := (had40 (100) (by omega)).trans pa27
  have pa47 : ad35 (103) = q1 := (had40 (103) (by omega)).trans pa28
  have pa48 : ad35 (104) = q16 := (had40 (104) (by omega)).trans hq21
  refine pf_X7_16 C hin (100) ((f45.trans (f31))) pa46 rfl rfl (Nat.le_of_ble_eq_true rfl) rfl dX7_init_25 ?_
  generalize hg50 : va_up gn37 (100) _ = g49
  have f51 : g49 (100) = some (.inr (6, [(.int 0), (.int 0), (.int 0), (.ref q1), (.ref q16), (.ref q34), .null, .null, .null, (.int 0), .null, .null, .null, .null, .null, .null, .null, .null, (.int 0), (.int 0)])) := by rw [← hg50]; exact va_up_self _ _ _
  have f52 : g49 (103) = gn37 (103) := by rw [← hg50]; exact va_up_ne _ _ (by omega)
  have f53 : g49 (104) = gn37 (104) := by rw [← hg50]; exact va_up_ne _ _ (by omega)
  have f54 : g49 (105) = gn37 (105) := by rw [← hg50]; exact va_up_ne _ _ (by omega)
  refine qr_aload_n C dX7_init_28 rfl 0 rfl ?_
  refine qr_bipush (v := 120) C dX7_init_29 (by decide) ?_
  refine qr_newI C gA_int (N := 120) rfl rfl (106) (((congrFun hg50 (106)).symm.trans ((va_up_ne _ _ (by omega)).trans ((hne41 (106) (by omega)).trans ((congrFun hg30 (106)).symm.trans ((va_up_ne _ _ (by omega)).trans ((hne23 (106) (by omega)).trans ((congrFun hg13 (106)).symm.trans ((va_up_ne _ _ (by omega)).trans ((hne8 (106) (by omega)).trans rfl))))))))).trans ((hf _ (by omega)))) (Nat.le_of_ble_eq_true rfl) (Nat.le_of_ble_eq_true rfl) dX7_init_31 ?_
  intro q55
  generalize hA57 : va_up ad35 (106) q55 = ad56
  have hq60 : ad56 (106) = q55 := by rw [← hA57]; exact va_up_self _ _ _
  have had61 : ∀ t, t ≠ 106 → ad56 t = ad35 t := fun t ht => by rw [← hA57]; exact va_up_ne _ _ ht
  generalize hgn59 : va_up g49 (106) _ = gn58
  have hne62 : ∀ t, t ≠ 106 → gn58 t = g49 t := fun t ht => by rw [← hgn59]; exact va_up_ne _ _ ht
  have hnu63 : gn58 (106) = some (.inl (D.1 20, 120, .inl (fun _ => 0))) := by rw [← hgn59]; exact va_up_self _ _ _
  have f64 : gn58 (103) = g49 (103) := hne62 (103) (by omega)
  have f65 : gn58 (104) = g49 (104) := hne62 (104) (by omega)
  have f66 : gn58 (105) = g49 (105) := hne62 (105) (by omega)
  have f67 : gn58 (100) = g49 (100) := hne62 (100) (by omega)
  have pa68 : ad56 (100) = a := (had61 (100) (by omega)).trans pa46
  have pa69 : ad56 (103) = q1 := (had61 (103) (by omega)).trans pa47
  have pa70 : ad56 (104) = q16 := (had61 (104) (by omega)).trans pa48
  have pa71 : ad56 (105) = q34 := (had61 (105) (by omega)).trans hq39
  refine pf_X7_19 C hin (100) ((f67.trans (f51))) pa68 rfl rfl (Nat.le_of_ble_eq_true rfl) rfl dX7_init_33 ?_
  generalize hg73 : va_up gn58 (100) _ = g72
  have f74 : g72 (100) = some (.inr (6, [(.int 0), (.int 0), (.int 0), (.ref q1), (.ref q16), (.ref q34), (.ref q55), .null, .null, (.int 0), .null, .null, .null, .null, .null, .null, .null, .null, (.int 0), (.int 0)])) := by rw [← hg73]; exact va_up_self _ _ _
  have f75 : g72 (103) = gn58 (103) := by rw [← hg73]; exact va_up_ne _ _ (by omega)
  have f76 : g72 (104) = gn58 (104) := by rw [← hg73]; exact va_up_ne _ _ (by omega)
  have f77 : g72 (105) = gn58 (105) := by rw [← hg73]; exact va_up_ne _ _ (by omega)
  have f78 : g72 (106) = gn58 (106) := by rw [← hg73]; exact va_up_ne _ _ (by omega)
  refine qr_aload_n C dX7_init_36 rfl 0 rfl ?_
  refine qr_bipush (v := 120) C dX7_init_37 (by decide) ?_
  refine qr_newZ C gA_boolean (N := 120) rfl rfl (107) (((congrFun hg73 (107)).symm.trans ((va_up_ne _ _ (by omega)).trans ((hne62 (107) (by omega)).trans ((congrFun hg50 (107)).symm.trans ((va_up_ne _ _ (by omega)).trans ((hne41 (107) (by omega)).trans ((congrFun hg30 (107)).symm.trans ((va_up_ne _ _ (by omega)).trans ((hne23 (107) (by omega)).trans ((congrFun hg13 (107)).symm.trans ((va_up_ne _ _ (by omega)).trans ((hne8 (107) (by omega)).trans rfl)))))))))))).trans ((hf _ (by omega)))) (Nat.le_of_ble_eq_true rfl) (Nat.le_of_ble_eq_true rfl) dX7_init_39 ?_
  intro q79
  generalize hA81 : va_up ad56 (107) q79 = ad80
  have hq84 : ad80 (107) = q79 := by rw [← hA81]; exact va_up_self _ _ _
  have had85 : ∀ t, t ≠ 107 → ad80 t = ad56 t := fun t ht => by rw [← hA81]; exact va_up_ne _ _ ht
  generalize hgn83 : va_up g72 (107) _ = gn82
  have hne86 : ∀ t, t ≠ 107 → gn82 t = g72 t := fun t ht => by rw [← hgn83]; exact va_up_ne _ _ ht
  have hnu87 : gn82 (107) = some (.inl (D.1 21, 120, .inl (fun _ => 0))) := by rw [← hgn83]; exact va_up_self _ _ _
  have f88 : gn82 (103) = g72 (103) := hne86 (103) (by omega)
  have f89 : gn82 (104) = g72 (104) := hne86 (104) (by omega)
  have f90 : gn82 (105) = g72 (105) := hne86 (105) (by omega)
  have f91 : gn82 (106) = g72 (106) := hne86 (106) (by omega)
  have f92 : gn82 (100) = g72 (100) := hne86 (100) (by omega)
  have pa93 : ad80 (100) = a := (had85 (100) (by omega)).trans pa68
  have pa94 : ad80 (103) = q1 := (had85 (103) (by omega)).trans pa69
  have pa95 : ad80 (104) = q16 := (had85 (104) (by omega)).trans pa70
  have pa96 : ad80 (105) = q34 := (had85 (105) (by omega)).trans pa71
  have pa97 : ad80 (106) = q55 := (had85 (106) (by omega)).trans hq60
  refine pf_X7_22 C hin (100) ((f92.trans (f74))) pa93 rfl rfl (Nat.le_of_ble_eq_true rfl) rfl dX7_init_41 ?_
  generalize hg99 : va_up gn82 (100) _ = g98
  have f100 : g98 (100) = some (.inr (6, [(.int 0), (.int 0), (.int 0), (.ref q1), (.ref q16), (.ref q34), (.ref q55), (.ref q79), .null, (.int 0), .null, .null, .null, .null, .null, .null, .null, .null, (.int 0), (.int 0)])) := by rw [← hg99]; exact va_up_self _ _ _
  have f101 : g98 (103) = gn82 (103) := by rw [← hg99]; exact va_up_ne _ _ (by omega)
  have f102 : g98 (104) = gn82 (104) := by rw [← hg99]; exact va_up_ne _ _ (by omega)
  have f103 : g98 (105) = gn82 (105) := by rw [← hg99]; exact va_up_ne _ _ (by omega)
  have f104 : g98 (106) = gn82 (106) := by rw [← hg99]; exact va_up_ne _ _ (by omega)
  have f105 : g98 (107) = gn82 (107) := by rw [← hg99]; exact va_up_ne _ _ (by omega)
  refine qr_aload_n C dX7_init_44 rfl 0 rfl ?_
  refine qr_iconst (v := 3) C dX7_init_45 (by decide) ?_
  refine qr_newZ C gA_boolean (N := 3) rfl rfl (108) (((congrFun hg99 (108)).symm.trans ((va_up_ne _ _ (by omega)).trans ((hne86 (108) (by omega)).trans ((congrFun hg73 (108)).symm.trans ((va_up_ne _ _ (by omega)).trans ((hne62 (108) (by omega)).trans ((congrFun hg50 (108)).symm.trans ((va_up_ne _ _ (by omega)).trans ((hne41 (108) (by omega)).trans ((congrFun hg30 (108)).symm.trans ((va_up_ne _ _ (by omega)).trans ((hne23 (108) (by omega)).trans ((congrFun hg13 (108)).symm.trans ((va_up_ne _ _ (by omega)).trans ((hne8 (108) (by omega)).trans rfl))))))))))))))).trans ((hf _ (by omega)))) (Nat.le_of_ble_eq_true rfl) (Nat.le_of_ble_eq_true rfl) dX7_init_46 ?_
  intro q106
  generalize hA108 : va_up ad80 (108) q106 = ad107
  have hq111 : ad107 (108) = q106 := by rw [← hA108]; exact va_up_self _ _ _
  have had112 : ∀ t, t ≠ 108 → ad107 t = ad80 t := fun t ht => by rw [← hA108]; exact va_up_ne _ _ ht
  generalize hgn110 : va_up g98 (108) _ = gn109
  have hne113 : ∀ t, t ≠ 108 → gn109 t = g98 t := fun t ht => by rw [← hgn110]; exact va_up_ne _ _ ht
  have hnu114 : gn109 (108) = some (.inl (D.1 21, 3, .inl (fun _ => 0))) := by rw [← hgn110]; exact va_up_self _ _ _
  have f115 : gn109 (103) = g98 (103) := hne113 (103) (by omega)
  have f116 : gn109 (104) = g98 (104) := hne113 (104) (by omega)
  have f117 : gn109 (105) = g98 (105) := hne113 (105) (by omega)
  have f118 : gn109 (106) = g98 (106) := hne113 (106) (by omega)
  have f119 : gn109 (107) = g98 (107) := hne113 (107) (by omega)
  have f120 : gn109 (100) = g98 (100) := hne113 (100) (by omega)
  have pa121 : ad107 (100) = a := (had112 (100) (by omega)).trans pa93
  have pa122 : ad107 (103) = q1 := (had112 (103) (by omega)).trans pa94
  have pa123 : ad107 (104) = q16 := (had112 (104) (by omega)).trans pa95
  have pa124 : ad107 (105) = q34 := (had112 (105) (by omega)).trans pa96
  have pa125 : ad107 (106) = q55 := (had112 (106) (by omega)).trans pa97
  have pa126 : ad107 (107) = q79 := (had112 (107) (by omega)).trans hq84
  refine pf_X7_26 C hin (100) ((f120.trans (f100))) pa121 rfl rfl (Nat.le_of_ble_eq_true rfl) rfl dX7_init_48 ?_
  generalize hg128 : va_up gn109 (100) _ = g127
  have f129 : g127 (100) = some (.inr (6, [(.int 0), (.int 0), (.int 0), (.ref q1), (.ref q16), (.ref q34), (.ref q55), (.ref q79), (.ref q106), (.int 0), .null, .null, .null, .null, .null, .null, .null, .null, (.int 0), (.int 0)])) := by rw [← hg128]; exact va_up_self _ _ _
  have f130 : g127 (103) = gn109 (103) := by rw [← hg128]; exact va_up_ne _ _ (by omega)
  have f131 : g127 (104) = gn109 (104) := by rw [← hg128]; exact va_up_ne _ _ (by omega)
  have f132 : g127 (105) = gn109 (105) := by rw [← hg128]; exact va_up_ne _ _ (by omega)
  have f133 : g127 (106) = gn109 (106) := by rw [← hg128]; exact va_up_ne _ _ (by omega)
  have f134 : g127 (107) = gn109 (107) := by rw [← hg128]; exact va_up_ne _ _ (by omega)
  have f135 : g127 (108) = gn109 (108) := by rw [← hg128]; exact va_up_ne _ _ (by omega)
  refine qr_aload_n C dX7_init_51 rfl 0 rfl ?_
  refine qr_bipush (v := 40) C dX7_init_52 (by decide) ?_
  refine qr_newI C gA_int (N := 40) rfl rfl (110) (((congrFun hg128 (110)).symm.trans ((va_up_ne _ _ (by omega)).trans ((hne113 (110) (by omega)).trans ((congrFun hg99 (110)).symm.trans ((va_up_ne _ _ (by omega)).trans ((hne86 (110) (by omega)).trans ((congrFun hg73 (110)).symm.trans ((va_up_ne _ _ (by omega)).trans ((hne62 (110) (by omega)).trans ((congrFun hg50 (110)).symm.trans ((va_up_ne _ _ (by omega)).trans ((hne41 (110) (by omega)).trans ((congrFun hg30 (110)).symm.trans ((va_up_ne _ _ (by omega)).trans ((hne23 (110) (by omega)).trans ((congrFun hg13 (110)).symm.trans ((va_up_ne _ _ (by omega)).trans ((hne8 (110) (by omega)).trans rfl)))))))))))))))))).trans ((hf _ (by omega)))) (Nat.le_of_ble_eq_true rfl) (Nat.le_of_ble_eq_true rfl) dX7_init_54 ?_
  intro q136
  generalize hA138 : va_up ad107 (110) q136 = ad137
  have hq141 : ad137 (110) = q136 := by rw [← hA138]; exact va_up_self _ _ _
  have had142 : ∀ t, t ≠ 110 → ad137 t = ad107 t := fun t ht => by rw [← hA138]; exact va_up_ne _ _ ht
  generalize hgn140 : va_up g127 (110) _ = gn139
  have hne143 : ∀ t, t ≠ 110 → gn139 t = g127 t := fun t ht => by rw [← hgn140]; exact va_up_ne _ _ ht
  have hnu144 : gn139 (110) = some (.inl (D.1 20, 40, .inl (fun _ => 0))) := by rw [← hgn140]; exact va_up_self _ _ _
  have f145 : gn139 (103) = g127 (103) := hne143 (103) (by omega)
  have f146 : gn139 (104) = g127 (104) := hne143 (104) (by omega)
  have f147 : gn139 (105) = g127 (105) := hne143 (105) (by omega)
  have f148 : gn139 (106) = g127 (106) := hne143 (106) (by omega)
  have f149 : gn139 (107) = g127 (107) := hne143 (107) (by omega)
  have f150 : gn139 (108) = g127 (108) := hne143 (108) (by omega)
  have f151 : gn139 (100) = g127 (100) := hne143 (100) (by omega)
  have pa152 : ad137 (100) = a := (had142 (100) (by omega)).trans pa121
  have pa153 : ad137 (103) = q1 := (had142 (103) (by omega)).trans pa122
  have pa154 : ad137 (104) = q16 := (had142 (104) (by omega)).trans pa123
  have pa155 : ad137 (105) = q34 := (had142 (105) (by omega)).trans pa124
  have pa156 : ad137 (106) = q55 := (had142 (106) (by omega)).trans pa125
  have pa157 : ad137 (107) = q79 := (had142 (107) (by omega)).trans pa126
  have pa158 : ad137 (108) = q106 := (had142 (108) (by omega)).trans hq111
  refine pf_X7_29 C hin (100) ((f151.trans (f129))) pa152 rfl rfl (Nat.le_of_ble_eq_true rfl) rfl dX7_init_56 ?_
  generalize hg160 : va_up gn139 (100) _ = g159
  have f161 : g159 (100) = some (.inr (6, [(.int 0), (.int 0), (.int 0), (.ref q1), (.ref q16), (.ref q34), (.ref q55), (.ref q79), (.ref q106), (.int 0), (.ref q136), .null, .null, .null, .null, .null, .null, .null, (.int 0), (.int 0)])) := by rw [← hg160]; exact va_up_self _ _ _
  have f162 : g159 (103) = gn139 (103) := by rw [← hg160]; exact va_up_ne _ _ (by omega)
  have f163 : g159 (104) = gn139 (104) := by rw [← hg160]; exact va_up_ne _ _ (by omega)
  have f164 : g159 (105) = gn139 (105) := by rw [← hg160]; exact va_up_ne _ _ (by omega)
  have f165 : g159 (106) = gn139 (106) := by rw [← hg160]; exact va_up_ne _ _ (by omega)
  have f166 : g159 (107) = gn139 (107) := by rw [← hg160]; exact va_up_ne _ _ (by omega)
  have f167 : g159 (108) = gn139 (108) := by rw [← hg160]; exact va_up_ne _ _ (by omega)
  have f168 : g159 (110) = gn139 (110) := by rw [← hg160]; exact va_up_ne _ _ (by omega)
  refine qr_aload_n C dX7_init_59 rfl 0 rfl ?_
  refine qr_bipush (v := 40) C dX7_init_60 (by decide) ?_
  refine qr_newI C gA_int (N := 40) rfl rfl (111) (((congrFun hg160 (111)).symm.trans ((va_up_ne _ _ (by omega)).trans ((hne143 (111) (by omega)).trans ((congrFun hg128 (111)).symm.trans ((va_up_ne _ _ (by omega)).trans ((hne113 (111) (by omega)).trans ((congrFun hg99 (111)).symm.trans ((va_up_ne _ _ (by omega)).trans ((hne86 (111) (by omega)).trans ((congrFun hg73 (111)).symm.trans ((va_up_ne _ _ (by omega)).trans ((hne62 (111) (by omega)).trans ((congrFun hg50 (111)).symm.trans ((va_up_ne _ _ (by omega)).trans ((hne41 (111) (by omega)).trans ((congrFun hg30 (111)).symm.trans ((va_up_ne _ _ (by omega)).trans ((hne23 (111) (by omega)).trans ((congrFun hg13 (111)).symm.trans ((va_up_ne _ _ (by omega)).trans ((hne8 (111) (by omega)).trans rfl))))))))))))))))))))).trans ((hf _ (by omega)))) (Nat.le_of_ble_eq_true rfl) (Nat.le_of_ble_eq_true rfl) dX7_init_62 ?_
  intro q169
  generalize hA171 : va_up ad137 (111) q169 = ad170
  have hq174 : ad170 (111) = q169 := by rw [← hA171]; exact va_up_self _ _ _
  have had175 : ∀ t, t ≠ 111 → ad170 t = ad137 t := fun t ht => by rw [← hA171]; exact va_up_ne _ _ ht
  generalize hgn173 : va_up g159 (111) _ = gn172
  have hne176 : ∀ t, t ≠ 111 → gn172 t = g159 t := fun t ht => by rw [← hgn173]; exact va_up_ne _ _ ht
  have hnu177 : gn172 (111) = some (.inl (D.1 20, 40, .inl (fun _ => 0))) := by rw [← hgn173]; exact va_up_self _ _ _
  have f178 : gn172 (103) = g159 (103) := hne176 (103) (by omega)
  have f179 : gn172 (104) = g159 (104) := hne176 (104) (by omega)
  have f180 : gn172 (105) = g159 (105) := hne176 (105) (by omega)
  have f181 : gn172 (106) = g159 (106) := hne176 (106) (by omega)
  have f182 : gn172 (107) = g159 (107) := hne176 (107) (by omega)
  have f183 : gn172 (108) = g159 (108) := hne176 (108) (by omega)
  have f184 : gn172 (110) = g159 (110) := hne176 (110) (by omega)
  have f185 : gn172 (100) = g159 (100) := hne176 (100) (by omega)
  have pa186 : ad170 (100) = a := (had175 (100) (by omega)).trans pa152
  have pa187 : ad170 (103) = q1 := (had175 (103) (by omega)).trans pa153
  have pa188 : ad170 (104) = q16 := (had175 (104) (by omega)).trans pa154
  have pa189 : ad170 (105) = q34 := (had175 (105) (by omega)).trans pa155
  have pa190 : ad170 (106) = q55 := (had175 (106) (by omega)).trans pa156
  have pa191 : ad170 (107) = q79 := (had175 (107) (by omega)).trans pa157
  have pa192 : ad170 (108) = q106 := (had175 (108) (by omega)).trans pa158
  have pa193 : ad170 (110) = q136 := (had175 (110) (by omega)).trans hq141
  refine pf_X7_32 C hin (100) ((f185.trans (f161))) pa186 rfl rfl (Nat.le_of_ble_eq_true rfl) rfl dX7_init_64 ?_
  generalize hg195 : va_up gn172 (100) _ = g194
  have f196 : g194 (100) = some (.inr (6, [(.int 0), (.int 0), (.int 0), (.ref q1), (.ref q16), (.ref q34), (.ref q55), (.ref q79), (.ref q106), (.int 0), (.ref q136), (.ref q169), .null, .null, .null, .null, .null, .null, (.int 0), (.int 0)])) := by rw [← hg195]; exact va_up_self _ _ _
  have f197 : g194 (103) = gn172 (103) := by rw [← hg195]; exact va_up_ne _ _ (by omega)
  have f198 : g194 (104) = gn172 (104) := by rw [← hg195]; exact va_up_ne _ _ (by omega)
  have f199 : g194 (105) = gn172 (105) := by rw [← hg195]; exact va_up_ne _ _ (by omega)
  have f200 : g194 (106) = gn172 (106) := by rw [← hg195]; exact va_up_ne _ _ (by omega)
  have f201 : g194 (107) = gn172 (107) := by rw [← hg195]; exact va_up_ne _ _ (by omega)
  have f202 : g194 (108) = gn172 (108) := by rw [← hg195]; exact va_up_ne _ _ (by omega)
  have f203 : g194 (110) = gn172 (110) := by rw [← hg195]; exact va_up_ne _ _ (by omega)
  have f204 : g194 (111) = gn172 (111) := by rw [← hg195]; exact va_up_ne _ _ (by omega)
  refine qr_aload_n C dX7_init_67 rfl 0 rfl ?_
  refine qr_bipush (v := 40) C dX7_init_68 (by decide) ?_
  refine qr_newI C gA_int (N := 40) rfl rfl (112) (((congrFun hg195 (112)).symm.trans ((va_up_ne _ _ (by omega)).trans ((hne176 (112) (by omega)).trans ((congrFun hg160 (112)).symm.trans ((va_up_ne _ _ (by omega)).trans ((hne143 (112) (by omega)).trans ((congrFun hg128 (112)).symm.trans ((va_up_ne _ _ (by omega)).trans ((hne113 (112) (by omega)).trans ((congrFun hg99 (112)).symm.trans ((va_up_ne _ _ (by omega)).trans ((hne86 (112) (by omega)).trans ((congrFun hg73 (112)).symm.trans ((va_up_ne _ _ (by omega)).trans ((hne62 (112) (by omega)).trans ((congrFun hg50 (112)).symm.trans ((va_up_ne _ _ (by omega)).trans ((hne41 (112) (by omega)).trans ((congrFun hg30 (112)).symm.trans ((va_up_ne _ _ (by omega)).trans ((hne23 (112) (by omega)).trans ((congrFun hg13 (112)).symm.trans ((va_up_ne _ _ (by omega)).trans ((hne8 (112) (by omega)).trans rfl)))))))))))))))))))))))).trans ((hf _ (by omega)))) (Nat.le_of_ble_eq_true rfl) (Nat.le_of_ble_eq_true rfl) dX7_init_70 ?_
  intro q205
  generalize hA207 : va_up ad170 (112) q205 = ad206
  have hq210 : ad206 (112) = q205 := by rw [← hA207]; exact va_up_self _ _ _
  have had211 : ∀ t, t ≠ 112 → ad206 t = ad170 t := fun t ht => by rw [← hA207]; exact va_up_ne _ _ ht
  generalize hgn209 : va_up g194 (112) _ = gn208
  have hne212 : ∀ t, t ≠ 112 → gn208 t = g194 t := fun t ht => by rw [← hgn209]; exact va_up_ne _ _ ht
  have hnu213 : gn208 (112) = some (.inl (D.1 20, 40, .inl (fun _ => 0))) := by rw [← hgn209]; exact va_up_self _ _ _
  have f214 : gn208 (103) = g194 (103) := hne212 (103) (by omega)
  have f215 : gn208 (104) = g194 (104) := hne212 (104) (by omega)
  have f216 : gn208 (105) = g194 (105) := hne212 (105) (by omega)
  have f217 : gn208 (106) = g194 (106) := hne212 (106) (by omega)
  have f218 : gn208 (107) = g194 (107) := hne212 (107) (by omega)
  have f219 : gn208 (108) = g194 (108) := hne212 (108) (by omega)
  have f220 : gn208 (110) = g194 (110) := hne212 (110) (by omega)
  have f221 : gn208 (111) = g194 (111) := hne212 (111) (by omega)
  have f222 : gn208 (100) = g194 (100) := hne212 (100) (by omega)
  have pa223 : ad206 (100) = a := (had211 (100) (by omega)).trans pa186
  have pa224 : ad206 (103) = q1 := (had211 (103) (by omega)).trans pa187
  have pa225 : ad206 (104) = q16 := (had211 (104) (by omega)).trans pa188
  have pa226 : ad206 (105) = q34 := (had211 (105) (by omega)).trans pa189
  have pa227 : ad206 (106) = q55 := (had211 (106) (by omega)).trans pa190
  have pa228 : ad206 (107) = q79 := (had211 (107) (by omega)).trans pa191
  have pa229 : ad206 (108) = q106 := (had211 (108) (by omega)).trans pa192
  have pa230 : ad206 (110) = q136 := (had211 (110) (by omega)).trans pa193
  have pa231 : ad206 (111) = q169 := (had211 (111) (by omega)).trans hq174
  refine pf_X7_35 C hin (100) ((f222.trans (f196))) pa223 rfl rfl (Nat.le_of_ble_eq_true rfl) rfl dX7_init_72 ?_
  generalize hg233 : va_up gn208 (100) _ = g232
  have f234 : g232 (100) = some (.inr (6, [(.int 0), (.int 0), (.int 0), (.ref q1), (.ref q16), (.ref q34), (.ref q55), (.ref q79), (.ref q106), (.int 0), (.ref q136), (.ref q169), (.ref q205), .null, .null, .null, .null, .null, (.int 0), (.int 0)])) := by rw [← hg233]; exact va_up_self _ _ _
  have f235 : g232 (103) = gn208 (103) := by rw [← hg233]; exact va_up_ne _ _ (by omega)
  have f236 : g232 (104) = gn208 (104) := by rw [← hg233]; exact va_up_ne _ _ (by omega)
  have f237 : g232 (105) = gn208 (105) := by rw [← hg233]; exact va_up_ne _ _ (by omega)
  have f238 : g232 (106) = gn208 (106) := by rw [← hg233]; exact va_up_ne _ _ (by omega)
  have f239 : g232 (107) = gn208 (107) := by rw [← hg233]; exact va_up_ne _ _ (by omega)
  have f240 : g232 (108) = gn208 (108) := by rw [← hg233]; exact va_up_ne _ _ (by omega)
  have f241 : g232 (110) = gn208 (110) := by rw [← hg233]; exact va_up_ne _ _ (by omega)
  have f242 : g232 (111) = gn208 (111) := by rw [← hg233]; exact va_up_ne _ _ (by omega)
  have f243 : g232 (112) = gn208 (112) := by rw [← hg233]; exact va_up_ne _ _ (by omega)
  refine qr_aload_n C dX7_init_75 rfl 0 rfl ?_
  refine qr_bipush (v := 40) C dX7_init_76 (by decide) ?_
  refine qr_newI C gA_int (N := 40) rfl rfl (113) (((congrFun hg233 (113)).symm.trans ((va_up_ne _ _ (by omega)).trans ((hne212 (113) (by omega)).trans ((congrFun hg195 (113)).symm.trans ((va_up_ne _ _ (by omega)).trans ((hne176 (113) (by omega)).trans ((congrFun hg160 (113)).symm.trans ((va_up_ne _ _ (by omega)).trans ((hne143 (113) (by omega)).trans ((congrFun hg128 (113)).symm.trans ((va_up_ne _ _ (by omega)).trans ((hne113 (113) (by omega)).trans ((congrFun hg99 (113)).symm.trans ((va_up_ne _ _ (by omega)).trans ((hne86 (113) (by omega)).trans ((congrFun hg73 (113)).symm.trans ((va_up_ne _ _ (by omega)).trans ((hne62 (113) (by omega)).trans ((congrFun hg50 (113)).symm.trans ((va_up_ne _ _ (by omega)).trans ((hne41 (113) (by omega)).trans ((congrFun hg30 (113)).symm.trans ((va_up_ne _ _ (by omega)).trans ((hne23 (113) (by omega)).trans ((congrFun hg13 (113)).symm.trans ((va_up_ne _ _ (by omega)).trans ((hne8 (113) (by omega)).trans rfl))))))))))))))))))))))))))).trans ((hf _ (by omega)))) (Nat.le_of_ble_eq_true rfl) (Nat.le_of_ble_eq_true rfl) dX7_init_78 ?_
  intro q244
  generalize hA246 : va_up ad206 (113) q244 = ad245
  have hq249 : ad245 (113) = q244 := by rw [← hA246]; exact va_up_self _ _ _
  have had250 : ∀ t, t ≠ 113 → ad245 t = ad206 t := fun t ht => by rw [← hA246]; exact va_up_ne _ _ ht
  generalize hgn248 : va_up g232 (113) _ = gn247
  have hne251 : ∀ t, t ≠ 113 → gn247 t = g232 t := fun t ht => by rw [← hgn248]; exact va_up_ne _ _ ht
  have hnu252 : gn247 (113) = some (.inl (D.1 20, 40, .inl (fun _ => 0))) := by rw [← hgn248]; exact va_up_self _ _ _
  have f253 : gn247 (103) = g232 (103) := hne251 (103) (by omega)
  have f254 : gn247 (104) = g232 (104) := hne251 (104) (by omega)
  have f255 : gn247 (105) = g232 (105) := hne251 (105) (by omega)
  have f256 : gn247 (106) = g232 (106) := hne251 (106) (by omega)
  have f257 : gn247 (107) = g232 (107) := hne251 (107) (by omega)
  have f258 : gn247 (108) = g232 (108) := hne251 (108) (by omega)
  have f259 : gn247 (110) = g232 (110) := hne251 (110) (by omega)
  have f260 : gn247 (111) = g232 (111) := hne251 (111) (by omega)
  have f261 : gn247 (112) = g232 (112) := hne251 (112) (by omega)
  have f262 : gn247 (100) = g232 (100) := hne251 (100) (by omega)
  have pa263 : ad245 (100) = a := (had250 (100) (by omega)).trans pa223
  have pa264 : ad245 (103) = q1 := (had250 (103) (by omega)).trans pa224
  have pa265 : ad245 (104) = q16 := (had250 (104) (by omega)).trans pa225
  have pa266 : ad245 (105) = q34 := (had250 (105) (by omega)).trans pa226
  have pa267 : ad245 (106) = q55 := (had250 (106) (by omega)).trans pa227
  have pa268 : ad245 (107) = q79 := (had250 (107) (by omega)).trans pa228
  have pa269 : ad245 (108) = q106 := (had250 (108) (by omega)).trans pa229
  have pa270 : ad245 (110) = q136 := (had250 (110) (by omega)).trans pa230
  have pa271 : ad245 (111) = q169 := (had250 (111) (by omega)).trans pa231
  have pa272 : ad245 (112) = q205 := (had250 (112) (by omega)).trans hq210
  refine pf_X7_38 C hin (100) ((f262.trans (f234))) pa263 rfl rfl (Nat.le_of_ble_eq_true rfl) rfl dX7_init_80 ?_
  generalize hg274 : va_up gn247 (100) _ = g273
  have f275 : g273 (100) = some (.inr (6, [(.int 0), (.int 0), (.int 0), (.ref q1), (.ref q16), (.ref q34), (.ref q55), (.ref q79), (.ref q106), (.int 0), (.ref q136), (.ref q169), (.ref q205), (.ref q244), .null, .null, .null, .null, (.int 0), (.int 0)])) := by rw [← hg274]; exact va_up_self _ _ _
  have f276 : g273 (103) = gn247 (103) := by rw [← hg274]; exact va_up_ne _ _ (by omega)
  have f277 : g273 (104) = gn247 (104) := by rw [← hg274]; exact va_up_ne _ _ (by omega)
  have f278 : g273 (105) = gn247 (105) := by rw [← hg274]; exact va_up_ne _ _ (by omega)
  have f279 : g273 (106) = gn247 (106) := by rw [← hg274]; exact va_up_ne _ _ (by omega)
  have f280 : g273 (107) = gn247 (107) := by rw [← hg274]; exact va_up_ne _ _ (by omega)
  have f281 : g273 (108) = gn247 (108) := by rw [← hg274]; exact va_up_ne _ _ (by omega)
  have f282 : g273 (110) = gn247 (110) := by rw [← hg274]; exact va_up_ne _ _ (by omega)
  have f283 : g273 (111) = gn247 (111) := by rw [← hg274]; exact va_up_ne _ _ (by omega)
  have f284 : g273 (112) = gn247 (112) := by rw [← hg274]; exact va_up_ne _ _ (by omega)
  have f285 : g273 (113) = gn247 (113) := by rw [← hg274]; exact va_up_ne _ _ (by omega)
  refine qr_aload_n C dX7_init_83 rfl 0 rfl ?_
  refine qr_bipush (v := 40) C dX7_init_84 (by decide) ?_
  refine qr_newZ C gA_boolean (N := 40) rfl rfl (114) (((congrFun hg274 (114)).symm.trans ((va_up_ne _ _ (by omega)).trans ((hne251 (114) (by omega)).trans ((congrFun hg233 (114)).symm.trans ((va_up_ne _ _ (by omega)).trans ((hne212 (114) (by omega)).trans ((congrFun hg195 (114)).symm.trans ((va_up_ne _ _ (by omega)).trans ((hne176 (114) (by omega)).trans ((congrFun hg160 (114)).symm.trans ((va_up_ne _ _ (by omega)).trans ((hne143 (114) (by omega)).trans ((congrFun hg128 (114)).symm.trans ((va_up_ne _ _ (by omega)).trans ((hne113 (114) (by omega)).trans ((congrFun hg99 (114)).symm.trans ((va_up_ne _ _ (by omega)).trans ((hne86 (114) (by omega)).trans ((congrFun hg73 (114)).symm.trans ((va_up_ne _ _ (by omega)).trans ((hne62 (114) (by omega)).trans ((congrFun hg50 (114)).symm.trans ((va_up_ne _ _ (by omega)).trans ((hne41 (114) (by omega)).trans ((congrFun hg30 (114)).symm.trans ((va_up_ne _ _ (by omega)).trans ((hne23 (114) (by omega)).trans ((congrFun hg13 (114)).symm.trans ((va_up_ne _ _ (by omega)).trans ((hne8 (114) (by omega)).trans rfl)))))))))))))))))))))))))))))).trans ((hf _ (by omega)))) (Nat.le_of_ble_eq_true rfl) (Nat.le_of_ble_eq_true rfl) dX7_init_86 ?_
  intro q286
  generalize hA288 : va_up ad245 (114) q286 = ad287
  have hq291 : ad287 (114) = q286 := by rw [← hA288]; exact va_up_self _ _ _
  have had292 : ∀ t, t ≠ 114 → ad287 t = ad245 t := fun t ht => by rw [← hA288]; exact va_up_ne _ _ ht
  generalize hgn290 : va_up g273 (114) _ = gn289
  have hne293 : ∀ t, t ≠ 114 → gn289 t = g273 t := fun t ht => by rw [← hgn290]; exact va_up_ne _ _ ht
  have hnu294 : gn289 (114) = some (.inl (D.1 21, 40, .inl (fun _ => 0))) := by rw [← hgn290]; exact va_up_self _ _ _
  have f295 : gn289 (103) = g273 (103) := hne293 (103) (by omega)
  have f296 : gn289 (104) = g273 (104) := hne293 (104) (by omega)
  have f297 : gn289 (105) = g273 (105) := hne293 (105) (by omega)
  have f298 : gn289 (106) = g273 (106) := hne293 (106) (by omega)
  have f299 : gn289 (107) = g273 (107) := hne293 (107) (by omega)
  have f300 : gn289 (108) = g273 (108) := hne293 (108) (by omega)
  have f301 : gn289 (110) = g273 (110) := hne293 (110) (by omega)
  have f302 : gn289 (111) = g273 (111) := hne293 (111) (by omega)
  have f303 : gn289 (112) = g273 (112) := hne293 (112) (by omega)
  have f304 : gn289 (113) = g273 (113) := hne293 (113) (by omega)
  have f305 : gn289 (100) = g273 (100) := hne293 (100) (by omega)
  have pa306 : ad287 (100) = a := (had292 (100) (by omega)).trans pa263
  have pa307 : ad287 (103) = q1 := (had292 (103) (by omega)).trans pa264
  have pa308 : ad287 (104) = q16 := (had292 (104) (by omega)).trans pa265
  have pa309 : ad287 (105) = q34 := (had292 (105) (by omega)).trans pa266
  have pa310 : ad287 (106) = q55 := (had292 (106) (by omega)).trans pa267
  have pa311 : ad287 (107) = q79 := (had292 (107) (by omega)).trans pa268
  have pa312 : ad287 (108) = q106 := (had292 (108) (by omega)).trans pa269
  have pa313 : ad287 (110) = q136 := (had292 (110) (by omega)).trans pa270
  have pa314 : ad287 (111) = q169 := (had292 (111) (by omega)).trans pa271
  have pa315 : ad287 (112) = q205 := (had292 (112) (by omega)).trans pa272
  have pa316 : ad287 (113) = q244 := (had292 (113) (by omega)).trans hq249
  refine pf_X7_41 C hin (100) ((f305.trans (f275))) pa306 rfl rfl (Nat.le_of_ble_eq_true rfl) rfl dX7_init_88 ?_
  generalize hg318 : va_up gn289 (100) _ = g317
  have f319 : g317 (100) = some (.inr (6, [(.int 0), (.int 0), (.int 0), (.ref q1), (.ref q16), (.ref q34), (.ref q55), (.ref q79), (.ref q106), (.int 0), (.ref q136), (.ref q169), (.ref q205), (.ref q244), (.ref q286), .null, .null, .null, (.int 0), (.int 0)])) := by rw [← hg318]; exact va_up_self _ _ _
  have f320 : g317 (103) = gn289 (103) := by rw [← hg318]; exact va_up_ne _ _ (by omega)
  have f321 : g317 (104) = gn289 (104) := by rw [← hg318]; exact va_up_ne _ _ (by omega)
  have f322 : g317 (105) = gn289 (105) := by rw [← hg318]; exact va_up_ne _ _ (by omega)
  have f323 : g317 (106) = gn289 (106) := by rw [← hg318]; exact va_up_ne _ _ (by omega)
  have f324 : g317 (107) = gn289 (107) := by rw [← hg318]; exact va_up_ne _ _ (by omega)
  have f325 : g317 (108) = gn289 (108) := by rw [← hg318]; exact va_up_ne _ _ (by omega)
  have f326 : g317 (110) = gn289 (110) := by rw [← hg318]; exact va_up_ne _ _ (by omega)
  have f327 : g317 (111) = gn289 (111) := by rw [← hg318]; exact va_up_ne _ _ (by omega)
  have f328 : g317 (112) = gn289 (112) := by rw [← hg318]; exact va_up_ne _ _ (by omega)
  have f329 : g317 (113) = gn289 (113) := by rw [← hg318]; exact va_up_ne _ _ (by omega)
  have f330 : g317 (114) = gn289 (114) := by rw [← hg318]; exact va_up_ne _ _ (by omega)
  refine qr_aload_n C dX7_init_91 rfl 0 rfl ?_
  refine qr_bipush (v := 12) C dX7_init_92 (by decide) ?_
  refine qr_newZ C gA_boolean (N := 12) rfl rfl (115) (((congrFun hg318 (115)).symm.trans ((va_up_ne _ _ (by omega)).trans ((hne293 (115) (by omega)).trans ((congrFun hg274 (115)).symm.trans ((va_up_ne _ _ (by omega)).trans ((hne251 (115) (by omega)).trans ((congrFun hg233 (115)).symm.trans ((va_up_ne _ _ (by omega)).trans ((hne212 (115) (by omega)).trans ((congrFun hg195 (115)).symm.trans ((va_up_ne _ _ (by omega)).trans ((hne176 (115) (by omega)).trans ((congrFun hg160 (115)).symm.trans ((va_up_ne _ _ (by omega)).trans ((hne143 (115) (by omega)).trans ((congrFun hg128 (115)).symm.trans ((va_up_ne _ _ (by omega)).trans ((hne113 (115) (by omega)).trans ((congrFun hg99 (115)).symm.trans ((va_up_ne _ _ (by omega)).trans ((hne86 (115) (by omega)).trans ((congrFun hg73 (115)).symm.trans ((va_up_ne _ _ (by omega)).trans ((hne62 (115) (by omega)).trans ((congrFun hg50 (115)).symm.trans ((va_up_ne _ _ (by omega)).trans ((hne41 (115) (by omega)).trans ((congrFun hg30 (115)).symm.trans ((va_up_ne _ _ (by omega)).trans ((hne23 (115) (by omega)).trans ((congrFun hg13 (115)).symm.trans ((va_up_ne _ _ (by omega)).trans ((hne8 (115) (by omega)).trans rfl))))))))))))))))))))))))))))))))).trans ((hf _ (by omega)))) (Nat.le_of_ble_eq_true rfl) (Nat.le_of_ble_eq_true rfl) dX7_init_94 ?_
  intro q331
  generalize hA333 : va_up ad287 (115) q331 = ad332
  have hq336 : ad332 (115) = q331 := by rw [← hA333]; exact va_up_self _ _ _
  have had337 : ∀ t, t ≠ 115 → ad332 t = ad287 t := fun t ht => by rw [← hA333]; exact va_up_ne _ _ ht
  generalize hgn335 : va_up g317 (115) _ = gn334
  have hne338 : ∀ t, t ≠ 115 → gn334 t = g317 t := fun t ht => by rw [← hgn335]; exact va_up_ne _ _ ht
  have hnu339 : gn334 (115) = some (.inl (D.1 21, 12, .inl (fun _ => 0))) := by rw [← hgn335]; exact va_up_self _ _ _
  have f340 : gn334 (103) = g317 (103) := hne338 (103) (by omega)
  have f341 : gn334 (104) = g317 (104) := hne338 (104) (by omega)
  have f342 : gn334 (105) = g317 (105) := hne338 (105) (by omega)
  have f343 : gn334 (106) = g317 (106) := hne338 (106) (by omega)
  have f344 : gn334 (107) = g317 (107) := hne338 (107) (by omega)
  have f345 : gn334 (108) = g317 (108) := hne338 (108) (by omega)
  have f346 : gn334 (110) = g317 (110) := hne338 (110) (by omega)
  have f347 : gn334 (111) = g317 (111) := hne338 (111) (by omega)
  have f348 : gn334 (112) = g317 (112) := hne338 (112) (by omega)
  have f349 : gn334 (113) = g317 (113) := hne338 (113) (by omega)
  have f350 : gn334 (114) = g317 (114) := hne338 (114) (by omega)
  have f351 : gn334 (100) = g317 (100) := hne338 (100) (by omega)
  have pa352 : ad332 (100) = a := (had337 (100) (by omega)).trans pa306
  have pa353 : ad332 (103) = q1 := (had337 (103) (by omega)).trans pa307
  have pa354 : ad332 (104) = q16 := (had337 (104) (by omega)).trans pa308
  have pa355 : ad332 (105) = q34 := (had337 (105) (by omega)).trans pa309
  have pa356 : ad332 (106) = q55 := (had337 (106) (by omega)).trans pa310
  have pa357 : ad332 (107) = q79 := (had337 (107) (by omega)).trans pa311
  have pa358 : ad332 (108) = q106 := (had337 (108) (by omega)).trans pa312
  have pa359 : ad332 (110) = q136 := (had337 (110) (by omega)).trans pa313
  have pa360 : ad332 (111) = q169 := (had337 (111) (by omega)).trans pa314
  have pa361 : ad332 (112) = q205 := (had337 (112) (by omega)).trans pa315
  have pa362 : ad332 (113) = q244 := (had337 (113) (by omega)).trans pa316
  have pa363 : ad332 (114) = q286 := (had337 (114) (by omega)).trans hq291
  refine pf_X7_44 C hin (100) ((f351.trans (f319))) pa352 rfl rfl (Nat.le_of_ble_eq_true rfl) rfl dX7_init_96 ?_
  generalize hg365 : va_up gn334 (100) _ = g364
  have f366 : g364 (100) = some (.inr (6, [(.int 0), (.int 0), (.int 0), (.ref q1), (.ref q16), (.ref q34), (.ref q55), (.ref q79), (.ref q106), (.int 0), (.ref q136), (.ref q169), (.ref q205), (.ref q244), (.ref q286), (.ref q331), .null, .null, (.int 0), (.int 0)])) := by rw [← hg365]; exact va_up_self _ _ _
  have f367 : g364 (103) = gn334 (103) := by rw [← hg365]; exact va_up_ne _ _ (by omega)
  have f368 : g364 (104) = gn334 (104) := by rw [← hg365]; exact va_up_ne _ _ (by omega)
  have f369 : g364 (105) = gn334 (105) := by rw [← hg365]; exact va_up_ne _ _ (by omega)
  have f370 : g364 (106) = gn334 (106) := by rw [← hg365]; exact va_up_ne _ _ (by omega)
  have f371 : g364 (107) = gn334 (107) := by rw [← hg365]; exact va_up_ne _ _ (by omega)
  have f372 : g364 (108) = gn334 (108) := by rw [← hg365]; exact va_up_ne _ _ (by omega)
  have f373 : g364 (110) = gn334 (110) := by rw [← hg365]; exact va_up_ne _ _ (by omega)
  have f374 : g364 (111) = gn334 (111) := by rw [← hg365]; exact va_up_ne _ _ (by omega)
  have f375 : g364 (112) = gn334 (112) := by rw [← hg365]; exact va_up_ne _ _ (by omega)
  have f376 : g364 (113) = gn334 (113) := by rw [← hg365]; exact va_up_ne _ _ (by omega)
  have f377 : g364 (114) = gn334 (114) := by rw [← hg365]; exact va_up_ne _ _ (by omega)
  have f378 : g364 (115) = gn334 (115) := by rw [← hg365]; exact va_up_ne _ _ (by omega)
  refine qr_aload_n C dX7_init_99 rfl 0 rfl ?_
  refine qr_bipush (v := 12) C dX7_init_100 (by decide) ?_
  refine qr_newI C gA_int (N := 12) rfl rfl (116) (((congrFun hg365 (116)).symm.trans ((va_up_ne _ _ (by omega)).trans ((hne338 (116) (by omega)).trans ((congrFun hg318 (116)).symm.trans ((va_up_ne _ _ (by omega)).trans ((hne293 (116) (by omega)).trans ((congrFun hg274 (116)).symm.trans ((va_up_ne _ _ (by omega)).trans ((hne251 (116) (by omega)).trans ((congrFun hg233 (116)).symm.trans ((va_up_ne _ _ (by omega)).trans ((hne212 (116) (by omega)).trans ((congrFun hg195 (116)).symm.trans ((va_up_ne _ _ (by omega)).trans ((hne176 (116) (by omega)).trans ((congrFun hg160 (116)).symm.trans ((va_up_ne _ _ (by omega)).trans ((hne143 (116) (by omega)).trans ((congrFun hg128 (116)).symm.trans ((va_up_ne _ _ (by omega)).trans ((hne113 (116) (by omega)).trans ((congrFun hg99 (116)).symm.trans ((va_up_ne _ _ (by omega)).trans ((hne86 (116) (by omega)).trans ((congrFun hg73 (116)).symm.trans ((va_up_ne _ _ (by omega)).trans ((hne62 (116) (by omega)).trans ((congrFun hg50 (116)).symm.trans ((va_up_ne _ _ (by omega)).trans ((hne41 (116) (by omega)).trans ((congrFun hg30 (116)).symm.trans ((va_up_ne _ _ (by omega)).trans ((hne23 (116) (by omega)).trans ((congrFun hg13 (116)).symm.trans ((va_up_ne _ _ (by omega)).trans ((hne8 (116) (by omega)).trans rfl)))))))))))))))))))))))))))))))))))).trans ((hf _ (by omega)))) (Nat.le_of_ble_eq_true rfl) (Nat.le_of_ble_eq_true rfl) dX7_init_102 ?_
  intro q379
  generalize hA381 : va_up ad332 (116) q379 = ad380
  have hq384 : ad380 (116) = q379 := by rw [← hA381]; exact va_up_self _ _ _
  have had385 : ∀ t, t ≠ 116 → ad380 t = ad332 t := fun t ht => by rw [← hA381]; exact va_up_ne _ _ ht
  generalize hgn383 : va_up g364 (116) _ = gn382
  have hne386 : ∀ t, t ≠ 116 → gn382 t = g364 t := fun t ht => by rw [← hgn383]; exact va_up_ne _ _ ht
  have hnu387 : gn382 (116) = some (.inl (D.1 20, 12, .inl (fun _ => 0))) := by rw [← hgn383]; exact va_up_self _ _ _
  have f388 : gn382 (103) = g364 (103) := hne386 (103) (by omega)
  have f389 : gn382 (104) = g364 (104) := hne386 (104) (by omega)
  have f390 : gn382 (105) = g364 (105) := hne386 (105) (by omega)
  have f391 : gn382 (106) = g364 (106) := hne386 (106) (by omega)
  have f392 : gn382 (107) = g364 (107) := hne386 (107) (by omega)
  have f393 : gn382 (108) = g364 (108) := hne386 (108) (by omega)
  have f394 : gn382 (110) = g364 (110) := hne386 (110) (by omega)
  have f395 : gn382 (111) = g364 (111) := hne386 (111) (by omega)
  have f396 : gn382 (112) = g364 (112) := hne386 (112) (by omega)
  have f397 : gn382 (113) = g364 (113) := hne386 (113) (by omega)
  have f398 : gn382 (114) = g364 (114) := hne386 (114) (by omega)
  have f399 : gn382 (115) = g364 (115) := hne386 (115) (by omega)
  have f400 : gn382 (100) = g364 (100) := hne386 (100) (by omega)
  have pa401 : ad380 (100) = a := (had385 (100) (by omega)).trans pa352
  have pa402 : ad380 (103) = q1 := (had385 (103) (by omega)).trans pa353
  have pa403 : ad380 (104) = q16 := (had385 (104) (by omega)).trans pa354
  have pa404 : ad380 (105) = q34 := (had385 (105) (by omega)).trans pa355
  have pa405 : ad380 (106) = q55 := (had385 (106) (by omega)).trans pa356
  have pa406 : ad380 (107) = q79 := (had385 (107) (by omega)).trans pa357
  have pa407 : ad380 (108) = q106 := (had385 (108) (by omega)).trans pa358
  have pa408 : ad380 (110) = q136 := (had385 (110) (by omega)).trans pa359
  have pa409 : ad380 (111) = q169 := (had385 (111) (by omega)).trans pa360
  have pa410 : ad380 (112) = q205 := (had385 (112) (by omega)).trans pa361
  have pa411 : ad380 (113) = q244 := (had385 (113) (by omega)).trans pa362
  have pa412 : ad380 (114) = q286 := (had385 (114) (by omega)).trans pa363
  have pa413 : ad380 (115) = q331 := (had385 (115) (by omega)).trans hq336
  refine pf_X7_47 C hin (100) ((f400.trans (f366))) pa401 rfl rfl (Nat.le_of_ble_eq_true rfl) rfl dX7_init_104 ?_
  generalize hg415 : va_up gn382 (100) _ = g414
  have f416 : g414 (100) = some (.inr (6, [(.int 0), (.int 0), (.int 0), (.ref q1), (.ref q16), (.ref q34), (.ref q55), (.ref q79), (.ref q106), (.int 0), (.ref q136), (.ref q169), (.ref q205), (.ref q244), (.ref q286), (.ref q331), (.ref q379), .null, (.int 0), (.int 0)])) := by rw [← hg415]; exact va_up_self _ _ _
  have f417 : g414 (103) = gn382 (103) := by rw [← hg415]; exact va_up_ne _ _ (by omega)
  have f418 : g414 (104) = gn382 (104) := by rw [← hg415]; exact va_up_ne _ _ (by omega)
  have f419 : g414 (105) = gn382 (105) := by rw [← hg415]; exact va_up_ne _ _ (by omega)
  have f420 : g414 (106) = gn382 (106) := by rw [← hg415]; exact va_up_ne _ _ (by omega)
  have f421 : g414 (107) = gn382 (107) := by rw [← hg415]; exact va_up_ne _ _ (by omega)
  have f422 : g414 (108) = gn382 (108) := by rw [← hg415]; exact va_up_ne _ _ (by omega)
  have f423 : g414 (110) = gn382 (110) := by rw [← hg415]; exact va_up_ne _ _ (by omega)
  have f424 : g414 (111) = gn382 (111) := by rw [← hg415]; exact va_up_ne _ _ (by omega)
  have f425 : g414 (112) = gn382 (112) := by rw [← hg415]; exact va_up_ne _ _ (by omega)
  have f426 : g414 (113) = gn382 (113) := by rw [← hg415]; exact va_up_ne _ _ (by omega)
  have f427 : g414 (114) = gn382 (114) := by rw [← hg415]; exact va_up_ne _ _ (by omega)
  have f428 : g414 (115) = gn382 (115) := by rw [← hg415]; exact va_up_ne _ _ (by omega)
  have f429 : g414 (116) = gn382 (116) := by rw [← hg415]; exact va_up_ne _ _ (by omega)
  refine qr_aload_n C dX7_init_107 rfl 0 rfl ?_
  refine qr_bipush (v := 12) C dX7_init_108 (by decide) ?_
  refine qr_newI C gA_int (N := 12) rfl rfl (117) (((congrFun hg415 (117)).symm.trans ((va_up_ne _ _ (by omega)).trans ((hne386 (117) (by omega)).trans ((congrFun hg365 (117)).symm.trans ((va_up_ne _ _ (by omega)).trans ((hne338 (117) (by omega)).trans ((congrFun hg318 (117)).symm.trans ((va_up_ne _ _ (by omega)).trans ((hne293 (117) (by omega)).trans ((congrFun hg274 (117)).symm.trans ((va_up_ne _ _ (by omega)).trans ((hne251 (117) (by omega)).trans ((congrFun hg233 (117)).symm.trans ((va_up_ne _ _ (by omega)).trans ((hne212 (117) (by omega)).trans ((congrFun hg195 (117)).symm.trans ((va_up_ne _ _ (by omega)).trans ((hne176 (117) (by omega)).trans ((congrFun hg160 (117)).symm.trans ((va_up_ne _ _ (by omega)).trans ((hne143 (117) (by omega)).trans ((congrFun hg128 (117)).symm.trans ((va_up_ne _ _ (by omega)).trans ((hne113 (117) (by omega)).trans ((congrFun hg99 (117)).symm.trans ((va_up_ne _ _ (by omega)).trans ((hne86 (117) (by omega)).trans ((congrFun hg73 (117)).symm.trans ((va_up_ne _ _ (by omega)).trans ((hne62 (117) (by omega)).trans ((congrFun hg50 (117)).symm.trans ((va_up_ne _ _ (by omega)).trans ((hne41 (117) (by omega)).trans ((congrFun hg30 (117)).symm.trans ((va_up_ne _ _ (by omega)).trans ((hne23 (117) (by omega)).trans ((congrFun hg13 (117)).symm.trans ((va_up_ne _ _ (by omega)).trans ((hne8 (117) (by omega)).trans rfl))))))))))))))))))))))))))))))))))))))).trans ((hf _ (by omega)))) (Nat.le_of_ble_eq_true rfl) (Nat.le_of_ble_eq_true rfl) dX7_init_110 ?_
  intro q430
  generalize hA432 : va_up ad380 (117) q430 = ad431
  have hq435 : ad431 (117) = q430 := by rw [← hA432]; exact va_up_self _ _ _
  have had436 : ∀ t, t ≠ 117 → ad431 t = ad380 t := fun t ht => by rw [← hA432]; exact va_up_ne _ _ ht
  generalize hgn434 : va_up g414 (117) _ = gn433
  have hne437 : ∀ t, t ≠ 117 → gn433 t = g414 t := fun t ht => by rw [← hgn434]; exact va_up_ne _ _ ht
  have hnu438 : gn433 (117) = some (.inl (D.1 20, 12, .inl (fun _ => 0))) := by rw [← hgn434]; exact va_up_self _ _ _
  have f439 : gn433 (103) = g414 (103) := hne437 (103) (by omega)
  have f440 : gn433 (104) = g414 (104) := hne437 (104) (by omega)
  have f441 : gn433 (105) = g414 (105) := hne437 (105) (by omega)
  have f442 : gn433 (106) = g414 (106) := hne437 (106) (by omega)
  have f443 : gn433 (107) = g414 (107) := hne437 (107) (by omega)
  have f444 : gn433 (108) = g414 (108) := hne437 (108) (by omega)
  have f445 : gn433 (110) = g414 (110) := hne437 (110) (by omega)
  have f446 : gn433 (111) = g414 (111) := hne437 (111) (by omega)
  have f447 : gn433 (112) = g414 (112) := hne437 (112) (by omega)
  have f448 : gn433 (113) = g414 (113) := hne437 (113) (by omega)
  have f449 : gn433 (114) = g414 (114) := hne437 (114) (by omega)
  have f450 : gn433 (115) = g414 (115) := hne437 (115) (by omega)
  have f451 : gn433 (116) = g414 (116) := hne437 (116) (by omega)
  have f452 : gn433 (100) = g414 (100) := hne437 (100) (by omega)
  have pa453 : ad431 (100) = a := (had436 (100) (by omega)).trans pa401
  have pa454 : ad431 (103) = q1 := (had436 (103) (by omega)).trans pa402
  have pa455 : ad431 (104) = q16 := (had436 (104) (by omega)).trans pa403
  have pa456 : ad431 (105) = q34 := (had436 (105) (by omega)).trans pa404
  have pa457 : ad431 (106) = q55 := (had436 (106) (by omega)).trans pa405
  have pa458 : ad431 (107) = q79 := (had436 (107) (by omega)).trans pa406
  have pa459 : ad431 (108) = q106 := (had436 (108) (by omega)).trans pa407
  have pa460 : ad431 (110) = q136 := (had436 (110) (by omega)).trans pa408
  have pa461 : ad431 (111) = q169 := (had436 (111) (by omega)).trans pa409
  have pa462 : ad431 (112) = q205 := (had436 (112) (by omega)).trans pa410
  have pa463 : ad431 (113) = q244 := (had436 (113) (by omega)).trans pa411
  have pa464 : ad431 (114) = q286 := (had436 (114) (by omega)).trans pa412
  have pa465 : ad431 (115) = q331 := (had436 (115) (by omega)).trans pa413
  have pa466 : ad431 (116) = q379 := (had436 (116) (by omega)).trans hq384
  refine pf_X7_50 C hin (100) ((f452.trans (f416))) pa453 rfl rfl (Nat.le_of_ble_eq_true rfl) rfl dX7_init_112 ?_
  generalize hg468 : va_up gn433 (100) _ = g467
  have f469 : g467 (100) = some (.inr (6, [(.int 0), (.int 0), (.int 0), (.ref q1), (.ref q16), (.ref q34), (.ref q55), (.ref q79), (.ref q106), (.int 0), (.ref q136), (.ref q169), (.ref q205), (.ref q244), (.ref q286), (.ref q331), (.ref q379), (.ref q430), (.int 0), (.int 0)])) := by rw [← hg468]; exact va_up_self _ _ _
  have f470 : g467 (103) = gn433 (103) := by rw [← hg468]; exact va_up_ne _ _ (by omega)
  have f471 : g467 (104) = gn433 (104) := by rw [← hg468]; exact va_up_ne _ _ (by omega)
  have f472 : g467 (105) = gn433 (105) := by rw [← hg468]; exact va_up_ne _ _ (by omega)
  have f473 : g467 (106) = gn433 (106) := by rw [← hg468]; exact va_up_ne _ _ (by omega)
  have f474 : g467 (107) = gn433 (107) := by rw [← hg468]; exact va_up_ne _ _ (by omega)
  have f475 : g467 (108) = gn433 (108) := by rw [← hg468]; exact va_up_ne _ _ (by omega)
  have f476 : g467 (110) = gn433 (110) := by rw [← hg468]; exact va_up_ne _ _ (by omega)
  have f477 : g467 (111) = gn433 (111) := by rw [← hg468]; exact va_up_ne _ _ (by omega)
  have f478 : g467 (112) = gn433 (112) := by rw [← hg468]; exact va_up_ne _ _ (by omega)
  have f479 : g467 (113) = gn433 (113) := by rw [← hg468]; exact va_up_ne _ _ (by omega)
  have f480 : g467 (114) = gn433 (114) := by rw [← hg468]; exact va_up_ne _ _ (by omega)
  have f481 : g467 (115) = gn433 (115) := by rw [← hg468]; exact va_up_ne _ _ (by omega)
  have f482 : g467 (116) = gn433 (116) := by rw [← hg468]; exact va_up_ne _ _ (by omega)
  have f483 : g467 (117) = gn433 (117) := by rw [← hg468]; exact va_up_ne _ _ (by omega)
  exact qr_vret C rfl (Nat.le_of_ble_eq_true rfl) (Nat.le_of_ble_eq_true rfl) dX7_init_115 (⟨rfl, ⟨by rw [pa454, pa455, pa456, pa457, pa458, pa459, pa460, pa461, pa462, pa463, pa464, pa465, pa466, hq435]; exact f469, (f470.trans ((f439.trans ((f417.trans ((f388.trans ((f367.trans ((f340.trans ((f320.trans ((f295.trans ((f276.trans ((f253.trans ((f235.trans ((f214.trans ((f197.trans ((f178.trans ((f162.trans ((f145.trans ((f130.trans ((f115.trans ((f101.trans ((f88.trans ((f75.trans ((f64.trans ((f52.trans ((f43.trans ((f32.trans ((f25.trans ((f15.trans (hnu9)))))))))))))))))))))))))))))))))))))))))))))))))))))), (f471.trans ((f440.trans ((f418.trans ((f389.trans ((f368.trans ((f341.trans ((f321.trans ((f296.trans ((f277.trans ((f254.trans ((f236.trans ((f215.trans ((f198.trans ((f179.trans ((f163.trans ((f146.trans ((f131.trans ((f116.trans ((f102.trans ((f89.trans ((f76.trans ((f65.trans ((f53.trans ((f44.trans ((f33.trans (hnu24)))))))))))))))))))))))))))))))))))))))))))))))))), (f472.trans ((f441.trans ((f419.trans ((f390.trans ((f369.trans ((f342.trans ((f322.trans ((f297.trans ((f278.trans ((f255.trans ((f237.trans ((f216.trans ((f199.trans ((f180.trans ((f164.trans ((f147.trans ((f132.trans ((f117.trans ((f103.trans ((f90.trans ((f77.trans ((f66.trans ((f54.trans (hnu42)))))))))))))))))))))))))))))))))))))))))))))), (f473.trans ((f442.trans ((f420.trans ((f391.trans ((f370.trans ((f343.trans ((f323.trans ((f298.trans ((f279.trans ((f256.trans ((f238.trans ((f217.trans ((f200.trans ((f181.trans ((f165.trans ((f148.trans ((f133.trans ((f118.trans ((f104.trans ((f91.trans ((f78.trans (hnu63)))))))))))))))))))))))))))))))))))))))))), (f474.trans ((f443.trans ((f421.trans ((f392.trans ((f371.trans ((f344.trans ((f324.trans ((f299.trans ((f280.trans ((f257.trans ((f239.trans ((f218.trans ((f201.trans ((f182.trans ((f166.trans ((f149.trans ((f134.trans ((f119.trans ((f105.trans (hnu87)))))))))))))))))))))))))))))))))))))), (f475.trans ((f444.trans ((f422.trans ((f393.trans ((f372.trans ((f345.trans ((f325.trans ((f300.trans ((f281.trans ((f258.trans ((f240.trans ((f219.trans ((f202.trans ((f183.trans ((f167.trans ((f150.trans ((f135.trans (hnu114)))))))))))))))))))))))))))))))))), (f476.trans ((f445.trans ((f423.trans ((f394.trans ((f373.trans ((f346.trans ((f326.trans ((f301.trans ((f282.trans ((f259.trans ((f241.trans ((f220.trans ((f203.trans ((f184.trans ((f168.trans (hnu144)))))))))))))))))))))))))))))), (f477.trans ((f446.trans ((f424.trans ((f395.trans ((f374.trans ((f347.trans ((f327.trans ((f302.trans ((f283.trans ((f260.trans ((f242.trans ((f221.trans ((f204.trans (hnu177)))))))))))))))))))))))))), (f478.trans ((f447.trans ((f425.trans ((f396.trans ((f375.trans ((f348.trans ((f328.trans ((f303.trans ((f284.trans ((f261.trans ((f243.trans (hnu213)))))))))))))))))))))), (f479.trans ((f448.trans ((f426.trans ((f397.trans ((f376.trans ((f349.trans ((f329.trans ((f304.trans ((f285.trans (hnu252)))))))))))))))))), (f480.trans ((f449.trans ((f427.trans ((f398.trans ((f377.trans ((f350.trans ((f330.trans (hnu294)))))))))))))), (f481.trans ((f450.trans ((f428.trans ((f399.trans ((f378.trans (hnu339)))))))))), (f482.trans ((f451.trans ((f429.trans (hnu387)))))), (f483.trans (hnu438))⟩, fun t h1 => ((had436 t (by omega)).trans ((had385 t (by omega)).trans ((had337 t (by omega)).trans ((had292 t (by omega)).trans ((had250 t (by omega)).trans ((had211 t (by omega)).trans ((had175 t (by omega)).trans ((had142 t (by omega)).trans ((had112 t (by omega)).trans ((had85 t (by omega)).trans ((had61 t (by omega)).trans ((had40 t (by omega)).trans ((had22 t (by omega)).trans ((had7 t (by omega)).trans rfl)))))))))))))), fun t h1 => ((congrFun hg468 t).symm.trans ((va_up_ne _ _ (by omega)).trans ((hne437 t (by omega)).trans ((congrFun hg415 t).symm.trans ((va_up_ne _ _ (by omega)).trans ((hne386 t (by omega)).trans ((congrFun hg365 t).symm.trans ((va_up_ne _ _ (by omega)).trans ((hne338 t (by omega)).trans ((congrFun hg318 t).symm.trans ((va_up_ne _ _ (by omega)).trans ((hne293 t (by omega)).trans ((congrFun hg274 t).symm.trans ((va_up_ne _ _ (by omega)).trans ((hne251 t (by omega)).trans ((congrFun hg233 t).symm.trans ((va_up_ne _ _ (by omega)).trans ((hne212 t (by omega)).trans ((congrFun hg195 t).symm.trans ((va_up_ne _ _ (by omega)).trans ((hne176 t (by omega)).trans ((congrFun hg160 t).symm.trans ((va_up_ne _ _ (by omega)).trans ((hne143 t (by omega)).trans ((congrFun hg128 t).symm.trans ((va_up_ne _ _ (by omega)).trans ((hne113 t (by omega)).trans ((congrFun hg99 t).symm.trans ((va_up_ne _ _ (by omega)).trans ((hne86 t (by omega)).trans ((congrFun hg73 t).symm.trans ((va_up_ne _ _ (by omega)).trans ((hne62 t (by omega)).trans ((congrFun hg50 t).symm.trans ((va_up_ne _ _ (by omega)).trans ((hne41 t (by omega)).trans ((congrFun hg30 t).symm.trans ((va_up_ne _ _ (by omega)).trans ((hne23 t (by omega)).trans ((congrFun hg13 t).symm.trans ((va_up_ne _ _ (by omega)).trans ((hne8 t (by omega)).trans rfl))))))))))))))))))))))))))))))))))))))))))⟩)
