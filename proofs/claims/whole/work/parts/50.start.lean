/-! the start: what the tables' words say of classes and array classes -/
theorem qs_arr {s : State} {args : Array Value} {ty : FieldType} (h : (Cond.arrayClass ty).before args s = true) : ∃ c, ArrOfT s c ty ∧ s.vm.findClass ("[" ++ ty.toString) = some c := by
  obtain ⟨c, k, comp, h1, h2, h3⟩ := Cond.arrayClass_spec h
  exact ⟨c, fun _ _ => ⟨(fun _ h => nomatch h), k, h2, comp, h3⟩, h1⟩
theorem qs_obj {s : State} {args : Array Value} {C : String} (h : (Cond.arrayOver (.object C)).before args s = true) : ∃ c, ArrOfT s c (.object C) ∧ va_RA s c (.object C) := by
  obtain ⟨comp, c, k, h1, -, h3, h4, h5⟩ := Cond.arrayOver_spec h
  exact ⟨c, fun _ _ => ⟨(fun _ h => nomatch h), k, h3, comp, h4⟩, ⟨k, comp, h3, h4, h1, h5⟩⟩
theorem qs_arr2 {s : State} {args : Array Value} {ty : FieldType} (h : (Cond.arrayOver (.array ty)).before args s = true) : ∃ c, ArrOfT s c (.array ty) ∧ s.vm.findClass ("[" ++ (FieldType.array ty).toString) = some c := by
  obtain ⟨comp, c, k, h1, h3, h4, h5⟩ := Cond.arrayOver_specA h
  exact ⟨c, fun _ _ => ⟨(fun _ h => nomatch h), k, h3, comp, h4⟩, h5⟩
set_option maxRecDepth 20000 in
theorem gs_w : (Cond.instantiable RX1 5) ∈ qw_Ts ∧ (Cond.instantiable RX2 1) ∈ qw_Ts ∧ (Cond.instantiable RX3 5) ∈ qw_Ts ∧ (Cond.instantiable RX4 5) ∈ qw_Ts ∧ (Cond.instantiable RX5 4) ∈ qw_Ts ∧ (Cond.instantiable RX6 9) ∈ qw_Ts ∧ (Cond.instantiable RX7 20) ∈ qw_Ts := by decide +kernel
set_option maxRecDepth 20000 in
theorem gs_a : (Cond.arrayClass .int) ∈ lw_tbl ∧ (Cond.arrayClass .boolean) ∈ lw_tbl ∧ (Cond.arrayClass .long) ∈ lw_tbl ∧ (Cond.arrayOver (.object RX5)) ∈ lw_tbl ∧ (Cond.arrayOver (.object RX4)) ∈ lw_tbl ∧ (Cond.arrayOver (.object RX1)) ∈ lw_tbl ∧ (Cond.arrayOver (.object RX3)) ∈ lw_tbl ∧ (Cond.arrayOver (.array .int)) ∈ lw_tbl := by decide +kernel
/-- the classes and the array classes -/
theorem qs_D {s : State} {args : Array Value} (hts : ∀ w ∈ lw_tbl, w.before args s = true) : ∃ D : va_G, va_K D vwCl (qw_ty D) s := by
  have ht : ∀ w ∈ qw_Ts, w.before args s = true := fun w hw => hts w (List.mem_filter.mp hw).1
  obtain ⟨c0, i0, k0⟩ := u_known (C := RX1) (T := TX1) (N := 5) (n := 5) ht qi_X1.1 (ht _ gs_w.1)
  obtain ⟨c1, i1, k1⟩ := u_known (C := RX2) (T := TX2) (N := 1) (n := 1) ht qi_X2.1 (ht _ gs_w.2.1)
  obtain ⟨c2, i2, k2⟩ := u_known (C := RX3) (T := TX3) (N := 5) (n := 5) ht qi_X3.1 (ht _ gs_w.2.2.1)
  obtain ⟨c3, i3, k3⟩ := u_known (C := RX4) (T := TX4) (N := 5) (n := 5) ht qi_X4.1 (ht _ gs_w.2.2.2.1)
  obtain ⟨c4, i4, k4⟩ := u_known (C := RX5) (T := TX5) (N := 4) (n := 4) ht qi_X5.1 (ht _ gs_w.2.2.2.2.1)
  obtain ⟨c5, i5, k5⟩ := u_known (C := RX6) (T := TX6) (N := 9) (n := 9) ht qi_X6.1 (ht _ gs_w.2.2.2.2.2.1)
  obtain ⟨c6, i6, k6⟩ := u_known (C := RX7) (T := TX7) (N := 20) (n := 20) ht qi_X7.1 (ht _ gs_w.2.2.2.2.2.2)
  obtain ⟨a0, b0, e0⟩ := qs_arr (hts _ gs_a.1)
  obtain ⟨a1, b1, e1⟩ := qs_arr (hts _ gs_a.2.1)
  obtain ⟨a2, b2, e2⟩ := qs_arr (hts _ gs_a.2.2.1)
  obtain ⟨a3, b3, e3⟩ := qs_obj (hts _ gs_a.2.2.2.1)
  obtain ⟨a4, b4, e4⟩ := qs_obj (hts _ gs_a.2.2.2.2.1)
  obtain ⟨a5, b5, e5⟩ := qs_obj (hts _ gs_a.2.2.2.2.2.1)
  obtain ⟨a6, b6, e6⟩ := qs_obj (hts _ gs_a.2.2.2.2.2.2.1)
  obtain ⟨a7, b7, e7⟩ := qs_arr2 (hts _ gs_a.2.2.2.2.2.2.2)
  refine ⟨(fun k => match k with | 0 => c0 | 1 => c1 | 2 => c2 | 3 => c3 | 4 => c4 | 5 => c5 | 6 => c6 | 20 => a0 | 21 => a1 | 22 => a2 | 23 => a3 | 24 => a4 | 25 => a5 | 26 => a6 | _ => a7, fun k => match k with | 0 => i0 | 1 => i1 | 2 => i2 | 3 => i3 | 4 => i4 | 5 => i5 | _ => i6), ?_, ?_⟩
  · intro k q hq
    match k, hq with
    | 0, hq => cases hq; exact k0
    | 1, hq => cases hq; exact k1
    | 2, hq => cases hq; exact k2
    | 3, hq => cases hq; exact k3
    | 4, hq => cases hq; exact k4
    | 5, hq => cases hq; exact k5
    | 6, hq => cases hq; exact k6
    | k + 7, hq => cases hq
  · intro k q hq
    match k, hq with
    | 0, hq => cases hq; exact ⟨b0, e0⟩
    | 1, hq => cases hq; exact ⟨b1, e1⟩
    | 2, hq => cases hq; exact ⟨b2, e2⟩
    | 3, hq => cases hq; exact ⟨b3, e3⟩
    | 4, hq => cases hq; exact ⟨b4, e4⟩
    | 5, hq => cases hq; exact ⟨b5, e5⟩
    | 6, hq => cases hq; exact ⟨b6, e6⟩
    | 7, hq => cases hq; exact ⟨b7, e7⟩
    | k + 8, hq => cases hq
