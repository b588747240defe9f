/-! the start: all that the walks ask of the tables -/
set_option maxRecDepth 20000 in
theorem gs_s : ∀ q ∈ qw_strs, (Cond.stringRef RX6 q.1 q.2) ∈ lw_tbl := by decide +kernel
set_option maxRecDepth 20000 in
theorem gs_z : (Cond.laysStatic Bundle.tN "UNASSIGNED_STACK" Bundle.steD) ∈ lw_tbl ∧ (Cond.laysStatic Bundle.tN "SUPPRESSED_SENTINEL" Bundle.listD) ∈ lw_tbl ∧ (Cond.initialized Bundle.tN) ∈ lw_tbl := by decide +kernel
theorem qs_K {s : State} {args : Array Value} (hts : ∀ w ∈ lw_tbl, w.before args s = true) (h1 : va_Nc qw_E2 qw_E1 s) (h2 : va_Nc qw_E3 qw_E1 s) (h3 : va_Nc qw_E3 qw_E2 s) : ∃ D : va_G, qw_K D s := by
  obtain ⟨D, hD⟩ := qs_D hts
  have ht : ∀ w ∈ qw_Ts, w.before args s = true := fun w hw => hts w (List.mem_filter.mp hw).1
  refine ⟨D, hD, fun w hw => qw_warm (List.mem_filter.mp hw).2 (State.WarmedH.refl s) (ht w hw), fun q hq => ?_, ⟨h1, h2, h3⟩, va_AO.of (hts _ gs_a.2.2.2.1), va_AO.of (hts _ gs_a.2.2.2.2.1), va_AO.of (hts _ gs_a.2.2.2.2.2.1), va_AO.of (hts _ gs_a.2.2.2.2.2.2.1), va_AOA.of (hts _ gs_a.2.2.2.2.2.2.2)⟩
  obtain ⟨cC, kC, hfc, -⟩ := Cond.instantiable_spec (ht _ gs_w.2.2.2.2.2.1)
  have hs := hts _ (gs_s q hq)
  obtain ⟨k, cf, i, a, -, -, -, -, -, he⟩ := Cond.stringRef_spec hfc hs
  exact ⟨a, vk_R.of hs he⟩
theorem qs_C {p : Program} {l : Launch} {s : State} {m : MethodId} {meth : Method} {c : Code} {args : Array Value} (hl : l.stackTraces = false) (hx : p.tables.exec = Jvm.exec) (hb : c.code = cL_law) (hr : meth.sig.returnType = some .boolean) (hml : c.maxLocals = 7) (hown : s.vm.findClass RL = some m.cls) (hlocks : meth.locks = false) (hts : ∀ w ∈ lw_tbl, w.before args s = true) (h1 : va_Nc qw_E2 qw_E1 s) (h2 : va_Nc qw_E3 qw_E1 s) (h3 : va_Nc qw_E3 qw_E2 s) (z1 : (Cond.isRef (.static Bundle.tN "UNASSIGNED_STACK" Bundle.steD)).before args s = true) (z2 : (Cond.isRef (.static Bundle.tN "SUPPRESSED_SENTINEL" Bundle.listD)).before args s = true) : ∃ D : va_G, qw_C p l s m args meth c D (fun q => s.heap.size ≤ q) 7 cL_law RL (some .boolean) := by
  obtain ⟨D, hK⟩ := qs_K hts h1 h2 h3
  exact ⟨D, hx, hb, hml, hown, hK, fun _ h => h, ⟨vx_Zqof (hts _ gs_z.1) (hts _ gs_z.2.2) z1 (fun a h => Nat.not_le.mpr h), vx_Zqof (hts _ gs_z.2.1) (hts _ gs_z.2.2) z2 (fun a h => Nat.not_le.mpr h)⟩, hlocks, hr, hl⟩
