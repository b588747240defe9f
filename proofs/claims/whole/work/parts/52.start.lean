/-! the law from its entry, over a relation of the two states -/
theorem qs_flags {l : Launch} (h : l.flags = flags0) : l.stackTraces = false := by
  unfold Launch.stackTraces
  rw [h]
  decide +kernel
set_option maxHeartbeats 4000000 in
set_option maxRecDepth 100000 in
theorem q_start (RLr : (Nat → Nat → Int32) → Nat → Nat → (Nat → Nat → Int32) → Prop) (hA : ql_ags RLr) (hR : RLr (fun _ _ => 0) 0 0 (fun _ _ => 0)) {p : Program} {e : Env} {s : State} {m : MethodId} {below : List Frame} {meth : Method} {c : Code} (l : Launch) (hflags : l.flags = flags0) {b L : Nat} {xs : Nat → Int32} (hL : L ≤ 3072) (hx : p.tables.exec = Jvm.exec) (hb : c.code = code) (hr : meth.sig.returnType = some .boolean) (hml : c.maxLocals = 7) (hown : s.vm.findClass RL = some m.cls) (hts : ∀ w ∈ lw_tbl, w.before #[Value.ref b] s = true) (hX : va_X b L xs s s.heap) (hbl : b < s.heap.size) (hlocks : meth.locks = false) (hgv : (Jvm.Cond.and given_1 narrow_1).before #[Value.ref b] s = true) : W p l e room_1 s m #[Value.ref b] below meth c s.heap [] 0 0 (fun t => ∃ o, t.status = .running ∧ Ended t below o ∧ o = .returned (some (.int 1)) ∧ Framed s o t [] 601024 7293034) (entryFrame m ([Value.ref b] : List Value).toArray 7) := by
  have hs := flat_of_before _ hgv
  have n1 : (Cond.not (.castable qw_E2 qw_E1)).before #[Value.ref b] s = true := hs _ (by decide +kernel)
  have n2 : (Cond.not (.castable qw_E3 qw_E1)).before #[Value.ref b] s = true := hs _ (by decide +kernel)
  have n3 : (Cond.not (.castable qw_E3 qw_E2)).before #[Value.ref b] s = true := hs _ (by decide +kernel)
  have z1 : (Cond.isRef (.static Bundle.tN "UNASSIGNED_STACK" Bundle.steD)).before #[Value.ref b] s = true := hs _ (by decide +kernel)
  have z2 : (Cond.isRef (.static Bundle.tN "SUPPRESSED_SENTINEL" Bundle.listD)).before #[Value.ref b] s = true := hs _ (by decide +kernel)
  have hst := qs_flags hflags
  obtain ⟨D, C⟩ := qs_C (l := l) hst hx hb hr hml hown hlocks hts (va_Nc.of n1) (va_Nc.of n2) (va_Nc.of n3) z1 z2
  refine ql_W (fun t h => ql_end (D := D) (args := #[Value.ref b]) (A := fun q => s.heap.size ≤ q) (fun _ h => h) h) ?_
  rw [lg_entry_eq]
  exact q_law C hst RLr hA hR ⟨hX, hbl, Nat.not_le.mpr hbl⟩ hL (fun _ => 0) s.heap [] _ (fun t e h => nomatch h) ⟨⟨[], List.nodup_nil, fun t => ⟨fun h => absurd rfl h, fun h => nomatch h⟩⟩, fun t u h => absurd rfl h, fun t h => absurd rfl h⟩ va_S.rf (lv_entry [.ref b] (n := 7) (Nat.le_of_ble_eq_true rfl))
