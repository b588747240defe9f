/-! from the law's body to the claim's words -/
theorem ql_framed {s t : State} {o : Outcome} {L : List Loc} {k n : Nat} (h : FrameEnd s o t L k n) (hL : ∀ q ∈ L, s.heap.size ≤ q.base) : Framed s o t [] k n := ⟨h.1, h.2.1, State.sameButNew.drop_fresh (L := []) (J := L) h.2.2 hL⟩
theorem ql_end {D : va_G} {A : Nat → Prop} {below : List Frame} {args : Array Value} {s t : State} (hA : ∀ q, A q → s.heap.size ≤ q) (h : MQ below (qw_Q (fun v _ _ => v = some (.int 1)) D A) args s 601024 7293034 A t) : ∃ o, t.status = .running ∧ Ended t below o ∧ o = .returned (some (.int 1)) ∧ Framed s o t [] 601024 7293034 := by
  obtain ⟨o, h1, h2, ⟨⟨v, ad, g, ho, hv, -⟩, -⟩, L, h4, h5⟩ := h
  exact ⟨o, h1, h2, by rw [ho, hv], ql_framed h4 (fun q hq => hA _ (h5 q hq))⟩
theorem ql_W {p : Program} {l : Launch} {e : Env} {R : Room} {s : State} {m : MethodId} {args : Array Value} {below : List Frame} {meth : Method} {c : Code} {H : Heap} {locs : List Loc} {k n : Nat} {Q Q' : State → Prop} {f : JFrame} (hQ : ∀ t, Q t → Q' t) (h : W p l e R s m args below meth c H locs k n Q f) : W p l e R s m args below meth c H locs k n Q' f := fun T hT X => by
  obtain ⟨t, a, b⟩ := h T hT X
  exact ⟨t, a, hQ t b⟩
