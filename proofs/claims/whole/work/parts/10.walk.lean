/-! A WORLD BY LOGICAL PLACES: g says what lies at the place t, ad where the place is in the heap. -/
abbrev qw_G : Type := Nat → Option va_E
def qw_P (D : va_G) (ad : Nat → Nat) (g : qw_G) (H : Heap) : Prop := ∀ (t : Nat) (e : va_E), g t = some e → va_at D vwCl (ad t, e) H
/-- finitely many places, apart in the heap, each of a kind -/
def qw_D (A : Nat → Prop) (ad : Nat → Nat) (g : qw_G) : Prop := (∃ T : List Nat, T.Nodup ∧ ∀ t, g t ≠ none ↔ t ∈ T) ∧ (∀ t u, g t ≠ none → g u ≠ none → ad t = ad u → t = u) ∧ ∀ t, g t ≠ none → A (ad t)
def qw_A (ad : Nat → Nat) (g : qw_G) (sz : Nat) : Nat → Prop := fun q => (∃ t, g t ≠ none ∧ q = ad t) ∨ sz ≤ q
/-- the same places filled -/
def qw_S (g g' : qw_G) : Prop := ∀ t, g' t ≠ none ↔ g t ≠ none
def qw_ls (T : List Nat) (ad : Nat → Nat) (g : qw_G) : va_W := T.map (fun t => (ad t, (g t).getD (.inr (0, []))))
theorem qw_some {g : qw_G} {t : Nat} {e : va_E} (h : g t = some e) : g t ≠ none := by rw [h]; exact fun q => nomatch q
theorem qw_ls_at {T : List Nat} {ad : Nat → Nat} {g : qw_G} {k : Nat} {q : Nat × va_E} (hT : ∀ t, g t ≠ none ↔ t ∈ T) (h : (qw_ls T ad g)[k]? = some q) : ∃ t e, T[k]? = some t ∧ g t = some e ∧ q = (ad t, e) := by
  unfold qw_ls at h
  rw [List.getElem?_map] at h
  cases ht : T[k]? with
  | none => rw [ht] at h; cases h
  | some t =>
    rw [ht] at h
    have hm := (hT t).mpr (List.mem_of_getElem? ht)
    cases hg : g t with
    | none => exact absurd hg hm
    | some e =>
      refine ⟨t, e, rfl, hg, ?_⟩
      have h2 := Option.some.inj h
      rw [← h2]
      show (ad t, (g t).getD _) = _
      rw [hg]
      rfl
theorem qw_ls_get {T : List Nat} {ad : Nat → Nat} {g : qw_G} {t : Nat} {e : va_E} (hT : ∀ t, g t ≠ none ↔ t ∈ T) (h : g t = some e) : ∃ k : Nat, T[k]? = some t ∧ (qw_ls T ad g)[k]? = some (ad t, e) := by
  obtain ⟨k, hk⟩ := List.getElem?_of_mem ((hT t).mp (qw_some h))
  refine ⟨k, hk, ?_⟩
  unfold qw_ls
  rw [List.getElem?_map, hk]
  show some (ad t, (g t).getD _) = _
  rw [h]
  rfl
theorem qw_nd {T : List Nat} (h : T.Nodup) {i j t : Nat} (hi : T[i]? = some t) (hj : T[j]? = some t) : i = j := by
  exact (List.getElem?_inj (List.getElem?_eq_some_iff.mp hi).1 h).mp (hi.trans hj.symm)
theorem qw_open {D : va_G} {A : Nat → Prop} {ad : Nat → Nat} {g : qw_G} {H : Heap} (hP : qw_P D ad g H) (hD : qw_D A ad g) : ∃ ws : va_W, va_P D vwCl ws H ∧ va_D A ws ∧ (∀ t e, g t = some e → ∃ k : Nat, ws[k]? = some (ad t, e)) ∧
    (∀ (t : Nat) (e e' : va_E) (k : Nat) (H1 : Heap), g t = some e → ws[k]? = some (ad t, e) → va_P D vwCl (ws.set k (ad t, e')) H1 → qw_P D ad (va_up g t (some e')) H1) ∧
    (∀ (t q : Nat) (e : va_E) (H1 : Heap), g t = none → va_P D vwCl (ws ++ [(q, e)]) H1 → va_D A (ws ++ [(q, e)]) → qw_P D (va_up ad t q) (va_up g t (some e)) H1 ∧ qw_D A (va_up ad t q) (va_up g t (some e))) := by
  obtain ⟨⟨T, hn, hT⟩, hi, hA⟩ := hD
  have hDl : va_D A (qw_ls T ad g) := by
    refine ⟨fun i j p q h1 h2 h3 => ?_, fun k q h1 => ?_⟩
    · obtain ⟨t, e, a1, a2, rfl⟩ := qw_ls_at hT h1
      obtain ⟨u, e2, b1, b2, rfl⟩ := qw_ls_at hT h2
      have := hi t u (qw_some a2) (qw_some b2) h3
      subst this
      exact qw_nd hn a1 b1
    · obtain ⟨t, e, a1, a2, rfl⟩ := qw_ls_at hT h1
      exact hA t (qw_some a2)
  refine ⟨qw_ls T ad g, fun k q h => ?_, hDl, fun t e h => ?_, ?_, ?_⟩
  · obtain ⟨t, e, a1, a2, rfl⟩ := qw_ls_at hT h
    exact hP t e a2
  · obtain ⟨k, -, hk⟩ := qw_ls_get (ad := ad) hT h
    exact ⟨k, hk⟩
  · intro t e e' k H1 h hk hP1 u e2 hu
    have hl := (List.getElem?_eq_some_iff.mp hk).1
    by_cases hut : u = t
    · subst hut
      rw [va_up_self] at hu
      cases hu
      exact hP1 k _ (List.getElem?_set_self hl)
    · rw [va_up_ne _ _ hut] at hu
      obtain ⟨j, -, hj⟩ := qw_ls_get (ad := ad) hT hu
      refine hP1 j _ ?_
      rw [List.getElem?_set_ne]
      · exact hj
      · intro hkj
        subst hkj
        exact hut (hi u t (qw_some hu) (qw_some h) (congrArg Prod.fst (Option.some.inj (hj.symm.trans hk))))
  · intro t q e H1 h hP1 hD1
    have hlast : ((qw_ls T ad g) ++ [(q, e)])[(qw_ls T ad g).length]? = some (q, e) := by
      rw [List.getElem?_append_right (Nat.le_refl _), Nat.sub_self]; rfl
    have htT : t ∉ T := fun z => (hT t).mpr z h
    have hold : ∀ u, g u ≠ none → u ≠ t := fun u hu z => hu (z ▸ h)
    refine ⟨fun u e2 hu => ?_, ⟨t :: T, List.nodup_cons.mpr ⟨htT, hn⟩, fun u => ?_⟩, fun u v hu hv huv => ?_, fun u hu => ?_⟩
    · by_cases hut : u = t
      · subst hut
        rw [va_up_self] at hu
        cases hu
        have := hP1 _ _ hlast
        rw [va_up_self]
        exact this
      · rw [va_up_ne _ _ hut] at hu
        rw [va_up_ne _ _ hut]
        obtain ⟨j, -, hj⟩ := qw_ls_get (ad := ad) hT hu
        refine hP1 j _ ?_
        rw [List.getElem?_append_left (List.getElem?_eq_some_iff.mp hj).1]
        exact hj
    · by_cases hut : u = t
      · subst hut
        rw [va_up_self]
        exact ⟨fun _ => List.mem_cons_self, fun _ z => nomatch z⟩
      · rw [va_up_ne _ _ hut, hT u, List.mem_cons]
        exact ⟨fun z => Or.inr z, fun z => z.elim (fun z => absurd z hut) id⟩
    · have apart : ∀ u, g u ≠ none → ad u ≠ q := by
        intro u hu huq
        cases hg : g u with
        | none => exact hu hg
        | some e2 =>
          obtain ⟨j, -, hj⟩ := qw_ls_get (ad := ad) hT hg
          have hjl := (List.getElem?_eq_some_iff.mp hj).1
          have h1 : ((qw_ls T ad g) ++ [(q, e)])[j]? = some (ad u, e2) := by rw [List.getElem?_append_left hjl]; exact hj
          have := hD1.1 j _ _ _ h1 hlast huq
          omega
      by_cases hut : u = t <;> by_cases hvt : v = t
      · rw [hut, hvt]
      · exfalso
        subst hut
        rw [va_up_ne _ _ hvt] at hv
        rw [va_up_self, va_up_ne _ _ hvt] at huv
        exact apart v hv huv.symm
      · exfalso
        subst hvt
        rw [va_up_ne _ _ hut] at hu
        rw [va_up_self, va_up_ne _ _ hut] at huv
        exact apart u hu huv
      · rw [va_up_ne _ _ hut] at hu
        rw [va_up_ne _ _ hvt] at hv
        rw [va_up_ne _ _ hut, va_up_ne _ _ hvt] at huv
        exact hi u v hu hv huv
    · by_cases hut : u = t
      · subst hut
        rw [va_up_self]
        exact hD1.2 _ _ hlast
      · rw [va_up_ne _ _ hut] at hu
        rw [va_up_ne _ _ hut]
        exact hA u hu
theorem qw_D.put {A : Nat → Prop} {ad : Nat → Nat} {g : qw_G} {t : Nat} {e e' : va_E} (hD : qw_D A ad g) (h : g t = some e) : qw_D A ad (va_up g t (some e')) := by
  have key : ∀ u, va_up g t (some e') u ≠ none ↔ g u ≠ none := by
    intro u
    by_cases hut : u = t
    · subst hut
      rw [va_up_self]
      exact ⟨fun _ => qw_some h, fun _ z => nomatch z⟩
    · rw [va_up_ne _ _ hut]
  obtain ⟨⟨T, hn, hT⟩, hi, hA⟩ := hD
  exact ⟨⟨T, hn, fun u => (key u).trans (hT u)⟩, fun u v hu hv => hi u v ((key u).mp hu) ((key v).mp hv), fun u hu => hA u ((key u).mp hu)⟩
theorem qw_D.weaken {A B : Nat → Prop} {ad : Nat → Nat} {g : qw_G} (h : qw_D A ad g) (hAB : ∀ t, g t ≠ none → A (ad t) → B (ad t)) : qw_D B ad g := ⟨h.1, h.2.1, fun t ht => hAB t ht (h.2.2 t ht)⟩
theorem qw_D.self {A : Nat → Prop} {ad : Nat → Nat} {g : qw_G} {sz : Nat} (h : qw_D A ad g) : qw_D (qw_A ad g sz) ad g := ⟨h.1, h.2.1, fun t ht => Or.inl ⟨t, ht, rfl⟩⟩
theorem qw_P.kept {D : va_G} {ad : Nat → Nat} {g : qw_G} {H H1 : Heap} (h : qw_P D ad g H) (hq : ∀ t, g t ≠ none → H1[ad t]? = H[ad t]?) : qw_P D ad g H1 := fun t e ht => (h t e ht).kept (hq t (qw_some ht))
/-- the words that stay true whatever is resolved -/
def qw_ok : Cond → Bool
  | .fieldLinkNest .. => true
  | .methodLinkNest .. => true
  | .castable .. => true
  | .declares .. => true
  | w => goodWord w
def qw_Ts : List Cond := lw_tbl.filter qw_ok
theorem qw_warm {w : Cond} (h2 : qw_ok w = true) {args a' : Array Value} {s U : State} (hW : s.WarmedH U.vm) (h : w.before args s = true) : w.before a' U = true := by
  cases w with
  | fieldLinkNest => exact va_Nw.use rfl (va_Nw.warmF hW (va_Nw.of rfl h))
  | methodLinkNest => exact va_Nw.use rfl (va_Nw.warmM hW (va_Nw.of rfl h))
  | castable => exact va_Nw.use rfl (va_Nw.warmC hW (va_Nw.of rfl h))
  | declares => exact va_Nw.use rfl (va_Nw.warmD hW (va_Nw.of rfl h))
  | _ => exact word_at hW (good_of_word h2) h
def qw_tb (w : Cond) : Prop := w ∈ qw_Ts
theorem qw_tbi {w : Cond} (i : Nat) (h : lw_tbl[i]? = some w) (h2 : qw_ok w = true) : qw_tb w := List.mem_filter.mpr ⟨List.mem_of_getElem? h, h2⟩
theorem va_AOA.moved {ty : FieldType} {u U : State} (hvm : u.vm.Alike U.vm) (h : va_AOA ty u) : va_AOA ty U := arrayOver_alikeB hvm h

/-- the array classes: by D.1 from 20 on -/
def qw_ty (D : va_G) : List (ClassId × FieldType) := [(D.1 20, .int), (D.1 21, .boolean), (D.1 22, .long), (D.1 23, .object RX5), (D.1 24, .object RX4), (D.1 25, .object RX1), (D.1 26, .object RX3), (D.1 27, .array .int)]
def qw_E1 : String := "java/lang/IndexOutOfBoundsException"
def qw_E2 : String := "java/lang/IllegalArgumentException"
def qw_E3 : String := "java/lang/IllegalStateException"
def qw_strs : List (Nat × String) := [(207, "no such table"), (41, "no such place or goods"), (48, "amount is out of range"), (57, "there are 120 sales"), (74, "no such sale"), (80, "the sale was taken back"), (215, "no such entry"), (109, "level is out of range"), (111, "hours is out of range"), (116, "there are 40 embargoes"), (122, "no such embargo"), (127, "the embargo does not last"), (213, "no such level"), (151, "it would be behind 10000"), (183, "there is no report")]
/-- what the tables say, at any state of the run -/
def qw_K (D : va_G) (U : State) : Prop := va_K D vwCl (qw_ty D) U ∧ (∀ w ∈ qw_Ts, w.before #[] U = true) ∧ (∀ q ∈ qw_strs, ∃ a, vk_R RX6 q.1 q.2 a U) ∧ (va_Nc qw_E2 qw_E1 U ∧ va_Nc qw_E3 qw_E1 U ∧ va_Nc qw_E3 qw_E2 U) ∧ (va_AO RX5 U ∧ va_AO RX4 U ∧ va_AO RX1 U ∧ va_AO RX3 U ∧ va_AOA .int U)
theorem qw_K.warm {D : va_G} {s U : State} (hW : s.WarmedH U.vm) (h : qw_K D s) : qw_K D U := by
  obtain ⟨h1, h2, h3, ⟨h4, h5, h6⟩, h7, h8, h9, h10, h11⟩ := h
  exact ⟨va_K.moved hW.alike h1, fun w hw => qw_warm (List.mem_filter.mp hw).2 hW (h2 w hw), fun q hq => by obtain ⟨a, ha⟩ := h3 q hq; exact ⟨a, vk_R.warm hW ha⟩, ⟨h4.moved hW.alike, h5.moved hW.alike, h6.moved hW.alike⟩, h7.moved hW.alike, h8.moved hW.alike, h9.moved hW.alike, h10.moved hW.alike, h11.moved hW.alike⟩
theorem qw_K.same {D : va_G} {s U : State} (hv : U.vm = s.vm) (h : qw_K D s) : qw_K D U := h.warm (by rw [hv]; exact State.WarmedH.refl s)
theorem qw_K.use {D : va_G} {s : State} (h : qw_K D s) {args : Array Value} {w : Cond} (hw : qw_tb w) : w.before args s = true := qw_warm (List.mem_filter.mp hw).2 (State.WarmedH.refl s) (h.2.1 w hw)
theorem qw_K.ts {D : va_G} {s : State} (h : qw_K D s) {args : Array Value} : ∀ w ∈ qw_Ts, w.before args s = true := fun _ hw => h.use hw
/-- the two statics that an exception's constructor reads -/
def qw_Z (A : Nat → Prop) (U : State) (H : Heap) : Prop := vx_Zq Bundle.tN "UNASSIGNED_STACK" Bundle.steD A U H ∧ vx_Zq Bundle.tN "SUPPRESSED_SENTINEL" Bundle.listD A U H
theorem qw_Z.moved {A : Nat → Prop} {u U : State} {H : Heap} (hvm : u.vm.Alike U.vm) (h : qw_Z A u H) : qw_Z A U H := ⟨h.1.moved hvm, h.2.moved hvm⟩
theorem qw_Z.kept {A : Nat → Prop} {U : State} {H H1 : Heap} (h : qw_Z A U H) (hq : ∀ a : Nat, a < H.size → ¬ A a → H1[a]? = H[a]?) : qw_Z A U H1 := ⟨h.1.kept hq, h.2.kept hq⟩
theorem qw_Z.narrow {A B : Nat → Prop} {U : State} {H : Heap} (h : qw_Z A U H) (hAB : ∀ q, B q → A q) : qw_Z B U H := ⟨h.1.narrow hAB, h.2.narrow hAB⟩
/-- a contract's start -/
def qw_B (D : va_G) (ad : Nat → Nat) (g : qw_G) (sz : Nat) (U : State) : Prop := U.heap.size = sz ∧ qw_P D ad g U.heap ∧ qw_K D U ∧ qw_D (fun _ => True) ad g ∧ qw_Z (qw_A ad g sz) U U.heap
theorem qw_blind {D : va_G} {ad : Nat → Nat} {g : qw_G} {sz : Nat} {av : List Value} : FrameBlind (va_Pc av (qw_B D ad g sz)) := by
  intro a U f mk h
  obtain ⟨h0, h1, h2, h3, h4, h5⟩ := h
  exact ⟨h0, h1, h2, qw_K.same (s := U) rfl h3, h4, h5.moved (u := U) (U := U.calling f mk a) (Vm.Alike.refl U.vm)⟩
/-- a contract's end: what comes back, the places and what they hold -/
def qw_Q (post : Option Value → (Nat → Nat) → qw_G → Prop) (D : va_G) (A : Nat → Prop) : Array Value → State → Outcome → State → Prop := fun _ st oc t => (∃ (v : Option Value) (ad : Nat → Nat) (g : qw_G), oc = .returned v ∧ post v ad g ∧ qw_P D ad g t.heap ∧ qw_D A ad g) ∧ va_F A st t
/-- .. where it throws: the places hold what they held -/
def qw_X (px : String → Prop) (D : va_G) (A : Nat → Prop) (ad : Nat → Nat) (g : qw_G) : String → State → State → Prop := fun E st t => px E ∧ qw_P D ad g t.heap ∧ va_F A st t
def qw_M (l : Launch) (y : MethodName) (ws : List Cond) (rm : Room) (D : va_G) (ad : Nat → Nat) (g : qw_G) (av : List Value) (post : Option Value → (Nat → Nat) → qw_G → Prop) (mc ms : Nat) : Prop :=
  ∀ sz, Met l y ws rm (va_Pc av (qw_B D ad g sz)) (qw_Q post D (qw_A ad g sz)) mc ms (qw_A ad g sz)
def qw_T (l : Launch) (y : MethodName) (ws : List Cond) (rm : Room) (D : va_G) (ad : Nat → Nat) (g : qw_G) (av : List Value) (post : Option Value → (Nat → Nat) → qw_G → Prop) (px : String → Prop) (mc ms : Nat) : Prop :=
  ∀ sz, vx_Met l y ws rm (va_Pc av (qw_B D ad g sz)) (qw_Q post D (qw_A ad g sz)) (qw_X px D (qw_A ad g sz) ad g) mc ms (qw_A ad g sz)

section QWA
variable {p : Program} {l : Launch} {e : Env} {R : Room} {s : State} {m : MethodId} {args : Array Value} {below : List Frame} {meth : Method} {c : Code}
variable {D : va_G} {A : Nat → Prop} {nL : Nat} {Q : State → Prop} {k n : Nat} {ad : Nat → Nat} {g : qw_G} {pc : Nat} {lv : List (Nat × Value)} {st : List Value}
variable {cc : ByteArray} {own : String} {ret : Option FieldType}
/-- the walk's goal, at any heap that holds the places, any locals that hold lv -/
def qw_W (p : Program) (l : Launch) (e : Env) (R : Room) (s : State) (m : MethodId) (args : Array Value) (below : List Frame) (meth : Method) (c : Code) (D : va_G) (A : Nat → Prop) (nL : Nat) (Q : State → Prop) (k n : Nat) (ad : Nat → Nat) (g : qw_G) (pc : Nat) (lv : List (Nat × Value)) (st : List Value) : Prop :=
  ∀ (H : Heap) (locs : List Loc) (ls : Array Slot), qw_P D ad g H → qw_D A ad g → va_S A s.heap H locs → lv_has ls nL lv → W p l e R s m args below meth c H locs k n Q (F0 m pc ls st)
/-- .. with an exception of the class E over the frame -/
def qw_V (p : Program) (l : Launch) (e : Env) (R : Room) (s : State) (m : MethodId) (args : Array Value) (below : List Frame) (meth : Method) (c : Code) (D : va_G) (A : Nat → Prop) (nL : Nat) (Q : State → Prop) (k n : Nat) (ad : Nat → Nat) (g : qw_G) (pc : Nat) (lv : List (Nat × Value)) (st : List Value) (E : String) : Prop :=
  ∀ (H : Heap) (locs : List Loc) (ls : Array Slot) (ce : Cell) (q : Addr), qw_P D ad g H → qw_D A ad g → va_S A s.heap H locs → lv_has ls nL lv → H[q]? = some ce → ce.vm = .none → s.vm.findClass E = some ce.cls → vx_W p l e R s m args below meth c H locs k n Q (F0 m pc ls st) q
/-- what stays the same in a body -/
def qw_C (p : Program) (l : Launch) (s : State) (m : MethodId) (args : Array Value) (meth : Method) (c : Code) (D : va_G) (A : Nat → Prop) (nL : Nat) (cc : ByteArray) (own : String) (ret : Option FieldType) : Prop :=
  p.tables.exec = Jvm.exec ∧ c.code = cc ∧ c.maxLocals = nL ∧ s.vm.findClass own = some m.cls ∧ qw_K D s ∧ (∀ q, s.heap.size ≤ q → A q) ∧ qw_Z A s s.heap ∧ meth.locks = false ∧ meth.sig.returnType = ret ∧ l.stackTraces = false
theorem qw_widen {k' n' : Nat} (h1 : k ≤ k') (h2 : n ≤ n') (kk : qw_W p l e R s m args below meth c D A nL Q k' n' ad g pc lv st) : qw_W p l e R s m args below meth c D A nL Q k n ad g pc lv st := fun H locs ls hP hD hS hl => W.widen h1 h2 (kk H locs ls hP hD hS hl)
/-- other words for the same state -/
theorem qw_to {ad' : Nat → Nat} {g' : qw_G} {lv' : List (Nat × Value)} {st' : List Value} (h1 : ad = ad') (h2 : g = g') (h3 : lv = lv') (h4 : st = st') (kk : qw_W p l e R s m args below meth c D A nL Q k n ad' g' pc lv' st') : qw_W p l e R s m args below meth c D A nL Q k n ad g pc lv st := by subst h1; subst h2; subst h3; subst h4; exact kk
theorem qw_pick (ks : List Nat) {lv' : List (Nat × Value)} (h : lv_pick lv ks = lv') (kk : qw_W p l e R s m args below meth c D A nL Q k n ad g pc lv' st) : qw_W p l e R s m args below meth c D A nL Q k n ad g pc lv st := fun H locs ls hP hD hS hl => kk H locs ls hP hD hS (lv_sub hl ks h)

theorem qr_iconst (C : qw_C p l s m args meth c D A nL cc own ret) {z : Int} {v : Int32} (hd : decode cc pc = .ok (.iconst z, 1)) (hv : Int32.ofInt z = v) (kk : qw_W p l e R s m args below meth c D A nL Q k n ad g (pc + 1) lv (.int v :: st)) : qw_W p l e R s m args below meth c D A nL Q k n ad g pc lv st := fun H locs ls hP hD hS hl => lv_iconst C.1 C.2.1 hd hv (kk H locs ls hP hD hS hl)
theorem qr_bipush (C : qw_C p l s m args meth c D A nL cc own ret) {z : Int} {v : Int32} (hd : decode cc pc = .ok (.bipush z, 2)) (hv : (Int8.ofInt z).toInt32 = v) (kk : qw_W p l e R s m args below meth c D A nL Q k n ad g (pc + 2) lv (.int v :: st)) : qw_W p l e R s m args below meth c D A nL Q k n ad g pc lv st := fun H locs ls hP hD hS hl => lv_bipush C.1 C.2.1 hd hv (kk H locs ls hP hD hS hl)
theorem qr_sipush (C : qw_C p l s m args meth c D A nL cc own ret) {z : Int} {v : Int32} (hd : decode cc pc = .ok (.sipush z, 3)) (hv : (Int16.ofInt z).toInt32 = v) (kk : qw_W p l e R s m args below meth c D A nL Q k n ad g (pc + 3) lv (.int v :: st)) : qw_W p l e R s m args below meth c D A nL Q k n ad g pc lv st := fun H locs ls hP hD hS hl => lv_sipush C.1 C.2.1 hd hv (kk H locs ls hP hD hS hl)
theorem qr_lconst (C : qw_C p l s m args meth c D A nL cc own ret) {z : Fin 2} {v : Int64} (hd : decode cc pc = .ok (.lconst z, 1)) (hv : Int64.ofNat (z : Nat) = v) (kk : qw_W p l e R s m args below meth c D A nL Q k n ad g (pc + 1) lv (.long v :: st)) : qw_W p l e R s m args below meth c D A nL Q k n ad g pc lv st := fun H locs ls hP hD hS hl => lv_lconst C.1 C.2.1 hd hv (kk H locs ls hP hD hS hl)
theorem qr_ldc (C : qw_C p l s m args meth c D A nL cc own ret) {ix : Nat} {v : Int32} (hc : Jvm.Cond.constant own ix v ∈ qw_Ts) (hd : decode cc pc = .ok (.ldc ix, 2)) (kk : qw_W p l e R s m args below meth c D A nL Q k n ad g (pc + 2) lv (.int v :: st)) : qw_W p l e R s m args below meth c D A nL Q k n ad g pc lv st := fun H locs ls hP hD hS hl => lv_ldc C.1 C.2.1 C.2.2.2.1 (C.2.2.2.2.1.use hc) hd (kk H locs ls hP hD hS hl)
theorem qr_ldcw (C : qw_C p l s m args meth c D A nL cc own ret) {ix : Nat} {v : Int32} (hc : Jvm.Cond.constant own ix v ∈ qw_Ts) (hd : decode cc pc = .ok (.ldc_w ix, 3)) (kk : qw_W p l e R s m args below meth c D A nL Q k n ad g (pc + 3) lv (.int v :: st)) : qw_W p l e R s m args below meth c D A nL Q k n ad g pc lv st := fun H locs ls hP hD hS hl => lv_ldcw C.1 C.2.1 C.2.2.2.1 (C.2.2.2.2.1.use hc) hd (kk H locs ls hP hD hS hl)
theorem qr_iload_n (C : qw_C p l s m args meth c D A nL cc own ret) {j : Fin 4} {i : Nat} {x : Int32} (hd : decode cc pc = .ok (.iload_n j, 1)) (hj : (j : Nat) = i) (w : Nat) (hw : lv[w]? = some (i, .int x)) (kk : qw_W p l e R s m args below meth c D A nL Q k n ad g (pc + 1) lv (.int x :: st)) : qw_W p l e R s m args below meth c D A nL Q k n ad g pc lv st := fun H locs ls hP hD hS hl => lv_iload_n C.1 C.2.1 hd hj (lv_at hl w hw) (kk H locs ls hP hD hS hl)
theorem qr_iload (C : qw_C p l s m args meth c D A nL cc own ret) {i : Nat} {x : Int32} (hd : decode cc pc = .ok (.iload i, 2)) (w : Nat) (hw : lv[w]? = some (i, .int x)) (kk : qw_W p l e R s m args below meth c D A nL Q k n ad g (pc + 2) lv (.int x :: st)) : qw_W p l e R s m args below meth c D A nL Q k n ad g pc lv st := fun H locs ls hP hD hS hl => lv_iload C.1 C.2.1 hd (lv_at hl w hw) (kk H locs ls hP hD hS hl)
theorem qr_aload_n (C : qw_C p l s m args meth c D A nL cc own ret) {j : Fin 4} {i : Nat} {x : Nat} (hd : decode cc pc = .ok (.aload_n j, 1)) (hj : (j : Nat) = i) (w : Nat) (hw : lv[w]? = some (i, .ref x)) (kk : qw_W p l e R s m args below meth c D A nL Q k n ad g (pc + 1) lv (.ref x :: st)) : qw_W p l e R s m args below meth c D A nL Q k n ad g pc lv st := fun H locs ls hP hD hS hl => lv_aload_n C.1 C.2.1 hd hj (lv_at hl w hw) (kk H locs ls hP hD hS hl)
theorem qr_aload (C : qw_C p l s m args meth c D A nL cc own ret) {i : Nat} {x : Nat} (hd : decode cc pc = .ok (.aload i, 2)) (w : Nat) (hw : lv[w]? = some (i, .ref x)) (kk : qw_W p l e R s m args below meth c D A nL Q k n ad g (pc + 2) lv (.ref x :: st)) : qw_W p l e R s m args below meth c D A nL Q k n ad g pc lv st := fun H locs ls hP hD hS hl => lv_aload C.1 C.2.1 hd (lv_at hl w hw) (kk H locs ls hP hD hS hl)
theorem qr_istore_n (C : qw_C p l s m args meth c D A nL cc own ret) {j : Fin 4} {i : Nat} {x : Int32} {lv' : List (Nat × Value)} (hd : decode cc pc = .ok (.istore_n j, 1)) (hj : (j : Nat) = i) (hn : i < nL) (h : ((i, Value.int x) :: lv.filter (fun q => !(q.1 == i) && !(q.1 + 1 == i && q.2.category == 2))) = lv') (kk : qw_W p l e R s m args below meth c D A nL Q k n ad g (pc + 1) lv' st) : qw_W p l e R s m args below meth c D A nL Q k n ad g pc lv (.int x :: st) := fun H locs ls hP hD hS hl => lv_istore_n C.1 C.2.1 hd hj hl hn h (fun ls2 hl2 => kk H locs ls2 hP hD hS hl2)
theorem qr_istore (C : qw_C p l s m args meth c D A nL cc own ret) {i : Nat} {x : Int32} {lv' : List (Nat × Value)} (hd : decode cc pc = .ok (.istore i, 2)) (hn : i < nL) (h : ((i, Value.int x) :: lv.filter (fun q => !(q.1 == i) && !(q.1 + 1 == i && q.2.category == 2))) = lv') (kk : qw_W p l e R s m args below meth c D A nL Q k n ad g (pc + 2) lv' st) : qw_W p l e R s m args below meth c D A nL Q k n ad g pc lv (.int x :: st) := fun H locs ls hP hD hS hl => lv_istore C.1 C.2.1 hd hl hn h (fun ls2 hl2 => kk H locs ls2 hP hD hS hl2)
theorem qr_astore_n (C : qw_C p l s m args meth c D A nL cc own ret) {j : Fin 4} {i : Nat} {x : Nat} {lv' : List (Nat × Value)} (hd : decode cc pc = .ok (.astore_n j, 1)) (hj : (j : Nat) = i) (hn : i < nL) (h : ((i, Value.ref x) :: lv.filter (fun q => !(q.1 == i) && !(q.1 + 1 == i && q.2.category == 2))) = lv') (kk : qw_W p l e R s m args below meth c D A nL Q k n ad g (pc + 1) lv' st) : qw_W p l e R s m args below meth c D A nL Q k n ad g pc lv (.ref x :: st) := fun H locs ls hP hD hS hl => lv_astore_n C.1 C.2.1 hd hj hl hn h (fun ls2 hl2 => kk H locs ls2 hP hD hS hl2)
theorem qr_astore (C : qw_C p l s m args meth c D A nL cc own ret) {i : Nat} {x : Nat} {lv' : List (Nat × Value)} (hd : decode cc pc = .ok (.astore i, 2)) (hn : i < nL) (h : ((i, Value.ref x) :: lv.filter (fun q => !(q.1 == i) && !(q.1 + 1 == i && q.2.category == 2))) = lv') (kk : qw_W p l e R s m args below meth c D A nL Q k n ad g (pc + 2) lv' st) : qw_W p l e R s m args below meth c D A nL Q k n ad g pc lv (.ref x :: st) := fun H locs ls hP hD hS hl => lv_astore C.1 C.2.1 hd hl hn h (fun ls2 hl2 => kk H locs ls2 hP hD hS hl2)
theorem qr_iinc (C : qw_C p l s m args meth c D A nL cc own ret) {i w : Nat} {z : Int} {x v : Int32} {lv' : List (Nat × Value)} (hd : decode cc pc = .ok (.iinc i z, 3)) (hw : lv[w]? = some (i, .int x)) (hv : x + Int32.ofInt z = v) (hn : i < nL) (h : ((i, Value.int v) :: lv.filter (fun q => !(q.1 == i) && !(q.1 + 1 == i && q.2.category == 2))) = lv') (kk : qw_W p l e R s m args below meth c D A nL Q k n ad g (pc + 3) lv' st) : qw_W p l e R s m args below meth c D A nL Q k n ad g pc lv st := fun H locs ls hP hD hS hl => lv_iinc C.1 C.2.1 hd hl hw hv hn h (fun ls2 hl2 => kk H locs ls2 hP hD hS hl2)
theorem qr_iadd (C : qw_C p l s m args meth c D A nL cc own ret) {x y : Int32} (hd : decode cc pc = .ok (.iadd, 1)) (kk : qw_W p l e R s m args below meth c D A nL Q k n ad g (pc + 1) lv (.int (x + y) :: st)) : qw_W p l e R s m args below meth c D A nL Q k n ad g pc lv (.int y :: .int x :: st) := fun H locs ls hP hD hS hl => lv_iadd C.1 C.2.1 hd (kk H locs ls hP hD hS hl)
theorem qr_isub (C : qw_C p l s m args meth c D A nL cc own ret) {x y : Int32} (hd : decode cc pc = .ok (.isub, 1)) (kk : qw_W p l e R s m args below meth c D A nL Q k n ad g (pc + 1) lv (.int (x - y) :: st)) : qw_W p l e R s m args below meth c D A nL Q k n ad g pc lv (.int y :: .int x :: st) := fun H locs ls hP hD hS hl => lv_isub C.1 C.2.1 hd (kk H locs ls hP hD hS hl)
theorem qr_imul (C : qw_C p l s m args meth c D A nL cc own ret) {x y : Int32} (hd : decode cc pc = .ok (.imul, 1)) (kk : qw_W p l e R s m args below meth c D A nL Q k n ad g (pc + 1) lv (.int (x * y) :: st)) : qw_W p l e R s m args below meth c D A nL Q k n ad g pc lv (.int y :: .int x :: st) := fun H locs ls hP hD hS hl => lv_imul C.1 C.2.1 hd (kk H locs ls hP hD hS hl)
theorem qr_iand (C : qw_C p l s m args meth c D A nL cc own ret) {x y : Int32} (hd : decode cc pc = .ok (.iand, 1)) (kk : qw_W p l e R s m args below meth c D A nL Q k n ad g (pc + 1) lv (.int (x &&& y) :: st)) : qw_W p l e R s m args below meth c D A nL Q k n ad g pc lv (.int y :: .int x :: st) := fun H locs ls hP hD hS hl => lv_iand C.1 C.2.1 hd (kk H locs ls hP hD hS hl)
theorem qr_ior (C : qw_C p l s m args meth c D A nL cc own ret) {x y : Int32} (hd : decode cc pc = .ok (.ior, 1)) (kk : qw_W p l e R s m args below meth c D A nL Q k n ad g (pc + 1) lv (.int (x ||| y) :: st)) : qw_W p l e R s m args below meth c D A nL Q k n ad g pc lv (.int y :: .int x :: st) := fun H locs ls hP hD hS hl => lv_ior C.1 C.2.1 hd (kk H locs ls hP hD hS hl)
theorem qr_ixor (C : qw_C p l s m args meth c D A nL cc own ret) {x y : Int32} (hd : decode cc pc = .ok (.ixor, 1)) (kk : qw_W p l e R s m args below meth c D A nL Q k n ad g (pc + 1) lv (.int (x ^^^ y) :: st)) : qw_W p l e R s m args below meth c D A nL Q k n ad g pc lv (.int y :: .int x :: st) := fun H locs ls hP hD hS hl => lv_ixor C.1 C.2.1 hd (kk H locs ls hP hD hS hl)
theorem qr_ishl (C : qw_C p l s m args meth c D A nL cc own ret) {x y : Int32} (hd : decode cc pc = .ok (.ishl, 1)) (kk : qw_W p l e R s m args below meth c D A nL Q k n ad g (pc + 1) lv (.int (x <<< (y &&& 31)) :: st)) : qw_W p l e R s m args below meth c D A nL Q k n ad g pc lv (.int y :: .int x :: st) := fun H locs ls hP hD hS hl => lv_ishl C.1 C.2.1 hd (kk H locs ls hP hD hS hl)
theorem qr_ishr (C : qw_C p l s m args meth c D A nL cc own ret) {x y : Int32} (hd : decode cc pc = .ok (.ishr, 1)) (kk : qw_W p l e R s m args below meth c D A nL Q k n ad g (pc + 1) lv (.int (x >>> (y &&& 31)) :: st)) : qw_W p l e R s m args below meth c D A nL Q k n ad g pc lv (.int y :: .int x :: st) := fun H locs ls hP hD hS hl => lv_ishr C.1 C.2.1 hd (kk H locs ls hP hD hS hl)
theorem qr_idiv (C : qw_C p l s m args meth c D A nL cc own ret) {x y : Int32} (hd : decode cc pc = .ok (.idiv, 1)) (hne : ¬ y = 0) (kk : qw_W p l e R s m args below meth c D A nL Q k n ad g (pc + 1) lv (.int (x / y) :: st)) : qw_W p l e R s m args below meth c D A nL Q k n ad g pc lv (.int y :: .int x :: st) := fun H locs ls hP hD hS hl => lv_idiv C.1 C.2.1 hd hne (kk H locs ls hP hD hS hl)
theorem qr_irem (C : qw_C p l s m args meth c D A nL cc own ret) {x y : Int32} (hd : decode cc pc = .ok (.irem, 1)) (hne : ¬ y = 0) (kk : qw_W p l e R s m args below meth c D A nL Q k n ad g (pc + 1) lv (.int (x - x / y * y) :: st)) : qw_W p l e R s m args below meth c D A nL Q k n ad g pc lv (.int y :: .int x :: st) := fun H locs ls hP hD hS hl => lv_irem C.1 C.2.1 hd hne (kk H locs ls hP hD hS hl)
theorem qr_iushr (C : qw_C p l s m args meth c D A nL cc own ret) {x y : Int32} (hd : decode cc pc = .ok (.iushr, 1)) (kk : qw_W p l e R s m args below meth c D A nL Q k n ad g (pc + 1) lv (.int ((x.toUInt32 >>> (y.toUInt32 &&& Int32.toUInt32 31)).toInt32) :: st)) : qw_W p l e R s m args below meth c D A nL Q k n ad g pc lv (.int y :: .int x :: st) := fun H locs ls hP hD hS hl => lv_iushr C.1 C.2.1 hd rfl (kk H locs ls hP hD hS hl)
theorem qr_ineg (C : qw_C p l s m args meth c D A nL cc own ret) {x : Int32} (hd : decode cc pc = .ok (.ineg, 1)) (kk : qw_W p l e R s m args below meth c D A nL Q k n ad g (pc + 1) lv (.int (-x) :: st)) : qw_W p l e R s m args below meth c D A nL Q k n ad g pc lv (.int x :: st) := fun H locs ls hP hD hS hl => lv_ineg C.1 C.2.1 hd (kk H locs ls hP hD hS hl)
theorem qr_i2l (C : qw_C p l s m args meth c D A nL cc own ret) {x : Int32} (hd : decode cc pc = .ok (.i2l, 1)) (kk : qw_W p l e R s m args below meth c D A nL Q k n ad g (pc + 1) lv (.long x.toInt64 :: st)) : qw_W p l e R s m args below meth c D A nL Q k n ad g pc lv (.int x :: st) := fun H locs ls hP hD hS hl => lv_i2l C.1 C.2.1 hd rfl (kk H locs ls hP hD hS hl)
theorem qr_lcmp (C : qw_C p l s m args meth c D A nL cc own ret) {x y : Int64} (hd : decode cc pc = .ok (.lcmp, 1)) (kk : qw_W p l e R s m args below meth c D A nL Q k n ad g (pc + 1) lv (.int (lg_cmp x y) :: st)) : qw_W p l e R s m args below meth c D A nL Q k n ad g pc lv (.long y :: .long x :: st) := fun H locs ls hP hD hS hl => W.lcmp C.1 C.2.1 hd (kk H locs ls hP hD hS hl)
theorem qr_dup (C : qw_C p l s m args meth c D A nL cc own ret) {v : Value} (hd : decode cc pc = .ok (.dup, 1)) (hv : v.category = 1) (kk : qw_W p l e R s m args below meth c D A nL Q k n ad g (pc + 1) lv (v :: v :: st)) : qw_W p l e R s m args below meth c D A nL Q k n ad g pc lv (v :: st) := fun H locs ls hP hD hS hl => lv_dup C.1 C.2.1 hd hv (kk H locs ls hP hD hS hl)
theorem qr_pop (C : qw_C p l s m args meth c D A nL cc own ret) {v : Value} (hd : decode cc pc = .ok (.pop, 1)) (hv : v.category = 1) (kk : qw_W p l e R s m args below meth c D A nL Q k n ad g (pc + 1) lv st) : qw_W p l e R s m args below meth c D A nL Q k n ad g pc lv (v :: st) := fun H locs ls hP hD hS hl => lv_pop C.1 C.2.1 hd hv (kk H locs ls hP hD hS hl)
theorem qr_dup_x1 (C : qw_C p l s m args meth c D A nL cc own ret) {v u : Value} (hd : decode cc pc = .ok (.dup_x1, 1)) (hv : v.category = 1) (hu : u.category = 1) (kk : qw_W p l e R s m args below meth c D A nL Q k n ad g (pc + 1) lv (v :: u :: v :: st)) : qw_W p l e R s m args below meth c D A nL Q k n ad g pc lv (v :: u :: st) := fun H locs ls hP hD hS hl => lv_dup_x1 C.1 C.2.1 hd hv hu (kk H locs ls hP hD hS hl)
theorem qr_dup2 (C : qw_C p l s m args meth c D A nL cc own ret) {v u : Value} (hd : decode cc pc = .ok (.dup2, 1)) (hv : v.category = 1) (hu : u.category = 1) (kk : qw_W p l e R s m args below meth c D A nL Q k n ad g (pc + 1) lv (v :: u :: v :: u :: st)) : qw_W p l e R s m args below meth c D A nL Q k n ad g pc lv (v :: u :: st) := fun H locs ls hP hD hS hl => lv_dup2_11 C.1 C.2.1 hd hv hu (kk H locs ls hP hD hS hl)
theorem qr_goto (C : qw_C p l s m args meth c D A nL cc own ret) {off : Int} {tgt : Nat} (hd : decode cc pc = .ok (.goto off, 3)) (ht : (pc : Int) + off = (tgt : Int)) (kk : qw_W p l e R s m args below meth c D A nL Q k n ad g tgt lv st) : qw_W p l e R s m args below meth c D A nL Q k n ad g pc lv st := fun H locs ls hP hD hS hl => lv_goto C.1 C.2.1 hd ht (kk H locs ls hP hD hS hl)
theorem qr_if_eq (C : qw_C p l s m args meth c D A nL cc own ret) {x : Int32} {off : Int} (tgt : Nat) (hd : decode cc pc = .ok (.ifCond .eq off, 3)) (ht : (pc : Int) + off = (tgt : Int)) (kt : x = 0 → qw_W p l e R s m args below meth c D A nL Q k n ad g tgt lv st) (kf : ¬ x = 0 → qw_W p l e R s m args below meth c D A nL Q k n ad g (pc + 3) lv st) : qw_W p l e R s m args below meth c D A nL Q k n ad g pc lv (.int x :: st) := fun H locs ls hP hD hS hl => lv_if_eq C.1 C.2.1 hd ht (fun z => kt z H locs ls hP hD hS hl) (fun z => kf z H locs ls hP hD hS hl)
theorem qr_icmp_eq (C : qw_C p l s m args meth c D A nL cc own ret) {x y : Int32} {off : Int} (tgt : Nat) (hd : decode cc pc = .ok (.if_icmp .eq off, 3)) (ht : (pc : Int) + off = (tgt : Int)) (kt : x = y → qw_W p l e R s m args below meth c D A nL Q k n ad g tgt lv st) (kf : ¬ x = y → qw_W p l e R s m args below meth c D A nL Q k n ad g (pc + 3) lv st) : qw_W p l e R s m args below meth c D A nL Q k n ad g pc lv (.int y :: .int x :: st) := fun H locs ls hP hD hS hl => lv_icmp_eq C.1 C.2.1 hd ht (fun z => kt z H locs ls hP hD hS hl) (fun z => kf z H locs ls hP hD hS hl)
theorem qr_if_ne (C : qw_C p l s m args meth c D A nL cc own ret) {x : Int32} {off : Int} (tgt : Nat) (hd : decode cc pc = .ok (.ifCond .ne off, 3)) (ht : (pc : Int) + off = (tgt : Int)) (kt : ¬ x = 0 → qw_W p l e R s m args below meth c D A nL Q k n ad g tgt lv st) (kf : x = 0 → qw_W p l e R s m args below meth c D A nL Q k n ad g (pc + 3) lv st) : qw_W p l e R s m args below meth c D A nL Q k n ad g pc lv (.int x :: st) := fun H locs ls hP hD hS hl => lv_if_ne C.1 C.2.1 hd ht (fun z => kt z H locs ls hP hD hS hl) (fun z => kf z H locs ls hP hD hS hl)
theorem qr_icmp_ne (C : qw_C p l s m args meth c D A nL cc own ret) {x y : Int32} {off : Int} (tgt : Nat) (hd : decode cc pc = .ok (.if_icmp .ne off, 3)) (ht : (pc : Int) + off = (tgt : Int)) (kt : ¬ x = y → qw_W p l e R s m args below meth c D A nL Q k n ad g tgt lv st) (kf : x = y → qw_W p l e R s m args below meth c D A nL Q k n ad g (pc + 3) lv st) : qw_W p l e R s m args below meth c D A nL Q k n ad g pc lv (.int y :: .int x :: st) := fun H locs ls hP hD hS hl => lv_icmp_ne C.1 C.2.1 hd ht (fun z => kt z H locs ls hP hD hS hl) (fun z => kf z H locs ls hP hD hS hl)
theorem qr_if_lt (C : qw_C p l s m args meth c D A nL cc own ret) {x : Int32} {off : Int} (tgt : Nat) (hd : decode cc pc = .ok (.ifCond .lt off, 3)) (ht : (pc : Int) + off = (tgt : Int)) (kt : x < 0 → qw_W p l e R s m args below meth c D A nL Q k n ad g tgt lv st) (kf : ¬ x < 0 → qw_W p l e R s m args below meth c D A nL Q k n ad g (pc + 3) lv st) : qw_W p l e R s m args below meth c D A nL Q k n ad g pc lv (.int x :: st) := fun H locs ls hP hD hS hl => lv_if_lt C.1 C.2.1 hd ht (fun z => kt z H locs ls hP hD hS hl) (fun z => kf z H locs ls hP hD hS hl)
theorem qr_icmp_lt (C : qw_C p l s m args meth c D A nL cc own ret) {x y : Int32} {off : Int} (tgt : Nat) (hd : decode cc pc = .ok (.if_icmp .lt off, 3)) (ht : (pc : Int) + off = (tgt : Int)) (kt : x < y → qw_W p l e R s m args below meth c D A nL Q k n ad g tgt lv st) (kf : ¬ x < y → qw_W p l e R s m args below meth c D A nL Q k n ad g (pc + 3) lv st) : qw_W p l e R s m args below meth c D A nL Q k n ad g pc lv (.int y :: .int x :: st) := fun H locs ls hP hD hS hl => lv_icmp_lt C.1 C.2.1 hd ht (fun z => kt z H locs ls hP hD hS hl) (fun z => kf z H locs ls hP hD hS hl)
theorem qr_if_ge (C : qw_C p l s m args meth c D A nL cc own ret) {x : Int32} {off : Int} (tgt : Nat) (hd : decode cc pc = .ok (.ifCond .ge off, 3)) (ht : (pc : Int) + off = (tgt : Int)) (kt : 0 ≤ x → qw_W p l e R s m args below meth c D A nL Q k n ad g tgt lv st) (kf : ¬ 0 ≤ x → qw_W p l e R s m args below meth c D A nL Q k n ad g (pc + 3) lv st) : qw_W p l e R s m args below meth c D A nL Q k n ad g pc lv (.int x :: st) := fun H locs ls hP hD hS hl => lv_if_ge C.1 C.2.1 hd ht (fun z => kt z H locs ls hP hD hS hl) (fun z => kf z H locs ls hP hD hS hl)
theorem qr_icmp_ge (C : qw_C p l s m args meth c D A nL cc own ret) {x y : Int32} {off : Int} (tgt : Nat) (hd : decode cc pc = .ok (.if_icmp .ge off, 3)) (ht : (pc : Int) + off = (tgt : Int)) (kt : y ≤ x → qw_W p l e R s m args below meth c D A nL Q k n ad g tgt lv st) (kf : ¬ y ≤ x → qw_W p l e R s m args below meth c D A nL Q k n ad g (pc + 3) lv st) : qw_W p l e R s m args below meth c D A nL Q k n ad g pc lv (.int y :: .int x :: st) := fun H locs ls hP hD hS hl => lv_icmp_ge C.1 C.2.1 hd ht (fun z => kt z H locs ls hP hD hS hl) (fun z => kf z H locs ls hP hD hS hl)
theorem qr_if_gt (C : qw_C p l s m args meth c D A nL cc own ret) {x : Int32} {off : Int} (tgt : Nat) (hd : decode cc pc = .ok (.ifCond .gt off, 3)) (ht : (pc : Int) + off = (tgt : Int)) (kt : 0 < x → qw_W p l e R s m args below meth c D A nL Q k n ad g tgt lv st) (kf : ¬ 0 < x → qw_W p l e R s m args below meth c D A nL Q k n ad g (pc + 3) lv st) : qw_W p l e R s m args below meth c D A nL Q k n ad g pc lv (.int x :: st) := fun H locs ls hP hD hS hl => lv_if_gt C.1 C.2.1 hd ht (fun z => kt z H locs ls hP hD hS hl) (fun z => kf z H locs ls hP hD hS hl)
theorem qr_icmp_gt (C : qw_C p l s m args meth c D A nL cc own ret) {x y : Int32} {off : Int} (tgt : Nat) (hd : decode cc pc = .ok (.if_icmp .gt off, 3)) (ht : (pc : Int) + off = (tgt : Int)) (kt : y < x → qw_W p l e R s m args below meth c D A nL Q k n ad g tgt lv st) (kf : ¬ y < x → qw_W p l e R s m args below meth c D A nL Q k n ad g (pc + 3) lv st) : qw_W p l e R s m args below meth c D A nL Q k n ad g pc lv (.int y :: .int x :: st) := fun H locs ls hP hD hS hl => lv_icmp_gt C.1 C.2.1 hd ht (fun z => kt z H locs ls hP hD hS hl) (fun z => kf z H locs ls hP hD hS hl)
theorem qr_if_le (C : qw_C p l s m args meth c D A nL cc own ret) {x : Int32} {off : Int} (tgt : Nat) (hd : decode cc pc = .ok (.ifCond .le off, 3)) (ht : (pc : Int) + off = (tgt : Int)) (kt : x ≤ 0 → qw_W p l e R s m args below meth c D A nL Q k n ad g tgt lv st) (kf : ¬ x ≤ 0 → qw_W p l e R s m args below meth c D A nL Q k n ad g (pc + 3) lv st) : qw_W p l e R s m args below meth c D A nL Q k n ad g pc lv (.int x :: st) := fun H locs ls hP hD hS hl => lv_if_le C.1 C.2.1 hd ht (fun z => kt z H locs ls hP hD hS hl) (fun z => kf z H locs ls hP hD hS hl)
theorem qr_icmp_le (C : qw_C p l s m args meth c D A nL cc own ret) {x y : Int32} {off : Int} (tgt : Nat) (hd : decode cc pc = .ok (.if_icmp .le off, 3)) (ht : (pc : Int) + off = (tgt : Int)) (kt : x ≤ y → qw_W p l e R s m args below meth c D A nL Q k n ad g tgt lv st) (kf : ¬ x ≤ y → qw_W p l e R s m args below meth c D A nL Q k n ad g (pc + 3) lv st) : qw_W p l e R s m args below meth c D A nL Q k n ad g pc lv (.int y :: .int x :: st) := fun H locs ls hP hD hS hl => lv_icmp_le C.1 C.2.1 hd ht (fun z => kt z H locs ls hP hD hS hl) (fun z => kf z H locs ls hP hD hS hl)
theorem qr_topi {x : Int32} (kk : ∀ y : Int32, y = x → qw_W p l e R s m args below meth c D A nL Q k n ad g pc lv (.int y :: st)) : qw_W p l e R s m args below meth c D A nL Q k n ad g pc lv (.int x :: st) := kk x rfl
end QWA
