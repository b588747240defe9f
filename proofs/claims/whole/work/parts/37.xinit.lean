/-! many places at once: an array of arrays -/
def qw_upN {α : Type} (f : Nat → α) (b n : Nat) (h : Nat → α) : Nat → α := fun t => if b ≤ t ∧ t < b + n then h (t - b) else f t
theorem qw_upN_in {α : Type} {f : Nat → α} {b n : Nat} {h : Nat → α} {i : Nat} (hi : i < n) : qw_upN f b n h (b + i) = h i := by
  unfold qw_upN
  rw [if_pos ⟨by omega, by omega⟩, show b + i - b = i by omega]
theorem qw_upN_out {α : Type} {f : Nat → α} {b n : Nat} {h : Nat → α} {t : Nat} (ht : t < b ∨ b + n ≤ t) : qw_upN f b n h t = f t := if_neg (by omega)
theorem qw_upN_s {α : Type} {f : Nat → α} {b n : Nat} {h : Nat → α} : qw_upN f b (n + 1) h = va_up (qw_upN f b n h) (b + n) (h n) := by
  funext t
  by_cases e : t = b + n
  · subst e; rw [va_up_self, qw_upN_in (by omega)]
  · rw [va_up_ne _ _ e]
    by_cases hi : b ≤ t ∧ t < b + n
    · unfold qw_upN; rw [if_pos hi, if_pos ⟨hi.1, by omega⟩]
    · unfold qw_upN; rw [if_neg hi, if_neg (by omega)]
theorem qw_push1 {D : va_G} {A : Nat → Prop} {ad : Nat → Nat} {g : qw_G} {H : Heap} {t q : Nat} {e : va_E} (hP : qw_P D ad g H) (hD : qw_D A ad g) (hf : g t = none) (he : va_at D vwCl (q, e) H) (hq : ∀ u, g u ≠ none → q ≠ ad u) (hA : A q) : qw_P D (va_up ad t q) (va_up g t (some e)) H ∧ qw_D A (va_up ad t q) (va_up g t (some e)) := by
  refine ⟨fun u e2 hu => ?_, ?_, ?_, ?_⟩
  · by_cases h : u = t
    · subst h; rw [va_up_self] at hu ⊢; cases hu; exact he
    · rw [va_up_ne _ _ h] at hu ⊢; exact hP u e2 hu
  · obtain ⟨T, h1, h2⟩ := hD.1
    refine ⟨t :: T, List.nodup_cons.mpr ⟨fun h => (h2 t).mpr h hf, h1⟩, fun u => ?_⟩
    by_cases h : u = t
    · subst h; rw [va_up_self]; exact ⟨fun _ => List.mem_cons_self, fun _ h => nomatch h⟩
    · rw [va_up_ne _ _ h, h2 u]; exact ⟨fun h3 => List.mem_cons_of_mem _ h3, fun h3 => (List.mem_cons.mp h3).resolve_left h⟩
  · intro u v hu hv huv
    by_cases h : u = t
    · by_cases h2 : v = t
      · exact h.trans h2.symm
      · subst h; rw [va_up_self, va_up_ne _ _ h2] at huv; rw [va_up_ne _ _ h2] at hv; exact absurd huv (hq v hv)
    · by_cases h2 : v = t
      · subst h2; rw [va_up_self, va_up_ne _ _ h] at huv; rw [va_up_ne _ _ h] at hu; exact absurd huv.symm (hq u hu)
      · rw [va_up_ne _ _ h, va_up_ne _ _ h2] at huv; rw [va_up_ne _ _ h] at hu; rw [va_up_ne _ _ h2] at hv; exact hD.2.1 u v hu hv huv
  · intro u hu
    by_cases h : u = t
    · subst h; rw [va_up_self]; exact hA
    · rw [va_up_ne _ _ h] at hu ⊢; exact hD.2.2 u hu
theorem qw_pushN {D : va_G} {A : Nat → Prop} {ad : Nat → Nat} {g : qw_G} {H : Heap} {b n : Nat} {r : Nat → Nat} {e : va_E} (hP : qw_P D ad g H) (hD : qw_D A ad g) (hf : ∀ i, i < n → g (b + i) = none) (he : ∀ i, i < n → va_at D vwCl (r i, e) H) (hr : ∀ i j : Nat, i < n → j < n → r i = r j → i = j) (hq : ∀ i u, i < n → g u ≠ none → r i ≠ ad u) (hA : ∀ i, i < n → A (r i)) : qw_P D (qw_upN ad b n r) (qw_upN g b n (fun _ => some e)) H ∧ qw_D A (qw_upN ad b n r) (qw_upN g b n (fun _ => some e)) := by
  induction n with
  | zero =>
    have h1 : qw_upN ad b 0 r = ad := by funext t; exact qw_upN_out (by omega)
    have h2 : qw_upN g b 0 (fun _ => some e) = g := by funext t; exact qw_upN_out (by omega)
    rw [h1, h2]; exact ⟨hP, hD⟩
  | succ n ih =>
    obtain ⟨a1, a2⟩ := ih (fun i hi => hf i (by omega)) (fun i hi => he i (by omega)) (fun i j hi hj h => hr i j (by omega) (by omega) h) (fun i u hi h => hq i u (by omega) h) (fun i hi => hA i (by omega))
    rw [qw_upN_s, qw_upN_s]
    refine qw_push1 a1 a2 ?_ (he n (by omega)) ?_ (hA n (by omega))
    · rw [qw_upN_out (by omega)]; exact hf n (by omega)
    · intro u hu h
      by_cases hi : b ≤ u ∧ u < b + n
      · obtain ⟨i, rfl⟩ := Nat.exists_eq_add_of_le hi.1
        rw [qw_upN_in (by omega)] at h
        have := hr n i (by omega) (by omega) h
        omega
      · rw [qw_upN_out (by omega)] at h hu
        exact hq n u (by omega) hu h
section
variable {p : Program} {l : Launch} {e : Env} {R : Room} {s : State} {m : MethodId} {args : Array Value} {below : List Frame} {meth : Method} {c : Code} {D : va_G} {A : Nat → Prop} {nL : Nat} {Q : State → Prop} {k n : Nat} {ad : Nat → Nat} {g : qw_G} {pc : Nat} {lv : List (Nat × Value)} {st : List Value} {cc : ByteArray} {own : String} {ret : Option FieldType}
theorem qr_mna (C : qw_C p l s m args meth c D A nL cc own ret) {ix N K : Nat} {x y : Int32} (hw : qw_tb (.classLink own ix ("[" ++ (FieldType.array .int).toString))) (hwA : qw_tb (.arrayClass .int)) (hx : x = nI N) (hy : y = nI K) (hN : Nat.ble N 10000 = true) (hK : Nat.ble K 10000 = true) (hz : ∀ c : ClassId, Jvm.Free.Multi.innerC c K (defaultValue .int) = vp_cell c (K, .inl (fun _ => 0))) (t b : Nat) (hf : g t = none) (hfb : ∀ i, i < N → g (b + i) = none) (htb : t < b ∨ b + N ≤ t) (hk : k + (1 + N) ≤ R.cells) (hn : n + (N + N * K) ≤ R.slots) (hd : decode cc pc = .ok (.multianewarray ix 2, 4))
    (kk : ∀ q r, qw_W p l e R s m args below meth c D A nL Q (k + 1 + N) (n + N + N * K) (qw_upN (va_up ad t q) b N r) (qw_upN (va_up g t (some (.inl (D.1 27, N, .inr (.inr (.inr (.inr (fun i => if i < N then some (r i) else none)))))))) b N (fun _ => some (.inl (D.1 20, K, .inl (fun _ => 0))))) (pc + 4) lv (.ref q :: st)) : qw_W p l e R s m args below meth c D A nL Q k n ad g pc lv (.int y :: .int x :: st) := by
  have hN2 : N ≤ 10000 := Nat.le_of_ble_eq_true hN
  have hK2 : K ≤ 10000 := Nat.le_of_ble_eq_true hK
  intro H locs ls hP hD hS hl
  obtain ⟨ws, hPw, hDw, hget, -, hpush⟩ := qw_open hP hD
  refine va_mna (X := ws) (L := []) (f := fun _ => .inr (0, [])) (z := (K, .inl (fun _ => 0))) (ty := .int) (cy := D.1 20) C.1 C.2.1 C.2.2.2.1 (C.2.2.2.2.1.use hw) C.2.2.2.2.1.2.2.2.2.2.2.2.2 (C.2.2.2.2.1.use hwA) ((C.2.2.2.2.1.1.2 0 (D.1 20, .int) rfl).2 : s.vm.findClass _ = some (D.1 20)) C.2.2.2.2.1.1 (by simpa [va_pl] using hPw) (by simpa [va_pl] using hDw) hS C.2.2.2.2.2.1 (by rw [hx]; exact nI_pos (by omega)) (by rw [hy]; exact nI_pos (by omega)) (by rw [hx]; exact nI_clamp (by omega)) (by rw [hy]; exact nI_clamp (by omega)) (by omega) (by show K * 4 ≤ _; omega) (by omega) rfl rfl hk hn hz hd (fun q r cA H1 hr hrL hK1 hP1 hD1 hS1 => ?_)
  have hc : cA = D.1 27 := qw_cls ((hK1.2 8 (cA, .array .int) rfl).2 : s.vm.findClass _ = some cA) ((C.2.2.2.2.1.1.2 7 (D.1 27, .array .int) rfl).2 : s.vm.findClass _ = some (D.1 27))
  subst hc
  generalize hE : (Sum.inl (D.1 27, N, .inr (.inr (.inr (.inr (fun i => if i < N then some (r i) else none))))) : va_E) = E1 at hP1 hD1
  have hm : ∀ i, i < N → (va_pl ([] ++ (List.range N).map r) (vr_up (fun _ => .inr (0, [])) ((List.range N).map r) (.inl (D.1 20, (K, .inl (fun _ => 0))))))[i]? = some (r i, .inl (D.1 20, (K, .inl (fun _ => 0)))) := by
    intro i hi
    unfold va_pl
    rw [List.getElem?_map, List.nil_append, List.getElem?_map, List.getElem?_range hi]
    simp only [Option.map_some]
    rw [show vr_up (fun _ => (.inr (0, []) : va_E)) ((List.range N).map r) (.inl (D.1 20, (K, .inl (fun _ => 0)))) (r i) = .inl (D.1 20, (K, .inl (fun _ => 0))) from if_pos (List.mem_map.mpr ⟨i, List.mem_range.mpr hi, rfl⟩)]
  generalize hL : va_pl ([] ++ (List.range N).map r) (vr_up (fun _ => .inr (0, [])) ((List.range N).map r) (.inl (D.1 20, (K, .inl (fun _ => 0))))) = LL at hP1 hD1 hm
  have h0 : ∀ (k : Nat) x, ws[k]? = some x → ((ws ++ [(q, E1)]) ++ LL)[k]? = some x := fun k x hx => by
    have hl := (List.getElem?_eq_some_iff.mp hx).1
    rw [List.getElem?_append_left (by rw [List.length_append]; omega), List.getElem?_append_left hl]; exact hx
  have h1 : ((ws ++ [(q, E1)]) ++ LL)[ws.length]? = some (q, E1) := by
    rw [List.getElem?_append_left (by rw [List.length_append]; exact Nat.lt_succ_self _), List.getElem?_append_right (Nat.le_refl _), Nat.sub_self]; rfl
  have h2 : ∀ i, i < N → ((ws ++ [(q, E1)]) ++ LL)[ws.length + 1 + i]? = some (r i, .inl (D.1 20, (K, .inl (fun _ => 0)))) := fun i hi => by
    rw [List.getElem?_append_right (by rw [List.length_append]; show ws.length + 1 ≤ _; omega), List.length_append, show ws.length + 1 + i - (ws.length + [(q, E1)].length) = i by show ws.length + 1 + i - (ws.length + 1) = i; omega]; exact hm i hi
  have hP0 : qw_P D ad g H1 := fun u e2 hu => by
    obtain ⟨k, hk⟩ := hget u e2 hu
    exact hP1 k _ (h0 k _ hk)
  have hlt : ∀ u, g u ≠ none → ∃ (k : Nat) (e2 : va_E), k < ws.length ∧ ((ws ++ [(q, E1)]) ++ LL)[k]? = some (ad u, e2) := fun u hu => by
    obtain ⟨e2, he2⟩ := Option.ne_none_iff_exists'.mp hu
    obtain ⟨k, hk⟩ := hget u e2 he2
    exact ⟨k, e2, (List.getElem?_eq_some_iff.mp hk).1, h0 k _ hk⟩
  obtain ⟨a1, a2⟩ := qw_push1 hP0 hD hf (hP1 _ _ h1) (fun u hu h => by
    obtain ⟨k, e2, hk, hk2⟩ := hlt u hu
    have := hD1.1 _ _ _ _ h1 hk2 h
    omega) (hD1.2 _ _ h1)
  obtain ⟨b1, b2⟩ := qw_pushN (b := b) (n := N) (r := r) (e := .inl (D.1 20, (K, .inl (fun _ => 0)))) a1 a2 (fun i hi => by rw [va_up_ne _ _ (by omega)]; exact hfb i hi) (fun i hi => hP1 _ _ (h2 i hi)) (fun i j hi hj h => hr i j hi hj h) (fun i u hi hu h => by
    by_cases hut : u = t
    · subst hut
      rw [va_up_self] at h
      have := hD1.1 _ _ _ _ (h2 i hi) h1 h
      omega
    · rw [va_up_ne _ _ hut] at h hu
      obtain ⟨k, e2, hk, hk2⟩ := hlt u hu
      have := hD1.1 _ _ _ _ (h2 i hi) hk2 h
      omega) (fun i hi => hD1.2 _ _ (h2 i hi))
  rw [← hE] at b1 b2
  exact kk q r H1 locs ls b1 b2 hS1 hl
end
