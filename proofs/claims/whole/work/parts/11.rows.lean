section QWB
variable {p : Program} {l : Launch} {e : Env} {R : Room} {s : State} {m : MethodId} {args : Array Value} {below : List Frame} {meth : Method} {c : Code}
variable {D : va_G} {A : Nat → Prop} {nL : Nat} {Q : State → Prop} {k n : Nat} {ad : Nat → Nat} {g : qw_G} {pc : Nat} {lv : List (Nat × Value)} {st : List Value}
variable {cc : ByteArray} {own : String} {ret : Option FieldType}

theorem qw_one {D : va_G} {a : Nat} {e : va_E} {H : Heap} (h : va_at D vwCl (a, e) H) : va_P D vwCl [(a, e)] H := by
  intro k q hk
  cases k with
  | zero => cases hk; exact h
  | succ k => simp at hk
theorem qw_two {D : va_G} {a b : Nat} {e e2 : va_E} {H : Heap} (h : va_at D vwCl (a, e) H) (h2 : va_at D vwCl (b, e2) H) : va_P D vwCl [(a, e), (b, e2)] H := by
  intro k q hk
  cases k with
  | zero => cases hk; exact h
  | succ k =>
    cases k with
    | zero => cases hk; exact h2
    | succ k => simp at hk
/-- a class's numbers, once for all -/
def qw_ci (ci : Nat) (Cn : String) (T : u_T) (N : Nat) : Prop := (∀ w ∈ u_ws Cn T N, w ∈ qw_Ts) ∧ vwCl[ci]? = some (Cn, T, N)
theorem qr_get (C : qw_C p l s m args meth c D A nL cc own ret) {T : u_T} {N ci ix a : Nat} {Cn : String} (h0 : qw_ci ci Cn T N) (j : Nat) (hj : j < N) (hw : qw_tb (.fieldLink own ix (T j).1 (T j).2.1 (T j).2.2.1)) {fs : List Value} {v : Value} (t : Nat) (hg : g t = some (.inr (ci, fs))) (ha : ad t = a) (hv : fs[j]? = some v) (hd : decode cc pc = .ok (.getfield ix, 3)) (kk : qw_W p l e R s m args below meth c D A nL Q k n ad g (pc + 3) lv (v :: st)) : qw_W p l e R s m args below meth c D A nL Q k n ad g pc lv (.ref a :: st) := by
  subst ha
  intro H locs ls hP hD hS hl
  exact va_get (D := D) (ws := [(ad t, .inr (ci, fs))]) C.1 C.2.1 (C.2.2.2.2.1.ts) h0.1 C.2.2.2.1 C.2.2.2.2.1.1 (qw_one (hP t _ hg)) 0 rfl h0.2 j hj (C.2.2.2.2.1.use hw) (fun _ h => h) hv hd (kk H locs ls hP hD hS hl)
theorem qr_getN (C : qw_C p l s m args meth c D A nL cc own ret) {T : u_T} {N ci ix a : Nat} {Cn host : String} (h0 : qw_ci ci Cn T N) (j : Nat) (hj : j < N) (hw : qw_tb (.fieldLinkNest own ix (T j).1 (T j).2.1 (T j).2.2.1 host)) {fs : List Value} {v : Value} (t : Nat) (hg : g t = some (.inr (ci, fs))) (ha : ad t = a) (hv : fs[j]? = some v) (hd : decode cc pc = .ok (.getfield ix, 3)) (kk : qw_W p l e R s m args below meth c D A nL Q k n ad g (pc + 3) lv (v :: st)) : qw_W p l e R s m args below meth c D A nL Q k n ad g pc lv (.ref a :: st) := by
  subst ha
  intro H locs ls hP hD hS hl
  exact va_getN (D := D) (ws := [(ad t, .inr (ci, fs))]) C.1 C.2.1 (C.2.2.2.2.1.ts) h0.1 C.2.2.2.1 C.2.2.2.2.1.1 (qw_one (hP t _ hg)) 0 rfl h0.2 j hj (C.2.2.2.2.1.use hw) (fun _ h => h) hv hd (kk H locs ls hP hD hS hl)
theorem qr_put (C : qw_C p l s m args meth c D A nL cc own ret) {T : u_T} {N ci ix a : Nat} {Cn : String} (h0 : qw_ci ci Cn T N) (tyf : Nat → FieldType) (hty : ∀ i, i < N → parseFieldDescriptor (T i).2.2.1 = some (tyf i)) (hnm : ∀ a, a < N → ∀ b, b < N → a ≠ b → (T a).2.1 ≠ (T b).2.1) (j : Nat) (hj : j < N) (hw : qw_tb (.fieldLink own ix (T j).1 (T j).2.1 (T j).2.2.1)) (hfin : (T j).2.2.2 = false) {ty : FieldType} (hdd : parseFieldDescriptor (T j).2.2.1 = some ty) {fs fs' : List Value} {v : Value} (t : Nat) (hg : g t = some (.inr (ci, fs))) (ha : ad t = a) (hn : narrow ty v = v) (hfit : fits ty v = true) (hl0 : j < fs.length) (hfs : fs.set j v = fs') (hd : decode cc pc = .ok (.putfield ix, 3)) (kk : qw_W p l e R s m args below meth c D A nL Q k n ad (va_up g t (some (.inr (ci, fs')))) (pc + 3) lv st) : qw_W p l e R s m args below meth c D A nL Q k n ad g pc lv (v :: .ref a :: st) := by
  subst ha
  subst hfs
  intro H locs ls hP hD hS hl
  obtain ⟨ws, hPw, hDw, hget, hput, -⟩ := qw_open hP hD
  obtain ⟨w, hk⟩ := hget t _ hg
  exact va_put C.1 C.2.1 (C.2.2.2.2.1.ts) h0.1 tyf hty hnm C.2.2.2.1 C.2.2.2.2.1.1 hPw hDw hS w hk h0.2 j hj (C.2.2.2.2.1.use hw) (fun _ h => h) hfin hdd hn hfit hl0 hd (fun H1 locs1 hP1 hD1 hS1 => kk H1 locs1 ls (hput t _ _ w H1 hg hk hP1) (hD.put hg) hS1 hl)
theorem qr_putN (C : qw_C p l s m args meth c D A nL cc own ret) {T : u_T} {N ci ix a : Nat} {Cn host : String} (h0 : qw_ci ci Cn T N) (tyf : Nat → FieldType) (hty : ∀ i, i < N → parseFieldDescriptor (T i).2.2.1 = some (tyf i)) (hnm : ∀ a, a < N → ∀ b, b < N → a ≠ b → (T a).2.1 ≠ (T b).2.1) (j : Nat) (hj : j < N) (hw : qw_tb (.fieldLinkNest own ix (T j).1 (T j).2.1 (T j).2.2.1 host)) (hfin : (T j).2.2.2 = false) {ty : FieldType} (hdd : parseFieldDescriptor (T j).2.2.1 = some ty) {fs fs' : List Value} {v : Value} (t : Nat) (hg : g t = some (.inr (ci, fs))) (ha : ad t = a) (hn : narrow ty v = v) (hfit : fits ty v = true) (hl0 : j < fs.length) (hfs : fs.set j v = fs') (hd : decode cc pc = .ok (.putfield ix, 3)) (kk : qw_W p l e R s m args below meth c D A nL Q k n ad (va_up g t (some (.inr (ci, fs')))) (pc + 3) lv st) : qw_W p l e R s m args below meth c D A nL Q k n ad g pc lv (v :: .ref a :: st) := by
  subst ha
  subst hfs
  intro H locs ls hP hD hS hl
  obtain ⟨ws, hPw, hDw, hget, hput, -⟩ := qw_open hP hD
  obtain ⟨w, hk⟩ := hget t _ hg
  exact va_putN C.1 C.2.1 (C.2.2.2.2.1.ts) h0.1 tyf hty hnm C.2.2.2.1 C.2.2.2.2.1.1 hPw hDw hS w hk h0.2 j hj (C.2.2.2.2.1.use hw) (fun _ h => h) hfin hdd hn hfit hl0 hd (fun H1 locs1 hP1 hD1 hS1 => kk H1 locs1 ls (hput t _ _ w H1 hg hk hP1) (hD.put hg) hS1 hl)
theorem qr_putF (C : qw_C p l s m args meth c D A nL cc own ret) {T : u_T} {N ci ix a : Nat} {Cn : String} (h0 : qw_ci ci Cn T N) (tyf : Nat → FieldType) (hty : ∀ i, i < N → parseFieldDescriptor (T i).2.2.1 = some (tyf i)) (hnm : ∀ a, a < N → ∀ b, b < N → a ≠ b → (T a).2.1 ≠ (T b).2.1) (j : Nat) (hj : j < N) (hw : qw_tb (.fieldLink own ix (T j).1 (T j).2.1 (T j).2.2.1)) (hfin : (T j).2.2.2 = true) (hin2 : meth.name = "<init>") (hdecl : (T j).1 = own) {ty : FieldType} (hdd : parseFieldDescriptor (T j).2.2.1 = some ty) {fs fs' : List Value} {v : Value} (t : Nat) (hg : g t = some (.inr (ci, fs))) (ha : ad t = a) (hn : narrow ty v = v) (hfit : fits ty v = true) (hl0 : j < fs.length) (hfs : fs.set j v = fs') (hd : decode cc pc = .ok (.putfield ix, 3)) (kk : qw_W p l e R s m args below meth c D A nL Q k n ad (va_up g t (some (.inr (ci, fs')))) (pc + 3) lv st) : qw_W p l e R s m args below meth c D A nL Q k n ad g pc lv (v :: .ref a :: st) := by
  subst ha
  subst hfs
  intro H locs ls hP hD hS hl
  obtain ⟨ws, hPw, hDw, hget, hput, -⟩ := qw_open hP hD
  obtain ⟨w, hk⟩ := hget t _ hg
  exact va_putF C.1 C.2.1 (C.2.2.2.2.1.ts) h0.1 tyf hty hnm C.2.2.2.1 C.2.2.2.2.1.1 hPw hDw hS w hk h0.2 j hj (C.2.2.2.2.1.use hw) (fun _ h => h) hfin hin2 hdecl hdd hn hfit hl0 hd (fun H1 locs1 hP1 hD1 hS1 => kk H1 locs1 ls (hput t _ _ w H1 hg hk hP1) (hD.put hg) hS1 hl)
theorem qw_in {i : Int32} {j n0 : Nat} (hi : i = nI j) (hj : j < n0) (h0 : Nat.ble n0 2147483647 = true) : vp_in i n0 ∧ i.toNatClampNeg = j := by
  have h1 : n0 ≤ 2147483647 := Nat.le_of_ble_eq_true h0
  subst hi
  exact ⟨vp_in_nI hj (by omega), nI_clamp (by omega)⟩
theorem qr_iald (C : qw_C p l s m args meth c D A nL cc own ret) {n0 j a : Nat} {f : Nat → Int32} {i : Int32} {x : Int32} (t : Nat) (hg : g t = some (.inl (D.1 20, n0, .inl f))) (ha : ad t = a) (hi : i = nI j) (hj : j < n0) (h0 : Nat.ble n0 2147483647 = true) (hx : f j = x) (hd : decode cc pc = .ok (.iaload, 1)) (kk : qw_W p l e R s m args below meth c D A nL Q k n ad g (pc + 1) lv (.int x :: st)) : qw_W p l e R s m args below meth c D A nL Q k n ad g pc lv (.int i :: .ref a :: st) := by
  subst ha
  obtain ⟨h1, h2⟩ := qw_in hi hj h0
  intro H locs ls hP hD hS hl
  refine va_iald (D := D) (ws := [(ad t, .inl (D.1 20, n0, .inl f))]) C.1 C.2.1 C.2.2.2.2.1.1 (qw_one (hP t _ hg)) 0 0 rfl rfl h1 hd ?_
  rw [h2, hx]
  exact kk H locs ls hP hD hS hl
theorem qr_zald (C : qw_C p l s m args meth c D A nL cc own ret) {n0 j a : Nat} {f : Nat → Int32} {i : Int32} {x : Int32} (t : Nat) (hg : g t = some (.inl (D.1 21, n0, .inl f))) (ha : ad t = a) (hi : i = nI j) (hj : j < n0) (h0 : Nat.ble n0 2147483647 = true) (hx : f j = x) (hd : decode cc pc = .ok (.baload, 1)) (kk : qw_W p l e R s m args below meth c D A nL Q k n ad g (pc + 1) lv (.int x :: st)) : qw_W p l e R s m args below meth c D A nL Q k n ad g pc lv (.int i :: .ref a :: st) := by
  subst ha
  obtain ⟨h1, h2⟩ := qw_in hi hj h0
  intro H locs ls hP hD hS hl
  refine va_zald (D := D) (ws := [(ad t, .inl (D.1 21, n0, .inl f))]) C.1 C.2.1 C.2.2.2.2.1.1 (qw_one (hP t _ hg)) 0 1 rfl rfl h1 hd ?_
  rw [h2, hx]
  exact kk H locs ls hP hD hS hl
theorem qr_lald (C : qw_C p l s m args meth c D A nL cc own ret) {n0 j a : Nat} {f : Nat → Int64} {i : Int32} {x : Int64} (t : Nat) (hg : g t = some (.inl (D.1 22, n0, .inr (.inl f)))) (ha : ad t = a) (hi : i = nI j) (hj : j < n0) (h0 : Nat.ble n0 2147483647 = true) (hx : f j = x) (hd : decode cc pc = .ok (.laload, 1)) (kk : qw_W p l e R s m args below meth c D A nL Q k n ad g (pc + 1) lv (.long x :: st)) : qw_W p l e R s m args below meth c D A nL Q k n ad g pc lv (.int i :: .ref a :: st) := by
  subst ha
  obtain ⟨h1, h2⟩ := qw_in hi hj h0
  intro H locs ls hP hD hS hl
  refine va_lald (D := D) (ws := [(ad t, .inl (D.1 22, n0, .inr (.inl f)))]) C.1 C.2.1 C.2.2.2.2.1.1 (qw_one (hP t _ hg)) 0 2 rfl rfl h1 hd ?_
  rw [h2, hx]
  exact kk H locs ls hP hD hS hl
theorem qr_aald (C : qw_C p l s m args meth c D A nL cc own ret) {n0 j a b : Nat} {f : Nat → Option Nat} {i : Int32} (t0 : Nat) {cA : ClassId} {ty : FieldType} (ht : (qw_ty D)[t0]? = some (cA, ty)) (hr : ty.isReference = true) (t : Nat) (hg : g t = some (.inl (cA, n0, .inr (.inr (.inr (.inr f)))))) (ha : ad t = a) (hi : i = nI j) (hj : j < n0) (h0 : Nat.ble n0 2147483647 = true) (hb : f j = some b) (hd : decode cc pc = .ok (.aaload, 1)) (kk : qw_W p l e R s m args below meth c D A nL Q k n ad g (pc + 1) lv (.ref b :: st)) : qw_W p l e R s m args below meth c D A nL Q k n ad g pc lv (.int i :: .ref a :: st) := by
  subst ha
  obtain ⟨h1, h2⟩ := qw_in hi hj h0
  intro H locs ls hP hD hS hl
  have hlt : i.toNatClampNeg < n0 := by rw [h2]; exact hj
  refine W.aald (v := va_rf (f i.toNatClampNeg)) (ty := ty) C.1 C.2.1 (hP t _ hg) ((C.2.2.2.2.1.1.2 t0 _ ht).1 n0 (fun j => va_rf (f j))) hr (fun q => by cases q) (by show ¬ (i < 0 ∨ (arrV _ _ _).slots.size ≤ _); rw [arrV_size]; exact h1) (by show (arrV _ _ _).slots[_]? = _; rw [arrV_read _ _ hlt]) rfl rfl hd ?_
  rw [h2, hb]
  exact kk H locs ls hP hD hS hl
theorem qr_iast (C : qw_C p l s m args meth c D A nL cc own ret) {n0 j a : Nat} {f : Nat → Int32} {i : Int32} {x : Int32} (t : Nat) (hg : g t = some (.inl (D.1 20, n0, .inl f))) (ha : ad t = a) (hi : i = nI j) (hj : j < n0) (h0 : Nat.ble n0 2147483647 = true) (hd : decode cc pc = .ok (.iastore, 1)) (kk : qw_W p l e R s m args below meth c D A nL Q k n ad (va_up g t (some (.inl (D.1 20, n0, .inl (upd f j x))))) (pc + 1) lv st) : qw_W p l e R s m args below meth c D A nL Q k n ad g pc lv (.int x :: .int i :: .ref a :: st) := by
  subst ha
  obtain ⟨h1, h2⟩ := qw_in hi hj h0
  intro H locs ls hP hD hS hl
  obtain ⟨ws, hPw, hDw, hget, hput, -⟩ := qw_open hP hD
  obtain ⟨w, hk⟩ := hget t _ hg
  refine va_iast C.1 C.2.1 C.2.2.2.2.1.1 hPw hDw hS w 0 hk rfl h1 hd (fun H1 locs1 hP1 hD1 hS1 => ?_)
  rw [h2] at hP1
  exact kk H1 locs1 ls (hput t _ _ w H1 hg hk hP1) (hD.put hg) hS1 hl
theorem qr_last (C : qw_C p l s m args meth c D A nL cc own ret) {n0 j a : Nat} {f : Nat → Int64} {i : Int32} {x : Int64} (t : Nat) (hg : g t = some (.inl (D.1 22, n0, .inr (.inl f)))) (ha : ad t = a) (hi : i = nI j) (hj : j < n0) (h0 : Nat.ble n0 2147483647 = true) (hd : decode cc pc = .ok (.lastore, 1)) (kk : qw_W p l e R s m args below meth c D A nL Q k n ad (va_up g t (some (.inl (D.1 22, n0, .inr (.inl (vp_updL f j x)))))) (pc + 1) lv st) : qw_W p l e R s m args below meth c D A nL Q k n ad g pc lv (.long x :: .int i :: .ref a :: st) := by
  subst ha
  obtain ⟨h1, h2⟩ := qw_in hi hj h0
  intro H locs ls hP hD hS hl
  obtain ⟨ws, hPw, hDw, hget, hput, -⟩ := qw_open hP hD
  obtain ⟨w, hk⟩ := hget t _ hg
  refine va_last C.1 C.2.1 C.2.2.2.2.1.1 hPw hDw hS w 2 hk rfl h1 hd (fun H1 locs1 hP1 hD1 hS1 => ?_)
  rw [h2] at hP1
  exact kk H1 locs1 ls (hput t _ _ w H1 hg hk hP1) (hD.put hg) hS1 hl
theorem qw_b01 {x : Int32} (h : x = 0 ∨ x = 1) : vp_nar .boolean x = x ∧ narrow .boolean (.int x) = .int x ∧ fits .boolean (.int x) = true := by
  rcases h with rfl | rfl <;> decide
theorem qr_zast (C : qw_C p l s m args meth c D A nL cc own ret) {n0 j a : Nat} {f : Nat → Int32} {i x : Int32} (t : Nat) (hg : g t = some (.inl (D.1 21, n0, .inl f))) (ha : ad t = a) (hi : i = nI j) (hj : j < n0) (h0 : Nat.ble n0 2147483647 = true) (hx : x = 0 ∨ x = 1) (hd : decode cc pc = .ok (.bastore, 1)) (kk : qw_W p l e R s m args below meth c D A nL Q k n ad (va_up g t (some (.inl (D.1 21, n0, .inl (upd f j x))))) (pc + 1) lv st) : qw_W p l e R s m args below meth c D A nL Q k n ad g pc lv (.int x :: .int i :: .ref a :: st) := by
  subst ha
  obtain ⟨h1, h2⟩ := qw_in hi hj h0
  intro H locs ls hP hD hS hl
  obtain ⟨ws, hPw, hDw, hget, hput, -⟩ := qw_open hP hD
  obtain ⟨w, hk⟩ := hget t _ hg
  refine va_zast C.1 C.2.1 C.2.2.2.2.1.1 hPw hDw hS w 1 hk rfl h1 hd (fun H1 locs1 hP1 hD1 hS1 => ?_)
  rw [h2, (qw_b01 hx).1] at hP1
  exact kk H1 locs1 ls (hput t _ _ w H1 hg hk hP1) (hD.put hg) hS1 hl
theorem qr_aast (C : qw_C p l s m args meth c D A nL cc own ret) {n0 j a b ci : Nat} {f : Nat → Option Nat} {i : Int32} (t0 : Nat) {cA : ClassId} {r : vw_C} (ht : (qw_ty D)[t0]? = some (cA, .object r.1)) (hc : vwCl[ci]? = some r) (t u : Nat) {vs : List Value} (hg : g t = some (.inl (cA, n0, .inr (.inr (.inr (.inr f)))))) (ha : ad t = a) (hu : g u = some (.inr (ci, vs))) (hb : ad u = b) (hi : i = nI j) (hj : j < n0) (h0 : Nat.ble n0 2147483647 = true) (hd : decode cc pc = .ok (.aastore, 1)) (kk : qw_W p l e R s m args below meth c D A nL Q k n ad (va_up g t (some (.inl (cA, n0, .inr (.inr (.inr (.inr (va_up f j (some b))))))))) (pc + 1) lv st) : qw_W p l e R s m args below meth c D A nL Q k n ad g pc lv (.ref b :: .int i :: .ref a :: st) := by
  subst ha
  subst hb
  obtain ⟨h1, h2⟩ := qw_in hi hj h0
  intro H locs ls hP hD hS hl
  obtain ⟨ws, hPw, hDw, hget, hput, -⟩ := qw_open hP hD
  obtain ⟨w, hk⟩ := hget t _ hg
  obtain ⟨w2, hk2⟩ := hget u _ hu
  refine va_astq C.1 C.2.1 C.2.2.2.2.1.1 hPw hDw hS w t0 w2 ci hk ht hk2 hc h1 hd (fun H1 locs1 hP1 hD1 hS1 => ?_)
  rw [h2] at hP1
  exact kk H1 locs1 ls (hput t _ _ w H1 hg hk hP1) (hD.put hg) hS1 hl
theorem qr_copy (C : qw_C p l s m args meth c D A nL cc own ret) {ix a b n0 n1 j : Nat} {f f2 : Nat → Int32} {x : Int32} (hw : qw_tb (.methodLink own ix arraycopyName)) (hw1 : qw_tb (.native arraycopyName)) (hw2 : qw_tb (.static arraycopyName)) (hw3 : qw_tb (.initialized "java/lang/System")) (t u : Nat) (hg : g t = some (.inl (D.1 20, n0, .inl f))) (ha : ad t = a) (hu : g u = some (.inl (D.1 20, n1, .inl f2))) (hb : ad u = b) (hi : x = nI j) (h0 : j ≤ n0) (h1 : j ≤ n1) (h2 : Nat.ble n0 2147483647 = true) (hfr : 1 ≤ R.frames) (hlo : (st.map fun v => v.category).sum + (nativeFrameWords "java/lang/System" "arraycopy" 5 + 11) ≤ R.locals) (hd : decode cc pc = .ok (.invokestatic ix, 3)) (kk : qw_W p l e R s m args below meth c D A nL Q k n ad (va_up g u (some (.inl (D.1 20, n1, .inl (va_cpy f f2 0 0 j))))) (pc + 3) lv st) : qw_W p l e R s m args below meth c D A nL Q k n ad g pc lv (.int x :: .int 0 :: .ref b :: .int 0 :: .ref a :: st) := by
  subst ha
  subst hb
  have h3 : n0 ≤ 2147483647 := Nat.le_of_ble_eq_true h2
  have hx : x.toNatClampNeg = j := by rw [hi]; exact nI_clamp (by omega)
  have hx0 : ¬ x < 0 := by rw [hi]; exact nI_pos (by omega)
  intro H locs ls hP hD hS hl
  obtain ⟨ws, hPw, hDw, hget, hput, -⟩ := qw_open hP hD
  obtain ⟨w, hk⟩ := hget t _ hg
  obtain ⟨w2, hk2⟩ := hget u _ hu
  refine va_copyi (ty := .int) C.1 C.2.1 (by rw [C.2.2.1]; exact hl.1.symm) C.2.2.2.1 (C.2.2.2.2.1.use hw) (C.2.2.2.2.1.use hw1) (C.2.2.2.2.1.use hw2) (C.2.2.2.2.1.use hw3) C.2.2.2.2.1.1 hPw hDw hS w w2 0 0 hk hk2 rfl rfl rfl (by decide) (by decide) hx0 (by rw [hx]; exact (by show 0 + j ≤ n0; omega)) (by rw [hx]; exact (by show 0 + j ≤ n1; omega)) (fun i _ => rfl) hfr hlo hd (fun H1 locs1 hP1 hD1 hS1 => ?_)
  rw [hx] at hP1
  exact kk H1 locs1 ls (hput u _ _ w2 H1 hu hk2 hP1) (hD.put hu) hS1 hl
theorem qw_cls {U : State} {x y : ClassId} {nm : String} (h1 : U.vm.findClass nm = some x) (h2 : U.vm.findClass nm = some y) : x = y := Option.some.inj (h1.symm.trans h2)
theorem qr_new (C : qw_C p l s m args meth c D A nL cc own ret) {T : u_T} {N ci ix : Nat} {Cn : String} (h0 : qw_ci ci Cn T N) (tyf : Nat → FieldType) (hty : ∀ i, i < N → parseFieldDescriptor (T i).2.2.1 = some (tyf i)) (hw : qw_tb (.classLink own ix Cn)) (hw1 : qw_tb (.instantiable Cn N)) (hw2 : qw_tb (.initialized Cn)) (fs : List Value) (hfs : ∀ j, j < N → defaultValue (tyf j) = vp_V fs j) (t : Nat) (hf : g t = none) (hk : k + 1 ≤ R.cells) (hn : n + N ≤ R.slots) (hd : decode cc pc = .ok (.new ix, 3)) (kk : ∀ q, qw_W p l e R s m args below meth c D A nL Q (k + 1) (n + N) (va_up ad t q) (va_up g t (some (.inr (ci, fs)))) (pc + 3) lv (.ref q :: st)) : qw_W p l e R s m args below meth c D A nL Q k n ad g pc lv st := by
  intro H locs ls hP hD hS hl
  obtain ⟨ws, hPw, hDw, -, -, hpush⟩ := qw_open hP hD
  refine va_new C.1 C.2.1 (C.2.2.2.2.1.ts) h0.1 tyf hty C.2.2.2.1 (C.2.2.2.2.1.use hw) (C.2.2.2.2.1.use hw1) (C.2.2.2.2.1.use hw2) C.2.2.2.2.1.1 hPw hDw hS C.2.2.2.2.2.1 h0.2 hfs hk hn hd (fun q H1 hP1 hD1 hS1 => ?_)
  obtain ⟨a1, a2⟩ := hpush t q _ H1 hf hP1 hD1
  exact kk q H1 locs ls a1 a2 hS1 hl
theorem qr_newI (C : qw_C p l s m args meth c D A nL cc own ret) {N : Nat} {x : Int32} (hw : qw_tb (.arrayClass .int)) (hx : x = nI N) (hN : Nat.ble N 10000 = true) (t : Nat) (hf : g t = none) (hk : k + 1 ≤ R.cells) (hn : n + N ≤ R.slots) (hd : decode cc pc = .ok (.newarray .int, 2)) (kk : ∀ q, qw_W p l e R s m args below meth c D A nL Q (k + 1) (n + N) (va_up ad t q) (va_up g t (some (.inl (D.1 20, N, .inl (fun _ => 0))))) (pc + 2) lv (.ref q :: st)) : qw_W p l e R s m args below meth c D A nL Q k n ad g pc lv (.int x :: st) := by
  have hN2 : N ≤ 10000 := Nat.le_of_ble_eq_true hN
  intro H locs ls hP hD hS hl
  obtain ⟨ws, hPw, hDw, -, -, hpush⟩ := qw_open hP hD
  refine va_newa (atype := .int) (a0 := (N, .inl (fun _ => 0))) C.1 C.2.1 (C.2.2.2.2.1.use hw) rfl C.2.2.2.2.1.1 hPw hDw hS C.2.2.2.2.2.1 (fun _ => rfl) (by rw [hx]; exact nI_pos (by omega)) (by rw [hx]; exact nI_clamp (by omega)) (by show N * 4 ≤ _; omega) hk hn hd (fun q cA H1 hK1 hP1 hD1 hS1 => ?_)
  have hc : cA = D.1 20 := qw_cls ((hK1.2 8 (cA, .int) rfl).2 : s.vm.findClass _ = some cA) ((C.2.2.2.2.1.1.2 0 (D.1 20, .int) rfl).2 : s.vm.findClass _ = some (D.1 20))
  subst hc
  obtain ⟨a1, a2⟩ := hpush t q _ H1 hf hP1 hD1
  exact kk q H1 locs ls a1 a2 hS1 hl
theorem qr_newZ (C : qw_C p l s m args meth c D A nL cc own ret) {N : Nat} {x : Int32} (hw : qw_tb (.arrayClass .boolean)) (hx : x = nI N) (hN : Nat.ble N 10000 = true) (t : Nat) (hf : g t = none) (hk : k + 1 ≤ R.cells) (hn : n + N ≤ R.slots) (hd : decode cc pc = .ok (.newarray .boolean, 2)) (kk : ∀ q, qw_W p l e R s m args below meth c D A nL Q (k + 1) (n + N) (va_up ad t q) (va_up g t (some (.inl (D.1 21, N, .inl (fun _ => 0))))) (pc + 2) lv (.ref q :: st)) : qw_W p l e R s m args below meth c D A nL Q k n ad g pc lv (.int x :: st) := by
  have hN2 : N ≤ 10000 := Nat.le_of_ble_eq_true hN
  intro H locs ls hP hD hS hl
  obtain ⟨ws, hPw, hDw, -, -, hpush⟩ := qw_open hP hD
  refine va_newa (atype := .boolean) (a0 := (N, .inl (fun _ => 0))) C.1 C.2.1 (C.2.2.2.2.1.use hw) rfl C.2.2.2.2.1.1 hPw hDw hS C.2.2.2.2.2.1 (fun _ => rfl) (by rw [hx]; exact nI_pos (by omega)) (by rw [hx]; exact nI_clamp (by omega)) (by show N * 1 ≤ _; omega) hk hn hd (fun q cA H1 hK1 hP1 hD1 hS1 => ?_)
  have hc : cA = D.1 21 := qw_cls ((hK1.2 8 (cA, .boolean) rfl).2 : s.vm.findClass _ = some cA) ((C.2.2.2.2.1.1.2 1 (D.1 21, .boolean) rfl).2 : s.vm.findClass _ = some (D.1 21))
  subst hc
  obtain ⟨a1, a2⟩ := hpush t q _ H1 hf hP1 hD1
  exact kk q H1 locs ls a1 a2 hS1 hl
theorem qr_newL (C : qw_C p l s m args meth c D A nL cc own ret) {N : Nat} {x : Int32} (hw : qw_tb (.arrayClass .long)) (hx : x = nI N) (hN : Nat.ble N 10000 = true) (t : Nat) (hf : g t = none) (hk : k + 1 ≤ R.cells) (hn : n + N ≤ R.slots) (hd : decode cc pc = .ok (.newarray .long, 2)) (kk : ∀ q, qw_W p l e R s m args below meth c D A nL Q (k + 1) (n + N) (va_up ad t q) (va_up g t (some (.inl (D.1 22, N, .inr (.inl (fun _ => 0)))))) (pc + 2) lv (.ref q :: st)) : qw_W p l e R s m args below meth c D A nL Q k n ad g pc lv (.int x :: st) := by
  have hN2 : N ≤ 10000 := Nat.le_of_ble_eq_true hN
  intro H locs ls hP hD hS hl
  obtain ⟨ws, hPw, hDw, -, -, hpush⟩ := qw_open hP hD
  refine va_newa (atype := .long) (a0 := (N, .inr (.inl (fun _ => 0)))) C.1 C.2.1 (C.2.2.2.2.1.use hw) rfl C.2.2.2.2.1.1 hPw hDw hS C.2.2.2.2.2.1 (fun _ => rfl) (by rw [hx]; exact nI_pos (by omega)) (by rw [hx]; exact nI_clamp (by omega)) (by show N * 8 ≤ _; omega) hk hn hd (fun q cA H1 hK1 hP1 hD1 hS1 => ?_)
  have hc : cA = D.1 22 := qw_cls ((hK1.2 8 (cA, .long) rfl).2 : s.vm.findClass _ = some cA) ((C.2.2.2.2.1.1.2 2 (D.1 22, .long) rfl).2 : s.vm.findClass _ = some (D.1 22))
  subst hc
  obtain ⟨a1, a2⟩ := hpush t q _ H1 hf hP1 hD1
  exact kk q H1 locs ls a1 a2 hS1 hl
theorem qr_newQ (C : qw_C p l s m args meth c D A nL cc own ret) {N ix t0 : Nat} {x : Int32} {Cn : String} {cB : ClassId} (hw : qw_tb (.classLink own ix Cn)) (ho : va_AO Cn s) (ht : (qw_ty D)[t0]? = some (cB, .object Cn)) (hx : x = nI N) (hN : Nat.ble N 10000 = true) (t : Nat) (hf : g t = none) (hk : k + 1 ≤ R.cells) (hn : n + N ≤ R.slots) (hd : decode cc pc = .ok (.anewarray ix, 3)) (kk : ∀ q, qw_W p l e R s m args below meth c D A nL Q (k + 1) (n + N) (va_up ad t q) (va_up g t (some (.inl (cB, N, .inr (.inr (.inr (.inr (fun _ => none)))))))) (pc + 3) lv (.ref q :: st)) : qw_W p l e R s m args below meth c D A nL Q k n ad g pc lv (.int x :: st) := by
  have hN2 : N ≤ 10000 := Nat.le_of_ble_eq_true hN
  intro H locs ls hP hD hS hl
  obtain ⟨ws, hPw, hDw, -, -, hpush⟩ := qw_open hP hD
  refine va_newq C.1 C.2.1 C.2.2.2.1 (C.2.2.2.2.1.use hw) ho C.2.2.2.2.1.1 hPw hDw hS C.2.2.2.2.2.1 (by rw [hx]; exact nI_pos (by omega)) (by rw [hx]; exact nI_clamp (by omega)) (by omega) hk hn hd (fun q cA H1 hK1 hP1 hD1 hS1 => ?_)
  have hc : cA = cB := by
    obtain ⟨kA, comp, -, -, -, h4⟩ := (hK1.2 8 (cA, .object Cn) rfl).2
    obtain ⟨kA2, comp2, -, -, -, h5⟩ := (C.2.2.2.2.1.1.2 t0 (cB, .object Cn) ht).2
    exact qw_cls h4 h5
  subst hc
  obtain ⟨a1, a2⟩ := hpush t q _ H1 hf hP1 hD1
  exact kk q H1 locs ls a1 a2 hS1 hl
theorem qr_obj (C : qw_C p l s m args meth c D A nL cc own ret) {ix a : Nat} (hw : qw_tb (.methodLink own ix objectInit)) (hw1 : qw_tb (.instanceMethod objectInit)) (hw2 : qw_tb (.code objectInit ⟨#[0xb1]⟩ 1 none)) (hfr : 1 ≤ R.frames) (hlo : (st.map fun v => v.category).sum + 12 ≤ R.locals) (hd : decode cc pc = .ok (.invokespecial ix, 3)) (kk : qw_W p l e R s m args below meth c D A nL Q k n ad g (pc + 3) lv st) : qw_W p l e R s m args below meth c D A nL Q k n ad g pc lv (.ref a :: st) := by
  intro H locs ls hP hD hS hl
  exact W.objInit C.1 C.2.1 C.2.2.2.1 (C.2.2.2.2.1.use hw) (C.2.2.2.2.1.use hw1) (C.2.2.2.2.1.use hw2) rfl (by rw [C.2.2.1]; exact hl.1) rfl hd hfr (by simpa [JFrame.monitorRoom] using hlo) (kk H locs ls hP hD hS hl)
theorem qw_fr {H : Heap} {locs : List Loc} (C6 : ∀ q, s.heap.size ≤ q → A q) (hD : qw_D A ad g) (hS : va_S A s.heap H locs) : ∀ q, qw_A ad g H.size q → A q := by
  intro q hq
  rcases hq with ⟨t, ht, rfl⟩ | hq
  · exact hD.2.2 t ht
  · exact C6 q (Nat.le_trans hS.1 hq)
theorem qw_start (C : qw_C p l s m args meth c D A nL cc own ret) {H : Heap} {locs : List Loc} {U : State} (hP : qw_P D ad g H) (hD : qw_D A ad g) (hS : va_S A s.heap H locs) (hU : U.heap = H) (hW : s.WarmedH U.vm) : qw_B D ad g H.size U := by
  subst hU
  exact ⟨rfl, hP, C.2.2.2.2.1.warm hW, hD.weaken (fun _ _ _ => trivial), (C.2.2.2.2.2.2.1.kept hS.2.1).narrow (qw_fr C.2.2.2.2.2.1 hD hS) |>.moved hW.alike⟩
theorem qw_back {post : Option Value → (Nat → Nat) → qw_G → Prop} {mc ms : Nat} {H : Heap} {locs : List Loc} {ls : Array Slot} {st0 rest : List Value} {a : Array Value} (C6 : ∀ q, s.heap.size ≤ q → A q)
    (hr : va_Run p l e R s m args below meth c H locs k n mc ms (F0 m pc ls st0) rest (qw_Q post D (qw_A ad g H.size) a) (qw_A ad g H.size)) (hD : qw_D A ad g) (hS : va_S A s.heap H locs)
    (kk : ∀ v ad' g', post v ad' g' → ∀ H1 locs1, qw_P D ad' g' H1 → qw_D A ad' g' → va_S A s.heap H1 locs1 → W p l e R s m args below meth c H1 locs1 (k + mc) (n + ms) Q (F0 m (pc + 3) ls (v.toList ++ rest))) : W p l e R s m args below meth c H locs k n Q (F0 m pc ls st0) := by
  have hf := qw_fr C6 hD hS
  intro T hT X
  obtain ⟨v, st₀, t, T', L, h0, X', hL, e1, e2, ⟨⟨v2, ad', g', hv, hp, hP', hD'⟩, hz, hk⟩, stp⟩ := hr T hT X
  cases hv
  rw [h0] at hz hk
  obtain ⟨t2, a1, b1⟩ := kk v ad' g' hp T'.heap (locs ++ L) (by rw [e1]; exact hP') (hD'.weaken (fun t _ h => hf _ h))
    ⟨Nat.le_trans hS.1 (by rw [e1]; exact hz), fun q h1 h2 => by rw [e1, hk q (Nat.lt_of_lt_of_le h1 hS.1) (fun z => h2 (hf q z))]; exact hS.2.1 q h1 h2, fun q hq => by
      rcases List.mem_append.mp hq with h | h
      · exact hS.2.2 q h
      · exact hf _ (hL q h)⟩ T' rfl X'
  exact ⟨t2, stp t2 a1, b1⟩
theorem qw_backX {post : Option Value → (Nat → Nat) → qw_G → Prop} {px : String → Prop} {mc ms : Nat} {H : Heap} {locs : List Loc} {ls : Array Slot} {st0 rest : List Value} {a : Array Value} (C6 : ∀ q, s.heap.size ≤ q → A q)
    (hr : vx_Run p l e R s m args below meth c H locs k n mc ms (F0 m pc ls st0) rest (qw_Q post D (qw_A ad g H.size) a) (qw_X px D (qw_A ad g H.size) ad g) (qw_A ad g H.size)) (hD : qw_D A ad g) (hS : va_S A s.heap H locs)
    (kx : ∀ E, px E → ∀ H1 locs1 ce q, qw_P D ad g H1 → va_S A s.heap H1 locs1 → H1[q]? = some ce → ce.vm = .none → s.vm.findClass E = some ce.cls → vx_W p l e R s m args below meth c H1 locs1 (k + mc) (n + ms) Q (F0 m pc ls rest) q)
    (kk : ∀ v ad' g', post v ad' g' → ∀ H1 locs1, qw_P D ad' g' H1 → qw_D A ad' g' → va_S A s.heap H1 locs1 → W p l e R s m args below meth c H1 locs1 (k + mc) (n + ms) Q (F0 m (pc + 3) ls (v.toList ++ rest))) : W p l e R s m args below meth c H locs k n Q (F0 m pc ls st0) := by
  have hf := qw_fr C6 hD hS
  intro T hT X
  rcases hr T hT X with ⟨v, st₀, t, T', L, h0, X', hL, e1, e2, ⟨⟨v2, ad', g', hv, hp, hP', hD'⟩, hz, hk⟩, stp⟩ | ⟨q, st₀, t, T', L, E, ce, h0, X', hL, e1, e2, ⟨hpx, hP', hz, hk⟩, hce, hcv, hcl, stp⟩
  · cases hv
    rw [h0] at hz hk
    obtain ⟨t2, a1, b1⟩ := kk v ad' g' hp T'.heap (locs ++ L) (by rw [e1]; exact hP') (hD'.weaken (fun t _ h => hf _ h))
      ⟨Nat.le_trans hS.1 (by rw [e1]; exact hz), fun q h1 h2 => by rw [e1, hk q (Nat.lt_of_lt_of_le h1 hS.1) (fun z => h2 (hf q z))]; exact hS.2.1 q h1 h2, fun q hq => by
        rcases List.mem_append.mp hq with h | h
        · exact hS.2.2 q h
        · exact hf _ (hL q h)⟩ T' rfl X'
    exact ⟨t2, stp t2 a1, b1⟩
  · rw [h0] at hz hk
    obtain ⟨t2, a1, b1⟩ := kx E hpx T'.heap (locs ++ L) ce q (by rw [e1]; exact hP')
      ⟨Nat.le_trans hS.1 (by rw [e1]; exact hz), fun q h1 h2 => by rw [e1, hk q (Nat.lt_of_lt_of_le h1 hS.1) (fun z => h2 (hf q z))]; exact hS.2.1 q h1 h2, fun q hq => by
        rcases List.mem_append.mp hq with h | h
        · exact hS.2.2 q h
        · exact hf _ (hL q h)⟩ (by rw [e1]; exact hce) hcv hcl T' rfl X'
    exact ⟨t2, stp.trans a1, b1⟩
end QWB
