section
-- ===== PART A: goes FIRST, ahead of the names: the tables' words, and 'selects' of the private methods out of them =====
/-- a private method of a class that the tables say can be made, by its rows of tables_1 -/
def lw_okq (q : MethodName × Nat) : Prop := (q.1.cls ≠ "java/lang/invoke/MethodHandle" ∧ q.1.cls ≠ "java/lang/invoke/VarHandle") ∧ Cond.instantiable q.1.cls q.2 ∈ tables_1 ∧ Cond.privateMethod q.1 ∈ tables_1 ∧ Cond.instanceMethod q.1 ∈ tables_1
theorem lw_p0 : lw_okq (⟨"Pivotforge", "tableAt", "(I)LPivotforge$Table;"⟩, 9) := ⟨⟨by decide +kernel, by decide +kernel⟩, List.mem_of_getElem? (i := 18) (by decide +kernel), List.mem_of_getElem? (i := 170) (by decide +kernel), List.mem_of_getElem? (i := 171) (by decide +kernel)⟩
theorem lw_p1 : lw_okq (⟨"java/lang/Throwable", "fillInStackTrace", "(I)Ljava/lang/Throwable;"⟩, 6) := ⟨⟨by decide +kernel, by decide +kernel⟩, List.mem_of_getElem? (i := 212) (by decide +kernel), List.mem_of_getElem? (i := 210) (by decide +kernel), List.mem_of_getElem? (i := 211) (by decide +kernel)⟩
theorem lw_p2 : lw_okq (⟨"Pivotforge$Table", "enter", "(III)V"⟩, 4) := ⟨⟨by decide +kernel, by decide +kernel⟩, List.mem_of_getElem? (i := 27) (by decide +kernel), List.mem_of_getElem? (i := 301) (by decide +kernel), List.mem_of_getElem? (i := 302) (by decide +kernel)⟩
theorem lw_p3 : lw_okq (⟨"Pivotforge", "dropBelow", "(LPivotforge$Table;I)V"⟩, 9) := ⟨⟨by decide +kernel, by decide +kernel⟩, List.mem_of_getElem? (i := 18) (by decide +kernel), List.mem_of_getElem? (i := 305) (by decide +kernel), List.mem_of_getElem? (i := 306) (by decide +kernel)⟩
theorem lw_p4 : lw_okq (⟨"Pivotforge", "entryOfTable", "(III)I"⟩, 9) := ⟨⟨by decide +kernel, by decide +kernel⟩, List.mem_of_getElem? (i := 18) (by decide +kernel), List.mem_of_getElem? (i := 332) (by decide +kernel), List.mem_of_getElem? (i := 333) (by decide +kernel)⟩
theorem lw_p5 : lw_okq (⟨"Pivotforge$Sale", "countsIn", "(I)Z"⟩, 5) := ⟨⟨by decide +kernel, by decide +kernel⟩, List.mem_of_getElem? (i := 274) (by decide +kernel), List.mem_of_getElem? (i := 347) (by decide +kernel), List.mem_of_getElem? (i := 348) (by decide +kernel)⟩
theorem lw_p6 : lw_okq (⟨"Pivotforge$Embargo", "lastsAt", "(I)Z"⟩, 5) := ⟨⟨by decide +kernel, by decide +kernel⟩, List.mem_of_getElem? (i := 360) (by decide +kernel), List.mem_of_getElem? (i := 395) (by decide +kernel), List.mem_of_getElem? (i := 396) (by decide +kernel)⟩
theorem lw_p7 : lw_okq (⟨"Pivotforge", "embargoedFor", "(II)I"⟩, 9) := ⟨⟨by decide +kernel, by decide +kernel⟩, List.mem_of_getElem? (i := 18) (by decide +kernel), List.mem_of_getElem? (i := 411) (by decide +kernel), List.mem_of_getElem? (i := 412) (by decide +kernel)⟩
theorem lw_p8 : lw_okq (⟨"Pivotforge", "reportAt", "(II)LPivotforge$Report;"⟩, 9) := ⟨⟨by decide +kernel, by decide +kernel⟩, List.mem_of_getElem? (i := 18) (by decide +kernel), List.mem_of_getElem? (i := 431) (by decide +kernel), List.mem_of_getElem? (i := 432) (by decide +kernel)⟩
theorem lw_p9 : lw_okq (⟨"Pivotforge$Report", "fill", "(LPivotforge$Table;II)V"⟩, 5) := ⟨⟨by decide +kernel, by decide +kernel⟩, List.mem_of_getElem? (i := 34) (by decide +kernel), List.mem_of_getElem? (i := 435) (by decide +kernel), List.mem_of_getElem? (i := 436) (by decide +kernel)⟩
theorem lw_p10 : lw_okq (⟨"Pivotforge$Equations", "determine", "(II)Z"⟩, 1) := ⟨⟨by decide +kernel, by decide +kernel⟩, List.mem_of_getElem? (i := 83) (by decide +kernel), List.mem_of_getElem? (i := 494) (by decide +kernel), List.mem_of_getElem? (i := 495) (by decide +kernel)⟩
theorem lw_p11 : lw_okq (⟨"Pivotforge$Equations", "write", "(I)V"⟩, 1) := ⟨⟨by decide +kernel, by decide +kernel⟩, List.mem_of_getElem? (i := 83) (by decide +kernel), List.mem_of_getElem? (i := 498) (by decide +kernel), List.mem_of_getElem? (i := 499) (by decide +kernel)⟩
theorem lw_p12 : lw_okq (⟨"Pivotforge$Equations", "solve", "()V"⟩, 1) := ⟨⟨by decide +kernel, by decide +kernel⟩, List.mem_of_getElem? (i := 83) (by decide +kernel), List.mem_of_getElem? (i := 503) (by decide +kernel), List.mem_of_getElem? (i := 504) (by decide +kernel)⟩
theorem lw_p13 : lw_okq (⟨"Pivotforge$Equations", "unspentWith", "(II)I"⟩, 1) := ⟨⟨by decide +kernel, by decide +kernel⟩, List.mem_of_getElem? (i := 83) (by decide +kernel), List.mem_of_getElem? (i := 507) (by decide +kernel), List.mem_of_getElem? (i := 508) (by decide +kernel)⟩
theorem lw_p14 : lw_okq (⟨"Pivotforge$Equations", "removeFromOthers", "(II)V"⟩, 1) := ⟨⟨by decide +kernel, by decide +kernel⟩, List.mem_of_getElem? (i := 83) (by decide +kernel), List.mem_of_getElem? (i := 511) (by decide +kernel), List.mem_of_getElem? (i := 512) (by decide +kernel)⟩
theorem lw_p15 : lw_okq (⟨"Pivotforge$Equations", "tellsOnly", "(II)Z"⟩, 1) := ⟨⟨by decide +kernel, by decide +kernel⟩, List.mem_of_getElem? (i := 83) (by decide +kernel), List.mem_of_getElem? (i := 515) (by decide +kernel), List.mem_of_getElem? (i := 516) (by decide +kernel)⟩
def lw_privs_1 : List (MethodName × Nat) := [(⟨"Pivotforge", "tableAt", "(I)LPivotforge$Table;"⟩, 9), (⟨"java/lang/Throwable", "fillInStackTrace", "(I)Ljava/lang/Throwable;"⟩, 6), (⟨"Pivotforge$Table", "enter", "(III)V"⟩, 4), (⟨"Pivotforge", "dropBelow", "(LPivotforge$Table;I)V"⟩, 9), (⟨"Pivotforge", "entryOfTable", "(III)I"⟩, 9), (⟨"Pivotforge$Sale", "countsIn", "(I)Z"⟩, 5), (⟨"Pivotforge$Embargo", "lastsAt", "(I)Z"⟩, 5), (⟨"Pivotforge", "embargoedFor", "(II)I"⟩, 9), (⟨"Pivotforge", "reportAt", "(II)LPivotforge$Report;"⟩, 9), (⟨"Pivotforge$Report", "fill", "(LPivotforge$Table;II)V"⟩, 5), (⟨"Pivotforge$Equations", "determine", "(II)Z"⟩, 1), (⟨"Pivotforge$Equations", "write", "(I)V"⟩, 1), (⟨"Pivotforge$Equations", "solve", "()V"⟩, 1), (⟨"Pivotforge$Equations", "unspentWith", "(II)I"⟩, 1), (⟨"Pivotforge$Equations", "removeFromOthers", "(II)V"⟩, 1), (⟨"Pivotforge$Equations", "tellsOnly", "(II)Z"⟩, 1)]
theorem lw_r1 : ∀ q ∈ lw_privs_1, lw_okq q := List.forall_mem_cons.mpr ⟨lw_p0, List.forall_mem_cons.mpr ⟨lw_p1, List.forall_mem_cons.mpr ⟨lw_p2, List.forall_mem_cons.mpr ⟨lw_p3, List.forall_mem_cons.mpr ⟨lw_p4, List.forall_mem_cons.mpr ⟨lw_p5, List.forall_mem_cons.mpr ⟨lw_p6, List.forall_mem_cons.mpr ⟨lw_p7, List.forall_mem_cons.mpr ⟨lw_p8, List.forall_mem_cons.mpr ⟨lw_p9, List.forall_mem_cons.mpr ⟨lw_p10, List.forall_mem_cons.mpr ⟨lw_p11, List.forall_mem_cons.mpr ⟨lw_p12, List.forall_mem_cons.mpr ⟨lw_p13, List.forall_mem_cons.mpr ⟨lw_p14, List.forall_mem_cons.mpr ⟨lw_p15, fun _ h => absurd h List.not_mem_nil⟩⟩⟩⟩⟩⟩⟩⟩⟩⟩⟩⟩⟩⟩⟩⟩
theorem lw_p16 : lw_okq (⟨"PivotforgeModel", "refused", "(I)Z"⟩, 20) := ⟨⟨by decide +kernel, by decide +kernel⟩, List.mem_of_getElem? (i := 519) (by decide +kernel), List.mem_of_getElem? (i := 601) (by decide +kernel), List.mem_of_getElem? (i := 602) (by decide +kernel)⟩
theorem lw_p17 : lw_okq (⟨"PivotforgeModel", "drop", "(II)I"⟩, 20) := ⟨⟨by decide +kernel, by decide +kernel⟩, List.mem_of_getElem? (i := 519) (by decide +kernel), List.mem_of_getElem? (i := 605) (by decide +kernel), List.mem_of_getElem? (i := 606) (by decide +kernel)⟩
theorem lw_p18 : lw_okq (⟨"PivotforgeModel", "entryOf", "(III)I"⟩, 20) := ⟨⟨by decide +kernel, by decide +kernel⟩, List.mem_of_getElem? (i := 519) (by decide +kernel), List.mem_of_getElem? (i := 621) (by decide +kernel), List.mem_of_getElem? (i := 622) (by decide +kernel)⟩
theorem lw_p19 : lw_okq (⟨"PivotforgeModel", "sumOf", "(II)I"⟩, 20) := ⟨⟨by decide +kernel, by decide +kernel⟩, List.mem_of_getElem? (i := 519) (by decide +kernel), List.mem_of_getElem? (i := 628) (by decide +kernel), List.mem_of_getElem? (i := 629) (by decide +kernel)⟩
theorem lw_p20 : lw_okq (⟨"PivotforgeModel", "lasts", "(I)Z"⟩, 20) := ⟨⟨by decide +kernel, by decide +kernel⟩, List.mem_of_getElem? (i := 519) (by decide +kernel), List.mem_of_getElem? (i := 645) (by decide +kernel), List.mem_of_getElem? (i := 646) (by decide +kernel)⟩
theorem lw_p21 : lw_okq (⟨"PivotforgeModel", "barred", "(II)I"⟩, 20) := ⟨⟨by decide +kernel, by decide +kernel⟩, List.mem_of_getElem? (i := 519) (by decide +kernel), List.mem_of_getElem? (i := 656) (by decide +kernel), List.mem_of_getElem? (i := 657) (by decide +kernel)⟩
theorem lw_p22 : lw_okq (⟨"PivotforgeModel", "noEntry", "(II)Z"⟩, 20) := ⟨⟨by decide +kernel, by decide +kernel⟩, List.mem_of_getElem? (i := 519) (by decide +kernel), List.mem_of_getElem? (i := 708) (by decide +kernel), List.mem_of_getElem? (i := 709) (by decide +kernel)⟩
def lw_privs_2 : List (MethodName × Nat) := [(⟨"PivotforgeModel", "refused", "(I)Z"⟩, 20), (⟨"PivotforgeModel", "drop", "(II)I"⟩, 20), (⟨"PivotforgeModel", "entryOf", "(III)I"⟩, 20), (⟨"PivotforgeModel", "sumOf", "(II)I"⟩, 20), (⟨"PivotforgeModel", "lasts", "(I)Z"⟩, 20), (⟨"PivotforgeModel", "barred", "(II)I"⟩, 20), (⟨"PivotforgeModel", "noEntry", "(II)Z"⟩, 20)]
theorem lw_r2 : ∀ q ∈ lw_privs_2, lw_okq q := List.forall_mem_cons.mpr ⟨lw_p16, List.forall_mem_cons.mpr ⟨lw_p17, List.forall_mem_cons.mpr ⟨lw_p18, List.forall_mem_cons.mpr ⟨lw_p19, List.forall_mem_cons.mpr ⟨lw_p20, List.forall_mem_cons.mpr ⟨lw_p21, List.forall_mem_cons.mpr ⟨lw_p22, fun _ h => absurd h List.not_mem_nil⟩⟩⟩⟩⟩⟩⟩
def lw_privs : List (MethodName × Nat) := lw_privs_1 ++ (lw_privs_2)
def lw_tbl : List Cond := k2_sels lw_privs ++ tables_1
theorem lw_privs_ok : ∀ q ∈ lw_privs, lw_okq q := by
  show ∀ q ∈ lw_privs_1 ++ (lw_privs_2), lw_okq q
  exact List.forall_mem_append.mpr ⟨lw_r1, lw_r2⟩
-- ===== end of PART A; then your names; then what follows =====
/-- an array class stands over this array class: as the kit's va_AO, for arrays of arrays (the printed names use it) -/
def va_AOA (ty : FieldType) (U : State) : Prop := (Cond.arrayOver (.array ty)).before #[] U = true
theorem va_AOA.of {ty : FieldType} {A : Array Value} {U : State} (h : (Cond.arrayOver (.array ty)).before A U = true) : va_AOA ty U := h
theorem va_AOA.use {ty : FieldType} {A : Array Value} {U : State} (h : va_AOA ty U) : (Cond.arrayOver (.array ty)).before A U = true := h
/-! ===== BEGIN words of one list among another's, by their places ===== -/
theorem goodIn_r {big : List Cond} (ws : List Cond) (ps : List Nat) (hp : ws = ps.filterMap (fun i => big[i]?)) (h : ws.all goodWord = true) : GoodIn big ws := by
  intro w hw
  have h1 := List.all_eq_true.mp h w hw
  rw [hp] at hw
  obtain ⟨i, -, hi⟩ := List.mem_filterMap.mp hw
  have hm : w ∈ big := by first | exact List.mem_of_getElem? hi | exact List.getElem?_mem hi
  exact ⟨hm, good_of_word h1⟩
theorem goodIn_app {big a b : List Cond} (ha : GoodIn big a) (hb : GoodIn big b) : GoodIn big (a ++ b) := fun w h => (List.mem_append.mp h).elim (ha w) (hb w)
theorem goodIn_ca {big a b : List Cond} {c : Cond} (ha : GoodIn big (c :: a)) (hb : GoodIn big b) : GoodIn big (c :: (a ++ b)) := fun w h => (List.mem_cons.mp h).elim (fun e => ha w (List.mem_cons.mpr (Or.inl e))) (fun h => (List.mem_append.mp h).elim (fun h => ha w (List.mem_cons.mpr (Or.inr h))) (hb w))
theorem goodIn_sub {big ws : List Cond} (hm : ∀ w ∈ ws, w ∈ big) (h : ws.all goodWord = true) : GoodIn big ws := fun w hw => ⟨hm w hw, good_of_word (List.all_eq_true.mp h w hw)⟩
/-! ===== END ===== -/

/-! ===== BEGIN new T[n][m]: the outer array a place, the inner ones among the pooled ===== -/
/-- f, but v at every address of l -/
def vr_up {α : Type} (f : Nat → α) (l : List Nat) (v : α) : Nat → α := fun a => if a ∈ l then v else f a
theorem vr_up_in {α : Type} {f : Nat → α} {l : List Nat} {v : α} {a : Nat} (h : a ∈ l) : vr_up f l v a = v := if_pos h
theorem vr_up_ne {α : Type} {f : Nat → α} {l : List Nat} {v : α} {a : Nat} (h : a ∉ l) : vr_up f l v a = f a := if_neg h
theorem vr_rows {L l : List Nat} {f : Nat → va_E} {e : va_E} (h : ∀ a, a ∈ l → a ∉ L) : va_pl L f ++ l.map (fun a => (a, e)) = va_pl (L ++ l) (vr_up f l e) := by
  unfold va_pl
  rw [List.map_append]
  congr 1
  · apply List.map_congr_left
    intro a ha
    rw [vr_up_ne (fun q => h a q ha)]
  · apply List.map_congr_left
    intro a ha
    rw [vr_up_in ha]
theorem vr_lay {X rows : va_W} {x : Nat × va_E} {pl : va_W} {D : va_G} {cl : List vw_C} {H : Heap} (hP : va_P D cl (((X ++ pl) ++ [x]) ++ rows) H) : va_P D cl ((X ++ [x]) ++ (pl ++ rows)) H := by
  rw [List.append_assoc (X ++ pl)] at hP
  have h := va_P.swap hP
  rw [← List.append_assoc X] at h
  have h2 := va_P.swap h
  rw [List.append_assoc (X ++ [x])] at h2
  exact h2
theorem vr_layD {X rows : va_W} {x : Nat × va_E} {pl : va_W} {A : Nat → Prop} (hD : va_D A (((X ++ pl) ++ [x]) ++ rows)) : va_D A ((X ++ [x]) ++ (pl ++ rows)) := by
  rw [List.append_assoc (X ++ pl)] at hD
  have h := va_D.swap hD
  rw [← List.append_assoc X] at h
  have h2 := va_D.swap h
  rw [List.append_assoc (X ++ [x])] at h2
  exact h2
theorem vr_outer (c : ClassId) (N h0 : Nat) : ∀ i : Nat, Jvm.Free.Multi.outerC c N h0 i = arrV c N (fun j => va_rf (if j < i then some (h0 + 1 + j) else none))
  | 0 => by
    show ({ cls := c, slots := Array.replicate N .null, vm := .none } : Cell) = _
    rw [arrV_new]
    refine congrArg (arrV c N) (funext fun j => ?_)
    simp [va_rf]
  | i + 1 => by
    show (Jvm.Free.Multi.outerC c N h0 i).setSlot i (.ref (h0 + 1 + i)) = _
    rw [vr_outer c N h0 i, arrV_store]
    refine congrArg (arrV c N) (funext fun j => ?_)
    by_cases e : j = i
    · subst e
      simp [updV, va_rf]
    · by_cases h : j < i
      · simp [updV, e, h, Nat.lt_succ_of_lt h]
      · simp [updV, e, h, show ¬ j < i + 1 by omega]
section VGM
variable {p : Program} {l : Launch} {e : Env} {R : Room} {s : State} {m : MethodId} {args : Array Value} {below : List Frame} {meth : Method} {c : Code} {H : Heap} {locs : List Loc} {cells slots : Nat} {Q : State → Prop}
variable {cc : ByteArray} {pc : Nat} {ls : Array Slot} {rest : List Value} {D : va_G} {cl : List vw_C} {A : Nat → Prop} {a : Nat} {tys : List (ClassId × FieldType)} {ws : va_W} {H0 : Heap}
theorem va_mna {X : va_W} {L : List Nat} {f : Nat → va_E} {cc : ByteArray} (hexec : p.tables.exec = Jvm.exec) (hb : c.code = cc) {own : String} {index : Nat} {ty : FieldType} {cy : ClassId} (hown : s.vm.findClass own = some m.cls) (hclink : (Cond.classLink own index ("[" ++ (FieldType.array ty).toString)).before args s = true) (hover : va_AOA ty s) (harr : (Cond.arrayClass ty).before args s = true) (hcy : s.vm.findClass (FieldType.array ty).toString = some cy)
    (hK : va_K D cl tys s) (hP : va_P D cl (X ++ va_pl L f) H) (hD : va_D A (X ++ va_pl L f)) (hS : va_S A H0 H locs) (hA : ∀ q, H0.size ≤ q → A q) {n k : Int32} {N' K' : Nat} {z : vp_A} (hn : ¬ n < 0) (hk : ¬ k < 0) (hN : n.toNatClampNeg = N') (hM : k.toNatClampNeg = K')
    (hb1 : N' * 4 ≤ 536870912) (hb2 : K' * componentBytes ty ≤ 536870912) (hb3 : K' ≤ 536870912) (hdf : fits ty (defaultValue ty) = true) (hdd : (defaultValue ty).isDefault = true) (hcells : cells + (1 + N') ≤ R.cells) (hslots : slots + (N' + N' * K') ≤ R.slots) (hz : ∀ c : ClassId, Jvm.Free.Multi.innerC c K' (defaultValue ty) = vp_cell c z) (hdg : decode cc pc = .ok (.multianewarray index 2, 4))
    (kk : ∀ (q : Nat) (r : Nat → Nat) (cA : ClassId) (H1 : Heap), (∀ i j : Nat, i < N' → j < N' → r i = r j → i = j) → (∀ i : Nat, i < N' → r i ∉ L) → va_K D cl (tys ++ [(cA, .array ty)]) s →
      va_P D cl ((X ++ [(q, .inl (cA, N', .inr (.inr (.inr (.inr (fun i => if i < N' then some (r i) else none))))))]) ++ va_pl (L ++ (List.range N').map r) (vr_up f ((List.range N').map r) (.inl (cy, z)))) H1 → va_D A ((X ++ [(q, .inl (cA, N', .inr (.inr (.inr (.inr (fun i => if i < N' then some (r i) else none))))))]) ++ va_pl (L ++ (List.range N').map r) (vr_up f ((List.range N').map r) (.inl (cy, z)))) → va_S A H0 H1 locs →
      W p l e R s m args below meth c H1 locs (cells + 1 + N') (slots + N' + N' * K') Q (F0 m (pc + 4) ls (.ref q :: rest))) : W p l e R s m args below meth c H locs cells slots Q (F0 m pc ls (.int k :: .int n :: rest)) := by
  subst hN
  subst hM
  intro T hT Xs
  obtain ⟨vm₁, cA, comp, -, fA, fC, hO, -, X', step⟩ := Xs.multianewarray2F hexec hown hclink (va_AOA.use hover) harr (g := F0 m pc ls (.int k :: .int n :: rest)) rfl (by rw [hb]; exact hdg) rfl hn hk hb1 hb2 hb3 hdf hdd hcells hslots
  have ec : some cy = some comp := hcy.symm.trans fC
  cases ec
  generalize hF : Jvm.Free.Multi.fill (T.setVm vm₁) cA cy n.toNatClampNeg k.toNatClampNeg (defaultValue ty) n.toNatClampNeg = F at X' step
  have hTh : (T.setVm vm₁).heap = H := hT
  obtain ⟨f1, f2, -, -⟩ := Jvm.Free.Multi.fill_facts (T.setVm vm₁) cA cy n.toNatClampNeg k.toNatClampNeg (defaultValue ty) n.toNatClampNeg
  rw [hF, hTh] at f1 f2
  have hold : ∀ x : Nat, x < H.size → F.heap[x]? = H[x]? := fun x hx => by
    have := Jvm.Free.Multi.fill_old (T.setVm vm₁) cA cy n.toNatClampNeg k.toNatClampNeg (defaultValue ty) (a := x) (by rw [hTh]; exact hx) n.toNatClampNeg
    rw [hF, hTh] at this
    exact this
  have hrow : ∀ j : Nat, j < n.toNatClampNeg → F.heap[H.size + 1 + j]? = some (vp_cell cy z) := fun j hj => by
    have := Jvm.Free.Multi.fill_inner (T.setVm vm₁) cA cy n.toNatClampNeg k.toNatClampNeg (defaultValue ty) n.toNatClampNeg j hj
    rw [hF, hTh, hz] at this
    exact this
  have hout : Jvm.Free.Multi.outerC cA n.toNatClampNeg H.size n.toNatClampNeg = vp_cell cA (n.toNatClampNeg, .inr (.inr (.inr (.inr (fun i => if i < n.toNatClampNeg then some (H.size + 1 + i) else none))))) := by
    rw [vp_cell_q]
    exact vr_outer cA n.toNatClampNeg H.size n.toNatClampNeg
  rw [hout] at f2
  have hlt : ∀ a, a ∈ L → a < H.size := fun a ha => by
    obtain ⟨k9, hk9⟩ := va_pl_get (X := X) (f := f) ha
    exact (hP k9 _ hk9).lt
  have hnl : ∀ i : Nat, i < n.toNatClampNeg → H.size + 1 + i ∉ L := fun i _ h => by
    have := hlt _ h
    omega
  have hnm : ∀ a, a ∈ (List.range n.toNatClampNeg).map (fun i => H.size + 1 + i) → a ∉ L := fun a ha h => by
    obtain ⟨i, -, rfl⟩ := List.mem_map.mp ha
    have := hlt _ h
    omega
  have hP0 : va_P D cl (X ++ va_pl L f) F.heap := hP.kept (fun k9 x hx => hold x.1 ((hP k9 x hx).lt))
  have hP1 : va_P D cl ((X ++ va_pl L f) ++ [(H.size, .inl (cA, n.toNatClampNeg, .inr (.inr (.inr (.inr (fun i => if i < n.toNatClampNeg then some (H.size + 1 + i) else none))))))]) F.heap := hP0.app (fun k9 x hx => by
    have h0 : k9 < 1 := (List.getElem?_eq_some_iff.mp hx).1
    rw [show k9 = 0 by omega] at hx
    cases hx
    exact f2)
  have hP2 : va_P D cl (((X ++ va_pl L f) ++ [(H.size, .inl (cA, n.toNatClampNeg, .inr (.inr (.inr (.inr (fun i => if i < n.toNatClampNeg then some (H.size + 1 + i) else none))))))]) ++ ((List.range n.toNatClampNeg).map (fun i => H.size + 1 + i)).map (fun a => (a, .inl (cy, z)))) F.heap := hP1.app (fun k9 x hx => by
    obtain ⟨a, ha, rfl⟩ := List.mem_map.mp (List.mem_of_getElem? hx)
    obtain ⟨i, hi, rfl⟩ := List.mem_map.mp ha
    exact hrow i (List.mem_range.mp hi))
  have hD2 : va_D A (((X ++ va_pl L f) ++ [(H.size, .inl (cA, n.toNatClampNeg, .inr (.inr (.inr (.inr (fun i => if i < n.toNatClampNeg then some (H.size + 1 + i) else none))))))]) ++ ((List.range n.toNatClampNeg).map (fun i => H.size + 1 + i)).map (fun a => (a, .inl (cy, z)))) := by
    have hD1 := hD.push (e := .inl (cA, n.toNatClampNeg, .inr (.inr (.inr (.inr (fun i => if i < n.toNatClampNeg then some (H.size + 1 + i) else none)))))) hP rfl (hA _ hS.1)
    generalize hW1 : (X ++ va_pl L f) ++ [(H.size, .inl (cA, n.toNatClampNeg, .inr (.inr (.inr (.inr (fun i => if i < n.toNatClampNeg then some (H.size + 1 + i) else none))))))] = W1 at hD1 hP1 ⊢
    have hle : ∀ (k9 : Nat) (x : Nat × va_E), W1[k9]? = some x → x.1 ≤ H.size := fun k9 x hx => by
      rw [← hW1] at hx
      by_cases hl : k9 < (X ++ va_pl L f).length
      · rw [List.getElem?_append_left hl] at hx
        exact Nat.le_of_lt ((hP k9 x hx).lt)
      · rw [List.getElem?_append_right (by omega)] at hx
        have h0 : k9 - (X ++ va_pl L f).length < 1 := (List.getElem?_eq_some_iff.mp hx).1
        rw [show k9 - (X ++ va_pl L f).length = 0 by omega] at hx
        cases hx
        exact Nat.le_refl _
    have hr : ∀ (k9 : Nat) (x : Nat × va_E), (((List.range n.toNatClampNeg).map (fun i => H.size + 1 + i)).map (fun a => ((a, .inl (cy, z)) : Nat × va_E)))[k9]? = some x → x.1 = H.size + 1 + k9 := fun k9 x hx => by
      rw [List.getElem?_map, List.getElem?_map] at hx
      by_cases h9 : k9 < n.toNatClampNeg
      · rw [List.getElem?_range h9] at hx
        cases hx
        rfl
      · have hn0 : (List.range n.toNatClampNeg)[k9]? = none := List.getElem?_eq_none (by rw [List.length_range]; omega)
        rw [hn0] at hx
        cases hx
    refine ⟨fun i j x y hi hj hxy => ?_, fun k9 x hx => ?_⟩
    · by_cases h1 : i < W1.length <;> by_cases h2 : j < W1.length
      · rw [List.getElem?_append_left h1] at hi
        rw [List.getElem?_append_left h2] at hj
        exact hD1.1 i j x y hi hj hxy
      · rw [List.getElem?_append_left h1] at hi
        rw [List.getElem?_append_right (by omega)] at hj
        have := hle _ _ hi
        have := hr _ _ hj
        omega
      · rw [List.getElem?_append_right (by omega)] at hi
        rw [List.getElem?_append_left h2] at hj
        have := hle _ _ hj
        have := hr _ _ hi
        omega
      · rw [List.getElem?_append_right (by omega)] at hi hj
        have := hr _ _ hi
        have := hr _ _ hj
        omega
    · by_cases h1 : k9 < W1.length
      · rw [List.getElem?_append_left h1] at hx
        exact hD1.2 k9 x hx
      · rw [List.getElem?_append_right (by omega)] at hx
        have := hr _ _ hx
        exact hA _ (by have := hS.1; omega)
  have hAr : ArrOfT s cA (.array ty) := fun N9 z9 => by
    obtain ⟨-, k9, hk9, cm9, hkk9⟩ := (hO 0 0 0).1
    exact ⟨(fun q hq => by cases hq), k9, hk9, cm9, hkk9⟩
  have hK2 : va_K D cl (tys ++ [(cA, .array ty)]) s := ⟨hK.1, fun k9 x hx => by
    by_cases hl : k9 < tys.length
    · rw [List.getElem?_append_left hl] at hx
      exact hK.2 k9 x hx
    · rw [List.getElem?_append_right (by omega)] at hx
      have h0 : k9 - tys.length < 1 := (List.getElem?_eq_some_iff.mp hx).1
      rw [show k9 - tys.length = 0 by omega] at hx
      cases hx
      exact ⟨hAr, fA⟩⟩
  obtain ⟨t, a1, b1⟩ := kk H.size (fun i => H.size + 1 + i) cA F.heap (fun i j _ _ h => by have h9 : H.size + 1 + i = H.size + 1 + j := h; omega) hnl hK2 (by rw [← vr_rows hnm]; exact vr_lay hP2) (by rw [← vr_rows hnm]; exact vr_layD hD2) ⟨by rw [f1]; have := hS.1; omega, fun x h1 h2 => (hold x (Nat.lt_of_lt_of_le h1 hS.1)).trans (hS.2.1 x h1 h2), hS.2.2⟩ F rfl X'
  refine ⟨t, step t ?_, b1⟩
  have e : T.heap.size = H.size := by rw [hT]
  rw [e]
  exact a1
end VGM
/-! ===== END ===== -/

/-! ===== BEGIN exceptions that leave a method, and their catching by the caller (launches without stack traces) ===== -/
section VXA
/-! The laws vx_back, vx_callV, vx_callS, vx_callSW, vx_throw0, vx_throwS follow proofs of the library, with one case more: JvmDerived/Free/Laws.lean (Back.of_free), Shelf42/LK1.lean (callV, callS), Shelf/KitTraced.lean (throwNew0V, throwNewS). -/
/-- where a method has thrown q: the class by its name, the cell, what was written, the world -/
def vx_T (XC : String → State → State → Prop) (st : State) (q : Addr) (t : State) (mc ms : Nat) (free : Addr → Prop) : Prop :=
  ∃ (E : String) (ce : Cell) (L : List Loc), XC E st t ∧ t.heap[q]? = some ce ∧ ce.vm = .none ∧ st.vm.findClass E = some ce.cls ∧ st.WarmedH t.vm ∧ st.sameButNew ({ t with vm := st.vm } : State) L mc ms ∧ ∀ z ∈ L, free z.base
def vx_Q (Qc : Array Value → State → Outcome → State → Prop) (XC : String → State → State → Prop) (mc ms : Nat) (free : Addr → Prop) : Array Value → State → Outcome → State → Prop := fun a st o t =>
  (Qc a st o t ∧ ∃ L, FrameEnd st o t L mc ms ∧ ∀ q ∈ L, free q.base) ∨ ∃ q, o = .threw q ∧ vx_T XC st q t mc ms free
/-- a callee that returns or throws -/
def vx_Met (l : Launch) (y : MethodName) (ws : List Cond) (rm : Room) (Pc : Array Value → State → Prop) (Qc : Array Value → State → Outcome → State → Prop) (XC : String → State → State → Prop) (mc ms : Nat) (free : Addr → Prop) : Prop :=
  MetFree l y (headSpec ws rm) Pc (fun _ _ _ _ _ => True) (vx_Q Qc XC mc ms free)
def vx_Post (XC : String → State → State → Prop) (mc ms : Nat) (free : Addr → Prop) : Pt → Array Value → Addr → Pt → Prop := fun A a q B =>
  ∃ (g : JFrame) (mk : MethodId) (t : State) (L : List Loc) (E : String) (ce : Cell), B.U.heap = t.heap ∧ B.U.vm = t.vm ∧ XC E (A.U.calling g mk a) t ∧ t.heap[q]? = some ce ∧ ce.vm = .none ∧ A.U.vm.findClass E = some ce.cls ∧ B.locs = A.locs ++ L ∧ (∀ z ∈ L, free z.base) ∧ B.cells = A.cells + mc ∧ B.slots = A.slots + ms
def vx_Back (l : Launch) (R : Room) (p : Program) (e : Env) (below : List Frame) (s : State) (sargs : Array Value) (y : MethodName) (len W9 : Nat)
    (Pre : Pt → Array Value → Prop) (Post : Pt → Array Value → Option Value → Pt → Prop) (PostX : Pt → Array Value → Addr → Pt → Prop) : Prop :=
  ∀ (m : MethodId) (meth : Method) (c : Code) (A : Pt) (g : JFrame) (ig : Instr) (mk : MethodId) (a : Array Value),
    Stand p l e R s m sargs below meth c A.U A.locs A.cells A.slots → g.method = m → g.locals.size = c.maxLocals → decode c.code g.pc = .ok (ig, len) →
    2 * g.monitorRoom + (g.stack.map fun v => v.category).sum ≤ W9 → A.U.methodNamed? y = some mk → Pre A a →
    (∃ (v : Option Value) (B : Pt), Stand p l e R s m sargs below meth c B.U B.locs B.cells B.slots ∧ Post A a v B ∧
      Steps p.tables e below (doInvoke e (A.U.setTop g) [] mk a).1 (B.U.setTop { g with pc := g.pc + len, stack := v.toList ++ g.stack })) ∨
    (∃ (q : Addr) (B : Pt), Stand p l e R s m sargs below meth c B.U B.locs B.cells B.slots ∧ PostX A a q B ∧
      Steps p.tables e below (doInvoke e (A.U.setTop g) [] mk a).1 ((B.U.setTop g).pushFrame (.throwing q)))
section Payer
variable {l : Launch} {R : Room} {p : Program} {e : Env} {below : List Frame} {s : State} {sargs : Array Value} {y : MethodName} {len W9 : Nat}
theorem vx_back {ws : List Cond} {rm : Room} {Pc : Array Value → State → Prop} {Qc : Array Value → State → Outcome → State → Prop} {XC : String → State → State → Prop} {mc ms : Nat} {free : Addr → Prop} {bytes : ByteArray} {maxL : Nat} {ret : Option FieldType}
    (hM : vx_Met l y ws rm Pc Qc XC mc ms free) (hblind : FrameBlind Pc) (hrc : rm.cells = mc) (hrs : rm.slots = ms)
    (hframes : rm.frames + 1 ≤ R.frames) (hlocals : W9 + (maxL + 11) + rm.locals ≤ R.locals)
    (hws : ∀ w ∈ ws, ∀ a' U, s.WarmedH U.vm → w.before a' U = true) (hcode : Cond.code y bytes maxL ret ∈ ws) (hinit : ∀ a' U, s.WarmedH U.vm → (Cond.initialized y.cls).before a' U = true) :
    vx_Back l R p e below s sargs y len W9 (PreOf R mc ms Pc) (PostOf Qc mc ms free) (vx_Post XC mc ms free) := by
  intro m meth c A g ig mk a X hg hsize hdg hW hn hp
  have h1 : (headSpec ws rm).pre.before a A.U = true := atoms_intro fun w hw => hws w hw _ _ X.warmed
  have h2 : (Cond.code y bytes maxL ret).before a A.U = true := hws _ hcode _ _ X.warmed
  have h3 : (Cond.initialized y.cls).before a A.U = true := hinit _ _ X.warmed
  have h4 : A.cells + (headSpec ws rm).room.cells ≤ R.cells := by rw [show (headSpec ws rm).room.cells = mc from hrc]; exact hp.1
  have h5 : A.slots + (headSpec ws rm).room.slots ≤ R.slots := by rw [show (headSpec ws rm).room.slots = ms from hrs]; exact hp.2.1
  have hPc : Pc a (A.U.calling g mk a) := hblind _ _ _ _ hp.2.2
  obtain ⟨U, Ls, c0, s0⟩ := A
  dsimp only [Pt.U, Pt.locs, Pt.cells, Pt.slots] at h1 h2 h3 h4 h5 X hn hPc ⊢
  obtain ⟨methY, cY, hmY, hcY, -, hlY, -, -, -, -⟩ := Cond.code_spec hn h2
  obtain ⟨kY, hkY, -⟩ := className_of_methodNamed hn
  have hinitY : kY.init = .initialized := Cond.initialized_spec (findClass_of_methodNamed hn) hkY h3
  have h : At U g.method c below := by rw [hg]; exact X.here
  have hlocals9 : W9 + (maxL + 11) + (headSpec ws rm).room.locals ≤ R.locals := hlocals
  have happ : (headSpec ws rm).appliesLoose y e.platform (U.calling g mk a) = true :=
    Spec.appliesLoose_calling (g := g) h hdg hn hkY hinitY
      (X.room_calling (g := g) (R' := (headSpec ws rm).room) hsize hmY hcY hframes (by rw [hlY]; omega) h4 h5) h1
  obtain ⟨mid, hmid⟩ := h.above
  have hfr : (U.setTop g).frames = (.java g :: mid) ++ below := by rw [State.frames_setTop' g h.top, hmid]; rfl
  obtain ⟨o, s₂, hsteps, -, hend, hq⟩ := Steps.callFree hM p X.admits X.cas X.clock (acts := []) hfr happ hPc trivial
  have hq' : vx_Q Qc XC mc ms free a (U.calling g mk a) o s₂ := hq
  rw [State.frames_setTop' g h.top] at hend
  obtain ⟨g₀, hg0⟩ := Option.isSome_iff_exists.mp h.top
  obtain ⟨r, hr⟩ := State.topJava?_eq_some.mp hg0
  have hr' : (({ U with heap := s₂.heap, slotsUsed := s₂.slotsUsed } : State).setVm s₂.vm).frames = .java g₀ :: r := hr
  rcases hq' with ⟨hqc, L, hfe, hL⟩ | ⟨q, rfl, E, ce, L, hx, hce, hcv, hcl, hW₂, hsm, hL⟩
  · obtain ⟨⟨v, rfl⟩, hW₂, e2, q2, q3, q4, q5, q6⟩ := id hfe
    have e3 : s₂ = ({ (U.calling g mk a).setFrames s₂.frames with heap := s₂.heap, slotsUsed := s₂.slotsUsed } : State).setVm s₂.vm := by
      have : s₂ = ({ s₂ with vm := (U.calling g mk a).vm } : State).setVm s₂.vm := rfl
      rw [e2] at this
      exact this
    obtain ⟨c₂, i₂, len₂, hc₂, hd₂, hf₂⟩ := hend
    have hW' : U.WarmedH s₂.vm := hW₂
    have hcc : c₂ = c := by
      have h1 : s₂.code? g.method = U.code? g.method := by
        rw [State.code?_eq, State.code?_eq, hW'.alike.method?]
      exact Option.some.inj (hc₂.symm.trans (h1.trans h.code))
    subst hcc
    have hlen : len₂ = len := by rw [hdg] at hd₂; cases hd₂; rfl
    subst hlen
    have hs₂ : s₂ = (({ U with heap := s₂.heap, slotsUsed := s₂.slotsUsed } : State).setVm s₂.vm).setTop { g with pc := g.pc + len₂, stack := v.toList ++ g.stack } := by
      refine e3.trans ?_
      rw [hf₂, State.calling_eq h.top, State.setFrames_setFrames, State.setTop_of_frames _ hr', hr]
      rfl
    have hsame : U.sameButNew ({ U with heap := s₂.heap, slotsUsed := s₂.slotsUsed } : State) L mc ms := by
      refine ⟨?_, q2, q3, q4, q5, q6⟩
      obtain ⟨t, ht, -⟩ := State.frames_cons hr
      show ({ U with heap := s₂.heap, slotsUsed := s₂.slotsUsed } : State) = { U.setFrames U.frames with heap := s₂.heap, slotsUsed := s₂.slotsUsed }
      rw [State.setFrames_self ht]
    subst hg
    refine Or.inl ⟨v, ⟨(({ U with heap := s₂.heap, slotsUsed := s₂.slotsUsed } : State).setVm s₂.vm), Ls ++ L, c0 + mc, s0 + ms⟩,
      ⟨X.admits, X.cas, X.clock, X.frames, X.room, X.hears, X.method, X.code, (X.here.setHeapUsed s₂.heap s₂.slotsUsed).setVm hW'.alike, X.tail, State.WarmedH.trans X.warmed hW', X.limits, X.bytes, X.same.trans (hsame.setVm s.vm)⟩,
      ⟨g, mk, s₂, L, rfl, rfl, hqc, rfl, hL, rfl, rfl⟩, ?_⟩
    show Steps p.tables e below _ ((({ U with heap := s₂.heap, slotsUsed := s₂.slotsUsed } : State).setVm s₂.vm).setTop { g with pc := g.pc + len₂, stack := v.toList ++ g.stack })
    rw [← hs₂]
    exact hsteps
  · obtain ⟨e2, q2, q3, q4, q5, q6⟩ := id hsm
    have e3 : s₂ = ({ (U.calling g mk a).setFrames s₂.frames with heap := s₂.heap, slotsUsed := s₂.slotsUsed } : State).setVm s₂.vm := by
      have : s₂ = ({ s₂ with vm := (U.calling g mk a).vm } : State).setVm s₂.vm := rfl
      rw [e2] at this
      exact this
    have hf₂ : s₂.frames = .throwing q :: .java g :: U.frames.tail := hend
    have hW' : U.WarmedH s₂.vm := hW₂
    have hs₂ : s₂ = ((({ U with heap := s₂.heap, slotsUsed := s₂.slotsUsed } : State).setVm s₂.vm).setTop g).pushFrame (.throwing q) := by
      refine e3.trans ?_
      rw [hf₂, State.calling_eq h.top, State.setFrames_setFrames, State.pushFrame, State.frames_setTop _ hr', State.setTop_of_frames _ hr', State.setFrames_setFrames, hr]
      rfl
    have hsame : U.sameButNew ({ U with heap := s₂.heap, slotsUsed := s₂.slotsUsed } : State) L mc ms := by
      refine ⟨?_, q2, q3, q4, q5, q6⟩
      obtain ⟨t, ht, -⟩ := State.frames_cons hr
      show ({ U with heap := s₂.heap, slotsUsed := s₂.slotsUsed } : State) = { U.setFrames U.frames with heap := s₂.heap, slotsUsed := s₂.slotsUsed }
      rw [State.setFrames_self ht]
    subst hg
    refine Or.inr ⟨q, ⟨(({ U with heap := s₂.heap, slotsUsed := s₂.slotsUsed } : State).setVm s₂.vm), Ls ++ L, c0 + mc, s0 + ms⟩,
      ⟨X.admits, X.cas, X.clock, X.frames, X.room, X.hears, X.method, X.code, (X.here.setHeapUsed s₂.heap s₂.slotsUsed).setVm hW'.alike, X.tail, State.WarmedH.trans X.warmed hW', X.limits, X.bytes, X.same.trans (hsame.setVm s.vm)⟩,
      ⟨g, mk, s₂, L, E, ce, rfl, rfl, hx, hce, hcv, hcl, rfl, hL, rfl, rfl⟩, ?_⟩
    show Steps p.tables e below _ (((({ U with heap := s₂.heap, slotsUsed := s₂.slotsUsed } : State).setVm s₂.vm).setTop g).pushFrame (.throwing q))
    rw [← hs₂]
    exact hsteps
end Payer
section Calls
variable {p : Program} {l : Launch} {e : Env} {R : Room} {s : State} {m : MethodId} {args : Array Value} {below : List Frame} {meth : Method} {c : Code} {T : State} {locs : List Loc} {cells slots : Nat}
theorem vx_callV (X : Stand p l e R s m args below meth c T locs cells slots) (hexec : p.tables.exec = Jvm.exec) {own C : String} {index : Nat} {y : MethodName} {bytes : ByteArray} {maxL : Nat} {ret : Option FieldType}
    (hown : s.vm.findClass own = some m.cls) (hlink : (Cond.methodLink own index y).before args s = true) (hinst : (Cond.instanceMethod y).before args s = true) (hsel : (Cond.selects C y y).before args s = true)
    (hcode : (Cond.code y bytes maxL ret).before args s = true) (hy : y.cls ≠ "java/lang/invoke/MethodHandle" ∧ y.cls ≠ "java/lang/invoke/VarHandle")
    {W9 : Nat} {Pre : Pt → Array Value → Prop} {Post : Pt → Array Value → Option Value → Pt → Prop} {PostX : Pt → Array Value → Addr → Pt → Prop} (hK : vx_Back l R p e below s args y 3 W9 Pre Post PostX)
    {b : Addr} {cellB : Cell} (hcell : T.heap[b]? = some cellB) (hobj : cellB.vm.isStatics = false) (hcls : s.vm.findClass C = some cellB.cls)
    {g : JFrame} (hg : g.method = m) (hsize : g.locals.size = c.maxLocals) {argsL rest : List Value} (hlen : ∀ sig, parseMethodDescriptor y.desc = some sig → argsL.length = sig.parameters.length)
    (hstack : g.stack = argsL.reverse ++ .ref b :: rest) (hW : 2 * g.monitorRoom + (rest.map fun v => v.category).sum ≤ W9) (hdg : decode c.code g.pc = .ok (.invokevirtual index, 3))
    (hpre : ∀ vm₁, s.WarmedH vm₁ → Pre ⟨T.setVm vm₁, locs, cells, slots⟩ (Value.ref b :: argsL).toArray) :
    (∃ (v : Option Value) (vm₁ : Vm) (B : Pt), s.WarmedH vm₁ ∧ Stand p l e R s m args below meth c B.U B.locs B.cells B.slots ∧ Post ⟨T.setVm vm₁, locs, cells, slots⟩ (Value.ref b :: argsL).toArray v B ∧
      ∀ target, Steps p.tables e below (B.U.setTop { g with pc := g.pc + 3, stack := v.toList ++ rest }) target → Steps p.tables e below (T.setTop g) target) ∨
    (∃ (q : Addr) (vm₁ : Vm) (B : Pt), s.WarmedH vm₁ ∧ Stand p l e R s m args below meth c B.U B.locs B.cells B.slots ∧ PostX ⟨T.setVm vm₁, locs, cells, slots⟩ (Value.ref b :: argsL).toArray q B ∧
      Steps p.tables e below (T.setTop g) ((B.U.setTop { g with stack := rest }).pushFrame (.throwing q))) := by
  obtain ⟨mk, methM, hnamed, hmethM, hstM, habM⟩ := Cond.instanceMethod_spec hinst
  obtain ⟨methM', cM, hmethM', -, -, -, -, -, -, hsigM⟩ := Cond.code_spec hnamed hcode
  cases hmethM.symm.trans hmethM'
  obtain ⟨c2, r2, m2, q1, q2, q3, q4, kP, hkP, hkPi⟩ := Cond.selects_spec hsel
  cases hcls.symm.trans q1
  cases (State.methodFound?_of_named hnamed hy).symm.trans q2
  cases hnamed.symm.trans q3
  have hselP : selectMethod e.platform s.vm cellB.cls mk = .method mk := by rw [Launch.admits_selectMethod X.admits]; exact q4
  obtain ⟨vm₁, X₁, hstep₁⟩ := X.invokevirtual hexec hown hlink hnamed hmethM hstM hkP hkPi hy (a := b) (cell := cellB) hcell
    (fun z h => by rw [h] at hobj; cases hobj) hselP hmethM habM hkP hkPi (g := g) hg (argsL := argsL) (rest := rest) (hlen _ hsigM) hstack hdg
  rcases hK m meth c ⟨T.setVm vm₁, locs, cells, slots⟩ { g with stack := rest } (.invokevirtual index) mk (Value.ref b :: argsL).toArray X₁ hg hsize hdg hW (X₁.named hnamed) (hpre vm₁ X₁.warmed) with ⟨v, B, X', hpost, hsteps⟩ | ⟨q, B, X', hpost, hsteps⟩
  · exact Or.inl ⟨v, vm₁, B, X₁.warmed, X', hpost, fun target h => hstep₁ _ fun acts => by rw [doInvoke_state]; exact hsteps.trans h⟩
  · exact Or.inr ⟨q, vm₁, B, X₁.warmed, X', hpost, hstep₁ _ fun acts => by rw [doInvoke_state]; exact hsteps⟩
theorem vx_callS (X : Stand p l e R s m args below meth c T locs cells slots) (hexec : p.tables.exec = Jvm.exec) {own : String} {index : Nat} {y : MethodName} {bytes : ByteArray} {maxL : Nat} {ret : Option FieldType}
    (hown : s.vm.findClass own = some m.cls) (hlink : (Cond.methodLink own index y).before args s = true) (hstat : (Cond.static y).before args s = true) (hinit : (Cond.initialized y.cls).before args s = true)
    (hcode : (Cond.code y bytes maxL ret).before args s = true) (hy : y.cls ≠ "java/lang/invoke/MethodHandle" ∧ y.cls ≠ "java/lang/invoke/VarHandle")
    {W9 : Nat} {Pre : Pt → Array Value → Prop} {Post : Pt → Array Value → Option Value → Pt → Prop} {PostX : Pt → Array Value → Addr → Pt → Prop} (hK : vx_Back l R p e below s args y 3 W9 Pre Post PostX)
    {g : JFrame} (hg : g.method = m) (hsize : g.locals.size = c.maxLocals) {argsL rest : List Value} (hlen : ∀ sig, parseMethodDescriptor y.desc = some sig → argsL.length = sig.parameters.length)
    (hstack : g.stack = argsL.reverse ++ rest) (hW : 2 * g.monitorRoom + (rest.map fun v => v.category).sum ≤ W9) (hdg : decode c.code g.pc = .ok (.invokestatic index, 3))
    (hpre : ∀ vm₁, s.WarmedH vm₁ → Pre ⟨T.setVm vm₁, locs, cells, slots⟩ argsL.toArray) :
    (∃ (v : Option Value) (vm₁ : Vm) (B : Pt), s.WarmedH vm₁ ∧ Stand p l e R s m args below meth c B.U B.locs B.cells B.slots ∧ Post ⟨T.setVm vm₁, locs, cells, slots⟩ argsL.toArray v B ∧
      ∀ target, Steps p.tables e below (B.U.setTop { g with pc := g.pc + 3, stack := v.toList ++ rest }) target → Steps p.tables e below (T.setTop g) target) ∨
    (∃ (q : Addr) (vm₁ : Vm) (B : Pt), s.WarmedH vm₁ ∧ Stand p l e R s m args below meth c B.U B.locs B.cells B.slots ∧ PostX ⟨T.setVm vm₁, locs, cells, slots⟩ argsL.toArray q B ∧
      Steps p.tables e below (T.setTop g) ((B.U.setTop { g with stack := rest }).pushFrame (.throwing q))) := by
  obtain ⟨mk, hnamed⟩ := Cond.code_named hcode
  obtain ⟨methM, cM, hmethM, -, -, -, -, -, -, hsigM⟩ := Cond.code_spec hnamed hcode
  have hstatic : methM.isStatic = true := Cond.static_spec hnamed hmethM hstat
  obtain ⟨kP, hkP, -⟩ := className_of_methodNamed hnamed
  have hinitP : kP.init = .initialized := Cond.initialized_spec (findClass_of_methodNamed hnamed) hkP hinit
  obtain ⟨vm₁, X₁, hstep₁⟩ := X.invokestatic hexec hown hlink hnamed hmethM hstatic hkP hinitP hy (g := g) hg (argsL := argsL) (rest := rest) (hlen _ hsigM) hstack hdg
  rcases hK m meth c ⟨T.setVm vm₁, locs, cells, slots⟩ { g with stack := rest } (.invokestatic index) mk argsL.toArray X₁ hg hsize hdg hW (X₁.named hnamed) (hpre vm₁ X₁.warmed) with ⟨v, B, X', hpost, hsteps⟩ | ⟨q, B, X', hpost, hsteps⟩
  · exact Or.inl ⟨v, vm₁, B, X₁.warmed, X', hpost, fun target h => hstep₁ _ fun acts => by rw [doInvoke_state]; exact hsteps.trans h⟩
  · exact Or.inr ⟨q, vm₁, B, X₁.warmed, X', hpost, hstep₁ _ fun acts => by rw [doInvoke_state]; exact hsteps⟩
end Calls
theorem vx_cls {s : State} {T : State} {vm₁ : Vm} {E : String} {k : ClassId} (hW : s.WarmedH vm₁) (h : (T.setVm vm₁).vm.findClass E = some k) : s.vm.findClass E = some k := by
  have h1 : vm₁.findClass E = some k := h
  rw [hW.alike.findClass] at h1
  exact h1
/-- the method's frame g, with q thrown over it -/
def vx_W (p : Program) (l : Launch) (e : Env) (R : Room) (s : State) (m : MethodId) (args : Array Value) (below : List Frame) (meth : Method) (c : Code) (H : Heap) (locs : List Loc) (cells slots : Nat) (Q : State → Prop) (g : JFrame) (q : Addr) : Prop :=
  ∀ T : State, T.heap = H → Stand p l e R s m args below meth c T locs cells slots → ∃ t, Steps p.tables e below ((T.setTop g).pushFrame (.throwing q)) t ∧ Q t
def vx_Run (p : Program) (l : Launch) (e : Env) (R : Room) (s : State) (m : MethodId) (args : Array Value) (below : List Frame) (meth : Method) (c : Code) (H : Heap) (locs : List Loc) (cells slots mc ms : Nat) (g : JFrame) (rest : List Value) (Qa : State → Outcome → State → Prop) (XC : String → State → State → Prop) (free : Addr → Prop) : Prop :=
  ∀ T : State, T.heap = H → Stand p l e R s m args below meth c T locs cells slots →
    (∃ (v : Option Value) (st₀ t T' : State) (L : List Loc), st₀.heap = H ∧ Stand p l e R s m args below meth c T' (locs ++ L) (cells + mc) (slots + ms) ∧ (∀ q ∈ L, free q.base) ∧ T'.heap = t.heap ∧ T'.vm = t.vm ∧ Qa st₀ (.returned v) t ∧
      Goes p e below T g T' { g with pc := g.pc + 3, stack := v.toList ++ rest }) ∨
    (∃ (q : Addr) (st₀ t T' : State) (L : List Loc) (E : String) (ce : Cell), st₀.heap = H ∧ Stand p l e R s m args below meth c T' (locs ++ L) (cells + mc) (slots + ms) ∧ (∀ z ∈ L, free z.base) ∧ T'.heap = t.heap ∧ T'.vm = t.vm ∧ XC E st₀ t ∧ t.heap[q]? = some ce ∧ ce.vm = .none ∧ s.vm.findClass E = some ce.cls ∧
      Steps p.tables e below (T.setTop g) ((T'.setTop { g with stack := rest }).pushFrame (.throwing q)))
def vx_X {S : Type} (px : S → Prop) (B : String → S → State → Prop) (A : Nat → Prop) : String → State → State → Prop := fun E st t => ∃ u : S, px u ∧ B E u t ∧ va_F A st t
section Runs
variable {p : Program} {l : Launch} {e : Env} {R : Room} {s : State} {m : MethodId} {args : Array Value} {below : List Frame} {meth : Method} {c : Code} {H : Heap} {locs : List Loc} {cells slots : Nat}
variable {y : MethodName} {bytes cc : ByteArray} {maxL nL mc ms n index : Nat} {ret : Option FieldType} {ws : List Cond} {rm : Room} {Pc : Array Value → State → Prop} {Qc : Array Value → State → Outcome → State → Prop} {XC : String → State → State → Prop} {free : Addr → Prop} {Ts : List Cond} {own C : String} {b : Addr} {As rest : List Value} {g : JFrame}
theorem vx_callBack (cb : CallB R s args own index y bytes maxL ret ws rm mc ms n) (hM : vx_Met l y ws rm Pc Qc XC mc ms free) (hbl : FrameBlind Pc) : vx_Back l R p e below s args y 3 8 (PreOf R mc ms Pc) (PostOf Qc mc ms free) (vx_Post XC mc ms free) := by
  obtain ⟨hrc, hrs, hfr, hlo, hws, hcw, -, hini, -⟩ := cb
  exact vx_back (bytes := bytes) (maxL := maxL) (ret := ret) hM hbl hrc hrs hfr hlo hws hcw (fun a' U hW => word_at hW (Or.inl (by first | rfl | simp [Cond.onTables, Cond.keeps, Cond.steady])) hini)
theorem vx_runV (S : CallFix p m c cc nL s args Ts own) (hM : vx_Met l y ws rm Pc Qc XC mc ms free) (cw : CallW R s args own C index y bytes maxL ret ws rm mc ms n) (hp : PreV s H C b Pc As)
    (hg : g.method = m) (hn : As.length = n) (hsize : g.locals.size = nL) (hstack : g.stack = As.reverse ++ .ref b :: rest) (hW : 2 * g.monitorRoom + (rest.map fun v => v.category).sum ≤ 8) (hdg : decode cc g.pc = .ok (.invokevirtual index, 3)) (hf : cells + mc ≤ R.cells ∧ slots + ms ≤ R.slots) :
    vx_Run p l e R s m args below meth c H locs cells slots mc ms g rest (Qc (Value.ref b :: As).toArray) XC free := by
  have hK : vx_Back l R p e below s args y 3 8 (PreOf R mc ms Pc) (PostOf Qc mc ms free) (vx_Post XC mc ms free) := vx_callBack cw.1 hM hp.1
  obtain ⟨⟨-, -, -, -, -, -, hcode, -, hy, hlen, hl⟩, hin, hse⟩ := cw
  obtain ⟨hx, hb, hml, ho, -⟩ := S
  obtain ⟨-, ⟨cellB, hcB, hoB, hclB⟩, hPc⟩ := hp
  intro T hT X
  rcases vx_callV X hx (C := C) (bytes := bytes) (maxL := maxL) (ret := ret) ho hl hin hse hcode hy hK (by rw [hT]; exact hcB) hoB hclB hg (hsize.trans hml.symm) (argsL := As) (rest := rest) (fun sig h => hn.trans (hlen sig h)) hstack hW (by rw [hb]; exact hdg)
    (fun vm₁ hW₁ => ⟨hf.1, hf.2, hPc (T.setVm vm₁) hT hW₁⟩) with ⟨v, vm₁, ⟨U', l2, c2, s2⟩, hW₁, X', ⟨g', mk, t, L, e1, e2, hq, h1, hL, h2, h3⟩, st⟩ | ⟨q, vm₁, ⟨U', l2, c2, s2⟩, hW₁, X', ⟨g', mk, t, L, E, ce, e1, e2, hq, hce, hcv, hcl, h1, hL, h2, h3⟩, st⟩
  · dsimp only [Pt.U, Pt.locs, Pt.cells, Pt.slots] at X' e1 e2 h1 h2 h3 st
    subst h1; subst h2; subst h3
    exact Or.inl ⟨v, (T.setVm vm₁).calling g' mk (Value.ref b :: As).toArray, t, U', L, hT, X', hL, e1, e2, hq, st⟩
  · dsimp only [Pt.U, Pt.locs, Pt.cells, Pt.slots] at X' e1 e2 h1 h2 h3 st hcl
    subst h1; subst h2; subst h3
    exact Or.inr ⟨q, (T.setVm vm₁).calling g' mk (Value.ref b :: As).toArray, t, U', L, E, ce, hT, X', hL, e1, e2, hq, hce, hcv, vx_cls hW₁ hcl, st⟩
theorem vx_runS (S : CallFix p m c cc nL s args Ts own) (hM : vx_Met l y ws rm Pc Qc XC mc ms free) (cw : CallB R s args own index y bytes maxL ret ws rm mc ms n ∧ (Cond.static y).before args s = true) (hp : PreS s H Pc As)
    (hg : g.method = m) (hn : As.length = n) (hsize : g.locals.size = nL) (hstack : g.stack = As.reverse ++ rest) (hW : 2 * g.monitorRoom + (rest.map fun v => v.category).sum ≤ 8) (hdg : decode cc g.pc = .ok (.invokestatic index, 3)) (hf : cells + mc ≤ R.cells ∧ slots + ms ≤ R.slots) :
    vx_Run p l e R s m args below meth c H locs cells slots mc ms g rest (Qc As.toArray) XC free := by
  have hK : vx_Back l R p e below s args y 3 8 (PreOf R mc ms Pc) (PostOf Qc mc ms free) (vx_Post XC mc ms free) := vx_callBack cw.1 hM hp.1
  obtain ⟨⟨-, -, -, -, -, -, hcode, hini, hy, hlen, hl⟩, hstt⟩ := cw
  obtain ⟨hx, hb, hml, ho, -⟩ := S
  intro T hT X
  rcases vx_callS X hx (bytes := bytes) (maxL := maxL) (ret := ret) ho hl hstt hini hcode hy hK hg (hsize.trans hml.symm) (argsL := As) (rest := rest) (fun sig h => hn.trans (hlen sig h)) hstack hW (by rw [hb]; exact hdg)
    (fun vm₁ hW₁ => ⟨hf.1, hf.2, hp.2 (T.setVm vm₁) hT hW₁⟩) with ⟨v, vm₁, ⟨U', l2, c2, s2⟩, hW₁, X', ⟨g', mk, t, L, e1, e2, hq, h1, hL, h2, h3⟩, st⟩ | ⟨q, vm₁, ⟨U', l2, c2, s2⟩, hW₁, X', ⟨g', mk, t, L, E, ce, e1, e2, hq, hce, hcv, hcl, h1, hL, h2, h3⟩, st⟩
  · dsimp only [Pt.U, Pt.locs, Pt.cells, Pt.slots] at X' e1 e2 h1 h2 h3 st
    subst h1; subst h2; subst h3
    exact Or.inl ⟨v, (T.setVm vm₁).calling g' mk As.toArray, t, U', L, hT, X', hL, e1, e2, hq, st⟩
  · dsimp only [Pt.U, Pt.locs, Pt.cells, Pt.slots] at X' e1 e2 h1 h2 h3 st hcl
    subst h1; subst h2; subst h3
    exact Or.inr ⟨q, (T.setVm vm₁).calling g' mk As.toArray, t, U', L, E, ce, hT, X', hL, e1, e2, hq, hce, hcv, vx_cls hW₁ hcl, st⟩
end Runs
section Rows
variable {p : Program} {l : Launch} {e : Env} {R : Room} {s : State} {m : MethodId} {args : Array Value} {below : List Frame} {meth : Method} {c : Code} {H : Heap} {locs : List Loc} {cells slots : Nat} {Q : State → Prop}
variable {mc ms : Nat} {free : Addr → Prop} {A0 A1 : Nat → Prop} {H0 : Heap} {a : Array Value} {pc : Nat} {ls : Array Slot} {st0 rest : List Value}
theorem vx_keep {st₀ t T' : State} {L : List Loc} (h0 : st₀.heap = H) (e1 : T'.heap = t.heap) (hS : va_S A0 H0 H locs) (hA : ∀ q, q < H.size → A1 q → A0 q) (hf : ∀ q, free q → A0 q) (hL : ∀ q ∈ L, free q.base) (hF : va_F A1 st₀ t) :
    H.size ≤ T'.heap.size ∧ (∀ q : Nat, q < H.size → ¬ A1 q → T'.heap[q]? = H[q]?) ∧ va_S A0 H0 T'.heap (locs ++ L) := by
  obtain ⟨hz, hk⟩ := hF
  rw [h0] at hz hk
  exact ⟨by rw [e1]; exact hz, fun q h1 h2 => by rw [e1]; exact hk q h1 h2,
    ⟨Nat.le_trans hS.1 (by rw [e1]; exact hz), fun q h1 h2 => by rw [e1, hk q (Nat.lt_of_lt_of_le h1 hS.1) (fun z => h2 (hA q (Nat.lt_of_lt_of_le h1 hS.1) z))]; exact hS.2.1 q h1 h2, fun q hq => by
      rcases List.mem_append.mp hq with h | h
      · exact hS.2.2 q h
      · exact hf _ (hL q h)⟩⟩
theorem vx_calli {S SX : Type} {post : Int32 → S → Prop} {px : SX → Prop} {B : S → State → Prop} {BX : String → SX → State → Prop} {AX : Nat → Prop} (hr : vx_Run p l e R s m args below meth c H locs cells slots mc ms (F0 m pc ls st0) rest (va_Qi post B A1 a) (vx_X px BX AX) free) (hS : va_S A0 H0 H locs) (hA : ∀ q, q < H.size → A1 q → A0 q) (hf : ∀ q, free q → A0 q) (hAX : ∀ q, q < H.size → AX q → A0 q)
    (kx : ∀ (E : String) (ce : Cell) (q9 : Addr) (u : SX) (t : State) (H1 : Heap) (locs1 : List Loc), t.heap = H1 → s.vm.Alike t.vm → px u → BX E u t → H.size ≤ H1.size → (∀ q : Nat, q < H.size → ¬ AX q → H1[q]? = H[q]?) → va_S A0 H0 H1 locs1 → H1[q9]? = some ce → ce.vm = .none → s.vm.findClass E = some ce.cls → vx_W p l e R s m args below meth c H1 locs1 (cells + mc) (slots + ms) Q (F0 m pc ls rest) q9)
    (kk : ∀ (r : Int32) (u : S) (t : State) (H1 : Heap) (locs1 : List Loc), t.heap = H1 → s.vm.Alike t.vm → post r u → B u t → H.size ≤ H1.size → (∀ q : Nat, q < H.size → ¬ A1 q → H1[q]? = H[q]?) → va_S A0 H0 H1 locs1 → W p l e R s m args below meth c H1 locs1 (cells + mc) (slots + ms) Q (F0 m (pc + 3) ls (.int r :: rest))) : W p l e R s m args below meth c H locs cells slots Q (F0 m pc ls st0) := by
  intro T hT X
  rcases hr T hT X with ⟨v, st₀, t, T', L, h0, X', hL, e1, e2, ⟨⟨r, u, hv, hp, hb⟩, hF⟩, st⟩ | ⟨q, st₀, t, T', L, E, ce, h0, X', hL, e1, e2, ⟨u, hp, hb, hF⟩, hce, hcv, hcl, st⟩
  · cases hv
    obtain ⟨k1, k2, k3⟩ := vx_keep h0 e1 hS hA hf hL hF
    obtain ⟨t2, a1, b1⟩ := kk r u t T'.heap (locs ++ L) e1.symm (by rw [← e2]; exact X'.warmed.alike) hp hb k1 k2 k3 T' rfl X'
    exact ⟨t2, st t2 a1, b1⟩
  · obtain ⟨k1, k2, k3⟩ := vx_keep h0 e1 hS hAX hf hL hF
    obtain ⟨t2, a1, b1⟩ := kx E ce q u t T'.heap (locs ++ L) e1.symm (by rw [← e2]; exact X'.warmed.alike) hp hb k1 k2 k3 (by rw [e1]; exact hce) hcv hcl T' rfl X'
    exact ⟨t2, st.trans a1, b1⟩
theorem vx_calll {S SX : Type} {post : Int64 → S → Prop} {px : SX → Prop} {B : S → State → Prop} {BX : String → SX → State → Prop} {AX : Nat → Prop} (hr : vx_Run p l e R s m args below meth c H locs cells slots mc ms (F0 m pc ls st0) rest (va_Ql post B A1 a) (vx_X px BX AX) free) (hS : va_S A0 H0 H locs) (hA : ∀ q, q < H.size → A1 q → A0 q) (hf : ∀ q, free q → A0 q) (hAX : ∀ q, q < H.size → AX q → A0 q)
    (kx : ∀ (E : String) (ce : Cell) (q9 : Addr) (u : SX) (t : State) (H1 : Heap) (locs1 : List Loc), t.heap = H1 → s.vm.Alike t.vm → px u → BX E u t → H.size ≤ H1.size → (∀ q : Nat, q < H.size → ¬ AX q → H1[q]? = H[q]?) → va_S A0 H0 H1 locs1 → H1[q9]? = some ce → ce.vm = .none → s.vm.findClass E = some ce.cls → vx_W p l e R s m args below meth c H1 locs1 (cells + mc) (slots + ms) Q (F0 m pc ls rest) q9)
    (kk : ∀ (r : Int64) (u : S) (t : State) (H1 : Heap) (locs1 : List Loc), t.heap = H1 → s.vm.Alike t.vm → post r u → B u t → H.size ≤ H1.size → (∀ q : Nat, q < H.size → ¬ A1 q → H1[q]? = H[q]?) → va_S A0 H0 H1 locs1 → W p l e R s m args below meth c H1 locs1 (cells + mc) (slots + ms) Q (F0 m (pc + 3) ls (.long r :: rest))) : W p l e R s m args below meth c H locs cells slots Q (F0 m pc ls st0) := by
  intro T hT X
  rcases hr T hT X with ⟨v, st₀, t, T', L, h0, X', hL, e1, e2, ⟨⟨r, u, hv, hp, hb⟩, hF⟩, st⟩ | ⟨q, st₀, t, T', L, E, ce, h0, X', hL, e1, e2, ⟨u, hp, hb, hF⟩, hce, hcv, hcl, st⟩
  · cases hv
    obtain ⟨k1, k2, k3⟩ := vx_keep h0 e1 hS hA hf hL hF
    obtain ⟨t2, a1, b1⟩ := kk r u t T'.heap (locs ++ L) e1.symm (by rw [← e2]; exact X'.warmed.alike) hp hb k1 k2 k3 T' rfl X'
    exact ⟨t2, st t2 a1, b1⟩
  · obtain ⟨k1, k2, k3⟩ := vx_keep h0 e1 hS hAX hf hL hF
    obtain ⟨t2, a1, b1⟩ := kx E ce q u t T'.heap (locs ++ L) e1.symm (by rw [← e2]; exact X'.warmed.alike) hp hb k1 k2 k3 (by rw [e1]; exact hce) hcv hcl T' rfl X'
    exact ⟨t2, st.trans a1, b1⟩
theorem vx_callf {S SX : Type} {post : UInt32 → S → Prop} {px : SX → Prop} {B : S → State → Prop} {BX : String → SX → State → Prop} {AX : Nat → Prop} (hr : vx_Run p l e R s m args below meth c H locs cells slots mc ms (F0 m pc ls st0) rest (va_Qf post B A1 a) (vx_X px BX AX) free) (hS : va_S A0 H0 H locs) (hA : ∀ q, q < H.size → A1 q → A0 q) (hf : ∀ q, free q → A0 q) (hAX : ∀ q, q < H.size → AX q → A0 q)
    (kx : ∀ (E : String) (ce : Cell) (q9 : Addr) (u : SX) (t : State) (H1 : Heap) (locs1 : List Loc), t.heap = H1 → s.vm.Alike t.vm → px u → BX E u t → H.size ≤ H1.size → (∀ q : Nat, q < H.size → ¬ AX q → H1[q]? = H[q]?) → va_S A0 H0 H1 locs1 → H1[q9]? = some ce → ce.vm = .none → s.vm.findClass E = some ce.cls → vx_W p l e R s m args below meth c H1 locs1 (cells + mc) (slots + ms) Q (F0 m pc ls rest) q9)
    (kk : ∀ (r : UInt32) (u : S) (t : State) (H1 : Heap) (locs1 : List Loc), t.heap = H1 → s.vm.Alike t.vm → post r u → B u t → H.size ≤ H1.size → (∀ q : Nat, q < H.size → ¬ A1 q → H1[q]? = H[q]?) → va_S A0 H0 H1 locs1 → W p l e R s m args below meth c H1 locs1 (cells + mc) (slots + ms) Q (F0 m (pc + 3) ls (.float r :: rest))) : W p l e R s m args below meth c H locs cells slots Q (F0 m pc ls st0) := by
  intro T hT X
  rcases hr T hT X with ⟨v, st₀, t, T', L, h0, X', hL, e1, e2, ⟨⟨r, u, hv, hp, hb⟩, hF⟩, st⟩ | ⟨q, st₀, t, T', L, E, ce, h0, X', hL, e1, e2, ⟨u, hp, hb, hF⟩, hce, hcv, hcl, st⟩
  · cases hv
    obtain ⟨k1, k2, k3⟩ := vx_keep h0 e1 hS hA hf hL hF
    obtain ⟨t2, a1, b1⟩ := kk r u t T'.heap (locs ++ L) e1.symm (by rw [← e2]; exact X'.warmed.alike) hp hb k1 k2 k3 T' rfl X'
    exact ⟨t2, st t2 a1, b1⟩
  · obtain ⟨k1, k2, k3⟩ := vx_keep h0 e1 hS hAX hf hL hF
    obtain ⟨t2, a1, b1⟩ := kx E ce q u t T'.heap (locs ++ L) e1.symm (by rw [← e2]; exact X'.warmed.alike) hp hb k1 k2 k3 (by rw [e1]; exact hce) hcv hcl T' rfl X'
    exact ⟨t2, st.trans a1, b1⟩
theorem vx_calld {S SX : Type} {post : UInt64 → S → Prop} {px : SX → Prop} {B : S → State → Prop} {BX : String → SX → State → Prop} {AX : Nat → Prop} (hr : vx_Run p l e R s m args below meth c H locs cells slots mc ms (F0 m pc ls st0) rest (va_Qd post B A1 a) (vx_X px BX AX) free) (hS : va_S A0 H0 H locs) (hA : ∀ q, q < H.size → A1 q → A0 q) (hf : ∀ q, free q → A0 q) (hAX : ∀ q, q < H.size → AX q → A0 q)
    (kx : ∀ (E : String) (ce : Cell) (q9 : Addr) (u : SX) (t : State) (H1 : Heap) (locs1 : List Loc), t.heap = H1 → s.vm.Alike t.vm → px u → BX E u t → H.size ≤ H1.size → (∀ q : Nat, q < H.size → ¬ AX q → H1[q]? = H[q]?) → va_S A0 H0 H1 locs1 → H1[q9]? = some ce → ce.vm = .none → s.vm.findClass E = some ce.cls → vx_W p l e R s m args below meth c H1 locs1 (cells + mc) (slots + ms) Q (F0 m pc ls rest) q9)
    (kk : ∀ (r : UInt64) (u : S) (t : State) (H1 : Heap) (locs1 : List Loc), t.heap = H1 → s.vm.Alike t.vm → post r u → B u t → H.size ≤ H1.size → (∀ q : Nat, q < H.size → ¬ A1 q → H1[q]? = H[q]?) → va_S A0 H0 H1 locs1 → W p l e R s m args below meth c H1 locs1 (cells + mc) (slots + ms) Q (F0 m (pc + 3) ls (.double r :: rest))) : W p l e R s m args below meth c H locs cells slots Q (F0 m pc ls st0) := by
  intro T hT X
  rcases hr T hT X with ⟨v, st₀, t, T', L, h0, X', hL, e1, e2, ⟨⟨r, u, hv, hp, hb⟩, hF⟩, st⟩ | ⟨q, st₀, t, T', L, E, ce, h0, X', hL, e1, e2, ⟨u, hp, hb, hF⟩, hce, hcv, hcl, st⟩
  · cases hv
    obtain ⟨k1, k2, k3⟩ := vx_keep h0 e1 hS hA hf hL hF
    obtain ⟨t2, a1, b1⟩ := kk r u t T'.heap (locs ++ L) e1.symm (by rw [← e2]; exact X'.warmed.alike) hp hb k1 k2 k3 T' rfl X'
    exact ⟨t2, st t2 a1, b1⟩
  · obtain ⟨k1, k2, k3⟩ := vx_keep h0 e1 hS hAX hf hL hF
    obtain ⟨t2, a1, b1⟩ := kx E ce q u t T'.heap (locs ++ L) e1.symm (by rw [← e2]; exact X'.warmed.alike) hp hb k1 k2 k3 (by rw [e1]; exact hce) hcv hcl T' rfl X'
    exact ⟨t2, st.trans a1, b1⟩
theorem vx_callv {S SX : Type} {post : S → Prop} {px : SX → Prop} {B : S → State → Prop} {BX : String → SX → State → Prop} {AX : Nat → Prop} (hr : vx_Run p l e R s m args below meth c H locs cells slots mc ms (F0 m pc ls st0) rest (va_Qv post B A1 a) (vx_X px BX AX) free) (hS : va_S A0 H0 H locs) (hA : ∀ q, q < H.size → A1 q → A0 q) (hf : ∀ q, free q → A0 q) (hAX : ∀ q, q < H.size → AX q → A0 q)
    (kx : ∀ (E : String) (ce : Cell) (q9 : Addr) (u : SX) (t : State) (H1 : Heap) (locs1 : List Loc), t.heap = H1 → s.vm.Alike t.vm → px u → BX E u t → H.size ≤ H1.size → (∀ q : Nat, q < H.size → ¬ AX q → H1[q]? = H[q]?) → va_S A0 H0 H1 locs1 → H1[q9]? = some ce → ce.vm = .none → s.vm.findClass E = some ce.cls → vx_W p l e R s m args below meth c H1 locs1 (cells + mc) (slots + ms) Q (F0 m pc ls rest) q9)
    (kk : ∀ (u : S) (t : State) (H1 : Heap) (locs1 : List Loc), t.heap = H1 → s.vm.Alike t.vm → post u → B u t → H.size ≤ H1.size → (∀ q : Nat, q < H.size → ¬ A1 q → H1[q]? = H[q]?) → va_S A0 H0 H1 locs1 → W p l e R s m args below meth c H1 locs1 (cells + mc) (slots + ms) Q (F0 m (pc + 3) ls (rest))) : W p l e R s m args below meth c H locs cells slots Q (F0 m pc ls st0) := by
  intro T hT X
  rcases hr T hT X with ⟨v, st₀, t, T', L, h0, X', hL, e1, e2, ⟨⟨u, hv, hp, hb⟩, hF⟩, st⟩ | ⟨q, st₀, t, T', L, E, ce, h0, X', hL, e1, e2, ⟨u, hp, hb, hF⟩, hce, hcv, hcl, st⟩
  · cases hv
    obtain ⟨k1, k2, k3⟩ := vx_keep h0 e1 hS hA hf hL hF
    obtain ⟨t2, a1, b1⟩ := kk u t T'.heap (locs ++ L) e1.symm (by rw [← e2]; exact X'.warmed.alike) hp hb k1 k2 k3 T' rfl X'
    exact ⟨t2, st t2 a1, b1⟩
  · obtain ⟨k1, k2, k3⟩ := vx_keep h0 e1 hS hAX hf hL hF
    obtain ⟨t2, a1, b1⟩ := kx E ce q u t T'.heap (locs ++ L) e1.symm (by rw [← e2]; exact X'.warmed.alike) hp hb k1 k2 k3 (by rw [e1]; exact hce) hcv hcl T' rfl X'
    exact ⟨t2, st.trans a1, b1⟩
/-- caught by the row x of this method's table; the rows ahead don't take it -/
theorem vx_catch {own name : String} {E : String} {ce : Cell} {q : Addr} (hown : s.vm.findClass own = some m.cls) (pre : List ExceptionTableEntry) (x : ExceptionTableEntry) (suf : List ExceptionTableEntry) (hsplit : c.exceptionTable.toList = pre ++ x :: suf)
    (hpass : ∀ z ∈ pre, covers z pc = false ∨ (z.catchType ≠ 0 ∧ ∃ nm : String, (Cond.classLink own z.catchType nm).before args s = true ∧ va_Nc E nm s)) (hx : covers x pc = true) (h0 : x.catchType ≠ 0)
    (hlink : (Cond.classLink own x.catchType name).before args s = true) (hcast : (Cond.castable E name).before args s = true) (hcell : H[q]? = some ce) (hv : ce.vm = .none) (hcl : s.vm.findClass E = some ce.cls)
    (kk : W p l e R s m args below meth c H locs cells slots Q (F0 m x.handlerPc ls [.ref q])) : vx_W p l e R s m args below meth c H locs cells slots Q (F0 m pc ls rest) q := by
  intro T hT X
  have hpl : e.platform.magicAccessors = ({} : Platform).magicAccessors := by rw [X.admits.platform]
  obtain ⟨c3, c4, hc3, hc4, hasg⟩ := Cond.castable_spec hcast
  cases Option.some.inj (hc3.symm.trans hcl)
  obtain ⟨c5, hc5, hcl5⟩ := Cond.classLink_spec hown hlink e.platform hpl
  cases Option.some.inj (hc4.symm.trans hc5)
  obtain ⟨vm', X', st⟩ := X.thenCaughtThrough q (g := F0 m pc ls rest) rfl (Steps.refl _) (by rw [hT]; exact hcell) (by rw [hv]; rfl) (by obtain ⟨k9, h9, -⟩ := Vm.findClass_spec hcl; exact ⟨k9, h9⟩) pre x suf hsplit
    (fun z hz => by
      rcases hpass z hz with h | ⟨hz0, nm, hl1, hn1⟩
      · exact Or.inl h
      · obtain ⟨c6, hc6, hcl6⟩ := Cond.classLink_spec hown hl1 e.platform hpl
        obtain ⟨a8, b8, h1, h2, h3⟩ := hn1
        cases Option.some.inj (h1.symm.trans hcl)
        cases Option.some.inj (h2.symm.trans hc6)
        exact Or.inr ⟨hz0, _, hcl6, h3⟩) hx (Or.inr ⟨h0, c4, hcl5, hasg⟩)
  obtain ⟨t, a1, b1⟩ := kk (T.setVm vm') hT X'
  exact ⟨t, st.trans a1, b1⟩
end Rows
section Ends
variable {p : Program} {l : Launch} {e : Env} {R : Room} {s : State} {m : MethodId} {args : Array Value} {below : List Frame} {meth : Method} {c : Code} {H : Heap} {locs : List Loc} {cells slots : Nat} {Q : State → Prop}
variable {mc ms : Nat} {free : Addr → Prop} {A0 A1 : Nat → Prop} {H0 : Heap} {a : Array Value} {ls : Array Slot} {st0 rest : List Value}
variable {Qc : Array Value → State → Outcome → State → Prop} {XC : String → State → State → Prop}
/-- what a body that may throw owes at its end -/
def vx_MQ (below : List Frame) (Qc : Array Value → State → Outcome → State → Prop) (XC : String → State → State → Prop) (a : Array Value) (s : State) (mc ms : Nat) (free : Addr → Prop) : State → Prop := fun t =>
  ∃ o, t.status = .running ∧ Ended t below o ∧ vx_Q Qc XC mc ms free a s o t
theorem vx_ret {g : JFrame} {mc ms : Nat} (k : W p l e R s m args below meth c H locs cells slots (MQ below Qc args s mc ms free) g) : W p l e R s m args below meth c H locs cells slots (vx_MQ below Qc XC args s mc ms free) g := by
  intro T hT X
  obtain ⟨t, a1, o, b1, b2, b3, b4⟩ := k T hT X
  exact ⟨t, a1, o, b1, b2, Or.inl ⟨b3, b4⟩⟩
/-- not caught here: it goes on to the caller -/
theorem vx_widen {g : JFrame} {q : Addr} {k n : Nat} (h1 : cells ≤ k) (h2 : slots ≤ n) (kk : vx_W p l e R s m args below meth c H locs k n Q g q) : vx_W p l e R s m args below meth c H locs cells slots Q g q := fun T hT X => kk T hT (stand_widen X h1 h2)
theorem vx_out {pc : Nat} {E : String} {ce : Cell} {q : Addr} {mc ms : Nat} (hout : ∀ x ∈ c.exceptionTable.toList, covers x pc = false) (hlocks : meth.locks = false) (hcell : H[q]? = some ce) (hv : ce.vm = .none) (hcl : s.vm.findClass E = some ce.cls)
    (hx : ∀ t : State, t.heap = H → s.vm.Alike t.vm → XC E s t) (hf : ∀ z ∈ locs, free z.base) (hc : cells ≤ mc) (hs : slots ≤ ms) :
    vx_W p l e R s m args below meth c H locs cells slots (vx_MQ below Qc XC args s mc ms free) (F0 m pc ls rest) q := by
  intro T hT X
  obtain ⟨st1, hrun, hend, hW, hsm⟩ := X.leaveThrown q (g := F0 m pc ls rest) rfl rfl rfl hout hlocks
  have hcell9 : (T.setFrames (.throwing q :: below)).heap[q]? = some ce := by
    show T.heap[q]? = some ce
    rw [hT]; exact hcell
  exact ⟨_, st1, .threw q, hrun, hend, Or.inr ⟨q, rfl, E, ce, locs, hx _ hT hW.alike, hcell9, hv, hcl, hW, hsm.mono hc hs, hf⟩⟩
theorem vx_frame {U : State} {k n : Nat} (h : s.sameButNew ({ U with vm := s.vm } : State) locs k n) : s.heap.size ≤ U.heap.size ∧ ∀ q : Nat, q < s.heap.size → (∀ z ∈ locs, z.base ≠ q) → U.heap[q]? = s.heap[q]? := by
  obtain ⟨-, h2, -, -, -, h6⟩ := h
  refine ⟨h2, fun q hq hz => ?_⟩
  obtain ⟨c9, e1, e2, e3, e4⟩ := h6 q _ (Array.getElem?_eq_getElem hq)
  have hs : c9.slots = (s.heap[q]).slots := Array.ext_getElem? fun i => e4 i fun hm => hz _ hm rfl
  have h9 : c9 = s.heap[q] := by
    rw [hs] at e2
    exact e2
  have e5 : U.heap[q]? = some c9 := e1
  rw [e5, h9, Array.getElem?_eq_getElem hq]
/-- the words of a throw but the four that speak of the heap -/
def vx_no (w : Cond) : Bool := decide (w ≠ .isRef (.static Bundle.tN "UNASSIGNED_STACK" Bundle.steD)) && decide (w ≠ .isRef (.static Bundle.tN "SUPPRESSED_SENTINEL" Bundle.listD)) && decide (w ≠ .laysStatic Bundle.tN "UNASSIGNED_STACK" Bundle.steD) && decide (w ≠ .laysStatic Bundle.tN "SUPPRESSED_SENTINEL" Bundle.listD)
def vx_at0 (own : String) (ic : Nat) (X : String) (names : List String) : List Cond := (Bundle.ownAtoms0 own ic X names).filter vx_no
def vx_atS (own : String) (ic : Nat) (X : String) (names : List String) : List Cond := (Bundle.ownAtoms own ic X names).filter vx_no
/-- a word that the tables alone decide, or a good one -/
def vx_ot (w : Cond) : Bool := w.onTables || goodWord w
theorem vx_ot_at {args a' : Array Value} {s U : State} {w : Cond} (hW : s.WarmedH U.vm) (hvm : s.vm = U.vm) (hg : vx_ot w = true) (h : w.before args s = true) : w.before a' U = true := by
  simp only [vx_ot, Bool.or_eq_true] at hg
  rcases hg with hg | hg
  · exact va_tabs hg hvm h
  · exact word_at hW (good_of_word hg) h
/-- a list's words: the good ones out of the method's own list, the others by premises of their own -/
theorem vx_hat {args : Array Value} {s : State} {L B : List Cond} (h1 : ∀ w ∈ L.filter goodWord, w.before args s = true) (h2 : ∀ w ∈ L.filter (fun w => !goodWord w), w ∈ B) (h3 : ∀ w ∈ B, w.before args s = true) : ∀ w ∈ L, w.before args s = true := by
  intro w hw
  by_cases g : goodWord w = true
  · exact h1 w (List.mem_filter.mpr ⟨hw, g⟩)
  · refine h3 w (h2 w (List.mem_filter.mpr ⟨hw, ?_⟩))
    show (!goodWord w) = true
    cases hgw : goodWord w
    · rfl
    · exact absurd hgw g
theorem vx_c {args : Array Value} {s : State} {w : Cond} {B : List Cond} (h : w.before args s = true) (t : ∀ w ∈ B, w.before args s = true) : ∀ w' ∈ w :: B, w'.before args s = true := fun w' h' => (List.mem_cons.mp h').elim (fun e => by rw [e]; exact h) (t w')
theorem vx_n {args : Array Value} {s : State} : ∀ w ∈ ([] : List Cond), w.before args s = true := fun _ h => nomatch h
theorem vx_own {args : Array Value} {s : State} {L : List Cond} (h1 : ∀ w ∈ L.filter vx_no, w.before args s = true)
    (hU : (Cond.isRef (.static Bundle.tN "UNASSIGNED_STACK" Bundle.steD)).before args s = true) (hN : (Cond.isRef (.static Bundle.tN "SUPPRESSED_SENTINEL" Bundle.listD)).before args s = true)
    (lU : (Cond.laysStatic Bundle.tN "UNASSIGNED_STACK" Bundle.steD).before args s = true) (lN : (Cond.laysStatic Bundle.tN "SUPPRESSED_SENTINEL" Bundle.listD).before args s = true) : ∀ w ∈ L, w.before args s = true := by
  intro w hw
  by_cases e1 : w = .isRef (.static Bundle.tN "UNASSIGNED_STACK" Bundle.steD)
  · rw [e1]; exact hU
  · by_cases e2 : w = .isRef (.static Bundle.tN "SUPPRESSED_SENTINEL" Bundle.listD)
    · rw [e2]; exact hN
    · by_cases e3 : w = .laysStatic Bundle.tN "UNASSIGNED_STACK" Bundle.steD
      · rw [e3]; exact lU
      · by_cases e4 : w = .laysStatic Bundle.tN "SUPPRESSED_SENTINEL" Bundle.listD
        · rw [e4]; exact lN
        · exact h1 w (List.mem_filter.mpr ⟨hw, by unfold vx_no; rw [decide_eq_true e1, decide_eq_true e2, decide_eq_true e3, decide_eq_true e4]; rfl⟩)
/-- where a static field lies, its class's statics cell in H -/
def vx_L (C n d : String) (A : Nat → Prop) (U : State) (H : Heap) : Prop := ∃ (c : ClassId) (k : Class) (i : Nat) (f : Field) (a : Nat) (cell : Cell), U.vm.findClass C = some c ∧ U.fieldFound? C n d = some (c, k, i, f) ∧ f.isStatic = true ∧ k.statics = some a ∧ H[a]? = some cell ∧ cell.vm.isStatics = true ∧ cell.cls = c ∧ f.slot < cell.slots.size ∧ k.staticTypes[f.slot]? = some f.type ∧ ¬ A a
theorem vx_L.moved {C n d : String} {A : Nat → Prop} {u U : State} {H : Heap} (hvm : u.vm.Alike U.vm) (h : vx_L C n d A u H) : vx_L C n d A U H := by
  obtain ⟨c, k, i, f, a, cell, h1, h2, h3, h4, h5, h6, h7, h8, h9, h10⟩ := h
  obtain ⟨k', hi', he⟩ := State.fieldFound?_setVm hvm h2
  exact ⟨c, k', i, f, a, cell, by rw [hvm.findClass]; exact h1, hi', h3, by rw [he]; exact h4, h5, h6, h7, h8, by rw [he]; exact h9, h10⟩
theorem vx_L.kept {C n d : String} {A : Nat → Prop} {U : State} {H H1 : Heap} (h : vx_L C n d A U H) (hq : ∀ a : Nat, a < H.size → ¬ A a → H1[a]? = H[a]?) : vx_L C n d A U H1 := by
  obtain ⟨c, k, i, f, a, cell, h1, h2, h3, h4, h5, h6, h7, h8, h9, h10⟩ := h
  exact ⟨c, k, i, f, a, cell, h1, h2, h3, h4, by rw [hq a (Array.getElem?_eq_some_iff.mp h5).1 h10]; exact h5, h6, h7, h8, h9, h10⟩
theorem vx_L.narrow {C n d : String} {A B : Nat → Prop} {U : State} {H : Heap} (h : vx_L C n d A U H) (hAB : ∀ q, B q → A q) : vx_L C n d B U H := by
  obtain ⟨c, k, i, f, a, cell, h1, h2, h3, h4, h5, h6, h7, h8, h9, h10⟩ := h
  exact ⟨c, k, i, f, a, cell, h1, h2, h3, h4, h5, h6, h7, h8, h9, fun z => h10 (hAB _ z)⟩
theorem vx_L.word {C n d : String} {A : Nat → Prop} {s : State} {args : Array Value} (h : vx_L C n d A s s.heap) : (Cond.laysStatic C n d).before args s = true := by
  obtain ⟨c, k, i, f, a, cell, h1, h2, h3, h4, h5, h6, h7, h8, h9, -⟩ := h
  show (Cond.laysStatic C n d).holds args s none s [] = true
  exact Cond.laysStatic_of h1 h2 h3 h4 h5 h6 h7 h8 h9
/-- .. and what it holds: null or some reference -/
def vx_Zq (C n d : String) (A : Nat → Prop) (U : State) (H : Heap) : Prop := va_Zq C n d A U H ∧ vx_L C n d A U H
theorem vx_Zq.moved {C n d : String} {A : Nat → Prop} {u U : State} {H : Heap} (hvm : u.vm.Alike U.vm) (h : vx_Zq C n d A u H) : vx_Zq C n d A U H := ⟨va_Zq.moved hvm h.1, vx_L.moved hvm h.2⟩
theorem vx_Zq.kept {C n d : String} {A : Nat → Prop} {U : State} {H H1 : Heap} (h : vx_Zq C n d A U H) (hq : ∀ a : Nat, a < H.size → ¬ A a → H1[a]? = H[a]?) : vx_Zq C n d A U H1 := ⟨va_Zq.kept h.1 hq, vx_L.kept h.2 hq⟩
theorem vx_Zq.narrow {C n d : String} {A B : Nat → Prop} {U : State} {H : Heap} (h : vx_Zq C n d A U H) (hAB : ∀ q, B q → A q) : vx_Zq C n d B U H := ⟨va_Zq.narrow h.1 hAB, vx_L.narrow h.2 hAB⟩
theorem vx_Zqof {args : Array Value} {s : State} {C n d : String} {A : Nat → Prop} (hl : (Cond.laysStatic C n d).before args s = true) (hini : (Cond.initialized C).before args s = true) (h : (Cond.isRef (.static C n d)).before args s = true) (hA : ∀ a : Nat, a < s.heap.size → ¬ A a) : vx_Zq C n d A s s.heap := by
  refine ⟨va_Zqof hl hini h hA, ?_⟩
  obtain ⟨c, k, i, f, a, cell, h1, h2, h3, h4, h5, h6, h7, h8, h9⟩ := Cond.laysStatic_spec hl
  exact ⟨c, k, i, f, a, cell, h1, h2, h3, h4, h5, h6, h7, h8, h9, hA a (Array.getElem?_eq_some_iff.mp h5).1⟩
theorem vx_isRef {C n d : String} {v : Value} {A : Nat → Prop} {s : State} {args : Array Value} (h : va_Z C n d v A s s.heap) (hv : v.isRef = true) : (Cond.isRef (.static C n d)).before args s = true := by
  obtain ⟨cf, kf, fi, f, a, cell, h1, h2, h3, h4, h5, h6, h7, -⟩ := h
  have he : (Term.static C n d).eval args s none [] s = some v := by
    simp [Term.eval, State.fieldNamed?, h1, h2, h4, h5, h6, h7]
  simp only [Cond.before, Cond.holds, Cond.value, he]
  cases v <;> simp_all [Value.isRef]
theorem vx_isRefq {C n d : String} {A : Nat → Prop} {s : State} {args : Array Value} (h : va_Zq C n d A s s.heap) : (Cond.isRef (.static C n d)).before args s = true := by
  rcases h with h | ⟨t, h⟩
  · exact vx_isRef h rfl
  · exact vx_isRef h rfl
/-- the same frame, seen from here: as if the method were called anew in this heap -/
theorem vx_rebase {T : State} (X : Stand p l e R s m args below meth c T locs cells slots) {R' : Room} (hf : R'.frames ≤ R.frames) (hl : R'.locals ≤ R.locals) (hc : cells + R'.cells ≤ R.cells) (hs : slots + R'.slots ≤ R.slots) :
    Stand p l e R' ((T.setVm s.vm).setFrames (.invoking m args :: below)) m args below meth c T [] 0 0 := by
  have htop : (T.setVm s.vm).topJava?.isSome := X.here.top
  have hF : ((T.setVm s.vm).setFrames (.invoking m args :: below)).frames = .invoking m args :: below := State.frames_setFrames _ (State.cur_lt_of_top htop)
  obtain ⟨g₀, hg0⟩ := Option.isSome_iff_exists.mp htop
  obtain ⟨r, hr⟩ := State.topJava?_eq_some.mp hg0
  have hl9 : e.platform.stackLimits (T.setVm s.vm).me = e.platform.stackLimits s.me := X.limits
  have hb9 : (T.setVm s.vm).me.stackBytes = s.me.stackBytes := X.bytes
  refine ⟨X.admits, X.cas, X.clock, hF, ?_, X.hears, X.method, X.code, X.here, X.tail, X.warmed, ?_, ?_, ?_⟩
  · have h := X.room
    have hU : ((T.setVm s.vm).setFrames (.invoking m args :: below)).localsInUse = s.localsInUse := by
      rw [State.localsInUse_invoking hF (meth := meth) (c := c) X.method X.code, State.localsInUse_invoking X.frames X.method X.code]
    simp only [State.hasRoom, Bool.and_eq_true, decide_eq_true_eq] at h ⊢
    obtain ⟨⟨⟨⟨h1, h2, h3, h4, h5, h6⟩, h7⟩, h8⟩, h9⟩ := h
    rw [X.frames, List.length_cons] at h2 h3
    have q1 := X.heapSize
    have q2 := X.used
    simp only [hF, hU, List.length_cons, State.stackLimits_setFrames, State.stackBytes_setFrames, hl9, hb9]
    refine ⟨⟨⟨⟨by omega, by omega, by omega, by omega, by omega, h6⟩, ?_⟩, ?_⟩, X.book⟩
    · show T.heap.size + R'.cells ≤ e.platform.maxCells
      omega
    · show T.slotsUsed + R'.slots ≤ e.platform.maxSlots
      omega
  · rw [State.stackLimits_setFrames]; rfl
  · rw [State.stackBytes_setFrames]; rfl
  · refine ⟨?_, Nat.le_refl _, Nat.le_refl _, ?_, ?_, fun a c9 h9 => ⟨c9, h9, rfl, rfl, fun _ _ => rfl⟩⟩
    · obtain ⟨t, ht, -⟩ := State.frames_cons hr
      show T.setVm s.vm = { ((T.setVm s.vm).setFrames (.invoking m args :: below)).setFrames (T.setVm s.vm).frames with heap := T.heap, slotsUsed := T.slotsUsed }
      rw [State.setFrames_setFrames, State.setFrames_self ht]
      rfl
    · show T.slotsUsed = T.slotsUsed + ((T.heap.toList.drop T.heap.size).map (·.slots.size)).sum
      rw [List.drop_eq_nil_of_le (Nat.le_of_eq Array.length_toList)]
      rfl
    · show ((T.heap.toList.drop T.heap.size).map (·.slots.size)).sum ≤ 0
      rw [List.drop_eq_nil_of_le (Nat.le_of_eq Array.length_toList)]
      exact Nat.le_refl _
/-- 'throw new E()': new; dup; invokespecial; athrow -/
theorem vx_throw0 {cc : ByteArray} {pc : Nat} (hexec : p.tables.exec = Jvm.exec) (hb : c.code = cc) (hl : l.stackTraces = false) {own cls : String} {names : List String} {ik ic mc ms : Nat} {A : Nat → Prop}
    (hown : s.vm.findClass own = some m.cls) (hcls : Bundle.fit cls = true) (hnames : ∀ n ∈ names, Bundle.fit n = true)
    (hk : (Cond.classLink own ik cls).before args s = true) (hini : (Cond.initialized cls).before args s = true) (hat : ∀ w ∈ vx_at0 own ic cls names, w.before args s = true)
    (hgood : ∀ w ∈ Cond.classLink own ik cls :: Cond.initialized cls :: vx_at0 own ic cls names, vx_ot w = true)
    (hU : vx_Zq Bundle.tN "UNASSIGNED_STACK" Bundle.steD A s s.heap) (hN : vx_Zq Bundle.tN "SUPPRESSED_SENTINEL" Bundle.listD A s s.heap) (hS : va_S A s.heap H locs) (hsize : ls.size = c.maxLocals)
    (d0 : decode cc pc = .ok (.new ik, 3)) (d3 : decode cc (pc + 3) = .ok (.dup, 1)) (d4 : decode cc (pc + 4) = .ok (.invokespecial ic, 3)) (d7 : decode cc (pc + 7) = .ok (.athrow, 1))
    (hout : ∀ x ∈ c.exceptionTable.toList, covers x (pc + 7) = false)
    (hRframes : names.length + 3 < R.frames) (hRlocals : (rest.map fun v => v.category).sum + (13 * (names.length + 1) + 42) ≤ R.locals) (hRcells : cells + 1 ≤ R.cells) (hRslots : slots + 6 ≤ R.slots) (hlocks : meth.locks = false)
    (hx : ∀ t : State, s.vm.Alike t.vm → H.size ≤ t.heap.size → (∀ q : Nat, q < H.size → t.heap[q]? = H[q]?) → XC cls s t)
    (hf : ∀ z ∈ locs, free z.base) (hc : cells + 1 ≤ mc) (hs : slots + 6 ≤ ms) :
    W p l e R s m args below meth c H locs cells slots (vx_MQ below Qc XC args s mc ms free) (F0 m pc ls rest) := by
  intro T hT X
  have htr : e.platform.stackTraces = false := (show e.platform.stackTraces = l.stackTraces by rw [X.admits.platform]).trans hl
  have Y := vx_rebase X (R' := { frames := R.frames, locals := R.locals, cells := 1, slots := 6 }) (Nat.le_refl _) (Nat.le_refl _) hRcells hRslots
  obtain ⟨s', hA⟩ : ∃ z, z = (T.setVm s.vm).setFrames (.invoking m args :: below) := ⟨_, rfl⟩
  rw [← hA] at Y
  have hvm : s'.vm = s.vm := by rw [hA]; rfl
  have hhp : s'.heap = H := by rw [hA]; exact hT
  have hW0 : s.WarmedH s'.vm := by rw [hvm]; exact State.WarmedH.refl s
  have hat' : ∀ w ∈ vx_at0 own ic cls names, w.before args s' = true := fun w hw => vx_ot_at hW0 hvm.symm (hgood w (List.mem_cons_of_mem _ (List.mem_cons_of_mem _ hw))) (hat w hw)
  have hk' : (Cond.classLink own ik cls).before args s' = true := vx_ot_at hW0 hvm.symm (hgood _ List.mem_cons_self) hk
  have hini' : (Cond.initialized cls).before args s' = true := vx_ot_at hW0 hvm.symm (hgood _ (List.mem_cons_of_mem _ List.mem_cons_self)) hini
  have hU' : vx_Zq Bundle.tN "UNASSIGNED_STACK" Bundle.steD A s' s'.heap := by rw [hhp]; exact vx_Zq.moved hW0.alike (hU.kept hS.2.1)
  have hN' : vx_Zq Bundle.tN "SUPPRESSED_SENTINEL" Bundle.listD A s' s'.heap := by rw [hhp]; exact vx_Zq.moved hW0.alike (hN.kept hS.2.1)
  have h : ∀ w ∈ Bundle.ownAtoms0 own ic cls names, w.before args s' = true := vx_own hat' (vx_isRefq hU'.1) (vx_isRefq hN'.1) hU'.2.word hN'.2.word
  have hown' : s'.vm.findClass own = some m.cls := by rw [hvm]; exact hown
  have hins : (Cond.instantiable cls 6).before args s' = true := h _ (by simp [Bundle.ownAtoms0])
  obtain ⟨vm₁, cX, kX, hfX, hkX, -, -, X₁, st1⟩ := Y.newCold hexec (own := own) (C := cls) (index := ik) (n := 6) hown' hk' hins hini'
    (g := F0 m pc ls rest) rfl (by rw [hb]; exact d0) (Nat.le_refl _) (Nat.le_refl _)
  generalize hT1 : (T.setVm vm₁).pushCell { cls := cX, slots := kX.instanceTypes.map defaultValue, vm := .none } = T1 at X₁ st1
  have hcat : (Value.ref T.heap.size).category = 1 := rfl
  have hcellA : T1.heap[T.heap.size]? = some (freshCell cX kX) := by rw [← hT1]; exact State.heap_pushCell_size _ _
  have d3' : decode c.code (pc + 3) = .ok (.dup, 1) := by rw [hb]; exact d3
  obtain ⟨U, hsteps, hrun, hend, hW, hsame, ce, hce, hO⟩ := X₁.ctorThrow0 hexec htr (own := own) (cls := cls) (names := names) (ic := ic) hown' hcls hnames h (fun x hx => nomatch hx) hfX hkX hcellA (by rw [hhp, hT]; exact Nat.le_refl _)
    (g := { method := m, pc := pc + 4, locals := ls, stack := .ref T.heap.size :: .ref T.heap.size :: rest, locked := none }) rfl hsize rfl rfl (rest := rest) rfl
    (by rw [hb]; exact d4) (by rw [hb]; exact d7) hout hRframes (by simp only [List.map_cons, List.sum_cons, hcat]; omega) hlocks
  obtain ⟨f1, f2⟩ := vx_frame hsame
  rw [hhp] at f1 f2
  have hWs : s.WarmedH U.vm := State.WarmedH.trans hW0 hW
  have hcl : s.vm.findClass cls = some ce.cls := by
    have h9 := hO.cls
    rw [hvm] at h9
    exact h9
  have hall : s.sameButNew ({ U with vm := s.vm } : State) locs mc ms := by
    subst hA
    obtain ⟨e1, e2⟩ := hsame
    rw [State.setFrames_setFrames] at e1
    have h2 : (T.setVm s.vm).sameButNew ({ U with vm := s.vm } : State) [] (0 + 1) (0 + 6) := ⟨e1, e2⟩
    have h3 := X.same.trans h2
    rw [List.append_nil] at h3
    exact h3.mono hc hs
  refine ⟨U, ?_, .threw T.heap.size, hrun, hend, Or.inr ⟨T.heap.size, rfl, cls, ce, locs, hx U hWs.alike f1 (fun q hq => f2 q hq (fun z hz => nomatch hz)), hce, hO.vm, hcl, hWs, hall, hf⟩⟩
  refine st1 _ ?_
  show Steps p.tables e below (T1.setTop { method := m, pc := pc + 3, locals := ls, stack := .ref T.heap.size :: rest, locked := none }) _
  jvm_step X₁.here [X₁.here.top, hexec, d3', Value.category]
  exact hsteps
/-- 'throw new E("text")': new; dup; ldc; invokespecial; athrow -/
theorem vx_throwS {cc : ByteArray} {pc : Nat} (hexec : p.tables.exec = Jvm.exec) (hb : c.code = cc) (hl : l.stackTraces = false) {own cls text : String} {names : List String} {ik is ic mc ms sa : Nat} {A : Nat → Prop}
    (hown : s.vm.findClass own = some m.cls) (hcls : Bundle.fit cls = true) (hnames : ∀ n ∈ names, Bundle.fit n = true)
    (hk : (Cond.classLink own ik cls).before args s = true) (hini : (Cond.initialized cls).before args s = true) (hstr : vk_R own is text sa s) (hat : ∀ w ∈ vx_atS own ic cls names, w.before args s = true)
    (hgood : ∀ w ∈ Cond.classLink own ik cls :: Cond.initialized cls :: vx_atS own ic cls names, vx_ot w = true)
    (hU : vx_Zq Bundle.tN "UNASSIGNED_STACK" Bundle.steD A s s.heap) (hN : vx_Zq Bundle.tN "SUPPRESSED_SENTINEL" Bundle.listD A s s.heap) (hS : va_S A s.heap H locs) (hsize : ls.size = c.maxLocals)
    (d0 : decode cc pc = .ok (.new ik, 3)) (d3 : decode cc (pc + 3) = .ok (.dup, 1)) (d4 : decode cc (pc + 4) = .ok (.ldc is, 2)) (d6 : decode cc (pc + 6) = .ok (.invokespecial ic, 3)) (d9 : decode cc (pc + 9) = .ok (.athrow, 1))
    (hout : ∀ x ∈ c.exceptionTable.toList, covers x (pc + 9) = false)
    (hRframes : names.length + 3 < R.frames) (hRlocals : (rest.map fun v => v.category).sum + (13 * (names.length + 1) + 43) ≤ R.locals) (hRcells : cells + 1 ≤ R.cells) (hRslots : slots + 6 ≤ R.slots) (hlocks : meth.locks = false)
    (hx : ∀ t : State, s.vm.Alike t.vm → H.size ≤ t.heap.size → (∀ q : Nat, q < H.size → t.heap[q]? = H[q]?) → XC cls s t)
    (hf : ∀ z ∈ locs, free z.base) (hc : cells + 1 ≤ mc) (hs : slots + 6 ≤ ms) :
    W p l e R s m args below meth c H locs cells slots (vx_MQ below Qc XC args s mc ms free) (F0 m pc ls rest) := by
  intro T hT X
  have htr : e.platform.stackTraces = false := (show e.platform.stackTraces = l.stackTraces by rw [X.admits.platform]).trans hl
  have Y := vx_rebase X (R' := { frames := R.frames, locals := R.locals, cells := 1, slots := 6 }) (Nat.le_refl _) (Nat.le_refl _) hRcells hRslots
  obtain ⟨s', hA⟩ : ∃ z, z = (T.setVm s.vm).setFrames (.invoking m args :: below) := ⟨_, rfl⟩
  rw [← hA] at Y
  have hvm : s'.vm = s.vm := by rw [hA]; rfl
  have hhp : s'.heap = H := by rw [hA]; exact hT
  have hW0 : s.WarmedH s'.vm := by rw [hvm]; exact State.WarmedH.refl s
  have hat' : ∀ w ∈ vx_atS own ic cls names, w.before args s' = true := fun w hw => vx_ot_at hW0 hvm.symm (hgood w (List.mem_cons_of_mem _ (List.mem_cons_of_mem _ hw))) (hat w hw)
  have hk' : (Cond.classLink own ik cls).before args s' = true := vx_ot_at hW0 hvm.symm (hgood _ List.mem_cons_self) hk
  have hini' : (Cond.initialized cls).before args s' = true := vx_ot_at hW0 hvm.symm (hgood _ (List.mem_cons_of_mem _ List.mem_cons_self)) hini
  have hU' : vx_Zq Bundle.tN "UNASSIGNED_STACK" Bundle.steD A s' s'.heap := by rw [hhp]; exact vx_Zq.moved hW0.alike (hU.kept hS.2.1)
  have hN' : vx_Zq Bundle.tN "SUPPRESSED_SENTINEL" Bundle.listD A s' s'.heap := by rw [hhp]; exact vx_Zq.moved hW0.alike (hN.kept hS.2.1)
  have h : ∀ w ∈ Bundle.ownAtoms own ic cls names, w.before args s' = true := vx_own hat' (vx_isRefq hU'.1) (vx_isRefq hN'.1) hU'.2.word hN'.2.word
  have hown' : s'.vm.findClass own = some m.cls := by rw [hvm]; exact hown
  have hins : (Cond.instantiable cls 6).before args s' = true := h _ (by simp [Bundle.ownAtoms])
  obtain ⟨vm₁, cX, kX, hfX, hkX, -, -, X₁, st1⟩ := Y.newCold hexec (own := own) (C := cls) (index := ik) (n := 6) hown' hk' hins hini'
    (g := F0 m pc ls rest) rfl (by rw [hb]; exact d0) (Nat.le_refl _) (Nat.le_refl _)
  generalize hT1 : (T.setVm vm₁).pushCell { cls := cX, slots := kX.instanceTypes.map defaultValue, vm := .none } = T1 at X₁ st1
  have hcat : (Value.ref T.heap.size).category = 1 := rfl
  have hcellA : T1.heap[T.heap.size]? = some (freshCell cX kX) := by rw [← hT1]; exact State.heap_pushCell_size _ _
  have d3' : decode c.code (pc + 3) = .ok (.dup, 1) := by rw [hb]; exact d3
  have d4' : decode c.code (pc + 4) = .ok (.ldc is, 2) := by rw [hb]; exact d4
  have hstr' : vk_R own is text sa s' := vk_R.warm hW0 hstr
  obtain ⟨U, hsteps, hrun, hend, hW, hsame, ce, hce, hO⟩ := X₁.ctorThrowS hexec htr (own := own) (cls := cls) (names := names) (ic := ic) hown' hcls hnames h (fun x hx => nomatch hx) hfX hkX hcellA (by rw [hhp, hT]; exact Nat.le_refl _) (msg := .ref sa) rfl
    (g := { method := m, pc := pc + 6, locals := ls, stack := .ref sa :: .ref T.heap.size :: .ref T.heap.size :: rest, locked := none }) rfl hsize rfl rfl (rest := rest) rfl
    (by rw [hb]; exact d6) (by rw [hb]; exact d9) hout hRframes (by simp only [List.map_cons, List.sum_cons, hcat]; omega) hlocks
  obtain ⟨f1, f2⟩ := vx_frame hsame
  rw [hhp] at f1 f2
  have hWs : s.WarmedH U.vm := State.WarmedH.trans hW0 hW
  have hcl : s.vm.findClass cls = some ce.cls := by
    have h9 := hO.cls
    rw [hvm] at h9
    exact h9
  have hall : s.sameButNew ({ U with vm := s.vm } : State) locs mc ms := by
    subst hA
    obtain ⟨e1, e2⟩ := hsame
    rw [State.setFrames_setFrames] at e1
    have h2 : (T.setVm s.vm).sameButNew ({ U with vm := s.vm } : State) [] (0 + 1) (0 + 6) := ⟨e1, e2⟩
    have h3 := X.same.trans h2
    rw [List.append_nil] at h3
    exact h3.mono hc hs
  refine ⟨U, ?_, .threw T.heap.size, hrun, hend, Or.inr ⟨T.heap.size, rfl, cls, ce, locs, hx U hWs.alike f1 (fun q hq => f2 q hq (fun z hz => nomatch hz)), hce, hO.vm, hcl, hWs, hall, hf⟩⟩
  refine st1 _ ?_
  show Steps p.tables e below (T1.setTop { method := m, pc := pc + 3, locals := ls, stack := .ref T.heap.size :: rest, locked := none }) _
  jvm_step X₁.here [X₁.here.top, hexec, d3', Value.category]
  exact X₁.ldcString hexec (own := own) (text := text) (index := is) (a := sa) hown' hstr'.1 hstr'.2
    (g := { method := m, pc := pc + 4, locals := ls, stack := .ref T.heap.size :: .ref T.heap.size :: rest, locked := none }) rfl d4' _ hsteps
/-- 'throw new E("text")', the text by a wide index -/
theorem vx_throwSW {cc : ByteArray} {pc : Nat} (hexec : p.tables.exec = Jvm.exec) (hb : c.code = cc) (hl : l.stackTraces = false) {own cls text : String} {names : List String} {ik is ic mc ms sa : Nat} {A : Nat → Prop}
    (hown : s.vm.findClass own = some m.cls) (hcls : Bundle.fit cls = true) (hnames : ∀ n ∈ names, Bundle.fit n = true)
    (hk : (Cond.classLink own ik cls).before args s = true) (hini : (Cond.initialized cls).before args s = true) (hstr : vk_R own is text sa s) (hat : ∀ w ∈ vx_atS own ic cls names, w.before args s = true)
    (hgood : ∀ w ∈ Cond.classLink own ik cls :: Cond.initialized cls :: vx_atS own ic cls names, vx_ot w = true)
    (hU : vx_Zq Bundle.tN "UNASSIGNED_STACK" Bundle.steD A s s.heap) (hN : vx_Zq Bundle.tN "SUPPRESSED_SENTINEL" Bundle.listD A s s.heap) (hS : va_S A s.heap H locs) (hsize : ls.size = c.maxLocals)
    (d0 : decode cc pc = .ok (.new ik, 3)) (d3 : decode cc (pc + 3) = .ok (.dup, 1)) (d4 : decode cc (pc + 4) = .ok (.ldc_w is, 3)) (d7 : decode cc (pc + 7) = .ok (.invokespecial ic, 3)) (d10 : decode cc (pc + 10) = .ok (.athrow, 1))
    (hout : ∀ x ∈ c.exceptionTable.toList, covers x (pc + 10) = false)
    (hRframes : names.length + 3 < R.frames) (hRlocals : (rest.map fun v => v.category).sum + (13 * (names.length + 1) + 43) ≤ R.locals) (hRcells : cells + 1 ≤ R.cells) (hRslots : slots + 6 ≤ R.slots) (hlocks : meth.locks = false)
    (hx : ∀ t : State, s.vm.Alike t.vm → H.size ≤ t.heap.size → (∀ q : Nat, q < H.size → t.heap[q]? = H[q]?) → XC cls s t)
    (hf : ∀ z ∈ locs, free z.base) (hc : cells + 1 ≤ mc) (hs : slots + 6 ≤ ms) :
    W p l e R s m args below meth c H locs cells slots (vx_MQ below Qc XC args s mc ms free) (F0 m pc ls rest) := by
  intro T hT X
  have htr : e.platform.stackTraces = false := (show e.platform.stackTraces = l.stackTraces by rw [X.admits.platform]).trans hl
  have Y := vx_rebase X (R' := { frames := R.frames, locals := R.locals, cells := 1, slots := 6 }) (Nat.le_refl _) (Nat.le_refl _) hRcells hRslots
  obtain ⟨s', hA⟩ : ∃ z, z = (T.setVm s.vm).setFrames (.invoking m args :: below) := ⟨_, rfl⟩
  rw [← hA] at Y
  have hvm : s'.vm = s.vm := by rw [hA]; rfl
  have hhp : s'.heap = H := by rw [hA]; exact hT
  have hW0 : s.WarmedH s'.vm := by rw [hvm]; exact State.WarmedH.refl s
  have hat' : ∀ w ∈ vx_atS own ic cls names, w.before args s' = true := fun w hw => vx_ot_at hW0 hvm.symm (hgood w (List.mem_cons_of_mem _ (List.mem_cons_of_mem _ hw))) (hat w hw)
  have hk' : (Cond.classLink own ik cls).before args s' = true := vx_ot_at hW0 hvm.symm (hgood _ List.mem_cons_self) hk
  have hini' : (Cond.initialized cls).before args s' = true := vx_ot_at hW0 hvm.symm (hgood _ (List.mem_cons_of_mem _ List.mem_cons_self)) hini
  have hU' : vx_Zq Bundle.tN "UNASSIGNED_STACK" Bundle.steD A s' s'.heap := by rw [hhp]; exact vx_Zq.moved hW0.alike (hU.kept hS.2.1)
  have hN' : vx_Zq Bundle.tN "SUPPRESSED_SENTINEL" Bundle.listD A s' s'.heap := by rw [hhp]; exact vx_Zq.moved hW0.alike (hN.kept hS.2.1)
  have h : ∀ w ∈ Bundle.ownAtoms own ic cls names, w.before args s' = true := vx_own hat' (vx_isRefq hU'.1) (vx_isRefq hN'.1) hU'.2.word hN'.2.word
  have hown' : s'.vm.findClass own = some m.cls := by rw [hvm]; exact hown
  have hins : (Cond.instantiable cls 6).before args s' = true := h _ (by simp [Bundle.ownAtoms])
  obtain ⟨vm₁, cX, kX, hfX, hkX, -, -, X₁, st1⟩ := Y.newCold hexec (own := own) (C := cls) (index := ik) (n := 6) hown' hk' hins hini'
    (g := F0 m pc ls rest) rfl (by rw [hb]; exact d0) (Nat.le_refl _) (Nat.le_refl _)
  generalize hT1 : (T.setVm vm₁).pushCell { cls := cX, slots := kX.instanceTypes.map defaultValue, vm := .none } = T1 at X₁ st1
  have hcat : (Value.ref T.heap.size).category = 1 := rfl
  have hcellA : T1.heap[T.heap.size]? = some (freshCell cX kX) := by rw [← hT1]; exact State.heap_pushCell_size _ _
  have d3' : decode c.code (pc + 3) = .ok (.dup, 1) := by rw [hb]; exact d3
  have d4' : decode c.code (pc + 4) = .ok (.ldc_w is, 3) := by rw [hb]; exact d4
  have hstr' : vk_R own is text sa s' := vk_R.warm hW0 hstr
  obtain ⟨U, hsteps, hrun, hend, hW, hsame, ce, hce, hO⟩ := X₁.ctorThrowS hexec htr (own := own) (cls := cls) (names := names) (ic := ic) hown' hcls hnames h (fun x hx => nomatch hx) hfX hkX hcellA (by rw [hhp, hT]; exact Nat.le_refl _) (msg := .ref sa) rfl
    (g := { method := m, pc := pc + 7, locals := ls, stack := .ref sa :: .ref T.heap.size :: .ref T.heap.size :: rest, locked := none }) rfl hsize rfl rfl (rest := rest) rfl
    (by rw [hb]; exact d7) (by rw [hb]; exact d10) hout hRframes (by simp only [List.map_cons, List.sum_cons, hcat]; omega) hlocks
  obtain ⟨f1, f2⟩ := vx_frame hsame
  rw [hhp] at f1 f2
  have hWs : s.WarmedH U.vm := State.WarmedH.trans hW0 hW
  have hcl : s.vm.findClass cls = some ce.cls := by
    have h9 := hO.cls
    rw [hvm] at h9
    exact h9
  have hall : s.sameButNew ({ U with vm := s.vm } : State) locs mc ms := by
    subst hA
    obtain ⟨e1, e2⟩ := hsame
    rw [State.setFrames_setFrames] at e1
    have h2 : (T.setVm s.vm).sameButNew ({ U with vm := s.vm } : State) [] (0 + 1) (0 + 6) := ⟨e1, e2⟩
    have h3 := X.same.trans h2
    rw [List.append_nil] at h3
    exact h3.mono hc hs
  refine ⟨U, ?_, .threw T.heap.size, hrun, hend, Or.inr ⟨T.heap.size, rfl, cls, ce, locs, hx U hWs.alike f1 (fun q hq => f2 q hq (fun z hz => nomatch hz)), hce, hO.vm, hcl, hWs, hall, hf⟩⟩
  refine st1 _ ?_
  show Steps p.tables e below (T1.setTop { method := m, pc := pc + 3, locals := ls, stack := .ref T.heap.size :: rest, locked := none }) _
  jvm_step X₁.here [X₁.here.top, hexec, d3', Value.category]
  exact X₁.ldcStringW hexec (own := own) (text := text) (index := is) (a := sa) hown' hstr'.1 hstr'.2
    (g := { method := m, pc := pc + 4, locals := ls, stack := .ref T.heap.size :: .ref T.heap.size :: rest, locked := none }) rfl d4' _ hsteps
end Ends
section Bodies
variable {l : Launch}
theorem vx_ofW {y : MethodName} {ws ws' : List Cond} {rm : Room} {Pc : Array Value → State → Prop} {Qc : Array Value → State → Outcome → State → Prop} {XC : String → State → State → Prop} {mc ms : Nat} {free : Addr → Prop} {cc : ByteArray} {maxL : Nat} {ret : Option FieldType}
    (hy : plainName y.cls = true) (hw : ws = Cond.code y cc maxL ret :: ws')
    (body : ∀ p e s m args below meth c s₁, BodyLoose p l y (headSpec ws rm) cc maxL ret e s m args below meth c s₁ → c.maxLocals = maxL → (∀ x ∈ c.exceptionTable.toList, False) → Pc args s →
      W p l e (headSpec ws rm).room s m args below meth c s.heap [] 0 0 (vx_MQ below Qc XC args s mc ms free) (entryFrame m args maxL)) : vx_Met l y ws rm Pc Qc XC mc ms free := by
  refine MetFree.of_bodyS (code := cc) (maxLocals := maxL) (ret := ret) hy ?_ ?_
  · intro args s m h hn
    obtain ⟨meth, c, h1, h2, h3, h4, h5, h6, -, -⟩ := Cond.code_spec hn (atoms_spec (ws := ws) h _ (by rw [hw]; exact List.mem_cons_self))
    exact ⟨meth, c, h1, h2, h3, h4, h5, h6⟩
  · intro p e s m args below meth c s₁ B hml hP _
    have hh0 : s₁.heap = s.heap := by rw [B.state]; rfl
    have ht : ∀ x ∈ c.exceptionTable.toList, False := by
      obtain ⟨meth9, c9, h1, h2, -, -, -, -, h7, -⟩ := Cond.code_spec B.named (atoms_spec (ws := ws) B.pre _ (by rw [hw]; exact List.mem_cons_self))
      cases Option.some.inj (h1.symm.trans B.method)
      cases Option.some.inj (h2.symm.trans (Stand.of_body B).code)
      intro x hx
      rw [Array.isEmpty_iff.mp h7] at hx
      cases hx
    obtain ⟨t, a1, o, b1, b2, b3⟩ := body p e s m args below meth c s₁ B hml ht hP s₁ hh0 (Stand.of_body B)
    exact ⟨t, o, a1, b1, b2, b3⟩
/-- the table of a body with handlers -/
theorem vx_table {p : Program} {x y : MethodName} {S : Spec} {cc bytes : ByteArray} {maxL maxL' : Nat} {ret ret' : Option FieldType} {e : Env} {s s₁ : State} {m : MethodId} {args : Array Value} {below : List Frame} {meth : Method} {c : Code} {hh : List (Nat × Nat × Nat × Nat)}
    (B : BodyLoose p l y S cc maxL ret e s m args below meth c s₁) (h : (Cond.codeWith y bytes maxL' ret' hh).before args s = true) : c.exceptionTable.toList = tableOf hh := by
  obtain ⟨m9, meth9, c9, hn9, h1, h2, -, -, h6, -⟩ := Cond.codeWith_spec h
  cases Option.some.inj (hn9.symm.trans B.named)
  cases Option.some.inj (h1.symm.trans B.method)
  cases Option.some.inj (h2.symm.trans (Stand.of_body B).code)
  rw [← h6, table_eq]
end Bodies
end VXA
/-! ===== END ===== -/
/-! ===== BEGIN a static call of a method with an exception table ===== -/
section VXS
variable {p : Program} {l : Launch} {e : Env} {R : Room} {s : State} {m : MethodId} {args : Array Value} {below : List Frame} {meth : Method} {c : Code} {T : State} {H : Heap} {locs : List Loc} {cells slots : Nat}
abbrev vx_CSW (R : Room) (s : State) (args : Array Value) (own : String) (index : Nat) (y : MethodName) (bytes : ByteArray) (maxL : Nat) (ret : Option FieldType) (hh : List (Nat × Nat × Nat × Nat)) (ws : List Cond) (rm : Room) (mc ms n : Nat) : Prop :=
  (rm.cells = mc ∧ rm.slots = ms ∧ rm.frames + 1 ≤ R.frames ∧ 8 + (maxL + 11) + rm.locals ≤ R.locals ∧ (∀ w ∈ ws, ∀ (a' : Array Value) (U : State), s.WarmedH U.vm → w.before a' U = true) ∧ Cond.codeWith y bytes maxL ret hh ∈ ws) ∧
  (Cond.codeWith y bytes maxL ret hh).before args s = true ∧ (Cond.initialized y.cls).before args s = true ∧ (y.cls ≠ "java/lang/invoke/MethodHandle" ∧ y.cls ≠ "java/lang/invoke/VarHandle") ∧
  (∀ sig, parseMethodDescriptor y.desc = some sig → n = sig.parameters.length) ∧ (Cond.methodLink own index y).before args s = true ∧ (Cond.static y).before args s = true
theorem vx_cwSW {own : String} {index maxL mc ms : Nat} {y : MethodName} {bytes : ByteArray} {ret : Option FieldType} {hh : List (Nat × Nat × Nat × Nat)} {Ts ws ws' : List Cond} {rm : Room} (n : Nat) (ht : ∀ w ∈ Ts, w.before args s = true) (hT : GoodIn Ts (va_wsS own index y ws)) (hw : ws = Cond.codeWith y bytes maxL ret hh :: ws') (hrc : rm.cells = mc) (hrs : rm.slots = ms)
    (hd : y.cls ≠ "java/lang/invoke/MethodHandle" ∧ y.cls ≠ "java/lang/invoke/VarHandle" ∧ (parseMethodDescriptor y.desc).map (fun d => d.parameters.length) = some n) (hR : rm.frames + 1 ≤ R.frames ∧ 8 + (maxL + 11) + rm.locals ≤ R.locals) :
    vx_CSW R s args own index y bytes maxL ret hh ws rm mc ms n := by
  have ok : ∀ w ∈ va_wsS own index y ws, w.before args s = true := fun w h => ht w (hT w h).1
  have hG : GoodIn Ts ws := fun w h => hT w (by unfold va_wsS; exact List.mem_append_right _ h)
  have hc : Cond.codeWith y bytes maxL ret hh ∈ ws := by rw [hw]; exact List.mem_cons_self
  refine ⟨⟨hrc, hrs, hR.1, hR.2, pay_in ht hG, hc⟩, ht _ (hG _ hc).1, ok _ (by simp [va_wsS]), ⟨hd.1, hd.2.1⟩, fun sig h => ?_, ok _ (by simp [va_wsS]), ok _ (by simp [va_wsS])⟩
  have h2 := hd.2.2
  rw [h] at h2
  exact (Option.some.inj h2).symm
theorem vx_callSW (X : Stand p l e R s m args below meth c T locs cells slots) (hexec : p.tables.exec = Jvm.exec) {own : String} {index : Nat} {y : MethodName} {bytes : ByteArray} {maxL : Nat} {ret : Option FieldType} {hh : List (Nat × Nat × Nat × Nat)}
    (hown : s.vm.findClass own = some m.cls) (hlink : (Cond.methodLink own index y).before args s = true) (hstat : (Cond.static y).before args s = true) (hinit : (Cond.initialized y.cls).before args s = true)
    (hcode : (Cond.codeWith y bytes maxL ret hh).before args s = true) (hy : y.cls ≠ "java/lang/invoke/MethodHandle" ∧ y.cls ≠ "java/lang/invoke/VarHandle")
    {W9 : Nat} {Pre : Pt → Array Value → Prop} {Post : Pt → Array Value → Option Value → Pt → Prop} (hK : Back l R p e below s args y 3 W9 Pre Post)
    {g : JFrame} (hg : g.method = m) (hsize : g.locals.size = c.maxLocals) {argsL rest : List Value} (hlen : ∀ sig, parseMethodDescriptor y.desc = some sig → argsL.length = sig.parameters.length)
    (hstack : g.stack = argsL.reverse ++ rest) (hW : 2 * g.monitorRoom + (rest.map fun v => v.category).sum ≤ W9) (hdg : decode c.code g.pc = .ok (.invokestatic index, 3))
    (hpre : ∀ vm₁, s.WarmedH vm₁ → Pre ⟨T.setVm vm₁, locs, cells, slots⟩ argsL.toArray) :
    ∃ (v : Option Value) (vm₁ : Vm) (B : Pt), s.WarmedH vm₁ ∧ Stand p l e R s m args below meth c B.U B.locs B.cells B.slots ∧ Post ⟨T.setVm vm₁, locs, cells, slots⟩ argsL.toArray v B ∧
      ∀ target, Steps p.tables e below (B.U.setTop { g with pc := g.pc + 3, stack := v.toList ++ rest }) target → Steps p.tables e below (T.setTop g) target := by
  obtain ⟨mk, methM, cM, hnamed, hmethM, -, -, -, -, -, -, hsigM⟩ := Cond.codeWith_spec hcode
  have hstatic : methM.isStatic = true := Cond.static_spec hnamed hmethM hstat
  obtain ⟨kP, hkP, -⟩ := className_of_methodNamed hnamed
  have hinitP : kP.init = .initialized := Cond.initialized_spec (findClass_of_methodNamed hnamed) hkP hinit
  obtain ⟨vm₁, X₁, hstep₁⟩ := X.invokestatic hexec hown hlink hnamed hmethM hstatic hkP hinitP hy (g := g) hg (argsL := argsL) (rest := rest) (hlen _ hsigM) hstack hdg
  obtain ⟨v, B, X', hpost, hsteps⟩ := hK m meth c ⟨T.setVm vm₁, locs, cells, slots⟩ { g with stack := rest } (.invokestatic index) mk argsL.toArray X₁ hg hsize hdg hW (X₁.named hnamed) (hpre vm₁ X₁.warmed)
  exact ⟨v, vm₁, B, X₁.warmed, X', hpost, fun target h => hstep₁ _ fun acts => by rw [doInvoke_state]; exact hsteps.trans h⟩
theorem vx_runSW {y : MethodName} {bytes cc : ByteArray} {maxL nL mc ms n index : Nat} {ret : Option FieldType} {hh : List (Nat × Nat × Nat × Nat)} {ws : List Cond} {rm : Room} {Pc : Array Value → State → Prop} {Qc : Array Value → State → Outcome → State → Prop} {free : Addr → Prop} {Ts : List Cond} {own : String} {As rest : List Value} {g : JFrame}
    (S : CallFix p m c cc nL s args Ts own) (hM : Met l y ws rm Pc Qc mc ms free) (cw : vx_CSW R s args own index y bytes maxL ret hh ws rm mc ms n) (hp : PreS s H Pc As)
    (hg : g.method = m) (hn : As.length = n) (hsize : g.locals.size = nL) (hstack : g.stack = As.reverse ++ rest) (hW : 2 * g.monitorRoom + (rest.map fun v => v.category).sum ≤ 8) (hdg : decode cc g.pc = .ok (.invokestatic index, 3)) (hf : cells + mc ≤ R.cells ∧ slots + ms ≤ R.slots) :
    va_Run p l e R s m args below meth c H locs cells slots mc ms g rest (Qc As.toArray) (free) := by
  obtain ⟨⟨hrc, hrs, hfr, hlo, hws, hcw⟩, hcode, hini, hy, hlen, hl, hstt⟩ := cw
  have hK : Back l R p e below s args y 3 8 (PreOf R mc ms Pc) (PostOf Qc mc ms free) := va_backW (hh := hh) (bytes := bytes) (maxL := maxL) (ret := ret) hM hp.1 hrc hrs hfr hlo hws hcw (fun a' U hW => word_at hW (Or.inl (by first | rfl | simp [Cond.onTables, Cond.keeps, Cond.steady])) hini)
  obtain ⟨hx, hb, hml, ho, -⟩ := S
  intro T hT X
  obtain ⟨v, vm₁, ⟨U', l2, c2, s2⟩, hW₁, X', ⟨g', mk, t, L, e1, e2, hq, h1, hL, h2, h3⟩, st⟩ := vx_callSW X hx (hh := hh) (bytes := bytes) (maxL := maxL) (ret := ret) ho hl hstt hini hcode hy hK hg (hsize.trans hml.symm) (argsL := As) (rest := rest) (fun sig h => hn.trans (hlen sig h)) hstack hW (by rw [hb]; exact hdg)
    (fun vm₁ hW₁ => ⟨hf.1, hf.2, hp.2 (T.setVm vm₁) hT hW₁⟩)
  dsimp only [Pt.U, Pt.locs, Pt.cells, Pt.slots] at X' e1 e2 h1 h2 h3 st
  subst h1; subst h2; subst h3
  exact ⟨v, (T.setVm vm₁).calling g' mk As.toArray, t, U', L, hT, X', hL, e1, e2, hq, st⟩
/-- not caught here, past rows that name other classes: it goes on to the caller -/
theorem vx_outP {p : Program} {l : Launch} {e : Env} {R : Room} {s : State} {m : MethodId} {args : Array Value} {below : List Frame} {meth : Method} {c : Code} {H : Heap} {locs : List Loc} {cells slots : Nat} {free : Addr → Prop} {ls : Array Slot} {rest : List Value} {Qc : Array Value → State → Outcome → State → Prop} {XC : String → State → State → Prop}
    {pc : Nat} {own E : String} {ce : Cell} {q : Addr} {mc ms : Nat} (hown : s.vm.findClass own = some m.cls) (hlocks : meth.locks = false)
    (hpass : ∀ z ∈ c.exceptionTable.toList, covers z pc = false ∨ (z.catchType ≠ 0 ∧ ∃ nm : String, (Cond.classLink own z.catchType nm).before args s = true ∧ va_Nc E nm s)) (hcell : H[q]? = some ce) (hv : ce.vm = .none) (hcl : s.vm.findClass E = some ce.cls)
    (hx : ∀ t : State, t.heap = H → s.vm.Alike t.vm → XC E s t) (hf : ∀ z ∈ locs, free z.base) (hc : cells ≤ mc) (hs : slots ≤ ms) :
    vx_W p l e R s m args below meth c H locs cells slots (vx_MQ below Qc XC args s mc ms free) (F0 m pc ls rest) q := by
  intro T hT X
  have hpl : e.platform.magicAccessors = ({} : Platform).magicAccessors := by rw [X.admits.platform]
  obtain ⟨vm', hW', X', st⟩ := X.outThrough hlocks q (g := F0 m pc ls rest) rfl rfl rfl (cell := ce) (by rw [hT]; exact hcell) (by rw [hv]; rfl)
    (by obtain ⟨k9, h9, -⟩ := Vm.findClass_spec hcl; exact ⟨k9, h9⟩) (fun z hz => by
      rcases hpass z hz with h | ⟨hz0, nm, hl1, hn1⟩
      · exact Or.inl h
      · obtain ⟨c6, hc6, hcl6⟩ := Cond.classLink_spec hown hl1 e.platform hpl
        obtain ⟨a8, b8, h1, h2, h3⟩ := hn1
        cases Option.some.inj (h1.symm.trans hcl)
        cases Option.some.inj (h2.symm.trans hc6)
        exact Or.inr ⟨hz0, _, hcl6, h3⟩)
  obtain ⟨g₀, hfr⟩ := X'.frames_eq
  have hcell9 : ((T.setVm vm').setFrames (.throwing q :: below)).heap[q]? = some ce := by
    show T.heap[q]? = some ce
    rw [hT]; exact hcell
  have hend : Ended ((T.setVm vm').setFrames (.throwing q :: below)) below (.threw q) := State.frames_setFrames _ (State.cur_lt_of_frames hfr)
  refine ⟨(T.setVm vm').setFrames (.throwing q :: below), ?_, .threw q, X'.here.running, hend, Or.inr ⟨q, rfl, E, ce, locs, hx _ hT (X'.ends _).1.alike, hcell9, hv, hcl, (X'.ends _).1, (X'.ends _).2.mono hc hs, hf⟩⟩
  rw [X.pushThrowing_eq]
  exact st
/-- a thing of a world lies in the heap -/
theorem vx_lt {D : va_G} {cl : List vw_C} {ws : va_W} {H1 : Heap} (h : va_P D cl ws H1) {k : Nat} {q : Nat × va_E} (hk : ws[k]? = some q) : q.1 < H1.size := (h k q hk).lt
end VXS
/-! ===== END ===== -/
/-! ===== BEGIN methods with a table of their own: called by a name, returning or throwing ===== -/
section VXH
/-! vx_backW, vx_callVX, vx_callSX, vx_callVW, vx_runVW, vx_runVX, vx_runSX, vx_ofWH follow the same proofs as their sisters above (Free/Laws.lean, Shelf42/LK1.lean); vx_outP calls Shelf42/NT130.lean (outThrough). -/
section
variable {l : Launch} {R : Room} {p : Program} {e : Env} {below : List Frame} {s : State} {sargs : Array Value} {y : MethodName} {len W9 : Nat}
theorem vx_backW {ws : List Cond} {rm : Room} {Pc : Array Value → State → Prop} {Qc : Array Value → State → Outcome → State → Prop} {XC : String → State → State → Prop} {mc ms : Nat} {free : Addr → Prop} {bytes : ByteArray} {maxL : Nat} {ret : Option FieldType} {hh : List (Nat × Nat × Nat × Nat)}
    (hM : vx_Met l y ws rm Pc Qc XC mc ms free) (hblind : FrameBlind Pc) (hrc : rm.cells = mc) (hrs : rm.slots = ms)
    (hframes : rm.frames + 1 ≤ R.frames) (hlocals : W9 + (maxL + 11) + rm.locals ≤ R.locals)
    (hws : ∀ w ∈ ws, ∀ a' U, s.WarmedH U.vm → w.before a' U = true) (hcode : Cond.codeWith y bytes maxL ret hh ∈ ws) (hinit : ∀ a' U, s.WarmedH U.vm → (Cond.initialized y.cls).before a' U = true) :
    vx_Back l R p e below s sargs y len W9 (PreOf R mc ms Pc) (PostOf Qc mc ms free) (vx_Post XC mc ms free) := by
  intro m meth c A g ig mk a X hg hsize hdg hW hn hp
  have h1 : (headSpec ws rm).pre.before a A.U = true := atoms_intro fun w hw => hws w hw _ _ X.warmed
  have h2 : (Cond.codeWith y bytes maxL ret hh).before a A.U = true := hws _ hcode _ _ X.warmed
  have h3 : (Cond.initialized y.cls).before a A.U = true := hinit _ _ X.warmed
  have h4 : A.cells + (headSpec ws rm).room.cells ≤ R.cells := by rw [show (headSpec ws rm).room.cells = mc from hrc]; exact hp.1
  have h5 : A.slots + (headSpec ws rm).room.slots ≤ R.slots := by rw [show (headSpec ws rm).room.slots = ms from hrs]; exact hp.2.1
  have hPc : Pc a (A.U.calling g mk a) := hblind _ _ _ _ hp.2.2
  obtain ⟨U, Ls, c0, s0⟩ := A
  dsimp only [Pt.U, Pt.locs, Pt.cells, Pt.slots] at h1 h2 h3 h4 h5 X hn hPc ⊢
  obtain ⟨m9, methY, cY, hn9, hmY, hcY, -, hlY, -⟩ := Cond.codeWith_spec h2
  cases Option.some.inj (hn9.symm.trans hn)
  obtain ⟨kY, hkY, -⟩ := className_of_methodNamed hn
  have hinitY : kY.init = .initialized := Cond.initialized_spec (findClass_of_methodNamed hn) hkY h3
  have h : At U g.method c below := by rw [hg]; exact X.here
  have hlocals9 : W9 + (maxL + 11) + (headSpec ws rm).room.locals ≤ R.locals := hlocals
  have happ : (headSpec ws rm).appliesLoose y e.platform (U.calling g mk a) = true :=
    Spec.appliesLoose_calling (g := g) h hdg hn hkY hinitY
      (X.room_calling (g := g) (R' := (headSpec ws rm).room) hsize hmY hcY hframes (by rw [hlY]; omega) h4 h5) h1
  obtain ⟨mid, hmid⟩ := h.above
  have hfr : (U.setTop g).frames = (.java g :: mid) ++ below := by rw [State.frames_setTop' g h.top, hmid]; rfl
  obtain ⟨o, s₂, hsteps, -, hend, hq⟩ := Steps.callFree hM p X.admits X.cas X.clock (acts := []) hfr happ hPc trivial
  have hq' : vx_Q Qc XC mc ms free a (U.calling g mk a) o s₂ := hq
  rw [State.frames_setTop' g h.top] at hend
  obtain ⟨g₀, hg0⟩ := Option.isSome_iff_exists.mp h.top
  obtain ⟨r, hr⟩ := State.topJava?_eq_some.mp hg0
  have hr' : (({ U with heap := s₂.heap, slotsUsed := s₂.slotsUsed } : State).setVm s₂.vm).frames = .java g₀ :: r := hr
  rcases hq' with ⟨hqc, L, hfe, hL⟩ | ⟨q, rfl, E, ce, L, hx, hce, hcv, hcl, hW₂, hsm, hL⟩
  · obtain ⟨⟨v, rfl⟩, hW₂, e2, q2, q3, q4, q5, q6⟩ := id hfe
    have e3 : s₂ = ({ (U.calling g mk a).setFrames s₂.frames with heap := s₂.heap, slotsUsed := s₂.slotsUsed } : State).setVm s₂.vm := by
      have : s₂ = ({ s₂ with vm := (U.calling g mk a).vm } : State).setVm s₂.vm := rfl
      rw [e2] at this
      exact this
    obtain ⟨c₂, i₂, len₂, hc₂, hd₂, hf₂⟩ := hend
    have hW' : U.WarmedH s₂.vm := hW₂
    have hcc : c₂ = c := by
      have h1 : s₂.code? g.method = U.code? g.method := by
        rw [State.code?_eq, State.code?_eq, hW'.alike.method?]
      exact Option.some.inj (hc₂.symm.trans (h1.trans h.code))
    subst hcc
    have hlen : len₂ = len := by rw [hdg] at hd₂; cases hd₂; rfl
    subst hlen
    have hs₂ : s₂ = (({ U with heap := s₂.heap, slotsUsed := s₂.slotsUsed } : State).setVm s₂.vm).setTop { g with pc := g.pc + len₂, stack := v.toList ++ g.stack } := by
      refine e3.trans ?_
      rw [hf₂, State.calling_eq h.top, State.setFrames_setFrames, State.setTop_of_frames _ hr', hr]
      rfl
    have hsame : U.sameButNew ({ U with heap := s₂.heap, slotsUsed := s₂.slotsUsed } : State) L mc ms := by
      refine ⟨?_, q2, q3, q4, q5, q6⟩
      obtain ⟨t, ht, -⟩ := State.frames_cons hr
      show ({ U with heap := s₂.heap, slotsUsed := s₂.slotsUsed } : State) = { U.setFrames U.frames with heap := s₂.heap, slotsUsed := s₂.slotsUsed }
      rw [State.setFrames_self ht]
    subst hg
    refine Or.inl ⟨v, ⟨(({ U with heap := s₂.heap, slotsUsed := s₂.slotsUsed } : State).setVm s₂.vm), Ls ++ L, c0 + mc, s0 + ms⟩,
      ⟨X.admits, X.cas, X.clock, X.frames, X.room, X.hears, X.method, X.code, (X.here.setHeapUsed s₂.heap s₂.slotsUsed).setVm hW'.alike, X.tail, State.WarmedH.trans X.warmed hW', X.limits, X.bytes, X.same.trans (hsame.setVm s.vm)⟩,
      ⟨g, mk, s₂, L, rfl, rfl, hqc, rfl, hL, rfl, rfl⟩, ?_⟩
    show Steps p.tables e below _ ((({ U with heap := s₂.heap, slotsUsed := s₂.slotsUsed } : State).setVm s₂.vm).setTop { g with pc := g.pc + len₂, stack := v.toList ++ g.stack })
    rw [← hs₂]
    exact hsteps
  · obtain ⟨e2, q2, q3, q4, q5, q6⟩ := id hsm
    have e3 : s₂ = ({ (U.calling g mk a).setFrames s₂.frames with heap := s₂.heap, slotsUsed := s₂.slotsUsed } : State).setVm s₂.vm := by
      have : s₂ = ({ s₂ with vm := (U.calling g mk a).vm } : State).setVm s₂.vm := rfl
      rw [e2] at this
      exact this
    have hf₂ : s₂.frames = .throwing q :: .java g :: U.frames.tail := hend
    have hW' : U.WarmedH s₂.vm := hW₂
    have hs₂ : s₂ = ((({ U with heap := s₂.heap, slotsUsed := s₂.slotsUsed } : State).setVm s₂.vm).setTop g).pushFrame (.throwing q) := by
      refine e3.trans ?_
      rw [hf₂, State.calling_eq h.top, State.setFrames_setFrames, State.pushFrame, State.frames_setTop _ hr', State.setTop_of_frames _ hr', State.setFrames_setFrames, hr]
      rfl
    have hsame : U.sameButNew ({ U with heap := s₂.heap, slotsUsed := s₂.slotsUsed } : State) L mc ms := by
      refine ⟨?_, q2, q3, q4, q5, q6⟩
      obtain ⟨t, ht, -⟩ := State.frames_cons hr
      show ({ U with heap := s₂.heap, slotsUsed := s₂.slotsUsed } : State) = { U.setFrames U.frames with heap := s₂.heap, slotsUsed := s₂.slotsUsed }
      rw [State.setFrames_self ht]
    subst hg
    refine Or.inr ⟨q, ⟨(({ U with heap := s₂.heap, slotsUsed := s₂.slotsUsed } : State).setVm s₂.vm), Ls ++ L, c0 + mc, s0 + ms⟩,
      ⟨X.admits, X.cas, X.clock, X.frames, X.room, X.hears, X.method, X.code, (X.here.setHeapUsed s₂.heap s₂.slotsUsed).setVm hW'.alike, X.tail, State.WarmedH.trans X.warmed hW', X.limits, X.bytes, X.same.trans (hsame.setVm s.vm)⟩,
      ⟨g, mk, s₂, L, E, ce, rfl, rfl, hx, hce, hcv, hcl, rfl, hL, rfl, rfl⟩, ?_⟩
    show Steps p.tables e below _ (((({ U with heap := s₂.heap, slotsUsed := s₂.slotsUsed } : State).setVm s₂.vm).setTop g).pushFrame (.throwing q))
    rw [← hs₂]
    exact hsteps
end
variable {p : Program} {l : Launch} {e : Env} {R : Room} {s : State} {m : MethodId} {args : Array Value} {below : List Frame} {meth : Method} {c : Code} {T : State} {H : Heap} {locs : List Loc} {cells slots : Nat}
theorem vx_callVX (X : Stand p l e R s m args below meth c T locs cells slots) (hexec : p.tables.exec = Jvm.exec) {own C : String} {index : Nat} {y : MethodName} {bytes : ByteArray} {maxL : Nat} {ret : Option FieldType} {hh : List (Nat × Nat × Nat × Nat)}
    (hown : s.vm.findClass own = some m.cls) (hlink : (Cond.methodLink own index y).before args s = true) (hinst : (Cond.instanceMethod y).before args s = true) (hsel : (Cond.selects C y y).before args s = true)
    (hcode : (Cond.codeWith y bytes maxL ret hh).before args s = true) (hy : y.cls ≠ "java/lang/invoke/MethodHandle" ∧ y.cls ≠ "java/lang/invoke/VarHandle")
    {W9 : Nat} {Pre : Pt → Array Value → Prop} {Post : Pt → Array Value → Option Value → Pt → Prop} {PostX : Pt → Array Value → Addr → Pt → Prop} (hK : vx_Back l R p e below s args y 3 W9 Pre Post PostX)
    {b : Addr} {cellB : Cell} (hcell : T.heap[b]? = some cellB) (hobj : cellB.vm.isStatics = false) (hcls : s.vm.findClass C = some cellB.cls)
    {g : JFrame} (hg : g.method = m) (hsize : g.locals.size = c.maxLocals) {argsL rest : List Value} (hlen : ∀ sig, parseMethodDescriptor y.desc = some sig → argsL.length = sig.parameters.length)
    (hstack : g.stack = argsL.reverse ++ .ref b :: rest) (hW : 2 * g.monitorRoom + (rest.map fun v => v.category).sum ≤ W9) (hdg : decode c.code g.pc = .ok (.invokevirtual index, 3))
    (hpre : ∀ vm₁, s.WarmedH vm₁ → Pre ⟨T.setVm vm₁, locs, cells, slots⟩ (Value.ref b :: argsL).toArray) :
    (∃ (v : Option Value) (vm₁ : Vm) (B : Pt), s.WarmedH vm₁ ∧ Stand p l e R s m args below meth c B.U B.locs B.cells B.slots ∧ Post ⟨T.setVm vm₁, locs, cells, slots⟩ (Value.ref b :: argsL).toArray v B ∧
      ∀ target, Steps p.tables e below (B.U.setTop { g with pc := g.pc + 3, stack := v.toList ++ rest }) target → Steps p.tables e below (T.setTop g) target) ∨
    (∃ (q : Addr) (vm₁ : Vm) (B : Pt), s.WarmedH vm₁ ∧ Stand p l e R s m args below meth c B.U B.locs B.cells B.slots ∧ PostX ⟨T.setVm vm₁, locs, cells, slots⟩ (Value.ref b :: argsL).toArray q B ∧
      Steps p.tables e below (T.setTop g) ((B.U.setTop { g with stack := rest }).pushFrame (.throwing q))) := by
  obtain ⟨mk, methM, hnamed, hmethM, hstM, habM⟩ := Cond.instanceMethod_spec hinst
  obtain ⟨m8, methM', cM, hn8, hmethM', -, -, -, -, -, -, hsigM⟩ := Cond.codeWith_spec hcode
  cases Option.some.inj (hn8.symm.trans hnamed)
  cases hmethM.symm.trans hmethM'
  obtain ⟨c2, r2, m2, q1, q2, q3, q4, kP, hkP, hkPi⟩ := Cond.selects_spec hsel
  cases hcls.symm.trans q1
  cases (State.methodFound?_of_named hnamed hy).symm.trans q2
  cases hnamed.symm.trans q3
  have hselP : selectMethod e.platform s.vm cellB.cls mk = .method mk := by rw [Launch.admits_selectMethod X.admits]; exact q4
  obtain ⟨vm₁, X₁, hstep₁⟩ := X.invokevirtual hexec hown hlink hnamed hmethM hstM hkP hkPi hy (a := b) (cell := cellB) hcell
    (fun z h => by rw [h] at hobj; cases hobj) hselP hmethM habM hkP hkPi (g := g) hg (argsL := argsL) (rest := rest) (hlen _ hsigM) hstack hdg
  rcases hK m meth c ⟨T.setVm vm₁, locs, cells, slots⟩ { g with stack := rest } (.invokevirtual index) mk (Value.ref b :: argsL).toArray X₁ hg hsize hdg hW (X₁.named hnamed) (hpre vm₁ X₁.warmed) with ⟨v, B, X', hpost, hsteps⟩ | ⟨q, B, X', hpost, hsteps⟩
  · exact Or.inl ⟨v, vm₁, B, X₁.warmed, X', hpost, fun target h => hstep₁ _ fun acts => by rw [doInvoke_state]; exact hsteps.trans h⟩
  · exact Or.inr ⟨q, vm₁, B, X₁.warmed, X', hpost, hstep₁ _ fun acts => by rw [doInvoke_state]; exact hsteps⟩
theorem vx_callSX (X : Stand p l e R s m args below meth c T locs cells slots) (hexec : p.tables.exec = Jvm.exec) {own : String} {index : Nat} {y : MethodName} {bytes : ByteArray} {maxL : Nat} {ret : Option FieldType} {hh : List (Nat × Nat × Nat × Nat)}
    (hown : s.vm.findClass own = some m.cls) (hlink : (Cond.methodLink own index y).before args s = true) (hstat : (Cond.static y).before args s = true) (hinit : (Cond.initialized y.cls).before args s = true)
    (hcode : (Cond.codeWith y bytes maxL ret hh).before args s = true) (hy : y.cls ≠ "java/lang/invoke/MethodHandle" ∧ y.cls ≠ "java/lang/invoke/VarHandle")
    {W9 : Nat} {Pre : Pt → Array Value → Prop} {Post : Pt → Array Value → Option Value → Pt → Prop} {PostX : Pt → Array Value → Addr → Pt → Prop} (hK : vx_Back l R p e below s args y 3 W9 Pre Post PostX)
    {g : JFrame} (hg : g.method = m) (hsize : g.locals.size = c.maxLocals) {argsL rest : List Value} (hlen : ∀ sig, parseMethodDescriptor y.desc = some sig → argsL.length = sig.parameters.length)
    (hstack : g.stack = argsL.reverse ++ rest) (hW : 2 * g.monitorRoom + (rest.map fun v => v.category).sum ≤ W9) (hdg : decode c.code g.pc = .ok (.invokestatic index, 3))
    (hpre : ∀ vm₁, s.WarmedH vm₁ → Pre ⟨T.setVm vm₁, locs, cells, slots⟩ argsL.toArray) :
    (∃ (v : Option Value) (vm₁ : Vm) (B : Pt), s.WarmedH vm₁ ∧ Stand p l e R s m args below meth c B.U B.locs B.cells B.slots ∧ Post ⟨T.setVm vm₁, locs, cells, slots⟩ argsL.toArray v B ∧
      ∀ target, Steps p.tables e below (B.U.setTop { g with pc := g.pc + 3, stack := v.toList ++ rest }) target → Steps p.tables e below (T.setTop g) target) ∨
    (∃ (q : Addr) (vm₁ : Vm) (B : Pt), s.WarmedH vm₁ ∧ Stand p l e R s m args below meth c B.U B.locs B.cells B.slots ∧ PostX ⟨T.setVm vm₁, locs, cells, slots⟩ argsL.toArray q B ∧
      Steps p.tables e below (T.setTop g) ((B.U.setTop { g with stack := rest }).pushFrame (.throwing q))) := by
  obtain ⟨mk, methM, cM, hnamed, hmethM, -, -, -, -, -, -, hsigM⟩ := Cond.codeWith_spec hcode
  have hstatic : methM.isStatic = true := Cond.static_spec hnamed hmethM hstat
  obtain ⟨kP, hkP, -⟩ := className_of_methodNamed hnamed
  have hinitP : kP.init = .initialized := Cond.initialized_spec (findClass_of_methodNamed hnamed) hkP hinit
  obtain ⟨vm₁, X₁, hstep₁⟩ := X.invokestatic hexec hown hlink hnamed hmethM hstatic hkP hinitP hy (g := g) hg (argsL := argsL) (rest := rest) (hlen _ hsigM) hstack hdg
  rcases hK m meth c ⟨T.setVm vm₁, locs, cells, slots⟩ { g with stack := rest } (.invokestatic index) mk argsL.toArray X₁ hg hsize hdg hW (X₁.named hnamed) (hpre vm₁ X₁.warmed) with ⟨v, B, X', hpost, hsteps⟩ | ⟨q, B, X', hpost, hsteps⟩
  · exact Or.inl ⟨v, vm₁, B, X₁.warmed, X', hpost, fun target h => hstep₁ _ fun acts => by rw [doInvoke_state]; exact hsteps.trans h⟩
  · exact Or.inr ⟨q, vm₁, B, X₁.warmed, X', hpost, hstep₁ _ fun acts => by rw [doInvoke_state]; exact hsteps⟩
theorem vx_callVW (X : Stand p l e R s m args below meth c T locs cells slots) (hexec : p.tables.exec = Jvm.exec) {own C : String} {index : Nat} {y : MethodName} {bytes : ByteArray} {maxL : Nat} {ret : Option FieldType} {hh : List (Nat × Nat × Nat × Nat)}
    (hown : s.vm.findClass own = some m.cls) (hlink : (Cond.methodLink own index y).before args s = true) (hinst : (Cond.instanceMethod y).before args s = true) (hsel : (Cond.selects C y y).before args s = true)
    (hcode : (Cond.codeWith y bytes maxL ret hh).before args s = true) (hy : y.cls ≠ "java/lang/invoke/MethodHandle" ∧ y.cls ≠ "java/lang/invoke/VarHandle")
    {W9 : Nat} {Pre : Pt → Array Value → Prop} {Post : Pt → Array Value → Option Value → Pt → Prop} (hK : Back l R p e below s args y 3 W9 Pre Post)
    {b : Addr} {cellB : Cell} (hcell : T.heap[b]? = some cellB) (hobj : cellB.vm.isStatics = false) (hcls : s.vm.findClass C = some cellB.cls)
    {g : JFrame} (hg : g.method = m) (hsize : g.locals.size = c.maxLocals) {argsL rest : List Value} (hlen : ∀ sig, parseMethodDescriptor y.desc = some sig → argsL.length = sig.parameters.length)
    (hstack : g.stack = argsL.reverse ++ .ref b :: rest) (hW : 2 * g.monitorRoom + (rest.map fun v => v.category).sum ≤ W9) (hdg : decode c.code g.pc = .ok (.invokevirtual index, 3))
    (hpre : ∀ vm₁, s.WarmedH vm₁ → Pre ⟨T.setVm vm₁, locs, cells, slots⟩ (Value.ref b :: argsL).toArray) :
    ∃ (v : Option Value) (vm₁ : Vm) (B : Pt), s.WarmedH vm₁ ∧ Stand p l e R s m args below meth c B.U B.locs B.cells B.slots ∧ Post ⟨T.setVm vm₁, locs, cells, slots⟩ (Value.ref b :: argsL).toArray v B ∧
      ∀ target, Steps p.tables e below (B.U.setTop { g with pc := g.pc + 3, stack := v.toList ++ rest }) target → Steps p.tables e below (T.setTop g) target := by
  obtain ⟨mk, methM, hnamed, hmethM, hstM, habM⟩ := Cond.instanceMethod_spec hinst
  obtain ⟨m8, methM', cM, hn8, hmethM', -, -, -, -, -, -, hsigM⟩ := Cond.codeWith_spec hcode
  cases Option.some.inj (hn8.symm.trans hnamed)
  cases hmethM.symm.trans hmethM'
  obtain ⟨c2, r2, m2, q1, q2, q3, q4, kP, hkP, hkPi⟩ := Cond.selects_spec hsel
  cases hcls.symm.trans q1
  cases (State.methodFound?_of_named hnamed hy).symm.trans q2
  cases hnamed.symm.trans q3
  have hselP : selectMethod e.platform s.vm cellB.cls mk = .method mk := by rw [Launch.admits_selectMethod X.admits]; exact q4
  obtain ⟨vm₁, X₁, hstep₁⟩ := X.invokevirtual hexec hown hlink hnamed hmethM hstM hkP hkPi hy (a := b) (cell := cellB) hcell
    (fun z h => by rw [h] at hobj; cases hobj) hselP hmethM habM hkP hkPi (g := g) hg (argsL := argsL) (rest := rest) (hlen _ hsigM) hstack hdg
  obtain ⟨v, B, X', hpost, hsteps⟩ := hK m meth c ⟨T.setVm vm₁, locs, cells, slots⟩ { g with stack := rest } (.invokevirtual index) mk (Value.ref b :: argsL).toArray X₁ hg hsize hdg hW (X₁.named hnamed) (hpre vm₁ X₁.warmed)
  exact ⟨v, vm₁, B, X₁.warmed, X', hpost, fun target h => hstep₁ _ fun acts => by rw [doInvoke_state]; exact hsteps.trans h⟩
abbrev vx_CVW (R : Room) (s : State) (args : Array Value) (own C : String) (index : Nat) (y : MethodName) (bytes : ByteArray) (maxL : Nat) (ret : Option FieldType) (hh : List (Nat × Nat × Nat × Nat)) (ws : List Cond) (rm : Room) (mc ms n : Nat) : Prop :=
  (rm.cells = mc ∧ rm.slots = ms ∧ rm.frames + 1 ≤ R.frames ∧ 8 + (maxL + 11) + rm.locals ≤ R.locals ∧ (∀ w ∈ ws, ∀ (a' : Array Value) (U : State), s.WarmedH U.vm → w.before a' U = true) ∧ Cond.codeWith y bytes maxL ret hh ∈ ws) ∧
  (Cond.codeWith y bytes maxL ret hh).before args s = true ∧ (Cond.initialized y.cls).before args s = true ∧ (y.cls ≠ "java/lang/invoke/MethodHandle" ∧ y.cls ≠ "java/lang/invoke/VarHandle") ∧
  (∀ sig, parseMethodDescriptor y.desc = some sig → n = sig.parameters.length) ∧ (Cond.methodLink own index y).before args s = true ∧ (Cond.instanceMethod y).before args s = true ∧ (Cond.selects C y y).before args s = true
theorem vx_cwVW {own C : String} {index maxL mc ms : Nat} {y : MethodName} {bytes : ByteArray} {ret : Option FieldType} {hh : List (Nat × Nat × Nat × Nat)} {Ts ws ws' : List Cond} {rm : Room} (n : Nat) (ht : ∀ w ∈ Ts, w.before args s = true) (hT : GoodIn Ts (wsV own index C y ws)) (hw : ws = Cond.codeWith y bytes maxL ret hh :: ws') (hrc : rm.cells = mc) (hrs : rm.slots = ms)
    (hd : y.cls = C ∧ y.cls ≠ "java/lang/invoke/MethodHandle" ∧ y.cls ≠ "java/lang/invoke/VarHandle" ∧ (parseMethodDescriptor y.desc).map (fun d => d.parameters.length) = some n) (hR : rm.frames + 1 ≤ R.frames ∧ 8 + (maxL + 11) + rm.locals ≤ R.locals) :
    vx_CVW R s args own C index y bytes maxL ret hh ws rm mc ms n := by
  obtain ⟨hC, hd⟩ := hd
  subst hC
  have ok : ∀ w ∈ wsV own index y.cls y ws, w.before args s = true := fun w h => ht w (hT w h).1
  have hG : GoodIn Ts ws := fun w h => hT w (by unfold wsV; exact List.mem_append_right _ h)
  have hc : Cond.codeWith y bytes maxL ret hh ∈ ws := by rw [hw]; exact List.mem_cons_self
  refine ⟨⟨hrc, hrs, hR.1, hR.2, pay_in ht hG, hc⟩, ht _ (hG _ hc).1, ok _ (by simp [wsV]), ⟨hd.1, hd.2.1⟩, fun sig h => ?_, ok _ (by simp [wsV]), ok _ (by simp [wsV]), ok _ (by simp [wsV])⟩
  have h2 := hd.2.2
  rw [h] at h2
  exact (Option.some.inj h2).symm
theorem vx_runVW {y : MethodName} {bytes cc : ByteArray} {maxL nL mc ms n index : Nat} {ret : Option FieldType} {hh : List (Nat × Nat × Nat × Nat)} {ws : List Cond} {rm : Room} {Pc : Array Value → State → Prop} {Qc : Array Value → State → Outcome → State → Prop} {free : Addr → Prop} {Ts : List Cond} {own C : String} {b : Addr} {As rest : List Value} {g : JFrame}
    (S : CallFix p m c cc nL s args Ts own) (hM : Met l y ws rm Pc Qc mc ms free) (cw : vx_CVW R s args own C index y bytes maxL ret hh ws rm mc ms n) (hp : PreV s H C b Pc As)
    (hg : g.method = m) (hn : As.length = n) (hsize : g.locals.size = nL) (hstack : g.stack = As.reverse ++ .ref b :: rest) (hW : 2 * g.monitorRoom + (rest.map fun v => v.category).sum ≤ 8) (hdg : decode cc g.pc = .ok (.invokevirtual index, 3)) (hf : cells + mc ≤ R.cells ∧ slots + ms ≤ R.slots) :
    va_Run p l e R s m args below meth c H locs cells slots mc ms g rest (Qc (Value.ref b :: As).toArray) free := by
  obtain ⟨⟨hrc, hrs, hfr, hlo, hws, hcw⟩, hcode, hini, hy, hlen, hl, hin, hse⟩ := cw
  have hK : Back l R p e below s args y 3 8 (PreOf R mc ms Pc) (PostOf Qc mc ms free) := va_backW (hh := hh) (bytes := bytes) (maxL := maxL) (ret := ret) hM hp.1 hrc hrs hfr hlo hws hcw (fun a' U hW => word_at hW (Or.inl (by first | rfl | simp [Cond.onTables, Cond.keeps, Cond.steady])) hini)
  obtain ⟨hx, hb, hml, ho, -⟩ := S
  obtain ⟨-, ⟨cellB, hcB, hoB, hclB⟩, hPc⟩ := hp
  intro T hT X
  obtain ⟨v, vm₁, ⟨U', l2, c2, s2⟩, hW₁, X', ⟨g', mk, t, L, e1, e2, hq, h1, hL, h2, h3⟩, st⟩ := vx_callVW X hx (C := C) (hh := hh) (bytes := bytes) (maxL := maxL) (ret := ret) ho hl hin hse hcode hy hK (by rw [hT]; exact hcB) hoB hclB hg (hsize.trans hml.symm) (argsL := As) (rest := rest) (fun sig h => hn.trans (hlen sig h)) hstack hW (by rw [hb]; exact hdg)
    (fun vm₁ hW₁ => ⟨hf.1, hf.2, hPc (T.setVm vm₁) hT hW₁⟩)
  dsimp only [Pt.U, Pt.locs, Pt.cells, Pt.slots] at X' e1 e2 h1 h2 h3 st
  subst h1; subst h2; subst h3
  exact ⟨v, (T.setVm vm₁).calling g' mk (Value.ref b :: As).toArray, t, U', L, hT, X', hL, e1, e2, hq, st⟩
section
variable {y : MethodName} {bytes cc : ByteArray} {maxL nL mc ms n index : Nat} {ret : Option FieldType} {ws : List Cond} {rm : Room} {Pc : Array Value → State → Prop} {Qc : Array Value → State → Outcome → State → Prop} {XC : String → State → State → Prop} {free : Addr → Prop} {Ts : List Cond} {own C : String} {b : Addr} {As rest : List Value} {g : JFrame}
theorem vx_runVX {hh : List (Nat × Nat × Nat × Nat)} (S : CallFix p m c cc nL s args Ts own) (hM : vx_Met l y ws rm Pc Qc XC mc ms free) (cw : vx_CVW R s args own C index y bytes maxL ret hh ws rm mc ms n) (hp : PreV s H C b Pc As)
    (hg : g.method = m) (hn : As.length = n) (hsize : g.locals.size = nL) (hstack : g.stack = As.reverse ++ .ref b :: rest) (hW : 2 * g.monitorRoom + (rest.map fun v => v.category).sum ≤ 8) (hdg : decode cc g.pc = .ok (.invokevirtual index, 3)) (hf : cells + mc ≤ R.cells ∧ slots + ms ≤ R.slots) :
    vx_Run p l e R s m args below meth c H locs cells slots mc ms g rest (Qc (Value.ref b :: As).toArray) XC free := by
  obtain ⟨⟨hrc, hrs, hfr, hlo, hws, hcw⟩, hcode, hini, hy, hlen, hl, hin, hse⟩ := cw
  have hK : vx_Back l R p e below s args y 3 8 (PreOf R mc ms Pc) (PostOf Qc mc ms free) (vx_Post XC mc ms free) := vx_backW (hh := hh) (bytes := bytes) (maxL := maxL) (ret := ret) hM hp.1 hrc hrs hfr hlo hws hcw (fun a' U hW => word_at hW (Or.inl (by first | rfl | simp [Cond.onTables, Cond.keeps, Cond.steady])) hini)
  obtain ⟨hx, hb, hml, ho, -⟩ := S
  obtain ⟨-, ⟨cellB, hcB, hoB, hclB⟩, hPc⟩ := hp
  intro T hT X
  rcases vx_callVX X hx (C := C) (hh := hh) (bytes := bytes) (maxL := maxL) (ret := ret) ho hl hin hse hcode hy hK (by rw [hT]; exact hcB) hoB hclB hg (hsize.trans hml.symm) (argsL := As) (rest := rest) (fun sig h => hn.trans (hlen sig h)) hstack hW (by rw [hb]; exact hdg)
    (fun vm₁ hW₁ => ⟨hf.1, hf.2, hPc (T.setVm vm₁) hT hW₁⟩) with ⟨v, vm₁, ⟨U', l2, c2, s2⟩, hW₁, X', ⟨g', mk, t, L, e1, e2, hq, h1, hL, h2, h3⟩, st⟩ | ⟨q, vm₁, ⟨U', l2, c2, s2⟩, hW₁, X', ⟨g', mk, t, L, E, ce, e1, e2, hq, hce, hcv, hcl, h1, hL, h2, h3⟩, st⟩
  · dsimp only [Pt.U, Pt.locs, Pt.cells, Pt.slots] at X' e1 e2 h1 h2 h3 st
    subst h1; subst h2; subst h3
    exact Or.inl ⟨v, (T.setVm vm₁).calling g' mk (Value.ref b :: As).toArray, t, U', L, hT, X', hL, e1, e2, hq, st⟩
  · dsimp only [Pt.U, Pt.locs, Pt.cells, Pt.slots] at X' e1 e2 h1 h2 h3 st hcl
    subst h1; subst h2; subst h3
    exact Or.inr ⟨q, (T.setVm vm₁).calling g' mk (Value.ref b :: As).toArray, t, U', L, E, ce, hT, X', hL, e1, e2, hq, hce, hcv, vx_cls hW₁ hcl, st⟩
theorem vx_runSX {hh : List (Nat × Nat × Nat × Nat)} (S : CallFix p m c cc nL s args Ts own) (hM : vx_Met l y ws rm Pc Qc XC mc ms free) (cw : vx_CSW R s args own index y bytes maxL ret hh ws rm mc ms n) (hp : PreS s H Pc As)
    (hg : g.method = m) (hn : As.length = n) (hsize : g.locals.size = nL) (hstack : g.stack = As.reverse ++ rest) (hW : 2 * g.monitorRoom + (rest.map fun v => v.category).sum ≤ 8) (hdg : decode cc g.pc = .ok (.invokestatic index, 3)) (hf : cells + mc ≤ R.cells ∧ slots + ms ≤ R.slots) :
    vx_Run p l e R s m args below meth c H locs cells slots mc ms g rest (Qc As.toArray) XC free := by
  obtain ⟨⟨hrc, hrs, hfr, hlo, hws, hcw⟩, hcode, hini, hy, hlen, hl, hstt⟩ := cw
  have hK : vx_Back l R p e below s args y 3 8 (PreOf R mc ms Pc) (PostOf Qc mc ms free) (vx_Post XC mc ms free) := vx_backW (hh := hh) (bytes := bytes) (maxL := maxL) (ret := ret) hM hp.1 hrc hrs hfr hlo hws hcw (fun a' U hW => word_at hW (Or.inl (by first | rfl | simp [Cond.onTables, Cond.keeps, Cond.steady])) hini)
  obtain ⟨hx, hb, hml, ho, -⟩ := S
  intro T hT X
  rcases vx_callSX X hx (hh := hh) (bytes := bytes) (maxL := maxL) (ret := ret) ho hl hstt hini hcode hy hK hg (hsize.trans hml.symm) (argsL := As) (rest := rest) (fun sig h => hn.trans (hlen sig h)) hstack hW (by rw [hb]; exact hdg)
    (fun vm₁ hW₁ => ⟨hf.1, hf.2, hp.2 (T.setVm vm₁) hT hW₁⟩) with ⟨v, vm₁, ⟨U', l2, c2, s2⟩, hW₁, X', ⟨g', mk, t, L, e1, e2, hq, h1, hL, h2, h3⟩, st⟩ | ⟨q, vm₁, ⟨U', l2, c2, s2⟩, hW₁, X', ⟨g', mk, t, L, E, ce, e1, e2, hq, hce, hcv, hcl, h1, hL, h2, h3⟩, st⟩
  · dsimp only [Pt.U, Pt.locs, Pt.cells, Pt.slots] at X' e1 e2 h1 h2 h3 st
    subst h1; subst h2; subst h3
    exact Or.inl ⟨v, (T.setVm vm₁).calling g' mk As.toArray, t, U', L, hT, X', hL, e1, e2, hq, st⟩
  · dsimp only [Pt.U, Pt.locs, Pt.cells, Pt.slots] at X' e1 e2 h1 h2 h3 st hcl
    subst h1; subst h2; subst h3
    exact Or.inr ⟨q, (T.setVm vm₁).calling g' mk As.toArray, t, U', L, E, ce, hT, X', hL, e1, e2, hq, hce, hcv, vx_cls hW₁ hcl, st⟩
end
end VXH
theorem vx_ofWH {l : Launch} {y : MethodName} {ws ws' : List Cond} {rm : Room} {Pc : Array Value → State → Prop} {Qc : Array Value → State → Outcome → State → Prop} {XC : String → State → State → Prop} {mc ms : Nat} {free : Addr → Prop} {cc : ByteArray} {maxL : Nat} {ret : Option FieldType} {hh : List (Nat × Nat × Nat × Nat)}
    (hy : plainName y.cls = true) (hw : ws = Cond.codeWith y cc maxL ret hh :: ws')
    (body : ∀ p e s m args below meth c s₁, BodyLoose p l y (headSpec ws rm) cc maxL ret e s m args below meth c s₁ → c.maxLocals = maxL → Pc args s →
      W p l e (headSpec ws rm).room s m args below meth c s.heap [] 0 0 (vx_MQ below Qc XC args s mc ms free) (entryFrame m args maxL)) : vx_Met l y ws rm Pc Qc XC mc ms free := by
  refine MetFree.of_bodyS (code := cc) (maxLocals := maxL) (ret := ret) hy ?_ ?_
  · intro args s m h hn
    obtain ⟨m9, meth, c, hn9, h1, h2, h3, h4, -, h5, h6, -⟩ := Cond.codeWith_spec (atoms_spec (ws := ws) h _ (by rw [hw]; exact List.mem_cons_self))
    cases hn.symm.trans hn9
    exact ⟨meth, c, h1, h2, h3, h4, h5, h6⟩
  · intro p e s m args below meth c s₁ B hml hP _
    have hh0 : s₁.heap = s.heap := by rw [B.state]; rfl
    obtain ⟨t, a1, o, b1, b2, b3⟩ := body p e s m args below meth c s₁ B hml hP s₁ hh0 (Stand.of_body B)
    exact ⟨t, o, a1, b1, b2, b3⟩
/-! ===== END ===== -/
end
section
def RX0 : String := "Pivotforge$Covers"
def TX0 : u_T := fun k => match k with
  | _ => ("", "", "", false)
def tyX0 : Nat → FieldType := fun k => match k with
  | _ => .int
abbrev wsX00 : List Cond := u_ws RX0 TX0 0
theorem nmX0 : ∀ a, a < 0 → ∀ b, b < 0 → a ≠ b → (TX0 a).2.1 ≠ (TX0 b).2.1 := by decide +kernel
theorem tyX0_ok : ∀ k, k < 0 → parseFieldDescriptor (TX0 k).2.2.1 = some (tyX0 k) := by decide +kernel
abbrev cX0_around : ByteArray := prog_2_method_2_code
def yX0_around : MethodName := ⟨RX0, "around", "(I)I"⟩
abbrev cX0_isOnRound : ByteArray := prog_2_method_3_code
def yX0_isOnRound : MethodName := ⟨RX0, "isOnRound", "(II)Z"⟩
abbrev cX0_columnsOf : ByteArray := prog_2_method_4_code
def yX0_columnsOf : MethodName := ⟨RX0, "columnsOf", "(II)I"⟩
abbrev cX0_fewestCovers : ByteArray := prog_2_method_5_code
def yX0_fewestCovers : MethodName := ⟨RX0, "fewestCovers", "(II)I"⟩
abbrev cX0_cornersOf : ByteArray := prog_2_method_6_code
def yX0_cornersOf : MethodName := ⟨RX0, "cornersOf", "(III)I"⟩
def RX1 : String := "Pivotforge$Embargo"
def TX1 : u_T := fun k => match k with
  | 0 => ("Pivotforge$Embargo", "table", "I", true)
  | 1 => ("Pivotforge$Embargo", "entry", "I", true)
  | 2 => ("Pivotforge$Embargo", "level", "I", true)
  | 3 => ("Pivotforge$Embargo", "end", "I", true)
  | _ => ("Pivotforge$Embargo", "lifted", "Z", false)
def tyX1 : Nat → FieldType := fun k => match k with
  | 0 => .int
  | 1 => .int
  | 2 => .int
  | 3 => .int
  | _ => .boolean
abbrev wsX10 : List Cond := u_ws RX1 TX1 5
theorem nmX1 : ∀ a, a < 5 → ∀ b, b < 5 → a ≠ b → (TX1 a).2.1 ≠ (TX1 b).2.1 := by decide +kernel
theorem tyX1_ok : ∀ k, k < 5 → parseFieldDescriptor (TX1 k).2.2.1 = some (tyX1 k) := by decide +kernel
abbrev cX1_init : ByteArray := prog_3_method_1_code
def yX1_init : MethodName := ⟨RX1, "<init>", "(IIII)V"⟩
abbrev cX1_lastsAt : ByteArray := prog_3_method_2_code
def yX1_lastsAt : MethodName := ⟨RX1, "lastsAt", "(I)Z"⟩
def RX2 : String := "Pivotforge$Equations"
def TX2 : u_T := fun k => match k with
  | _ => ("Pivotforge$Equations", "factors", "[[I", true)
def tyX2 : Nat → FieldType := fun k => match k with
  | _ => .array (.array .int)
abbrev wsX20 : List Cond := u_ws RX2 TX2 1
theorem nmX2 : ∀ a, a < 1 → ∀ b, b < 1 → a ≠ b → (TX2 a).2.1 ≠ (TX2 b).2.1 := by decide +kernel
theorem tyX2_ok : ∀ k, k < 1 → parseFieldDescriptor (TX2 k).2.2.1 = some (tyX2 k) := by decide +kernel
abbrev cX2_init : ByteArray := prog_4_method_1_code
def yX2_init : MethodName := ⟨RX2, "<init>", "()V"⟩
abbrev cX2_determine : ByteArray := prog_4_method_2_code
def yX2_determine : MethodName := ⟨RX2, "determine", "(II)Z"⟩
abbrev cX2_write : ByteArray := prog_4_method_3_code
def yX2_write : MethodName := ⟨RX2, "write", "(I)V"⟩
abbrev cX2_solve : ByteArray := prog_4_method_4_code
def yX2_solve : MethodName := ⟨RX2, "solve", "()V"⟩
abbrev cX2_unspentWith : ByteArray := prog_4_method_5_code
def yX2_unspentWith : MethodName := ⟨RX2, "unspentWith", "(II)I"⟩
abbrev cX2_removeFromOthers : ByteArray := prog_4_method_6_code
def yX2_removeFromOthers : MethodName := ⟨RX2, "removeFromOthers", "(II)V"⟩
abbrev cX2_tellsOnly : ByteArray := prog_4_method_7_code
def yX2_tellsOnly : MethodName := ⟨RX2, "tellsOnly", "(II)Z"⟩
def RX3 : String := "Pivotforge$Report"
def TX3 : u_T := fun k => match k with
  | 0 => ("Pivotforge$Report", "numbers", "[I", true)
  | 1 => ("Pivotforge$Report", "built", "Z", false)
  | 2 => ("Pivotforge$Report", "embargoed", "I", false)
  | 3 => ("Pivotforge$Report", "hidden", "I", false)
  | _ => ("Pivotforge$Report", "salesRead", "I", false)
def tyX3 : Nat → FieldType := fun k => match k with
  | 0 => .array .int
  | 1 => .boolean
  | 2 => .int
  | 3 => .int
  | _ => .int
abbrev wsX30 : List Cond := u_ws RX3 TX3 5
theorem nmX3 : ∀ a, a < 5 → ∀ b, b < 5 → a ≠ b → (TX3 a).2.1 ≠ (TX3 b).2.1 := by decide +kernel
theorem tyX3_ok : ∀ k, k < 5 → parseFieldDescriptor (TX3 k).2.2.1 = some (tyX3 k) := by decide +kernel
abbrev cX3_init : ByteArray := prog_5_method_1_code
def yX3_init : MethodName := ⟨RX3, "<init>", "()V"⟩
abbrev cX3_fill : ByteArray := prog_5_method_2_code
def yX3_fill : MethodName := ⟨RX3, "fill", "(LPivotforge$Table;II)V"⟩
def RX4 : String := "Pivotforge$Sale"
def TX4 : u_T := fun k => match k with
  | 0 => ("Pivotforge$Sale", "table", "I", true)
  | 1 => ("Pivotforge$Sale", "place", "I", true)
  | 2 => ("Pivotforge$Sale", "goods", "I", true)
  | 3 => ("Pivotforge$Sale", "amount", "I", true)
  | _ => ("Pivotforge$Sale", "takenBack", "Z", false)
def tyX4 : Nat → FieldType := fun k => match k with
  | 0 => .int
  | 1 => .int
  | 2 => .int
  | 3 => .int
  | _ => .boolean
abbrev wsX40 : List Cond := u_ws RX4 TX4 5
theorem nmX4 : ∀ a, a < 5 → ∀ b, b < 5 → a ≠ b → (TX4 a).2.1 ≠ (TX4 b).2.1 := by decide +kernel
theorem tyX4_ok : ∀ k, k < 5 → parseFieldDescriptor (TX4 k).2.2.1 = some (tyX4 k) := by decide +kernel
abbrev cX4_init : ByteArray := prog_6_method_1_code
def yX4_init : MethodName := ⟨RX4, "<init>", "(IIII)V"⟩
abbrev cX4_countsIn : ByteArray := prog_6_method_2_code
def yX4_countsIn : MethodName := ⟨RX4, "countsIn", "(I)Z"⟩
def RX5 : String := "Pivotforge$Table"
def TX5 : u_T := fun k => match k with
  | 0 => ("Pivotforge$Table", "sums", "[I", true)
  | 1 => ("Pivotforge$Table", "reports", "[LPivotforge$Report;", true)
  | 2 => ("Pivotforge$Table", "turned", "Z", false)
  | _ => ("Pivotforge$Table", "standingSales", "I", false)
def tyX5 : Nat → FieldType := fun k => match k with
  | 0 => .array .int
  | 1 => .array (.object "Pivotforge$Report")
  | 2 => .boolean
  | _ => .int
abbrev wsX50 : List Cond := u_ws RX5 TX5 4
theorem nmX5 : ∀ a, a < 4 → ∀ b, b < 4 → a ≠ b → (TX5 a).2.1 ≠ (TX5 b).2.1 := by decide +kernel
theorem tyX5_ok : ∀ k, k < 4 → parseFieldDescriptor (TX5 k).2.2.1 = some (tyX5 k) := by decide +kernel
abbrev cX5_init : ByteArray := prog_7_method_1_code
def yX5_init : MethodName := ⟨RX5, "<init>", "()V"⟩
abbrev cX5_enter : ByteArray := prog_7_method_2_code
def yX5_enter : MethodName := ⟨RX5, "enter", "(III)V"⟩
def RX6 : String := "Pivotforge"
def TX6 : u_T := fun k => match k with
  | 0 => ("Pivotforge", "tables", "[LPivotforge$Table;", true)
  | 1 => ("Pivotforge", "sales", "[LPivotforge$Sale;", true)
  | 2 => ("Pivotforge", "embargoes", "[LPivotforge$Embargo;", true)
  | 3 => ("Pivotforge", "equations", "LPivotforge$Equations;", true)
  | 4 => ("Pivotforge", "saleCount", "I", false)
  | 5 => ("Pivotforge", "embargoCount", "I", false)
  | 6 => ("Pivotforge", "now", "I", false)
  | 7 => ("Pivotforge", "droppedReports", "I", false)
  | _ => ("Pivotforge", "marked", "I", false)
def tyX6 : Nat → FieldType := fun k => match k with
  | 0 => .array (.object "Pivotforge$Table")
  | 1 => .array (.object "Pivotforge$Sale")
  | 2 => .array (.object "Pivotforge$Embargo")
  | 3 => .object "Pivotforge$Equations"
  | 4 => .int
  | 5 => .int
  | 6 => .int
  | 7 => .int
  | _ => .int
abbrev wsX60 : List Cond := u_ws RX6 TX6 9
theorem nmX6 : ∀ a, a < 9 → ∀ b, b < 9 → a ≠ b → (TX6 a).2.1 ≠ (TX6 b).2.1 := by decide +kernel
theorem tyX6_ok : ∀ k, k < 9 → parseFieldDescriptor (TX6 k).2.2.1 = some (tyX6 k) := by decide +kernel
abbrev cX6_init : ByteArray := prog_1_method_1_code
def yX6_init : MethodName := ⟨RX6, "<init>", "()V"⟩
abbrev cX6_sale : ByteArray := prog_1_method_2_code
def yX6_sale : MethodName := ⟨RX6, "sale", "(IIII)I"⟩
abbrev cX6_takeBack : ByteArray := prog_1_method_3_code
def yX6_takeBack : MethodName := ⟨RX6, "takeBack", "(I)I"⟩
abbrev cX6_turn : ByteArray := prog_1_method_4_code
def yX6_turn : MethodName := ⟨RX6, "turn", "(I)Z"⟩
abbrev cX6_sum : ByteArray := prog_1_method_5_code
def yX6_sum : MethodName := ⟨RX6, "sum", "(III)I"⟩
abbrev cX6_sumFromSales : ByteArray := prog_1_method_6_code
def yX6_sumFromSales : MethodName := ⟨RX6, "sumFromSales", "(III)I"⟩
abbrev cX6_embargo : ByteArray := prog_1_method_7_code
def yX6_embargo : MethodName := ⟨RX6, "embargo", "(IIIII)I"⟩
abbrev cX6_lift : ByteArray := prog_1_method_8_code
def yX6_lift : MethodName := ⟨RX6, "lift", "(I)I"⟩
abbrev cX6_isEmbargoed : ByteArray := prog_1_method_9_code
def yX6_isEmbargoed : MethodName := ⟨RX6, "isEmbargoed", "(IIII)Z"⟩
abbrev cX6_pass : ByteArray := prog_1_method_10_code
def yX6_pass : MethodName := ⟨RX6, "pass", "(I)I"⟩
abbrev cX6_build : ByteArray := prog_1_method_11_code
def yX6_build : MethodName := ⟨RX6, "build", "(II)I"⟩
abbrev cX6_isBuilt : ByteArray := prog_1_method_12_code
def yX6_isBuilt : MethodName := ⟨RX6, "isBuilt", "(II)Z"⟩
abbrev cX6_shown : ByteArray := prog_1_method_13_code
def yX6_shown : MethodName := ⟨RX6, "shown", "(IIII)I"⟩
abbrev cX6_why : ByteArray := prog_1_method_14_code
def yX6_why : MethodName := ⟨RX6, "why", "(IIII)I"⟩
abbrev cX6_read : ByteArray := prog_1_method_15_code
def yX6_read : MethodName := ⟨RX6, "read", "(II)I"⟩
abbrev cX6_dropped : ByteArray := prog_1_method_16_code
def yX6_dropped : MethodName := ⟨RX6, "dropped", "()I"⟩
abbrev cX6_mark : ByteArray := prog_1_method_17_code
def yX6_mark : MethodName := ⟨RX6, "mark", "(II)Z"⟩
abbrev cX6_clear : ByteArray := prog_1_method_18_code
def yX6_clear : MethodName := ⟨RX6, "clear", "()I"⟩
abbrev cX6_isKnown : ByteArray := prog_1_method_19_code
def yX6_isKnown : MethodName := ⟨RX6, "isKnown", "(II)Z"⟩
abbrev cX6_isKnownBySolving : ByteArray := prog_1_method_20_code
def yX6_isKnownBySolving : MethodName := ⟨RX6, "isKnownBySolving", "(II)Z"⟩
abbrev cX6_cover : ByteArray := prog_1_method_21_code
def yX6_cover : MethodName := ⟨RX6, "cover", "()I"⟩
abbrev cX6_tableAt : ByteArray := prog_1_method_22_code
def yX6_tableAt : MethodName := ⟨RX6, "tableAt", "(I)LPivotforge$Table;"⟩
abbrev cX6_reportAt : ByteArray := prog_1_method_23_code
def yX6_reportAt : MethodName := ⟨RX6, "reportAt", "(II)LPivotforge$Report;"⟩
abbrev cX6_refuseStrangeLevel : ByteArray := prog_1_method_24_code
def yX6_refuseStrangeLevel : MethodName := ⟨RX6, "refuseStrangeLevel", "(I)V"⟩
abbrev cX6_entryOfTable : ByteArray := prog_1_method_25_code
def yX6_entryOfTable : MethodName := ⟨RX6, "entryOfTable", "(III)I"⟩
abbrev cX6_entryAt : ByteArray := prog_1_method_26_code
def yX6_entryAt : MethodName := ⟨RX6, "entryAt", "(II)I"⟩
abbrev cX6_contains : ByteArray := prog_1_method_27_code
def yX6_contains : MethodName := ⟨RX6, "contains", "(II)Z"⟩
abbrev cX6_embargoedFor : ByteArray := prog_1_method_28_code
def yX6_embargoedFor : MethodName := ⟨RX6, "embargoedFor", "(II)I"⟩
abbrev cX6_dropBelow : ByteArray := prog_1_method_29_code
def yX6_dropBelow : MethodName := ⟨RX6, "dropBelow", "(LPivotforge$Table;I)V"⟩
def RX7 : String := "PivotforgeModel"
def TX7 : u_T := fun k => match k with
  | 0 => ("PivotforgeModel", "refusal", "I", false)
  | 1 => ("PivotforgeModel", "hour", "I", false)
  | 2 => ("PivotforgeModel", "sales", "I", false)
  | 3 => ("PivotforgeModel", "tableOf", "[I", true)
  | 4 => ("PivotforgeModel", "places", "[I", true)
  | 5 => ("PivotforgeModel", "goods", "[I", true)
  | 6 => ("PivotforgeModel", "amounts", "[I", true)
  | 7 => ("PivotforgeModel", "isBack", "[Z", true)
  | 8 => ("PivotforgeModel", "isTurned", "[Z", true)
  | 9 => ("PivotforgeModel", "embargoes", "I", false)
  | 10 => ("PivotforgeModel", "embargoTable", "[I", true)
  | 11 => ("PivotforgeModel", "embargoEntry", "[I", true)
  | 12 => ("PivotforgeModel", "embargoLevel", "[I", true)
  | 13 => ("PivotforgeModel", "embargoEnd", "[I", true)
  | 14 => ("PivotforgeModel", "isLifted", "[Z", true)
  | 15 => ("PivotforgeModel", "isThere", "[Z", true)
  | 16 => ("PivotforgeModel", "hides", "[I", true)
  | 17 => ("PivotforgeModel", "bars", "[I", true)
  | 18 => ("PivotforgeModel", "droppedSoFar", "I", false)
  | _ => ("PivotforgeModel", "marks", "I", false)
def tyX7 : Nat → FieldType := fun k => match k with
  | 0 => .int
  | 1 => .int
  | 2 => .int
  | 3 => .array .int
  | 4 => .array .int
  | 5 => .array .int
  | 6 => .array .int
  | 7 => .array .boolean
  | 8 => .array .boolean
  | 9 => .int
  | 10 => .array .int
  | 11 => .array .int
  | 12 => .array .int
  | 13 => .array .int
  | 14 => .array .boolean
  | 15 => .array .boolean
  | 16 => .array .int
  | 17 => .array .int
  | 18 => .int
  | _ => .int
abbrev wsX70 : List Cond := u_ws RX7 TX7 20
theorem nmX7 : ∀ a, a < 20 → ∀ b, b < 20 → a ≠ b → (TX7 a).2.1 ≠ (TX7 b).2.1 := by decide +kernel
theorem tyX7_ok : ∀ k, k < 20 → parseFieldDescriptor (TX7 k).2.2.1 = some (tyX7 k) := by decide +kernel
abbrev cX7_init : ByteArray := prog_9_method_1_code
def yX7_init : MethodName := ⟨RX7, "<init>", "()V"⟩
abbrev cX7_thrown : ByteArray := prog_9_method_2_code
def yX7_thrown : MethodName := ⟨RX7, "thrown", "()I"⟩
abbrev cX7_refused : ByteArray := prog_9_method_3_code
def yX7_refused : MethodName := ⟨RX7, "refused", "(I)Z"⟩
abbrev cX7_in : ByteArray := prog_9_method_4_code
def yX7_in : MethodName := ⟨RX7, "in", "(III)Z"⟩
abbrev cX7_isTable : ByteArray := prog_9_method_5_code
def yX7_isTable : MethodName := ⟨RX7, "isTable", "(I)Z"⟩
abbrev cX7_isLevel : ByteArray := prog_9_method_6_code
def yX7_isLevel : MethodName := ⟨RX7, "isLevel", "(I)Z"⟩
abbrev cX7_isEntry : ByteArray := prog_9_method_7_code
def yX7_isEntry : MethodName := ⟨RX7, "isEntry", "(II)Z"⟩
abbrev cX7_entryOf : ByteArray := prog_9_method_8_code
def yX7_entryOf : MethodName := ⟨RX7, "entryOf", "(III)I"⟩
abbrev cX7_bits : ByteArray := prog_9_method_9_code
def yX7_bits : MethodName := ⟨RX7, "bits", "(I)I"⟩
abbrev cX7_drop : ByteArray := prog_9_method_10_code
def yX7_drop : MethodName := ⟨RX7, "drop", "(II)I"⟩
abbrev cX7_sale : ByteArray := prog_9_method_11_code
def yX7_sale : MethodName := ⟨RX7, "sale", "(IIII)I"⟩
abbrev cX7_takeBack : ByteArray := prog_9_method_12_code
def yX7_takeBack : MethodName := ⟨RX7, "takeBack", "(I)I"⟩
abbrev cX7_turn : ByteArray := prog_9_method_13_code
def yX7_turn : MethodName := ⟨RX7, "turn", "(I)Z"⟩
abbrev cX7_sumOf : ByteArray := prog_9_method_14_code
def yX7_sumOf : MethodName := ⟨RX7, "sumOf", "(II)I"⟩
abbrev cX7_sum : ByteArray := prog_9_method_15_code
def yX7_sum : MethodName := ⟨RX7, "sum", "(III)I"⟩
abbrev cX7_sumFromSales : ByteArray := prog_9_method_16_code
def yX7_sumFromSales : MethodName := ⟨RX7, "sumFromSales", "(III)I"⟩
abbrev cX7_lasts : ByteArray := prog_9_method_17_code
def yX7_lasts : MethodName := ⟨RX7, "lasts", "(I)Z"⟩
abbrev cX7_embargo : ByteArray := prog_9_method_18_code
def yX7_embargo : MethodName := ⟨RX7, "embargo", "(IIIII)I"⟩
abbrev cX7_lift : ByteArray := prog_9_method_19_code
def yX7_lift : MethodName := ⟨RX7, "lift", "(I)I"⟩
abbrev cX7_barred : ByteArray := prog_9_method_20_code
def yX7_barred : MethodName := ⟨RX7, "barred", "(II)I"⟩
abbrev cX7_isEmbargoed : ByteArray := prog_9_method_21_code
def yX7_isEmbargoed : MethodName := ⟨RX7, "isEmbargoed", "(IIII)Z"⟩
abbrev cX7_pass : ByteArray := prog_9_method_22_code
def yX7_pass : MethodName := ⟨RX7, "pass", "(I)I"⟩
abbrev cX7_isFound : ByteArray := prog_9_method_23_code
def yX7_isFound : MethodName := ⟨RX7, "isFound", "(II)Z"⟩
abbrev cX7_covers : ByteArray := prog_9_method_24_code
def yX7_covers : MethodName := ⟨RX7, "covers", "(III)I"⟩
abbrev cX7_hidden : ByteArray := prog_9_method_25_code
def yX7_hidden : MethodName := ⟨RX7, "hidden", "(I)I"⟩
abbrev cX7_areBoth : ByteArray := prog_9_method_26_code
def yX7_areBoth : MethodName := ⟨RX7, "areBoth", "(II)Z"⟩
abbrev cX7_build : ByteArray := prog_9_method_27_code
def yX7_build : MethodName := ⟨RX7, "build", "(II)I"⟩
abbrev cX7_isBuilt : ByteArray := prog_9_method_28_code
def yX7_isBuilt : MethodName := ⟨RX7, "isBuilt", "(II)Z"⟩
abbrev cX7_shown : ByteArray := prog_9_method_29_code
def yX7_shown : MethodName := ⟨RX7, "shown", "(IIII)I"⟩
abbrev cX7_why : ByteArray := prog_9_method_30_code
def yX7_why : MethodName := ⟨RX7, "why", "(IIII)I"⟩
abbrev cX7_read : ByteArray := prog_9_method_31_code
def yX7_read : MethodName := ⟨RX7, "read", "(II)I"⟩
abbrev cX7_dropped : ByteArray := prog_9_method_32_code
def yX7_dropped : MethodName := ⟨RX7, "dropped", "()I"⟩
abbrev cX7_noEntry : ByteArray := prog_9_method_33_code
def yX7_noEntry : MethodName := ⟨RX7, "noEntry", "(II)Z"⟩
abbrev cX7_mark : ByteArray := prog_9_method_34_code
def yX7_mark : MethodName := ⟨RX7, "mark", "(II)Z"⟩
abbrev cX7_clear : ByteArray := prog_9_method_35_code
def yX7_clear : MethodName := ⟨RX7, "clear", "()I"⟩
abbrev cX7_isKnown : ByteArray := prog_9_method_36_code
def yX7_isKnown : MethodName := ⟨RX7, "isKnown", "(II)Z"⟩
abbrev cX7_isKnownBySolving : ByteArray := prog_9_method_37_code
def yX7_isKnownBySolving : MethodName := ⟨RX7, "isKnownBySolving", "(II)Z"⟩
abbrev cX7_cover : ByteArray := prog_9_method_38_code
def yX7_cover : MethodName := ⟨RX7, "cover", "()I"⟩
def RJ6 : String := "java/lang/Integer"
def TJ6 : u_T := fun k => match k with
  | _ => ("", "", "", false)
def tyJ6 : Nat → FieldType := fun k => match k with
  | _ => .int
theorem nmJ6 : ∀ a, a < 0 → ∀ b, b < 0 → a ≠ b → (TJ6 a).2.1 ≠ (TJ6 b).2.1 := by decide +kernel
theorem tyJ6_ok : ∀ k, k < 0 → parseFieldDescriptor (TJ6 k).2.2.1 = some (tyJ6 k) := by decide +kernel
abbrev cJ6_bitCount_0f7a4 : ByteArray := prog_14_method_49_code
def yJ6_bitCount_0f7a4 : MethodName := ⟨RJ6, "bitCount", "(I)I"⟩
def RJ0 : String := "java/lang/String"
def TJ0 : u_T := fun k => match k with
  | _ => ("", "", "", false)
def tyJ0 : Nat → FieldType := fun k => match k with
  | _ => .int
theorem nmJ0 : ∀ a, a < 0 → ∀ b, b < 0 → a ≠ b → (TJ0 a).2.1 ≠ (TJ0 b).2.1 := by decide +kernel
theorem tyJ0_ok : ∀ k, k < 0 → parseFieldDescriptor (TJ0 k).2.2.1 = some (tyJ0 k) := by decide +kernel
def RJ10 : String := "java/lang/System"
def TJ10 : u_T := fun k => match k with
  | _ => ("", "", "", false)
def tyJ10 : Nat → FieldType := fun k => match k with
  | _ => .int
theorem nmJ10 : ∀ a, a < 0 → ∀ b, b < 0 → a ≠ b → (TJ10 a).2.1 ≠ (TJ10 b).2.1 := by decide +kernel
theorem tyJ10_ok : ∀ k, k < 0 → parseFieldDescriptor (TJ10 k).2.2.1 = some (tyJ10 k) := by decide +kernel
def RL : String := "PivotforgeLaw"
abbrev cL_sale : ByteArray := method_3_code
def yL_sale : MethodName := ⟨RL, "sale", "(LPivotforge;IIII[J)I"⟩
abbrev cL_takeBack : ByteArray := method_4_code
def yL_takeBack : MethodName := ⟨RL, "takeBack", "(LPivotforge;I[J)I"⟩
abbrev cL_turn : ByteArray := method_5_code
def yL_turn : MethodName := ⟨RL, "turn", "(LPivotforge;I[J)I"⟩
abbrev cL_sum : ByteArray := method_6_code
def yL_sum : MethodName := ⟨RL, "sum", "(LPivotforge;III[J)I"⟩
abbrev cL_sumFromSales : ByteArray := method_7_code
def yL_sumFromSales : MethodName := ⟨RL, "sumFromSales", "(LPivotforge;III[J)I"⟩
abbrev cL_embargo : ByteArray := method_8_code
def yL_embargo : MethodName := ⟨RL, "embargo", "(LPivotforge;IIIII[J)I"⟩
abbrev cL_lift : ByteArray := method_9_code
def yL_lift : MethodName := ⟨RL, "lift", "(LPivotforge;I[J)I"⟩
abbrev cL_isEmbargoed : ByteArray := method_10_code
def yL_isEmbargoed : MethodName := ⟨RL, "isEmbargoed", "(LPivotforge;IIII[J)I"⟩
abbrev cL_pass : ByteArray := method_11_code
def yL_pass : MethodName := ⟨RL, "pass", "(LPivotforge;I[J)I"⟩
abbrev cL_build : ByteArray := method_12_code
def yL_build : MethodName := ⟨RL, "build", "(LPivotforge;II[J)I"⟩
abbrev cL_isBuilt : ByteArray := method_13_code
def yL_isBuilt : MethodName := ⟨RL, "isBuilt", "(LPivotforge;II[J)I"⟩
abbrev cL_shown : ByteArray := method_14_code
def yL_shown : MethodName := ⟨RL, "shown", "(LPivotforge;IIII[J)I"⟩
abbrev cL_why : ByteArray := method_15_code
def yL_why : MethodName := ⟨RL, "why", "(LPivotforge;IIII[J)I"⟩
abbrev cL_read : ByteArray := method_16_code
def yL_read : MethodName := ⟨RL, "read", "(LPivotforge;II[J)I"⟩
abbrev cL_mark : ByteArray := method_17_code
def yL_mark : MethodName := ⟨RL, "mark", "(LPivotforge;II[J)I"⟩
abbrev cL_isKnown : ByteArray := method_18_code
def yL_isKnown : MethodName := ⟨RL, "isKnown", "(LPivotforge;II[J)I"⟩
abbrev cL_isKnownBySolving : ByteArray := method_19_code
def yL_isKnownBySolving : MethodName := ⟨RL, "isKnownBySolving", "(LPivotforge;II[J)I"⟩
abbrev cL_law : ByteArray := code
def yL_law : MethodName := ⟨RL, "law", "([I)Z"⟩
abbrev vwCl : List vw_C := [(RX1, TX1, 5), (RX2, TX2, 1), (RX3, TX3, 5), (RX4, TX4, 5), (RX5, TX5, 4), (RX6, TX6, 9), (RX7, TX7, 20)]
end
section
theorem dX0_around_0 : decode cX0_around 0 = .ok (.iload_n 0, 1) := by decide +kernel
theorem dX0_around_1 : decode cX0_around 1 = .ok (.istore_n 1, 1) := by decide +kernel
theorem dX0_around_2 : decode cX0_around 2 = .ok (.iconst 0, 1) := by decide +kernel
theorem dX0_around_3 : decode cX0_around 3 = .ok (.istore_n 2, 1) := by decide +kernel
theorem dX0_around_4 : decode cX0_around 4 = .ok (.iload_n 2, 1) := by decide +kernel
theorem dX0_around_5 : decode cX0_around 5 = .ok (.bipush 30, 2) := by decide +kernel
theorem dX0_around_7 : decode cX0_around 7 = .ok (.if_icmp .ge 33, 3) := by decide +kernel
theorem dX0_around_10 : decode cX0_around 10 = .ok (.iload_n 0, 1) := by decide +kernel
theorem dX0_around_11 : decode cX0_around 11 = .ok (.iload_n 2, 1) := by decide +kernel
theorem dX0_around_12 : decode cX0_around 12 = .ok (.invokestatic 9, 3) := by decide +kernel
theorem dX0_around_15 : decode cX0_around 15 = .ok (.ifCond .eq 19, 3) := by decide +kernel
theorem dX0_around_18 : decode cX0_around 18 = .ok (.iload_n 1, 1) := by decide +kernel
theorem dX0_around_19 : decode cX0_around 19 = .ok (.iload_n 2, 1) := by decide +kernel
theorem dX0_around_20 : decode cX0_around 20 = .ok (.invokestatic 13, 3) := by decide +kernel
theorem dX0_around_23 : decode cX0_around 23 = .ok (.ifCond .ne 11, 3) := by decide +kernel
theorem dX0_around_26 : decode cX0_around 26 = .ok (.iload_n 1, 1) := by decide +kernel
theorem dX0_around_27 : decode cX0_around 27 = .ok (.iload_n 1, 1) := by decide +kernel
theorem dX0_around_28 : decode cX0_around 28 = .ok (.iload_n 2, 1) := by decide +kernel
theorem dX0_around_29 : decode cX0_around 29 = .ok (.invokestatic 18, 3) := by decide +kernel
theorem dX0_around_32 : decode cX0_around 32 = .ok (.ior, 1) := by decide +kernel
theorem dX0_around_33 : decode cX0_around 33 = .ok (.istore_n 1, 1) := by decide +kernel
theorem dX0_around_34 : decode cX0_around 34 = .ok (.iinc 2 1, 3) := by decide +kernel
theorem dX0_around_37 : decode cX0_around 37 = .ok (.goto (-33), 3) := by decide +kernel
theorem dX0_around_40 : decode cX0_around 40 = .ok (.iload_n 1, 1) := by decide +kernel
theorem dX0_around_41 : decode cX0_around 41 = .ok (.ireturn, 1) := by decide +kernel
theorem dX0_isOnRound_0 : decode cX0_isOnRound 0 = .ok (.iload_n 0, 1) := by decide +kernel
theorem dX0_isOnRound_1 : decode cX0_isOnRound 1 = .ok (.iconst 1, 1) := by decide +kernel
theorem dX0_isOnRound_2 : decode cX0_isOnRound 2 = .ok (.iload_n 1, 1) := by decide +kernel
theorem dX0_isOnRound_3 : decode cX0_isOnRound 3 = .ok (.ishl, 1) := by decide +kernel
theorem dX0_isOnRound_4 : decode cX0_isOnRound 4 = .ok (.iconst (-1), 1) := by decide +kernel
theorem dX0_isOnRound_5 : decode cX0_isOnRound 5 = .ok (.ixor, 1) := by decide +kernel
theorem dX0_isOnRound_6 : decode cX0_isOnRound 6 = .ok (.iand, 1) := by decide +kernel
theorem dX0_isOnRound_7 : decode cX0_isOnRound 7 = .ok (.istore_n 2, 1) := by decide +kernel
theorem dX0_isOnRound_8 : decode cX0_isOnRound 8 = .ok (.iload_n 2, 1) := by decide +kernel
theorem dX0_isOnRound_9 : decode cX0_isOnRound 9 = .ok (.iload_n 1, 1) := by decide +kernel
theorem dX0_isOnRound_10 : decode cX0_isOnRound 10 = .ok (.bipush 6, 2) := by decide +kernel
theorem dX0_isOnRound_12 : decode cX0_isOnRound 12 = .ok (.idiv, 1) := by decide +kernel
theorem dX0_isOnRound_13 : decode cX0_isOnRound 13 = .ok (.invokestatic 22, 3) := by decide +kernel
theorem dX0_isOnRound_16 : decode cX0_isOnRound 16 = .ok (.istore_n 3, 1) := by decide +kernel
theorem dX0_isOnRound_17 : decode cX0_isOnRound 17 = .ok (.iconst 0, 1) := by decide +kernel
theorem dX0_isOnRound_18 : decode cX0_isOnRound 18 = .ok (.istore 4, 2) := by decide +kernel
theorem dX0_isOnRound_20 : decode cX0_isOnRound 20 = .ok (.iload 4, 2) := by decide +kernel
theorem dX0_isOnRound_22 : decode cX0_isOnRound 22 = .ok (.iconst 5, 1) := by decide +kernel
theorem dX0_isOnRound_23 : decode cX0_isOnRound 23 = .ok (.if_icmp .ge 44, 3) := by decide +kernel
theorem dX0_isOnRound_26 : decode cX0_isOnRound 26 = .ok (.iconst 0, 1) := by decide +kernel
theorem dX0_isOnRound_27 : decode cX0_isOnRound 27 = .ok (.istore 5, 2) := by decide +kernel
theorem dX0_isOnRound_29 : decode cX0_isOnRound 29 = .ok (.iload 5, 2) := by decide +kernel
theorem dX0_isOnRound_31 : decode cX0_isOnRound 31 = .ok (.iconst 5, 1) := by decide +kernel
theorem dX0_isOnRound_32 : decode cX0_isOnRound 32 = .ok (.if_icmp .ge 29, 3) := by decide +kernel
theorem dX0_isOnRound_35 : decode cX0_isOnRound 35 = .ok (.iload_n 2, 1) := by decide +kernel
theorem dX0_isOnRound_36 : decode cX0_isOnRound 36 = .ok (.iload 5, 2) := by decide +kernel
theorem dX0_isOnRound_38 : decode cX0_isOnRound 38 = .ok (.invokestatic 22, 3) := by decide +kernel
theorem dX0_isOnRound_41 : decode cX0_isOnRound 41 = .ok (.istore 6, 2) := by decide +kernel
theorem dX0_isOnRound_43 : decode cX0_isOnRound 43 = .ok (.iload 6, 2) := by decide +kernel
theorem dX0_isOnRound_45 : decode cX0_isOnRound 45 = .ok (.iload_n 3, 1) := by decide +kernel
theorem dX0_isOnRound_46 : decode cX0_isOnRound 46 = .ok (.iand, 1) := by decide +kernel
theorem dX0_isOnRound_47 : decode cX0_isOnRound 47 = .ok (.ifCond .eq 8, 3) := by decide +kernel
theorem dX0_isOnRound_50 : decode cX0_isOnRound 50 = .ok (.iload_n 3, 1) := by decide +kernel
theorem dX0_isOnRound_51 : decode cX0_isOnRound 51 = .ok (.iload 6, 2) := by decide +kernel
theorem dX0_isOnRound_53 : decode cX0_isOnRound 53 = .ok (.ior, 1) := by decide +kernel
theorem dX0_isOnRound_54 : decode cX0_isOnRound 54 = .ok (.istore_n 3, 1) := by decide +kernel
theorem dX0_isOnRound_55 : decode cX0_isOnRound 55 = .ok (.iinc 5 1, 3) := by decide +kernel
theorem dX0_isOnRound_58 : decode cX0_isOnRound 58 = .ok (.goto (-29), 3) := by decide +kernel
theorem dX0_isOnRound_61 : decode cX0_isOnRound 61 = .ok (.iinc 4 1, 3) := by decide +kernel
theorem dX0_isOnRound_64 : decode cX0_isOnRound 64 = .ok (.goto (-44), 3) := by decide +kernel
theorem dX0_isOnRound_67 : decode cX0_isOnRound 67 = .ok (.iload_n 3, 1) := by decide +kernel
theorem dX0_isOnRound_68 : decode cX0_isOnRound 68 = .ok (.iload_n 1, 1) := by decide +kernel
theorem dX0_isOnRound_69 : decode cX0_isOnRound 69 = .ok (.bipush 6, 2) := by decide +kernel
theorem dX0_isOnRound_71 : decode cX0_isOnRound 71 = .ok (.irem, 1) := by decide +kernel
theorem dX0_isOnRound_72 : decode cX0_isOnRound 72 = .ok (.invokestatic 9, 3) := by decide +kernel
theorem dX0_isOnRound_75 : decode cX0_isOnRound 75 = .ok (.ireturn, 1) := by decide +kernel
theorem dX0_columnsOf_0 : decode cX0_columnsOf 0 = .ok (.iload_n 0, 1) := by decide +kernel
theorem dX0_columnsOf_1 : decode cX0_columnsOf 1 = .ok (.iload_n 1, 1) := by decide +kernel
theorem dX0_columnsOf_2 : decode cX0_columnsOf 2 = .ok (.bipush 6, 2) := by decide +kernel
theorem dX0_columnsOf_4 : decode cX0_columnsOf 4 = .ok (.imul, 1) := by decide +kernel
theorem dX0_columnsOf_5 : decode cX0_columnsOf 5 = .ok (.ishr, 1) := by decide +kernel
theorem dX0_columnsOf_6 : decode cX0_columnsOf 6 = .ok (.bipush 63, 2) := by decide +kernel
theorem dX0_columnsOf_8 : decode cX0_columnsOf 8 = .ok (.iand, 1) := by decide +kernel
theorem dX0_columnsOf_9 : decode cX0_columnsOf 9 = .ok (.ireturn, 1) := by decide +kernel
theorem dX0_fewestCovers_0 : decode cX0_fewestCovers 0 = .ok (.iconst 4, 1) := by decide +kernel
theorem dX0_fewestCovers_1 : decode cX0_fewestCovers 1 = .ok (.istore_n 2, 1) := by decide +kernel
theorem dX0_fewestCovers_2 : decode cX0_fewestCovers 2 = .ok (.iconst 0, 1) := by decide +kernel
theorem dX0_fewestCovers_3 : decode cX0_fewestCovers 3 = .ok (.istore_n 3, 1) := by decide +kernel
theorem dX0_fewestCovers_4 : decode cX0_fewestCovers 4 = .ok (.iconst 0, 1) := by decide +kernel
theorem dX0_fewestCovers_5 : decode cX0_fewestCovers 5 = .ok (.istore 4, 2) := by decide +kernel
theorem dX0_fewestCovers_7 : decode cX0_fewestCovers 7 = .ok (.iload 4, 2) := by decide +kernel
theorem dX0_fewestCovers_9 : decode cX0_fewestCovers 9 = .ok (.iconst 5, 1) := by decide +kernel
theorem dX0_fewestCovers_10 : decode cX0_fewestCovers 10 = .ok (.if_icmp .ge 76, 3) := by decide +kernel
theorem dX0_fewestCovers_13 : decode cX0_fewestCovers 13 = .ok (.iconst 0, 1) := by decide +kernel
theorem dX0_fewestCovers_14 : decode cX0_fewestCovers 14 = .ok (.istore 5, 2) := by decide +kernel
theorem dX0_fewestCovers_16 : decode cX0_fewestCovers 16 = .ok (.iload 5, 2) := by decide +kernel
theorem dX0_fewestCovers_18 : decode cX0_fewestCovers 18 = .ok (.bipush 6, 2) := by decide +kernel
theorem dX0_fewestCovers_20 : decode cX0_fewestCovers 20 = .ok (.if_icmp .ge 60, 3) := by decide +kernel
theorem dX0_fewestCovers_23 : decode cX0_fewestCovers 23 = .ok (.iload 4, 2) := by decide +kernel
theorem dX0_fewestCovers_25 : decode cX0_fewestCovers 25 = .ok (.iload_n 1, 1) := by decide +kernel
theorem dX0_fewestCovers_26 : decode cX0_fewestCovers 26 = .ok (.bipush 6, 2) := by decide +kernel
theorem dX0_fewestCovers_28 : decode cX0_fewestCovers 28 = .ok (.idiv, 1) := by decide +kernel
theorem dX0_fewestCovers_29 : decode cX0_fewestCovers 29 = .ok (.if_icmp .eq 45, 3) := by decide +kernel
theorem dX0_fewestCovers_32 : decode cX0_fewestCovers 32 = .ok (.iload 5, 2) := by decide +kernel
theorem dX0_fewestCovers_34 : decode cX0_fewestCovers 34 = .ok (.iload_n 1, 1) := by decide +kernel
theorem dX0_fewestCovers_35 : decode cX0_fewestCovers 35 = .ok (.bipush 6, 2) := by decide +kernel
theorem dX0_fewestCovers_37 : decode cX0_fewestCovers 37 = .ok (.irem, 1) := by decide +kernel
theorem dX0_fewestCovers_38 : decode cX0_fewestCovers 38 = .ok (.if_icmp .eq 36, 3) := by decide +kernel
theorem dX0_fewestCovers_41 : decode cX0_fewestCovers 41 = .ok (.iload_n 1, 1) := by decide +kernel
theorem dX0_fewestCovers_42 : decode cX0_fewestCovers 42 = .ok (.iload 4, 2) := by decide +kernel
theorem dX0_fewestCovers_44 : decode cX0_fewestCovers 44 = .ok (.iload 5, 2) := by decide +kernel
theorem dX0_fewestCovers_46 : decode cX0_fewestCovers 46 = .ok (.invokestatic 25, 3) := by decide +kernel
theorem dX0_fewestCovers_49 : decode cX0_fewestCovers 49 = .ok (.istore 6, 2) := by decide +kernel
theorem dX0_fewestCovers_51 : decode cX0_fewestCovers 51 = .ok (.iload 6, 2) := by decide +kernel
theorem dX0_fewestCovers_53 : decode cX0_fewestCovers 53 = .ok (.iload_n 0, 1) := by decide +kernel
theorem dX0_fewestCovers_54 : decode cX0_fewestCovers 54 = .ok (.iconst (-1), 1) := by decide +kernel
theorem dX0_fewestCovers_55 : decode cX0_fewestCovers 55 = .ok (.ixor, 1) := by decide +kernel
theorem dX0_fewestCovers_56 : decode cX0_fewestCovers 56 = .ok (.iand, 1) := by decide +kernel
theorem dX0_fewestCovers_57 : decode cX0_fewestCovers 57 = .ok (.invokestatic 29, 3) := by decide +kernel
theorem dX0_fewestCovers_60 : decode cX0_fewestCovers 60 = .ok (.istore 7, 2) := by decide +kernel
theorem dX0_fewestCovers_62 : decode cX0_fewestCovers 62 = .ok (.iload 7, 2) := by decide +kernel
theorem dX0_fewestCovers_64 : decode cX0_fewestCovers 64 = .ok (.iload_n 2, 1) := by decide +kernel
theorem dX0_fewestCovers_65 : decode cX0_fewestCovers 65 = .ok (.if_icmp .ge 9, 3) := by decide +kernel
theorem dX0_fewestCovers_68 : decode cX0_fewestCovers 68 = .ok (.iload 7, 2) := by decide +kernel
theorem dX0_fewestCovers_70 : decode cX0_fewestCovers 70 = .ok (.istore_n 2, 1) := by decide +kernel
theorem dX0_fewestCovers_71 : decode cX0_fewestCovers 71 = .ok (.iload 6, 2) := by decide +kernel
theorem dX0_fewestCovers_73 : decode cX0_fewestCovers 73 = .ok (.istore_n 3, 1) := by decide +kernel
theorem dX0_fewestCovers_74 : decode cX0_fewestCovers 74 = .ok (.iinc 5 1, 3) := by decide +kernel
theorem dX0_fewestCovers_77 : decode cX0_fewestCovers 77 = .ok (.goto (-61), 3) := by decide +kernel
theorem dX0_fewestCovers_80 : decode cX0_fewestCovers 80 = .ok (.iinc 4 1, 3) := by decide +kernel
theorem dX0_fewestCovers_83 : decode cX0_fewestCovers 83 = .ok (.goto (-76), 3) := by decide +kernel
theorem dX0_fewestCovers_86 : decode cX0_fewestCovers 86 = .ok (.iload_n 3, 1) := by decide +kernel
theorem dX0_fewestCovers_87 : decode cX0_fewestCovers 87 = .ok (.ireturn, 1) := by decide +kernel
theorem dX0_cornersOf_0 : decode cX0_cornersOf 0 = .ok (.iload_n 0, 1) := by decide +kernel
theorem dX0_cornersOf_1 : decode cX0_cornersOf 1 = .ok (.bipush 6, 2) := by decide +kernel
theorem dX0_cornersOf_3 : decode cX0_cornersOf 3 = .ok (.idiv, 1) := by decide +kernel
theorem dX0_cornersOf_4 : decode cX0_cornersOf 4 = .ok (.bipush 6, 2) := by decide +kernel
theorem dX0_cornersOf_6 : decode cX0_cornersOf 6 = .ok (.imul, 1) := by decide +kernel
theorem dX0_cornersOf_7 : decode cX0_cornersOf 7 = .ok (.iload_n 2, 1) := by decide +kernel
theorem dX0_cornersOf_8 : decode cX0_cornersOf 8 = .ok (.iadd, 1) := by decide +kernel
theorem dX0_cornersOf_9 : decode cX0_cornersOf 9 = .ok (.istore_n 3, 1) := by decide +kernel
theorem dX0_cornersOf_10 : decode cX0_cornersOf 10 = .ok (.iload_n 1, 1) := by decide +kernel
theorem dX0_cornersOf_11 : decode cX0_cornersOf 11 = .ok (.bipush 6, 2) := by decide +kernel
theorem dX0_cornersOf_13 : decode cX0_cornersOf 13 = .ok (.imul, 1) := by decide +kernel
theorem dX0_cornersOf_14 : decode cX0_cornersOf 14 = .ok (.iload_n 0, 1) := by decide +kernel
theorem dX0_cornersOf_15 : decode cX0_cornersOf 15 = .ok (.bipush 6, 2) := by decide +kernel
theorem dX0_cornersOf_17 : decode cX0_cornersOf 17 = .ok (.irem, 1) := by decide +kernel
theorem dX0_cornersOf_18 : decode cX0_cornersOf 18 = .ok (.iadd, 1) := by decide +kernel
theorem dX0_cornersOf_19 : decode cX0_cornersOf 19 = .ok (.istore 4, 2) := by decide +kernel
theorem dX0_cornersOf_21 : decode cX0_cornersOf 21 = .ok (.iload_n 1, 1) := by decide +kernel
theorem dX0_cornersOf_22 : decode cX0_cornersOf 22 = .ok (.bipush 6, 2) := by decide +kernel
theorem dX0_cornersOf_24 : decode cX0_cornersOf 24 = .ok (.imul, 1) := by decide +kernel
theorem dX0_cornersOf_25 : decode cX0_cornersOf 25 = .ok (.iload_n 2, 1) := by decide +kernel
theorem dX0_cornersOf_26 : decode cX0_cornersOf 26 = .ok (.iadd, 1) := by decide +kernel
theorem dX0_cornersOf_27 : decode cX0_cornersOf 27 = .ok (.istore 5, 2) := by decide +kernel
theorem dX0_cornersOf_29 : decode cX0_cornersOf 29 = .ok (.iconst 1, 1) := by decide +kernel
theorem dX0_cornersOf_30 : decode cX0_cornersOf 30 = .ok (.iload_n 3, 1) := by decide +kernel
theorem dX0_cornersOf_31 : decode cX0_cornersOf 31 = .ok (.ishl, 1) := by decide +kernel
theorem dX0_cornersOf_32 : decode cX0_cornersOf 32 = .ok (.iconst 1, 1) := by decide +kernel
theorem dX0_cornersOf_33 : decode cX0_cornersOf 33 = .ok (.iload 4, 2) := by decide +kernel
theorem dX0_cornersOf_35 : decode cX0_cornersOf 35 = .ok (.ishl, 1) := by decide +kernel
theorem dX0_cornersOf_36 : decode cX0_cornersOf 36 = .ok (.ior, 1) := by decide +kernel
theorem dX0_cornersOf_37 : decode cX0_cornersOf 37 = .ok (.iconst 1, 1) := by decide +kernel
theorem dX0_cornersOf_38 : decode cX0_cornersOf 38 = .ok (.iload 5, 2) := by decide +kernel
theorem dX0_cornersOf_40 : decode cX0_cornersOf 40 = .ok (.ishl, 1) := by decide +kernel
theorem dX0_cornersOf_41 : decode cX0_cornersOf 41 = .ok (.ior, 1) := by decide +kernel
theorem dX0_cornersOf_42 : decode cX0_cornersOf 42 = .ok (.ireturn, 1) := by decide +kernel
theorem dX1_init_0 : decode cX1_init 0 = .ok (.aload_n 0, 1) := by decide +kernel
theorem dX1_init_1 : decode cX1_init 1 = .ok (.invokespecial 1, 3) := by decide +kernel
theorem dX1_init_4 : decode cX1_init 4 = .ok (.aload_n 0, 1) := by decide +kernel
theorem dX1_init_5 : decode cX1_init 5 = .ok (.iload_n 1, 1) := by decide +kernel
theorem dX1_init_6 : decode cX1_init 6 = .ok (.putfield 7, 3) := by decide +kernel
theorem dX1_init_9 : decode cX1_init 9 = .ok (.aload_n 0, 1) := by decide +kernel
theorem dX1_init_10 : decode cX1_init 10 = .ok (.iload_n 2, 1) := by decide +kernel
theorem dX1_init_11 : decode cX1_init 11 = .ok (.putfield 13, 3) := by decide +kernel
theorem dX1_init_14 : decode cX1_init 14 = .ok (.aload_n 0, 1) := by decide +kernel
theorem dX1_init_15 : decode cX1_init 15 = .ok (.iload_n 3, 1) := by decide +kernel
theorem dX1_init_16 : decode cX1_init 16 = .ok (.putfield 16, 3) := by decide +kernel
theorem dX1_init_19 : decode cX1_init 19 = .ok (.aload_n 0, 1) := by decide +kernel
theorem dX1_init_20 : decode cX1_init 20 = .ok (.iload 4, 2) := by decide +kernel
theorem dX1_init_22 : decode cX1_init 22 = .ok (.putfield 19, 3) := by decide +kernel
theorem dX1_init_25 : decode cX1_init 25 = .ok (.return_, 1) := by decide +kernel
theorem dX1_lastsAt_0 : decode cX1_lastsAt 0 = .ok (.aload_n 0, 1) := by decide +kernel
theorem dX1_lastsAt_1 : decode cX1_lastsAt 1 = .ok (.getfield 22, 3) := by decide +kernel
theorem dX1_lastsAt_4 : decode cX1_lastsAt 4 = .ok (.ifCond .ne 15, 3) := by decide +kernel
theorem dX1_lastsAt_7 : decode cX1_lastsAt 7 = .ok (.iload_n 1, 1) := by decide +kernel
theorem dX1_lastsAt_8 : decode cX1_lastsAt 8 = .ok (.aload_n 0, 1) := by decide +kernel
theorem dX1_lastsAt_9 : decode cX1_lastsAt 9 = .ok (.getfield 19, 3) := by decide +kernel
theorem dX1_lastsAt_12 : decode cX1_lastsAt 12 = .ok (.if_icmp .ge 7, 3) := by decide +kernel
theorem dX1_lastsAt_15 : decode cX1_lastsAt 15 = .ok (.iconst 1, 1) := by decide +kernel
theorem dX1_lastsAt_16 : decode cX1_lastsAt 16 = .ok (.goto 4, 3) := by decide +kernel
theorem dX1_lastsAt_19 : decode cX1_lastsAt 19 = .ok (.iconst 0, 1) := by decide +kernel
theorem dX1_lastsAt_20 : decode cX1_lastsAt 20 = .ok (.ireturn, 1) := by decide +kernel
theorem dX2_init_0 : decode cX2_init 0 = .ok (.aload_n 0, 1) := by decide +kernel
theorem dX2_init_1 : decode cX2_init 1 = .ok (.invokespecial 3, 3) := by decide +kernel
theorem dX2_init_4 : decode cX2_init 4 = .ok (.aload_n 0, 1) := by decide +kernel
theorem dX2_init_5 : decode cX2_init 5 = .ok (.bipush 11, 2) := by decide +kernel
theorem dX2_init_7 : decode cX2_init 7 = .ok (.bipush 30, 2) := by decide +kernel
theorem dX2_init_9 : decode cX2_init 9 = .ok (.multianewarray 11 2, 4) := by decide +kernel
theorem dX2_init_13 : decode cX2_init 13 = .ok (.putfield 13, 3) := by decide +kernel
theorem dX2_init_16 : decode cX2_init 16 = .ok (.return_, 1) := by decide +kernel
theorem dX2_determine_0 : decode cX2_determine 0 = .ok (.aload_n 0, 1) := by decide +kernel
theorem dX2_determine_1 : decode cX2_determine 1 = .ok (.iload_n 1, 1) := by decide +kernel
theorem dX2_determine_2 : decode cX2_determine 2 = .ok (.invokevirtual 16, 3) := by decide +kernel
theorem dX2_determine_5 : decode cX2_determine 5 = .ok (.aload_n 0, 1) := by decide +kernel
theorem dX2_determine_6 : decode cX2_determine 6 = .ok (.invokevirtual 20, 3) := by decide +kernel
theorem dX2_determine_9 : decode cX2_determine 9 = .ok (.iconst 0, 1) := by decide +kernel
theorem dX2_determine_10 : decode cX2_determine 10 = .ok (.istore_n 3, 1) := by decide +kernel
theorem dX2_determine_11 : decode cX2_determine 11 = .ok (.iload_n 3, 1) := by decide +kernel
theorem dX2_determine_12 : decode cX2_determine 12 = .ok (.bipush 11, 2) := by decide +kernel
theorem dX2_determine_14 : decode cX2_determine 14 = .ok (.if_icmp .ge 20, 3) := by decide +kernel
theorem dX2_determine_17 : decode cX2_determine 17 = .ok (.aload_n 0, 1) := by decide +kernel
theorem dX2_determine_18 : decode cX2_determine 18 = .ok (.iload_n 3, 1) := by decide +kernel
theorem dX2_determine_19 : decode cX2_determine 19 = .ok (.iload_n 2, 1) := by decide +kernel
theorem dX2_determine_20 : decode cX2_determine 20 = .ok (.invokevirtual 23, 3) := by decide +kernel
theorem dX2_determine_23 : decode cX2_determine 23 = .ok (.ifCond .eq 5, 3) := by decide +kernel
theorem dX2_determine_26 : decode cX2_determine 26 = .ok (.iconst 1, 1) := by decide +kernel
theorem dX2_determine_27 : decode cX2_determine 27 = .ok (.ireturn, 1) := by decide +kernel
theorem dX2_determine_28 : decode cX2_determine 28 = .ok (.iinc 3 1, 3) := by decide +kernel
theorem dX2_determine_31 : decode cX2_determine 31 = .ok (.goto (-20), 3) := by decide +kernel
theorem dX2_determine_34 : decode cX2_determine 34 = .ok (.iconst 0, 1) := by decide +kernel
theorem dX2_determine_35 : decode cX2_determine 35 = .ok (.ireturn, 1) := by decide +kernel
theorem dX2_write_0 : decode cX2_write 0 = .ok (.iconst 0, 1) := by decide +kernel
theorem dX2_write_1 : decode cX2_write 1 = .ok (.istore_n 2, 1) := by decide +kernel
theorem dX2_write_2 : decode cX2_write 2 = .ok (.iload_n 2, 1) := by decide +kernel
theorem dX2_write_3 : decode cX2_write 3 = .ok (.bipush 30, 2) := by decide +kernel
theorem dX2_write_5 : decode cX2_write 5 = .ok (.if_icmp .ge 94, 3) := by decide +kernel
theorem dX2_write_8 : decode cX2_write 8 = .ok (.iload_n 2, 1) := by decide +kernel
theorem dX2_write_9 : decode cX2_write 9 = .ok (.bipush 6, 2) := by decide +kernel
theorem dX2_write_11 : decode cX2_write 11 = .ok (.idiv, 1) := by decide +kernel
theorem dX2_write_12 : decode cX2_write 12 = .ok (.istore_n 3, 1) := by decide +kernel
theorem dX2_write_13 : decode cX2_write 13 = .ok (.iload_n 2, 1) := by decide +kernel
theorem dX2_write_14 : decode cX2_write 14 = .ok (.bipush 6, 2) := by decide +kernel
theorem dX2_write_16 : decode cX2_write 16 = .ok (.irem, 1) := by decide +kernel
theorem dX2_write_17 : decode cX2_write 17 = .ok (.istore 4, 2) := by decide +kernel
theorem dX2_write_19 : decode cX2_write 19 = .ok (.iconst 0, 1) := by decide +kernel
theorem dX2_write_20 : decode cX2_write 20 = .ok (.istore 5, 2) := by decide +kernel
theorem dX2_write_22 : decode cX2_write 22 = .ok (.iload 5, 2) := by decide +kernel
theorem dX2_write_24 : decode cX2_write 24 = .ok (.bipush 11, 2) := by decide +kernel
theorem dX2_write_26 : decode cX2_write 26 = .ok (.if_icmp .ge 19, 3) := by decide +kernel
theorem dX2_write_29 : decode cX2_write 29 = .ok (.aload_n 0, 1) := by decide +kernel
theorem dX2_write_30 : decode cX2_write 30 = .ok (.getfield 13, 3) := by decide +kernel
theorem dX2_write_33 : decode cX2_write 33 = .ok (.iload 5, 2) := by decide +kernel
theorem dX2_write_35 : decode cX2_write 35 = .ok (.aaload, 1) := by decide +kernel
theorem dX2_write_36 : decode cX2_write 36 = .ok (.iload_n 2, 1) := by decide +kernel
theorem dX2_write_37 : decode cX2_write 37 = .ok (.iconst 0, 1) := by decide +kernel
theorem dX2_write_38 : decode cX2_write 38 = .ok (.iastore, 1) := by decide +kernel
theorem dX2_write_39 : decode cX2_write 39 = .ok (.iinc 5 1, 3) := by decide +kernel
theorem dX2_write_42 : decode cX2_write 42 = .ok (.goto (-20), 3) := by decide +kernel
theorem dX2_write_45 : decode cX2_write 45 = .ok (.iload_n 1, 1) := by decide +kernel
theorem dX2_write_46 : decode cX2_write 46 = .ok (.iload_n 2, 1) := by decide +kernel
theorem dX2_write_47 : decode cX2_write 47 = .ok (.invokestatic 27, 3) := by decide +kernel
theorem dX2_write_50 : decode cX2_write 50 = .ok (.ifCond .eq 43, 3) := by decide +kernel
theorem dX2_write_53 : decode cX2_write 53 = .ok (.aload_n 0, 1) := by decide +kernel
theorem dX2_write_54 : decode cX2_write 54 = .ok (.getfield 13, 3) := by decide +kernel
theorem dX2_write_57 : decode cX2_write 57 = .ok (.iload_n 3, 1) := by decide +kernel
theorem dX2_write_58 : decode cX2_write 58 = .ok (.aaload, 1) := by decide +kernel
theorem dX2_write_59 : decode cX2_write 59 = .ok (.iload_n 2, 1) := by decide +kernel
theorem dX2_write_60 : decode cX2_write 60 = .ok (.iload 4, 2) := by decide +kernel
theorem dX2_write_62 : decode cX2_write 62 = .ok (.iconst 5, 1) := by decide +kernel
theorem dX2_write_63 : decode cX2_write 63 = .ok (.if_icmp .ne 7, 3) := by decide +kernel
theorem dX2_write_66 : decode cX2_write 66 = .ok (.iconst (-1), 1) := by decide +kernel
theorem dX2_write_67 : decode cX2_write 67 = .ok (.goto 4, 3) := by decide +kernel
theorem dX2_write_70 : decode cX2_write 70 = .ok (.iconst 1, 1) := by decide +kernel
theorem dX2_write_71 : decode cX2_write 71 = .ok (.iastore, 1) := by decide +kernel
theorem dX2_write_72 : decode cX2_write 72 = .ok (.aload_n 0, 1) := by decide +kernel
theorem dX2_write_73 : decode cX2_write 73 = .ok (.getfield 13, 3) := by decide +kernel
theorem dX2_write_76 : decode cX2_write 76 = .ok (.iconst 5, 1) := by decide +kernel
theorem dX2_write_77 : decode cX2_write 77 = .ok (.iload 4, 2) := by decide +kernel
theorem dX2_write_79 : decode cX2_write 79 = .ok (.iadd, 1) := by decide +kernel
theorem dX2_write_80 : decode cX2_write 80 = .ok (.aaload, 1) := by decide +kernel
theorem dX2_write_81 : decode cX2_write 81 = .ok (.iload_n 2, 1) := by decide +kernel
theorem dX2_write_82 : decode cX2_write 82 = .ok (.iload_n 3, 1) := by decide +kernel
theorem dX2_write_83 : decode cX2_write 83 = .ok (.iconst 4, 1) := by decide +kernel
theorem dX2_write_84 : decode cX2_write 84 = .ok (.if_icmp .ne 7, 3) := by decide +kernel
theorem dX2_write_87 : decode cX2_write 87 = .ok (.iconst (-1), 1) := by decide +kernel
theorem dX2_write_88 : decode cX2_write 88 = .ok (.goto 4, 3) := by decide +kernel
theorem dX2_write_91 : decode cX2_write 91 = .ok (.iconst 1, 1) := by decide +kernel
theorem dX2_write_92 : decode cX2_write 92 = .ok (.iastore, 1) := by decide +kernel
theorem dX2_write_93 : decode cX2_write 93 = .ok (.iinc 2 1, 3) := by decide +kernel
theorem dX2_write_96 : decode cX2_write 96 = .ok (.goto (-94), 3) := by decide +kernel
theorem dX2_write_99 : decode cX2_write 99 = .ok (.return_, 1) := by decide +kernel
theorem dX2_solve_0 : decode cX2_solve 0 = .ok (.iconst 0, 1) := by decide +kernel
theorem dX2_solve_1 : decode cX2_solve 1 = .ok (.istore_n 1, 1) := by decide +kernel
theorem dX2_solve_2 : decode cX2_solve 2 = .ok (.iconst 0, 1) := by decide +kernel
theorem dX2_solve_3 : decode cX2_solve 3 = .ok (.istore_n 2, 1) := by decide +kernel
theorem dX2_solve_4 : decode cX2_solve 4 = .ok (.iload_n 2, 1) := by decide +kernel
theorem dX2_solve_5 : decode cX2_solve 5 = .ok (.bipush 30, 2) := by decide +kernel
theorem dX2_solve_7 : decode cX2_solve 7 = .ok (.if_icmp .ge 34, 3) := by decide +kernel
theorem dX2_solve_10 : decode cX2_solve 10 = .ok (.aload_n 0, 1) := by decide +kernel
theorem dX2_solve_11 : decode cX2_solve 11 = .ok (.iload_n 2, 1) := by decide +kernel
theorem dX2_solve_12 : decode cX2_solve 12 = .ok (.iload_n 1, 1) := by decide +kernel
theorem dX2_solve_13 : decode cX2_solve 13 = .ok (.invokevirtual 30, 3) := by decide +kernel
theorem dX2_solve_16 : decode cX2_solve 16 = .ok (.istore_n 3, 1) := by decide +kernel
theorem dX2_solve_17 : decode cX2_solve 17 = .ok (.iload_n 3, 1) := by decide +kernel
theorem dX2_solve_18 : decode cX2_solve 18 = .ok (.bipush 11, 2) := by decide +kernel
theorem dX2_solve_20 : decode cX2_solve 20 = .ok (.if_icmp .ge 15, 3) := by decide +kernel
theorem dX2_solve_23 : decode cX2_solve 23 = .ok (.iload_n 1, 1) := by decide +kernel
theorem dX2_solve_24 : decode cX2_solve 24 = .ok (.iconst 1, 1) := by decide +kernel
theorem dX2_solve_25 : decode cX2_solve 25 = .ok (.iload_n 3, 1) := by decide +kernel
theorem dX2_solve_26 : decode cX2_solve 26 = .ok (.ishl, 1) := by decide +kernel
theorem dX2_solve_27 : decode cX2_solve 27 = .ok (.ior, 1) := by decide +kernel
theorem dX2_solve_28 : decode cX2_solve 28 = .ok (.istore_n 1, 1) := by decide +kernel
theorem dX2_solve_29 : decode cX2_solve 29 = .ok (.aload_n 0, 1) := by decide +kernel
theorem dX2_solve_30 : decode cX2_solve 30 = .ok (.iload_n 2, 1) := by decide +kernel
theorem dX2_solve_31 : decode cX2_solve 31 = .ok (.iload_n 3, 1) := by decide +kernel
theorem dX2_solve_32 : decode cX2_solve 32 = .ok (.invokevirtual 34, 3) := by decide +kernel
theorem dX2_solve_35 : decode cX2_solve 35 = .ok (.iinc 2 1, 3) := by decide +kernel
theorem dX2_solve_38 : decode cX2_solve 38 = .ok (.goto (-34), 3) := by decide +kernel
theorem dX2_solve_41 : decode cX2_solve 41 = .ok (.return_, 1) := by decide +kernel
theorem dX2_unspentWith_0 : decode cX2_unspentWith 0 = .ok (.iconst 0, 1) := by decide +kernel
theorem dX2_unspentWith_1 : decode cX2_unspentWith 1 = .ok (.istore_n 3, 1) := by decide +kernel
theorem dX2_unspentWith_2 : decode cX2_unspentWith 2 = .ok (.iload_n 3, 1) := by decide +kernel
theorem dX2_unspentWith_3 : decode cX2_unspentWith 3 = .ok (.bipush 11, 2) := by decide +kernel
theorem dX2_unspentWith_5 : decode cX2_unspentWith 5 = .ok (.if_icmp .ge 30, 3) := by decide +kernel
theorem dX2_unspentWith_8 : decode cX2_unspentWith 8 = .ok (.iload_n 2, 1) := by decide +kernel
theorem dX2_unspentWith_9 : decode cX2_unspentWith 9 = .ok (.iload_n 3, 1) := by decide +kernel
theorem dX2_unspentWith_10 : decode cX2_unspentWith 10 = .ok (.invokestatic 27, 3) := by decide +kernel
theorem dX2_unspentWith_13 : decode cX2_unspentWith 13 = .ok (.ifCond .ne 16, 3) := by decide +kernel
theorem dX2_unspentWith_16 : decode cX2_unspentWith 16 = .ok (.aload_n 0, 1) := by decide +kernel
theorem dX2_unspentWith_17 : decode cX2_unspentWith 17 = .ok (.getfield 13, 3) := by decide +kernel
theorem dX2_unspentWith_20 : decode cX2_unspentWith 20 = .ok (.iload_n 3, 1) := by decide +kernel
theorem dX2_unspentWith_21 : decode cX2_unspentWith 21 = .ok (.aaload, 1) := by decide +kernel
theorem dX2_unspentWith_22 : decode cX2_unspentWith 22 = .ok (.iload_n 1, 1) := by decide +kernel
theorem dX2_unspentWith_23 : decode cX2_unspentWith 23 = .ok (.iaload, 1) := by decide +kernel
theorem dX2_unspentWith_24 : decode cX2_unspentWith 24 = .ok (.ifCond .eq 5, 3) := by decide +kernel
theorem dX2_unspentWith_27 : decode cX2_unspentWith 27 = .ok (.iload_n 3, 1) := by decide +kernel
theorem dX2_unspentWith_28 : decode cX2_unspentWith 28 = .ok (.ireturn, 1) := by decide +kernel
theorem dX2_unspentWith_29 : decode cX2_unspentWith 29 = .ok (.iinc 3 1, 3) := by decide +kernel
theorem dX2_unspentWith_32 : decode cX2_unspentWith 32 = .ok (.goto (-30), 3) := by decide +kernel
theorem dX2_unspentWith_35 : decode cX2_unspentWith 35 = .ok (.bipush 11, 2) := by decide +kernel
theorem dX2_unspentWith_37 : decode cX2_unspentWith 37 = .ok (.ireturn, 1) := by decide +kernel
theorem dX2_removeFromOthers_0 : decode cX2_removeFromOthers 0 = .ok (.aload_n 0, 1) := by decide +kernel
theorem dX2_removeFromOthers_1 : decode cX2_removeFromOthers 1 = .ok (.getfield 13, 3) := by decide +kernel
theorem dX2_removeFromOthers_4 : decode cX2_removeFromOthers 4 = .ok (.iload_n 2, 1) := by decide +kernel
theorem dX2_removeFromOthers_5 : decode cX2_removeFromOthers 5 = .ok (.aaload, 1) := by decide +kernel
theorem dX2_removeFromOthers_6 : decode cX2_removeFromOthers 6 = .ok (.iload_n 1, 1) := by decide +kernel
theorem dX2_removeFromOthers_7 : decode cX2_removeFromOthers 7 = .ok (.iaload, 1) := by decide +kernel
theorem dX2_removeFromOthers_8 : decode cX2_removeFromOthers 8 = .ok (.istore_n 3, 1) := by decide +kernel
theorem dX2_removeFromOthers_9 : decode cX2_removeFromOthers 9 = .ok (.iconst 0, 1) := by decide +kernel
theorem dX2_removeFromOthers_10 : decode cX2_removeFromOthers 10 = .ok (.istore 4, 2) := by decide +kernel
theorem dX2_removeFromOthers_12 : decode cX2_removeFromOthers 12 = .ok (.iload 4, 2) := by decide +kernel
theorem dX2_removeFromOthers_14 : decode cX2_removeFromOthers 14 = .ok (.bipush 11, 2) := by decide +kernel
theorem dX2_removeFromOthers_16 : decode cX2_removeFromOthers 16 = .ok (.if_icmp .ge 82, 3) := by decide +kernel
theorem dX2_removeFromOthers_19 : decode cX2_removeFromOthers 19 = .ok (.aload_n 0, 1) := by decide +kernel
theorem dX2_removeFromOthers_20 : decode cX2_removeFromOthers 20 = .ok (.getfield 13, 3) := by decide +kernel
theorem dX2_removeFromOthers_23 : decode cX2_removeFromOthers 23 = .ok (.iload 4, 2) := by decide +kernel
theorem dX2_removeFromOthers_25 : decode cX2_removeFromOthers 25 = .ok (.aaload, 1) := by decide +kernel
theorem dX2_removeFromOthers_26 : decode cX2_removeFromOthers 26 = .ok (.iload_n 1, 1) := by decide +kernel
theorem dX2_removeFromOthers_27 : decode cX2_removeFromOthers 27 = .ok (.iaload, 1) := by decide +kernel
theorem dX2_removeFromOthers_28 : decode cX2_removeFromOthers 28 = .ok (.istore 5, 2) := by decide +kernel
theorem dX2_removeFromOthers_30 : decode cX2_removeFromOthers 30 = .ok (.iload 4, 2) := by decide +kernel
theorem dX2_removeFromOthers_32 : decode cX2_removeFromOthers 32 = .ok (.iload_n 2, 1) := by decide +kernel
theorem dX2_removeFromOthers_33 : decode cX2_removeFromOthers 33 = .ok (.if_icmp .eq 59, 3) := by decide +kernel
theorem dX2_removeFromOthers_36 : decode cX2_removeFromOthers 36 = .ok (.iload 5, 2) := by decide +kernel
theorem dX2_removeFromOthers_38 : decode cX2_removeFromOthers 38 = .ok (.ifCond .eq 54, 3) := by decide +kernel
theorem dX2_removeFromOthers_41 : decode cX2_removeFromOthers 41 = .ok (.iconst 0, 1) := by decide +kernel
theorem dX2_removeFromOthers_42 : decode cX2_removeFromOthers 42 = .ok (.istore 6, 2) := by decide +kernel
theorem dX2_removeFromOthers_44 : decode cX2_removeFromOthers 44 = .ok (.iload 6, 2) := by decide +kernel
theorem dX2_removeFromOthers_46 : decode cX2_removeFromOthers 46 = .ok (.bipush 30, 2) := by decide +kernel
theorem dX2_removeFromOthers_48 : decode cX2_removeFromOthers 48 = .ok (.if_icmp .ge 44, 3) := by decide +kernel
theorem dX2_removeFromOthers_51 : decode cX2_removeFromOthers 51 = .ok (.aload_n 0, 1) := by decide +kernel
theorem dX2_removeFromOthers_52 : decode cX2_removeFromOthers 52 = .ok (.getfield 13, 3) := by decide +kernel
theorem dX2_removeFromOthers_55 : decode cX2_removeFromOthers 55 = .ok (.iload 4, 2) := by decide +kernel
theorem dX2_removeFromOthers_57 : decode cX2_removeFromOthers 57 = .ok (.aaload, 1) := by decide +kernel
theorem dX2_removeFromOthers_58 : decode cX2_removeFromOthers 58 = .ok (.iload 6, 2) := by decide +kernel
theorem dX2_removeFromOthers_60 : decode cX2_removeFromOthers 60 = .ok (.aload_n 0, 1) := by decide +kernel
theorem dX2_removeFromOthers_61 : decode cX2_removeFromOthers 61 = .ok (.getfield 13, 3) := by decide +kernel
theorem dX2_removeFromOthers_64 : decode cX2_removeFromOthers 64 = .ok (.iload 4, 2) := by decide +kernel
theorem dX2_removeFromOthers_66 : decode cX2_removeFromOthers 66 = .ok (.aaload, 1) := by decide +kernel
theorem dX2_removeFromOthers_67 : decode cX2_removeFromOthers 67 = .ok (.iload 6, 2) := by decide +kernel
theorem dX2_removeFromOthers_69 : decode cX2_removeFromOthers 69 = .ok (.iaload, 1) := by decide +kernel
theorem dX2_removeFromOthers_70 : decode cX2_removeFromOthers 70 = .ok (.iload_n 3, 1) := by decide +kernel
theorem dX2_removeFromOthers_71 : decode cX2_removeFromOthers 71 = .ok (.imul, 1) := by decide +kernel
theorem dX2_removeFromOthers_72 : decode cX2_removeFromOthers 72 = .ok (.aload_n 0, 1) := by decide +kernel
theorem dX2_removeFromOthers_73 : decode cX2_removeFromOthers 73 = .ok (.getfield 13, 3) := by decide +kernel
theorem dX2_removeFromOthers_76 : decode cX2_removeFromOthers 76 = .ok (.iload_n 2, 1) := by decide +kernel
theorem dX2_removeFromOthers_77 : decode cX2_removeFromOthers 77 = .ok (.aaload, 1) := by decide +kernel
theorem dX2_removeFromOthers_78 : decode cX2_removeFromOthers 78 = .ok (.iload 6, 2) := by decide +kernel
theorem dX2_removeFromOthers_80 : decode cX2_removeFromOthers 80 = .ok (.iaload, 1) := by decide +kernel
theorem dX2_removeFromOthers_81 : decode cX2_removeFromOthers 81 = .ok (.iload 5, 2) := by decide +kernel
theorem dX2_removeFromOthers_83 : decode cX2_removeFromOthers 83 = .ok (.imul, 1) := by decide +kernel
theorem dX2_removeFromOthers_84 : decode cX2_removeFromOthers 84 = .ok (.isub, 1) := by decide +kernel
theorem dX2_removeFromOthers_85 : decode cX2_removeFromOthers 85 = .ok (.iastore, 1) := by decide +kernel
theorem dX2_removeFromOthers_86 : decode cX2_removeFromOthers 86 = .ok (.iinc 6 1, 3) := by decide +kernel
theorem dX2_removeFromOthers_89 : decode cX2_removeFromOthers 89 = .ok (.goto (-45), 3) := by decide +kernel
theorem dX2_removeFromOthers_92 : decode cX2_removeFromOthers 92 = .ok (.iinc 4 1, 3) := by decide +kernel
theorem dX2_removeFromOthers_95 : decode cX2_removeFromOthers 95 = .ok (.goto (-83), 3) := by decide +kernel
theorem dX2_removeFromOthers_98 : decode cX2_removeFromOthers 98 = .ok (.return_, 1) := by decide +kernel
theorem dX2_tellsOnly_0 : decode cX2_tellsOnly 0 = .ok (.iconst 0, 1) := by decide +kernel
theorem dX2_tellsOnly_1 : decode cX2_tellsOnly 1 = .ok (.istore_n 3, 1) := by decide +kernel
theorem dX2_tellsOnly_2 : decode cX2_tellsOnly 2 = .ok (.iload_n 3, 1) := by decide +kernel
theorem dX2_tellsOnly_3 : decode cX2_tellsOnly 3 = .ok (.bipush 30, 2) := by decide +kernel
theorem dX2_tellsOnly_5 : decode cX2_tellsOnly 5 = .ok (.if_icmp .ge 27, 3) := by decide +kernel
theorem dX2_tellsOnly_8 : decode cX2_tellsOnly 8 = .ok (.iload_n 3, 1) := by decide +kernel
theorem dX2_tellsOnly_9 : decode cX2_tellsOnly 9 = .ok (.iload_n 2, 1) := by decide +kernel
theorem dX2_tellsOnly_10 : decode cX2_tellsOnly 10 = .ok (.if_icmp .eq 16, 3) := by decide +kernel
theorem dX2_tellsOnly_13 : decode cX2_tellsOnly 13 = .ok (.aload_n 0, 1) := by decide +kernel
theorem dX2_tellsOnly_14 : decode cX2_tellsOnly 14 = .ok (.getfield 13, 3) := by decide +kernel
theorem dX2_tellsOnly_17 : decode cX2_tellsOnly 17 = .ok (.iload_n 1, 1) := by decide +kernel
theorem dX2_tellsOnly_18 : decode cX2_tellsOnly 18 = .ok (.aaload, 1) := by decide +kernel
theorem dX2_tellsOnly_19 : decode cX2_tellsOnly 19 = .ok (.iload_n 3, 1) := by decide +kernel
theorem dX2_tellsOnly_20 : decode cX2_tellsOnly 20 = .ok (.iaload, 1) := by decide +kernel
theorem dX2_tellsOnly_21 : decode cX2_tellsOnly 21 = .ok (.ifCond .eq 5, 3) := by decide +kernel
theorem dX2_tellsOnly_24 : decode cX2_tellsOnly 24 = .ok (.iconst 0, 1) := by decide +kernel
theorem dX2_tellsOnly_25 : decode cX2_tellsOnly 25 = .ok (.ireturn, 1) := by decide +kernel
theorem dX2_tellsOnly_26 : decode cX2_tellsOnly 26 = .ok (.iinc 3 1, 3) := by decide +kernel
theorem dX2_tellsOnly_29 : decode cX2_tellsOnly 29 = .ok (.goto (-27), 3) := by decide +kernel
theorem dX2_tellsOnly_32 : decode cX2_tellsOnly 32 = .ok (.aload_n 0, 1) := by decide +kernel
theorem dX2_tellsOnly_33 : decode cX2_tellsOnly 33 = .ok (.getfield 13, 3) := by decide +kernel
theorem dX2_tellsOnly_36 : decode cX2_tellsOnly 36 = .ok (.iload_n 1, 1) := by decide +kernel
theorem dX2_tellsOnly_37 : decode cX2_tellsOnly 37 = .ok (.aaload, 1) := by decide +kernel
theorem dX2_tellsOnly_38 : decode cX2_tellsOnly 38 = .ok (.iload_n 2, 1) := by decide +kernel
theorem dX2_tellsOnly_39 : decode cX2_tellsOnly 39 = .ok (.iaload, 1) := by decide +kernel
theorem dX2_tellsOnly_40 : decode cX2_tellsOnly 40 = .ok (.ifCond .eq 7, 3) := by decide +kernel
theorem dX2_tellsOnly_43 : decode cX2_tellsOnly 43 = .ok (.iconst 1, 1) := by decide +kernel
theorem dX2_tellsOnly_44 : decode cX2_tellsOnly 44 = .ok (.goto 4, 3) := by decide +kernel
theorem dX2_tellsOnly_47 : decode cX2_tellsOnly 47 = .ok (.iconst 0, 1) := by decide +kernel
theorem dX2_tellsOnly_48 : decode cX2_tellsOnly 48 = .ok (.ireturn, 1) := by decide +kernel
theorem dX3_init_0 : decode cX3_init 0 = .ok (.aload_n 0, 1) := by decide +kernel
theorem dX3_init_1 : decode cX3_init 1 = .ok (.invokespecial 3, 3) := by decide +kernel
theorem dX3_init_4 : decode cX3_init 4 = .ok (.aload_n 0, 1) := by decide +kernel
theorem dX3_init_5 : decode cX3_init 5 = .ok (.bipush 30, 2) := by decide +kernel
theorem dX3_init_7 : decode cX3_init 7 = .ok (.newarray .int, 2) := by decide +kernel
theorem dX3_init_9 : decode cX3_init 9 = .ok (.putfield 9, 3) := by decide +kernel
theorem dX3_init_12 : decode cX3_init 12 = .ok (.return_, 1) := by decide +kernel
theorem dX3_fill_0 : decode cX3_fill 0 = .ok (.aload_n 1, 1) := by decide +kernel
theorem dX3_fill_1 : decode cX3_fill 1 = .ok (.getfield 15, 3) := by decide +kernel
theorem dX3_fill_4 : decode cX3_fill 4 = .ok (.iconst 0, 1) := by decide +kernel
theorem dX3_fill_5 : decode cX3_fill 5 = .ok (.aload_n 0, 1) := by decide +kernel
theorem dX3_fill_6 : decode cX3_fill 6 = .ok (.getfield 9, 3) := by decide +kernel
theorem dX3_fill_9 : decode cX3_fill 9 = .ok (.iconst 0, 1) := by decide +kernel
theorem dX3_fill_10 : decode cX3_fill 10 = .ok (.bipush 30, 2) := by decide +kernel
theorem dX3_fill_12 : decode cX3_fill 12 = .ok (.invokestatic 20, 3) := by decide +kernel
theorem dX3_fill_15 : decode cX3_fill 15 = .ok (.aload_n 0, 1) := by decide +kernel
theorem dX3_fill_16 : decode cX3_fill 16 = .ok (.iload_n 2, 1) := by decide +kernel
theorem dX3_fill_17 : decode cX3_fill 17 = .ok (.putfield 26, 3) := by decide +kernel
theorem dX3_fill_20 : decode cX3_fill 20 = .ok (.aload_n 0, 1) := by decide +kernel
theorem dX3_fill_21 : decode cX3_fill 21 = .ok (.iload_n 3, 1) := by decide +kernel
theorem dX3_fill_22 : decode cX3_fill 22 = .ok (.putfield 30, 3) := by decide +kernel
theorem dX3_fill_25 : decode cX3_fill 25 = .ok (.aload_n 0, 1) := by decide +kernel
theorem dX3_fill_26 : decode cX3_fill 26 = .ok (.aload_n 1, 1) := by decide +kernel
theorem dX3_fill_27 : decode cX3_fill 27 = .ok (.getfield 33, 3) := by decide +kernel
theorem dX3_fill_30 : decode cX3_fill 30 = .ok (.putfield 36, 3) := by decide +kernel
theorem dX3_fill_33 : decode cX3_fill 33 = .ok (.aload_n 0, 1) := by decide +kernel
theorem dX3_fill_34 : decode cX3_fill 34 = .ok (.iconst 1, 1) := by decide +kernel
theorem dX3_fill_35 : decode cX3_fill 35 = .ok (.putfield 39, 3) := by decide +kernel
theorem dX3_fill_38 : decode cX3_fill 38 = .ok (.return_, 1) := by decide +kernel
theorem dX4_init_0 : decode cX4_init 0 = .ok (.aload_n 0, 1) := by decide +kernel
theorem dX4_init_1 : decode cX4_init 1 = .ok (.invokespecial 3, 3) := by decide +kernel
theorem dX4_init_4 : decode cX4_init 4 = .ok (.aload_n 0, 1) := by decide +kernel
theorem dX4_init_5 : decode cX4_init 5 = .ok (.iload_n 1, 1) := by decide +kernel
theorem dX4_init_6 : decode cX4_init 6 = .ok (.putfield 9, 3) := by decide +kernel
theorem dX4_init_9 : decode cX4_init 9 = .ok (.aload_n 0, 1) := by decide +kernel
theorem dX4_init_10 : decode cX4_init 10 = .ok (.iload_n 2, 1) := by decide +kernel
theorem dX4_init_11 : decode cX4_init 11 = .ok (.putfield 15, 3) := by decide +kernel
theorem dX4_init_14 : decode cX4_init 14 = .ok (.aload_n 0, 1) := by decide +kernel
theorem dX4_init_15 : decode cX4_init 15 = .ok (.iload_n 3, 1) := by decide +kernel
theorem dX4_init_16 : decode cX4_init 16 = .ok (.putfield 18, 3) := by decide +kernel
theorem dX4_init_19 : decode cX4_init 19 = .ok (.aload_n 0, 1) := by decide +kernel
theorem dX4_init_20 : decode cX4_init 20 = .ok (.iload 4, 2) := by decide +kernel
theorem dX4_init_22 : decode cX4_init 22 = .ok (.putfield 21, 3) := by decide +kernel
theorem dX4_init_25 : decode cX4_init 25 = .ok (.return_, 1) := by decide +kernel
theorem dX4_countsIn_0 : decode cX4_countsIn 0 = .ok (.iload_n 1, 1) := by decide +kernel
theorem dX4_countsIn_1 : decode cX4_countsIn 1 = .ok (.bipush 6, 2) := by decide +kernel
theorem dX4_countsIn_3 : decode cX4_countsIn 3 = .ok (.idiv, 1) := by decide +kernel
theorem dX4_countsIn_4 : decode cX4_countsIn 4 = .ok (.istore_n 2, 1) := by decide +kernel
theorem dX4_countsIn_5 : decode cX4_countsIn 5 = .ok (.iload_n 1, 1) := by decide +kernel
theorem dX4_countsIn_6 : decode cX4_countsIn 6 = .ok (.bipush 6, 2) := by decide +kernel
theorem dX4_countsIn_8 : decode cX4_countsIn 8 = .ok (.irem, 1) := by decide +kernel
theorem dX4_countsIn_9 : decode cX4_countsIn 9 = .ok (.istore_n 3, 1) := by decide +kernel
theorem dX4_countsIn_10 : decode cX4_countsIn 10 = .ok (.aload_n 0, 1) := by decide +kernel
theorem dX4_countsIn_11 : decode cX4_countsIn 11 = .ok (.getfield 24, 3) := by decide +kernel
theorem dX4_countsIn_14 : decode cX4_countsIn 14 = .ok (.ifCond .ne 33, 3) := by decide +kernel
theorem dX4_countsIn_17 : decode cX4_countsIn 17 = .ok (.iload_n 2, 1) := by decide +kernel
theorem dX4_countsIn_18 : decode cX4_countsIn 18 = .ok (.iconst 4, 1) := by decide +kernel
theorem dX4_countsIn_19 : decode cX4_countsIn 19 = .ok (.if_icmp .eq 11, 3) := by decide +kernel
theorem dX4_countsIn_22 : decode cX4_countsIn 22 = .ok (.iload_n 2, 1) := by decide +kernel
theorem dX4_countsIn_23 : decode cX4_countsIn 23 = .ok (.aload_n 0, 1) := by decide +kernel
theorem dX4_countsIn_24 : decode cX4_countsIn 24 = .ok (.getfield 15, 3) := by decide +kernel
theorem dX4_countsIn_27 : decode cX4_countsIn 27 = .ok (.if_icmp .ne 20, 3) := by decide +kernel
theorem dX4_countsIn_30 : decode cX4_countsIn 30 = .ok (.iload_n 3, 1) := by decide +kernel
theorem dX4_countsIn_31 : decode cX4_countsIn 31 = .ok (.iconst 5, 1) := by decide +kernel
theorem dX4_countsIn_32 : decode cX4_countsIn 32 = .ok (.if_icmp .eq 11, 3) := by decide +kernel
theorem dX4_countsIn_35 : decode cX4_countsIn 35 = .ok (.iload_n 3, 1) := by decide +kernel
theorem dX4_countsIn_36 : decode cX4_countsIn 36 = .ok (.aload_n 0, 1) := by decide +kernel
theorem dX4_countsIn_37 : decode cX4_countsIn 37 = .ok (.getfield 18, 3) := by decide +kernel
theorem dX4_countsIn_40 : decode cX4_countsIn 40 = .ok (.if_icmp .ne 7, 3) := by decide +kernel
theorem dX4_countsIn_43 : decode cX4_countsIn 43 = .ok (.iconst 1, 1) := by decide +kernel
theorem dX4_countsIn_44 : decode cX4_countsIn 44 = .ok (.goto 4, 3) := by decide +kernel
theorem dX4_countsIn_47 : decode cX4_countsIn 47 = .ok (.iconst 0, 1) := by decide +kernel
theorem dX4_countsIn_48 : decode cX4_countsIn 48 = .ok (.ireturn, 1) := by decide +kernel
theorem dX5_init_0 : decode cX5_init 0 = .ok (.aload_n 0, 1) := by decide +kernel
theorem dX5_init_1 : decode cX5_init 1 = .ok (.invokespecial 3, 3) := by decide +kernel
theorem dX5_init_4 : decode cX5_init 4 = .ok (.aload_n 0, 1) := by decide +kernel
theorem dX5_init_5 : decode cX5_init 5 = .ok (.bipush 30, 2) := by decide +kernel
theorem dX5_init_7 : decode cX5_init 7 = .ok (.newarray .int, 2) := by decide +kernel
theorem dX5_init_9 : decode cX5_init 9 = .ok (.putfield 9, 3) := by decide +kernel
theorem dX5_init_12 : decode cX5_init 12 = .ok (.aload_n 0, 1) := by decide +kernel
theorem dX5_init_13 : decode cX5_init 13 = .ok (.iconst 4, 1) := by decide +kernel
theorem dX5_init_14 : decode cX5_init 14 = .ok (.anewarray 15, 3) := by decide +kernel
theorem dX5_init_17 : decode cX5_init 17 = .ok (.putfield 17, 3) := by decide +kernel
theorem dX5_init_20 : decode cX5_init 20 = .ok (.iconst 0, 1) := by decide +kernel
theorem dX5_init_21 : decode cX5_init 21 = .ok (.istore_n 1, 1) := by decide +kernel
theorem dX5_init_22 : decode cX5_init 22 = .ok (.iload_n 1, 1) := by decide +kernel
theorem dX5_init_23 : decode cX5_init 23 = .ok (.iconst 4, 1) := by decide +kernel
theorem dX5_init_24 : decode cX5_init 24 = .ok (.if_icmp .ge 22, 3) := by decide +kernel
theorem dX5_init_27 : decode cX5_init 27 = .ok (.aload_n 0, 1) := by decide +kernel
theorem dX5_init_28 : decode cX5_init 28 = .ok (.getfield 17, 3) := by decide +kernel
theorem dX5_init_31 : decode cX5_init 31 = .ok (.iload_n 1, 1) := by decide +kernel
theorem dX5_init_32 : decode cX5_init 32 = .ok (.new 15, 3) := by decide +kernel
theorem dX5_init_35 : decode cX5_init 35 = .ok (.dup, 1) := by decide +kernel
theorem dX5_init_36 : decode cX5_init 36 = .ok (.invokespecial 21, 3) := by decide +kernel
theorem dX5_init_39 : decode cX5_init 39 = .ok (.aastore, 1) := by decide +kernel
theorem dX5_init_40 : decode cX5_init 40 = .ok (.iinc 1 1, 3) := by decide +kernel
theorem dX5_init_43 : decode cX5_init 43 = .ok (.goto (-21), 3) := by decide +kernel
theorem dX5_init_46 : decode cX5_init 46 = .ok (.return_, 1) := by decide +kernel
theorem dX5_enter_0 : decode cX5_enter 0 = .ok (.aload_n 0, 1) := by decide +kernel
theorem dX5_enter_1 : decode cX5_enter 1 = .ok (.getfield 9, 3) := by decide +kernel
theorem dX5_enter_4 : decode cX5_enter 4 = .ok (.iload_n 1, 1) := by decide +kernel
theorem dX5_enter_5 : decode cX5_enter 5 = .ok (.bipush 6, 2) := by decide +kernel
theorem dX5_enter_7 : decode cX5_enter 7 = .ok (.imul, 1) := by decide +kernel
theorem dX5_enter_8 : decode cX5_enter 8 = .ok (.iload_n 2, 1) := by decide +kernel
theorem dX5_enter_9 : decode cX5_enter 9 = .ok (.iadd, 1) := by decide +kernel
theorem dX5_enter_10 : decode cX5_enter 10 = .ok (.dup2, 1) := by decide +kernel
theorem dX5_enter_11 : decode cX5_enter 11 = .ok (.iaload, 1) := by decide +kernel
theorem dX5_enter_12 : decode cX5_enter 12 = .ok (.iload_n 3, 1) := by decide +kernel
theorem dX5_enter_13 : decode cX5_enter 13 = .ok (.iadd, 1) := by decide +kernel
theorem dX5_enter_14 : decode cX5_enter 14 = .ok (.iastore, 1) := by decide +kernel
theorem dX5_enter_15 : decode cX5_enter 15 = .ok (.aload_n 0, 1) := by decide +kernel
theorem dX5_enter_16 : decode cX5_enter 16 = .ok (.getfield 9, 3) := by decide +kernel
theorem dX5_enter_19 : decode cX5_enter 19 = .ok (.iload_n 1, 1) := by decide +kernel
theorem dX5_enter_20 : decode cX5_enter 20 = .ok (.bipush 6, 2) := by decide +kernel
theorem dX5_enter_22 : decode cX5_enter 22 = .ok (.imul, 1) := by decide +kernel
theorem dX5_enter_23 : decode cX5_enter 23 = .ok (.iconst 5, 1) := by decide +kernel
theorem dX5_enter_24 : decode cX5_enter 24 = .ok (.iadd, 1) := by decide +kernel
theorem dX5_enter_25 : decode cX5_enter 25 = .ok (.dup2, 1) := by decide +kernel
theorem dX5_enter_26 : decode cX5_enter 26 = .ok (.iaload, 1) := by decide +kernel
theorem dX5_enter_27 : decode cX5_enter 27 = .ok (.iload_n 3, 1) := by decide +kernel
theorem dX5_enter_28 : decode cX5_enter 28 = .ok (.iadd, 1) := by decide +kernel
theorem dX5_enter_29 : decode cX5_enter 29 = .ok (.iastore, 1) := by decide +kernel
theorem dX5_enter_30 : decode cX5_enter 30 = .ok (.aload_n 0, 1) := by decide +kernel
theorem dX5_enter_31 : decode cX5_enter 31 = .ok (.getfield 9, 3) := by decide +kernel
theorem dX5_enter_34 : decode cX5_enter 34 = .ok (.bipush 24, 2) := by decide +kernel
theorem dX5_enter_36 : decode cX5_enter 36 = .ok (.iload_n 2, 1) := by decide +kernel
theorem dX5_enter_37 : decode cX5_enter 37 = .ok (.iadd, 1) := by decide +kernel
theorem dX5_enter_38 : decode cX5_enter 38 = .ok (.dup2, 1) := by decide +kernel
theorem dX5_enter_39 : decode cX5_enter 39 = .ok (.iaload, 1) := by decide +kernel
theorem dX5_enter_40 : decode cX5_enter 40 = .ok (.iload_n 3, 1) := by decide +kernel
theorem dX5_enter_41 : decode cX5_enter 41 = .ok (.iadd, 1) := by decide +kernel
theorem dX5_enter_42 : decode cX5_enter 42 = .ok (.iastore, 1) := by decide +kernel
theorem dX5_enter_43 : decode cX5_enter 43 = .ok (.aload_n 0, 1) := by decide +kernel
theorem dX5_enter_44 : decode cX5_enter 44 = .ok (.getfield 9, 3) := by decide +kernel
theorem dX5_enter_47 : decode cX5_enter 47 = .ok (.bipush 29, 2) := by decide +kernel
theorem dX5_enter_49 : decode cX5_enter 49 = .ok (.dup2, 1) := by decide +kernel
theorem dX5_enter_50 : decode cX5_enter 50 = .ok (.iaload, 1) := by decide +kernel
theorem dX5_enter_51 : decode cX5_enter 51 = .ok (.iload_n 3, 1) := by decide +kernel
theorem dX5_enter_52 : decode cX5_enter 52 = .ok (.iadd, 1) := by decide +kernel
theorem dX5_enter_53 : decode cX5_enter 53 = .ok (.iastore, 1) := by decide +kernel
theorem dX5_enter_54 : decode cX5_enter 54 = .ok (.return_, 1) := by decide +kernel
theorem dX6_init_0 : decode cX6_init 0 = .ok (.aload_n 0, 1) := by decide +kernel
theorem dX6_init_1 : decode cX6_init 1 = .ok (.invokespecial 1, 3) := by decide +kernel
theorem dX6_init_4 : decode cX6_init 4 = .ok (.aload_n 0, 1) := by decide +kernel
theorem dX6_init_5 : decode cX6_init 5 = .ok (.iconst 3, 1) := by decide +kernel
theorem dX6_init_6 : decode cX6_init 6 = .ok (.anewarray 9, 3) := by decide +kernel
theorem dX6_init_9 : decode cX6_init 9 = .ok (.putfield 11, 3) := by decide +kernel
theorem dX6_init_12 : decode cX6_init 12 = .ok (.iconst 0, 1) := by decide +kernel
theorem dX6_init_13 : decode cX6_init 13 = .ok (.istore_n 1, 1) := by decide +kernel
theorem dX6_init_14 : decode cX6_init 14 = .ok (.iload_n 1, 1) := by decide +kernel
theorem dX6_init_15 : decode cX6_init 15 = .ok (.iconst 3, 1) := by decide +kernel
theorem dX6_init_16 : decode cX6_init 16 = .ok (.if_icmp .ge 22, 3) := by decide +kernel
theorem dX6_init_19 : decode cX6_init 19 = .ok (.aload_n 0, 1) := by decide +kernel
theorem dX6_init_20 : decode cX6_init 20 = .ok (.getfield 11, 3) := by decide +kernel
theorem dX6_init_23 : decode cX6_init 23 = .ok (.iload_n 1, 1) := by decide +kernel
theorem dX6_init_24 : decode cX6_init 24 = .ok (.new 9, 3) := by decide +kernel
theorem dX6_init_27 : decode cX6_init 27 = .ok (.dup, 1) := by decide +kernel
theorem dX6_init_28 : decode cX6_init 28 = .ok (.invokespecial 15, 3) := by decide +kernel
theorem dX6_init_31 : decode cX6_init 31 = .ok (.aastore, 1) := by decide +kernel
theorem dX6_init_32 : decode cX6_init 32 = .ok (.iinc 1 1, 3) := by decide +kernel
theorem dX6_init_35 : decode cX6_init 35 = .ok (.goto (-21), 3) := by decide +kernel
theorem dX6_init_38 : decode cX6_init 38 = .ok (.aload_n 0, 1) := by decide +kernel
theorem dX6_init_39 : decode cX6_init 39 = .ok (.bipush 120, 2) := by decide +kernel
theorem dX6_init_41 : decode cX6_init 41 = .ok (.anewarray 16, 3) := by decide +kernel
theorem dX6_init_44 : decode cX6_init 44 = .ok (.putfield 18, 3) := by decide +kernel
theorem dX6_init_47 : decode cX6_init 47 = .ok (.aload_n 0, 1) := by decide +kernel
theorem dX6_init_48 : decode cX6_init 48 = .ok (.bipush 40, 2) := by decide +kernel
theorem dX6_init_50 : decode cX6_init 50 = .ok (.anewarray 22, 3) := by decide +kernel
theorem dX6_init_53 : decode cX6_init 53 = .ok (.putfield 24, 3) := by decide +kernel
theorem dX6_init_56 : decode cX6_init 56 = .ok (.aload_n 0, 1) := by decide +kernel
theorem dX6_init_57 : decode cX6_init 57 = .ok (.new 28, 3) := by decide +kernel
theorem dX6_init_60 : decode cX6_init 60 = .ok (.dup, 1) := by decide +kernel
theorem dX6_init_61 : decode cX6_init 61 = .ok (.invokespecial 30, 3) := by decide +kernel
theorem dX6_init_64 : decode cX6_init 64 = .ok (.putfield 31, 3) := by decide +kernel
theorem dX6_init_67 : decode cX6_init 67 = .ok (.return_, 1) := by decide +kernel
theorem dX6_sale_0 : decode cX6_sale 0 = .ok (.aload_n 0, 1) := by decide +kernel
theorem dX6_sale_1 : decode cX6_sale 1 = .ok (.iload_n 1, 1) := by decide +kernel
theorem dX6_sale_2 : decode cX6_sale 2 = .ok (.invokevirtual 35, 3) := by decide +kernel
theorem dX6_sale_5 : decode cX6_sale 5 = .ok (.astore 5, 2) := by decide +kernel
theorem dX6_sale_7 : decode cX6_sale 7 = .ok (.iload_n 2, 1) := by decide +kernel
theorem dX6_sale_8 : decode cX6_sale 8 = .ok (.ifCond .lt 17, 3) := by decide +kernel
theorem dX6_sale_11 : decode cX6_sale 11 = .ok (.iload_n 2, 1) := by decide +kernel
theorem dX6_sale_12 : decode cX6_sale 12 = .ok (.iconst 4, 1) := by decide +kernel
theorem dX6_sale_13 : decode cX6_sale 13 = .ok (.if_icmp .ge 12, 3) := by decide +kernel
theorem dX6_sale_16 : decode cX6_sale 16 = .ok (.iload_n 3, 1) := by decide +kernel
theorem dX6_sale_17 : decode cX6_sale 17 = .ok (.ifCond .lt 8, 3) := by decide +kernel
theorem dX6_sale_20 : decode cX6_sale 20 = .ok (.iload_n 3, 1) := by decide +kernel
theorem dX6_sale_21 : decode cX6_sale 21 = .ok (.iconst 5, 1) := by decide +kernel
theorem dX6_sale_22 : decode cX6_sale 22 = .ok (.if_icmp .lt 13, 3) := by decide +kernel
theorem dX6_sale_25 : decode cX6_sale 25 = .ok (.new 39, 3) := by decide +kernel
theorem dX6_sale_28 : decode cX6_sale 28 = .ok (.dup, 1) := by decide +kernel
theorem dX6_sale_29 : decode cX6_sale 29 = .ok (.ldc 41, 2) := by decide +kernel
theorem dX6_sale_31 : decode cX6_sale 31 = .ok (.invokespecial 43, 3) := by decide +kernel
theorem dX6_sale_34 : decode cX6_sale 34 = .ok (.athrow, 1) := by decide +kernel
theorem dX6_sale_35 : decode cX6_sale 35 = .ok (.iload 4, 2) := by decide +kernel
theorem dX6_sale_37 : decode cX6_sale 37 = .ok (.sipush (-1000), 3) := by decide +kernel
theorem dX6_sale_40 : decode cX6_sale 40 = .ok (.if_icmp .lt 11, 3) := by decide +kernel
theorem dX6_sale_43 : decode cX6_sale 43 = .ok (.iload 4, 2) := by decide +kernel
theorem dX6_sale_45 : decode cX6_sale 45 = .ok (.sipush 1000, 3) := by decide +kernel
theorem dX6_sale_48 : decode cX6_sale 48 = .ok (.if_icmp .le 13, 3) := by decide +kernel
theorem dX6_sale_51 : decode cX6_sale 51 = .ok (.new 46, 3) := by decide +kernel
theorem dX6_sale_54 : decode cX6_sale 54 = .ok (.dup, 1) := by decide +kernel
theorem dX6_sale_55 : decode cX6_sale 55 = .ok (.ldc 48, 2) := by decide +kernel
theorem dX6_sale_57 : decode cX6_sale 57 = .ok (.invokespecial 50, 3) := by decide +kernel
theorem dX6_sale_60 : decode cX6_sale 60 = .ok (.athrow, 1) := by decide +kernel
theorem dX6_sale_61 : decode cX6_sale 61 = .ok (.aload_n 0, 1) := by decide +kernel
theorem dX6_sale_62 : decode cX6_sale 62 = .ok (.getfield 51, 3) := by decide +kernel
theorem dX6_sale_65 : decode cX6_sale 65 = .ok (.bipush 120, 2) := by decide +kernel
theorem dX6_sale_67 : decode cX6_sale 67 = .ok (.if_icmp .lt 13, 3) := by decide +kernel
theorem dX6_sale_70 : decode cX6_sale 70 = .ok (.new 55, 3) := by decide +kernel
theorem dX6_sale_73 : decode cX6_sale 73 = .ok (.dup, 1) := by decide +kernel
theorem dX6_sale_74 : decode cX6_sale 74 = .ok (.ldc 57, 2) := by decide +kernel
theorem dX6_sale_76 : decode cX6_sale 76 = .ok (.invokespecial 59, 3) := by decide +kernel
theorem dX6_sale_79 : decode cX6_sale 79 = .ok (.athrow, 1) := by decide +kernel
theorem dX6_sale_80 : decode cX6_sale 80 = .ok (.aload_n 0, 1) := by decide +kernel
theorem dX6_sale_81 : decode cX6_sale 81 = .ok (.getfield 51, 3) := by decide +kernel
theorem dX6_sale_84 : decode cX6_sale 84 = .ok (.istore 6, 2) := by decide +kernel
theorem dX6_sale_86 : decode cX6_sale 86 = .ok (.aload_n 0, 1) := by decide +kernel
theorem dX6_sale_87 : decode cX6_sale 87 = .ok (.getfield 18, 3) := by decide +kernel
theorem dX6_sale_90 : decode cX6_sale 90 = .ok (.iload 6, 2) := by decide +kernel
theorem dX6_sale_92 : decode cX6_sale 92 = .ok (.new 16, 3) := by decide +kernel
theorem dX6_sale_95 : decode cX6_sale 95 = .ok (.dup, 1) := by decide +kernel
theorem dX6_sale_96 : decode cX6_sale 96 = .ok (.iload_n 1, 1) := by decide +kernel
theorem dX6_sale_97 : decode cX6_sale 97 = .ok (.iload_n 2, 1) := by decide +kernel
theorem dX6_sale_98 : decode cX6_sale 98 = .ok (.iload_n 3, 1) := by decide +kernel
theorem dX6_sale_99 : decode cX6_sale 99 = .ok (.iload 4, 2) := by decide +kernel
theorem dX6_sale_101 : decode cX6_sale 101 = .ok (.invokespecial 60, 3) := by decide +kernel
theorem dX6_sale_104 : decode cX6_sale 104 = .ok (.aastore, 1) := by decide +kernel
theorem dX6_sale_105 : decode cX6_sale 105 = .ok (.aload_n 0, 1) := by decide +kernel
theorem dX6_sale_106 : decode cX6_sale 106 = .ok (.dup, 1) := by decide +kernel
theorem dX6_sale_107 : decode cX6_sale 107 = .ok (.getfield 51, 3) := by decide +kernel
theorem dX6_sale_110 : decode cX6_sale 110 = .ok (.iconst 1, 1) := by decide +kernel
theorem dX6_sale_111 : decode cX6_sale 111 = .ok (.iadd, 1) := by decide +kernel
theorem dX6_sale_112 : decode cX6_sale 112 = .ok (.putfield 51, 3) := by decide +kernel
theorem dX6_sale_115 : decode cX6_sale 115 = .ok (.aload 5, 2) := by decide +kernel
theorem dX6_sale_117 : decode cX6_sale 117 = .ok (.iload_n 2, 1) := by decide +kernel
theorem dX6_sale_118 : decode cX6_sale 118 = .ok (.iload_n 3, 1) := by decide +kernel
theorem dX6_sale_119 : decode cX6_sale 119 = .ok (.iload 4, 2) := by decide +kernel
theorem dX6_sale_121 : decode cX6_sale 121 = .ok (.invokevirtual 63, 3) := by decide +kernel
theorem dX6_sale_124 : decode cX6_sale 124 = .ok (.aload 5, 2) := by decide +kernel
theorem dX6_sale_126 : decode cX6_sale 126 = .ok (.dup, 1) := by decide +kernel
theorem dX6_sale_127 : decode cX6_sale 127 = .ok (.getfield 67, 3) := by decide +kernel
theorem dX6_sale_130 : decode cX6_sale 130 = .ok (.iconst 1, 1) := by decide +kernel
theorem dX6_sale_131 : decode cX6_sale 131 = .ok (.iadd, 1) := by decide +kernel
theorem dX6_sale_132 : decode cX6_sale 132 = .ok (.putfield 67, 3) := by decide +kernel
theorem dX6_sale_135 : decode cX6_sale 135 = .ok (.aload_n 0, 1) := by decide +kernel
theorem dX6_sale_136 : decode cX6_sale 136 = .ok (.aload 5, 2) := by decide +kernel
theorem dX6_sale_138 : decode cX6_sale 138 = .ok (.iconst 4, 1) := by decide +kernel
theorem dX6_sale_139 : decode cX6_sale 139 = .ok (.invokevirtual 70, 3) := by decide +kernel
theorem dX6_sale_142 : decode cX6_sale 142 = .ok (.iload 6, 2) := by decide +kernel
theorem dX6_sale_144 : decode cX6_sale 144 = .ok (.ireturn, 1) := by decide +kernel
theorem dX6_takeBack_0 : decode cX6_takeBack 0 = .ok (.iload_n 1, 1) := by decide +kernel
theorem dX6_takeBack_1 : decode cX6_takeBack 1 = .ok (.ifCond .lt 11, 3) := by decide +kernel
theorem dX6_takeBack_4 : decode cX6_takeBack 4 = .ok (.iload_n 1, 1) := by decide +kernel
theorem dX6_takeBack_5 : decode cX6_takeBack 5 = .ok (.aload_n 0, 1) := by decide +kernel
theorem dX6_takeBack_6 : decode cX6_takeBack 6 = .ok (.getfield 51, 3) := by decide +kernel
theorem dX6_takeBack_9 : decode cX6_takeBack 9 = .ok (.if_icmp .lt 13, 3) := by decide +kernel
theorem dX6_takeBack_12 : decode cX6_takeBack 12 = .ok (.new 39, 3) := by decide +kernel
theorem dX6_takeBack_15 : decode cX6_takeBack 15 = .ok (.dup, 1) := by decide +kernel
theorem dX6_takeBack_16 : decode cX6_takeBack 16 = .ok (.ldc 74, 2) := by decide +kernel
theorem dX6_takeBack_18 : decode cX6_takeBack 18 = .ok (.invokespecial 43, 3) := by decide +kernel
theorem dX6_takeBack_21 : decode cX6_takeBack 21 = .ok (.athrow, 1) := by decide +kernel
theorem dX6_takeBack_22 : decode cX6_takeBack 22 = .ok (.aload_n 0, 1) := by decide +kernel
theorem dX6_takeBack_23 : decode cX6_takeBack 23 = .ok (.getfield 18, 3) := by decide +kernel
theorem dX6_takeBack_26 : decode cX6_takeBack 26 = .ok (.iload_n 1, 1) := by decide +kernel
theorem dX6_takeBack_27 : decode cX6_takeBack 27 = .ok (.aaload, 1) := by decide +kernel
theorem dX6_takeBack_28 : decode cX6_takeBack 28 = .ok (.astore_n 2, 1) := by decide +kernel
theorem dX6_takeBack_29 : decode cX6_takeBack 29 = .ok (.aload_n 2, 1) := by decide +kernel
theorem dX6_takeBack_30 : decode cX6_takeBack 30 = .ok (.getfield 76, 3) := by decide +kernel
theorem dX6_takeBack_33 : decode cX6_takeBack 33 = .ok (.ifCond .eq 13, 3) := by decide +kernel
theorem dX6_takeBack_36 : decode cX6_takeBack 36 = .ok (.new 55, 3) := by decide +kernel
theorem dX6_takeBack_39 : decode cX6_takeBack 39 = .ok (.dup, 1) := by decide +kernel
theorem dX6_takeBack_40 : decode cX6_takeBack 40 = .ok (.ldc 80, 2) := by decide +kernel
theorem dX6_takeBack_42 : decode cX6_takeBack 42 = .ok (.invokespecial 59, 3) := by decide +kernel
theorem dX6_takeBack_45 : decode cX6_takeBack 45 = .ok (.athrow, 1) := by decide +kernel
theorem dX6_takeBack_46 : decode cX6_takeBack 46 = .ok (.aload_n 0, 1) := by decide +kernel
theorem dX6_takeBack_47 : decode cX6_takeBack 47 = .ok (.getfield 11, 3) := by decide +kernel
theorem dX6_takeBack_50 : decode cX6_takeBack 50 = .ok (.aload_n 2, 1) := by decide +kernel
theorem dX6_takeBack_51 : decode cX6_takeBack 51 = .ok (.getfield 82, 3) := by decide +kernel
theorem dX6_takeBack_54 : decode cX6_takeBack 54 = .ok (.aaload, 1) := by decide +kernel
theorem dX6_takeBack_55 : decode cX6_takeBack 55 = .ok (.astore_n 3, 1) := by decide +kernel
theorem dX6_takeBack_56 : decode cX6_takeBack 56 = .ok (.aload_n 2, 1) := by decide +kernel
theorem dX6_takeBack_57 : decode cX6_takeBack 57 = .ok (.iconst 1, 1) := by decide +kernel
theorem dX6_takeBack_58 : decode cX6_takeBack 58 = .ok (.putfield 76, 3) := by decide +kernel
theorem dX6_takeBack_61 : decode cX6_takeBack 61 = .ok (.aload_n 3, 1) := by decide +kernel
theorem dX6_takeBack_62 : decode cX6_takeBack 62 = .ok (.aload_n 2, 1) := by decide +kernel
theorem dX6_takeBack_63 : decode cX6_takeBack 63 = .ok (.getfield 85, 3) := by decide +kernel
theorem dX6_takeBack_66 : decode cX6_takeBack 66 = .ok (.aload_n 2, 1) := by decide +kernel
theorem dX6_takeBack_67 : decode cX6_takeBack 67 = .ok (.getfield 88, 3) := by decide +kernel
theorem dX6_takeBack_70 : decode cX6_takeBack 70 = .ok (.aload_n 2, 1) := by decide +kernel
theorem dX6_takeBack_71 : decode cX6_takeBack 71 = .ok (.getfield 91, 3) := by decide +kernel
theorem dX6_takeBack_74 : decode cX6_takeBack 74 = .ok (.ineg, 1) := by decide +kernel
theorem dX6_takeBack_75 : decode cX6_takeBack 75 = .ok (.invokevirtual 63, 3) := by decide +kernel
theorem dX6_takeBack_78 : decode cX6_takeBack 78 = .ok (.aload_n 3, 1) := by decide +kernel
theorem dX6_takeBack_79 : decode cX6_takeBack 79 = .ok (.dup, 1) := by decide +kernel
theorem dX6_takeBack_80 : decode cX6_takeBack 80 = .ok (.getfield 67, 3) := by decide +kernel
theorem dX6_takeBack_83 : decode cX6_takeBack 83 = .ok (.iconst 1, 1) := by decide +kernel
theorem dX6_takeBack_84 : decode cX6_takeBack 84 = .ok (.isub, 1) := by decide +kernel
theorem dX6_takeBack_85 : decode cX6_takeBack 85 = .ok (.putfield 67, 3) := by decide +kernel
theorem dX6_takeBack_88 : decode cX6_takeBack 88 = .ok (.aload_n 0, 1) := by decide +kernel
theorem dX6_takeBack_89 : decode cX6_takeBack 89 = .ok (.aload_n 3, 1) := by decide +kernel
theorem dX6_takeBack_90 : decode cX6_takeBack 90 = .ok (.iconst 4, 1) := by decide +kernel
theorem dX6_takeBack_91 : decode cX6_takeBack 91 = .ok (.invokevirtual 70, 3) := by decide +kernel
theorem dX6_takeBack_94 : decode cX6_takeBack 94 = .ok (.aload_n 2, 1) := by decide +kernel
theorem dX6_takeBack_95 : decode cX6_takeBack 95 = .ok (.getfield 91, 3) := by decide +kernel
theorem dX6_takeBack_98 : decode cX6_takeBack 98 = .ok (.ireturn, 1) := by decide +kernel
theorem dX6_turn_0 : decode cX6_turn 0 = .ok (.aload_n 0, 1) := by decide +kernel
theorem dX6_turn_1 : decode cX6_turn 1 = .ok (.iload_n 1, 1) := by decide +kernel
theorem dX6_turn_2 : decode cX6_turn 2 = .ok (.invokevirtual 35, 3) := by decide +kernel
theorem dX6_turn_5 : decode cX6_turn 5 = .ok (.astore_n 2, 1) := by decide +kernel
theorem dX6_turn_6 : decode cX6_turn 6 = .ok (.aload_n 2, 1) := by decide +kernel
theorem dX6_turn_7 : decode cX6_turn 7 = .ok (.aload_n 2, 1) := by decide +kernel
theorem dX6_turn_8 : decode cX6_turn 8 = .ok (.getfield 94, 3) := by decide +kernel
theorem dX6_turn_11 : decode cX6_turn 11 = .ok (.ifCond .ne 7, 3) := by decide +kernel
theorem dX6_turn_14 : decode cX6_turn 14 = .ok (.iconst 1, 1) := by decide +kernel
theorem dX6_turn_15 : decode cX6_turn 15 = .ok (.goto 4, 3) := by decide +kernel
theorem dX6_turn_18 : decode cX6_turn 18 = .ok (.iconst 0, 1) := by decide +kernel
theorem dX6_turn_19 : decode cX6_turn 19 = .ok (.putfield 94, 3) := by decide +kernel
theorem dX6_turn_22 : decode cX6_turn 22 = .ok (.aload_n 2, 1) := by decide +kernel
theorem dX6_turn_23 : decode cX6_turn 23 = .ok (.getfield 94, 3) := by decide +kernel
theorem dX6_turn_26 : decode cX6_turn 26 = .ok (.ireturn, 1) := by decide +kernel
theorem dX6_sum_0 : decode cX6_sum 0 = .ok (.aload_n 0, 1) := by decide +kernel
theorem dX6_sum_1 : decode cX6_sum 1 = .ok (.iload_n 1, 1) := by decide +kernel
theorem dX6_sum_2 : decode cX6_sum 2 = .ok (.iload_n 2, 1) := by decide +kernel
theorem dX6_sum_3 : decode cX6_sum 3 = .ok (.iload_n 3, 1) := by decide +kernel
theorem dX6_sum_4 : decode cX6_sum 4 = .ok (.invokevirtual 97, 3) := by decide +kernel
theorem dX6_sum_7 : decode cX6_sum 7 = .ok (.istore 4, 2) := by decide +kernel
theorem dX6_sum_9 : decode cX6_sum 9 = .ok (.aload_n 0, 1) := by decide +kernel
theorem dX6_sum_10 : decode cX6_sum 10 = .ok (.getfield 11, 3) := by decide +kernel
theorem dX6_sum_13 : decode cX6_sum 13 = .ok (.iload_n 1, 1) := by decide +kernel
theorem dX6_sum_14 : decode cX6_sum 14 = .ok (.aaload, 1) := by decide +kernel
theorem dX6_sum_15 : decode cX6_sum 15 = .ok (.getfield 101, 3) := by decide +kernel
theorem dX6_sum_18 : decode cX6_sum 18 = .ok (.iload 4, 2) := by decide +kernel
theorem dX6_sum_20 : decode cX6_sum 20 = .ok (.iaload, 1) := by decide +kernel
theorem dX6_sum_21 : decode cX6_sum 21 = .ok (.ireturn, 1) := by decide +kernel
theorem dX6_sumFromSales_0 : decode cX6_sumFromSales 0 = .ok (.aload_n 0, 1) := by decide +kernel
theorem dX6_sumFromSales_1 : decode cX6_sumFromSales 1 = .ok (.iload_n 1, 1) := by decide +kernel
theorem dX6_sumFromSales_2 : decode cX6_sumFromSales 2 = .ok (.iload_n 2, 1) := by decide +kernel
theorem dX6_sumFromSales_3 : decode cX6_sumFromSales 3 = .ok (.iload_n 3, 1) := by decide +kernel
theorem dX6_sumFromSales_4 : decode cX6_sumFromSales 4 = .ok (.invokevirtual 97, 3) := by decide +kernel
theorem dX6_sumFromSales_7 : decode cX6_sumFromSales 7 = .ok (.istore 4, 2) := by decide +kernel
theorem dX6_sumFromSales_9 : decode cX6_sumFromSales 9 = .ok (.iconst 0, 1) := by decide +kernel
theorem dX6_sumFromSales_10 : decode cX6_sumFromSales 10 = .ok (.istore 5, 2) := by decide +kernel
theorem dX6_sumFromSales_12 : decode cX6_sumFromSales 12 = .ok (.iconst 0, 1) := by decide +kernel
theorem dX6_sumFromSales_13 : decode cX6_sumFromSales 13 = .ok (.istore 6, 2) := by decide +kernel
theorem dX6_sumFromSales_15 : decode cX6_sumFromSales 15 = .ok (.iload 6, 2) := by decide +kernel
theorem dX6_sumFromSales_17 : decode cX6_sumFromSales 17 = .ok (.aload_n 0, 1) := by decide +kernel
theorem dX6_sumFromSales_18 : decode cX6_sumFromSales 18 = .ok (.getfield 51, 3) := by decide +kernel
theorem dX6_sumFromSales_21 : decode cX6_sumFromSales 21 = .ok (.if_icmp .ge 53, 3) := by decide +kernel
theorem dX6_sumFromSales_24 : decode cX6_sumFromSales 24 = .ok (.aload_n 0, 1) := by decide +kernel
theorem dX6_sumFromSales_25 : decode cX6_sumFromSales 25 = .ok (.getfield 18, 3) := by decide +kernel
theorem dX6_sumFromSales_28 : decode cX6_sumFromSales 28 = .ok (.iload 6, 2) := by decide +kernel
theorem dX6_sumFromSales_30 : decode cX6_sumFromSales 30 = .ok (.aaload, 1) := by decide +kernel
theorem dX6_sumFromSales_31 : decode cX6_sumFromSales 31 = .ok (.getfield 82, 3) := by decide +kernel
theorem dX6_sumFromSales_34 : decode cX6_sumFromSales 34 = .ok (.iload_n 1, 1) := by decide +kernel
theorem dX6_sumFromSales_35 : decode cX6_sumFromSales 35 = .ok (.if_icmp .ne 33, 3) := by decide +kernel
theorem dX6_sumFromSales_38 : decode cX6_sumFromSales 38 = .ok (.aload_n 0, 1) := by decide +kernel
theorem dX6_sumFromSales_39 : decode cX6_sumFromSales 39 = .ok (.getfield 18, 3) := by decide +kernel
theorem dX6_sumFromSales_42 : decode cX6_sumFromSales 42 = .ok (.iload 6, 2) := by decide +kernel
theorem dX6_sumFromSales_44 : decode cX6_sumFromSales 44 = .ok (.aaload, 1) := by decide +kernel
theorem dX6_sumFromSales_45 : decode cX6_sumFromSales 45 = .ok (.iload 4, 2) := by decide +kernel
theorem dX6_sumFromSales_47 : decode cX6_sumFromSales 47 = .ok (.invokevirtual 105, 3) := by decide +kernel
theorem dX6_sumFromSales_50 : decode cX6_sumFromSales 50 = .ok (.ifCond .eq 18, 3) := by decide +kernel
theorem dX6_sumFromSales_53 : decode cX6_sumFromSales 53 = .ok (.iload 5, 2) := by decide +kernel
theorem dX6_sumFromSales_55 : decode cX6_sumFromSales 55 = .ok (.aload_n 0, 1) := by decide +kernel
theorem dX6_sumFromSales_56 : decode cX6_sumFromSales 56 = .ok (.getfield 18, 3) := by decide +kernel
theorem dX6_sumFromSales_59 : decode cX6_sumFromSales 59 = .ok (.iload 6, 2) := by decide +kernel
theorem dX6_sumFromSales_61 : decode cX6_sumFromSales 61 = .ok (.aaload, 1) := by decide +kernel
theorem dX6_sumFromSales_62 : decode cX6_sumFromSales 62 = .ok (.getfield 91, 3) := by decide +kernel
theorem dX6_sumFromSales_65 : decode cX6_sumFromSales 65 = .ok (.iadd, 1) := by decide +kernel
theorem dX6_sumFromSales_66 : decode cX6_sumFromSales 66 = .ok (.istore 5, 2) := by decide +kernel
theorem dX6_sumFromSales_68 : decode cX6_sumFromSales 68 = .ok (.iinc 6 1, 3) := by decide +kernel
theorem dX6_sumFromSales_71 : decode cX6_sumFromSales 71 = .ok (.goto (-56), 3) := by decide +kernel
theorem dX6_sumFromSales_74 : decode cX6_sumFromSales 74 = .ok (.iload 5, 2) := by decide +kernel
theorem dX6_sumFromSales_76 : decode cX6_sumFromSales 76 = .ok (.ireturn, 1) := by decide +kernel
theorem dX6_embargo_0 : decode cX6_embargo 0 = .ok (.aload_n 0, 1) := by decide +kernel
theorem dX6_embargo_1 : decode cX6_embargo 1 = .ok (.iload_n 1, 1) := by decide +kernel
theorem dX6_embargo_2 : decode cX6_embargo 2 = .ok (.iload_n 2, 1) := by decide +kernel
theorem dX6_embargo_3 : decode cX6_embargo 3 = .ok (.iload_n 3, 1) := by decide +kernel
theorem dX6_embargo_4 : decode cX6_embargo 4 = .ok (.invokevirtual 97, 3) := by decide +kernel
theorem dX6_embargo_7 : decode cX6_embargo 7 = .ok (.istore 6, 2) := by decide +kernel
theorem dX6_embargo_9 : decode cX6_embargo 9 = .ok (.iload 4, 2) := by decide +kernel
theorem dX6_embargo_11 : decode cX6_embargo 11 = .ok (.iconst 1, 1) := by decide +kernel
theorem dX6_embargo_12 : decode cX6_embargo 12 = .ok (.if_icmp .lt 9, 3) := by decide +kernel
theorem dX6_embargo_15 : decode cX6_embargo 15 = .ok (.iload 4, 2) := by decide +kernel
theorem dX6_embargo_17 : decode cX6_embargo 17 = .ok (.iconst 4, 1) := by decide +kernel
theorem dX6_embargo_18 : decode cX6_embargo 18 = .ok (.if_icmp .lt 13, 3) := by decide +kernel
theorem dX6_embargo_21 : decode cX6_embargo 21 = .ok (.new 46, 3) := by decide +kernel
theorem dX6_embargo_24 : decode cX6_embargo 24 = .ok (.dup, 1) := by decide +kernel
theorem dX6_embargo_25 : decode cX6_embargo 25 = .ok (.ldc 109, 2) := by decide +kernel
theorem dX6_embargo_27 : decode cX6_embargo 27 = .ok (.invokespecial 50, 3) := by decide +kernel
theorem dX6_embargo_30 : decode cX6_embargo 30 = .ok (.athrow, 1) := by decide +kernel
theorem dX6_embargo_31 : decode cX6_embargo 31 = .ok (.iload 5, 2) := by decide +kernel
theorem dX6_embargo_33 : decode cX6_embargo 33 = .ok (.iconst 1, 1) := by decide +kernel
theorem dX6_embargo_34 : decode cX6_embargo 34 = .ok (.if_icmp .lt 10, 3) := by decide +kernel
theorem dX6_embargo_37 : decode cX6_embargo 37 = .ok (.iload 5, 2) := by decide +kernel
theorem dX6_embargo_39 : decode cX6_embargo 39 = .ok (.bipush 100, 2) := by decide +kernel
theorem dX6_embargo_41 : decode cX6_embargo 41 = .ok (.if_icmp .le 13, 3) := by decide +kernel
theorem dX6_embargo_44 : decode cX6_embargo 44 = .ok (.new 46, 3) := by decide +kernel
theorem dX6_embargo_47 : decode cX6_embargo 47 = .ok (.dup, 1) := by decide +kernel
theorem dX6_embargo_48 : decode cX6_embargo 48 = .ok (.ldc 111, 2) := by decide +kernel
theorem dX6_embargo_50 : decode cX6_embargo 50 = .ok (.invokespecial 50, 3) := by decide +kernel
theorem dX6_embargo_53 : decode cX6_embargo 53 = .ok (.athrow, 1) := by decide +kernel
theorem dX6_embargo_54 : decode cX6_embargo 54 = .ok (.aload_n 0, 1) := by decide +kernel
theorem dX6_embargo_55 : decode cX6_embargo 55 = .ok (.getfield 113, 3) := by decide +kernel
theorem dX6_embargo_58 : decode cX6_embargo 58 = .ok (.bipush 40, 2) := by decide +kernel
theorem dX6_embargo_60 : decode cX6_embargo 60 = .ok (.if_icmp .lt 13, 3) := by decide +kernel
theorem dX6_embargo_63 : decode cX6_embargo 63 = .ok (.new 55, 3) := by decide +kernel
theorem dX6_embargo_66 : decode cX6_embargo 66 = .ok (.dup, 1) := by decide +kernel
theorem dX6_embargo_67 : decode cX6_embargo 67 = .ok (.ldc 116, 2) := by decide +kernel
theorem dX6_embargo_69 : decode cX6_embargo 69 = .ok (.invokespecial 59, 3) := by decide +kernel
theorem dX6_embargo_72 : decode cX6_embargo 72 = .ok (.athrow, 1) := by decide +kernel
theorem dX6_embargo_73 : decode cX6_embargo 73 = .ok (.aload_n 0, 1) := by decide +kernel
theorem dX6_embargo_74 : decode cX6_embargo 74 = .ok (.getfield 113, 3) := by decide +kernel
theorem dX6_embargo_77 : decode cX6_embargo 77 = .ok (.istore 7, 2) := by decide +kernel
theorem dX6_embargo_79 : decode cX6_embargo 79 = .ok (.aload_n 0, 1) := by decide +kernel
theorem dX6_embargo_80 : decode cX6_embargo 80 = .ok (.getfield 24, 3) := by decide +kernel
theorem dX6_embargo_83 : decode cX6_embargo 83 = .ok (.iload 7, 2) := by decide +kernel
theorem dX6_embargo_85 : decode cX6_embargo 85 = .ok (.new 22, 3) := by decide +kernel
theorem dX6_embargo_88 : decode cX6_embargo 88 = .ok (.dup, 1) := by decide +kernel
theorem dX6_embargo_89 : decode cX6_embargo 89 = .ok (.iload_n 1, 1) := by decide +kernel
theorem dX6_embargo_90 : decode cX6_embargo 90 = .ok (.iload 6, 2) := by decide +kernel
theorem dX6_embargo_92 : decode cX6_embargo 92 = .ok (.iload 4, 2) := by decide +kernel
theorem dX6_embargo_94 : decode cX6_embargo 94 = .ok (.aload_n 0, 1) := by decide +kernel
theorem dX6_embargo_95 : decode cX6_embargo 95 = .ok (.getfield 118, 3) := by decide +kernel
theorem dX6_embargo_98 : decode cX6_embargo 98 = .ok (.iload 5, 2) := by decide +kernel
theorem dX6_embargo_100 : decode cX6_embargo 100 = .ok (.iadd, 1) := by decide +kernel
theorem dX6_embargo_101 : decode cX6_embargo 101 = .ok (.invokespecial 121, 3) := by decide +kernel
theorem dX6_embargo_104 : decode cX6_embargo 104 = .ok (.aastore, 1) := by decide +kernel
theorem dX6_embargo_105 : decode cX6_embargo 105 = .ok (.aload_n 0, 1) := by decide +kernel
theorem dX6_embargo_106 : decode cX6_embargo 106 = .ok (.dup, 1) := by decide +kernel
theorem dX6_embargo_107 : decode cX6_embargo 107 = .ok (.getfield 113, 3) := by decide +kernel
theorem dX6_embargo_110 : decode cX6_embargo 110 = .ok (.iconst 1, 1) := by decide +kernel
theorem dX6_embargo_111 : decode cX6_embargo 111 = .ok (.iadd, 1) := by decide +kernel
theorem dX6_embargo_112 : decode cX6_embargo 112 = .ok (.putfield 113, 3) := by decide +kernel
theorem dX6_embargo_115 : decode cX6_embargo 115 = .ok (.aload_n 0, 1) := by decide +kernel
theorem dX6_embargo_116 : decode cX6_embargo 116 = .ok (.aload_n 0, 1) := by decide +kernel
theorem dX6_embargo_117 : decode cX6_embargo 117 = .ok (.getfield 11, 3) := by decide +kernel
theorem dX6_embargo_120 : decode cX6_embargo 120 = .ok (.iload_n 1, 1) := by decide +kernel
theorem dX6_embargo_121 : decode cX6_embargo 121 = .ok (.aaload, 1) := by decide +kernel
theorem dX6_embargo_122 : decode cX6_embargo 122 = .ok (.iload 4, 2) := by decide +kernel
theorem dX6_embargo_124 : decode cX6_embargo 124 = .ok (.invokevirtual 70, 3) := by decide +kernel
theorem dX6_embargo_127 : decode cX6_embargo 127 = .ok (.iload 7, 2) := by decide +kernel
theorem dX6_embargo_129 : decode cX6_embargo 129 = .ok (.ireturn, 1) := by decide +kernel
theorem dX6_lift_0 : decode cX6_lift 0 = .ok (.iload_n 1, 1) := by decide +kernel
theorem dX6_lift_1 : decode cX6_lift 1 = .ok (.ifCond .lt 11, 3) := by decide +kernel
theorem dX6_lift_4 : decode cX6_lift 4 = .ok (.iload_n 1, 1) := by decide +kernel
theorem dX6_lift_5 : decode cX6_lift 5 = .ok (.aload_n 0, 1) := by decide +kernel
theorem dX6_lift_6 : decode cX6_lift 6 = .ok (.getfield 113, 3) := by decide +kernel
theorem dX6_lift_9 : decode cX6_lift 9 = .ok (.if_icmp .lt 13, 3) := by decide +kernel
theorem dX6_lift_12 : decode cX6_lift 12 = .ok (.new 39, 3) := by decide +kernel
theorem dX6_lift_15 : decode cX6_lift 15 = .ok (.dup, 1) := by decide +kernel
theorem dX6_lift_16 : decode cX6_lift 16 = .ok (.ldc 122, 2) := by decide +kernel
theorem dX6_lift_18 : decode cX6_lift 18 = .ok (.invokespecial 43, 3) := by decide +kernel
theorem dX6_lift_21 : decode cX6_lift 21 = .ok (.athrow, 1) := by decide +kernel
theorem dX6_lift_22 : decode cX6_lift 22 = .ok (.aload_n 0, 1) := by decide +kernel
theorem dX6_lift_23 : decode cX6_lift 23 = .ok (.getfield 24, 3) := by decide +kernel
theorem dX6_lift_26 : decode cX6_lift 26 = .ok (.iload_n 1, 1) := by decide +kernel
theorem dX6_lift_27 : decode cX6_lift 27 = .ok (.aaload, 1) := by decide +kernel
theorem dX6_lift_28 : decode cX6_lift 28 = .ok (.astore_n 2, 1) := by decide +kernel
theorem dX6_lift_29 : decode cX6_lift 29 = .ok (.aload_n 2, 1) := by decide +kernel
theorem dX6_lift_30 : decode cX6_lift 30 = .ok (.aload_n 0, 1) := by decide +kernel
theorem dX6_lift_31 : decode cX6_lift 31 = .ok (.getfield 118, 3) := by decide +kernel
theorem dX6_lift_34 : decode cX6_lift 34 = .ok (.invokevirtual 124, 3) := by decide +kernel
theorem dX6_lift_37 : decode cX6_lift 37 = .ok (.ifCond .ne 13, 3) := by decide +kernel
theorem dX6_lift_40 : decode cX6_lift 40 = .ok (.new 55, 3) := by decide +kernel
theorem dX6_lift_43 : decode cX6_lift 43 = .ok (.dup, 1) := by decide +kernel
theorem dX6_lift_44 : decode cX6_lift 44 = .ok (.ldc 127, 2) := by decide +kernel
theorem dX6_lift_46 : decode cX6_lift 46 = .ok (.invokespecial 59, 3) := by decide +kernel
theorem dX6_lift_49 : decode cX6_lift 49 = .ok (.athrow, 1) := by decide +kernel
theorem dX6_lift_50 : decode cX6_lift 50 = .ok (.aload_n 2, 1) := by decide +kernel
theorem dX6_lift_51 : decode cX6_lift 51 = .ok (.iconst 1, 1) := by decide +kernel
theorem dX6_lift_52 : decode cX6_lift 52 = .ok (.putfield 129, 3) := by decide +kernel
theorem dX6_lift_55 : decode cX6_lift 55 = .ok (.aload_n 0, 1) := by decide +kernel
theorem dX6_lift_56 : decode cX6_lift 56 = .ok (.aload_n 0, 1) := by decide +kernel
theorem dX6_lift_57 : decode cX6_lift 57 = .ok (.getfield 11, 3) := by decide +kernel
theorem dX6_lift_60 : decode cX6_lift 60 = .ok (.aload_n 2, 1) := by decide +kernel
theorem dX6_lift_61 : decode cX6_lift 61 = .ok (.getfield 132, 3) := by decide +kernel
theorem dX6_lift_64 : decode cX6_lift 64 = .ok (.aaload, 1) := by decide +kernel
theorem dX6_lift_65 : decode cX6_lift 65 = .ok (.aload_n 2, 1) := by decide +kernel
theorem dX6_lift_66 : decode cX6_lift 66 = .ok (.getfield 133, 3) := by decide +kernel
theorem dX6_lift_69 : decode cX6_lift 69 = .ok (.invokevirtual 70, 3) := by decide +kernel
theorem dX6_lift_72 : decode cX6_lift 72 = .ok (.aload_n 2, 1) := by decide +kernel
theorem dX6_lift_73 : decode cX6_lift 73 = .ok (.getfield 136, 3) := by decide +kernel
theorem dX6_lift_76 : decode cX6_lift 76 = .ok (.aload_n 0, 1) := by decide +kernel
theorem dX6_lift_77 : decode cX6_lift 77 = .ok (.getfield 118, 3) := by decide +kernel
theorem dX6_lift_80 : decode cX6_lift 80 = .ok (.isub, 1) := by decide +kernel
theorem dX6_lift_81 : decode cX6_lift 81 = .ok (.ireturn, 1) := by decide +kernel
theorem dX6_isEmbargoed_0 : decode cX6_isEmbargoed 0 = .ok (.aload_n 0, 1) := by decide +kernel
theorem dX6_isEmbargoed_1 : decode cX6_isEmbargoed 1 = .ok (.iload_n 1, 1) := by decide +kernel
theorem dX6_isEmbargoed_2 : decode cX6_isEmbargoed 2 = .ok (.iload_n 2, 1) := by decide +kernel
theorem dX6_isEmbargoed_3 : decode cX6_isEmbargoed 3 = .ok (.iload_n 3, 1) := by decide +kernel
theorem dX6_isEmbargoed_4 : decode cX6_isEmbargoed 4 = .ok (.invokevirtual 97, 3) := by decide +kernel
theorem dX6_isEmbargoed_7 : decode cX6_isEmbargoed 7 = .ok (.istore 5, 2) := by decide +kernel
theorem dX6_isEmbargoed_9 : decode cX6_isEmbargoed 9 = .ok (.iload 4, 2) := by decide +kernel
theorem dX6_isEmbargoed_11 : decode cX6_isEmbargoed 11 = .ok (.invokestatic 139, 3) := by decide +kernel
theorem dX6_isEmbargoed_14 : decode cX6_isEmbargoed 14 = .ok (.aload_n 0, 1) := by decide +kernel
theorem dX6_isEmbargoed_15 : decode cX6_isEmbargoed 15 = .ok (.iload_n 1, 1) := by decide +kernel
theorem dX6_isEmbargoed_16 : decode cX6_isEmbargoed 16 = .ok (.iload 4, 2) := by decide +kernel
theorem dX6_isEmbargoed_18 : decode cX6_isEmbargoed 18 = .ok (.invokevirtual 143, 3) := by decide +kernel
theorem dX6_isEmbargoed_21 : decode cX6_isEmbargoed 21 = .ok (.iload 5, 2) := by decide +kernel
theorem dX6_isEmbargoed_23 : decode cX6_isEmbargoed 23 = .ok (.invokestatic 147, 3) := by decide +kernel
theorem dX6_isEmbargoed_26 : decode cX6_isEmbargoed 26 = .ok (.ireturn, 1) := by decide +kernel
theorem dX6_pass_0 : decode cX6_pass 0 = .ok (.iload_n 1, 1) := by decide +kernel
theorem dX6_pass_1 : decode cX6_pass 1 = .ok (.iconst 1, 1) := by decide +kernel
theorem dX6_pass_2 : decode cX6_pass 2 = .ok (.if_icmp .lt 9, 3) := by decide +kernel
theorem dX6_pass_5 : decode cX6_pass 5 = .ok (.iload_n 1, 1) := by decide +kernel
theorem dX6_pass_6 : decode cX6_pass 6 = .ok (.bipush 100, 2) := by decide +kernel
theorem dX6_pass_8 : decode cX6_pass 8 = .ok (.if_icmp .le 13, 3) := by decide +kernel
theorem dX6_pass_11 : decode cX6_pass 11 = .ok (.new 46, 3) := by decide +kernel
theorem dX6_pass_14 : decode cX6_pass 14 = .ok (.dup, 1) := by decide +kernel
theorem dX6_pass_15 : decode cX6_pass 15 = .ok (.ldc 111, 2) := by decide +kernel
theorem dX6_pass_17 : decode cX6_pass 17 = .ok (.invokespecial 50, 3) := by decide +kernel
theorem dX6_pass_20 : decode cX6_pass 20 = .ok (.athrow, 1) := by decide +kernel
theorem dX6_pass_21 : decode cX6_pass 21 = .ok (.aload_n 0, 1) := by decide +kernel
theorem dX6_pass_22 : decode cX6_pass 22 = .ok (.getfield 118, 3) := by decide +kernel
theorem dX6_pass_25 : decode cX6_pass 25 = .ok (.iload_n 1, 1) := by decide +kernel
theorem dX6_pass_26 : decode cX6_pass 26 = .ok (.iadd, 1) := by decide +kernel
theorem dX6_pass_27 : decode cX6_pass 27 = .ok (.sipush 10000, 3) := by decide +kernel
theorem dX6_pass_30 : decode cX6_pass 30 = .ok (.if_icmp .le 13, 3) := by decide +kernel
theorem dX6_pass_33 : decode cX6_pass 33 = .ok (.new 55, 3) := by decide +kernel
theorem dX6_pass_36 : decode cX6_pass 36 = .ok (.dup, 1) := by decide +kernel
theorem dX6_pass_37 : decode cX6_pass 37 = .ok (.ldc 151, 2) := by decide +kernel
theorem dX6_pass_39 : decode cX6_pass 39 = .ok (.invokespecial 59, 3) := by decide +kernel
theorem dX6_pass_42 : decode cX6_pass 42 = .ok (.athrow, 1) := by decide +kernel
theorem dX6_pass_43 : decode cX6_pass 43 = .ok (.aload_n 0, 1) := by decide +kernel
theorem dX6_pass_44 : decode cX6_pass 44 = .ok (.getfield 153, 3) := by decide +kernel
theorem dX6_pass_47 : decode cX6_pass 47 = .ok (.istore_n 2, 1) := by decide +kernel
theorem dX6_pass_48 : decode cX6_pass 48 = .ok (.aload_n 0, 1) := by decide +kernel
theorem dX6_pass_49 : decode cX6_pass 49 = .ok (.getfield 118, 3) := by decide +kernel
theorem dX6_pass_52 : decode cX6_pass 52 = .ok (.iload_n 1, 1) := by decide +kernel
theorem dX6_pass_53 : decode cX6_pass 53 = .ok (.iadd, 1) := by decide +kernel
theorem dX6_pass_54 : decode cX6_pass 54 = .ok (.istore_n 3, 1) := by decide +kernel
theorem dX6_pass_55 : decode cX6_pass 55 = .ok (.iconst 0, 1) := by decide +kernel
theorem dX6_pass_56 : decode cX6_pass 56 = .ok (.istore 4, 2) := by decide +kernel
theorem dX6_pass_58 : decode cX6_pass 58 = .ok (.iload 4, 2) := by decide +kernel
theorem dX6_pass_60 : decode cX6_pass 60 = .ok (.aload_n 0, 1) := by decide +kernel
theorem dX6_pass_61 : decode cX6_pass 61 = .ok (.getfield 113, 3) := by decide +kernel
theorem dX6_pass_64 : decode cX6_pass 64 = .ok (.if_icmp .ge 58, 3) := by decide +kernel
theorem dX6_pass_67 : decode cX6_pass 67 = .ok (.aload_n 0, 1) := by decide +kernel
theorem dX6_pass_68 : decode cX6_pass 68 = .ok (.getfield 24, 3) := by decide +kernel
theorem dX6_pass_71 : decode cX6_pass 71 = .ok (.iload 4, 2) := by decide +kernel
theorem dX6_pass_73 : decode cX6_pass 73 = .ok (.aaload, 1) := by decide +kernel
theorem dX6_pass_74 : decode cX6_pass 74 = .ok (.astore 5, 2) := by decide +kernel
theorem dX6_pass_76 : decode cX6_pass 76 = .ok (.aload 5, 2) := by decide +kernel
theorem dX6_pass_78 : decode cX6_pass 78 = .ok (.aload_n 0, 1) := by decide +kernel
theorem dX6_pass_79 : decode cX6_pass 79 = .ok (.getfield 118, 3) := by decide +kernel
theorem dX6_pass_82 : decode cX6_pass 82 = .ok (.invokevirtual 124, 3) := by decide +kernel
theorem dX6_pass_85 : decode cX6_pass 85 = .ok (.ifCond .eq 31, 3) := by decide +kernel
theorem dX6_pass_88 : decode cX6_pass 88 = .ok (.aload 5, 2) := by decide +kernel
theorem dX6_pass_90 : decode cX6_pass 90 = .ok (.iload_n 3, 1) := by decide +kernel
theorem dX6_pass_91 : decode cX6_pass 91 = .ok (.invokevirtual 124, 3) := by decide +kernel
theorem dX6_pass_94 : decode cX6_pass 94 = .ok (.ifCond .ne 22, 3) := by decide +kernel
theorem dX6_pass_97 : decode cX6_pass 97 = .ok (.aload_n 0, 1) := by decide +kernel
theorem dX6_pass_98 : decode cX6_pass 98 = .ok (.aload_n 0, 1) := by decide +kernel
theorem dX6_pass_99 : decode cX6_pass 99 = .ok (.getfield 11, 3) := by decide +kernel
theorem dX6_pass_102 : decode cX6_pass 102 = .ok (.aload 5, 2) := by decide +kernel
theorem dX6_pass_104 : decode cX6_pass 104 = .ok (.getfield 132, 3) := by decide +kernel
theorem dX6_pass_107 : decode cX6_pass 107 = .ok (.aaload, 1) := by decide +kernel
theorem dX6_pass_108 : decode cX6_pass 108 = .ok (.aload 5, 2) := by decide +kernel
theorem dX6_pass_110 : decode cX6_pass 110 = .ok (.getfield 133, 3) := by decide +kernel
theorem dX6_pass_113 : decode cX6_pass 113 = .ok (.invokevirtual 70, 3) := by decide +kernel
theorem dX6_pass_116 : decode cX6_pass 116 = .ok (.iinc 4 1, 3) := by decide +kernel
theorem dX6_pass_119 : decode cX6_pass 119 = .ok (.goto (-61), 3) := by decide +kernel
theorem dX6_pass_122 : decode cX6_pass 122 = .ok (.aload_n 0, 1) := by decide +kernel
theorem dX6_pass_123 : decode cX6_pass 123 = .ok (.iload_n 3, 1) := by decide +kernel
theorem dX6_pass_124 : decode cX6_pass 124 = .ok (.putfield 118, 3) := by decide +kernel
theorem dX6_pass_127 : decode cX6_pass 127 = .ok (.aload_n 0, 1) := by decide +kernel
theorem dX6_pass_128 : decode cX6_pass 128 = .ok (.getfield 153, 3) := by decide +kernel
theorem dX6_pass_131 : decode cX6_pass 131 = .ok (.iload_n 2, 1) := by decide +kernel
theorem dX6_pass_132 : decode cX6_pass 132 = .ok (.isub, 1) := by decide +kernel
theorem dX6_pass_133 : decode cX6_pass 133 = .ok (.ireturn, 1) := by decide +kernel
theorem dX6_build_0 : decode cX6_build 0 = .ok (.aload_n 0, 1) := by decide +kernel
theorem dX6_build_1 : decode cX6_build 1 = .ok (.iload_n 1, 1) := by decide +kernel
theorem dX6_build_2 : decode cX6_build 2 = .ok (.iload_n 2, 1) := by decide +kernel
theorem dX6_build_3 : decode cX6_build 3 = .ok (.invokevirtual 156, 3) := by decide +kernel
end
section
theorem dX6_build_6 : decode cX6_build 6 = .ok (.astore_n 3, 1) := by decide +kernel
theorem dX6_build_7 : decode cX6_build 7 = .ok (.aload_n 0, 1) := by decide +kernel
theorem dX6_build_8 : decode cX6_build 8 = .ok (.iload_n 1, 1) := by decide +kernel
theorem dX6_build_9 : decode cX6_build 9 = .ok (.iload_n 2, 1) := by decide +kernel
theorem dX6_build_10 : decode cX6_build 10 = .ok (.invokevirtual 143, 3) := by decide +kernel
theorem dX6_build_13 : decode cX6_build 13 = .ok (.istore 4, 2) := by decide +kernel
theorem dX6_build_15 : decode cX6_build 15 = .ok (.aload_n 3, 1) := by decide +kernel
theorem dX6_build_16 : decode cX6_build 16 = .ok (.aload_n 0, 1) := by decide +kernel
theorem dX6_build_17 : decode cX6_build 17 = .ok (.getfield 11, 3) := by decide +kernel
theorem dX6_build_20 : decode cX6_build 20 = .ok (.iload_n 1, 1) := by decide +kernel
theorem dX6_build_21 : decode cX6_build 21 = .ok (.aaload, 1) := by decide +kernel
theorem dX6_build_22 : decode cX6_build 22 = .ok (.iload 4, 2) := by decide +kernel
theorem dX6_build_24 : decode cX6_build 24 = .ok (.iload 4, 2) := by decide +kernel
theorem dX6_build_26 : decode cX6_build 26 = .ok (.invokestatic 160, 3) := by decide +kernel
theorem dX6_build_29 : decode cX6_build 29 = .ok (.invokevirtual 166, 3) := by decide +kernel
theorem dX6_build_32 : decode cX6_build 32 = .ok (.aload_n 3, 1) := by decide +kernel
theorem dX6_build_33 : decode cX6_build 33 = .ok (.getfield 172, 3) := by decide +kernel
theorem dX6_build_36 : decode cX6_build 36 = .ok (.invokestatic 175, 3) := by decide +kernel
theorem dX6_build_39 : decode cX6_build 39 = .ok (.ireturn, 1) := by decide +kernel
theorem dX6_isBuilt_0 : decode cX6_isBuilt 0 = .ok (.aload_n 0, 1) := by decide +kernel
theorem dX6_isBuilt_1 : decode cX6_isBuilt 1 = .ok (.iload_n 1, 1) := by decide +kernel
theorem dX6_isBuilt_2 : decode cX6_isBuilt 2 = .ok (.iload_n 2, 1) := by decide +kernel
theorem dX6_isBuilt_3 : decode cX6_isBuilt 3 = .ok (.invokevirtual 156, 3) := by decide +kernel
theorem dX6_isBuilt_6 : decode cX6_isBuilt 6 = .ok (.getfield 180, 3) := by decide +kernel
theorem dX6_isBuilt_9 : decode cX6_isBuilt 9 = .ok (.ireturn, 1) := by decide +kernel
theorem dX6_shown_0 : decode cX6_shown 0 = .ok (.aload_n 0, 1) := by decide +kernel
theorem dX6_shown_1 : decode cX6_shown 1 = .ok (.iload_n 1, 1) := by decide +kernel
theorem dX6_shown_2 : decode cX6_shown 2 = .ok (.iload_n 2, 1) := by decide +kernel
theorem dX6_shown_3 : decode cX6_shown 3 = .ok (.invokevirtual 156, 3) := by decide +kernel
theorem dX6_shown_6 : decode cX6_shown 6 = .ok (.astore 5, 2) := by decide +kernel
theorem dX6_shown_8 : decode cX6_shown 8 = .ok (.aload_n 0, 1) := by decide +kernel
theorem dX6_shown_9 : decode cX6_shown 9 = .ok (.iload_n 1, 1) := by decide +kernel
theorem dX6_shown_10 : decode cX6_shown 10 = .ok (.iload_n 3, 1) := by decide +kernel
theorem dX6_shown_11 : decode cX6_shown 11 = .ok (.iload 4, 2) := by decide +kernel
theorem dX6_shown_13 : decode cX6_shown 13 = .ok (.invokevirtual 97, 3) := by decide +kernel
theorem dX6_shown_16 : decode cX6_shown 16 = .ok (.istore 6, 2) := by decide +kernel
theorem dX6_shown_18 : decode cX6_shown 18 = .ok (.aload 5, 2) := by decide +kernel
theorem dX6_shown_20 : decode cX6_shown 20 = .ok (.getfield 180, 3) := by decide +kernel
theorem dX6_shown_23 : decode cX6_shown 23 = .ok (.ifCond .ne 13, 3) := by decide +kernel
theorem dX6_shown_26 : decode cX6_shown 26 = .ok (.new 55, 3) := by decide +kernel
theorem dX6_shown_29 : decode cX6_shown 29 = .ok (.dup, 1) := by decide +kernel
theorem dX6_shown_30 : decode cX6_shown 30 = .ok (.ldc 183, 2) := by decide +kernel
theorem dX6_shown_32 : decode cX6_shown 32 = .ok (.invokespecial 59, 3) := by decide +kernel
theorem dX6_shown_35 : decode cX6_shown 35 = .ok (.athrow, 1) := by decide +kernel
theorem dX6_shown_36 : decode cX6_shown 36 = .ok (.aload 5, 2) := by decide +kernel
theorem dX6_shown_38 : decode cX6_shown 38 = .ok (.getfield 172, 3) := by decide +kernel
theorem dX6_shown_41 : decode cX6_shown 41 = .ok (.iload 6, 2) := by decide +kernel
theorem dX6_shown_43 : decode cX6_shown 43 = .ok (.invokestatic 147, 3) := by decide +kernel
theorem dX6_shown_46 : decode cX6_shown 46 = .ok (.ifCond .eq 8, 3) := by decide +kernel
theorem dX6_shown_49 : decode cX6_shown 49 = .ok (.ldc 185, 2) := by decide +kernel
theorem dX6_shown_51 : decode cX6_shown 51 = .ok (.goto 11, 3) := by decide +kernel
theorem dX6_shown_54 : decode cX6_shown 54 = .ok (.aload 5, 2) := by decide +kernel
theorem dX6_shown_56 : decode cX6_shown 56 = .ok (.getfield 186, 3) := by decide +kernel
theorem dX6_shown_59 : decode cX6_shown 59 = .ok (.iload 6, 2) := by decide +kernel
theorem dX6_shown_61 : decode cX6_shown 61 = .ok (.iaload, 1) := by decide +kernel
theorem dX6_shown_62 : decode cX6_shown 62 = .ok (.ireturn, 1) := by decide +kernel
theorem dX6_why_0 : decode cX6_why 0 = .ok (.aload_n 0, 1) := by decide +kernel
theorem dX6_why_1 : decode cX6_why 1 = .ok (.iload_n 1, 1) := by decide +kernel
theorem dX6_why_2 : decode cX6_why 2 = .ok (.iload_n 2, 1) := by decide +kernel
theorem dX6_why_3 : decode cX6_why 3 = .ok (.invokevirtual 156, 3) := by decide +kernel
theorem dX6_why_6 : decode cX6_why 6 = .ok (.astore 5, 2) := by decide +kernel
theorem dX6_why_8 : decode cX6_why 8 = .ok (.aload_n 0, 1) := by decide +kernel
theorem dX6_why_9 : decode cX6_why 9 = .ok (.iload_n 1, 1) := by decide +kernel
theorem dX6_why_10 : decode cX6_why 10 = .ok (.iload_n 3, 1) := by decide +kernel
theorem dX6_why_11 : decode cX6_why 11 = .ok (.iload 4, 2) := by decide +kernel
theorem dX6_why_13 : decode cX6_why 13 = .ok (.invokevirtual 97, 3) := by decide +kernel
theorem dX6_why_16 : decode cX6_why 16 = .ok (.istore 6, 2) := by decide +kernel
theorem dX6_why_18 : decode cX6_why 18 = .ok (.aload 5, 2) := by decide +kernel
theorem dX6_why_20 : decode cX6_why 20 = .ok (.getfield 180, 3) := by decide +kernel
theorem dX6_why_23 : decode cX6_why 23 = .ok (.ifCond .ne 5, 3) := by decide +kernel
theorem dX6_why_26 : decode cX6_why 26 = .ok (.iconst 3, 1) := by decide +kernel
theorem dX6_why_27 : decode cX6_why 27 = .ok (.ireturn, 1) := by decide +kernel
theorem dX6_why_28 : decode cX6_why 28 = .ok (.aload 5, 2) := by decide +kernel
theorem dX6_why_30 : decode cX6_why 30 = .ok (.getfield 189, 3) := by decide +kernel
theorem dX6_why_33 : decode cX6_why 33 = .ok (.iload 6, 2) := by decide +kernel
theorem dX6_why_35 : decode cX6_why 35 = .ok (.invokestatic 147, 3) := by decide +kernel
theorem dX6_why_38 : decode cX6_why 38 = .ok (.ifCond .eq 5, 3) := by decide +kernel
theorem dX6_why_41 : decode cX6_why 41 = .ok (.iconst 1, 1) := by decide +kernel
theorem dX6_why_42 : decode cX6_why 42 = .ok (.ireturn, 1) := by decide +kernel
theorem dX6_why_43 : decode cX6_why 43 = .ok (.aload 5, 2) := by decide +kernel
theorem dX6_why_45 : decode cX6_why 45 = .ok (.getfield 172, 3) := by decide +kernel
theorem dX6_why_48 : decode cX6_why 48 = .ok (.iload 6, 2) := by decide +kernel
theorem dX6_why_50 : decode cX6_why 50 = .ok (.invokestatic 147, 3) := by decide +kernel
theorem dX6_why_53 : decode cX6_why 53 = .ok (.ifCond .eq 7, 3) := by decide +kernel
theorem dX6_why_56 : decode cX6_why 56 = .ok (.iconst 2, 1) := by decide +kernel
theorem dX6_why_57 : decode cX6_why 57 = .ok (.goto 4, 3) := by decide +kernel
theorem dX6_why_60 : decode cX6_why 60 = .ok (.iconst 0, 1) := by decide +kernel
theorem dX6_why_61 : decode cX6_why 61 = .ok (.ireturn, 1) := by decide +kernel
theorem dX6_read_0 : decode cX6_read 0 = .ok (.aload_n 0, 1) := by decide +kernel
theorem dX6_read_1 : decode cX6_read 1 = .ok (.iload_n 1, 1) := by decide +kernel
theorem dX6_read_2 : decode cX6_read 2 = .ok (.iload_n 2, 1) := by decide +kernel
theorem dX6_read_3 : decode cX6_read 3 = .ok (.invokevirtual 156, 3) := by decide +kernel
theorem dX6_read_6 : decode cX6_read 6 = .ok (.astore_n 3, 1) := by decide +kernel
theorem dX6_read_7 : decode cX6_read 7 = .ok (.aload_n 3, 1) := by decide +kernel
theorem dX6_read_8 : decode cX6_read 8 = .ok (.getfield 180, 3) := by decide +kernel
theorem dX6_read_11 : decode cX6_read 11 = .ok (.ifCond .ne 13, 3) := by decide +kernel
theorem dX6_read_14 : decode cX6_read 14 = .ok (.new 55, 3) := by decide +kernel
theorem dX6_read_17 : decode cX6_read 17 = .ok (.dup, 1) := by decide +kernel
theorem dX6_read_18 : decode cX6_read 18 = .ok (.ldc 183, 2) := by decide +kernel
theorem dX6_read_20 : decode cX6_read 20 = .ok (.invokespecial 59, 3) := by decide +kernel
theorem dX6_read_23 : decode cX6_read 23 = .ok (.athrow, 1) := by decide +kernel
theorem dX6_read_24 : decode cX6_read 24 = .ok (.aload_n 3, 1) := by decide +kernel
theorem dX6_read_25 : decode cX6_read 25 = .ok (.getfield 192, 3) := by decide +kernel
theorem dX6_read_28 : decode cX6_read 28 = .ok (.ireturn, 1) := by decide +kernel
theorem dX6_dropped_0 : decode cX6_dropped 0 = .ok (.aload_n 0, 1) := by decide +kernel
theorem dX6_dropped_1 : decode cX6_dropped 1 = .ok (.getfield 153, 3) := by decide +kernel
theorem dX6_dropped_4 : decode cX6_dropped 4 = .ok (.ireturn, 1) := by decide +kernel
theorem dX6_mark_0 : decode cX6_mark 0 = .ok (.iload_n 1, 1) := by decide +kernel
theorem dX6_mark_1 : decode cX6_mark 1 = .ok (.iload_n 2, 1) := by decide +kernel
theorem dX6_mark_2 : decode cX6_mark 2 = .ok (.invokestatic 195, 3) := by decide +kernel
theorem dX6_mark_5 : decode cX6_mark 5 = .ok (.istore_n 3, 1) := by decide +kernel
theorem dX6_mark_6 : decode cX6_mark 6 = .ok (.aload_n 0, 1) := by decide +kernel
theorem dX6_mark_7 : decode cX6_mark 7 = .ok (.dup, 1) := by decide +kernel
theorem dX6_mark_8 : decode cX6_mark 8 = .ok (.getfield 198, 3) := by decide +kernel
theorem dX6_mark_11 : decode cX6_mark 11 = .ok (.iconst 1, 1) := by decide +kernel
theorem dX6_mark_12 : decode cX6_mark 12 = .ok (.iload_n 3, 1) := by decide +kernel
theorem dX6_mark_13 : decode cX6_mark 13 = .ok (.ishl, 1) := by decide +kernel
theorem dX6_mark_14 : decode cX6_mark 14 = .ok (.ixor, 1) := by decide +kernel
theorem dX6_mark_15 : decode cX6_mark 15 = .ok (.putfield 198, 3) := by decide +kernel
theorem dX6_mark_18 : decode cX6_mark 18 = .ok (.aload_n 0, 1) := by decide +kernel
theorem dX6_mark_19 : decode cX6_mark 19 = .ok (.getfield 198, 3) := by decide +kernel
theorem dX6_mark_22 : decode cX6_mark 22 = .ok (.iload_n 3, 1) := by decide +kernel
theorem dX6_mark_23 : decode cX6_mark 23 = .ok (.invokestatic 147, 3) := by decide +kernel
theorem dX6_mark_26 : decode cX6_mark 26 = .ok (.ireturn, 1) := by decide +kernel
theorem dX6_clear_0 : decode cX6_clear 0 = .ok (.aload_n 0, 1) := by decide +kernel
theorem dX6_clear_1 : decode cX6_clear 1 = .ok (.getfield 198, 3) := by decide +kernel
theorem dX6_clear_4 : decode cX6_clear 4 = .ok (.invokestatic 175, 3) := by decide +kernel
theorem dX6_clear_7 : decode cX6_clear 7 = .ok (.istore_n 1, 1) := by decide +kernel
theorem dX6_clear_8 : decode cX6_clear 8 = .ok (.aload_n 0, 1) := by decide +kernel
theorem dX6_clear_9 : decode cX6_clear 9 = .ok (.iconst 0, 1) := by decide +kernel
theorem dX6_clear_10 : decode cX6_clear 10 = .ok (.putfield 198, 3) := by decide +kernel
theorem dX6_clear_13 : decode cX6_clear 13 = .ok (.iload_n 1, 1) := by decide +kernel
theorem dX6_clear_14 : decode cX6_clear 14 = .ok (.ireturn, 1) := by decide +kernel
theorem dX6_isKnown_0 : decode cX6_isKnown 0 = .ok (.iload_n 1, 1) := by decide +kernel
theorem dX6_isKnown_1 : decode cX6_isKnown 1 = .ok (.iload_n 2, 1) := by decide +kernel
theorem dX6_isKnown_2 : decode cX6_isKnown 2 = .ok (.invokestatic 195, 3) := by decide +kernel
theorem dX6_isKnown_5 : decode cX6_isKnown 5 = .ok (.istore_n 3, 1) := by decide +kernel
theorem dX6_isKnown_6 : decode cX6_isKnown 6 = .ok (.aload_n 0, 1) := by decide +kernel
theorem dX6_isKnown_7 : decode cX6_isKnown 7 = .ok (.getfield 198, 3) := by decide +kernel
theorem dX6_isKnown_10 : decode cX6_isKnown 10 = .ok (.iload_n 3, 1) := by decide +kernel
theorem dX6_isKnown_11 : decode cX6_isKnown 11 = .ok (.invokestatic 147, 3) := by decide +kernel
theorem dX6_isKnown_14 : decode cX6_isKnown 14 = .ok (.ifCond .eq 14, 3) := by decide +kernel
theorem dX6_isKnown_17 : decode cX6_isKnown 17 = .ok (.aload_n 0, 1) := by decide +kernel
theorem dX6_isKnown_18 : decode cX6_isKnown 18 = .ok (.getfield 198, 3) := by decide +kernel
theorem dX6_isKnown_21 : decode cX6_isKnown 21 = .ok (.iload_n 3, 1) := by decide +kernel
theorem dX6_isKnown_22 : decode cX6_isKnown 22 = .ok (.invokestatic 201, 3) := by decide +kernel
theorem dX6_isKnown_25 : decode cX6_isKnown 25 = .ok (.ifCond .ne 7, 3) := by decide +kernel
theorem dX6_isKnown_28 : decode cX6_isKnown 28 = .ok (.iconst 1, 1) := by decide +kernel
theorem dX6_isKnown_29 : decode cX6_isKnown 29 = .ok (.goto 4, 3) := by decide +kernel
theorem dX6_isKnown_32 : decode cX6_isKnown 32 = .ok (.iconst 0, 1) := by decide +kernel
theorem dX6_isKnown_33 : decode cX6_isKnown 33 = .ok (.ireturn, 1) := by decide +kernel
theorem dX6_isKnownBySolving_0 : decode cX6_isKnownBySolving 0 = .ok (.iload_n 1, 1) := by decide +kernel
theorem dX6_isKnownBySolving_1 : decode cX6_isKnownBySolving 1 = .ok (.iload_n 2, 1) := by decide +kernel
theorem dX6_isKnownBySolving_2 : decode cX6_isKnownBySolving 2 = .ok (.invokestatic 195, 3) := by decide +kernel
theorem dX6_isKnownBySolving_5 : decode cX6_isKnownBySolving 5 = .ok (.istore_n 3, 1) := by decide +kernel
theorem dX6_isKnownBySolving_6 : decode cX6_isKnownBySolving 6 = .ok (.aload_n 0, 1) := by decide +kernel
theorem dX6_isKnownBySolving_7 : decode cX6_isKnownBySolving 7 = .ok (.getfield 198, 3) := by decide +kernel
theorem dX6_isKnownBySolving_10 : decode cX6_isKnownBySolving 10 = .ok (.iload_n 3, 1) := by decide +kernel
theorem dX6_isKnownBySolving_11 : decode cX6_isKnownBySolving 11 = .ok (.invokestatic 147, 3) := by decide +kernel
theorem dX6_isKnownBySolving_14 : decode cX6_isKnownBySolving 14 = .ok (.ifCond .eq 18, 3) := by decide +kernel
theorem dX6_isKnownBySolving_17 : decode cX6_isKnownBySolving 17 = .ok (.aload_n 0, 1) := by decide +kernel
theorem dX6_isKnownBySolving_18 : decode cX6_isKnownBySolving 18 = .ok (.getfield 31, 3) := by decide +kernel
theorem dX6_isKnownBySolving_21 : decode cX6_isKnownBySolving 21 = .ok (.aload_n 0, 1) := by decide +kernel
theorem dX6_isKnownBySolving_22 : decode cX6_isKnownBySolving 22 = .ok (.getfield 198, 3) := by decide +kernel
theorem dX6_isKnownBySolving_25 : decode cX6_isKnownBySolving 25 = .ok (.iload_n 3, 1) := by decide +kernel
theorem dX6_isKnownBySolving_26 : decode cX6_isKnownBySolving 26 = .ok (.invokevirtual 204, 3) := by decide +kernel
theorem dX6_isKnownBySolving_29 : decode cX6_isKnownBySolving 29 = .ok (.ifCond .eq 7, 3) := by decide +kernel
theorem dX6_isKnownBySolving_32 : decode cX6_isKnownBySolving 32 = .ok (.iconst 1, 1) := by decide +kernel
theorem dX6_isKnownBySolving_33 : decode cX6_isKnownBySolving 33 = .ok (.goto 4, 3) := by decide +kernel
theorem dX6_isKnownBySolving_36 : decode cX6_isKnownBySolving 36 = .ok (.iconst 0, 1) := by decide +kernel
theorem dX6_isKnownBySolving_37 : decode cX6_isKnownBySolving 37 = .ok (.ireturn, 1) := by decide +kernel
theorem dX6_cover_0 : decode cX6_cover 0 = .ok (.aload_n 0, 1) := by decide +kernel
theorem dX6_cover_1 : decode cX6_cover 1 = .ok (.getfield 198, 3) := by decide +kernel
theorem dX6_cover_4 : decode cX6_cover 4 = .ok (.invokestatic 175, 3) := by decide +kernel
theorem dX6_cover_7 : decode cX6_cover 7 = .ok (.istore_n 1, 1) := by decide +kernel
theorem dX6_cover_8 : decode cX6_cover 8 = .ok (.aload_n 0, 1) := by decide +kernel
theorem dX6_cover_9 : decode cX6_cover 9 = .ok (.aload_n 0, 1) := by decide +kernel
theorem dX6_cover_10 : decode cX6_cover 10 = .ok (.getfield 198, 3) := by decide +kernel
theorem dX6_cover_13 : decode cX6_cover 13 = .ok (.invokestatic 160, 3) := by decide +kernel
theorem dX6_cover_16 : decode cX6_cover 16 = .ok (.putfield 198, 3) := by decide +kernel
theorem dX6_cover_19 : decode cX6_cover 19 = .ok (.aload_n 0, 1) := by decide +kernel
theorem dX6_cover_20 : decode cX6_cover 20 = .ok (.getfield 198, 3) := by decide +kernel
theorem dX6_cover_23 : decode cX6_cover 23 = .ok (.invokestatic 175, 3) := by decide +kernel
theorem dX6_cover_26 : decode cX6_cover 26 = .ok (.iload_n 1, 1) := by decide +kernel
theorem dX6_cover_27 : decode cX6_cover 27 = .ok (.isub, 1) := by decide +kernel
theorem dX6_cover_28 : decode cX6_cover 28 = .ok (.ireturn, 1) := by decide +kernel
theorem dX6_tableAt_0 : decode cX6_tableAt 0 = .ok (.iload_n 1, 1) := by decide +kernel
theorem dX6_tableAt_1 : decode cX6_tableAt 1 = .ok (.ifCond .lt 8, 3) := by decide +kernel
theorem dX6_tableAt_4 : decode cX6_tableAt 4 = .ok (.iload_n 1, 1) := by decide +kernel
theorem dX6_tableAt_5 : decode cX6_tableAt 5 = .ok (.iconst 3, 1) := by decide +kernel
theorem dX6_tableAt_6 : decode cX6_tableAt 6 = .ok (.if_icmp .lt 13, 3) := by decide +kernel
theorem dX6_tableAt_9 : decode cX6_tableAt 9 = .ok (.new 39, 3) := by decide +kernel
theorem dX6_tableAt_12 : decode cX6_tableAt 12 = .ok (.dup, 1) := by decide +kernel
theorem dX6_tableAt_13 : decode cX6_tableAt 13 = .ok (.ldc 207, 2) := by decide +kernel
theorem dX6_tableAt_15 : decode cX6_tableAt 15 = .ok (.invokespecial 43, 3) := by decide +kernel
theorem dX6_tableAt_18 : decode cX6_tableAt 18 = .ok (.athrow, 1) := by decide +kernel
theorem dX6_tableAt_19 : decode cX6_tableAt 19 = .ok (.aload_n 0, 1) := by decide +kernel
theorem dX6_tableAt_20 : decode cX6_tableAt 20 = .ok (.getfield 11, 3) := by decide +kernel
theorem dX6_tableAt_23 : decode cX6_tableAt 23 = .ok (.iload_n 1, 1) := by decide +kernel
theorem dX6_tableAt_24 : decode cX6_tableAt 24 = .ok (.aaload, 1) := by decide +kernel
theorem dX6_tableAt_25 : decode cX6_tableAt 25 = .ok (.areturn, 1) := by decide +kernel
theorem dX6_reportAt_0 : decode cX6_reportAt 0 = .ok (.aload_n 0, 1) := by decide +kernel
theorem dX6_reportAt_1 : decode cX6_reportAt 1 = .ok (.iload_n 1, 1) := by decide +kernel
theorem dX6_reportAt_2 : decode cX6_reportAt 2 = .ok (.invokevirtual 35, 3) := by decide +kernel
theorem dX6_reportAt_5 : decode cX6_reportAt 5 = .ok (.astore_n 3, 1) := by decide +kernel
theorem dX6_reportAt_6 : decode cX6_reportAt 6 = .ok (.iload_n 2, 1) := by decide +kernel
theorem dX6_reportAt_7 : decode cX6_reportAt 7 = .ok (.invokestatic 139, 3) := by decide +kernel
theorem dX6_reportAt_10 : decode cX6_reportAt 10 = .ok (.aload_n 3, 1) := by decide +kernel
theorem dX6_reportAt_11 : decode cX6_reportAt 11 = .ok (.getfield 209, 3) := by decide +kernel
theorem dX6_reportAt_14 : decode cX6_reportAt 14 = .ok (.iload_n 2, 1) := by decide +kernel
theorem dX6_reportAt_15 : decode cX6_reportAt 15 = .ok (.aaload, 1) := by decide +kernel
theorem dX6_reportAt_16 : decode cX6_reportAt 16 = .ok (.areturn, 1) := by decide +kernel
theorem dX6_refuseStrangeLevel_0 : decode cX6_refuseStrangeLevel 0 = .ok (.iload_n 0, 1) := by decide +kernel
theorem dX6_refuseStrangeLevel_1 : decode cX6_refuseStrangeLevel 1 = .ok (.ifCond .lt 8, 3) := by decide +kernel
theorem dX6_refuseStrangeLevel_4 : decode cX6_refuseStrangeLevel 4 = .ok (.iload_n 0, 1) := by decide +kernel
theorem dX6_refuseStrangeLevel_5 : decode cX6_refuseStrangeLevel 5 = .ok (.iconst 4, 1) := by decide +kernel
theorem dX6_refuseStrangeLevel_6 : decode cX6_refuseStrangeLevel 6 = .ok (.if_icmp .lt 13, 3) := by decide +kernel
theorem dX6_refuseStrangeLevel_9 : decode cX6_refuseStrangeLevel 9 = .ok (.new 39, 3) := by decide +kernel
theorem dX6_refuseStrangeLevel_12 : decode cX6_refuseStrangeLevel 12 = .ok (.dup, 1) := by decide +kernel
theorem dX6_refuseStrangeLevel_13 : decode cX6_refuseStrangeLevel 13 = .ok (.ldc 213, 2) := by decide +kernel
theorem dX6_refuseStrangeLevel_15 : decode cX6_refuseStrangeLevel 15 = .ok (.invokespecial 43, 3) := by decide +kernel
theorem dX6_refuseStrangeLevel_18 : decode cX6_refuseStrangeLevel 18 = .ok (.athrow, 1) := by decide +kernel
theorem dX6_refuseStrangeLevel_19 : decode cX6_refuseStrangeLevel 19 = .ok (.return_, 1) := by decide +kernel
theorem dX6_entryOfTable_0 : decode cX6_entryOfTable 0 = .ok (.aload_n 0, 1) := by decide +kernel
theorem dX6_entryOfTable_1 : decode cX6_entryOfTable 1 = .ok (.iload_n 1, 1) := by decide +kernel
theorem dX6_entryOfTable_2 : decode cX6_entryOfTable 2 = .ok (.invokevirtual 35, 3) := by decide +kernel
theorem dX6_entryOfTable_5 : decode cX6_entryOfTable 5 = .ok (.getfield 94, 3) := by decide +kernel
theorem dX6_entryOfTable_8 : decode cX6_entryOfTable 8 = .ok (.ifCond .eq 11, 3) := by decide +kernel
theorem dX6_entryOfTable_11 : decode cX6_entryOfTable 11 = .ok (.iload_n 3, 1) := by decide +kernel
theorem dX6_entryOfTable_12 : decode cX6_entryOfTable 12 = .ok (.iload_n 2, 1) := by decide +kernel
theorem dX6_entryOfTable_13 : decode cX6_entryOfTable 13 = .ok (.invokestatic 195, 3) := by decide +kernel
theorem dX6_entryOfTable_16 : decode cX6_entryOfTable 16 = .ok (.goto 8, 3) := by decide +kernel
theorem dX6_entryOfTable_19 : decode cX6_entryOfTable 19 = .ok (.iload_n 2, 1) := by decide +kernel
theorem dX6_entryOfTable_20 : decode cX6_entryOfTable 20 = .ok (.iload_n 3, 1) := by decide +kernel
theorem dX6_entryOfTable_21 : decode cX6_entryOfTable 21 = .ok (.invokestatic 195, 3) := by decide +kernel
theorem dX6_entryOfTable_24 : decode cX6_entryOfTable 24 = .ok (.ireturn, 1) := by decide +kernel
theorem dX6_entryAt_0 : decode cX6_entryAt 0 = .ok (.iload_n 0, 1) := by decide +kernel
theorem dX6_entryAt_1 : decode cX6_entryAt 1 = .ok (.ifCond .lt 18, 3) := by decide +kernel
theorem dX6_entryAt_4 : decode cX6_entryAt 4 = .ok (.iload_n 0, 1) := by decide +kernel
theorem dX6_entryAt_5 : decode cX6_entryAt 5 = .ok (.iconst 5, 1) := by decide +kernel
theorem dX6_entryAt_6 : decode cX6_entryAt 6 = .ok (.if_icmp .ge 13, 3) := by decide +kernel
theorem dX6_entryAt_9 : decode cX6_entryAt 9 = .ok (.iload_n 1, 1) := by decide +kernel
theorem dX6_entryAt_10 : decode cX6_entryAt 10 = .ok (.ifCond .lt 9, 3) := by decide +kernel
theorem dX6_entryAt_13 : decode cX6_entryAt 13 = .ok (.iload_n 1, 1) := by decide +kernel
theorem dX6_entryAt_14 : decode cX6_entryAt 14 = .ok (.bipush 6, 2) := by decide +kernel
theorem dX6_entryAt_16 : decode cX6_entryAt 16 = .ok (.if_icmp .lt 13, 3) := by decide +kernel
theorem dX6_entryAt_19 : decode cX6_entryAt 19 = .ok (.new 39, 3) := by decide +kernel
theorem dX6_entryAt_22 : decode cX6_entryAt 22 = .ok (.dup, 1) := by decide +kernel
theorem dX6_entryAt_23 : decode cX6_entryAt 23 = .ok (.ldc 215, 2) := by decide +kernel
theorem dX6_entryAt_25 : decode cX6_entryAt 25 = .ok (.invokespecial 43, 3) := by decide +kernel
theorem dX6_entryAt_28 : decode cX6_entryAt 28 = .ok (.athrow, 1) := by decide +kernel
theorem dX6_entryAt_29 : decode cX6_entryAt 29 = .ok (.iload_n 0, 1) := by decide +kernel
theorem dX6_entryAt_30 : decode cX6_entryAt 30 = .ok (.bipush 6, 2) := by decide +kernel
theorem dX6_entryAt_32 : decode cX6_entryAt 32 = .ok (.imul, 1) := by decide +kernel
theorem dX6_entryAt_33 : decode cX6_entryAt 33 = .ok (.iload_n 1, 1) := by decide +kernel
theorem dX6_entryAt_34 : decode cX6_entryAt 34 = .ok (.iadd, 1) := by decide +kernel
theorem dX6_entryAt_35 : decode cX6_entryAt 35 = .ok (.ireturn, 1) := by decide +kernel
theorem dX6_contains_0 : decode cX6_contains 0 = .ok (.iload_n 0, 1) := by decide +kernel
theorem dX6_contains_1 : decode cX6_contains 1 = .ok (.iconst 1, 1) := by decide +kernel
theorem dX6_contains_2 : decode cX6_contains 2 = .ok (.iload_n 1, 1) := by decide +kernel
theorem dX6_contains_3 : decode cX6_contains 3 = .ok (.ishl, 1) := by decide +kernel
theorem dX6_contains_4 : decode cX6_contains 4 = .ok (.iand, 1) := by decide +kernel
theorem dX6_contains_5 : decode cX6_contains 5 = .ok (.ifCond .eq 7, 3) := by decide +kernel
theorem dX6_contains_8 : decode cX6_contains 8 = .ok (.iconst 1, 1) := by decide +kernel
theorem dX6_contains_9 : decode cX6_contains 9 = .ok (.goto 4, 3) := by decide +kernel
theorem dX6_contains_12 : decode cX6_contains 12 = .ok (.iconst 0, 1) := by decide +kernel
theorem dX6_contains_13 : decode cX6_contains 13 = .ok (.ireturn, 1) := by decide +kernel
theorem dX6_embargoedFor_0 : decode cX6_embargoedFor 0 = .ok (.iconst 0, 1) := by decide +kernel
theorem dX6_embargoedFor_1 : decode cX6_embargoedFor 1 = .ok (.istore_n 3, 1) := by decide +kernel
theorem dX6_embargoedFor_2 : decode cX6_embargoedFor 2 = .ok (.iconst 0, 1) := by decide +kernel
theorem dX6_embargoedFor_3 : decode cX6_embargoedFor 3 = .ok (.istore 4, 2) := by decide +kernel
theorem dX6_embargoedFor_5 : decode cX6_embargoedFor 5 = .ok (.iload 4, 2) := by decide +kernel
theorem dX6_embargoedFor_7 : decode cX6_embargoedFor 7 = .ok (.aload_n 0, 1) := by decide +kernel
theorem dX6_embargoedFor_8 : decode cX6_embargoedFor 8 = .ok (.getfield 113, 3) := by decide +kernel
theorem dX6_embargoedFor_11 : decode cX6_embargoedFor 11 = .ok (.if_icmp .ge 58, 3) := by decide +kernel
theorem dX6_embargoedFor_14 : decode cX6_embargoedFor 14 = .ok (.aload_n 0, 1) := by decide +kernel
theorem dX6_embargoedFor_15 : decode cX6_embargoedFor 15 = .ok (.getfield 24, 3) := by decide +kernel
theorem dX6_embargoedFor_18 : decode cX6_embargoedFor 18 = .ok (.iload 4, 2) := by decide +kernel
theorem dX6_embargoedFor_20 : decode cX6_embargoedFor 20 = .ok (.aaload, 1) := by decide +kernel
theorem dX6_embargoedFor_21 : decode cX6_embargoedFor 21 = .ok (.astore 5, 2) := by decide +kernel
theorem dX6_embargoedFor_23 : decode cX6_embargoedFor 23 = .ok (.aload 5, 2) := by decide +kernel
theorem dX6_embargoedFor_25 : decode cX6_embargoedFor 25 = .ok (.getfield 132, 3) := by decide +kernel
theorem dX6_embargoedFor_28 : decode cX6_embargoedFor 28 = .ok (.iload_n 1, 1) := by decide +kernel
theorem dX6_embargoedFor_29 : decode cX6_embargoedFor 29 = .ok (.if_icmp .ne 34, 3) := by decide +kernel
theorem dX6_embargoedFor_32 : decode cX6_embargoedFor 32 = .ok (.aload 5, 2) := by decide +kernel
theorem dX6_embargoedFor_34 : decode cX6_embargoedFor 34 = .ok (.getfield 133, 3) := by decide +kernel
theorem dX6_embargoedFor_37 : decode cX6_embargoedFor 37 = .ok (.iload_n 2, 1) := by decide +kernel
theorem dX6_embargoedFor_38 : decode cX6_embargoedFor 38 = .ok (.if_icmp .le 25, 3) := by decide +kernel
theorem dX6_embargoedFor_41 : decode cX6_embargoedFor 41 = .ok (.aload 5, 2) := by decide +kernel
theorem dX6_embargoedFor_43 : decode cX6_embargoedFor 43 = .ok (.aload_n 0, 1) := by decide +kernel
theorem dX6_embargoedFor_44 : decode cX6_embargoedFor 44 = .ok (.getfield 118, 3) := by decide +kernel
theorem dX6_embargoedFor_47 : decode cX6_embargoedFor 47 = .ok (.invokevirtual 124, 3) := by decide +kernel
theorem dX6_embargoedFor_50 : decode cX6_embargoedFor 50 = .ok (.ifCond .eq 13, 3) := by decide +kernel
theorem dX6_embargoedFor_53 : decode cX6_embargoedFor 53 = .ok (.iload_n 3, 1) := by decide +kernel
theorem dX6_embargoedFor_54 : decode cX6_embargoedFor 54 = .ok (.iconst 1, 1) := by decide +kernel
theorem dX6_embargoedFor_55 : decode cX6_embargoedFor 55 = .ok (.aload 5, 2) := by decide +kernel
theorem dX6_embargoedFor_57 : decode cX6_embargoedFor 57 = .ok (.getfield 217, 3) := by decide +kernel
theorem dX6_embargoedFor_60 : decode cX6_embargoedFor 60 = .ok (.ishl, 1) := by decide +kernel
theorem dX6_embargoedFor_61 : decode cX6_embargoedFor 61 = .ok (.ior, 1) := by decide +kernel
theorem dX6_embargoedFor_62 : decode cX6_embargoedFor 62 = .ok (.istore_n 3, 1) := by decide +kernel
theorem dX6_embargoedFor_63 : decode cX6_embargoedFor 63 = .ok (.iinc 4 1, 3) := by decide +kernel
theorem dX6_embargoedFor_66 : decode cX6_embargoedFor 66 = .ok (.goto (-61), 3) := by decide +kernel
theorem dX6_embargoedFor_69 : decode cX6_embargoedFor 69 = .ok (.iload_n 3, 1) := by decide +kernel
theorem dX6_embargoedFor_70 : decode cX6_embargoedFor 70 = .ok (.ireturn, 1) := by decide +kernel
theorem dX6_dropBelow_0 : decode cX6_dropBelow 0 = .ok (.iconst 0, 1) := by decide +kernel
theorem dX6_dropBelow_1 : decode cX6_dropBelow 1 = .ok (.istore_n 3, 1) := by decide +kernel
theorem dX6_dropBelow_2 : decode cX6_dropBelow 2 = .ok (.iload_n 3, 1) := by decide +kernel
theorem dX6_dropBelow_3 : decode cX6_dropBelow 3 = .ok (.iload_n 2, 1) := by decide +kernel
theorem dX6_dropBelow_4 : decode cX6_dropBelow 4 = .ok (.if_icmp .ge 41, 3) := by decide +kernel
theorem dX6_dropBelow_7 : decode cX6_dropBelow 7 = .ok (.aload_n 1, 1) := by decide +kernel
theorem dX6_dropBelow_8 : decode cX6_dropBelow 8 = .ok (.getfield 209, 3) := by decide +kernel
theorem dX6_dropBelow_11 : decode cX6_dropBelow 11 = .ok (.iload_n 3, 1) := by decide +kernel
theorem dX6_dropBelow_12 : decode cX6_dropBelow 12 = .ok (.aaload, 1) := by decide +kernel
theorem dX6_dropBelow_13 : decode cX6_dropBelow 13 = .ok (.getfield 180, 3) := by decide +kernel
theorem dX6_dropBelow_16 : decode cX6_dropBelow 16 = .ok (.ifCond .eq 23, 3) := by decide +kernel
theorem dX6_dropBelow_19 : decode cX6_dropBelow 19 = .ok (.aload_n 1, 1) := by decide +kernel
theorem dX6_dropBelow_20 : decode cX6_dropBelow 20 = .ok (.getfield 209, 3) := by decide +kernel
theorem dX6_dropBelow_23 : decode cX6_dropBelow 23 = .ok (.iload_n 3, 1) := by decide +kernel
theorem dX6_dropBelow_24 : decode cX6_dropBelow 24 = .ok (.aaload, 1) := by decide +kernel
theorem dX6_dropBelow_25 : decode cX6_dropBelow 25 = .ok (.iconst 0, 1) := by decide +kernel
theorem dX6_dropBelow_26 : decode cX6_dropBelow 26 = .ok (.putfield 180, 3) := by decide +kernel
theorem dX6_dropBelow_29 : decode cX6_dropBelow 29 = .ok (.aload_n 0, 1) := by decide +kernel
theorem dX6_dropBelow_30 : decode cX6_dropBelow 30 = .ok (.dup, 1) := by decide +kernel
theorem dX6_dropBelow_31 : decode cX6_dropBelow 31 = .ok (.getfield 153, 3) := by decide +kernel
theorem dX6_dropBelow_34 : decode cX6_dropBelow 34 = .ok (.iconst 1, 1) := by decide +kernel
theorem dX6_dropBelow_35 : decode cX6_dropBelow 35 = .ok (.iadd, 1) := by decide +kernel
theorem dX6_dropBelow_36 : decode cX6_dropBelow 36 = .ok (.putfield 153, 3) := by decide +kernel
theorem dX6_dropBelow_39 : decode cX6_dropBelow 39 = .ok (.iinc 3 1, 3) := by decide +kernel
theorem dX6_dropBelow_42 : decode cX6_dropBelow 42 = .ok (.goto (-40), 3) := by decide +kernel
theorem dX6_dropBelow_45 : decode cX6_dropBelow 45 = .ok (.return_, 1) := by decide +kernel
theorem dX7_init_0 : decode cX7_init 0 = .ok (.aload_n 0, 1) := by decide +kernel
theorem dX7_init_1 : decode cX7_init 1 = .ok (.invokespecial 1, 3) := by decide +kernel
theorem dX7_init_4 : decode cX7_init 4 = .ok (.aload_n 0, 1) := by decide +kernel
theorem dX7_init_5 : decode cX7_init 5 = .ok (.bipush 120, 2) := by decide +kernel
theorem dX7_init_7 : decode cX7_init 7 = .ok (.newarray .int, 2) := by decide +kernel
theorem dX7_init_9 : decode cX7_init 9 = .ok (.putfield 7, 3) := by decide +kernel
theorem dX7_init_12 : decode cX7_init 12 = .ok (.aload_n 0, 1) := by decide +kernel
theorem dX7_init_13 : decode cX7_init 13 = .ok (.bipush 120, 2) := by decide +kernel
theorem dX7_init_15 : decode cX7_init 15 = .ok (.newarray .int, 2) := by decide +kernel
theorem dX7_init_17 : decode cX7_init 17 = .ok (.putfield 13, 3) := by decide +kernel
theorem dX7_init_20 : decode cX7_init 20 = .ok (.aload_n 0, 1) := by decide +kernel
theorem dX7_init_21 : decode cX7_init 21 = .ok (.bipush 120, 2) := by decide +kernel
theorem dX7_init_23 : decode cX7_init 23 = .ok (.newarray .int, 2) := by decide +kernel
theorem dX7_init_25 : decode cX7_init 25 = .ok (.putfield 16, 3) := by decide +kernel
theorem dX7_init_28 : decode cX7_init 28 = .ok (.aload_n 0, 1) := by decide +kernel
theorem dX7_init_29 : decode cX7_init 29 = .ok (.bipush 120, 2) := by decide +kernel
theorem dX7_init_31 : decode cX7_init 31 = .ok (.newarray .int, 2) := by decide +kernel
theorem dX7_init_33 : decode cX7_init 33 = .ok (.putfield 19, 3) := by decide +kernel
theorem dX7_init_36 : decode cX7_init 36 = .ok (.aload_n 0, 1) := by decide +kernel
theorem dX7_init_37 : decode cX7_init 37 = .ok (.bipush 120, 2) := by decide +kernel
theorem dX7_init_39 : decode cX7_init 39 = .ok (.newarray .boolean, 2) := by decide +kernel
theorem dX7_init_41 : decode cX7_init 41 = .ok (.putfield 22, 3) := by decide +kernel
theorem dX7_init_44 : decode cX7_init 44 = .ok (.aload_n 0, 1) := by decide +kernel
theorem dX7_init_45 : decode cX7_init 45 = .ok (.iconst 3, 1) := by decide +kernel
theorem dX7_init_46 : decode cX7_init 46 = .ok (.newarray .boolean, 2) := by decide +kernel
theorem dX7_init_48 : decode cX7_init 48 = .ok (.putfield 26, 3) := by decide +kernel
theorem dX7_init_51 : decode cX7_init 51 = .ok (.aload_n 0, 1) := by decide +kernel
theorem dX7_init_52 : decode cX7_init 52 = .ok (.bipush 40, 2) := by decide +kernel
theorem dX7_init_54 : decode cX7_init 54 = .ok (.newarray .int, 2) := by decide +kernel
theorem dX7_init_56 : decode cX7_init 56 = .ok (.putfield 29, 3) := by decide +kernel
theorem dX7_init_59 : decode cX7_init 59 = .ok (.aload_n 0, 1) := by decide +kernel
theorem dX7_init_60 : decode cX7_init 60 = .ok (.bipush 40, 2) := by decide +kernel
theorem dX7_init_62 : decode cX7_init 62 = .ok (.newarray .int, 2) := by decide +kernel
theorem dX7_init_64 : decode cX7_init 64 = .ok (.putfield 32, 3) := by decide +kernel
theorem dX7_init_67 : decode cX7_init 67 = .ok (.aload_n 0, 1) := by decide +kernel
theorem dX7_init_68 : decode cX7_init 68 = .ok (.bipush 40, 2) := by decide +kernel
theorem dX7_init_70 : decode cX7_init 70 = .ok (.newarray .int, 2) := by decide +kernel
theorem dX7_init_72 : decode cX7_init 72 = .ok (.putfield 35, 3) := by decide +kernel
theorem dX7_init_75 : decode cX7_init 75 = .ok (.aload_n 0, 1) := by decide +kernel
theorem dX7_init_76 : decode cX7_init 76 = .ok (.bipush 40, 2) := by decide +kernel
theorem dX7_init_78 : decode cX7_init 78 = .ok (.newarray .int, 2) := by decide +kernel
theorem dX7_init_80 : decode cX7_init 80 = .ok (.putfield 38, 3) := by decide +kernel
theorem dX7_init_83 : decode cX7_init 83 = .ok (.aload_n 0, 1) := by decide +kernel
theorem dX7_init_84 : decode cX7_init 84 = .ok (.bipush 40, 2) := by decide +kernel
theorem dX7_init_86 : decode cX7_init 86 = .ok (.newarray .boolean, 2) := by decide +kernel
theorem dX7_init_88 : decode cX7_init 88 = .ok (.putfield 41, 3) := by decide +kernel
theorem dX7_init_91 : decode cX7_init 91 = .ok (.aload_n 0, 1) := by decide +kernel
theorem dX7_init_92 : decode cX7_init 92 = .ok (.bipush 12, 2) := by decide +kernel
theorem dX7_init_94 : decode cX7_init 94 = .ok (.newarray .boolean, 2) := by decide +kernel
theorem dX7_init_96 : decode cX7_init 96 = .ok (.putfield 44, 3) := by decide +kernel
theorem dX7_init_99 : decode cX7_init 99 = .ok (.aload_n 0, 1) := by decide +kernel
theorem dX7_init_100 : decode cX7_init 100 = .ok (.bipush 12, 2) := by decide +kernel
theorem dX7_init_102 : decode cX7_init 102 = .ok (.newarray .int, 2) := by decide +kernel
theorem dX7_init_104 : decode cX7_init 104 = .ok (.putfield 47, 3) := by decide +kernel
theorem dX7_init_107 : decode cX7_init 107 = .ok (.aload_n 0, 1) := by decide +kernel
theorem dX7_init_108 : decode cX7_init 108 = .ok (.bipush 12, 2) := by decide +kernel
theorem dX7_init_110 : decode cX7_init 110 = .ok (.newarray .int, 2) := by decide +kernel
theorem dX7_init_112 : decode cX7_init 112 = .ok (.putfield 50, 3) := by decide +kernel
theorem dX7_init_115 : decode cX7_init 115 = .ok (.return_, 1) := by decide +kernel
theorem dX7_thrown_0 : decode cX7_thrown 0 = .ok (.aload_n 0, 1) := by decide +kernel
theorem dX7_thrown_1 : decode cX7_thrown 1 = .ok (.getfield 53, 3) := by decide +kernel
theorem dX7_thrown_4 : decode cX7_thrown 4 = .ok (.ireturn, 1) := by decide +kernel
theorem dX7_refused_0 : decode cX7_refused 0 = .ok (.aload_n 0, 1) := by decide +kernel
theorem dX7_refused_1 : decode cX7_refused 1 = .ok (.iload_n 1, 1) := by decide +kernel
theorem dX7_refused_2 : decode cX7_refused 2 = .ok (.putfield 53, 3) := by decide +kernel
theorem dX7_refused_5 : decode cX7_refused 5 = .ok (.iload_n 1, 1) := by decide +kernel
theorem dX7_refused_6 : decode cX7_refused 6 = .ok (.ifCond .eq 7, 3) := by decide +kernel
theorem dX7_refused_9 : decode cX7_refused 9 = .ok (.iconst 1, 1) := by decide +kernel
theorem dX7_refused_10 : decode cX7_refused 10 = .ok (.goto 4, 3) := by decide +kernel
theorem dX7_refused_13 : decode cX7_refused 13 = .ok (.iconst 0, 1) := by decide +kernel
theorem dX7_refused_14 : decode cX7_refused 14 = .ok (.ireturn, 1) := by decide +kernel
theorem dX7_in_0 : decode cX7_in 0 = .ok (.iload_n 0, 1) := by decide +kernel
theorem dX7_in_1 : decode cX7_in 1 = .ok (.iload_n 1, 1) := by decide +kernel
theorem dX7_in_2 : decode cX7_in 2 = .ok (.if_icmp .lt 12, 3) := by decide +kernel
theorem dX7_in_5 : decode cX7_in 5 = .ok (.iload_n 0, 1) := by decide +kernel
theorem dX7_in_6 : decode cX7_in 6 = .ok (.iload_n 2, 1) := by decide +kernel
theorem dX7_in_7 : decode cX7_in 7 = .ok (.if_icmp .gt 7, 3) := by decide +kernel
theorem dX7_in_10 : decode cX7_in 10 = .ok (.iconst 1, 1) := by decide +kernel
theorem dX7_in_11 : decode cX7_in 11 = .ok (.goto 4, 3) := by decide +kernel
theorem dX7_in_14 : decode cX7_in 14 = .ok (.iconst 0, 1) := by decide +kernel
theorem dX7_in_15 : decode cX7_in 15 = .ok (.ireturn, 1) := by decide +kernel
theorem dX7_isTable_0 : decode cX7_isTable 0 = .ok (.iload_n 0, 1) := by decide +kernel
theorem dX7_isTable_1 : decode cX7_isTable 1 = .ok (.iconst 0, 1) := by decide +kernel
theorem dX7_isTable_2 : decode cX7_isTable 2 = .ok (.iconst 2, 1) := by decide +kernel
theorem dX7_isTable_3 : decode cX7_isTable 3 = .ok (.invokestatic 57, 3) := by decide +kernel
theorem dX7_isTable_6 : decode cX7_isTable 6 = .ok (.ireturn, 1) := by decide +kernel
theorem dX7_isLevel_0 : decode cX7_isLevel 0 = .ok (.iload_n 0, 1) := by decide +kernel
theorem dX7_isLevel_1 : decode cX7_isLevel 1 = .ok (.iconst 0, 1) := by decide +kernel
theorem dX7_isLevel_2 : decode cX7_isLevel 2 = .ok (.iconst 3, 1) := by decide +kernel
theorem dX7_isLevel_3 : decode cX7_isLevel 3 = .ok (.invokestatic 57, 3) := by decide +kernel
theorem dX7_isLevel_6 : decode cX7_isLevel 6 = .ok (.ireturn, 1) := by decide +kernel
theorem dX7_isEntry_0 : decode cX7_isEntry 0 = .ok (.iload_n 0, 1) := by decide +kernel
theorem dX7_isEntry_1 : decode cX7_isEntry 1 = .ok (.iconst 0, 1) := by decide +kernel
theorem dX7_isEntry_2 : decode cX7_isEntry 2 = .ok (.iconst 4, 1) := by decide +kernel
theorem dX7_isEntry_3 : decode cX7_isEntry 3 = .ok (.invokestatic 57, 3) := by decide +kernel
theorem dX7_isEntry_6 : decode cX7_isEntry 6 = .ok (.ifCond .eq 16, 3) := by decide +kernel
theorem dX7_isEntry_9 : decode cX7_isEntry 9 = .ok (.iload_n 1, 1) := by decide +kernel
theorem dX7_isEntry_10 : decode cX7_isEntry 10 = .ok (.iconst 0, 1) := by decide +kernel
theorem dX7_isEntry_11 : decode cX7_isEntry 11 = .ok (.iconst 5, 1) := by decide +kernel
theorem dX7_isEntry_12 : decode cX7_isEntry 12 = .ok (.invokestatic 57, 3) := by decide +kernel
theorem dX7_isEntry_15 : decode cX7_isEntry 15 = .ok (.ifCond .eq 7, 3) := by decide +kernel
theorem dX7_isEntry_18 : decode cX7_isEntry 18 = .ok (.iconst 1, 1) := by decide +kernel
theorem dX7_isEntry_19 : decode cX7_isEntry 19 = .ok (.goto 4, 3) := by decide +kernel
theorem dX7_isEntry_22 : decode cX7_isEntry 22 = .ok (.iconst 0, 1) := by decide +kernel
theorem dX7_isEntry_23 : decode cX7_isEntry 23 = .ok (.ireturn, 1) := by decide +kernel
theorem dX7_entryOf_0 : decode cX7_entryOf 0 = .ok (.iload_n 1, 1) := by decide +kernel
theorem dX7_entryOf_1 : decode cX7_entryOf 1 = .ok (.invokestatic 61, 3) := by decide +kernel
theorem dX7_entryOf_4 : decode cX7_entryOf 4 = .ok (.ifCond .ne 5, 3) := by decide +kernel
theorem dX7_entryOf_7 : decode cX7_entryOf 7 = .ok (.iconst (-1), 1) := by decide +kernel
theorem dX7_entryOf_8 : decode cX7_entryOf 8 = .ok (.ireturn, 1) := by decide +kernel
theorem dX7_entryOf_9 : decode cX7_entryOf 9 = .ok (.aload_n 0, 1) := by decide +kernel
theorem dX7_entryOf_10 : decode cX7_entryOf 10 = .ok (.getfield 26, 3) := by decide +kernel
theorem dX7_entryOf_13 : decode cX7_entryOf 13 = .ok (.iload_n 1, 1) := by decide +kernel
theorem dX7_entryOf_14 : decode cX7_entryOf 14 = .ok (.baload, 1) := by decide +kernel
theorem dX7_entryOf_15 : decode cX7_entryOf 15 = .ok (.ifCond .eq 7, 3) := by decide +kernel
theorem dX7_entryOf_18 : decode cX7_entryOf 18 = .ok (.iload_n 3, 1) := by decide +kernel
theorem dX7_entryOf_19 : decode cX7_entryOf 19 = .ok (.goto 4, 3) := by decide +kernel
theorem dX7_entryOf_22 : decode cX7_entryOf 22 = .ok (.iload_n 2, 1) := by decide +kernel
theorem dX7_entryOf_23 : decode cX7_entryOf 23 = .ok (.istore 4, 2) := by decide +kernel
theorem dX7_entryOf_25 : decode cX7_entryOf 25 = .ok (.aload_n 0, 1) := by decide +kernel
theorem dX7_entryOf_26 : decode cX7_entryOf 26 = .ok (.getfield 26, 3) := by decide +kernel
theorem dX7_entryOf_29 : decode cX7_entryOf 29 = .ok (.iload_n 1, 1) := by decide +kernel
theorem dX7_entryOf_30 : decode cX7_entryOf 30 = .ok (.baload, 1) := by decide +kernel
theorem dX7_entryOf_31 : decode cX7_entryOf 31 = .ok (.ifCond .eq 7, 3) := by decide +kernel
theorem dX7_entryOf_34 : decode cX7_entryOf 34 = .ok (.iload_n 2, 1) := by decide +kernel
theorem dX7_entryOf_35 : decode cX7_entryOf 35 = .ok (.goto 4, 3) := by decide +kernel
theorem dX7_entryOf_38 : decode cX7_entryOf 38 = .ok (.iload_n 3, 1) := by decide +kernel
theorem dX7_entryOf_39 : decode cX7_entryOf 39 = .ok (.istore 5, 2) := by decide +kernel
theorem dX7_entryOf_41 : decode cX7_entryOf 41 = .ok (.iload 4, 2) := by decide +kernel
theorem dX7_entryOf_43 : decode cX7_entryOf 43 = .ok (.iload 5, 2) := by decide +kernel
theorem dX7_entryOf_45 : decode cX7_entryOf 45 = .ok (.invokestatic 65, 3) := by decide +kernel
theorem dX7_entryOf_48 : decode cX7_entryOf 48 = .ok (.ifCond .eq 14, 3) := by decide +kernel
theorem dX7_entryOf_51 : decode cX7_entryOf 51 = .ok (.bipush 6, 2) := by decide +kernel
theorem dX7_entryOf_53 : decode cX7_entryOf 53 = .ok (.iload 4, 2) := by decide +kernel
theorem dX7_entryOf_55 : decode cX7_entryOf 55 = .ok (.imul, 1) := by decide +kernel
theorem dX7_entryOf_56 : decode cX7_entryOf 56 = .ok (.iload 5, 2) := by decide +kernel
theorem dX7_entryOf_58 : decode cX7_entryOf 58 = .ok (.iadd, 1) := by decide +kernel
theorem dX7_entryOf_59 : decode cX7_entryOf 59 = .ok (.goto 4, 3) := by decide +kernel
theorem dX7_entryOf_62 : decode cX7_entryOf 62 = .ok (.iconst (-1), 1) := by decide +kernel
theorem dX7_entryOf_63 : decode cX7_entryOf 63 = .ok (.ireturn, 1) := by decide +kernel
theorem dX7_bits_0 : decode cX7_bits 0 = .ok (.iconst 0, 1) := by decide +kernel
theorem dX7_bits_1 : decode cX7_bits 1 = .ok (.istore_n 1, 1) := by decide +kernel
theorem dX7_bits_2 : decode cX7_bits 2 = .ok (.iconst 0, 1) := by decide +kernel
theorem dX7_bits_3 : decode cX7_bits 3 = .ok (.istore_n 2, 1) := by decide +kernel
theorem dX7_bits_4 : decode cX7_bits 4 = .ok (.iload_n 2, 1) := by decide +kernel
theorem dX7_bits_5 : decode cX7_bits 5 = .ok (.bipush 30, 2) := by decide +kernel
theorem dX7_bits_7 : decode cX7_bits 7 = .ok (.if_icmp .ge 17, 3) := by decide +kernel
theorem dX7_bits_10 : decode cX7_bits 10 = .ok (.iload_n 1, 1) := by decide +kernel
theorem dX7_bits_11 : decode cX7_bits 11 = .ok (.iload_n 0, 1) := by decide +kernel
theorem dX7_bits_12 : decode cX7_bits 12 = .ok (.iload_n 2, 1) := by decide +kernel
theorem dX7_bits_13 : decode cX7_bits 13 = .ok (.ishr, 1) := by decide +kernel
theorem dX7_bits_14 : decode cX7_bits 14 = .ok (.iconst 1, 1) := by decide +kernel
theorem dX7_bits_15 : decode cX7_bits 15 = .ok (.iand, 1) := by decide +kernel
theorem dX7_bits_16 : decode cX7_bits 16 = .ok (.iadd, 1) := by decide +kernel
theorem dX7_bits_17 : decode cX7_bits 17 = .ok (.istore_n 1, 1) := by decide +kernel
theorem dX7_bits_18 : decode cX7_bits 18 = .ok (.iinc 2 1, 3) := by decide +kernel
theorem dX7_bits_21 : decode cX7_bits 21 = .ok (.goto (-17), 3) := by decide +kernel
theorem dX7_bits_24 : decode cX7_bits 24 = .ok (.iload_n 1, 1) := by decide +kernel
theorem dX7_bits_25 : decode cX7_bits 25 = .ok (.ireturn, 1) := by decide +kernel
theorem dX7_drop_0 : decode cX7_drop 0 = .ok (.iconst 0, 1) := by decide +kernel
theorem dX7_drop_1 : decode cX7_drop 1 = .ok (.istore_n 3, 1) := by decide +kernel
theorem dX7_drop_2 : decode cX7_drop 2 = .ok (.iconst 0, 1) := by decide +kernel
theorem dX7_drop_3 : decode cX7_drop 3 = .ok (.istore 4, 2) := by decide +kernel
theorem dX7_drop_5 : decode cX7_drop 5 = .ok (.iload 4, 2) := by decide +kernel
theorem dX7_drop_7 : decode cX7_drop 7 = .ok (.iload_n 2, 1) := by decide +kernel
theorem dX7_drop_8 : decode cX7_drop 8 = .ok (.if_icmp .ge 43, 3) := by decide +kernel
theorem dX7_drop_11 : decode cX7_drop 11 = .ok (.iload_n 3, 1) := by decide +kernel
theorem dX7_drop_12 : decode cX7_drop 12 = .ok (.aload_n 0, 1) := by decide +kernel
theorem dX7_drop_13 : decode cX7_drop 13 = .ok (.getfield 44, 3) := by decide +kernel
theorem dX7_drop_16 : decode cX7_drop 16 = .ok (.iconst 4, 1) := by decide +kernel
theorem dX7_drop_17 : decode cX7_drop 17 = .ok (.iload_n 1, 1) := by decide +kernel
theorem dX7_drop_18 : decode cX7_drop 18 = .ok (.imul, 1) := by decide +kernel
theorem dX7_drop_19 : decode cX7_drop 19 = .ok (.iload 4, 2) := by decide +kernel
theorem dX7_drop_21 : decode cX7_drop 21 = .ok (.iadd, 1) := by decide +kernel
theorem dX7_drop_22 : decode cX7_drop 22 = .ok (.baload, 1) := by decide +kernel
theorem dX7_drop_23 : decode cX7_drop 23 = .ok (.ifCond .eq 7, 3) := by decide +kernel
theorem dX7_drop_26 : decode cX7_drop 26 = .ok (.iconst 1, 1) := by decide +kernel
theorem dX7_drop_27 : decode cX7_drop 27 = .ok (.goto 4, 3) := by decide +kernel
theorem dX7_drop_30 : decode cX7_drop 30 = .ok (.iconst 0, 1) := by decide +kernel
theorem dX7_drop_31 : decode cX7_drop 31 = .ok (.iadd, 1) := by decide +kernel
theorem dX7_drop_32 : decode cX7_drop 32 = .ok (.istore_n 3, 1) := by decide +kernel
theorem dX7_drop_33 : decode cX7_drop 33 = .ok (.aload_n 0, 1) := by decide +kernel
theorem dX7_drop_34 : decode cX7_drop 34 = .ok (.getfield 44, 3) := by decide +kernel
theorem dX7_drop_37 : decode cX7_drop 37 = .ok (.iconst 4, 1) := by decide +kernel
theorem dX7_drop_38 : decode cX7_drop 38 = .ok (.iload_n 1, 1) := by decide +kernel
theorem dX7_drop_39 : decode cX7_drop 39 = .ok (.imul, 1) := by decide +kernel
theorem dX7_drop_40 : decode cX7_drop 40 = .ok (.iload 4, 2) := by decide +kernel
theorem dX7_drop_42 : decode cX7_drop 42 = .ok (.iadd, 1) := by decide +kernel
theorem dX7_drop_43 : decode cX7_drop 43 = .ok (.iconst 0, 1) := by decide +kernel
theorem dX7_drop_44 : decode cX7_drop 44 = .ok (.bastore, 1) := by decide +kernel
theorem dX7_drop_45 : decode cX7_drop 45 = .ok (.iinc 4 1, 3) := by decide +kernel
theorem dX7_drop_48 : decode cX7_drop 48 = .ok (.goto (-43), 3) := by decide +kernel
theorem dX7_drop_51 : decode cX7_drop 51 = .ok (.aload_n 0, 1) := by decide +kernel
theorem dX7_drop_52 : decode cX7_drop 52 = .ok (.dup, 1) := by decide +kernel
theorem dX7_drop_53 : decode cX7_drop 53 = .ok (.getfield 69, 3) := by decide +kernel
theorem dX7_drop_56 : decode cX7_drop 56 = .ok (.iload_n 3, 1) := by decide +kernel
theorem dX7_drop_57 : decode cX7_drop 57 = .ok (.iadd, 1) := by decide +kernel
theorem dX7_drop_58 : decode cX7_drop 58 = .ok (.putfield 69, 3) := by decide +kernel
theorem dX7_drop_61 : decode cX7_drop 61 = .ok (.iload_n 3, 1) := by decide +kernel
theorem dX7_drop_62 : decode cX7_drop 62 = .ok (.ireturn, 1) := by decide +kernel
theorem dX7_sale_0 : decode cX7_sale 0 = .ok (.iload_n 1, 1) := by decide +kernel
theorem dX7_sale_1 : decode cX7_sale 1 = .ok (.invokestatic 61, 3) := by decide +kernel
theorem dX7_sale_4 : decode cX7_sale 4 = .ok (.ifCond .eq 25, 3) := by decide +kernel
theorem dX7_sale_7 : decode cX7_sale 7 = .ok (.iload_n 2, 1) := by decide +kernel
theorem dX7_sale_8 : decode cX7_sale 8 = .ok (.iconst 0, 1) := by decide +kernel
theorem dX7_sale_9 : decode cX7_sale 9 = .ok (.iconst 3, 1) := by decide +kernel
theorem dX7_sale_10 : decode cX7_sale 10 = .ok (.invokestatic 57, 3) := by decide +kernel
theorem dX7_sale_13 : decode cX7_sale 13 = .ok (.ifCond .eq 16, 3) := by decide +kernel
theorem dX7_sale_16 : decode cX7_sale 16 = .ok (.iload_n 3, 1) := by decide +kernel
theorem dX7_sale_17 : decode cX7_sale 17 = .ok (.iconst 0, 1) := by decide +kernel
theorem dX7_sale_18 : decode cX7_sale 18 = .ok (.iconst 4, 1) := by decide +kernel
theorem dX7_sale_19 : decode cX7_sale 19 = .ok (.invokestatic 57, 3) := by decide +kernel
theorem dX7_sale_22 : decode cX7_sale 22 = .ok (.ifCond .eq 7, 3) := by decide +kernel
theorem dX7_sale_25 : decode cX7_sale 25 = .ok (.iconst 1, 1) := by decide +kernel
theorem dX7_sale_26 : decode cX7_sale 26 = .ok (.goto 4, 3) := by decide +kernel
theorem dX7_sale_29 : decode cX7_sale 29 = .ok (.iconst 0, 1) := by decide +kernel
theorem dX7_sale_30 : decode cX7_sale 30 = .ok (.istore 5, 2) := by decide +kernel
theorem dX7_sale_32 : decode cX7_sale 32 = .ok (.iload 4, 2) := by decide +kernel
theorem dX7_sale_34 : decode cX7_sale 34 = .ok (.sipush (-1000), 3) := by decide +kernel
theorem dX7_sale_37 : decode cX7_sale 37 = .ok (.sipush 1000, 3) := by decide +kernel
theorem dX7_sale_40 : decode cX7_sale 40 = .ok (.invokestatic 57, 3) := by decide +kernel
theorem dX7_sale_43 : decode cX7_sale 43 = .ok (.istore 6, 2) := by decide +kernel
theorem dX7_sale_45 : decode cX7_sale 45 = .ok (.aload_n 0, 1) := by decide +kernel
theorem dX7_sale_46 : decode cX7_sale 46 = .ok (.iload 5, 2) := by decide +kernel
theorem dX7_sale_48 : decode cX7_sale 48 = .ok (.ifCond .ne 7, 3) := by decide +kernel
theorem dX7_sale_51 : decode cX7_sale 51 = .ok (.iconst 1, 1) := by decide +kernel
theorem dX7_sale_52 : decode cX7_sale 52 = .ok (.goto 26, 3) := by decide +kernel
theorem dX7_sale_55 : decode cX7_sale 55 = .ok (.iload 6, 2) := by decide +kernel
theorem dX7_sale_57 : decode cX7_sale 57 = .ok (.ifCond .ne 7, 3) := by decide +kernel
theorem dX7_sale_60 : decode cX7_sale 60 = .ok (.iconst 2, 1) := by decide +kernel
theorem dX7_sale_61 : decode cX7_sale 61 = .ok (.goto 17, 3) := by decide +kernel
theorem dX7_sale_64 : decode cX7_sale 64 = .ok (.aload_n 0, 1) := by decide +kernel
theorem dX7_sale_65 : decode cX7_sale 65 = .ok (.getfield 72, 3) := by decide +kernel
theorem dX7_sale_68 : decode cX7_sale 68 = .ok (.bipush 120, 2) := by decide +kernel
theorem dX7_sale_70 : decode cX7_sale 70 = .ok (.if_icmp .ne 7, 3) := by decide +kernel
theorem dX7_sale_73 : decode cX7_sale 73 = .ok (.iconst 3, 1) := by decide +kernel
theorem dX7_sale_74 : decode cX7_sale 74 = .ok (.goto 4, 3) := by decide +kernel
theorem dX7_sale_77 : decode cX7_sale 77 = .ok (.iconst 0, 1) := by decide +kernel
theorem dX7_sale_78 : decode cX7_sale 78 = .ok (.invokevirtual 75, 3) := by decide +kernel
theorem dX7_sale_81 : decode cX7_sale 81 = .ok (.ifCond .eq 5, 3) := by decide +kernel
theorem dX7_sale_84 : decode cX7_sale 84 = .ok (.iconst 0, 1) := by decide +kernel
theorem dX7_sale_85 : decode cX7_sale 85 = .ok (.ireturn, 1) := by decide +kernel
theorem dX7_sale_86 : decode cX7_sale 86 = .ok (.aload_n 0, 1) := by decide +kernel
theorem dX7_sale_87 : decode cX7_sale 87 = .ok (.getfield 7, 3) := by decide +kernel
theorem dX7_sale_90 : decode cX7_sale 90 = .ok (.aload_n 0, 1) := by decide +kernel
theorem dX7_sale_91 : decode cX7_sale 91 = .ok (.getfield 72, 3) := by decide +kernel
theorem dX7_sale_94 : decode cX7_sale 94 = .ok (.iload_n 1, 1) := by decide +kernel
theorem dX7_sale_95 : decode cX7_sale 95 = .ok (.iastore, 1) := by decide +kernel
theorem dX7_sale_96 : decode cX7_sale 96 = .ok (.aload_n 0, 1) := by decide +kernel
theorem dX7_sale_97 : decode cX7_sale 97 = .ok (.getfield 13, 3) := by decide +kernel
theorem dX7_sale_100 : decode cX7_sale 100 = .ok (.aload_n 0, 1) := by decide +kernel
theorem dX7_sale_101 : decode cX7_sale 101 = .ok (.getfield 72, 3) := by decide +kernel
theorem dX7_sale_104 : decode cX7_sale 104 = .ok (.iload_n 2, 1) := by decide +kernel
theorem dX7_sale_105 : decode cX7_sale 105 = .ok (.iastore, 1) := by decide +kernel
theorem dX7_sale_106 : decode cX7_sale 106 = .ok (.aload_n 0, 1) := by decide +kernel
theorem dX7_sale_107 : decode cX7_sale 107 = .ok (.getfield 16, 3) := by decide +kernel
theorem dX7_sale_110 : decode cX7_sale 110 = .ok (.aload_n 0, 1) := by decide +kernel
theorem dX7_sale_111 : decode cX7_sale 111 = .ok (.getfield 72, 3) := by decide +kernel
theorem dX7_sale_114 : decode cX7_sale 114 = .ok (.iload_n 3, 1) := by decide +kernel
theorem dX7_sale_115 : decode cX7_sale 115 = .ok (.iastore, 1) := by decide +kernel
theorem dX7_sale_116 : decode cX7_sale 116 = .ok (.aload_n 0, 1) := by decide +kernel
theorem dX7_sale_117 : decode cX7_sale 117 = .ok (.getfield 19, 3) := by decide +kernel
theorem dX7_sale_120 : decode cX7_sale 120 = .ok (.aload_n 0, 1) := by decide +kernel
theorem dX7_sale_121 : decode cX7_sale 121 = .ok (.getfield 72, 3) := by decide +kernel
theorem dX7_sale_124 : decode cX7_sale 124 = .ok (.iload 4, 2) := by decide +kernel
theorem dX7_sale_126 : decode cX7_sale 126 = .ok (.iastore, 1) := by decide +kernel
theorem dX7_sale_127 : decode cX7_sale 127 = .ok (.aload_n 0, 1) := by decide +kernel
theorem dX7_sale_128 : decode cX7_sale 128 = .ok (.dup, 1) := by decide +kernel
theorem dX7_sale_129 : decode cX7_sale 129 = .ok (.getfield 72, 3) := by decide +kernel
theorem dX7_sale_132 : decode cX7_sale 132 = .ok (.iconst 1, 1) := by decide +kernel
theorem dX7_sale_133 : decode cX7_sale 133 = .ok (.iadd, 1) := by decide +kernel
theorem dX7_sale_134 : decode cX7_sale 134 = .ok (.putfield 72, 3) := by decide +kernel
theorem dX7_sale_137 : decode cX7_sale 137 = .ok (.aload_n 0, 1) := by decide +kernel
theorem dX7_sale_138 : decode cX7_sale 138 = .ok (.iload_n 1, 1) := by decide +kernel
theorem dX7_sale_139 : decode cX7_sale 139 = .ok (.iconst 4, 1) := by decide +kernel
theorem dX7_sale_140 : decode cX7_sale 140 = .ok (.invokevirtual 78, 3) := by decide +kernel
theorem dX7_sale_143 : decode cX7_sale 143 = .ok (.pop, 1) := by decide +kernel
theorem dX7_sale_144 : decode cX7_sale 144 = .ok (.aload_n 0, 1) := by decide +kernel
theorem dX7_sale_145 : decode cX7_sale 145 = .ok (.getfield 72, 3) := by decide +kernel
theorem dX7_sale_148 : decode cX7_sale 148 = .ok (.iconst 1, 1) := by decide +kernel
theorem dX7_sale_149 : decode cX7_sale 149 = .ok (.isub, 1) := by decide +kernel
theorem dX7_sale_150 : decode cX7_sale 150 = .ok (.ireturn, 1) := by decide +kernel
theorem dX7_takeBack_0 : decode cX7_takeBack 0 = .ok (.iload_n 1, 1) := by decide +kernel
theorem dX7_takeBack_1 : decode cX7_takeBack 1 = .ok (.iconst 0, 1) := by decide +kernel
theorem dX7_takeBack_2 : decode cX7_takeBack 2 = .ok (.aload_n 0, 1) := by decide +kernel
theorem dX7_takeBack_3 : decode cX7_takeBack 3 = .ok (.getfield 72, 3) := by decide +kernel
theorem dX7_takeBack_6 : decode cX7_takeBack 6 = .ok (.iconst 1, 1) := by decide +kernel
theorem dX7_takeBack_7 : decode cX7_takeBack 7 = .ok (.isub, 1) := by decide +kernel
theorem dX7_takeBack_8 : decode cX7_takeBack 8 = .ok (.invokestatic 57, 3) := by decide +kernel
theorem dX7_takeBack_11 : decode cX7_takeBack 11 = .ok (.istore_n 2, 1) := by decide +kernel
theorem dX7_takeBack_12 : decode cX7_takeBack 12 = .ok (.aload_n 0, 1) := by decide +kernel
theorem dX7_takeBack_13 : decode cX7_takeBack 13 = .ok (.iload_n 2, 1) := by decide +kernel
theorem dX7_takeBack_14 : decode cX7_takeBack 14 = .ok (.ifCond .ne 7, 3) := by decide +kernel
theorem dX7_takeBack_17 : decode cX7_takeBack 17 = .ok (.iconst 1, 1) := by decide +kernel
theorem dX7_takeBack_18 : decode cX7_takeBack 18 = .ok (.goto 17, 3) := by decide +kernel
theorem dX7_takeBack_21 : decode cX7_takeBack 21 = .ok (.aload_n 0, 1) := by decide +kernel
theorem dX7_takeBack_22 : decode cX7_takeBack 22 = .ok (.getfield 22, 3) := by decide +kernel
theorem dX7_takeBack_25 : decode cX7_takeBack 25 = .ok (.iload_n 1, 1) := by decide +kernel
theorem dX7_takeBack_26 : decode cX7_takeBack 26 = .ok (.baload, 1) := by decide +kernel
theorem dX7_takeBack_27 : decode cX7_takeBack 27 = .ok (.ifCond .eq 7, 3) := by decide +kernel
theorem dX7_takeBack_30 : decode cX7_takeBack 30 = .ok (.iconst 2, 1) := by decide +kernel
theorem dX7_takeBack_31 : decode cX7_takeBack 31 = .ok (.goto 4, 3) := by decide +kernel
theorem dX7_takeBack_34 : decode cX7_takeBack 34 = .ok (.iconst 0, 1) := by decide +kernel
theorem dX7_takeBack_35 : decode cX7_takeBack 35 = .ok (.invokevirtual 75, 3) := by decide +kernel
theorem dX7_takeBack_38 : decode cX7_takeBack 38 = .ok (.ifCond .eq 5, 3) := by decide +kernel
theorem dX7_takeBack_41 : decode cX7_takeBack 41 = .ok (.iconst 0, 1) := by decide +kernel
theorem dX7_takeBack_42 : decode cX7_takeBack 42 = .ok (.ireturn, 1) := by decide +kernel
theorem dX7_takeBack_43 : decode cX7_takeBack 43 = .ok (.aload_n 0, 1) := by decide +kernel
theorem dX7_takeBack_44 : decode cX7_takeBack 44 = .ok (.getfield 22, 3) := by decide +kernel
theorem dX7_takeBack_47 : decode cX7_takeBack 47 = .ok (.iload_n 1, 1) := by decide +kernel
theorem dX7_takeBack_48 : decode cX7_takeBack 48 = .ok (.iconst 1, 1) := by decide +kernel
theorem dX7_takeBack_49 : decode cX7_takeBack 49 = .ok (.bastore, 1) := by decide +kernel
theorem dX7_takeBack_50 : decode cX7_takeBack 50 = .ok (.aload_n 0, 1) := by decide +kernel
theorem dX7_takeBack_51 : decode cX7_takeBack 51 = .ok (.aload_n 0, 1) := by decide +kernel
theorem dX7_takeBack_52 : decode cX7_takeBack 52 = .ok (.getfield 7, 3) := by decide +kernel
theorem dX7_takeBack_55 : decode cX7_takeBack 55 = .ok (.iload_n 1, 1) := by decide +kernel
theorem dX7_takeBack_56 : decode cX7_takeBack 56 = .ok (.iaload, 1) := by decide +kernel
theorem dX7_takeBack_57 : decode cX7_takeBack 57 = .ok (.iconst 4, 1) := by decide +kernel
theorem dX7_takeBack_58 : decode cX7_takeBack 58 = .ok (.invokevirtual 78, 3) := by decide +kernel
theorem dX7_takeBack_61 : decode cX7_takeBack 61 = .ok (.pop, 1) := by decide +kernel
theorem dX7_takeBack_62 : decode cX7_takeBack 62 = .ok (.aload_n 0, 1) := by decide +kernel
theorem dX7_takeBack_63 : decode cX7_takeBack 63 = .ok (.getfield 19, 3) := by decide +kernel
theorem dX7_takeBack_66 : decode cX7_takeBack 66 = .ok (.iload_n 1, 1) := by decide +kernel
theorem dX7_takeBack_67 : decode cX7_takeBack 67 = .ok (.iaload, 1) := by decide +kernel
theorem dX7_takeBack_68 : decode cX7_takeBack 68 = .ok (.ireturn, 1) := by decide +kernel
theorem dX7_turn_0 : decode cX7_turn 0 = .ok (.aload_n 0, 1) := by decide +kernel
theorem dX7_turn_1 : decode cX7_turn 1 = .ok (.iload_n 1, 1) := by decide +kernel
theorem dX7_turn_2 : decode cX7_turn 2 = .ok (.invokestatic 61, 3) := by decide +kernel
theorem dX7_turn_5 : decode cX7_turn 5 = .ok (.ifCond .eq 7, 3) := by decide +kernel
theorem dX7_turn_8 : decode cX7_turn 8 = .ok (.iconst 0, 1) := by decide +kernel
theorem dX7_turn_9 : decode cX7_turn 9 = .ok (.goto 4, 3) := by decide +kernel
theorem dX7_turn_12 : decode cX7_turn 12 = .ok (.iconst 1, 1) := by decide +kernel
theorem dX7_turn_13 : decode cX7_turn 13 = .ok (.invokevirtual 75, 3) := by decide +kernel
theorem dX7_turn_16 : decode cX7_turn 16 = .ok (.ifCond .eq 5, 3) := by decide +kernel
theorem dX7_turn_19 : decode cX7_turn 19 = .ok (.iconst 0, 1) := by decide +kernel
theorem dX7_turn_20 : decode cX7_turn 20 = .ok (.ireturn, 1) := by decide +kernel
theorem dX7_turn_21 : decode cX7_turn 21 = .ok (.aload_n 0, 1) := by decide +kernel
theorem dX7_turn_22 : decode cX7_turn 22 = .ok (.getfield 26, 3) := by decide +kernel
theorem dX7_turn_25 : decode cX7_turn 25 = .ok (.iload_n 1, 1) := by decide +kernel
theorem dX7_turn_26 : decode cX7_turn 26 = .ok (.aload_n 0, 1) := by decide +kernel
theorem dX7_turn_27 : decode cX7_turn 27 = .ok (.getfield 26, 3) := by decide +kernel
theorem dX7_turn_30 : decode cX7_turn 30 = .ok (.iload_n 1, 1) := by decide +kernel
theorem dX7_turn_31 : decode cX7_turn 31 = .ok (.baload, 1) := by decide +kernel
theorem dX7_turn_32 : decode cX7_turn 32 = .ok (.ifCond .ne 7, 3) := by decide +kernel
theorem dX7_turn_35 : decode cX7_turn 35 = .ok (.iconst 1, 1) := by decide +kernel
theorem dX7_turn_36 : decode cX7_turn 36 = .ok (.goto 4, 3) := by decide +kernel
theorem dX7_turn_39 : decode cX7_turn 39 = .ok (.iconst 0, 1) := by decide +kernel
theorem dX7_turn_40 : decode cX7_turn 40 = .ok (.bastore, 1) := by decide +kernel
theorem dX7_turn_41 : decode cX7_turn 41 = .ok (.aload_n 0, 1) := by decide +kernel
theorem dX7_turn_42 : decode cX7_turn 42 = .ok (.getfield 26, 3) := by decide +kernel
theorem dX7_turn_45 : decode cX7_turn 45 = .ok (.iload_n 1, 1) := by decide +kernel
theorem dX7_turn_46 : decode cX7_turn 46 = .ok (.baload, 1) := by decide +kernel
theorem dX7_turn_47 : decode cX7_turn 47 = .ok (.ireturn, 1) := by decide +kernel
theorem dX7_sumOf_0 : decode cX7_sumOf 0 = .ok (.iload_n 2, 1) := by decide +kernel
theorem dX7_sumOf_1 : decode cX7_sumOf 1 = .ok (.bipush 6, 2) := by decide +kernel
theorem dX7_sumOf_3 : decode cX7_sumOf 3 = .ok (.idiv, 1) := by decide +kernel
theorem dX7_sumOf_4 : decode cX7_sumOf 4 = .ok (.istore_n 3, 1) := by decide +kernel
theorem dX7_sumOf_5 : decode cX7_sumOf 5 = .ok (.iload_n 2, 1) := by decide +kernel
theorem dX7_sumOf_6 : decode cX7_sumOf 6 = .ok (.bipush 6, 2) := by decide +kernel
theorem dX7_sumOf_8 : decode cX7_sumOf 8 = .ok (.irem, 1) := by decide +kernel
theorem dX7_sumOf_9 : decode cX7_sumOf 9 = .ok (.istore 4, 2) := by decide +kernel
theorem dX7_sumOf_11 : decode cX7_sumOf 11 = .ok (.iconst 0, 1) := by decide +kernel
theorem dX7_sumOf_12 : decode cX7_sumOf 12 = .ok (.istore 5, 2) := by decide +kernel
theorem dX7_sumOf_14 : decode cX7_sumOf 14 = .ok (.iconst 0, 1) := by decide +kernel
theorem dX7_sumOf_15 : decode cX7_sumOf 15 = .ok (.istore 6, 2) := by decide +kernel
theorem dX7_sumOf_17 : decode cX7_sumOf 17 = .ok (.iload 6, 2) := by decide +kernel
theorem dX7_sumOf_19 : decode cX7_sumOf 19 = .ok (.aload_n 0, 1) := by decide +kernel
theorem dX7_sumOf_20 : decode cX7_sumOf 20 = .ok (.getfield 72, 3) := by decide +kernel
theorem dX7_sumOf_23 : decode cX7_sumOf 23 = .ok (.if_icmp .ge 92, 3) := by decide +kernel
theorem dX7_sumOf_26 : decode cX7_sumOf 26 = .ok (.aload_n 0, 1) := by decide +kernel
theorem dX7_sumOf_27 : decode cX7_sumOf 27 = .ok (.getfield 7, 3) := by decide +kernel
theorem dX7_sumOf_30 : decode cX7_sumOf 30 = .ok (.iload 6, 2) := by decide +kernel
theorem dX7_sumOf_32 : decode cX7_sumOf 32 = .ok (.iaload, 1) := by decide +kernel
theorem dX7_sumOf_33 : decode cX7_sumOf 33 = .ok (.iload_n 1, 1) := by decide +kernel
theorem dX7_sumOf_34 : decode cX7_sumOf 34 = .ok (.if_icmp .ne 51, 3) := by decide +kernel
theorem dX7_sumOf_37 : decode cX7_sumOf 37 = .ok (.aload_n 0, 1) := by decide +kernel
theorem dX7_sumOf_38 : decode cX7_sumOf 38 = .ok (.getfield 22, 3) := by decide +kernel
theorem dX7_sumOf_41 : decode cX7_sumOf 41 = .ok (.iload 6, 2) := by decide +kernel
theorem dX7_sumOf_43 : decode cX7_sumOf 43 = .ok (.baload, 1) := by decide +kernel
theorem dX7_sumOf_44 : decode cX7_sumOf 44 = .ok (.ifCond .ne 41, 3) := by decide +kernel
theorem dX7_sumOf_47 : decode cX7_sumOf 47 = .ok (.iload_n 3, 1) := by decide +kernel
theorem dX7_sumOf_48 : decode cX7_sumOf 48 = .ok (.iconst 4, 1) := by decide +kernel
theorem dX7_sumOf_49 : decode cX7_sumOf 49 = .ok (.if_icmp .eq 14, 3) := by decide +kernel
theorem dX7_sumOf_52 : decode cX7_sumOf 52 = .ok (.aload_n 0, 1) := by decide +kernel
theorem dX7_sumOf_53 : decode cX7_sumOf 53 = .ok (.getfield 13, 3) := by decide +kernel
theorem dX7_sumOf_56 : decode cX7_sumOf 56 = .ok (.iload 6, 2) := by decide +kernel
theorem dX7_sumOf_58 : decode cX7_sumOf 58 = .ok (.iaload, 1) := by decide +kernel
theorem dX7_sumOf_59 : decode cX7_sumOf 59 = .ok (.iload_n 3, 1) := by decide +kernel
theorem dX7_sumOf_60 : decode cX7_sumOf 60 = .ok (.if_icmp .ne 25, 3) := by decide +kernel
theorem dX7_sumOf_63 : decode cX7_sumOf 63 = .ok (.iload 4, 2) := by decide +kernel
theorem dX7_sumOf_65 : decode cX7_sumOf 65 = .ok (.iconst 5, 1) := by decide +kernel
theorem dX7_sumOf_66 : decode cX7_sumOf 66 = .ok (.if_icmp .eq 15, 3) := by decide +kernel
theorem dX7_sumOf_69 : decode cX7_sumOf 69 = .ok (.aload_n 0, 1) := by decide +kernel
theorem dX7_sumOf_70 : decode cX7_sumOf 70 = .ok (.getfield 16, 3) := by decide +kernel
theorem dX7_sumOf_73 : decode cX7_sumOf 73 = .ok (.iload 6, 2) := by decide +kernel
theorem dX7_sumOf_75 : decode cX7_sumOf 75 = .ok (.iaload, 1) := by decide +kernel
theorem dX7_sumOf_76 : decode cX7_sumOf 76 = .ok (.iload 4, 2) := by decide +kernel
theorem dX7_sumOf_78 : decode cX7_sumOf 78 = .ok (.if_icmp .ne 7, 3) := by decide +kernel
theorem dX7_sumOf_81 : decode cX7_sumOf 81 = .ok (.iconst 1, 1) := by decide +kernel
theorem dX7_sumOf_82 : decode cX7_sumOf 82 = .ok (.goto 4, 3) := by decide +kernel
theorem dX7_sumOf_85 : decode cX7_sumOf 85 = .ok (.iconst 0, 1) := by decide +kernel
theorem dX7_sumOf_86 : decode cX7_sumOf 86 = .ok (.istore 7, 2) := by decide +kernel
theorem dX7_sumOf_88 : decode cX7_sumOf 88 = .ok (.iload 5, 2) := by decide +kernel
theorem dX7_sumOf_90 : decode cX7_sumOf 90 = .ok (.iload 7, 2) := by decide +kernel
theorem dX7_sumOf_92 : decode cX7_sumOf 92 = .ok (.ifCond .eq 13, 3) := by decide +kernel
theorem dX7_sumOf_95 : decode cX7_sumOf 95 = .ok (.aload_n 0, 1) := by decide +kernel
theorem dX7_sumOf_96 : decode cX7_sumOf 96 = .ok (.getfield 19, 3) := by decide +kernel
theorem dX7_sumOf_99 : decode cX7_sumOf 99 = .ok (.iload 6, 2) := by decide +kernel
theorem dX7_sumOf_101 : decode cX7_sumOf 101 = .ok (.iaload, 1) := by decide +kernel
theorem dX7_sumOf_102 : decode cX7_sumOf 102 = .ok (.goto 4, 3) := by decide +kernel
theorem dX7_sumOf_105 : decode cX7_sumOf 105 = .ok (.iconst 0, 1) := by decide +kernel
theorem dX7_sumOf_106 : decode cX7_sumOf 106 = .ok (.iadd, 1) := by decide +kernel
theorem dX7_sumOf_107 : decode cX7_sumOf 107 = .ok (.istore 5, 2) := by decide +kernel
theorem dX7_sumOf_109 : decode cX7_sumOf 109 = .ok (.iinc 6 1, 3) := by decide +kernel
theorem dX7_sumOf_112 : decode cX7_sumOf 112 = .ok (.goto (-95), 3) := by decide +kernel
theorem dX7_sumOf_115 : decode cX7_sumOf 115 = .ok (.iload 5, 2) := by decide +kernel
theorem dX7_sumOf_117 : decode cX7_sumOf 117 = .ok (.ireturn, 1) := by decide +kernel
theorem dX7_sum_0 : decode cX7_sum 0 = .ok (.aload_n 0, 1) := by decide +kernel
theorem dX7_sum_1 : decode cX7_sum 1 = .ok (.iload_n 1, 1) := by decide +kernel
theorem dX7_sum_2 : decode cX7_sum 2 = .ok (.iload_n 2, 1) := by decide +kernel
theorem dX7_sum_3 : decode cX7_sum 3 = .ok (.iload_n 3, 1) := by decide +kernel
theorem dX7_sum_4 : decode cX7_sum 4 = .ok (.invokevirtual 82, 3) := by decide +kernel
theorem dX7_sum_7 : decode cX7_sum 7 = .ok (.istore 4, 2) := by decide +kernel
theorem dX7_sum_9 : decode cX7_sum 9 = .ok (.aload_n 0, 1) := by decide +kernel
theorem dX7_sum_10 : decode cX7_sum 10 = .ok (.iload 4, 2) := by decide +kernel
theorem dX7_sum_12 : decode cX7_sum 12 = .ok (.iconst (-1), 1) := by decide +kernel
theorem dX7_sum_13 : decode cX7_sum 13 = .ok (.if_icmp .ne 7, 3) := by decide +kernel
theorem dX7_sum_16 : decode cX7_sum 16 = .ok (.iconst 1, 1) := by decide +kernel
theorem dX7_sum_17 : decode cX7_sum 17 = .ok (.goto 4, 3) := by decide +kernel
theorem dX7_sum_20 : decode cX7_sum 20 = .ok (.iconst 0, 1) := by decide +kernel
theorem dX7_sum_21 : decode cX7_sum 21 = .ok (.invokevirtual 75, 3) := by decide +kernel
theorem dX7_sum_24 : decode cX7_sum 24 = .ok (.ifCond .eq 7, 3) := by decide +kernel
theorem dX7_sum_27 : decode cX7_sum 27 = .ok (.iconst 0, 1) := by decide +kernel
theorem dX7_sum_28 : decode cX7_sum 28 = .ok (.goto 10, 3) := by decide +kernel
theorem dX7_sum_31 : decode cX7_sum 31 = .ok (.aload_n 0, 1) := by decide +kernel
theorem dX7_sum_32 : decode cX7_sum 32 = .ok (.iload_n 1, 1) := by decide +kernel
theorem dX7_sum_33 : decode cX7_sum 33 = .ok (.iload 4, 2) := by decide +kernel
theorem dX7_sum_35 : decode cX7_sum 35 = .ok (.invokevirtual 86, 3) := by decide +kernel
theorem dX7_sum_38 : decode cX7_sum 38 = .ok (.ireturn, 1) := by decide +kernel
theorem dX7_sumFromSales_0 : decode cX7_sumFromSales 0 = .ok (.aload_n 0, 1) := by decide +kernel
theorem dX7_sumFromSales_1 : decode cX7_sumFromSales 1 = .ok (.iload_n 1, 1) := by decide +kernel
theorem dX7_sumFromSales_2 : decode cX7_sumFromSales 2 = .ok (.iload_n 2, 1) := by decide +kernel
theorem dX7_sumFromSales_3 : decode cX7_sumFromSales 3 = .ok (.iload_n 3, 1) := by decide +kernel
theorem dX7_sumFromSales_4 : decode cX7_sumFromSales 4 = .ok (.invokevirtual 89, 3) := by decide +kernel
theorem dX7_sumFromSales_7 : decode cX7_sumFromSales 7 = .ok (.ireturn, 1) := by decide +kernel
theorem dX7_lasts_0 : decode cX7_lasts 0 = .ok (.aload_n 0, 1) := by decide +kernel
theorem dX7_lasts_1 : decode cX7_lasts 1 = .ok (.getfield 41, 3) := by decide +kernel
theorem dX7_lasts_4 : decode cX7_lasts 4 = .ok (.iload_n 1, 1) := by decide +kernel
theorem dX7_lasts_5 : decode cX7_lasts 5 = .ok (.baload, 1) := by decide +kernel
theorem dX7_lasts_6 : decode cX7_lasts 6 = .ok (.ifCond .ne 20, 3) := by decide +kernel
theorem dX7_lasts_9 : decode cX7_lasts 9 = .ok (.aload_n 0, 1) := by decide +kernel
theorem dX7_lasts_10 : decode cX7_lasts 10 = .ok (.getfield 92, 3) := by decide +kernel
theorem dX7_lasts_13 : decode cX7_lasts 13 = .ok (.aload_n 0, 1) := by decide +kernel
theorem dX7_lasts_14 : decode cX7_lasts 14 = .ok (.getfield 38, 3) := by decide +kernel
theorem dX7_lasts_17 : decode cX7_lasts 17 = .ok (.iload_n 1, 1) := by decide +kernel
theorem dX7_lasts_18 : decode cX7_lasts 18 = .ok (.iaload, 1) := by decide +kernel
theorem dX7_lasts_19 : decode cX7_lasts 19 = .ok (.if_icmp .ge 7, 3) := by decide +kernel
theorem dX7_lasts_22 : decode cX7_lasts 22 = .ok (.iconst 1, 1) := by decide +kernel
theorem dX7_lasts_23 : decode cX7_lasts 23 = .ok (.goto 4, 3) := by decide +kernel
theorem dX7_lasts_26 : decode cX7_lasts 26 = .ok (.iconst 0, 1) := by decide +kernel
theorem dX7_lasts_27 : decode cX7_lasts 27 = .ok (.ireturn, 1) := by decide +kernel
theorem dX7_embargo_0 : decode cX7_embargo 0 = .ok (.aload_n 0, 1) := by decide +kernel
theorem dX7_embargo_1 : decode cX7_embargo 1 = .ok (.iload_n 1, 1) := by decide +kernel
theorem dX7_embargo_2 : decode cX7_embargo 2 = .ok (.iload_n 2, 1) := by decide +kernel
theorem dX7_embargo_3 : decode cX7_embargo 3 = .ok (.iload_n 3, 1) := by decide +kernel
theorem dX7_embargo_4 : decode cX7_embargo 4 = .ok (.invokevirtual 82, 3) := by decide +kernel
theorem dX7_embargo_7 : decode cX7_embargo 7 = .ok (.istore 6, 2) := by decide +kernel
theorem dX7_embargo_9 : decode cX7_embargo 9 = .ok (.iload 4, 2) := by decide +kernel
theorem dX7_embargo_11 : decode cX7_embargo 11 = .ok (.iconst 1, 1) := by decide +kernel
theorem dX7_embargo_12 : decode cX7_embargo 12 = .ok (.iconst 3, 1) := by decide +kernel
theorem dX7_embargo_13 : decode cX7_embargo 13 = .ok (.invokestatic 57, 3) := by decide +kernel
theorem dX7_embargo_16 : decode cX7_embargo 16 = .ok (.ifCond .eq 18, 3) := by decide +kernel
theorem dX7_embargo_19 : decode cX7_embargo 19 = .ok (.iload 5, 2) := by decide +kernel
theorem dX7_embargo_21 : decode cX7_embargo 21 = .ok (.iconst 1, 1) := by decide +kernel
theorem dX7_embargo_22 : decode cX7_embargo 22 = .ok (.bipush 100, 2) := by decide +kernel
theorem dX7_embargo_24 : decode cX7_embargo 24 = .ok (.invokestatic 57, 3) := by decide +kernel
theorem dX7_embargo_27 : decode cX7_embargo 27 = .ok (.ifCond .eq 7, 3) := by decide +kernel
theorem dX7_embargo_30 : decode cX7_embargo 30 = .ok (.iconst 1, 1) := by decide +kernel
theorem dX7_embargo_31 : decode cX7_embargo 31 = .ok (.goto 4, 3) := by decide +kernel
theorem dX7_embargo_34 : decode cX7_embargo 34 = .ok (.iconst 0, 1) := by decide +kernel
theorem dX7_embargo_35 : decode cX7_embargo 35 = .ok (.istore 7, 2) := by decide +kernel
theorem dX7_embargo_37 : decode cX7_embargo 37 = .ok (.aload_n 0, 1) := by decide +kernel
theorem dX7_embargo_38 : decode cX7_embargo 38 = .ok (.iload 6, 2) := by decide +kernel
theorem dX7_embargo_40 : decode cX7_embargo 40 = .ok (.iconst (-1), 1) := by decide +kernel
theorem dX7_embargo_41 : decode cX7_embargo 41 = .ok (.if_icmp .ne 7, 3) := by decide +kernel
theorem dX7_embargo_44 : decode cX7_embargo 44 = .ok (.iconst 1, 1) := by decide +kernel
theorem dX7_embargo_45 : decode cX7_embargo 45 = .ok (.goto 26, 3) := by decide +kernel
theorem dX7_embargo_48 : decode cX7_embargo 48 = .ok (.iload 7, 2) := by decide +kernel
theorem dX7_embargo_50 : decode cX7_embargo 50 = .ok (.ifCond .ne 7, 3) := by decide +kernel
theorem dX7_embargo_53 : decode cX7_embargo 53 = .ok (.iconst 2, 1) := by decide +kernel
theorem dX7_embargo_54 : decode cX7_embargo 54 = .ok (.goto 17, 3) := by decide +kernel
theorem dX7_embargo_57 : decode cX7_embargo 57 = .ok (.aload_n 0, 1) := by decide +kernel
theorem dX7_embargo_58 : decode cX7_embargo 58 = .ok (.getfield 95, 3) := by decide +kernel
theorem dX7_embargo_61 : decode cX7_embargo 61 = .ok (.bipush 40, 2) := by decide +kernel
theorem dX7_embargo_63 : decode cX7_embargo 63 = .ok (.if_icmp .ne 7, 3) := by decide +kernel
theorem dX7_embargo_66 : decode cX7_embargo 66 = .ok (.iconst 3, 1) := by decide +kernel
theorem dX7_embargo_67 : decode cX7_embargo 67 = .ok (.goto 4, 3) := by decide +kernel
theorem dX7_embargo_70 : decode cX7_embargo 70 = .ok (.iconst 0, 1) := by decide +kernel
theorem dX7_embargo_71 : decode cX7_embargo 71 = .ok (.invokevirtual 75, 3) := by decide +kernel
theorem dX7_embargo_74 : decode cX7_embargo 74 = .ok (.ifCond .eq 5, 3) := by decide +kernel
theorem dX7_embargo_77 : decode cX7_embargo 77 = .ok (.iconst 0, 1) := by decide +kernel
theorem dX7_embargo_78 : decode cX7_embargo 78 = .ok (.ireturn, 1) := by decide +kernel
theorem dX7_embargo_79 : decode cX7_embargo 79 = .ok (.aload_n 0, 1) := by decide +kernel
theorem dX7_embargo_80 : decode cX7_embargo 80 = .ok (.getfield 29, 3) := by decide +kernel
theorem dX7_embargo_83 : decode cX7_embargo 83 = .ok (.aload_n 0, 1) := by decide +kernel
theorem dX7_embargo_84 : decode cX7_embargo 84 = .ok (.getfield 95, 3) := by decide +kernel
theorem dX7_embargo_87 : decode cX7_embargo 87 = .ok (.iload_n 1, 1) := by decide +kernel
theorem dX7_embargo_88 : decode cX7_embargo 88 = .ok (.iastore, 1) := by decide +kernel
theorem dX7_embargo_89 : decode cX7_embargo 89 = .ok (.aload_n 0, 1) := by decide +kernel
theorem dX7_embargo_90 : decode cX7_embargo 90 = .ok (.getfield 32, 3) := by decide +kernel
theorem dX7_embargo_93 : decode cX7_embargo 93 = .ok (.aload_n 0, 1) := by decide +kernel
theorem dX7_embargo_94 : decode cX7_embargo 94 = .ok (.getfield 95, 3) := by decide +kernel
theorem dX7_embargo_97 : decode cX7_embargo 97 = .ok (.iload 6, 2) := by decide +kernel
theorem dX7_embargo_99 : decode cX7_embargo 99 = .ok (.iastore, 1) := by decide +kernel
theorem dX7_embargo_100 : decode cX7_embargo 100 = .ok (.aload_n 0, 1) := by decide +kernel
theorem dX7_embargo_101 : decode cX7_embargo 101 = .ok (.getfield 35, 3) := by decide +kernel
theorem dX7_embargo_104 : decode cX7_embargo 104 = .ok (.aload_n 0, 1) := by decide +kernel
theorem dX7_embargo_105 : decode cX7_embargo 105 = .ok (.getfield 95, 3) := by decide +kernel
theorem dX7_embargo_108 : decode cX7_embargo 108 = .ok (.iload 4, 2) := by decide +kernel
theorem dX7_embargo_110 : decode cX7_embargo 110 = .ok (.iastore, 1) := by decide +kernel
theorem dX7_embargo_111 : decode cX7_embargo 111 = .ok (.aload_n 0, 1) := by decide +kernel
theorem dX7_embargo_112 : decode cX7_embargo 112 = .ok (.getfield 38, 3) := by decide +kernel
theorem dX7_embargo_115 : decode cX7_embargo 115 = .ok (.aload_n 0, 1) := by decide +kernel
theorem dX7_embargo_116 : decode cX7_embargo 116 = .ok (.getfield 95, 3) := by decide +kernel
theorem dX7_embargo_119 : decode cX7_embargo 119 = .ok (.aload_n 0, 1) := by decide +kernel
theorem dX7_embargo_120 : decode cX7_embargo 120 = .ok (.getfield 92, 3) := by decide +kernel
theorem dX7_embargo_123 : decode cX7_embargo 123 = .ok (.iload 5, 2) := by decide +kernel
theorem dX7_embargo_125 : decode cX7_embargo 125 = .ok (.iadd, 1) := by decide +kernel
theorem dX7_embargo_126 : decode cX7_embargo 126 = .ok (.iastore, 1) := by decide +kernel
theorem dX7_embargo_127 : decode cX7_embargo 127 = .ok (.aload_n 0, 1) := by decide +kernel
theorem dX7_embargo_128 : decode cX7_embargo 128 = .ok (.dup, 1) := by decide +kernel
theorem dX7_embargo_129 : decode cX7_embargo 129 = .ok (.getfield 95, 3) := by decide +kernel
theorem dX7_embargo_132 : decode cX7_embargo 132 = .ok (.iconst 1, 1) := by decide +kernel
theorem dX7_embargo_133 : decode cX7_embargo 133 = .ok (.iadd, 1) := by decide +kernel
theorem dX7_embargo_134 : decode cX7_embargo 134 = .ok (.putfield 95, 3) := by decide +kernel
theorem dX7_embargo_137 : decode cX7_embargo 137 = .ok (.aload_n 0, 1) := by decide +kernel
theorem dX7_embargo_138 : decode cX7_embargo 138 = .ok (.iload_n 1, 1) := by decide +kernel
theorem dX7_embargo_139 : decode cX7_embargo 139 = .ok (.iload 4, 2) := by decide +kernel
theorem dX7_embargo_141 : decode cX7_embargo 141 = .ok (.invokevirtual 78, 3) := by decide +kernel
theorem dX7_embargo_144 : decode cX7_embargo 144 = .ok (.pop, 1) := by decide +kernel
theorem dX7_embargo_145 : decode cX7_embargo 145 = .ok (.aload_n 0, 1) := by decide +kernel
theorem dX7_embargo_146 : decode cX7_embargo 146 = .ok (.getfield 95, 3) := by decide +kernel
theorem dX7_embargo_149 : decode cX7_embargo 149 = .ok (.iconst 1, 1) := by decide +kernel
theorem dX7_embargo_150 : decode cX7_embargo 150 = .ok (.isub, 1) := by decide +kernel
theorem dX7_embargo_151 : decode cX7_embargo 151 = .ok (.ireturn, 1) := by decide +kernel
theorem dX7_lift_0 : decode cX7_lift 0 = .ok (.iload_n 1, 1) := by decide +kernel
theorem dX7_lift_1 : decode cX7_lift 1 = .ok (.iconst 0, 1) := by decide +kernel
theorem dX7_lift_2 : decode cX7_lift 2 = .ok (.aload_n 0, 1) := by decide +kernel
theorem dX7_lift_3 : decode cX7_lift 3 = .ok (.getfield 95, 3) := by decide +kernel
theorem dX7_lift_6 : decode cX7_lift 6 = .ok (.iconst 1, 1) := by decide +kernel
theorem dX7_lift_7 : decode cX7_lift 7 = .ok (.isub, 1) := by decide +kernel
theorem dX7_lift_8 : decode cX7_lift 8 = .ok (.invokestatic 57, 3) := by decide +kernel
theorem dX7_lift_11 : decode cX7_lift 11 = .ok (.istore_n 2, 1) := by decide +kernel
theorem dX7_lift_12 : decode cX7_lift 12 = .ok (.aload_n 0, 1) := by decide +kernel
theorem dX7_lift_13 : decode cX7_lift 13 = .ok (.iload_n 2, 1) := by decide +kernel
theorem dX7_lift_14 : decode cX7_lift 14 = .ok (.ifCond .ne 7, 3) := by decide +kernel
theorem dX7_lift_17 : decode cX7_lift 17 = .ok (.iconst 1, 1) := by decide +kernel
theorem dX7_lift_18 : decode cX7_lift 18 = .ok (.goto 16, 3) := by decide +kernel
theorem dX7_lift_21 : decode cX7_lift 21 = .ok (.aload_n 0, 1) := by decide +kernel
theorem dX7_lift_22 : decode cX7_lift 22 = .ok (.iload_n 1, 1) := by decide +kernel
theorem dX7_lift_23 : decode cX7_lift 23 = .ok (.invokevirtual 98, 3) := by decide +kernel
theorem dX7_lift_26 : decode cX7_lift 26 = .ok (.ifCond .eq 7, 3) := by decide +kernel
theorem dX7_lift_29 : decode cX7_lift 29 = .ok (.iconst 0, 1) := by decide +kernel
theorem dX7_lift_30 : decode cX7_lift 30 = .ok (.goto 4, 3) := by decide +kernel
theorem dX7_lift_33 : decode cX7_lift 33 = .ok (.iconst 2, 1) := by decide +kernel
theorem dX7_lift_34 : decode cX7_lift 34 = .ok (.invokevirtual 75, 3) := by decide +kernel
theorem dX7_lift_37 : decode cX7_lift 37 = .ok (.ifCond .eq 5, 3) := by decide +kernel
theorem dX7_lift_40 : decode cX7_lift 40 = .ok (.iconst 0, 1) := by decide +kernel
theorem dX7_lift_41 : decode cX7_lift 41 = .ok (.ireturn, 1) := by decide +kernel
theorem dX7_lift_42 : decode cX7_lift 42 = .ok (.aload_n 0, 1) := by decide +kernel
theorem dX7_lift_43 : decode cX7_lift 43 = .ok (.getfield 41, 3) := by decide +kernel
theorem dX7_lift_46 : decode cX7_lift 46 = .ok (.iload_n 1, 1) := by decide +kernel
theorem dX7_lift_47 : decode cX7_lift 47 = .ok (.iconst 1, 1) := by decide +kernel
theorem dX7_lift_48 : decode cX7_lift 48 = .ok (.bastore, 1) := by decide +kernel
theorem dX7_lift_49 : decode cX7_lift 49 = .ok (.aload_n 0, 1) := by decide +kernel
theorem dX7_lift_50 : decode cX7_lift 50 = .ok (.aload_n 0, 1) := by decide +kernel
theorem dX7_lift_51 : decode cX7_lift 51 = .ok (.getfield 29, 3) := by decide +kernel
theorem dX7_lift_54 : decode cX7_lift 54 = .ok (.iload_n 1, 1) := by decide +kernel
theorem dX7_lift_55 : decode cX7_lift 55 = .ok (.iaload, 1) := by decide +kernel
theorem dX7_lift_56 : decode cX7_lift 56 = .ok (.aload_n 0, 1) := by decide +kernel
theorem dX7_lift_57 : decode cX7_lift 57 = .ok (.getfield 35, 3) := by decide +kernel
theorem dX7_lift_60 : decode cX7_lift 60 = .ok (.iload_n 1, 1) := by decide +kernel
theorem dX7_lift_61 : decode cX7_lift 61 = .ok (.iaload, 1) := by decide +kernel
theorem dX7_lift_62 : decode cX7_lift 62 = .ok (.invokevirtual 78, 3) := by decide +kernel
theorem dX7_lift_65 : decode cX7_lift 65 = .ok (.pop, 1) := by decide +kernel
theorem dX7_lift_66 : decode cX7_lift 66 = .ok (.aload_n 0, 1) := by decide +kernel
theorem dX7_lift_67 : decode cX7_lift 67 = .ok (.getfield 38, 3) := by decide +kernel
theorem dX7_lift_70 : decode cX7_lift 70 = .ok (.iload_n 1, 1) := by decide +kernel
theorem dX7_lift_71 : decode cX7_lift 71 = .ok (.iaload, 1) := by decide +kernel
theorem dX7_lift_72 : decode cX7_lift 72 = .ok (.aload_n 0, 1) := by decide +kernel
theorem dX7_lift_73 : decode cX7_lift 73 = .ok (.getfield 92, 3) := by decide +kernel
theorem dX7_lift_76 : decode cX7_lift 76 = .ok (.isub, 1) := by decide +kernel
theorem dX7_lift_77 : decode cX7_lift 77 = .ok (.ireturn, 1) := by decide +kernel
theorem dX7_barred_0 : decode cX7_barred 0 = .ok (.iconst 0, 1) := by decide +kernel
theorem dX7_barred_1 : decode cX7_barred 1 = .ok (.istore_n 3, 1) := by decide +kernel
theorem dX7_barred_2 : decode cX7_barred 2 = .ok (.iconst 0, 1) := by decide +kernel
theorem dX7_barred_3 : decode cX7_barred 3 = .ok (.istore 4, 2) := by decide +kernel
theorem dX7_barred_5 : decode cX7_barred 5 = .ok (.iload 4, 2) := by decide +kernel
theorem dX7_barred_7 : decode cX7_barred 7 = .ok (.aload_n 0, 1) := by decide +kernel
theorem dX7_barred_8 : decode cX7_barred 8 = .ok (.getfield 95, 3) := by decide +kernel
theorem dX7_barred_11 : decode cX7_barred 11 = .ok (.if_icmp .ge 56, 3) := by decide +kernel
theorem dX7_barred_14 : decode cX7_barred 14 = .ok (.iload_n 3, 1) := by decide +kernel
theorem dX7_barred_15 : decode cX7_barred 15 = .ok (.aload_n 0, 1) := by decide +kernel
theorem dX7_barred_16 : decode cX7_barred 16 = .ok (.iload 4, 2) := by decide +kernel
theorem dX7_barred_18 : decode cX7_barred 18 = .ok (.invokevirtual 98, 3) := by decide +kernel
theorem dX7_barred_21 : decode cX7_barred 21 = .ok (.ifCond .eq 37, 3) := by decide +kernel
theorem dX7_barred_24 : decode cX7_barred 24 = .ok (.aload_n 0, 1) := by decide +kernel
theorem dX7_barred_25 : decode cX7_barred 25 = .ok (.getfield 29, 3) := by decide +kernel
theorem dX7_barred_28 : decode cX7_barred 28 = .ok (.iload 4, 2) := by decide +kernel
theorem dX7_barred_30 : decode cX7_barred 30 = .ok (.iaload, 1) := by decide +kernel
theorem dX7_barred_31 : decode cX7_barred 31 = .ok (.iload_n 1, 1) := by decide +kernel
theorem dX7_barred_32 : decode cX7_barred 32 = .ok (.if_icmp .ne 26, 3) := by decide +kernel
theorem dX7_barred_35 : decode cX7_barred 35 = .ok (.aload_n 0, 1) := by decide +kernel
theorem dX7_barred_36 : decode cX7_barred 36 = .ok (.getfield 35, 3) := by decide +kernel
theorem dX7_barred_39 : decode cX7_barred 39 = .ok (.iload 4, 2) := by decide +kernel
theorem dX7_barred_41 : decode cX7_barred 41 = .ok (.iaload, 1) := by decide +kernel
theorem dX7_barred_42 : decode cX7_barred 42 = .ok (.iload_n 2, 1) := by decide +kernel
theorem dX7_barred_43 : decode cX7_barred 43 = .ok (.if_icmp .le 15, 3) := by decide +kernel
theorem dX7_barred_46 : decode cX7_barred 46 = .ok (.iconst 1, 1) := by decide +kernel
theorem dX7_barred_47 : decode cX7_barred 47 = .ok (.aload_n 0, 1) := by decide +kernel
theorem dX7_barred_48 : decode cX7_barred 48 = .ok (.getfield 32, 3) := by decide +kernel
theorem dX7_barred_51 : decode cX7_barred 51 = .ok (.iload 4, 2) := by decide +kernel
theorem dX7_barred_53 : decode cX7_barred 53 = .ok (.iaload, 1) := by decide +kernel
theorem dX7_barred_54 : decode cX7_barred 54 = .ok (.ishl, 1) := by decide +kernel
theorem dX7_barred_55 : decode cX7_barred 55 = .ok (.goto 4, 3) := by decide +kernel
theorem dX7_barred_58 : decode cX7_barred 58 = .ok (.iconst 0, 1) := by decide +kernel
theorem dX7_barred_59 : decode cX7_barred 59 = .ok (.ior, 1) := by decide +kernel
theorem dX7_barred_60 : decode cX7_barred 60 = .ok (.istore_n 3, 1) := by decide +kernel
theorem dX7_barred_61 : decode cX7_barred 61 = .ok (.iinc 4 1, 3) := by decide +kernel
theorem dX7_barred_64 : decode cX7_barred 64 = .ok (.goto (-59), 3) := by decide +kernel
theorem dX7_barred_67 : decode cX7_barred 67 = .ok (.iload_n 3, 1) := by decide +kernel
theorem dX7_barred_68 : decode cX7_barred 68 = .ok (.ireturn, 1) := by decide +kernel
theorem dX7_isEmbargoed_0 : decode cX7_isEmbargoed 0 = .ok (.aload_n 0, 1) := by decide +kernel
theorem dX7_isEmbargoed_1 : decode cX7_isEmbargoed 1 = .ok (.iload_n 1, 1) := by decide +kernel
theorem dX7_isEmbargoed_2 : decode cX7_isEmbargoed 2 = .ok (.iload_n 2, 1) := by decide +kernel
theorem dX7_isEmbargoed_3 : decode cX7_isEmbargoed 3 = .ok (.iload_n 3, 1) := by decide +kernel
theorem dX7_isEmbargoed_4 : decode cX7_isEmbargoed 4 = .ok (.invokevirtual 82, 3) := by decide +kernel
theorem dX7_isEmbargoed_7 : decode cX7_isEmbargoed 7 = .ok (.istore 5, 2) := by decide +kernel
theorem dX7_isEmbargoed_9 : decode cX7_isEmbargoed 9 = .ok (.aload_n 0, 1) := by decide +kernel
theorem dX7_isEmbargoed_10 : decode cX7_isEmbargoed 10 = .ok (.iload 5, 2) := by decide +kernel
theorem dX7_isEmbargoed_12 : decode cX7_isEmbargoed 12 = .ok (.iconst (-1), 1) := by decide +kernel
theorem dX7_isEmbargoed_13 : decode cX7_isEmbargoed 13 = .ok (.if_icmp .eq 11, 3) := by decide +kernel
theorem dX7_isEmbargoed_16 : decode cX7_isEmbargoed 16 = .ok (.iload 4, 2) := by decide +kernel
theorem dX7_isEmbargoed_18 : decode cX7_isEmbargoed 18 = .ok (.invokestatic 101, 3) := by decide +kernel
theorem dX7_isEmbargoed_21 : decode cX7_isEmbargoed 21 = .ok (.ifCond .ne 7, 3) := by decide +kernel
theorem dX7_isEmbargoed_24 : decode cX7_isEmbargoed 24 = .ok (.iconst 1, 1) := by decide +kernel
theorem dX7_isEmbargoed_25 : decode cX7_isEmbargoed 25 = .ok (.goto 4, 3) := by decide +kernel
theorem dX7_isEmbargoed_28 : decode cX7_isEmbargoed 28 = .ok (.iconst 0, 1) := by decide +kernel
theorem dX7_isEmbargoed_29 : decode cX7_isEmbargoed 29 = .ok (.invokevirtual 75, 3) := by decide +kernel
theorem dX7_isEmbargoed_32 : decode cX7_isEmbargoed 32 = .ok (.ifCond .eq 5, 3) := by decide +kernel
theorem dX7_isEmbargoed_35 : decode cX7_isEmbargoed 35 = .ok (.iconst 0, 1) := by decide +kernel
theorem dX7_isEmbargoed_36 : decode cX7_isEmbargoed 36 = .ok (.ireturn, 1) := by decide +kernel
theorem dX7_isEmbargoed_37 : decode cX7_isEmbargoed 37 = .ok (.aload_n 0, 1) := by decide +kernel
theorem dX7_isEmbargoed_38 : decode cX7_isEmbargoed 38 = .ok (.iload_n 1, 1) := by decide +kernel
theorem dX7_isEmbargoed_39 : decode cX7_isEmbargoed 39 = .ok (.iload 4, 2) := by decide +kernel
theorem dX7_isEmbargoed_41 : decode cX7_isEmbargoed 41 = .ok (.invokevirtual 104, 3) := by decide +kernel
theorem dX7_isEmbargoed_44 : decode cX7_isEmbargoed 44 = .ok (.iload 5, 2) := by decide +kernel
theorem dX7_isEmbargoed_46 : decode cX7_isEmbargoed 46 = .ok (.ishr, 1) := by decide +kernel
theorem dX7_isEmbargoed_47 : decode cX7_isEmbargoed 47 = .ok (.iconst 1, 1) := by decide +kernel
theorem dX7_isEmbargoed_48 : decode cX7_isEmbargoed 48 = .ok (.iand, 1) := by decide +kernel
end
section
theorem dX7_isEmbargoed_49 : decode cX7_isEmbargoed 49 = .ok (.iconst 1, 1) := by decide +kernel
theorem dX7_isEmbargoed_50 : decode cX7_isEmbargoed 50 = .ok (.if_icmp .ne 7, 3) := by decide +kernel
theorem dX7_isEmbargoed_53 : decode cX7_isEmbargoed 53 = .ok (.iconst 1, 1) := by decide +kernel
theorem dX7_isEmbargoed_54 : decode cX7_isEmbargoed 54 = .ok (.goto 4, 3) := by decide +kernel
theorem dX7_isEmbargoed_57 : decode cX7_isEmbargoed 57 = .ok (.iconst 0, 1) := by decide +kernel
theorem dX7_isEmbargoed_58 : decode cX7_isEmbargoed 58 = .ok (.ireturn, 1) := by decide +kernel
theorem dX7_pass_0 : decode cX7_pass 0 = .ok (.aload_n 0, 1) := by decide +kernel
theorem dX7_pass_1 : decode cX7_pass 1 = .ok (.iload_n 1, 1) := by decide +kernel
theorem dX7_pass_2 : decode cX7_pass 2 = .ok (.iconst 1, 1) := by decide +kernel
theorem dX7_pass_3 : decode cX7_pass 3 = .ok (.bipush 100, 2) := by decide +kernel
theorem dX7_pass_5 : decode cX7_pass 5 = .ok (.invokestatic 57, 3) := by decide +kernel
theorem dX7_pass_8 : decode cX7_pass 8 = .ok (.ifCond .ne 7, 3) := by decide +kernel
theorem dX7_pass_11 : decode cX7_pass 11 = .ok (.iconst 1, 1) := by decide +kernel
theorem dX7_pass_12 : decode cX7_pass 12 = .ok (.goto 20, 3) := by decide +kernel
theorem dX7_pass_15 : decode cX7_pass 15 = .ok (.aload_n 0, 1) := by decide +kernel
theorem dX7_pass_16 : decode cX7_pass 16 = .ok (.getfield 92, 3) := by decide +kernel
theorem dX7_pass_19 : decode cX7_pass 19 = .ok (.iload_n 1, 1) := by decide +kernel
theorem dX7_pass_20 : decode cX7_pass 20 = .ok (.iadd, 1) := by decide +kernel
theorem dX7_pass_21 : decode cX7_pass 21 = .ok (.sipush 10000, 3) := by decide +kernel
theorem dX7_pass_24 : decode cX7_pass 24 = .ok (.if_icmp .le 7, 3) := by decide +kernel
theorem dX7_pass_27 : decode cX7_pass 27 = .ok (.iconst 2, 1) := by decide +kernel
theorem dX7_pass_28 : decode cX7_pass 28 = .ok (.goto 4, 3) := by decide +kernel
theorem dX7_pass_31 : decode cX7_pass 31 = .ok (.iconst 0, 1) := by decide +kernel
theorem dX7_pass_32 : decode cX7_pass 32 = .ok (.invokevirtual 75, 3) := by decide +kernel
theorem dX7_pass_35 : decode cX7_pass 35 = .ok (.ifCond .eq 5, 3) := by decide +kernel
theorem dX7_pass_38 : decode cX7_pass 38 = .ok (.iconst 0, 1) := by decide +kernel
theorem dX7_pass_39 : decode cX7_pass 39 = .ok (.ireturn, 1) := by decide +kernel
theorem dX7_pass_40 : decode cX7_pass 40 = .ok (.iconst 0, 1) := by decide +kernel
theorem dX7_pass_41 : decode cX7_pass 41 = .ok (.istore_n 2, 1) := by decide +kernel
theorem dX7_pass_42 : decode cX7_pass 42 = .ok (.iconst 0, 1) := by decide +kernel
theorem dX7_pass_43 : decode cX7_pass 43 = .ok (.istore_n 3, 1) := by decide +kernel
theorem dX7_pass_44 : decode cX7_pass 44 = .ok (.iload_n 3, 1) := by decide +kernel
theorem dX7_pass_45 : decode cX7_pass 45 = .ok (.iload_n 1, 1) := by decide +kernel
theorem dX7_pass_46 : decode cX7_pass 46 = .ok (.if_icmp .ge 86, 3) := by decide +kernel
theorem dX7_pass_49 : decode cX7_pass 49 = .ok (.aload_n 0, 1) := by decide +kernel
theorem dX7_pass_50 : decode cX7_pass 50 = .ok (.dup, 1) := by decide +kernel
theorem dX7_pass_51 : decode cX7_pass 51 = .ok (.getfield 92, 3) := by decide +kernel
theorem dX7_pass_54 : decode cX7_pass 54 = .ok (.iconst 1, 1) := by decide +kernel
theorem dX7_pass_55 : decode cX7_pass 55 = .ok (.iadd, 1) := by decide +kernel
theorem dX7_pass_56 : decode cX7_pass 56 = .ok (.putfield 92, 3) := by decide +kernel
theorem dX7_pass_59 : decode cX7_pass 59 = .ok (.iconst 0, 1) := by decide +kernel
theorem dX7_pass_60 : decode cX7_pass 60 = .ok (.istore 4, 2) := by decide +kernel
theorem dX7_pass_62 : decode cX7_pass 62 = .ok (.iload 4, 2) := by decide +kernel
theorem dX7_pass_64 : decode cX7_pass 64 = .ok (.aload_n 0, 1) := by decide +kernel
theorem dX7_pass_65 : decode cX7_pass 65 = .ok (.getfield 95, 3) := by decide +kernel
theorem dX7_pass_68 : decode cX7_pass 68 = .ok (.if_icmp .ge 58, 3) := by decide +kernel
theorem dX7_pass_71 : decode cX7_pass 71 = .ok (.iload_n 2, 1) := by decide +kernel
theorem dX7_pass_72 : decode cX7_pass 72 = .ok (.aload_n 0, 1) := by decide +kernel
theorem dX7_pass_73 : decode cX7_pass 73 = .ok (.getfield 41, 3) := by decide +kernel
theorem dX7_pass_76 : decode cX7_pass 76 = .ok (.iload 4, 2) := by decide +kernel
theorem dX7_pass_78 : decode cX7_pass 78 = .ok (.baload, 1) := by decide +kernel
theorem dX7_pass_79 : decode cX7_pass 79 = .ok (.ifCond .ne 38, 3) := by decide +kernel
theorem dX7_pass_82 : decode cX7_pass 82 = .ok (.aload_n 0, 1) := by decide +kernel
theorem dX7_pass_83 : decode cX7_pass 83 = .ok (.getfield 38, 3) := by decide +kernel
theorem dX7_pass_86 : decode cX7_pass 86 = .ok (.iload 4, 2) := by decide +kernel
theorem dX7_pass_88 : decode cX7_pass 88 = .ok (.iaload, 1) := by decide +kernel
theorem dX7_pass_89 : decode cX7_pass 89 = .ok (.aload_n 0, 1) := by decide +kernel
theorem dX7_pass_90 : decode cX7_pass 90 = .ok (.getfield 92, 3) := by decide +kernel
theorem dX7_pass_93 : decode cX7_pass 93 = .ok (.if_icmp .ne 24, 3) := by decide +kernel
theorem dX7_pass_96 : decode cX7_pass 96 = .ok (.aload_n 0, 1) := by decide +kernel
theorem dX7_pass_97 : decode cX7_pass 97 = .ok (.aload_n 0, 1) := by decide +kernel
theorem dX7_pass_98 : decode cX7_pass 98 = .ok (.getfield 29, 3) := by decide +kernel
theorem dX7_pass_101 : decode cX7_pass 101 = .ok (.iload 4, 2) := by decide +kernel
theorem dX7_pass_103 : decode cX7_pass 103 = .ok (.iaload, 1) := by decide +kernel
theorem dX7_pass_104 : decode cX7_pass 104 = .ok (.aload_n 0, 1) := by decide +kernel
theorem dX7_pass_105 : decode cX7_pass 105 = .ok (.getfield 35, 3) := by decide +kernel
theorem dX7_pass_108 : decode cX7_pass 108 = .ok (.iload 4, 2) := by decide +kernel
theorem dX7_pass_110 : decode cX7_pass 110 = .ok (.iaload, 1) := by decide +kernel
theorem dX7_pass_111 : decode cX7_pass 111 = .ok (.invokevirtual 78, 3) := by decide +kernel
theorem dX7_pass_114 : decode cX7_pass 114 = .ok (.goto 4, 3) := by decide +kernel
theorem dX7_pass_117 : decode cX7_pass 117 = .ok (.iconst 0, 1) := by decide +kernel
theorem dX7_pass_118 : decode cX7_pass 118 = .ok (.iadd, 1) := by decide +kernel
theorem dX7_pass_119 : decode cX7_pass 119 = .ok (.istore_n 2, 1) := by decide +kernel
theorem dX7_pass_120 : decode cX7_pass 120 = .ok (.iinc 4 1, 3) := by decide +kernel
theorem dX7_pass_123 : decode cX7_pass 123 = .ok (.goto (-61), 3) := by decide +kernel
theorem dX7_pass_126 : decode cX7_pass 126 = .ok (.iinc 3 1, 3) := by decide +kernel
theorem dX7_pass_129 : decode cX7_pass 129 = .ok (.goto (-85), 3) := by decide +kernel
theorem dX7_pass_132 : decode cX7_pass 132 = .ok (.iload_n 2, 1) := by decide +kernel
theorem dX7_pass_133 : decode cX7_pass 133 = .ok (.ireturn, 1) := by decide +kernel
theorem dX7_isFound_0 : decode cX7_isFound 0 = .ok (.iload_n 0, 1) := by decide +kernel
theorem dX7_isFound_1 : decode cX7_isFound 1 = .ok (.iconst 1, 1) := by decide +kernel
theorem dX7_isFound_2 : decode cX7_isFound 2 = .ok (.iload_n 1, 1) := by decide +kernel
theorem dX7_isFound_3 : decode cX7_isFound 3 = .ok (.ishl, 1) := by decide +kernel
theorem dX7_isFound_4 : decode cX7_isFound 4 = .ok (.iconst (-1), 1) := by decide +kernel
theorem dX7_isFound_5 : decode cX7_isFound 5 = .ok (.ixor, 1) := by decide +kernel
theorem dX7_isFound_6 : decode cX7_isFound 6 = .ok (.iand, 1) := by decide +kernel
theorem dX7_isFound_7 : decode cX7_isFound 7 = .ok (.istore_n 2, 1) := by decide +kernel
theorem dX7_isFound_8 : decode cX7_isFound 8 = .ok (.iconst 1, 1) := by decide +kernel
theorem dX7_isFound_9 : decode cX7_isFound 9 = .ok (.iload_n 1, 1) := by decide +kernel
theorem dX7_isFound_10 : decode cX7_isFound 10 = .ok (.bipush 6, 2) := by decide +kernel
theorem dX7_isFound_12 : decode cX7_isFound 12 = .ok (.idiv, 1) := by decide +kernel
theorem dX7_isFound_13 : decode cX7_isFound 13 = .ok (.ishl, 1) := by decide +kernel
theorem dX7_isFound_14 : decode cX7_isFound 14 = .ok (.istore_n 3, 1) := by decide +kernel
theorem dX7_isFound_15 : decode cX7_isFound 15 = .ok (.iconst 0, 1) := by decide +kernel
theorem dX7_isFound_16 : decode cX7_isFound 16 = .ok (.istore 4, 2) := by decide +kernel
theorem dX7_isFound_18 : decode cX7_isFound 18 = .ok (.iconst 0, 1) := by decide +kernel
theorem dX7_isFound_19 : decode cX7_isFound 19 = .ok (.istore 5, 2) := by decide +kernel
theorem dX7_isFound_21 : decode cX7_isFound 21 = .ok (.iload 5, 2) := by decide +kernel
theorem dX7_isFound_23 : decode cX7_isFound 23 = .ok (.bipush 11, 2) := by decide +kernel
theorem dX7_isFound_25 : decode cX7_isFound 25 = .ok (.if_icmp .ge 126, 3) := by decide +kernel
theorem dX7_isFound_28 : decode cX7_isFound 28 = .ok (.iconst 0, 1) := by decide +kernel
theorem dX7_isFound_29 : decode cX7_isFound 29 = .ok (.istore 6, 2) := by decide +kernel
theorem dX7_isFound_31 : decode cX7_isFound 31 = .ok (.iload 6, 2) := by decide +kernel
theorem dX7_isFound_33 : decode cX7_isFound 33 = .ok (.bipush 30, 2) := by decide +kernel
theorem dX7_isFound_35 : decode cX7_isFound 35 = .ok (.if_icmp .ge 110, 3) := by decide +kernel
theorem dX7_isFound_38 : decode cX7_isFound 38 = .ok (.iload_n 2, 1) := by decide +kernel
theorem dX7_isFound_39 : decode cX7_isFound 39 = .ok (.iload 6, 2) := by decide +kernel
theorem dX7_isFound_41 : decode cX7_isFound 41 = .ok (.ishr, 1) := by decide +kernel
theorem dX7_isFound_42 : decode cX7_isFound 42 = .ok (.iconst 1, 1) := by decide +kernel
theorem dX7_isFound_43 : decode cX7_isFound 43 = .ok (.iand, 1) := by decide +kernel
theorem dX7_isFound_44 : decode cX7_isFound 44 = .ok (.iconst 1, 1) := by decide +kernel
theorem dX7_isFound_45 : decode cX7_isFound 45 = .ok (.if_icmp .ne 7, 3) := by decide +kernel
theorem dX7_isFound_48 : decode cX7_isFound 48 = .ok (.iconst 1, 1) := by decide +kernel
theorem dX7_isFound_49 : decode cX7_isFound 49 = .ok (.goto 4, 3) := by decide +kernel
theorem dX7_isFound_52 : decode cX7_isFound 52 = .ok (.iconst 0, 1) := by decide +kernel
theorem dX7_isFound_53 : decode cX7_isFound 53 = .ok (.istore 7, 2) := by decide +kernel
theorem dX7_isFound_55 : decode cX7_isFound 55 = .ok (.iload_n 3, 1) := by decide +kernel
theorem dX7_isFound_56 : decode cX7_isFound 56 = .ok (.iload 6, 2) := by decide +kernel
theorem dX7_isFound_58 : decode cX7_isFound 58 = .ok (.bipush 6, 2) := by decide +kernel
theorem dX7_isFound_60 : decode cX7_isFound 60 = .ok (.idiv, 1) := by decide +kernel
theorem dX7_isFound_61 : decode cX7_isFound 61 = .ok (.ishr, 1) := by decide +kernel
theorem dX7_isFound_62 : decode cX7_isFound 62 = .ok (.iconst 1, 1) := by decide +kernel
theorem dX7_isFound_63 : decode cX7_isFound 63 = .ok (.iand, 1) := by decide +kernel
theorem dX7_isFound_64 : decode cX7_isFound 64 = .ok (.iconst 1, 1) := by decide +kernel
theorem dX7_isFound_65 : decode cX7_isFound 65 = .ok (.if_icmp .eq 17, 3) := by decide +kernel
theorem dX7_isFound_68 : decode cX7_isFound 68 = .ok (.iload 4, 2) := by decide +kernel
theorem dX7_isFound_70 : decode cX7_isFound 70 = .ok (.iload 6, 2) := by decide +kernel
theorem dX7_isFound_72 : decode cX7_isFound 72 = .ok (.bipush 6, 2) := by decide +kernel
theorem dX7_isFound_74 : decode cX7_isFound 74 = .ok (.irem, 1) := by decide +kernel
theorem dX7_isFound_75 : decode cX7_isFound 75 = .ok (.ishr, 1) := by decide +kernel
theorem dX7_isFound_76 : decode cX7_isFound 76 = .ok (.iconst 1, 1) := by decide +kernel
theorem dX7_isFound_77 : decode cX7_isFound 77 = .ok (.iand, 1) := by decide +kernel
theorem dX7_isFound_78 : decode cX7_isFound 78 = .ok (.iconst 1, 1) := by decide +kernel
theorem dX7_isFound_79 : decode cX7_isFound 79 = .ok (.if_icmp .ne 7, 3) := by decide +kernel
theorem dX7_isFound_82 : decode cX7_isFound 82 = .ok (.iconst 1, 1) := by decide +kernel
theorem dX7_isFound_83 : decode cX7_isFound 83 = .ok (.goto 4, 3) := by decide +kernel
theorem dX7_isFound_86 : decode cX7_isFound 86 = .ok (.iconst 0, 1) := by decide +kernel
theorem dX7_isFound_87 : decode cX7_isFound 87 = .ok (.istore 8, 2) := by decide +kernel
theorem dX7_isFound_89 : decode cX7_isFound 89 = .ok (.iload_n 3, 1) := by decide +kernel
theorem dX7_isFound_90 : decode cX7_isFound 90 = .ok (.iload 7, 2) := by decide +kernel
theorem dX7_isFound_92 : decode cX7_isFound 92 = .ok (.ifCond .eq 18, 3) := by decide +kernel
theorem dX7_isFound_95 : decode cX7_isFound 95 = .ok (.iload 8, 2) := by decide +kernel
theorem dX7_isFound_97 : decode cX7_isFound 97 = .ok (.ifCond .eq 13, 3) := by decide +kernel
theorem dX7_isFound_100 : decode cX7_isFound 100 = .ok (.iconst 1, 1) := by decide +kernel
theorem dX7_isFound_101 : decode cX7_isFound 101 = .ok (.iload 6, 2) := by decide +kernel
theorem dX7_isFound_103 : decode cX7_isFound 103 = .ok (.bipush 6, 2) := by decide +kernel
theorem dX7_isFound_105 : decode cX7_isFound 105 = .ok (.idiv, 1) := by decide +kernel
theorem dX7_isFound_106 : decode cX7_isFound 106 = .ok (.ishl, 1) := by decide +kernel
theorem dX7_isFound_107 : decode cX7_isFound 107 = .ok (.goto 4, 3) := by decide +kernel
theorem dX7_isFound_110 : decode cX7_isFound 110 = .ok (.iconst 0, 1) := by decide +kernel
theorem dX7_isFound_111 : decode cX7_isFound 111 = .ok (.ior, 1) := by decide +kernel
theorem dX7_isFound_112 : decode cX7_isFound 112 = .ok (.istore_n 3, 1) := by decide +kernel
theorem dX7_isFound_113 : decode cX7_isFound 113 = .ok (.iload 4, 2) := by decide +kernel
theorem dX7_isFound_115 : decode cX7_isFound 115 = .ok (.iload 7, 2) := by decide +kernel
theorem dX7_isFound_117 : decode cX7_isFound 117 = .ok (.ifCond .eq 18, 3) := by decide +kernel
theorem dX7_isFound_120 : decode cX7_isFound 120 = .ok (.iload 8, 2) := by decide +kernel
theorem dX7_isFound_122 : decode cX7_isFound 122 = .ok (.ifCond .eq 13, 3) := by decide +kernel
theorem dX7_isFound_125 : decode cX7_isFound 125 = .ok (.iconst 1, 1) := by decide +kernel
theorem dX7_isFound_126 : decode cX7_isFound 126 = .ok (.iload 6, 2) := by decide +kernel
theorem dX7_isFound_128 : decode cX7_isFound 128 = .ok (.bipush 6, 2) := by decide +kernel
theorem dX7_isFound_130 : decode cX7_isFound 130 = .ok (.irem, 1) := by decide +kernel
theorem dX7_isFound_131 : decode cX7_isFound 131 = .ok (.ishl, 1) := by decide +kernel
theorem dX7_isFound_132 : decode cX7_isFound 132 = .ok (.goto 4, 3) := by decide +kernel
theorem dX7_isFound_135 : decode cX7_isFound 135 = .ok (.iconst 0, 1) := by decide +kernel
theorem dX7_isFound_136 : decode cX7_isFound 136 = .ok (.ior, 1) := by decide +kernel
theorem dX7_isFound_137 : decode cX7_isFound 137 = .ok (.istore 4, 2) := by decide +kernel
theorem dX7_isFound_139 : decode cX7_isFound 139 = .ok (.iinc 6 1, 3) := by decide +kernel
theorem dX7_isFound_142 : decode cX7_isFound 142 = .ok (.goto (-111), 3) := by decide +kernel
theorem dX7_isFound_145 : decode cX7_isFound 145 = .ok (.iinc 5 1, 3) := by decide +kernel
theorem dX7_isFound_148 : decode cX7_isFound 148 = .ok (.goto (-127), 3) := by decide +kernel
theorem dX7_isFound_151 : decode cX7_isFound 151 = .ok (.iload 4, 2) := by decide +kernel
theorem dX7_isFound_153 : decode cX7_isFound 153 = .ok (.iload_n 1, 1) := by decide +kernel
theorem dX7_isFound_154 : decode cX7_isFound 154 = .ok (.bipush 6, 2) := by decide +kernel
theorem dX7_isFound_156 : decode cX7_isFound 156 = .ok (.irem, 1) := by decide +kernel
theorem dX7_isFound_157 : decode cX7_isFound 157 = .ok (.ishr, 1) := by decide +kernel
theorem dX7_isFound_158 : decode cX7_isFound 158 = .ok (.iconst 1, 1) := by decide +kernel
theorem dX7_isFound_159 : decode cX7_isFound 159 = .ok (.iand, 1) := by decide +kernel
theorem dX7_isFound_160 : decode cX7_isFound 160 = .ok (.ifCond .ne 7, 3) := by decide +kernel
theorem dX7_isFound_163 : decode cX7_isFound 163 = .ok (.iconst 1, 1) := by decide +kernel
theorem dX7_isFound_164 : decode cX7_isFound 164 = .ok (.goto 4, 3) := by decide +kernel
theorem dX7_isFound_167 : decode cX7_isFound 167 = .ok (.iconst 0, 1) := by decide +kernel
theorem dX7_isFound_168 : decode cX7_isFound 168 = .ok (.ireturn, 1) := by decide +kernel
theorem dX7_covers_0 : decode cX7_covers 0 = .ok (.iconst 1, 1) := by decide +kernel
theorem dX7_covers_1 : decode cX7_covers 1 = .ok (.bipush 6, 2) := by decide +kernel
theorem dX7_covers_3 : decode cX7_covers 3 = .ok (.iload_n 0, 1) := by decide +kernel
theorem dX7_covers_4 : decode cX7_covers 4 = .ok (.bipush 6, 2) := by decide +kernel
theorem dX7_covers_6 : decode cX7_covers 6 = .ok (.idiv, 1) := by decide +kernel
theorem dX7_covers_7 : decode cX7_covers 7 = .ok (.imul, 1) := by decide +kernel
theorem dX7_covers_8 : decode cX7_covers 8 = .ok (.iload_n 2, 1) := by decide +kernel
theorem dX7_covers_9 : decode cX7_covers 9 = .ok (.iadd, 1) := by decide +kernel
theorem dX7_covers_10 : decode cX7_covers 10 = .ok (.ishl, 1) := by decide +kernel
theorem dX7_covers_11 : decode cX7_covers 11 = .ok (.iconst 1, 1) := by decide +kernel
theorem dX7_covers_12 : decode cX7_covers 12 = .ok (.bipush 6, 2) := by decide +kernel
theorem dX7_covers_14 : decode cX7_covers 14 = .ok (.iload_n 1, 1) := by decide +kernel
theorem dX7_covers_15 : decode cX7_covers 15 = .ok (.imul, 1) := by decide +kernel
theorem dX7_covers_16 : decode cX7_covers 16 = .ok (.iload_n 0, 1) := by decide +kernel
theorem dX7_covers_17 : decode cX7_covers 17 = .ok (.bipush 6, 2) := by decide +kernel
theorem dX7_covers_19 : decode cX7_covers 19 = .ok (.irem, 1) := by decide +kernel
theorem dX7_covers_20 : decode cX7_covers 20 = .ok (.iadd, 1) := by decide +kernel
theorem dX7_covers_21 : decode cX7_covers 21 = .ok (.ishl, 1) := by decide +kernel
theorem dX7_covers_22 : decode cX7_covers 22 = .ok (.ior, 1) := by decide +kernel
theorem dX7_covers_23 : decode cX7_covers 23 = .ok (.iconst 1, 1) := by decide +kernel
theorem dX7_covers_24 : decode cX7_covers 24 = .ok (.bipush 6, 2) := by decide +kernel
theorem dX7_covers_26 : decode cX7_covers 26 = .ok (.iload_n 1, 1) := by decide +kernel
theorem dX7_covers_27 : decode cX7_covers 27 = .ok (.imul, 1) := by decide +kernel
theorem dX7_covers_28 : decode cX7_covers 28 = .ok (.iload_n 2, 1) := by decide +kernel
theorem dX7_covers_29 : decode cX7_covers 29 = .ok (.iadd, 1) := by decide +kernel
theorem dX7_covers_30 : decode cX7_covers 30 = .ok (.ishl, 1) := by decide +kernel
theorem dX7_covers_31 : decode cX7_covers 31 = .ok (.ior, 1) := by decide +kernel
theorem dX7_covers_32 : decode cX7_covers 32 = .ok (.ireturn, 1) := by decide +kernel
theorem dX7_hidden_0 : decode cX7_hidden 0 = .ok (.iload_n 0, 1) := by decide +kernel
theorem dX7_hidden_1 : decode cX7_hidden 1 = .ok (.istore_n 1, 1) := by decide +kernel
theorem dX7_hidden_2 : decode cX7_hidden 2 = .ok (.iconst 0, 1) := by decide +kernel
theorem dX7_hidden_3 : decode cX7_hidden 3 = .ok (.istore_n 2, 1) := by decide +kernel
theorem dX7_hidden_4 : decode cX7_hidden 4 = .ok (.iload_n 2, 1) := by decide +kernel
theorem dX7_hidden_5 : decode cX7_hidden 5 = .ok (.bipush 30, 2) := by decide +kernel
theorem dX7_hidden_7 : decode cX7_hidden 7 = .ok (.if_icmp .ge 129, 3) := by decide +kernel
theorem dX7_hidden_10 : decode cX7_hidden 10 = .ok (.iload_n 0, 1) := by decide +kernel
theorem dX7_hidden_11 : decode cX7_hidden 11 = .ok (.iload_n 2, 1) := by decide +kernel
theorem dX7_hidden_12 : decode cX7_hidden 12 = .ok (.ishr, 1) := by decide +kernel
theorem dX7_hidden_13 : decode cX7_hidden 13 = .ok (.iconst 1, 1) := by decide +kernel
theorem dX7_hidden_14 : decode cX7_hidden 14 = .ok (.iand, 1) := by decide +kernel
theorem dX7_hidden_15 : decode cX7_hidden 15 = .ok (.iconst 1, 1) := by decide +kernel
theorem dX7_hidden_16 : decode cX7_hidden 16 = .ok (.if_icmp .ne 114, 3) := by decide +kernel
theorem dX7_hidden_19 : decode cX7_hidden 19 = .ok (.iload_n 1, 1) := by decide +kernel
theorem dX7_hidden_20 : decode cX7_hidden 20 = .ok (.iload_n 2, 1) := by decide +kernel
theorem dX7_hidden_21 : decode cX7_hidden 21 = .ok (.invokestatic 107, 3) := by decide +kernel
theorem dX7_hidden_24 : decode cX7_hidden 24 = .ok (.ifCond .eq 106, 3) := by decide +kernel
theorem dX7_hidden_27 : decode cX7_hidden 27 = .ok (.iconst 0, 1) := by decide +kernel
theorem dX7_hidden_28 : decode cX7_hidden 28 = .ok (.istore_n 3, 1) := by decide +kernel
theorem dX7_hidden_29 : decode cX7_hidden 29 = .ok (.bipush 30, 2) := by decide +kernel
theorem dX7_hidden_31 : decode cX7_hidden 31 = .ok (.istore 4, 2) := by decide +kernel
theorem dX7_hidden_33 : decode cX7_hidden 33 = .ok (.iconst 0, 1) := by decide +kernel
theorem dX7_hidden_34 : decode cX7_hidden 34 = .ok (.istore 5, 2) := by decide +kernel
theorem dX7_hidden_36 : decode cX7_hidden 36 = .ok (.iload 5, 2) := by decide +kernel
theorem dX7_hidden_38 : decode cX7_hidden 38 = .ok (.bipush 30, 2) := by decide +kernel
theorem dX7_hidden_40 : decode cX7_hidden 40 = .ok (.if_icmp .ge 86, 3) := by decide +kernel
theorem dX7_hidden_43 : decode cX7_hidden 43 = .ok (.iload 5, 2) := by decide +kernel
theorem dX7_hidden_45 : decode cX7_hidden 45 = .ok (.bipush 6, 2) := by decide +kernel
theorem dX7_hidden_47 : decode cX7_hidden 47 = .ok (.idiv, 1) := by decide +kernel
theorem dX7_hidden_48 : decode cX7_hidden 48 = .ok (.iload_n 2, 1) := by decide +kernel
theorem dX7_hidden_49 : decode cX7_hidden 49 = .ok (.bipush 6, 2) := by decide +kernel
theorem dX7_hidden_51 : decode cX7_hidden 51 = .ok (.idiv, 1) := by decide +kernel
theorem dX7_hidden_52 : decode cX7_hidden 52 = .ok (.if_icmp .eq 19, 3) := by decide +kernel
theorem dX7_hidden_55 : decode cX7_hidden 55 = .ok (.iload 5, 2) := by decide +kernel
theorem dX7_hidden_57 : decode cX7_hidden 57 = .ok (.bipush 6, 2) := by decide +kernel
theorem dX7_hidden_59 : decode cX7_hidden 59 = .ok (.irem, 1) := by decide +kernel
theorem dX7_hidden_60 : decode cX7_hidden 60 = .ok (.iload_n 2, 1) := by decide +kernel
theorem dX7_hidden_61 : decode cX7_hidden 61 = .ok (.bipush 6, 2) := by decide +kernel
theorem dX7_hidden_63 : decode cX7_hidden 63 = .ok (.irem, 1) := by decide +kernel
theorem dX7_hidden_64 : decode cX7_hidden 64 = .ok (.if_icmp .eq 7, 3) := by decide +kernel
theorem dX7_hidden_67 : decode cX7_hidden 67 = .ok (.iconst 1, 1) := by decide +kernel
theorem dX7_hidden_68 : decode cX7_hidden 68 = .ok (.goto 4, 3) := by decide +kernel
theorem dX7_hidden_71 : decode cX7_hidden 71 = .ok (.iconst 0, 1) := by decide +kernel
theorem dX7_hidden_72 : decode cX7_hidden 72 = .ok (.istore 6, 2) := by decide +kernel
theorem dX7_hidden_74 : decode cX7_hidden 74 = .ok (.iload_n 2, 1) := by decide +kernel
theorem dX7_hidden_75 : decode cX7_hidden 75 = .ok (.iload 5, 2) := by decide +kernel
theorem dX7_hidden_77 : decode cX7_hidden 77 = .ok (.bipush 6, 2) := by decide +kernel
theorem dX7_hidden_79 : decode cX7_hidden 79 = .ok (.idiv, 1) := by decide +kernel
theorem dX7_hidden_80 : decode cX7_hidden 80 = .ok (.iload 5, 2) := by decide +kernel
theorem dX7_hidden_82 : decode cX7_hidden 82 = .ok (.bipush 6, 2) := by decide +kernel
theorem dX7_hidden_84 : decode cX7_hidden 84 = .ok (.irem, 1) := by decide +kernel
theorem dX7_hidden_85 : decode cX7_hidden 85 = .ok (.invokestatic 110, 3) := by decide +kernel
theorem dX7_hidden_88 : decode cX7_hidden 88 = .ok (.istore 7, 2) := by decide +kernel
theorem dX7_hidden_90 : decode cX7_hidden 90 = .ok (.iload 7, 2) := by decide +kernel
theorem dX7_hidden_92 : decode cX7_hidden 92 = .ok (.iload_n 1, 1) := by decide +kernel
theorem dX7_hidden_93 : decode cX7_hidden 93 = .ok (.iconst (-1), 1) := by decide +kernel
theorem dX7_hidden_94 : decode cX7_hidden 94 = .ok (.ixor, 1) := by decide +kernel
theorem dX7_hidden_95 : decode cX7_hidden 95 = .ok (.iand, 1) := by decide +kernel
theorem dX7_hidden_96 : decode cX7_hidden 96 = .ok (.invokestatic 113, 3) := by decide +kernel
theorem dX7_hidden_99 : decode cX7_hidden 99 = .ok (.istore 8, 2) := by decide +kernel
theorem dX7_hidden_101 : decode cX7_hidden 101 = .ok (.iload 6, 2) := by decide +kernel
theorem dX7_hidden_103 : decode cX7_hidden 103 = .ok (.ifCond .eq 17, 3) := by decide +kernel
theorem dX7_hidden_106 : decode cX7_hidden 106 = .ok (.iload 8, 2) := by decide +kernel
theorem dX7_hidden_108 : decode cX7_hidden 108 = .ok (.iload 4, 2) := by decide +kernel
theorem dX7_hidden_110 : decode cX7_hidden 110 = .ok (.if_icmp .ge 10, 3) := by decide +kernel
theorem dX7_hidden_113 : decode cX7_hidden 113 = .ok (.iload 8, 2) := by decide +kernel
theorem dX7_hidden_115 : decode cX7_hidden 115 = .ok (.istore 4, 2) := by decide +kernel
theorem dX7_hidden_117 : decode cX7_hidden 117 = .ok (.iload 7, 2) := by decide +kernel
theorem dX7_hidden_119 : decode cX7_hidden 119 = .ok (.istore_n 3, 1) := by decide +kernel
theorem dX7_hidden_120 : decode cX7_hidden 120 = .ok (.iinc 5 1, 3) := by decide +kernel
theorem dX7_hidden_123 : decode cX7_hidden 123 = .ok (.goto (-87), 3) := by decide +kernel
theorem dX7_hidden_126 : decode cX7_hidden 126 = .ok (.iload_n 1, 1) := by decide +kernel
theorem dX7_hidden_127 : decode cX7_hidden 127 = .ok (.iload_n 3, 1) := by decide +kernel
theorem dX7_hidden_128 : decode cX7_hidden 128 = .ok (.ior, 1) := by decide +kernel
theorem dX7_hidden_129 : decode cX7_hidden 129 = .ok (.istore_n 1, 1) := by decide +kernel
theorem dX7_hidden_130 : decode cX7_hidden 130 = .ok (.iinc 2 1, 3) := by decide +kernel
theorem dX7_hidden_133 : decode cX7_hidden 133 = .ok (.goto (-129), 3) := by decide +kernel
theorem dX7_hidden_136 : decode cX7_hidden 136 = .ok (.iload_n 1, 1) := by decide +kernel
theorem dX7_hidden_137 : decode cX7_hidden 137 = .ok (.ireturn, 1) := by decide +kernel
theorem dX7_areBoth_0 : decode cX7_areBoth 0 = .ok (.iload_n 0, 1) := by decide +kernel
theorem dX7_areBoth_1 : decode cX7_areBoth 1 = .ok (.invokestatic 61, 3) := by decide +kernel
theorem dX7_areBoth_4 : decode cX7_areBoth 4 = .ok (.ifCond .eq 14, 3) := by decide +kernel
theorem dX7_areBoth_7 : decode cX7_areBoth 7 = .ok (.iload_n 1, 1) := by decide +kernel
theorem dX7_areBoth_8 : decode cX7_areBoth 8 = .ok (.invokestatic 101, 3) := by decide +kernel
theorem dX7_areBoth_11 : decode cX7_areBoth 11 = .ok (.ifCond .eq 7, 3) := by decide +kernel
theorem dX7_areBoth_14 : decode cX7_areBoth 14 = .ok (.iconst 1, 1) := by decide +kernel
theorem dX7_areBoth_15 : decode cX7_areBoth 15 = .ok (.goto 4, 3) := by decide +kernel
theorem dX7_areBoth_18 : decode cX7_areBoth 18 = .ok (.iconst 0, 1) := by decide +kernel
theorem dX7_areBoth_19 : decode cX7_areBoth 19 = .ok (.ireturn, 1) := by decide +kernel
theorem dX7_build_0 : decode cX7_build 0 = .ok (.aload_n 0, 1) := by decide +kernel
theorem dX7_build_1 : decode cX7_build 1 = .ok (.iload_n 1, 1) := by decide +kernel
theorem dX7_build_2 : decode cX7_build 2 = .ok (.iload_n 2, 1) := by decide +kernel
theorem dX7_build_3 : decode cX7_build 3 = .ok (.invokestatic 117, 3) := by decide +kernel
theorem dX7_build_6 : decode cX7_build 6 = .ok (.ifCond .eq 7, 3) := by decide +kernel
theorem dX7_build_9 : decode cX7_build 9 = .ok (.iconst 0, 1) := by decide +kernel
theorem dX7_build_10 : decode cX7_build 10 = .ok (.goto 4, 3) := by decide +kernel
theorem dX7_build_13 : decode cX7_build 13 = .ok (.iconst 1, 1) := by decide +kernel
theorem dX7_build_14 : decode cX7_build 14 = .ok (.invokevirtual 75, 3) := by decide +kernel
theorem dX7_build_17 : decode cX7_build 17 = .ok (.ifCond .eq 5, 3) := by decide +kernel
theorem dX7_build_20 : decode cX7_build 20 = .ok (.iconst 0, 1) := by decide +kernel
theorem dX7_build_21 : decode cX7_build 21 = .ok (.ireturn, 1) := by decide +kernel
theorem dX7_build_22 : decode cX7_build 22 = .ok (.iconst 4, 1) := by decide +kernel
theorem dX7_build_23 : decode cX7_build 23 = .ok (.iload_n 1, 1) := by decide +kernel
theorem dX7_build_24 : decode cX7_build 24 = .ok (.imul, 1) := by decide +kernel
theorem dX7_build_25 : decode cX7_build 25 = .ok (.iload_n 2, 1) := by decide +kernel
theorem dX7_build_26 : decode cX7_build 26 = .ok (.iadd, 1) := by decide +kernel
theorem dX7_build_27 : decode cX7_build 27 = .ok (.istore_n 3, 1) := by decide +kernel
theorem dX7_build_28 : decode cX7_build 28 = .ok (.aload_n 0, 1) := by decide +kernel
theorem dX7_build_29 : decode cX7_build 29 = .ok (.getfield 44, 3) := by decide +kernel
theorem dX7_build_32 : decode cX7_build 32 = .ok (.iload_n 3, 1) := by decide +kernel
theorem dX7_build_33 : decode cX7_build 33 = .ok (.iconst 1, 1) := by decide +kernel
theorem dX7_build_34 : decode cX7_build 34 = .ok (.bastore, 1) := by decide +kernel
theorem dX7_build_35 : decode cX7_build 35 = .ok (.aload_n 0, 1) := by decide +kernel
theorem dX7_build_36 : decode cX7_build 36 = .ok (.getfield 50, 3) := by decide +kernel
theorem dX7_build_39 : decode cX7_build 39 = .ok (.iload_n 3, 1) := by decide +kernel
theorem dX7_build_40 : decode cX7_build 40 = .ok (.aload_n 0, 1) := by decide +kernel
theorem dX7_build_41 : decode cX7_build 41 = .ok (.iload_n 1, 1) := by decide +kernel
theorem dX7_build_42 : decode cX7_build 42 = .ok (.iload_n 2, 1) := by decide +kernel
theorem dX7_build_43 : decode cX7_build 43 = .ok (.invokevirtual 104, 3) := by decide +kernel
theorem dX7_build_46 : decode cX7_build 46 = .ok (.iastore, 1) := by decide +kernel
theorem dX7_build_47 : decode cX7_build 47 = .ok (.aload_n 0, 1) := by decide +kernel
theorem dX7_build_48 : decode cX7_build 48 = .ok (.getfield 47, 3) := by decide +kernel
theorem dX7_build_51 : decode cX7_build 51 = .ok (.iload_n 3, 1) := by decide +kernel
theorem dX7_build_52 : decode cX7_build 52 = .ok (.aload_n 0, 1) := by decide +kernel
theorem dX7_build_53 : decode cX7_build 53 = .ok (.getfield 50, 3) := by decide +kernel
theorem dX7_build_56 : decode cX7_build 56 = .ok (.iload_n 3, 1) := by decide +kernel
theorem dX7_build_57 : decode cX7_build 57 = .ok (.iaload, 1) := by decide +kernel
theorem dX7_build_58 : decode cX7_build 58 = .ok (.invokestatic 120, 3) := by decide +kernel
theorem dX7_build_61 : decode cX7_build 61 = .ok (.iastore, 1) := by decide +kernel
theorem dX7_build_62 : decode cX7_build 62 = .ok (.aload_n 0, 1) := by decide +kernel
theorem dX7_build_63 : decode cX7_build 63 = .ok (.getfield 47, 3) := by decide +kernel
theorem dX7_build_66 : decode cX7_build 66 = .ok (.iload_n 3, 1) := by decide +kernel
theorem dX7_build_67 : decode cX7_build 67 = .ok (.iaload, 1) := by decide +kernel
theorem dX7_build_68 : decode cX7_build 68 = .ok (.invokestatic 113, 3) := by decide +kernel
theorem dX7_build_71 : decode cX7_build 71 = .ok (.ireturn, 1) := by decide +kernel
theorem dX7_isBuilt_0 : decode cX7_isBuilt 0 = .ok (.aload_n 0, 1) := by decide +kernel
theorem dX7_isBuilt_1 : decode cX7_isBuilt 1 = .ok (.iload_n 1, 1) := by decide +kernel
theorem dX7_isBuilt_2 : decode cX7_isBuilt 2 = .ok (.iload_n 2, 1) := by decide +kernel
theorem dX7_isBuilt_3 : decode cX7_isBuilt 3 = .ok (.invokestatic 117, 3) := by decide +kernel
theorem dX7_isBuilt_6 : decode cX7_isBuilt 6 = .ok (.ifCond .eq 7, 3) := by decide +kernel
theorem dX7_isBuilt_9 : decode cX7_isBuilt 9 = .ok (.iconst 0, 1) := by decide +kernel
theorem dX7_isBuilt_10 : decode cX7_isBuilt 10 = .ok (.goto 4, 3) := by decide +kernel
theorem dX7_isBuilt_13 : decode cX7_isBuilt 13 = .ok (.iconst 1, 1) := by decide +kernel
theorem dX7_isBuilt_14 : decode cX7_isBuilt 14 = .ok (.invokevirtual 75, 3) := by decide +kernel
theorem dX7_isBuilt_17 : decode cX7_isBuilt 17 = .ok (.ifCond .ne 20, 3) := by decide +kernel
theorem dX7_isBuilt_20 : decode cX7_isBuilt 20 = .ok (.aload_n 0, 1) := by decide +kernel
theorem dX7_isBuilt_21 : decode cX7_isBuilt 21 = .ok (.getfield 44, 3) := by decide +kernel
theorem dX7_isBuilt_24 : decode cX7_isBuilt 24 = .ok (.iconst 4, 1) := by decide +kernel
theorem dX7_isBuilt_25 : decode cX7_isBuilt 25 = .ok (.iload_n 1, 1) := by decide +kernel
theorem dX7_isBuilt_26 : decode cX7_isBuilt 26 = .ok (.imul, 1) := by decide +kernel
theorem dX7_isBuilt_27 : decode cX7_isBuilt 27 = .ok (.iload_n 2, 1) := by decide +kernel
theorem dX7_isBuilt_28 : decode cX7_isBuilt 28 = .ok (.iadd, 1) := by decide +kernel
theorem dX7_isBuilt_29 : decode cX7_isBuilt 29 = .ok (.baload, 1) := by decide +kernel
theorem dX7_isBuilt_30 : decode cX7_isBuilt 30 = .ok (.ifCond .eq 7, 3) := by decide +kernel
theorem dX7_isBuilt_33 : decode cX7_isBuilt 33 = .ok (.iconst 1, 1) := by decide +kernel
theorem dX7_isBuilt_34 : decode cX7_isBuilt 34 = .ok (.goto 4, 3) := by decide +kernel
theorem dX7_isBuilt_37 : decode cX7_isBuilt 37 = .ok (.iconst 0, 1) := by decide +kernel
theorem dX7_isBuilt_38 : decode cX7_isBuilt 38 = .ok (.ireturn, 1) := by decide +kernel
theorem dX7_shown_0 : decode cX7_shown 0 = .ok (.aload_n 0, 1) := by decide +kernel
theorem dX7_shown_1 : decode cX7_shown 1 = .ok (.iload_n 1, 1) := by decide +kernel
theorem dX7_shown_2 : decode cX7_shown 2 = .ok (.iload_n 3, 1) := by decide +kernel
theorem dX7_shown_3 : decode cX7_shown 3 = .ok (.iload 4, 2) := by decide +kernel
theorem dX7_shown_5 : decode cX7_shown 5 = .ok (.invokevirtual 82, 3) := by decide +kernel
theorem dX7_shown_8 : decode cX7_shown 8 = .ok (.istore 5, 2) := by decide +kernel
theorem dX7_shown_10 : decode cX7_shown 10 = .ok (.iload_n 2, 1) := by decide +kernel
theorem dX7_shown_11 : decode cX7_shown 11 = .ok (.invokestatic 101, 3) := by decide +kernel
theorem dX7_shown_14 : decode cX7_shown 14 = .ok (.ifCond .eq 13, 3) := by decide +kernel
theorem dX7_shown_17 : decode cX7_shown 17 = .ok (.iload 5, 2) := by decide +kernel
theorem dX7_shown_19 : decode cX7_shown 19 = .ok (.iconst (-1), 1) := by decide +kernel
theorem dX7_shown_20 : decode cX7_shown 20 = .ok (.if_icmp .eq 7, 3) := by decide +kernel
theorem dX7_shown_23 : decode cX7_shown 23 = .ok (.iconst 1, 1) := by decide +kernel
theorem dX7_shown_24 : decode cX7_shown 24 = .ok (.goto 4, 3) := by decide +kernel
theorem dX7_shown_27 : decode cX7_shown 27 = .ok (.iconst 0, 1) := by decide +kernel
theorem dX7_shown_28 : decode cX7_shown 28 = .ok (.istore 6, 2) := by decide +kernel
theorem dX7_shown_30 : decode cX7_shown 30 = .ok (.aload_n 0, 1) := by decide +kernel
theorem dX7_shown_31 : decode cX7_shown 31 = .ok (.iload 6, 2) := by decide +kernel
theorem dX7_shown_33 : decode cX7_shown 33 = .ok (.ifCond .ne 7, 3) := by decide +kernel
theorem dX7_shown_36 : decode cX7_shown 36 = .ok (.iconst 1, 1) := by decide +kernel
theorem dX7_shown_37 : decode cX7_shown 37 = .ok (.goto 21, 3) := by decide +kernel
theorem dX7_shown_40 : decode cX7_shown 40 = .ok (.aload_n 0, 1) := by decide +kernel
theorem dX7_shown_41 : decode cX7_shown 41 = .ok (.getfield 44, 3) := by decide +kernel
theorem dX7_shown_44 : decode cX7_shown 44 = .ok (.iconst 4, 1) := by decide +kernel
theorem dX7_shown_45 : decode cX7_shown 45 = .ok (.iload_n 1, 1) := by decide +kernel
theorem dX7_shown_46 : decode cX7_shown 46 = .ok (.imul, 1) := by decide +kernel
theorem dX7_shown_47 : decode cX7_shown 47 = .ok (.iload_n 2, 1) := by decide +kernel
theorem dX7_shown_48 : decode cX7_shown 48 = .ok (.iadd, 1) := by decide +kernel
theorem dX7_shown_49 : decode cX7_shown 49 = .ok (.baload, 1) := by decide +kernel
theorem dX7_shown_50 : decode cX7_shown 50 = .ok (.ifCond .eq 7, 3) := by decide +kernel
theorem dX7_shown_53 : decode cX7_shown 53 = .ok (.iconst 0, 1) := by decide +kernel
theorem dX7_shown_54 : decode cX7_shown 54 = .ok (.goto 4, 3) := by decide +kernel
theorem dX7_shown_57 : decode cX7_shown 57 = .ok (.iconst 2, 1) := by decide +kernel
theorem dX7_shown_58 : decode cX7_shown 58 = .ok (.invokevirtual 75, 3) := by decide +kernel
theorem dX7_shown_61 : decode cX7_shown 61 = .ok (.ifCond .eq 5, 3) := by decide +kernel
theorem dX7_shown_64 : decode cX7_shown 64 = .ok (.iconst 0, 1) := by decide +kernel
theorem dX7_shown_65 : decode cX7_shown 65 = .ok (.ireturn, 1) := by decide +kernel
theorem dX7_shown_66 : decode cX7_shown 66 = .ok (.aload_n 0, 1) := by decide +kernel
theorem dX7_shown_67 : decode cX7_shown 67 = .ok (.getfield 47, 3) := by decide +kernel
theorem dX7_shown_70 : decode cX7_shown 70 = .ok (.iconst 4, 1) := by decide +kernel
theorem dX7_shown_71 : decode cX7_shown 71 = .ok (.iload_n 1, 1) := by decide +kernel
theorem dX7_shown_72 : decode cX7_shown 72 = .ok (.imul, 1) := by decide +kernel
theorem dX7_shown_73 : decode cX7_shown 73 = .ok (.iload_n 2, 1) := by decide +kernel
theorem dX7_shown_74 : decode cX7_shown 74 = .ok (.iadd, 1) := by decide +kernel
theorem dX7_shown_75 : decode cX7_shown 75 = .ok (.iaload, 1) := by decide +kernel
theorem dX7_shown_76 : decode cX7_shown 76 = .ok (.iload 5, 2) := by decide +kernel
theorem dX7_shown_78 : decode cX7_shown 78 = .ok (.ishr, 1) := by decide +kernel
theorem dX7_shown_79 : decode cX7_shown 79 = .ok (.iconst 1, 1) := by decide +kernel
theorem dX7_shown_80 : decode cX7_shown 80 = .ok (.iand, 1) := by decide +kernel
theorem dX7_shown_81 : decode cX7_shown 81 = .ok (.iconst 1, 1) := by decide +kernel
theorem dX7_shown_82 : decode cX7_shown 82 = .ok (.if_icmp .ne 8, 3) := by decide +kernel
theorem dX7_shown_85 : decode cX7_shown 85 = .ok (.ldc 123, 2) := by decide +kernel
theorem dX7_shown_87 : decode cX7_shown 87 = .ok (.goto 10, 3) := by decide +kernel
theorem dX7_shown_90 : decode cX7_shown 90 = .ok (.aload_n 0, 1) := by decide +kernel
theorem dX7_shown_91 : decode cX7_shown 91 = .ok (.iload_n 1, 1) := by decide +kernel
theorem dX7_shown_92 : decode cX7_shown 92 = .ok (.iload 5, 2) := by decide +kernel
theorem dX7_shown_94 : decode cX7_shown 94 = .ok (.invokevirtual 86, 3) := by decide +kernel
theorem dX7_shown_97 : decode cX7_shown 97 = .ok (.ireturn, 1) := by decide +kernel
theorem dX7_why_0 : decode cX7_why 0 = .ok (.aload_n 0, 1) := by decide +kernel
theorem dX7_why_1 : decode cX7_why 1 = .ok (.iload_n 1, 1) := by decide +kernel
theorem dX7_why_2 : decode cX7_why 2 = .ok (.iload_n 3, 1) := by decide +kernel
theorem dX7_why_3 : decode cX7_why 3 = .ok (.iload 4, 2) := by decide +kernel
theorem dX7_why_5 : decode cX7_why 5 = .ok (.invokevirtual 82, 3) := by decide +kernel
theorem dX7_why_8 : decode cX7_why 8 = .ok (.istore 5, 2) := by decide +kernel
theorem dX7_why_10 : decode cX7_why 10 = .ok (.aload_n 0, 1) := by decide +kernel
theorem dX7_why_11 : decode cX7_why 11 = .ok (.iload_n 2, 1) := by decide +kernel
theorem dX7_why_12 : decode cX7_why 12 = .ok (.invokestatic 101, 3) := by decide +kernel
theorem dX7_why_15 : decode cX7_why 15 = .ok (.ifCond .eq 13, 3) := by decide +kernel
theorem dX7_why_18 : decode cX7_why 18 = .ok (.iload 5, 2) := by decide +kernel
theorem dX7_why_20 : decode cX7_why 20 = .ok (.iconst (-1), 1) := by decide +kernel
theorem dX7_why_21 : decode cX7_why 21 = .ok (.if_icmp .eq 7, 3) := by decide +kernel
theorem dX7_why_24 : decode cX7_why 24 = .ok (.iconst 0, 1) := by decide +kernel
theorem dX7_why_25 : decode cX7_why 25 = .ok (.goto 4, 3) := by decide +kernel
theorem dX7_why_28 : decode cX7_why 28 = .ok (.iconst 1, 1) := by decide +kernel
theorem dX7_why_29 : decode cX7_why 29 = .ok (.invokevirtual 75, 3) := by decide +kernel
theorem dX7_why_32 : decode cX7_why 32 = .ok (.ifCond .eq 5, 3) := by decide +kernel
theorem dX7_why_35 : decode cX7_why 35 = .ok (.iconst 0, 1) := by decide +kernel
theorem dX7_why_36 : decode cX7_why 36 = .ok (.ireturn, 1) := by decide +kernel
theorem dX7_why_37 : decode cX7_why 37 = .ok (.iconst 4, 1) := by decide +kernel
theorem dX7_why_38 : decode cX7_why 38 = .ok (.iload_n 1, 1) := by decide +kernel
theorem dX7_why_39 : decode cX7_why 39 = .ok (.imul, 1) := by decide +kernel
theorem dX7_why_40 : decode cX7_why 40 = .ok (.iload_n 2, 1) := by decide +kernel
theorem dX7_why_41 : decode cX7_why 41 = .ok (.iadd, 1) := by decide +kernel
theorem dX7_why_42 : decode cX7_why 42 = .ok (.istore 6, 2) := by decide +kernel
theorem dX7_why_44 : decode cX7_why 44 = .ok (.aload_n 0, 1) := by decide +kernel
theorem dX7_why_45 : decode cX7_why 45 = .ok (.getfield 44, 3) := by decide +kernel
theorem dX7_why_48 : decode cX7_why 48 = .ok (.iload 6, 2) := by decide +kernel
theorem dX7_why_50 : decode cX7_why 50 = .ok (.baload, 1) := by decide +kernel
theorem dX7_why_51 : decode cX7_why 51 = .ok (.ifCond .ne 5, 3) := by decide +kernel
theorem dX7_why_54 : decode cX7_why 54 = .ok (.iconst 3, 1) := by decide +kernel
theorem dX7_why_55 : decode cX7_why 55 = .ok (.ireturn, 1) := by decide +kernel
theorem dX7_why_56 : decode cX7_why 56 = .ok (.aload_n 0, 1) := by decide +kernel
theorem dX7_why_57 : decode cX7_why 57 = .ok (.getfield 50, 3) := by decide +kernel
theorem dX7_why_60 : decode cX7_why 60 = .ok (.iload 6, 2) := by decide +kernel
theorem dX7_why_62 : decode cX7_why 62 = .ok (.iaload, 1) := by decide +kernel
theorem dX7_why_63 : decode cX7_why 63 = .ok (.iload 5, 2) := by decide +kernel
theorem dX7_why_65 : decode cX7_why 65 = .ok (.ishr, 1) := by decide +kernel
theorem dX7_why_66 : decode cX7_why 66 = .ok (.iconst 1, 1) := by decide +kernel
theorem dX7_why_67 : decode cX7_why 67 = .ok (.iand, 1) := by decide +kernel
theorem dX7_why_68 : decode cX7_why 68 = .ok (.iconst 1, 1) := by decide +kernel
theorem dX7_why_69 : decode cX7_why 69 = .ok (.if_icmp .ne 7, 3) := by decide +kernel
theorem dX7_why_72 : decode cX7_why 72 = .ok (.iconst 1, 1) := by decide +kernel
theorem dX7_why_73 : decode cX7_why 73 = .ok (.goto 24, 3) := by decide +kernel
theorem dX7_why_76 : decode cX7_why 76 = .ok (.aload_n 0, 1) := by decide +kernel
theorem dX7_why_77 : decode cX7_why 77 = .ok (.getfield 47, 3) := by decide +kernel
theorem dX7_why_80 : decode cX7_why 80 = .ok (.iload 6, 2) := by decide +kernel
theorem dX7_why_82 : decode cX7_why 82 = .ok (.iaload, 1) := by decide +kernel
theorem dX7_why_83 : decode cX7_why 83 = .ok (.iload 5, 2) := by decide +kernel
theorem dX7_why_85 : decode cX7_why 85 = .ok (.ishr, 1) := by decide +kernel
theorem dX7_why_86 : decode cX7_why 86 = .ok (.iconst 1, 1) := by decide +kernel
theorem dX7_why_87 : decode cX7_why 87 = .ok (.iand, 1) := by decide +kernel
theorem dX7_why_88 : decode cX7_why 88 = .ok (.iconst 1, 1) := by decide +kernel
theorem dX7_why_89 : decode cX7_why 89 = .ok (.if_icmp .ne 7, 3) := by decide +kernel
theorem dX7_why_92 : decode cX7_why 92 = .ok (.iconst 2, 1) := by decide +kernel
theorem dX7_why_93 : decode cX7_why 93 = .ok (.goto 4, 3) := by decide +kernel
theorem dX7_why_96 : decode cX7_why 96 = .ok (.iconst 0, 1) := by decide +kernel
theorem dX7_why_97 : decode cX7_why 97 = .ok (.ireturn, 1) := by decide +kernel
theorem dX7_read_0 : decode cX7_read 0 = .ok (.iload_n 1, 1) := by decide +kernel
theorem dX7_read_1 : decode cX7_read 1 = .ok (.iload_n 2, 1) := by decide +kernel
theorem dX7_read_2 : decode cX7_read 2 = .ok (.invokestatic 117, 3) := by decide +kernel
theorem dX7_read_5 : decode cX7_read 5 = .ok (.istore_n 3, 1) := by decide +kernel
theorem dX7_read_6 : decode cX7_read 6 = .ok (.aload_n 0, 1) := by decide +kernel
theorem dX7_read_7 : decode cX7_read 7 = .ok (.iload_n 3, 1) := by decide +kernel
theorem dX7_read_8 : decode cX7_read 8 = .ok (.ifCond .ne 7, 3) := by decide +kernel
theorem dX7_read_11 : decode cX7_read 11 = .ok (.iconst 1, 1) := by decide +kernel
theorem dX7_read_12 : decode cX7_read 12 = .ok (.goto 21, 3) := by decide +kernel
theorem dX7_read_15 : decode cX7_read 15 = .ok (.aload_n 0, 1) := by decide +kernel
theorem dX7_read_16 : decode cX7_read 16 = .ok (.getfield 44, 3) := by decide +kernel
theorem dX7_read_19 : decode cX7_read 19 = .ok (.iconst 4, 1) := by decide +kernel
theorem dX7_read_20 : decode cX7_read 20 = .ok (.iload_n 1, 1) := by decide +kernel
theorem dX7_read_21 : decode cX7_read 21 = .ok (.imul, 1) := by decide +kernel
theorem dX7_read_22 : decode cX7_read 22 = .ok (.iload_n 2, 1) := by decide +kernel
theorem dX7_read_23 : decode cX7_read 23 = .ok (.iadd, 1) := by decide +kernel
theorem dX7_read_24 : decode cX7_read 24 = .ok (.baload, 1) := by decide +kernel
theorem dX7_read_25 : decode cX7_read 25 = .ok (.ifCond .eq 7, 3) := by decide +kernel
theorem dX7_read_28 : decode cX7_read 28 = .ok (.iconst 0, 1) := by decide +kernel
theorem dX7_read_29 : decode cX7_read 29 = .ok (.goto 4, 3) := by decide +kernel
theorem dX7_read_32 : decode cX7_read 32 = .ok (.iconst 2, 1) := by decide +kernel
theorem dX7_read_33 : decode cX7_read 33 = .ok (.invokevirtual 75, 3) := by decide +kernel
theorem dX7_read_36 : decode cX7_read 36 = .ok (.ifCond .eq 5, 3) := by decide +kernel
theorem dX7_read_39 : decode cX7_read 39 = .ok (.iconst 0, 1) := by decide +kernel
theorem dX7_read_40 : decode cX7_read 40 = .ok (.ireturn, 1) := by decide +kernel
theorem dX7_read_41 : decode cX7_read 41 = .ok (.iconst 0, 1) := by decide +kernel
theorem dX7_read_42 : decode cX7_read 42 = .ok (.istore 4, 2) := by decide +kernel
theorem dX7_read_44 : decode cX7_read 44 = .ok (.iconst 0, 1) := by decide +kernel
theorem dX7_read_45 : decode cX7_read 45 = .ok (.istore 5, 2) := by decide +kernel
theorem dX7_read_47 : decode cX7_read 47 = .ok (.iload 5, 2) := by decide +kernel
theorem dX7_read_49 : decode cX7_read 49 = .ok (.aload_n 0, 1) := by decide +kernel
theorem dX7_read_50 : decode cX7_read 50 = .ok (.getfield 72, 3) := by decide +kernel
theorem dX7_read_53 : decode cX7_read 53 = .ok (.if_icmp .ge 40, 3) := by decide +kernel
theorem dX7_read_56 : decode cX7_read 56 = .ok (.iload 4, 2) := by decide +kernel
theorem dX7_read_58 : decode cX7_read 58 = .ok (.aload_n 0, 1) := by decide +kernel
theorem dX7_read_59 : decode cX7_read 59 = .ok (.getfield 7, 3) := by decide +kernel
theorem dX7_read_62 : decode cX7_read 62 = .ok (.iload 5, 2) := by decide +kernel
theorem dX7_read_64 : decode cX7_read 64 = .ok (.iaload, 1) := by decide +kernel
theorem dX7_read_65 : decode cX7_read 65 = .ok (.iload_n 1, 1) := by decide +kernel
theorem dX7_read_66 : decode cX7_read 66 = .ok (.if_icmp .ne 17, 3) := by decide +kernel
theorem dX7_read_69 : decode cX7_read 69 = .ok (.aload_n 0, 1) := by decide +kernel
theorem dX7_read_70 : decode cX7_read 70 = .ok (.getfield 22, 3) := by decide +kernel
theorem dX7_read_73 : decode cX7_read 73 = .ok (.iload 5, 2) := by decide +kernel
theorem dX7_read_75 : decode cX7_read 75 = .ok (.baload, 1) := by decide +kernel
theorem dX7_read_76 : decode cX7_read 76 = .ok (.ifCond .ne 7, 3) := by decide +kernel
theorem dX7_read_79 : decode cX7_read 79 = .ok (.iconst 1, 1) := by decide +kernel
theorem dX7_read_80 : decode cX7_read 80 = .ok (.goto 4, 3) := by decide +kernel
theorem dX7_read_83 : decode cX7_read 83 = .ok (.iconst 0, 1) := by decide +kernel
theorem dX7_read_84 : decode cX7_read 84 = .ok (.iadd, 1) := by decide +kernel
theorem dX7_read_85 : decode cX7_read 85 = .ok (.istore 4, 2) := by decide +kernel
theorem dX7_read_87 : decode cX7_read 87 = .ok (.iinc 5 1, 3) := by decide +kernel
theorem dX7_read_90 : decode cX7_read 90 = .ok (.goto (-43), 3) := by decide +kernel
theorem dX7_read_93 : decode cX7_read 93 = .ok (.iload 4, 2) := by decide +kernel
theorem dX7_read_95 : decode cX7_read 95 = .ok (.ireturn, 1) := by decide +kernel
theorem dX7_dropped_0 : decode cX7_dropped 0 = .ok (.aload_n 0, 1) := by decide +kernel
theorem dX7_dropped_1 : decode cX7_dropped 1 = .ok (.iconst 0, 1) := by decide +kernel
theorem dX7_dropped_2 : decode cX7_dropped 2 = .ok (.putfield 53, 3) := by decide +kernel
theorem dX7_dropped_5 : decode cX7_dropped 5 = .ok (.aload_n 0, 1) := by decide +kernel
theorem dX7_dropped_6 : decode cX7_dropped 6 = .ok (.getfield 69, 3) := by decide +kernel
theorem dX7_dropped_9 : decode cX7_dropped 9 = .ok (.ireturn, 1) := by decide +kernel
theorem dX7_noEntry_0 : decode cX7_noEntry 0 = .ok (.aload_n 0, 1) := by decide +kernel
theorem dX7_noEntry_1 : decode cX7_noEntry 1 = .ok (.iload_n 1, 1) := by decide +kernel
theorem dX7_noEntry_2 : decode cX7_noEntry 2 = .ok (.iload_n 2, 1) := by decide +kernel
theorem dX7_noEntry_3 : decode cX7_noEntry 3 = .ok (.invokestatic 65, 3) := by decide +kernel
theorem dX7_noEntry_6 : decode cX7_noEntry 6 = .ok (.ifCond .eq 7, 3) := by decide +kernel
theorem dX7_noEntry_9 : decode cX7_noEntry 9 = .ok (.iconst 0, 1) := by decide +kernel
theorem dX7_noEntry_10 : decode cX7_noEntry 10 = .ok (.goto 4, 3) := by decide +kernel
theorem dX7_noEntry_13 : decode cX7_noEntry 13 = .ok (.iconst 1, 1) := by decide +kernel
theorem dX7_noEntry_14 : decode cX7_noEntry 14 = .ok (.invokevirtual 75, 3) := by decide +kernel
theorem dX7_noEntry_17 : decode cX7_noEntry 17 = .ok (.ireturn, 1) := by decide +kernel
theorem dX7_mark_0 : decode cX7_mark 0 = .ok (.aload_n 0, 1) := by decide +kernel
theorem dX7_mark_1 : decode cX7_mark 1 = .ok (.iload_n 1, 1) := by decide +kernel
theorem dX7_mark_2 : decode cX7_mark 2 = .ok (.iload_n 2, 1) := by decide +kernel
theorem dX7_mark_3 : decode cX7_mark 3 = .ok (.invokevirtual 124, 3) := by decide +kernel
theorem dX7_mark_6 : decode cX7_mark 6 = .ok (.ifCond .eq 5, 3) := by decide +kernel
theorem dX7_mark_9 : decode cX7_mark 9 = .ok (.iconst 0, 1) := by decide +kernel
theorem dX7_mark_10 : decode cX7_mark 10 = .ok (.ireturn, 1) := by decide +kernel
theorem dX7_mark_11 : decode cX7_mark 11 = .ok (.aload_n 0, 1) := by decide +kernel
theorem dX7_mark_12 : decode cX7_mark 12 = .ok (.dup, 1) := by decide +kernel
theorem dX7_mark_13 : decode cX7_mark 13 = .ok (.getfield 127, 3) := by decide +kernel
theorem dX7_mark_16 : decode cX7_mark 16 = .ok (.iconst 1, 1) := by decide +kernel
theorem dX7_mark_17 : decode cX7_mark 17 = .ok (.bipush 6, 2) := by decide +kernel
theorem dX7_mark_19 : decode cX7_mark 19 = .ok (.iload_n 1, 1) := by decide +kernel
theorem dX7_mark_20 : decode cX7_mark 20 = .ok (.imul, 1) := by decide +kernel
theorem dX7_mark_21 : decode cX7_mark 21 = .ok (.iload_n 2, 1) := by decide +kernel
theorem dX7_mark_22 : decode cX7_mark 22 = .ok (.iadd, 1) := by decide +kernel
theorem dX7_mark_23 : decode cX7_mark 23 = .ok (.ishl, 1) := by decide +kernel
theorem dX7_mark_24 : decode cX7_mark 24 = .ok (.ixor, 1) := by decide +kernel
theorem dX7_mark_25 : decode cX7_mark 25 = .ok (.putfield 127, 3) := by decide +kernel
theorem dX7_mark_28 : decode cX7_mark 28 = .ok (.aload_n 0, 1) := by decide +kernel
theorem dX7_mark_29 : decode cX7_mark 29 = .ok (.getfield 127, 3) := by decide +kernel
theorem dX7_mark_32 : decode cX7_mark 32 = .ok (.bipush 6, 2) := by decide +kernel
theorem dX7_mark_34 : decode cX7_mark 34 = .ok (.iload_n 1, 1) := by decide +kernel
theorem dX7_mark_35 : decode cX7_mark 35 = .ok (.imul, 1) := by decide +kernel
theorem dX7_mark_36 : decode cX7_mark 36 = .ok (.iload_n 2, 1) := by decide +kernel
theorem dX7_mark_37 : decode cX7_mark 37 = .ok (.iadd, 1) := by decide +kernel
theorem dX7_mark_38 : decode cX7_mark 38 = .ok (.ishr, 1) := by decide +kernel
theorem dX7_mark_39 : decode cX7_mark 39 = .ok (.iconst 1, 1) := by decide +kernel
theorem dX7_mark_40 : decode cX7_mark 40 = .ok (.iand, 1) := by decide +kernel
theorem dX7_mark_41 : decode cX7_mark 41 = .ok (.iconst 1, 1) := by decide +kernel
theorem dX7_mark_42 : decode cX7_mark 42 = .ok (.if_icmp .ne 7, 3) := by decide +kernel
theorem dX7_mark_45 : decode cX7_mark 45 = .ok (.iconst 1, 1) := by decide +kernel
theorem dX7_mark_46 : decode cX7_mark 46 = .ok (.goto 4, 3) := by decide +kernel
theorem dX7_mark_49 : decode cX7_mark 49 = .ok (.iconst 0, 1) := by decide +kernel
theorem dX7_mark_50 : decode cX7_mark 50 = .ok (.ireturn, 1) := by decide +kernel
theorem dX7_clear_0 : decode cX7_clear 0 = .ok (.aload_n 0, 1) := by decide +kernel
theorem dX7_clear_1 : decode cX7_clear 1 = .ok (.iconst 0, 1) := by decide +kernel
theorem dX7_clear_2 : decode cX7_clear 2 = .ok (.putfield 53, 3) := by decide +kernel
theorem dX7_clear_5 : decode cX7_clear 5 = .ok (.aload_n 0, 1) := by decide +kernel
theorem dX7_clear_6 : decode cX7_clear 6 = .ok (.getfield 127, 3) := by decide +kernel
theorem dX7_clear_9 : decode cX7_clear 9 = .ok (.invokestatic 113, 3) := by decide +kernel
theorem dX7_clear_12 : decode cX7_clear 12 = .ok (.istore_n 1, 1) := by decide +kernel
theorem dX7_clear_13 : decode cX7_clear 13 = .ok (.aload_n 0, 1) := by decide +kernel
theorem dX7_clear_14 : decode cX7_clear 14 = .ok (.iconst 0, 1) := by decide +kernel
theorem dX7_clear_15 : decode cX7_clear 15 = .ok (.putfield 127, 3) := by decide +kernel
theorem dX7_clear_18 : decode cX7_clear 18 = .ok (.iload_n 1, 1) := by decide +kernel
theorem dX7_clear_19 : decode cX7_clear 19 = .ok (.ireturn, 1) := by decide +kernel
theorem dX7_isKnown_0 : decode cX7_isKnown 0 = .ok (.aload_n 0, 1) := by decide +kernel
theorem dX7_isKnown_1 : decode cX7_isKnown 1 = .ok (.iload_n 1, 1) := by decide +kernel
theorem dX7_isKnown_2 : decode cX7_isKnown 2 = .ok (.iload_n 2, 1) := by decide +kernel
theorem dX7_isKnown_3 : decode cX7_isKnown 3 = .ok (.invokevirtual 124, 3) := by decide +kernel
theorem dX7_isKnown_6 : decode cX7_isKnown 6 = .ok (.ifCond .eq 5, 3) := by decide +kernel
theorem dX7_isKnown_9 : decode cX7_isKnown 9 = .ok (.iconst 0, 1) := by decide +kernel
theorem dX7_isKnown_10 : decode cX7_isKnown 10 = .ok (.ireturn, 1) := by decide +kernel
theorem dX7_isKnown_11 : decode cX7_isKnown 11 = .ok (.bipush 6, 2) := by decide +kernel
theorem dX7_isKnown_13 : decode cX7_isKnown 13 = .ok (.iload_n 1, 1) := by decide +kernel
theorem dX7_isKnown_14 : decode cX7_isKnown 14 = .ok (.imul, 1) := by decide +kernel
theorem dX7_isKnown_15 : decode cX7_isKnown 15 = .ok (.iload_n 2, 1) := by decide +kernel
theorem dX7_isKnown_16 : decode cX7_isKnown 16 = .ok (.iadd, 1) := by decide +kernel
theorem dX7_isKnown_17 : decode cX7_isKnown 17 = .ok (.istore_n 3, 1) := by decide +kernel
theorem dX7_isKnown_18 : decode cX7_isKnown 18 = .ok (.aload_n 0, 1) := by decide +kernel
theorem dX7_isKnown_19 : decode cX7_isKnown 19 = .ok (.getfield 127, 3) := by decide +kernel
theorem dX7_isKnown_22 : decode cX7_isKnown 22 = .ok (.iload_n 3, 1) := by decide +kernel
theorem dX7_isKnown_23 : decode cX7_isKnown 23 = .ok (.ishr, 1) := by decide +kernel
theorem dX7_isKnown_24 : decode cX7_isKnown 24 = .ok (.iconst 1, 1) := by decide +kernel
theorem dX7_isKnown_25 : decode cX7_isKnown 25 = .ok (.iand, 1) := by decide +kernel
theorem dX7_isKnown_26 : decode cX7_isKnown 26 = .ok (.ifCond .eq 14, 3) := by decide +kernel
theorem dX7_isKnown_29 : decode cX7_isKnown 29 = .ok (.aload_n 0, 1) := by decide +kernel
theorem dX7_isKnown_30 : decode cX7_isKnown 30 = .ok (.getfield 127, 3) := by decide +kernel
theorem dX7_isKnown_33 : decode cX7_isKnown 33 = .ok (.iload_n 3, 1) := by decide +kernel
theorem dX7_isKnown_34 : decode cX7_isKnown 34 = .ok (.invokestatic 107, 3) := by decide +kernel
theorem dX7_isKnown_37 : decode cX7_isKnown 37 = .ok (.ifCond .eq 7, 3) := by decide +kernel
theorem dX7_isKnown_40 : decode cX7_isKnown 40 = .ok (.iconst 1, 1) := by decide +kernel
theorem dX7_isKnown_41 : decode cX7_isKnown 41 = .ok (.goto 4, 3) := by decide +kernel
theorem dX7_isKnown_44 : decode cX7_isKnown 44 = .ok (.iconst 0, 1) := by decide +kernel
theorem dX7_isKnown_45 : decode cX7_isKnown 45 = .ok (.ireturn, 1) := by decide +kernel
theorem dX7_isKnownBySolving_0 : decode cX7_isKnownBySolving 0 = .ok (.aload_n 0, 1) := by decide +kernel
theorem dX7_isKnownBySolving_1 : decode cX7_isKnownBySolving 1 = .ok (.iload_n 1, 1) := by decide +kernel
theorem dX7_isKnownBySolving_2 : decode cX7_isKnownBySolving 2 = .ok (.iload_n 2, 1) := by decide +kernel
theorem dX7_isKnownBySolving_3 : decode cX7_isKnownBySolving 3 = .ok (.invokevirtual 130, 3) := by decide +kernel
theorem dX7_isKnownBySolving_6 : decode cX7_isKnownBySolving 6 = .ok (.ireturn, 1) := by decide +kernel
theorem dX7_cover_0 : decode cX7_cover 0 = .ok (.aload_n 0, 1) := by decide +kernel
theorem dX7_cover_1 : decode cX7_cover 1 = .ok (.iconst 0, 1) := by decide +kernel
theorem dX7_cover_2 : decode cX7_cover 2 = .ok (.putfield 53, 3) := by decide +kernel
theorem dX7_cover_5 : decode cX7_cover 5 = .ok (.aload_n 0, 1) := by decide +kernel
theorem dX7_cover_6 : decode cX7_cover 6 = .ok (.getfield 127, 3) := by decide +kernel
theorem dX7_cover_9 : decode cX7_cover 9 = .ok (.invokestatic 113, 3) := by decide +kernel
theorem dX7_cover_12 : decode cX7_cover 12 = .ok (.istore_n 1, 1) := by decide +kernel
theorem dX7_cover_13 : decode cX7_cover 13 = .ok (.aload_n 0, 1) := by decide +kernel
theorem dX7_cover_14 : decode cX7_cover 14 = .ok (.aload_n 0, 1) := by decide +kernel
theorem dX7_cover_15 : decode cX7_cover 15 = .ok (.getfield 127, 3) := by decide +kernel
theorem dX7_cover_18 : decode cX7_cover 18 = .ok (.invokestatic 120, 3) := by decide +kernel
theorem dX7_cover_21 : decode cX7_cover 21 = .ok (.putfield 127, 3) := by decide +kernel
theorem dX7_cover_24 : decode cX7_cover 24 = .ok (.aload_n 0, 1) := by decide +kernel
theorem dX7_cover_25 : decode cX7_cover 25 = .ok (.getfield 127, 3) := by decide +kernel
theorem dX7_cover_28 : decode cX7_cover 28 = .ok (.invokestatic 113, 3) := by decide +kernel
theorem dX7_cover_31 : decode cX7_cover 31 = .ok (.iload_n 1, 1) := by decide +kernel
theorem dX7_cover_32 : decode cX7_cover 32 = .ok (.isub, 1) := by decide +kernel
theorem dX7_cover_33 : decode cX7_cover 33 = .ok (.ireturn, 1) := by decide +kernel
theorem dJ6_bitCount_0f7a4_0 : decode cJ6_bitCount_0f7a4 0 = .ok (.iload_n 0, 1) := by decide +kernel
theorem dJ6_bitCount_0f7a4_1 : decode cJ6_bitCount_0f7a4 1 = .ok (.iload_n 0, 1) := by decide +kernel
theorem dJ6_bitCount_0f7a4_2 : decode cJ6_bitCount_0f7a4 2 = .ok (.iconst 1, 1) := by decide +kernel
theorem dJ6_bitCount_0f7a4_3 : decode cJ6_bitCount_0f7a4 3 = .ok (.iushr, 1) := by decide +kernel
theorem dJ6_bitCount_0f7a4_4 : decode cJ6_bitCount_0f7a4 4 = .ok (.ldc_w 265, 3) := by decide +kernel
theorem dJ6_bitCount_0f7a4_7 : decode cJ6_bitCount_0f7a4 7 = .ok (.iand, 1) := by decide +kernel
theorem dJ6_bitCount_0f7a4_8 : decode cJ6_bitCount_0f7a4 8 = .ok (.isub, 1) := by decide +kernel
theorem dJ6_bitCount_0f7a4_9 : decode cJ6_bitCount_0f7a4 9 = .ok (.istore_n 0, 1) := by decide +kernel
theorem dJ6_bitCount_0f7a4_10 : decode cJ6_bitCount_0f7a4 10 = .ok (.iload_n 0, 1) := by decide +kernel
theorem dJ6_bitCount_0f7a4_11 : decode cJ6_bitCount_0f7a4 11 = .ok (.ldc_w 266, 3) := by decide +kernel
theorem dJ6_bitCount_0f7a4_14 : decode cJ6_bitCount_0f7a4 14 = .ok (.iand, 1) := by decide +kernel
theorem dJ6_bitCount_0f7a4_15 : decode cJ6_bitCount_0f7a4 15 = .ok (.iload_n 0, 1) := by decide +kernel
theorem dJ6_bitCount_0f7a4_16 : decode cJ6_bitCount_0f7a4 16 = .ok (.iconst 2, 1) := by decide +kernel
theorem dJ6_bitCount_0f7a4_17 : decode cJ6_bitCount_0f7a4 17 = .ok (.iushr, 1) := by decide +kernel
theorem dJ6_bitCount_0f7a4_18 : decode cJ6_bitCount_0f7a4 18 = .ok (.ldc_w 266, 3) := by decide +kernel
theorem dJ6_bitCount_0f7a4_21 : decode cJ6_bitCount_0f7a4 21 = .ok (.iand, 1) := by decide +kernel
theorem dJ6_bitCount_0f7a4_22 : decode cJ6_bitCount_0f7a4 22 = .ok (.iadd, 1) := by decide +kernel
theorem dJ6_bitCount_0f7a4_23 : decode cJ6_bitCount_0f7a4 23 = .ok (.istore_n 0, 1) := by decide +kernel
theorem dJ6_bitCount_0f7a4_24 : decode cJ6_bitCount_0f7a4 24 = .ok (.iload_n 0, 1) := by decide +kernel
theorem dJ6_bitCount_0f7a4_25 : decode cJ6_bitCount_0f7a4 25 = .ok (.iload_n 0, 1) := by decide +kernel
theorem dJ6_bitCount_0f7a4_26 : decode cJ6_bitCount_0f7a4 26 = .ok (.iconst 4, 1) := by decide +kernel
theorem dJ6_bitCount_0f7a4_27 : decode cJ6_bitCount_0f7a4 27 = .ok (.iushr, 1) := by decide +kernel
theorem dJ6_bitCount_0f7a4_28 : decode cJ6_bitCount_0f7a4 28 = .ok (.iadd, 1) := by decide +kernel
theorem dJ6_bitCount_0f7a4_29 : decode cJ6_bitCount_0f7a4 29 = .ok (.ldc_w 267, 3) := by decide +kernel
theorem dJ6_bitCount_0f7a4_32 : decode cJ6_bitCount_0f7a4 32 = .ok (.iand, 1) := by decide +kernel
theorem dJ6_bitCount_0f7a4_33 : decode cJ6_bitCount_0f7a4 33 = .ok (.istore_n 0, 1) := by decide +kernel
theorem dJ6_bitCount_0f7a4_34 : decode cJ6_bitCount_0f7a4 34 = .ok (.iload_n 0, 1) := by decide +kernel
theorem dJ6_bitCount_0f7a4_35 : decode cJ6_bitCount_0f7a4 35 = .ok (.iload_n 0, 1) := by decide +kernel
theorem dJ6_bitCount_0f7a4_36 : decode cJ6_bitCount_0f7a4 36 = .ok (.bipush 8, 2) := by decide +kernel
theorem dJ6_bitCount_0f7a4_38 : decode cJ6_bitCount_0f7a4 38 = .ok (.iushr, 1) := by decide +kernel
theorem dJ6_bitCount_0f7a4_39 : decode cJ6_bitCount_0f7a4 39 = .ok (.iadd, 1) := by decide +kernel
theorem dJ6_bitCount_0f7a4_40 : decode cJ6_bitCount_0f7a4 40 = .ok (.istore_n 0, 1) := by decide +kernel
theorem dJ6_bitCount_0f7a4_41 : decode cJ6_bitCount_0f7a4 41 = .ok (.iload_n 0, 1) := by decide +kernel
theorem dJ6_bitCount_0f7a4_42 : decode cJ6_bitCount_0f7a4 42 = .ok (.iload_n 0, 1) := by decide +kernel
theorem dJ6_bitCount_0f7a4_43 : decode cJ6_bitCount_0f7a4 43 = .ok (.bipush 16, 2) := by decide +kernel
theorem dJ6_bitCount_0f7a4_45 : decode cJ6_bitCount_0f7a4 45 = .ok (.iushr, 1) := by decide +kernel
theorem dJ6_bitCount_0f7a4_46 : decode cJ6_bitCount_0f7a4 46 = .ok (.iadd, 1) := by decide +kernel
theorem dJ6_bitCount_0f7a4_47 : decode cJ6_bitCount_0f7a4 47 = .ok (.istore_n 0, 1) := by decide +kernel
theorem dJ6_bitCount_0f7a4_48 : decode cJ6_bitCount_0f7a4 48 = .ok (.iload_n 0, 1) := by decide +kernel
theorem dJ6_bitCount_0f7a4_49 : decode cJ6_bitCount_0f7a4 49 = .ok (.bipush 63, 2) := by decide +kernel
theorem dJ6_bitCount_0f7a4_51 : decode cJ6_bitCount_0f7a4 51 = .ok (.iand, 1) := by decide +kernel
theorem dJ6_bitCount_0f7a4_52 : decode cJ6_bitCount_0f7a4 52 = .ok (.ireturn, 1) := by decide +kernel
theorem dL_sale_0 : decode cL_sale 0 = .ok (.aload 5, 2) := by decide +kernel
theorem dL_sale_2 : decode cL_sale 2 = .ok (.iconst 0, 1) := by decide +kernel
theorem dL_sale_3 : decode cL_sale 3 = .ok (.aload_n 0, 1) := by decide +kernel
theorem dL_sale_4 : decode cL_sale 4 = .ok (.iload_n 1, 1) := by decide +kernel
theorem dL_sale_5 : decode cL_sale 5 = .ok (.iload_n 2, 1) := by decide +kernel
theorem dL_sale_6 : decode cL_sale 6 = .ok (.iload_n 3, 1) := by decide +kernel
theorem dL_sale_7 : decode cL_sale 7 = .ok (.iload 4, 2) := by decide +kernel
theorem dL_sale_9 : decode cL_sale 9 = .ok (.invokevirtual 7, 3) := by decide +kernel
theorem dL_sale_12 : decode cL_sale 12 = .ok (.i2l, 1) := by decide +kernel
theorem dL_sale_13 : decode cL_sale 13 = .ok (.lastore, 1) := by decide +kernel
theorem dL_sale_14 : decode cL_sale 14 = .ok (.goto 15, 3) := by decide +kernel
theorem dL_sale_17 : decode cL_sale 17 = .ok (.astore 6, 2) := by decide +kernel
theorem dL_sale_19 : decode cL_sale 19 = .ok (.iconst 1, 1) := by decide +kernel
theorem dL_sale_20 : decode cL_sale 20 = .ok (.ireturn, 1) := by decide +kernel
theorem dL_sale_21 : decode cL_sale 21 = .ok (.astore 6, 2) := by decide +kernel
theorem dL_sale_23 : decode cL_sale 23 = .ok (.iconst 2, 1) := by decide +kernel
theorem dL_sale_24 : decode cL_sale 24 = .ok (.ireturn, 1) := by decide +kernel
theorem dL_sale_25 : decode cL_sale 25 = .ok (.astore 6, 2) := by decide +kernel
theorem dL_sale_27 : decode cL_sale 27 = .ok (.iconst 3, 1) := by decide +kernel
theorem dL_sale_28 : decode cL_sale 28 = .ok (.ireturn, 1) := by decide +kernel
theorem dL_sale_29 : decode cL_sale 29 = .ok (.iconst 0, 1) := by decide +kernel
theorem dL_sale_30 : decode cL_sale 30 = .ok (.ireturn, 1) := by decide +kernel
theorem dL_takeBack_0 : decode cL_takeBack 0 = .ok (.aload_n 2, 1) := by decide +kernel
theorem dL_takeBack_1 : decode cL_takeBack 1 = .ok (.iconst 0, 1) := by decide +kernel
theorem dL_takeBack_2 : decode cL_takeBack 2 = .ok (.aload_n 0, 1) := by decide +kernel
theorem dL_takeBack_3 : decode cL_takeBack 3 = .ok (.iload_n 1, 1) := by decide +kernel
theorem dL_takeBack_4 : decode cL_takeBack 4 = .ok (.invokevirtual 19, 3) := by decide +kernel
theorem dL_takeBack_7 : decode cL_takeBack 7 = .ok (.i2l, 1) := by decide +kernel
theorem dL_takeBack_8 : decode cL_takeBack 8 = .ok (.lastore, 1) := by decide +kernel
theorem dL_takeBack_9 : decode cL_takeBack 9 = .ok (.goto 9, 3) := by decide +kernel
theorem dL_takeBack_12 : decode cL_takeBack 12 = .ok (.astore_n 3, 1) := by decide +kernel
theorem dL_takeBack_13 : decode cL_takeBack 13 = .ok (.iconst 1, 1) := by decide +kernel
theorem dL_takeBack_14 : decode cL_takeBack 14 = .ok (.ireturn, 1) := by decide +kernel
theorem dL_takeBack_15 : decode cL_takeBack 15 = .ok (.astore_n 3, 1) := by decide +kernel
theorem dL_takeBack_16 : decode cL_takeBack 16 = .ok (.iconst 2, 1) := by decide +kernel
theorem dL_takeBack_17 : decode cL_takeBack 17 = .ok (.ireturn, 1) := by decide +kernel
theorem dL_takeBack_18 : decode cL_takeBack 18 = .ok (.iconst 0, 1) := by decide +kernel
theorem dL_takeBack_19 : decode cL_takeBack 19 = .ok (.ireturn, 1) := by decide +kernel
theorem dL_turn_0 : decode cL_turn 0 = .ok (.aload_n 2, 1) := by decide +kernel
theorem dL_turn_1 : decode cL_turn 1 = .ok (.iconst 0, 1) := by decide +kernel
theorem dL_turn_2 : decode cL_turn 2 = .ok (.aload_n 0, 1) := by decide +kernel
theorem dL_turn_3 : decode cL_turn 3 = .ok (.iload_n 1, 1) := by decide +kernel
theorem dL_turn_4 : decode cL_turn 4 = .ok (.invokevirtual 23, 3) := by decide +kernel
theorem dL_turn_7 : decode cL_turn 7 = .ok (.ifCond .eq 7, 3) := by decide +kernel
theorem dL_turn_10 : decode cL_turn 10 = .ok (.lconst 1, 1) := by decide +kernel
theorem dL_turn_11 : decode cL_turn 11 = .ok (.goto 4, 3) := by decide +kernel
theorem dL_turn_14 : decode cL_turn 14 = .ok (.lconst 0, 1) := by decide +kernel
theorem dL_turn_15 : decode cL_turn 15 = .ok (.lastore, 1) := by decide +kernel
theorem dL_turn_16 : decode cL_turn 16 = .ok (.goto 6, 3) := by decide +kernel
theorem dL_turn_19 : decode cL_turn 19 = .ok (.astore_n 3, 1) := by decide +kernel
theorem dL_turn_20 : decode cL_turn 20 = .ok (.iconst 1, 1) := by decide +kernel
theorem dL_turn_21 : decode cL_turn 21 = .ok (.ireturn, 1) := by decide +kernel
theorem dL_turn_22 : decode cL_turn 22 = .ok (.iconst 0, 1) := by decide +kernel
theorem dL_turn_23 : decode cL_turn 23 = .ok (.ireturn, 1) := by decide +kernel
theorem dL_sum_0 : decode cL_sum 0 = .ok (.aload 4, 2) := by decide +kernel
theorem dL_sum_2 : decode cL_sum 2 = .ok (.iconst 0, 1) := by decide +kernel
theorem dL_sum_3 : decode cL_sum 3 = .ok (.aload_n 0, 1) := by decide +kernel
theorem dL_sum_4 : decode cL_sum 4 = .ok (.iload_n 1, 1) := by decide +kernel
theorem dL_sum_5 : decode cL_sum 5 = .ok (.iload_n 2, 1) := by decide +kernel
theorem dL_sum_6 : decode cL_sum 6 = .ok (.iload_n 3, 1) := by decide +kernel
theorem dL_sum_7 : decode cL_sum 7 = .ok (.invokevirtual 27, 3) := by decide +kernel
theorem dL_sum_10 : decode cL_sum 10 = .ok (.i2l, 1) := by decide +kernel
theorem dL_sum_11 : decode cL_sum 11 = .ok (.lastore, 1) := by decide +kernel
theorem dL_sum_12 : decode cL_sum 12 = .ok (.goto 7, 3) := by decide +kernel
theorem dL_sum_15 : decode cL_sum 15 = .ok (.astore 5, 2) := by decide +kernel
theorem dL_sum_17 : decode cL_sum 17 = .ok (.iconst 1, 1) := by decide +kernel
theorem dL_sum_18 : decode cL_sum 18 = .ok (.ireturn, 1) := by decide +kernel
theorem dL_sum_19 : decode cL_sum 19 = .ok (.iconst 0, 1) := by decide +kernel
theorem dL_sum_20 : decode cL_sum 20 = .ok (.ireturn, 1) := by decide +kernel
theorem dL_sumFromSales_0 : decode cL_sumFromSales 0 = .ok (.aload 4, 2) := by decide +kernel
theorem dL_sumFromSales_2 : decode cL_sumFromSales 2 = .ok (.iconst 0, 1) := by decide +kernel
theorem dL_sumFromSales_3 : decode cL_sumFromSales 3 = .ok (.aload_n 0, 1) := by decide +kernel
theorem dL_sumFromSales_4 : decode cL_sumFromSales 4 = .ok (.iload_n 1, 1) := by decide +kernel
theorem dL_sumFromSales_5 : decode cL_sumFromSales 5 = .ok (.iload_n 2, 1) := by decide +kernel
theorem dL_sumFromSales_6 : decode cL_sumFromSales 6 = .ok (.iload_n 3, 1) := by decide +kernel
theorem dL_sumFromSales_7 : decode cL_sumFromSales 7 = .ok (.invokevirtual 31, 3) := by decide +kernel
theorem dL_sumFromSales_10 : decode cL_sumFromSales 10 = .ok (.i2l, 1) := by decide +kernel
theorem dL_sumFromSales_11 : decode cL_sumFromSales 11 = .ok (.lastore, 1) := by decide +kernel
theorem dL_sumFromSales_12 : decode cL_sumFromSales 12 = .ok (.goto 7, 3) := by decide +kernel
theorem dL_sumFromSales_15 : decode cL_sumFromSales 15 = .ok (.astore 5, 2) := by decide +kernel
theorem dL_sumFromSales_17 : decode cL_sumFromSales 17 = .ok (.iconst 1, 1) := by decide +kernel
theorem dL_sumFromSales_18 : decode cL_sumFromSales 18 = .ok (.ireturn, 1) := by decide +kernel
theorem dL_sumFromSales_19 : decode cL_sumFromSales 19 = .ok (.iconst 0, 1) := by decide +kernel
theorem dL_sumFromSales_20 : decode cL_sumFromSales 20 = .ok (.ireturn, 1) := by decide +kernel
theorem dL_embargo_0 : decode cL_embargo 0 = .ok (.aload 6, 2) := by decide +kernel
theorem dL_embargo_2 : decode cL_embargo 2 = .ok (.iconst 0, 1) := by decide +kernel
theorem dL_embargo_3 : decode cL_embargo 3 = .ok (.aload_n 0, 1) := by decide +kernel
theorem dL_embargo_4 : decode cL_embargo 4 = .ok (.iload_n 1, 1) := by decide +kernel
theorem dL_embargo_5 : decode cL_embargo 5 = .ok (.iload_n 2, 1) := by decide +kernel
theorem dL_embargo_6 : decode cL_embargo 6 = .ok (.iload_n 3, 1) := by decide +kernel
theorem dL_embargo_7 : decode cL_embargo 7 = .ok (.iload 4, 2) := by decide +kernel
theorem dL_embargo_9 : decode cL_embargo 9 = .ok (.iload 5, 2) := by decide +kernel
theorem dL_embargo_11 : decode cL_embargo 11 = .ok (.invokevirtual 34, 3) := by decide +kernel
theorem dL_embargo_14 : decode cL_embargo 14 = .ok (.i2l, 1) := by decide +kernel
theorem dL_embargo_15 : decode cL_embargo 15 = .ok (.lastore, 1) := by decide +kernel
theorem dL_embargo_16 : decode cL_embargo 16 = .ok (.goto 15, 3) := by decide +kernel
theorem dL_embargo_19 : decode cL_embargo 19 = .ok (.astore 7, 2) := by decide +kernel
theorem dL_embargo_21 : decode cL_embargo 21 = .ok (.iconst 1, 1) := by decide +kernel
theorem dL_embargo_22 : decode cL_embargo 22 = .ok (.ireturn, 1) := by decide +kernel
theorem dL_embargo_23 : decode cL_embargo 23 = .ok (.astore 7, 2) := by decide +kernel
theorem dL_embargo_25 : decode cL_embargo 25 = .ok (.iconst 2, 1) := by decide +kernel
theorem dL_embargo_26 : decode cL_embargo 26 = .ok (.ireturn, 1) := by decide +kernel
theorem dL_embargo_27 : decode cL_embargo 27 = .ok (.astore 7, 2) := by decide +kernel
theorem dL_embargo_29 : decode cL_embargo 29 = .ok (.iconst 3, 1) := by decide +kernel
theorem dL_embargo_30 : decode cL_embargo 30 = .ok (.ireturn, 1) := by decide +kernel
theorem dL_embargo_31 : decode cL_embargo 31 = .ok (.iconst 0, 1) := by decide +kernel
theorem dL_embargo_32 : decode cL_embargo 32 = .ok (.ireturn, 1) := by decide +kernel
theorem dL_lift_0 : decode cL_lift 0 = .ok (.aload_n 2, 1) := by decide +kernel
theorem dL_lift_1 : decode cL_lift 1 = .ok (.iconst 0, 1) := by decide +kernel
theorem dL_lift_2 : decode cL_lift 2 = .ok (.aload_n 0, 1) := by decide +kernel
theorem dL_lift_3 : decode cL_lift 3 = .ok (.iload_n 1, 1) := by decide +kernel
theorem dL_lift_4 : decode cL_lift 4 = .ok (.invokevirtual 38, 3) := by decide +kernel
theorem dL_lift_7 : decode cL_lift 7 = .ok (.i2l, 1) := by decide +kernel
theorem dL_lift_8 : decode cL_lift 8 = .ok (.lastore, 1) := by decide +kernel
theorem dL_lift_9 : decode cL_lift 9 = .ok (.goto 9, 3) := by decide +kernel
theorem dL_lift_12 : decode cL_lift 12 = .ok (.astore_n 3, 1) := by decide +kernel
theorem dL_lift_13 : decode cL_lift 13 = .ok (.iconst 1, 1) := by decide +kernel
theorem dL_lift_14 : decode cL_lift 14 = .ok (.ireturn, 1) := by decide +kernel
theorem dL_lift_15 : decode cL_lift 15 = .ok (.astore_n 3, 1) := by decide +kernel
theorem dL_lift_16 : decode cL_lift 16 = .ok (.iconst 2, 1) := by decide +kernel
theorem dL_lift_17 : decode cL_lift 17 = .ok (.ireturn, 1) := by decide +kernel
theorem dL_lift_18 : decode cL_lift 18 = .ok (.iconst 0, 1) := by decide +kernel
theorem dL_lift_19 : decode cL_lift 19 = .ok (.ireturn, 1) := by decide +kernel
theorem dL_isEmbargoed_0 : decode cL_isEmbargoed 0 = .ok (.aload 5, 2) := by decide +kernel
theorem dL_isEmbargoed_2 : decode cL_isEmbargoed 2 = .ok (.iconst 0, 1) := by decide +kernel
theorem dL_isEmbargoed_3 : decode cL_isEmbargoed 3 = .ok (.aload_n 0, 1) := by decide +kernel
theorem dL_isEmbargoed_4 : decode cL_isEmbargoed 4 = .ok (.iload_n 1, 1) := by decide +kernel
theorem dL_isEmbargoed_5 : decode cL_isEmbargoed 5 = .ok (.iload_n 2, 1) := by decide +kernel
theorem dL_isEmbargoed_6 : decode cL_isEmbargoed 6 = .ok (.iload_n 3, 1) := by decide +kernel
theorem dL_isEmbargoed_7 : decode cL_isEmbargoed 7 = .ok (.iload 4, 2) := by decide +kernel
theorem dL_isEmbargoed_9 : decode cL_isEmbargoed 9 = .ok (.invokevirtual 41, 3) := by decide +kernel
theorem dL_isEmbargoed_12 : decode cL_isEmbargoed 12 = .ok (.ifCond .eq 7, 3) := by decide +kernel
theorem dL_isEmbargoed_15 : decode cL_isEmbargoed 15 = .ok (.lconst 1, 1) := by decide +kernel
theorem dL_isEmbargoed_16 : decode cL_isEmbargoed 16 = .ok (.goto 4, 3) := by decide +kernel
theorem dL_isEmbargoed_19 : decode cL_isEmbargoed 19 = .ok (.lconst 0, 1) := by decide +kernel
theorem dL_isEmbargoed_20 : decode cL_isEmbargoed 20 = .ok (.lastore, 1) := by decide +kernel
theorem dL_isEmbargoed_21 : decode cL_isEmbargoed 21 = .ok (.goto 7, 3) := by decide +kernel
theorem dL_isEmbargoed_24 : decode cL_isEmbargoed 24 = .ok (.astore 6, 2) := by decide +kernel
theorem dL_isEmbargoed_26 : decode cL_isEmbargoed 26 = .ok (.iconst 1, 1) := by decide +kernel
theorem dL_isEmbargoed_27 : decode cL_isEmbargoed 27 = .ok (.ireturn, 1) := by decide +kernel
theorem dL_isEmbargoed_28 : decode cL_isEmbargoed 28 = .ok (.iconst 0, 1) := by decide +kernel
theorem dL_isEmbargoed_29 : decode cL_isEmbargoed 29 = .ok (.ireturn, 1) := by decide +kernel
theorem dL_pass_0 : decode cL_pass 0 = .ok (.aload_n 2, 1) := by decide +kernel
theorem dL_pass_1 : decode cL_pass 1 = .ok (.iconst 0, 1) := by decide +kernel
theorem dL_pass_2 : decode cL_pass 2 = .ok (.aload_n 0, 1) := by decide +kernel
theorem dL_pass_3 : decode cL_pass 3 = .ok (.iload_n 1, 1) := by decide +kernel
theorem dL_pass_4 : decode cL_pass 4 = .ok (.invokevirtual 45, 3) := by decide +kernel
theorem dL_pass_7 : decode cL_pass 7 = .ok (.i2l, 1) := by decide +kernel
theorem dL_pass_8 : decode cL_pass 8 = .ok (.lastore, 1) := by decide +kernel
theorem dL_pass_9 : decode cL_pass 9 = .ok (.goto 9, 3) := by decide +kernel
theorem dL_pass_12 : decode cL_pass 12 = .ok (.astore_n 3, 1) := by decide +kernel
theorem dL_pass_13 : decode cL_pass 13 = .ok (.iconst 1, 1) := by decide +kernel
theorem dL_pass_14 : decode cL_pass 14 = .ok (.ireturn, 1) := by decide +kernel
theorem dL_pass_15 : decode cL_pass 15 = .ok (.astore_n 3, 1) := by decide +kernel
theorem dL_pass_16 : decode cL_pass 16 = .ok (.iconst 2, 1) := by decide +kernel
theorem dL_pass_17 : decode cL_pass 17 = .ok (.ireturn, 1) := by decide +kernel
theorem dL_pass_18 : decode cL_pass 18 = .ok (.iconst 0, 1) := by decide +kernel
theorem dL_pass_19 : decode cL_pass 19 = .ok (.ireturn, 1) := by decide +kernel
theorem dL_build_0 : decode cL_build 0 = .ok (.aload_n 3, 1) := by decide +kernel
theorem dL_build_1 : decode cL_build 1 = .ok (.iconst 0, 1) := by decide +kernel
theorem dL_build_2 : decode cL_build 2 = .ok (.aload_n 0, 1) := by decide +kernel
theorem dL_build_3 : decode cL_build 3 = .ok (.iload_n 1, 1) := by decide +kernel
theorem dL_build_4 : decode cL_build 4 = .ok (.iload_n 2, 1) := by decide +kernel
theorem dL_build_5 : decode cL_build 5 = .ok (.invokevirtual 48, 3) := by decide +kernel
theorem dL_build_8 : decode cL_build 8 = .ok (.i2l, 1) := by decide +kernel
theorem dL_build_9 : decode cL_build 9 = .ok (.lastore, 1) := by decide +kernel
theorem dL_build_10 : decode cL_build 10 = .ok (.goto 7, 3) := by decide +kernel
theorem dL_build_13 : decode cL_build 13 = .ok (.astore 4, 2) := by decide +kernel
theorem dL_build_15 : decode cL_build 15 = .ok (.iconst 1, 1) := by decide +kernel
theorem dL_build_16 : decode cL_build 16 = .ok (.ireturn, 1) := by decide +kernel
theorem dL_build_17 : decode cL_build 17 = .ok (.iconst 0, 1) := by decide +kernel
theorem dL_build_18 : decode cL_build 18 = .ok (.ireturn, 1) := by decide +kernel
theorem dL_isBuilt_0 : decode cL_isBuilt 0 = .ok (.aload_n 3, 1) := by decide +kernel
theorem dL_isBuilt_1 : decode cL_isBuilt 1 = .ok (.iconst 0, 1) := by decide +kernel
theorem dL_isBuilt_2 : decode cL_isBuilt 2 = .ok (.aload_n 0, 1) := by decide +kernel
theorem dL_isBuilt_3 : decode cL_isBuilt 3 = .ok (.iload_n 1, 1) := by decide +kernel
theorem dL_isBuilt_4 : decode cL_isBuilt 4 = .ok (.iload_n 2, 1) := by decide +kernel
theorem dL_isBuilt_5 : decode cL_isBuilt 5 = .ok (.invokevirtual 52, 3) := by decide +kernel
theorem dL_isBuilt_8 : decode cL_isBuilt 8 = .ok (.ifCond .eq 7, 3) := by decide +kernel
theorem dL_isBuilt_11 : decode cL_isBuilt 11 = .ok (.lconst 1, 1) := by decide +kernel
theorem dL_isBuilt_12 : decode cL_isBuilt 12 = .ok (.goto 4, 3) := by decide +kernel
theorem dL_isBuilt_15 : decode cL_isBuilt 15 = .ok (.lconst 0, 1) := by decide +kernel
theorem dL_isBuilt_16 : decode cL_isBuilt 16 = .ok (.lastore, 1) := by decide +kernel
theorem dL_isBuilt_17 : decode cL_isBuilt 17 = .ok (.goto 7, 3) := by decide +kernel
theorem dL_isBuilt_20 : decode cL_isBuilt 20 = .ok (.astore 4, 2) := by decide +kernel
theorem dL_isBuilt_22 : decode cL_isBuilt 22 = .ok (.iconst 1, 1) := by decide +kernel
theorem dL_isBuilt_23 : decode cL_isBuilt 23 = .ok (.ireturn, 1) := by decide +kernel
theorem dL_isBuilt_24 : decode cL_isBuilt 24 = .ok (.iconst 0, 1) := by decide +kernel
theorem dL_isBuilt_25 : decode cL_isBuilt 25 = .ok (.ireturn, 1) := by decide +kernel
theorem dL_shown_0 : decode cL_shown 0 = .ok (.aload 5, 2) := by decide +kernel
theorem dL_shown_2 : decode cL_shown 2 = .ok (.iconst 0, 1) := by decide +kernel
theorem dL_shown_3 : decode cL_shown 3 = .ok (.aload_n 0, 1) := by decide +kernel
theorem dL_shown_4 : decode cL_shown 4 = .ok (.iload_n 1, 1) := by decide +kernel
theorem dL_shown_5 : decode cL_shown 5 = .ok (.iload_n 2, 1) := by decide +kernel
theorem dL_shown_6 : decode cL_shown 6 = .ok (.iload_n 3, 1) := by decide +kernel
theorem dL_shown_7 : decode cL_shown 7 = .ok (.iload 4, 2) := by decide +kernel
theorem dL_shown_9 : decode cL_shown 9 = .ok (.invokevirtual 56, 3) := by decide +kernel
theorem dL_shown_12 : decode cL_shown 12 = .ok (.i2l, 1) := by decide +kernel
theorem dL_shown_13 : decode cL_shown 13 = .ok (.lastore, 1) := by decide +kernel
theorem dL_shown_14 : decode cL_shown 14 = .ok (.goto 11, 3) := by decide +kernel
theorem dL_shown_17 : decode cL_shown 17 = .ok (.astore 6, 2) := by decide +kernel
theorem dL_shown_19 : decode cL_shown 19 = .ok (.iconst 1, 1) := by decide +kernel
theorem dL_shown_20 : decode cL_shown 20 = .ok (.ireturn, 1) := by decide +kernel
theorem dL_shown_21 : decode cL_shown 21 = .ok (.astore 6, 2) := by decide +kernel
theorem dL_shown_23 : decode cL_shown 23 = .ok (.iconst 2, 1) := by decide +kernel
theorem dL_shown_24 : decode cL_shown 24 = .ok (.ireturn, 1) := by decide +kernel
theorem dL_shown_25 : decode cL_shown 25 = .ok (.iconst 0, 1) := by decide +kernel
theorem dL_shown_26 : decode cL_shown 26 = .ok (.ireturn, 1) := by decide +kernel
theorem dL_why_0 : decode cL_why 0 = .ok (.aload 5, 2) := by decide +kernel
theorem dL_why_2 : decode cL_why 2 = .ok (.iconst 0, 1) := by decide +kernel
theorem dL_why_3 : decode cL_why 3 = .ok (.aload_n 0, 1) := by decide +kernel
theorem dL_why_4 : decode cL_why 4 = .ok (.iload_n 1, 1) := by decide +kernel
theorem dL_why_5 : decode cL_why 5 = .ok (.iload_n 2, 1) := by decide +kernel
theorem dL_why_6 : decode cL_why 6 = .ok (.iload_n 3, 1) := by decide +kernel
theorem dL_why_7 : decode cL_why 7 = .ok (.iload 4, 2) := by decide +kernel
theorem dL_why_9 : decode cL_why 9 = .ok (.invokevirtual 59, 3) := by decide +kernel
theorem dL_why_12 : decode cL_why 12 = .ok (.i2l, 1) := by decide +kernel
theorem dL_why_13 : decode cL_why 13 = .ok (.lastore, 1) := by decide +kernel
theorem dL_why_14 : decode cL_why 14 = .ok (.goto 7, 3) := by decide +kernel
theorem dL_why_17 : decode cL_why 17 = .ok (.astore 6, 2) := by decide +kernel
theorem dL_why_19 : decode cL_why 19 = .ok (.iconst 1, 1) := by decide +kernel
theorem dL_why_20 : decode cL_why 20 = .ok (.ireturn, 1) := by decide +kernel
theorem dL_why_21 : decode cL_why 21 = .ok (.iconst 0, 1) := by decide +kernel
theorem dL_why_22 : decode cL_why 22 = .ok (.ireturn, 1) := by decide +kernel
theorem dL_read_0 : decode cL_read 0 = .ok (.aload_n 3, 1) := by decide +kernel
theorem dL_read_1 : decode cL_read 1 = .ok (.iconst 0, 1) := by decide +kernel
theorem dL_read_2 : decode cL_read 2 = .ok (.aload_n 0, 1) := by decide +kernel
theorem dL_read_3 : decode cL_read 3 = .ok (.iload_n 1, 1) := by decide +kernel
theorem dL_read_4 : decode cL_read 4 = .ok (.iload_n 2, 1) := by decide +kernel
theorem dL_read_5 : decode cL_read 5 = .ok (.invokevirtual 62, 3) := by decide +kernel
theorem dL_read_8 : decode cL_read 8 = .ok (.i2l, 1) := by decide +kernel
theorem dL_read_9 : decode cL_read 9 = .ok (.lastore, 1) := by decide +kernel
theorem dL_read_10 : decode cL_read 10 = .ok (.goto 11, 3) := by decide +kernel
theorem dL_read_13 : decode cL_read 13 = .ok (.astore 4, 2) := by decide +kernel
theorem dL_read_15 : decode cL_read 15 = .ok (.iconst 1, 1) := by decide +kernel
theorem dL_read_16 : decode cL_read 16 = .ok (.ireturn, 1) := by decide +kernel
theorem dL_read_17 : decode cL_read 17 = .ok (.astore 4, 2) := by decide +kernel
theorem dL_read_19 : decode cL_read 19 = .ok (.iconst 2, 1) := by decide +kernel
theorem dL_read_20 : decode cL_read 20 = .ok (.ireturn, 1) := by decide +kernel
theorem dL_read_21 : decode cL_read 21 = .ok (.iconst 0, 1) := by decide +kernel
theorem dL_read_22 : decode cL_read 22 = .ok (.ireturn, 1) := by decide +kernel
theorem dL_mark_0 : decode cL_mark 0 = .ok (.aload_n 3, 1) := by decide +kernel
theorem dL_mark_1 : decode cL_mark 1 = .ok (.iconst 0, 1) := by decide +kernel
theorem dL_mark_2 : decode cL_mark 2 = .ok (.aload_n 0, 1) := by decide +kernel
theorem dL_mark_3 : decode cL_mark 3 = .ok (.iload_n 1, 1) := by decide +kernel
theorem dL_mark_4 : decode cL_mark 4 = .ok (.iload_n 2, 1) := by decide +kernel
theorem dL_mark_5 : decode cL_mark 5 = .ok (.invokevirtual 65, 3) := by decide +kernel
theorem dL_mark_8 : decode cL_mark 8 = .ok (.ifCond .eq 7, 3) := by decide +kernel
theorem dL_mark_11 : decode cL_mark 11 = .ok (.lconst 1, 1) := by decide +kernel
theorem dL_mark_12 : decode cL_mark 12 = .ok (.goto 4, 3) := by decide +kernel
theorem dL_mark_15 : decode cL_mark 15 = .ok (.lconst 0, 1) := by decide +kernel
theorem dL_mark_16 : decode cL_mark 16 = .ok (.lastore, 1) := by decide +kernel
theorem dL_mark_17 : decode cL_mark 17 = .ok (.goto 7, 3) := by decide +kernel
theorem dL_mark_20 : decode cL_mark 20 = .ok (.astore 4, 2) := by decide +kernel
theorem dL_mark_22 : decode cL_mark 22 = .ok (.iconst 1, 1) := by decide +kernel
theorem dL_mark_23 : decode cL_mark 23 = .ok (.ireturn, 1) := by decide +kernel
theorem dL_mark_24 : decode cL_mark 24 = .ok (.iconst 0, 1) := by decide +kernel
theorem dL_mark_25 : decode cL_mark 25 = .ok (.ireturn, 1) := by decide +kernel
theorem dL_isKnown_0 : decode cL_isKnown 0 = .ok (.aload_n 3, 1) := by decide +kernel
theorem dL_isKnown_1 : decode cL_isKnown 1 = .ok (.iconst 0, 1) := by decide +kernel
theorem dL_isKnown_2 : decode cL_isKnown 2 = .ok (.aload_n 0, 1) := by decide +kernel
theorem dL_isKnown_3 : decode cL_isKnown 3 = .ok (.iload_n 1, 1) := by decide +kernel
theorem dL_isKnown_4 : decode cL_isKnown 4 = .ok (.iload_n 2, 1) := by decide +kernel
theorem dL_isKnown_5 : decode cL_isKnown 5 = .ok (.invokevirtual 68, 3) := by decide +kernel
theorem dL_isKnown_8 : decode cL_isKnown 8 = .ok (.ifCond .eq 7, 3) := by decide +kernel
theorem dL_isKnown_11 : decode cL_isKnown 11 = .ok (.lconst 1, 1) := by decide +kernel
theorem dL_isKnown_12 : decode cL_isKnown 12 = .ok (.goto 4, 3) := by decide +kernel
theorem dL_isKnown_15 : decode cL_isKnown 15 = .ok (.lconst 0, 1) := by decide +kernel
theorem dL_isKnown_16 : decode cL_isKnown 16 = .ok (.lastore, 1) := by decide +kernel
theorem dL_isKnown_17 : decode cL_isKnown 17 = .ok (.goto 7, 3) := by decide +kernel
theorem dL_isKnown_20 : decode cL_isKnown 20 = .ok (.astore 4, 2) := by decide +kernel
theorem dL_isKnown_22 : decode cL_isKnown 22 = .ok (.iconst 1, 1) := by decide +kernel
theorem dL_isKnown_23 : decode cL_isKnown 23 = .ok (.ireturn, 1) := by decide +kernel
theorem dL_isKnown_24 : decode cL_isKnown 24 = .ok (.iconst 0, 1) := by decide +kernel
theorem dL_isKnown_25 : decode cL_isKnown 25 = .ok (.ireturn, 1) := by decide +kernel
theorem dL_isKnownBySolving_0 : decode cL_isKnownBySolving 0 = .ok (.aload_n 3, 1) := by decide +kernel
theorem dL_isKnownBySolving_1 : decode cL_isKnownBySolving 1 = .ok (.iconst 0, 1) := by decide +kernel
theorem dL_isKnownBySolving_2 : decode cL_isKnownBySolving 2 = .ok (.aload_n 0, 1) := by decide +kernel
theorem dL_isKnownBySolving_3 : decode cL_isKnownBySolving 3 = .ok (.iload_n 1, 1) := by decide +kernel
theorem dL_isKnownBySolving_4 : decode cL_isKnownBySolving 4 = .ok (.iload_n 2, 1) := by decide +kernel
theorem dL_isKnownBySolving_5 : decode cL_isKnownBySolving 5 = .ok (.invokevirtual 71, 3) := by decide +kernel
theorem dL_isKnownBySolving_8 : decode cL_isKnownBySolving 8 = .ok (.ifCond .eq 7, 3) := by decide +kernel
theorem dL_isKnownBySolving_11 : decode cL_isKnownBySolving 11 = .ok (.lconst 1, 1) := by decide +kernel
theorem dL_isKnownBySolving_12 : decode cL_isKnownBySolving 12 = .ok (.goto 4, 3) := by decide +kernel
theorem dL_isKnownBySolving_15 : decode cL_isKnownBySolving 15 = .ok (.lconst 0, 1) := by decide +kernel
theorem dL_isKnownBySolving_16 : decode cL_isKnownBySolving 16 = .ok (.lastore, 1) := by decide +kernel
theorem dL_isKnownBySolving_17 : decode cL_isKnownBySolving 17 = .ok (.goto 7, 3) := by decide +kernel
theorem dL_isKnownBySolving_20 : decode cL_isKnownBySolving 20 = .ok (.astore 4, 2) := by decide +kernel
theorem dL_isKnownBySolving_22 : decode cL_isKnownBySolving 22 = .ok (.iconst 1, 1) := by decide +kernel
theorem dL_isKnownBySolving_23 : decode cL_isKnownBySolving 23 = .ok (.ireturn, 1) := by decide +kernel
theorem dL_isKnownBySolving_24 : decode cL_isKnownBySolving 24 = .ok (.iconst 0, 1) := by decide +kernel
theorem dL_isKnownBySolving_25 : decode cL_isKnownBySolving 25 = .ok (.ireturn, 1) := by decide +kernel
end
section
theorem dL_law_0 : decode cL_law 0 = .ok (.new 8, 3) := by decide +kernel
theorem dL_law_3 : decode cL_law 3 = .ok (.dup, 1) := by decide +kernel
theorem dL_law_4 : decode cL_law 4 = .ok (.invokespecial 74, 3) := by decide +kernel
theorem dL_law_7 : decode cL_law 7 = .ok (.astore_n 1, 1) := by decide +kernel
theorem dL_law_8 : decode cL_law 8 = .ok (.new 75, 3) := by decide +kernel
theorem dL_law_11 : decode cL_law 11 = .ok (.dup, 1) := by decide +kernel
theorem dL_law_12 : decode cL_law 12 = .ok (.invokespecial 77, 3) := by decide +kernel
theorem dL_law_15 : decode cL_law 15 = .ok (.astore_n 2, 1) := by decide +kernel
theorem dL_law_16 : decode cL_law 16 = .ok (.iconst 1, 1) := by decide +kernel
theorem dL_law_17 : decode cL_law 17 = .ok (.newarray .long, 2) := by decide +kernel
theorem dL_law_19 : decode cL_law 19 = .ok (.astore_n 3, 1) := by decide +kernel
theorem dL_law_20 : decode cL_law 20 = .ok (.iconst 0, 1) := by decide +kernel
theorem dL_law_21 : decode cL_law 21 = .ok (.istore 4, 2) := by decide +kernel
theorem dL_law_23 : decode cL_law 23 = .ok (.iload 4, 2) := by decide +kernel
theorem dL_law_25 : decode cL_law 25 = .ok (.aload_n 0, 1) := by decide +kernel
theorem dL_law_26 : decode cL_law 26 = .ok (.arraylength, 1) := by decide +kernel
theorem dL_law_27 : decode cL_law 27 = .ok (.bipush 6, 2) := by decide +kernel
theorem dL_law_29 : decode cL_law 29 = .ok (.isub, 1) := by decide +kernel
theorem dL_law_30 : decode cL_law 30 = .ok (.if_icmp .gt 1457, 3) := by decide +kernel
theorem dL_law_33 : decode cL_law 33 = .ok (.aload_n 0, 1) := by decide +kernel
theorem dL_law_34 : decode cL_law 34 = .ok (.iload 4, 2) := by decide +kernel
theorem dL_law_36 : decode cL_law 36 = .ok (.iaload, 1) := by decide +kernel
theorem dL_law_37 : decode cL_law 37 = .ok (.bipush 31, 2) := by decide +kernel
theorem dL_law_39 : decode cL_law 39 = .ok (.iand, 1) := by decide +kernel
theorem dL_law_40 : decode cL_law 40 = .ok (.tableswitch 1441 0 19 #[96, 188, 244, 307, 387, 467, 571, 627, 726, 782, 850, 925, 1017, 1109, 1177, 1190, 1265, 1278, 1353, 1428], 96) := by decide +kernel
theorem dL_law_136 : decode cL_law 136 = .ok (.aload_n 1, 1) := by decide +kernel
theorem dL_law_137 : decode cL_law 137 = .ok (.aload_n 0, 1) := by decide +kernel
theorem dL_law_138 : decode cL_law 138 = .ok (.iload 4, 2) := by decide +kernel
theorem dL_law_140 : decode cL_law 140 = .ok (.iconst 1, 1) := by decide +kernel
theorem dL_law_141 : decode cL_law 141 = .ok (.iadd, 1) := by decide +kernel
theorem dL_law_142 : decode cL_law 142 = .ok (.iaload, 1) := by decide +kernel
theorem dL_law_143 : decode cL_law 143 = .ok (.aload_n 0, 1) := by decide +kernel
theorem dL_law_144 : decode cL_law 144 = .ok (.iload 4, 2) := by decide +kernel
theorem dL_law_146 : decode cL_law 146 = .ok (.iconst 2, 1) := by decide +kernel
theorem dL_law_147 : decode cL_law 147 = .ok (.iadd, 1) := by decide +kernel
theorem dL_law_148 : decode cL_law 148 = .ok (.iaload, 1) := by decide +kernel
theorem dL_law_149 : decode cL_law 149 = .ok (.aload_n 0, 1) := by decide +kernel
theorem dL_law_150 : decode cL_law 150 = .ok (.iload 4, 2) := by decide +kernel
theorem dL_law_152 : decode cL_law 152 = .ok (.iconst 3, 1) := by decide +kernel
theorem dL_law_153 : decode cL_law 153 = .ok (.iadd, 1) := by decide +kernel
theorem dL_law_154 : decode cL_law 154 = .ok (.iaload, 1) := by decide +kernel
theorem dL_law_155 : decode cL_law 155 = .ok (.aload_n 0, 1) := by decide +kernel
theorem dL_law_156 : decode cL_law 156 = .ok (.iload 4, 2) := by decide +kernel
theorem dL_law_158 : decode cL_law 158 = .ok (.iconst 4, 1) := by decide +kernel
theorem dL_law_159 : decode cL_law 159 = .ok (.iadd, 1) := by decide +kernel
theorem dL_law_160 : decode cL_law 160 = .ok (.iaload, 1) := by decide +kernel
theorem dL_law_161 : decode cL_law 161 = .ok (.aload_n 3, 1) := by decide +kernel
theorem dL_law_162 : decode cL_law 162 = .ok (.invokestatic 78, 3) := by decide +kernel
theorem dL_law_165 : decode cL_law 165 = .ok (.istore 5, 2) := by decide +kernel
theorem dL_law_167 : decode cL_law 167 = .ok (.aload_n 2, 1) := by decide +kernel
theorem dL_law_168 : decode cL_law 168 = .ok (.aload_n 0, 1) := by decide +kernel
theorem dL_law_169 : decode cL_law 169 = .ok (.iload 4, 2) := by decide +kernel
theorem dL_law_171 : decode cL_law 171 = .ok (.iconst 1, 1) := by decide +kernel
theorem dL_law_172 : decode cL_law 172 = .ok (.iadd, 1) := by decide +kernel
theorem dL_law_173 : decode cL_law 173 = .ok (.iaload, 1) := by decide +kernel
theorem dL_law_174 : decode cL_law 174 = .ok (.aload_n 0, 1) := by decide +kernel
theorem dL_law_175 : decode cL_law 175 = .ok (.iload 4, 2) := by decide +kernel
theorem dL_law_177 : decode cL_law 177 = .ok (.iconst 2, 1) := by decide +kernel
theorem dL_law_178 : decode cL_law 178 = .ok (.iadd, 1) := by decide +kernel
theorem dL_law_179 : decode cL_law 179 = .ok (.iaload, 1) := by decide +kernel
theorem dL_law_180 : decode cL_law 180 = .ok (.aload_n 0, 1) := by decide +kernel
theorem dL_law_181 : decode cL_law 181 = .ok (.iload 4, 2) := by decide +kernel
theorem dL_law_183 : decode cL_law 183 = .ok (.iconst 3, 1) := by decide +kernel
theorem dL_law_184 : decode cL_law 184 = .ok (.iadd, 1) := by decide +kernel
theorem dL_law_185 : decode cL_law 185 = .ok (.iaload, 1) := by decide +kernel
theorem dL_law_186 : decode cL_law 186 = .ok (.aload_n 0, 1) := by decide +kernel
theorem dL_law_187 : decode cL_law 187 = .ok (.iload 4, 2) := by decide +kernel
theorem dL_law_189 : decode cL_law 189 = .ok (.iconst 4, 1) := by decide +kernel
theorem dL_law_190 : decode cL_law 190 = .ok (.iadd, 1) := by decide +kernel
theorem dL_law_191 : decode cL_law 191 = .ok (.iaload, 1) := by decide +kernel
theorem dL_law_192 : decode cL_law 192 = .ok (.invokevirtual 83, 3) := by decide +kernel
theorem dL_law_195 : decode cL_law 195 = .ok (.istore 6, 2) := by decide +kernel
theorem dL_law_197 : decode cL_law 197 = .ok (.aload_n 2, 1) := by decide +kernel
theorem dL_law_198 : decode cL_law 198 = .ok (.invokevirtual 84, 3) := by decide +kernel
theorem dL_law_201 : decode cL_law 201 = .ok (.iload 5, 2) := by decide +kernel
theorem dL_law_203 : decode cL_law 203 = .ok (.if_icmp .eq 5, 3) := by decide +kernel
theorem dL_law_206 : decode cL_law 206 = .ok (.iconst 0, 1) := by decide +kernel
theorem dL_law_207 : decode cL_law 207 = .ok (.ireturn, 1) := by decide +kernel
theorem dL_law_208 : decode cL_law 208 = .ok (.iload 5, 2) := by decide +kernel
theorem dL_law_210 : decode cL_law 210 = .ok (.ifCond .ne 15, 3) := by decide +kernel
theorem dL_law_213 : decode cL_law 213 = .ok (.aload_n 3, 1) := by decide +kernel
theorem dL_law_214 : decode cL_law 214 = .ok (.iconst 0, 1) := by decide +kernel
theorem dL_law_215 : decode cL_law 215 = .ok (.laload, 1) := by decide +kernel
theorem dL_law_216 : decode cL_law 216 = .ok (.iload 6, 2) := by decide +kernel
theorem dL_law_218 : decode cL_law 218 = .ok (.i2l, 1) := by decide +kernel
theorem dL_law_219 : decode cL_law 219 = .ok (.lcmp, 1) := by decide +kernel
theorem dL_law_220 : decode cL_law 220 = .ok (.ifCond .eq 5, 3) := by decide +kernel
theorem dL_law_223 : decode cL_law 223 = .ok (.iconst 0, 1) := by decide +kernel
theorem dL_law_224 : decode cL_law 224 = .ok (.ireturn, 1) := by decide +kernel
theorem dL_law_225 : decode cL_law 225 = .ok (.goto 1256, 3) := by decide +kernel
theorem dL_law_228 : decode cL_law 228 = .ok (.aload_n 1, 1) := by decide +kernel
theorem dL_law_229 : decode cL_law 229 = .ok (.aload_n 0, 1) := by decide +kernel
theorem dL_law_230 : decode cL_law 230 = .ok (.iload 4, 2) := by decide +kernel
theorem dL_law_232 : decode cL_law 232 = .ok (.iconst 1, 1) := by decide +kernel
theorem dL_law_233 : decode cL_law 233 = .ok (.iadd, 1) := by decide +kernel
theorem dL_law_234 : decode cL_law 234 = .ok (.iaload, 1) := by decide +kernel
theorem dL_law_235 : decode cL_law 235 = .ok (.aload_n 3, 1) := by decide +kernel
theorem dL_law_236 : decode cL_law 236 = .ok (.invokestatic 88, 3) := by decide +kernel
theorem dL_law_239 : decode cL_law 239 = .ok (.istore 5, 2) := by decide +kernel
theorem dL_law_241 : decode cL_law 241 = .ok (.aload_n 2, 1) := by decide +kernel
theorem dL_law_242 : decode cL_law 242 = .ok (.aload_n 0, 1) := by decide +kernel
theorem dL_law_243 : decode cL_law 243 = .ok (.iload 4, 2) := by decide +kernel
theorem dL_law_245 : decode cL_law 245 = .ok (.iconst 1, 1) := by decide +kernel
theorem dL_law_246 : decode cL_law 246 = .ok (.iadd, 1) := by decide +kernel
theorem dL_law_247 : decode cL_law 247 = .ok (.iaload, 1) := by decide +kernel
theorem dL_law_248 : decode cL_law 248 = .ok (.invokevirtual 91, 3) := by decide +kernel
theorem dL_law_251 : decode cL_law 251 = .ok (.istore 6, 2) := by decide +kernel
theorem dL_law_253 : decode cL_law 253 = .ok (.aload_n 2, 1) := by decide +kernel
theorem dL_law_254 : decode cL_law 254 = .ok (.invokevirtual 84, 3) := by decide +kernel
theorem dL_law_257 : decode cL_law 257 = .ok (.iload 5, 2) := by decide +kernel
theorem dL_law_259 : decode cL_law 259 = .ok (.if_icmp .eq 5, 3) := by decide +kernel
theorem dL_law_262 : decode cL_law 262 = .ok (.iconst 0, 1) := by decide +kernel
theorem dL_law_263 : decode cL_law 263 = .ok (.ireturn, 1) := by decide +kernel
theorem dL_law_264 : decode cL_law 264 = .ok (.iload 5, 2) := by decide +kernel
theorem dL_law_266 : decode cL_law 266 = .ok (.ifCond .ne 15, 3) := by decide +kernel
theorem dL_law_269 : decode cL_law 269 = .ok (.aload_n 3, 1) := by decide +kernel
theorem dL_law_270 : decode cL_law 270 = .ok (.iconst 0, 1) := by decide +kernel
theorem dL_law_271 : decode cL_law 271 = .ok (.laload, 1) := by decide +kernel
theorem dL_law_272 : decode cL_law 272 = .ok (.iload 6, 2) := by decide +kernel
theorem dL_law_274 : decode cL_law 274 = .ok (.i2l, 1) := by decide +kernel
theorem dL_law_275 : decode cL_law 275 = .ok (.lcmp, 1) := by decide +kernel
theorem dL_law_276 : decode cL_law 276 = .ok (.ifCond .eq 5, 3) := by decide +kernel
theorem dL_law_279 : decode cL_law 279 = .ok (.iconst 0, 1) := by decide +kernel
theorem dL_law_280 : decode cL_law 280 = .ok (.ireturn, 1) := by decide +kernel
theorem dL_law_281 : decode cL_law 281 = .ok (.goto 1200, 3) := by decide +kernel
theorem dL_law_284 : decode cL_law 284 = .ok (.aload_n 1, 1) := by decide +kernel
theorem dL_law_285 : decode cL_law 285 = .ok (.aload_n 0, 1) := by decide +kernel
theorem dL_law_286 : decode cL_law 286 = .ok (.iload 4, 2) := by decide +kernel
theorem dL_law_288 : decode cL_law 288 = .ok (.iconst 1, 1) := by decide +kernel
theorem dL_law_289 : decode cL_law 289 = .ok (.iadd, 1) := by decide +kernel
theorem dL_law_290 : decode cL_law 290 = .ok (.iaload, 1) := by decide +kernel
theorem dL_law_291 : decode cL_law 291 = .ok (.aload_n 3, 1) := by decide +kernel
theorem dL_law_292 : decode cL_law 292 = .ok (.invokestatic 92, 3) := by decide +kernel
theorem dL_law_295 : decode cL_law 295 = .ok (.istore 5, 2) := by decide +kernel
theorem dL_law_297 : decode cL_law 297 = .ok (.aload_n 2, 1) := by decide +kernel
theorem dL_law_298 : decode cL_law 298 = .ok (.aload_n 0, 1) := by decide +kernel
theorem dL_law_299 : decode cL_law 299 = .ok (.iload 4, 2) := by decide +kernel
theorem dL_law_301 : decode cL_law 301 = .ok (.iconst 1, 1) := by decide +kernel
theorem dL_law_302 : decode cL_law 302 = .ok (.iadd, 1) := by decide +kernel
theorem dL_law_303 : decode cL_law 303 = .ok (.iaload, 1) := by decide +kernel
theorem dL_law_304 : decode cL_law 304 = .ok (.invokevirtual 94, 3) := by decide +kernel
theorem dL_law_307 : decode cL_law 307 = .ok (.istore 6, 2) := by decide +kernel
theorem dL_law_309 : decode cL_law 309 = .ok (.aload_n 2, 1) := by decide +kernel
theorem dL_law_310 : decode cL_law 310 = .ok (.invokevirtual 84, 3) := by decide +kernel
theorem dL_law_313 : decode cL_law 313 = .ok (.iload 5, 2) := by decide +kernel
theorem dL_law_315 : decode cL_law 315 = .ok (.if_icmp .eq 5, 3) := by decide +kernel
theorem dL_law_318 : decode cL_law 318 = .ok (.iconst 0, 1) := by decide +kernel
theorem dL_law_319 : decode cL_law 319 = .ok (.ireturn, 1) := by decide +kernel
theorem dL_law_320 : decode cL_law 320 = .ok (.iload 5, 2) := by decide +kernel
theorem dL_law_322 : decode cL_law 322 = .ok (.ifCond .ne 22, 3) := by decide +kernel
theorem dL_law_325 : decode cL_law 325 = .ok (.aload_n 3, 1) := by decide +kernel
theorem dL_law_326 : decode cL_law 326 = .ok (.iconst 0, 1) := by decide +kernel
theorem dL_law_327 : decode cL_law 327 = .ok (.laload, 1) := by decide +kernel
theorem dL_law_328 : decode cL_law 328 = .ok (.iload 6, 2) := by decide +kernel
theorem dL_law_330 : decode cL_law 330 = .ok (.ifCond .eq 7, 3) := by decide +kernel
theorem dL_law_333 : decode cL_law 333 = .ok (.lconst 1, 1) := by decide +kernel
theorem dL_law_334 : decode cL_law 334 = .ok (.goto 4, 3) := by decide +kernel
theorem dL_law_337 : decode cL_law 337 = .ok (.lconst 0, 1) := by decide +kernel
theorem dL_law_338 : decode cL_law 338 = .ok (.lcmp, 1) := by decide +kernel
theorem dL_law_339 : decode cL_law 339 = .ok (.ifCond .eq 5, 3) := by decide +kernel
theorem dL_law_342 : decode cL_law 342 = .ok (.iconst 0, 1) := by decide +kernel
theorem dL_law_343 : decode cL_law 343 = .ok (.ireturn, 1) := by decide +kernel
theorem dL_law_344 : decode cL_law 344 = .ok (.goto 1137, 3) := by decide +kernel
theorem dL_law_347 : decode cL_law 347 = .ok (.aload_n 1, 1) := by decide +kernel
theorem dL_law_348 : decode cL_law 348 = .ok (.aload_n 0, 1) := by decide +kernel
theorem dL_law_349 : decode cL_law 349 = .ok (.iload 4, 2) := by decide +kernel
theorem dL_law_351 : decode cL_law 351 = .ok (.iconst 1, 1) := by decide +kernel
theorem dL_law_352 : decode cL_law 352 = .ok (.iadd, 1) := by decide +kernel
theorem dL_law_353 : decode cL_law 353 = .ok (.iaload, 1) := by decide +kernel
theorem dL_law_354 : decode cL_law 354 = .ok (.aload_n 0, 1) := by decide +kernel
theorem dL_law_355 : decode cL_law 355 = .ok (.iload 4, 2) := by decide +kernel
theorem dL_law_357 : decode cL_law 357 = .ok (.iconst 2, 1) := by decide +kernel
theorem dL_law_358 : decode cL_law 358 = .ok (.iadd, 1) := by decide +kernel
theorem dL_law_359 : decode cL_law 359 = .ok (.iaload, 1) := by decide +kernel
theorem dL_law_360 : decode cL_law 360 = .ok (.aload_n 0, 1) := by decide +kernel
theorem dL_law_361 : decode cL_law 361 = .ok (.iload 4, 2) := by decide +kernel
theorem dL_law_363 : decode cL_law 363 = .ok (.iconst 3, 1) := by decide +kernel
theorem dL_law_364 : decode cL_law 364 = .ok (.iadd, 1) := by decide +kernel
theorem dL_law_365 : decode cL_law 365 = .ok (.iaload, 1) := by decide +kernel
theorem dL_law_366 : decode cL_law 366 = .ok (.aload_n 3, 1) := by decide +kernel
theorem dL_law_367 : decode cL_law 367 = .ok (.invokestatic 95, 3) := by decide +kernel
theorem dL_law_370 : decode cL_law 370 = .ok (.istore 5, 2) := by decide +kernel
theorem dL_law_372 : decode cL_law 372 = .ok (.aload_n 2, 1) := by decide +kernel
theorem dL_law_373 : decode cL_law 373 = .ok (.aload_n 0, 1) := by decide +kernel
theorem dL_law_374 : decode cL_law 374 = .ok (.iload 4, 2) := by decide +kernel
theorem dL_law_376 : decode cL_law 376 = .ok (.iconst 1, 1) := by decide +kernel
theorem dL_law_377 : decode cL_law 377 = .ok (.iadd, 1) := by decide +kernel
theorem dL_law_378 : decode cL_law 378 = .ok (.iaload, 1) := by decide +kernel
theorem dL_law_379 : decode cL_law 379 = .ok (.aload_n 0, 1) := by decide +kernel
theorem dL_law_380 : decode cL_law 380 = .ok (.iload 4, 2) := by decide +kernel
theorem dL_law_382 : decode cL_law 382 = .ok (.iconst 2, 1) := by decide +kernel
theorem dL_law_383 : decode cL_law 383 = .ok (.iadd, 1) := by decide +kernel
theorem dL_law_384 : decode cL_law 384 = .ok (.iaload, 1) := by decide +kernel
theorem dL_law_385 : decode cL_law 385 = .ok (.aload_n 0, 1) := by decide +kernel
theorem dL_law_386 : decode cL_law 386 = .ok (.iload 4, 2) := by decide +kernel
theorem dL_law_388 : decode cL_law 388 = .ok (.iconst 3, 1) := by decide +kernel
theorem dL_law_389 : decode cL_law 389 = .ok (.iadd, 1) := by decide +kernel
theorem dL_law_390 : decode cL_law 390 = .ok (.iaload, 1) := by decide +kernel
theorem dL_law_391 : decode cL_law 391 = .ok (.invokevirtual 98, 3) := by decide +kernel
theorem dL_law_394 : decode cL_law 394 = .ok (.istore 6, 2) := by decide +kernel
theorem dL_law_396 : decode cL_law 396 = .ok (.aload_n 2, 1) := by decide +kernel
theorem dL_law_397 : decode cL_law 397 = .ok (.invokevirtual 84, 3) := by decide +kernel
theorem dL_law_400 : decode cL_law 400 = .ok (.iload 5, 2) := by decide +kernel
theorem dL_law_402 : decode cL_law 402 = .ok (.if_icmp .eq 5, 3) := by decide +kernel
theorem dL_law_405 : decode cL_law 405 = .ok (.iconst 0, 1) := by decide +kernel
theorem dL_law_406 : decode cL_law 406 = .ok (.ireturn, 1) := by decide +kernel
theorem dL_law_407 : decode cL_law 407 = .ok (.iload 5, 2) := by decide +kernel
theorem dL_law_409 : decode cL_law 409 = .ok (.ifCond .ne 15, 3) := by decide +kernel
theorem dL_law_412 : decode cL_law 412 = .ok (.aload_n 3, 1) := by decide +kernel
theorem dL_law_413 : decode cL_law 413 = .ok (.iconst 0, 1) := by decide +kernel
theorem dL_law_414 : decode cL_law 414 = .ok (.laload, 1) := by decide +kernel
theorem dL_law_415 : decode cL_law 415 = .ok (.iload 6, 2) := by decide +kernel
theorem dL_law_417 : decode cL_law 417 = .ok (.i2l, 1) := by decide +kernel
theorem dL_law_418 : decode cL_law 418 = .ok (.lcmp, 1) := by decide +kernel
theorem dL_law_419 : decode cL_law 419 = .ok (.ifCond .eq 5, 3) := by decide +kernel
theorem dL_law_422 : decode cL_law 422 = .ok (.iconst 0, 1) := by decide +kernel
theorem dL_law_423 : decode cL_law 423 = .ok (.ireturn, 1) := by decide +kernel
theorem dL_law_424 : decode cL_law 424 = .ok (.goto 1057, 3) := by decide +kernel
theorem dL_law_427 : decode cL_law 427 = .ok (.aload_n 1, 1) := by decide +kernel
theorem dL_law_428 : decode cL_law 428 = .ok (.aload_n 0, 1) := by decide +kernel
theorem dL_law_429 : decode cL_law 429 = .ok (.iload 4, 2) := by decide +kernel
theorem dL_law_431 : decode cL_law 431 = .ok (.iconst 1, 1) := by decide +kernel
theorem dL_law_432 : decode cL_law 432 = .ok (.iadd, 1) := by decide +kernel
theorem dL_law_433 : decode cL_law 433 = .ok (.iaload, 1) := by decide +kernel
theorem dL_law_434 : decode cL_law 434 = .ok (.aload_n 0, 1) := by decide +kernel
theorem dL_law_435 : decode cL_law 435 = .ok (.iload 4, 2) := by decide +kernel
theorem dL_law_437 : decode cL_law 437 = .ok (.iconst 2, 1) := by decide +kernel
theorem dL_law_438 : decode cL_law 438 = .ok (.iadd, 1) := by decide +kernel
theorem dL_law_439 : decode cL_law 439 = .ok (.iaload, 1) := by decide +kernel
theorem dL_law_440 : decode cL_law 440 = .ok (.aload_n 0, 1) := by decide +kernel
theorem dL_law_441 : decode cL_law 441 = .ok (.iload 4, 2) := by decide +kernel
theorem dL_law_443 : decode cL_law 443 = .ok (.iconst 3, 1) := by decide +kernel
theorem dL_law_444 : decode cL_law 444 = .ok (.iadd, 1) := by decide +kernel
theorem dL_law_445 : decode cL_law 445 = .ok (.iaload, 1) := by decide +kernel
theorem dL_law_446 : decode cL_law 446 = .ok (.aload_n 3, 1) := by decide +kernel
theorem dL_law_447 : decode cL_law 447 = .ok (.invokestatic 99, 3) := by decide +kernel
theorem dL_law_450 : decode cL_law 450 = .ok (.istore 5, 2) := by decide +kernel
theorem dL_law_452 : decode cL_law 452 = .ok (.aload_n 2, 1) := by decide +kernel
theorem dL_law_453 : decode cL_law 453 = .ok (.aload_n 0, 1) := by decide +kernel
theorem dL_law_454 : decode cL_law 454 = .ok (.iload 4, 2) := by decide +kernel
theorem dL_law_456 : decode cL_law 456 = .ok (.iconst 1, 1) := by decide +kernel
theorem dL_law_457 : decode cL_law 457 = .ok (.iadd, 1) := by decide +kernel
theorem dL_law_458 : decode cL_law 458 = .ok (.iaload, 1) := by decide +kernel
theorem dL_law_459 : decode cL_law 459 = .ok (.aload_n 0, 1) := by decide +kernel
theorem dL_law_460 : decode cL_law 460 = .ok (.iload 4, 2) := by decide +kernel
theorem dL_law_462 : decode cL_law 462 = .ok (.iconst 2, 1) := by decide +kernel
theorem dL_law_463 : decode cL_law 463 = .ok (.iadd, 1) := by decide +kernel
theorem dL_law_464 : decode cL_law 464 = .ok (.iaload, 1) := by decide +kernel
theorem dL_law_465 : decode cL_law 465 = .ok (.aload_n 0, 1) := by decide +kernel
theorem dL_law_466 : decode cL_law 466 = .ok (.iload 4, 2) := by decide +kernel
theorem dL_law_468 : decode cL_law 468 = .ok (.iconst 3, 1) := by decide +kernel
theorem dL_law_469 : decode cL_law 469 = .ok (.iadd, 1) := by decide +kernel
theorem dL_law_470 : decode cL_law 470 = .ok (.iaload, 1) := by decide +kernel
theorem dL_law_471 : decode cL_law 471 = .ok (.invokevirtual 101, 3) := by decide +kernel
theorem dL_law_474 : decode cL_law 474 = .ok (.istore 6, 2) := by decide +kernel
theorem dL_law_476 : decode cL_law 476 = .ok (.aload_n 2, 1) := by decide +kernel
theorem dL_law_477 : decode cL_law 477 = .ok (.invokevirtual 84, 3) := by decide +kernel
theorem dL_law_480 : decode cL_law 480 = .ok (.iload 5, 2) := by decide +kernel
theorem dL_law_482 : decode cL_law 482 = .ok (.if_icmp .eq 5, 3) := by decide +kernel
theorem dL_law_485 : decode cL_law 485 = .ok (.iconst 0, 1) := by decide +kernel
theorem dL_law_486 : decode cL_law 486 = .ok (.ireturn, 1) := by decide +kernel
theorem dL_law_487 : decode cL_law 487 = .ok (.iload 5, 2) := by decide +kernel
theorem dL_law_489 : decode cL_law 489 = .ok (.ifCond .ne 15, 3) := by decide +kernel
theorem dL_law_492 : decode cL_law 492 = .ok (.aload_n 3, 1) := by decide +kernel
theorem dL_law_493 : decode cL_law 493 = .ok (.iconst 0, 1) := by decide +kernel
theorem dL_law_494 : decode cL_law 494 = .ok (.laload, 1) := by decide +kernel
theorem dL_law_495 : decode cL_law 495 = .ok (.iload 6, 2) := by decide +kernel
theorem dL_law_497 : decode cL_law 497 = .ok (.i2l, 1) := by decide +kernel
theorem dL_law_498 : decode cL_law 498 = .ok (.lcmp, 1) := by decide +kernel
theorem dL_law_499 : decode cL_law 499 = .ok (.ifCond .eq 5, 3) := by decide +kernel
theorem dL_law_502 : decode cL_law 502 = .ok (.iconst 0, 1) := by decide +kernel
theorem dL_law_503 : decode cL_law 503 = .ok (.ireturn, 1) := by decide +kernel
theorem dL_law_504 : decode cL_law 504 = .ok (.goto 977, 3) := by decide +kernel
theorem dL_law_507 : decode cL_law 507 = .ok (.aload_n 1, 1) := by decide +kernel
theorem dL_law_508 : decode cL_law 508 = .ok (.aload_n 0, 1) := by decide +kernel
theorem dL_law_509 : decode cL_law 509 = .ok (.iload 4, 2) := by decide +kernel
theorem dL_law_511 : decode cL_law 511 = .ok (.iconst 1, 1) := by decide +kernel
theorem dL_law_512 : decode cL_law 512 = .ok (.iadd, 1) := by decide +kernel
theorem dL_law_513 : decode cL_law 513 = .ok (.iaload, 1) := by decide +kernel
theorem dL_law_514 : decode cL_law 514 = .ok (.aload_n 0, 1) := by decide +kernel
theorem dL_law_515 : decode cL_law 515 = .ok (.iload 4, 2) := by decide +kernel
theorem dL_law_517 : decode cL_law 517 = .ok (.iconst 2, 1) := by decide +kernel
theorem dL_law_518 : decode cL_law 518 = .ok (.iadd, 1) := by decide +kernel
theorem dL_law_519 : decode cL_law 519 = .ok (.iaload, 1) := by decide +kernel
theorem dL_law_520 : decode cL_law 520 = .ok (.aload_n 0, 1) := by decide +kernel
theorem dL_law_521 : decode cL_law 521 = .ok (.iload 4, 2) := by decide +kernel
theorem dL_law_523 : decode cL_law 523 = .ok (.iconst 3, 1) := by decide +kernel
theorem dL_law_524 : decode cL_law 524 = .ok (.iadd, 1) := by decide +kernel
theorem dL_law_525 : decode cL_law 525 = .ok (.iaload, 1) := by decide +kernel
theorem dL_law_526 : decode cL_law 526 = .ok (.aload_n 0, 1) := by decide +kernel
theorem dL_law_527 : decode cL_law 527 = .ok (.iload 4, 2) := by decide +kernel
theorem dL_law_529 : decode cL_law 529 = .ok (.iconst 4, 1) := by decide +kernel
theorem dL_law_530 : decode cL_law 530 = .ok (.iadd, 1) := by decide +kernel
theorem dL_law_531 : decode cL_law 531 = .ok (.iaload, 1) := by decide +kernel
theorem dL_law_532 : decode cL_law 532 = .ok (.aload_n 0, 1) := by decide +kernel
theorem dL_law_533 : decode cL_law 533 = .ok (.iload 4, 2) := by decide +kernel
theorem dL_law_535 : decode cL_law 535 = .ok (.iconst 5, 1) := by decide +kernel
theorem dL_law_536 : decode cL_law 536 = .ok (.iadd, 1) := by decide +kernel
theorem dL_law_537 : decode cL_law 537 = .ok (.iaload, 1) := by decide +kernel
theorem dL_law_538 : decode cL_law 538 = .ok (.aload_n 3, 1) := by decide +kernel
theorem dL_law_539 : decode cL_law 539 = .ok (.invokestatic 102, 3) := by decide +kernel
theorem dL_law_542 : decode cL_law 542 = .ok (.istore 5, 2) := by decide +kernel
theorem dL_law_544 : decode cL_law 544 = .ok (.aload_n 2, 1) := by decide +kernel
theorem dL_law_545 : decode cL_law 545 = .ok (.aload_n 0, 1) := by decide +kernel
theorem dL_law_546 : decode cL_law 546 = .ok (.iload 4, 2) := by decide +kernel
theorem dL_law_548 : decode cL_law 548 = .ok (.iconst 1, 1) := by decide +kernel
theorem dL_law_549 : decode cL_law 549 = .ok (.iadd, 1) := by decide +kernel
theorem dL_law_550 : decode cL_law 550 = .ok (.iaload, 1) := by decide +kernel
end
section
theorem dL_law_551 : decode cL_law 551 = .ok (.aload_n 0, 1) := by decide +kernel
theorem dL_law_552 : decode cL_law 552 = .ok (.iload 4, 2) := by decide +kernel
theorem dL_law_554 : decode cL_law 554 = .ok (.iconst 2, 1) := by decide +kernel
theorem dL_law_555 : decode cL_law 555 = .ok (.iadd, 1) := by decide +kernel
theorem dL_law_556 : decode cL_law 556 = .ok (.iaload, 1) := by decide +kernel
theorem dL_law_557 : decode cL_law 557 = .ok (.aload_n 0, 1) := by decide +kernel
theorem dL_law_558 : decode cL_law 558 = .ok (.iload 4, 2) := by decide +kernel
theorem dL_law_560 : decode cL_law 560 = .ok (.iconst 3, 1) := by decide +kernel
theorem dL_law_561 : decode cL_law 561 = .ok (.iadd, 1) := by decide +kernel
theorem dL_law_562 : decode cL_law 562 = .ok (.iaload, 1) := by decide +kernel
theorem dL_law_563 : decode cL_law 563 = .ok (.aload_n 0, 1) := by decide +kernel
theorem dL_law_564 : decode cL_law 564 = .ok (.iload 4, 2) := by decide +kernel
theorem dL_law_566 : decode cL_law 566 = .ok (.iconst 4, 1) := by decide +kernel
theorem dL_law_567 : decode cL_law 567 = .ok (.iadd, 1) := by decide +kernel
theorem dL_law_568 : decode cL_law 568 = .ok (.iaload, 1) := by decide +kernel
theorem dL_law_569 : decode cL_law 569 = .ok (.aload_n 0, 1) := by decide +kernel
theorem dL_law_570 : decode cL_law 570 = .ok (.iload 4, 2) := by decide +kernel
theorem dL_law_572 : decode cL_law 572 = .ok (.iconst 5, 1) := by decide +kernel
theorem dL_law_573 : decode cL_law 573 = .ok (.iadd, 1) := by decide +kernel
theorem dL_law_574 : decode cL_law 574 = .ok (.iaload, 1) := by decide +kernel
theorem dL_law_575 : decode cL_law 575 = .ok (.invokevirtual 105, 3) := by decide +kernel
theorem dL_law_578 : decode cL_law 578 = .ok (.istore 6, 2) := by decide +kernel
theorem dL_law_580 : decode cL_law 580 = .ok (.aload_n 2, 1) := by decide +kernel
theorem dL_law_581 : decode cL_law 581 = .ok (.invokevirtual 84, 3) := by decide +kernel
theorem dL_law_584 : decode cL_law 584 = .ok (.iload 5, 2) := by decide +kernel
theorem dL_law_586 : decode cL_law 586 = .ok (.if_icmp .eq 5, 3) := by decide +kernel
theorem dL_law_589 : decode cL_law 589 = .ok (.iconst 0, 1) := by decide +kernel
theorem dL_law_590 : decode cL_law 590 = .ok (.ireturn, 1) := by decide +kernel
theorem dL_law_591 : decode cL_law 591 = .ok (.iload 5, 2) := by decide +kernel
theorem dL_law_593 : decode cL_law 593 = .ok (.ifCond .ne 15, 3) := by decide +kernel
theorem dL_law_596 : decode cL_law 596 = .ok (.aload_n 3, 1) := by decide +kernel
theorem dL_law_597 : decode cL_law 597 = .ok (.iconst 0, 1) := by decide +kernel
theorem dL_law_598 : decode cL_law 598 = .ok (.laload, 1) := by decide +kernel
theorem dL_law_599 : decode cL_law 599 = .ok (.iload 6, 2) := by decide +kernel
theorem dL_law_601 : decode cL_law 601 = .ok (.i2l, 1) := by decide +kernel
theorem dL_law_602 : decode cL_law 602 = .ok (.lcmp, 1) := by decide +kernel
theorem dL_law_603 : decode cL_law 603 = .ok (.ifCond .eq 5, 3) := by decide +kernel
theorem dL_law_606 : decode cL_law 606 = .ok (.iconst 0, 1) := by decide +kernel
theorem dL_law_607 : decode cL_law 607 = .ok (.ireturn, 1) := by decide +kernel
theorem dL_law_608 : decode cL_law 608 = .ok (.goto 873, 3) := by decide +kernel
theorem dL_law_611 : decode cL_law 611 = .ok (.aload_n 1, 1) := by decide +kernel
theorem dL_law_612 : decode cL_law 612 = .ok (.aload_n 0, 1) := by decide +kernel
theorem dL_law_613 : decode cL_law 613 = .ok (.iload 4, 2) := by decide +kernel
theorem dL_law_615 : decode cL_law 615 = .ok (.iconst 1, 1) := by decide +kernel
theorem dL_law_616 : decode cL_law 616 = .ok (.iadd, 1) := by decide +kernel
theorem dL_law_617 : decode cL_law 617 = .ok (.iaload, 1) := by decide +kernel
theorem dL_law_618 : decode cL_law 618 = .ok (.aload_n 3, 1) := by decide +kernel
theorem dL_law_619 : decode cL_law 619 = .ok (.invokestatic 106, 3) := by decide +kernel
theorem dL_law_622 : decode cL_law 622 = .ok (.istore 5, 2) := by decide +kernel
theorem dL_law_624 : decode cL_law 624 = .ok (.aload_n 2, 1) := by decide +kernel
theorem dL_law_625 : decode cL_law 625 = .ok (.aload_n 0, 1) := by decide +kernel
theorem dL_law_626 : decode cL_law 626 = .ok (.iload 4, 2) := by decide +kernel
theorem dL_law_628 : decode cL_law 628 = .ok (.iconst 1, 1) := by decide +kernel
theorem dL_law_629 : decode cL_law 629 = .ok (.iadd, 1) := by decide +kernel
theorem dL_law_630 : decode cL_law 630 = .ok (.iaload, 1) := by decide +kernel
theorem dL_law_631 : decode cL_law 631 = .ok (.invokevirtual 108, 3) := by decide +kernel
theorem dL_law_634 : decode cL_law 634 = .ok (.istore 6, 2) := by decide +kernel
theorem dL_law_636 : decode cL_law 636 = .ok (.aload_n 2, 1) := by decide +kernel
theorem dL_law_637 : decode cL_law 637 = .ok (.invokevirtual 84, 3) := by decide +kernel
theorem dL_law_640 : decode cL_law 640 = .ok (.iload 5, 2) := by decide +kernel
theorem dL_law_642 : decode cL_law 642 = .ok (.if_icmp .eq 5, 3) := by decide +kernel
theorem dL_law_645 : decode cL_law 645 = .ok (.iconst 0, 1) := by decide +kernel
theorem dL_law_646 : decode cL_law 646 = .ok (.ireturn, 1) := by decide +kernel
theorem dL_law_647 : decode cL_law 647 = .ok (.iload 5, 2) := by decide +kernel
theorem dL_law_649 : decode cL_law 649 = .ok (.ifCond .ne 15, 3) := by decide +kernel
theorem dL_law_652 : decode cL_law 652 = .ok (.aload_n 3, 1) := by decide +kernel
theorem dL_law_653 : decode cL_law 653 = .ok (.iconst 0, 1) := by decide +kernel
theorem dL_law_654 : decode cL_law 654 = .ok (.laload, 1) := by decide +kernel
theorem dL_law_655 : decode cL_law 655 = .ok (.iload 6, 2) := by decide +kernel
theorem dL_law_657 : decode cL_law 657 = .ok (.i2l, 1) := by decide +kernel
theorem dL_law_658 : decode cL_law 658 = .ok (.lcmp, 1) := by decide +kernel
theorem dL_law_659 : decode cL_law 659 = .ok (.ifCond .eq 5, 3) := by decide +kernel
theorem dL_law_662 : decode cL_law 662 = .ok (.iconst 0, 1) := by decide +kernel
theorem dL_law_663 : decode cL_law 663 = .ok (.ireturn, 1) := by decide +kernel
theorem dL_law_664 : decode cL_law 664 = .ok (.goto 817, 3) := by decide +kernel
theorem dL_law_667 : decode cL_law 667 = .ok (.aload_n 1, 1) := by decide +kernel
theorem dL_law_668 : decode cL_law 668 = .ok (.aload_n 0, 1) := by decide +kernel
theorem dL_law_669 : decode cL_law 669 = .ok (.iload 4, 2) := by decide +kernel
theorem dL_law_671 : decode cL_law 671 = .ok (.iconst 1, 1) := by decide +kernel
theorem dL_law_672 : decode cL_law 672 = .ok (.iadd, 1) := by decide +kernel
theorem dL_law_673 : decode cL_law 673 = .ok (.iaload, 1) := by decide +kernel
theorem dL_law_674 : decode cL_law 674 = .ok (.aload_n 0, 1) := by decide +kernel
theorem dL_law_675 : decode cL_law 675 = .ok (.iload 4, 2) := by decide +kernel
theorem dL_law_677 : decode cL_law 677 = .ok (.iconst 2, 1) := by decide +kernel
theorem dL_law_678 : decode cL_law 678 = .ok (.iadd, 1) := by decide +kernel
theorem dL_law_679 : decode cL_law 679 = .ok (.iaload, 1) := by decide +kernel
theorem dL_law_680 : decode cL_law 680 = .ok (.aload_n 0, 1) := by decide +kernel
theorem dL_law_681 : decode cL_law 681 = .ok (.iload 4, 2) := by decide +kernel
theorem dL_law_683 : decode cL_law 683 = .ok (.iconst 3, 1) := by decide +kernel
theorem dL_law_684 : decode cL_law 684 = .ok (.iadd, 1) := by decide +kernel
theorem dL_law_685 : decode cL_law 685 = .ok (.iaload, 1) := by decide +kernel
theorem dL_law_686 : decode cL_law 686 = .ok (.aload_n 0, 1) := by decide +kernel
theorem dL_law_687 : decode cL_law 687 = .ok (.iload 4, 2) := by decide +kernel
theorem dL_law_689 : decode cL_law 689 = .ok (.iconst 4, 1) := by decide +kernel
theorem dL_law_690 : decode cL_law 690 = .ok (.iadd, 1) := by decide +kernel
theorem dL_law_691 : decode cL_law 691 = .ok (.iaload, 1) := by decide +kernel
theorem dL_law_692 : decode cL_law 692 = .ok (.aload_n 3, 1) := by decide +kernel
theorem dL_law_693 : decode cL_law 693 = .ok (.invokestatic 109, 3) := by decide +kernel
theorem dL_law_696 : decode cL_law 696 = .ok (.istore 5, 2) := by decide +kernel
theorem dL_law_698 : decode cL_law 698 = .ok (.aload_n 2, 1) := by decide +kernel
theorem dL_law_699 : decode cL_law 699 = .ok (.aload_n 0, 1) := by decide +kernel
theorem dL_law_700 : decode cL_law 700 = .ok (.iload 4, 2) := by decide +kernel
theorem dL_law_702 : decode cL_law 702 = .ok (.iconst 1, 1) := by decide +kernel
theorem dL_law_703 : decode cL_law 703 = .ok (.iadd, 1) := by decide +kernel
theorem dL_law_704 : decode cL_law 704 = .ok (.iaload, 1) := by decide +kernel
theorem dL_law_705 : decode cL_law 705 = .ok (.aload_n 0, 1) := by decide +kernel
theorem dL_law_706 : decode cL_law 706 = .ok (.iload 4, 2) := by decide +kernel
theorem dL_law_708 : decode cL_law 708 = .ok (.iconst 2, 1) := by decide +kernel
theorem dL_law_709 : decode cL_law 709 = .ok (.iadd, 1) := by decide +kernel
theorem dL_law_710 : decode cL_law 710 = .ok (.iaload, 1) := by decide +kernel
theorem dL_law_711 : decode cL_law 711 = .ok (.aload_n 0, 1) := by decide +kernel
theorem dL_law_712 : decode cL_law 712 = .ok (.iload 4, 2) := by decide +kernel
theorem dL_law_714 : decode cL_law 714 = .ok (.iconst 3, 1) := by decide +kernel
theorem dL_law_715 : decode cL_law 715 = .ok (.iadd, 1) := by decide +kernel
theorem dL_law_716 : decode cL_law 716 = .ok (.iaload, 1) := by decide +kernel
theorem dL_law_717 : decode cL_law 717 = .ok (.aload_n 0, 1) := by decide +kernel
theorem dL_law_718 : decode cL_law 718 = .ok (.iload 4, 2) := by decide +kernel
theorem dL_law_720 : decode cL_law 720 = .ok (.iconst 4, 1) := by decide +kernel
theorem dL_law_721 : decode cL_law 721 = .ok (.iadd, 1) := by decide +kernel
theorem dL_law_722 : decode cL_law 722 = .ok (.iaload, 1) := by decide +kernel
theorem dL_law_723 : decode cL_law 723 = .ok (.invokevirtual 111, 3) := by decide +kernel
theorem dL_law_726 : decode cL_law 726 = .ok (.istore 6, 2) := by decide +kernel
theorem dL_law_728 : decode cL_law 728 = .ok (.aload_n 2, 1) := by decide +kernel
theorem dL_law_729 : decode cL_law 729 = .ok (.invokevirtual 84, 3) := by decide +kernel
theorem dL_law_732 : decode cL_law 732 = .ok (.iload 5, 2) := by decide +kernel
theorem dL_law_734 : decode cL_law 734 = .ok (.if_icmp .eq 5, 3) := by decide +kernel
theorem dL_law_737 : decode cL_law 737 = .ok (.iconst 0, 1) := by decide +kernel
theorem dL_law_738 : decode cL_law 738 = .ok (.ireturn, 1) := by decide +kernel
theorem dL_law_739 : decode cL_law 739 = .ok (.iload 5, 2) := by decide +kernel
theorem dL_law_741 : decode cL_law 741 = .ok (.ifCond .ne 22, 3) := by decide +kernel
theorem dL_law_744 : decode cL_law 744 = .ok (.aload_n 3, 1) := by decide +kernel
theorem dL_law_745 : decode cL_law 745 = .ok (.iconst 0, 1) := by decide +kernel
theorem dL_law_746 : decode cL_law 746 = .ok (.laload, 1) := by decide +kernel
theorem dL_law_747 : decode cL_law 747 = .ok (.iload 6, 2) := by decide +kernel
theorem dL_law_749 : decode cL_law 749 = .ok (.ifCond .eq 7, 3) := by decide +kernel
theorem dL_law_752 : decode cL_law 752 = .ok (.lconst 1, 1) := by decide +kernel
theorem dL_law_753 : decode cL_law 753 = .ok (.goto 4, 3) := by decide +kernel
theorem dL_law_756 : decode cL_law 756 = .ok (.lconst 0, 1) := by decide +kernel
theorem dL_law_757 : decode cL_law 757 = .ok (.lcmp, 1) := by decide +kernel
theorem dL_law_758 : decode cL_law 758 = .ok (.ifCond .eq 5, 3) := by decide +kernel
theorem dL_law_761 : decode cL_law 761 = .ok (.iconst 0, 1) := by decide +kernel
theorem dL_law_762 : decode cL_law 762 = .ok (.ireturn, 1) := by decide +kernel
theorem dL_law_763 : decode cL_law 763 = .ok (.goto 718, 3) := by decide +kernel
theorem dL_law_766 : decode cL_law 766 = .ok (.aload_n 1, 1) := by decide +kernel
theorem dL_law_767 : decode cL_law 767 = .ok (.aload_n 0, 1) := by decide +kernel
theorem dL_law_768 : decode cL_law 768 = .ok (.iload 4, 2) := by decide +kernel
theorem dL_law_770 : decode cL_law 770 = .ok (.iconst 1, 1) := by decide +kernel
theorem dL_law_771 : decode cL_law 771 = .ok (.iadd, 1) := by decide +kernel
theorem dL_law_772 : decode cL_law 772 = .ok (.iaload, 1) := by decide +kernel
theorem dL_law_773 : decode cL_law 773 = .ok (.aload_n 3, 1) := by decide +kernel
theorem dL_law_774 : decode cL_law 774 = .ok (.invokestatic 112, 3) := by decide +kernel
theorem dL_law_777 : decode cL_law 777 = .ok (.istore 5, 2) := by decide +kernel
theorem dL_law_779 : decode cL_law 779 = .ok (.aload_n 2, 1) := by decide +kernel
theorem dL_law_780 : decode cL_law 780 = .ok (.aload_n 0, 1) := by decide +kernel
theorem dL_law_781 : decode cL_law 781 = .ok (.iload 4, 2) := by decide +kernel
theorem dL_law_783 : decode cL_law 783 = .ok (.iconst 1, 1) := by decide +kernel
theorem dL_law_784 : decode cL_law 784 = .ok (.iadd, 1) := by decide +kernel
theorem dL_law_785 : decode cL_law 785 = .ok (.iaload, 1) := by decide +kernel
theorem dL_law_786 : decode cL_law 786 = .ok (.invokevirtual 114, 3) := by decide +kernel
theorem dL_law_789 : decode cL_law 789 = .ok (.istore 6, 2) := by decide +kernel
theorem dL_law_791 : decode cL_law 791 = .ok (.aload_n 2, 1) := by decide +kernel
theorem dL_law_792 : decode cL_law 792 = .ok (.invokevirtual 84, 3) := by decide +kernel
theorem dL_law_795 : decode cL_law 795 = .ok (.iload 5, 2) := by decide +kernel
theorem dL_law_797 : decode cL_law 797 = .ok (.if_icmp .eq 5, 3) := by decide +kernel
theorem dL_law_800 : decode cL_law 800 = .ok (.iconst 0, 1) := by decide +kernel
theorem dL_law_801 : decode cL_law 801 = .ok (.ireturn, 1) := by decide +kernel
theorem dL_law_802 : decode cL_law 802 = .ok (.iload 5, 2) := by decide +kernel
theorem dL_law_804 : decode cL_law 804 = .ok (.ifCond .ne 15, 3) := by decide +kernel
theorem dL_law_807 : decode cL_law 807 = .ok (.aload_n 3, 1) := by decide +kernel
theorem dL_law_808 : decode cL_law 808 = .ok (.iconst 0, 1) := by decide +kernel
theorem dL_law_809 : decode cL_law 809 = .ok (.laload, 1) := by decide +kernel
theorem dL_law_810 : decode cL_law 810 = .ok (.iload 6, 2) := by decide +kernel
theorem dL_law_812 : decode cL_law 812 = .ok (.i2l, 1) := by decide +kernel
theorem dL_law_813 : decode cL_law 813 = .ok (.lcmp, 1) := by decide +kernel
theorem dL_law_814 : decode cL_law 814 = .ok (.ifCond .eq 5, 3) := by decide +kernel
theorem dL_law_817 : decode cL_law 817 = .ok (.iconst 0, 1) := by decide +kernel
theorem dL_law_818 : decode cL_law 818 = .ok (.ireturn, 1) := by decide +kernel
theorem dL_law_819 : decode cL_law 819 = .ok (.goto 662, 3) := by decide +kernel
theorem dL_law_822 : decode cL_law 822 = .ok (.aload_n 1, 1) := by decide +kernel
theorem dL_law_823 : decode cL_law 823 = .ok (.aload_n 0, 1) := by decide +kernel
theorem dL_law_824 : decode cL_law 824 = .ok (.iload 4, 2) := by decide +kernel
theorem dL_law_826 : decode cL_law 826 = .ok (.iconst 1, 1) := by decide +kernel
theorem dL_law_827 : decode cL_law 827 = .ok (.iadd, 1) := by decide +kernel
theorem dL_law_828 : decode cL_law 828 = .ok (.iaload, 1) := by decide +kernel
theorem dL_law_829 : decode cL_law 829 = .ok (.aload_n 0, 1) := by decide +kernel
theorem dL_law_830 : decode cL_law 830 = .ok (.iload 4, 2) := by decide +kernel
theorem dL_law_832 : decode cL_law 832 = .ok (.iconst 2, 1) := by decide +kernel
theorem dL_law_833 : decode cL_law 833 = .ok (.iadd, 1) := by decide +kernel
theorem dL_law_834 : decode cL_law 834 = .ok (.iaload, 1) := by decide +kernel
theorem dL_law_835 : decode cL_law 835 = .ok (.aload_n 3, 1) := by decide +kernel
theorem dL_law_836 : decode cL_law 836 = .ok (.invokestatic 115, 3) := by decide +kernel
theorem dL_law_839 : decode cL_law 839 = .ok (.istore 5, 2) := by decide +kernel
theorem dL_law_841 : decode cL_law 841 = .ok (.aload_n 2, 1) := by decide +kernel
theorem dL_law_842 : decode cL_law 842 = .ok (.aload_n 0, 1) := by decide +kernel
theorem dL_law_843 : decode cL_law 843 = .ok (.iload 4, 2) := by decide +kernel
theorem dL_law_845 : decode cL_law 845 = .ok (.iconst 1, 1) := by decide +kernel
theorem dL_law_846 : decode cL_law 846 = .ok (.iadd, 1) := by decide +kernel
theorem dL_law_847 : decode cL_law 847 = .ok (.iaload, 1) := by decide +kernel
theorem dL_law_848 : decode cL_law 848 = .ok (.aload_n 0, 1) := by decide +kernel
theorem dL_law_849 : decode cL_law 849 = .ok (.iload 4, 2) := by decide +kernel
theorem dL_law_851 : decode cL_law 851 = .ok (.iconst 2, 1) := by decide +kernel
theorem dL_law_852 : decode cL_law 852 = .ok (.iadd, 1) := by decide +kernel
theorem dL_law_853 : decode cL_law 853 = .ok (.iaload, 1) := by decide +kernel
theorem dL_law_854 : decode cL_law 854 = .ok (.invokevirtual 118, 3) := by decide +kernel
theorem dL_law_857 : decode cL_law 857 = .ok (.istore 6, 2) := by decide +kernel
theorem dL_law_859 : decode cL_law 859 = .ok (.aload_n 2, 1) := by decide +kernel
theorem dL_law_860 : decode cL_law 860 = .ok (.invokevirtual 84, 3) := by decide +kernel
theorem dL_law_863 : decode cL_law 863 = .ok (.iload 5, 2) := by decide +kernel
theorem dL_law_865 : decode cL_law 865 = .ok (.if_icmp .eq 5, 3) := by decide +kernel
theorem dL_law_868 : decode cL_law 868 = .ok (.iconst 0, 1) := by decide +kernel
theorem dL_law_869 : decode cL_law 869 = .ok (.ireturn, 1) := by decide +kernel
theorem dL_law_870 : decode cL_law 870 = .ok (.iload 5, 2) := by decide +kernel
theorem dL_law_872 : decode cL_law 872 = .ok (.ifCond .ne 15, 3) := by decide +kernel
theorem dL_law_875 : decode cL_law 875 = .ok (.aload_n 3, 1) := by decide +kernel
theorem dL_law_876 : decode cL_law 876 = .ok (.iconst 0, 1) := by decide +kernel
theorem dL_law_877 : decode cL_law 877 = .ok (.laload, 1) := by decide +kernel
theorem dL_law_878 : decode cL_law 878 = .ok (.iload 6, 2) := by decide +kernel
theorem dL_law_880 : decode cL_law 880 = .ok (.i2l, 1) := by decide +kernel
theorem dL_law_881 : decode cL_law 881 = .ok (.lcmp, 1) := by decide +kernel
theorem dL_law_882 : decode cL_law 882 = .ok (.ifCond .eq 5, 3) := by decide +kernel
theorem dL_law_885 : decode cL_law 885 = .ok (.iconst 0, 1) := by decide +kernel
theorem dL_law_886 : decode cL_law 886 = .ok (.ireturn, 1) := by decide +kernel
theorem dL_law_887 : decode cL_law 887 = .ok (.goto 594, 3) := by decide +kernel
theorem dL_law_890 : decode cL_law 890 = .ok (.aload_n 1, 1) := by decide +kernel
theorem dL_law_891 : decode cL_law 891 = .ok (.aload_n 0, 1) := by decide +kernel
theorem dL_law_892 : decode cL_law 892 = .ok (.iload 4, 2) := by decide +kernel
theorem dL_law_894 : decode cL_law 894 = .ok (.iconst 1, 1) := by decide +kernel
theorem dL_law_895 : decode cL_law 895 = .ok (.iadd, 1) := by decide +kernel
theorem dL_law_896 : decode cL_law 896 = .ok (.iaload, 1) := by decide +kernel
theorem dL_law_897 : decode cL_law 897 = .ok (.aload_n 0, 1) := by decide +kernel
theorem dL_law_898 : decode cL_law 898 = .ok (.iload 4, 2) := by decide +kernel
theorem dL_law_900 : decode cL_law 900 = .ok (.iconst 2, 1) := by decide +kernel
theorem dL_law_901 : decode cL_law 901 = .ok (.iadd, 1) := by decide +kernel
theorem dL_law_902 : decode cL_law 902 = .ok (.iaload, 1) := by decide +kernel
theorem dL_law_903 : decode cL_law 903 = .ok (.aload_n 3, 1) := by decide +kernel
theorem dL_law_904 : decode cL_law 904 = .ok (.invokestatic 119, 3) := by decide +kernel
theorem dL_law_907 : decode cL_law 907 = .ok (.istore 5, 2) := by decide +kernel
theorem dL_law_909 : decode cL_law 909 = .ok (.aload_n 2, 1) := by decide +kernel
theorem dL_law_910 : decode cL_law 910 = .ok (.aload_n 0, 1) := by decide +kernel
theorem dL_law_911 : decode cL_law 911 = .ok (.iload 4, 2) := by decide +kernel
theorem dL_law_913 : decode cL_law 913 = .ok (.iconst 1, 1) := by decide +kernel
theorem dL_law_914 : decode cL_law 914 = .ok (.iadd, 1) := by decide +kernel
theorem dL_law_915 : decode cL_law 915 = .ok (.iaload, 1) := by decide +kernel
theorem dL_law_916 : decode cL_law 916 = .ok (.aload_n 0, 1) := by decide +kernel
theorem dL_law_917 : decode cL_law 917 = .ok (.iload 4, 2) := by decide +kernel
theorem dL_law_919 : decode cL_law 919 = .ok (.iconst 2, 1) := by decide +kernel
theorem dL_law_920 : decode cL_law 920 = .ok (.iadd, 1) := by decide +kernel
theorem dL_law_921 : decode cL_law 921 = .ok (.iaload, 1) := by decide +kernel
theorem dL_law_922 : decode cL_law 922 = .ok (.invokevirtual 121, 3) := by decide +kernel
theorem dL_law_925 : decode cL_law 925 = .ok (.istore 6, 2) := by decide +kernel
theorem dL_law_927 : decode cL_law 927 = .ok (.aload_n 2, 1) := by decide +kernel
theorem dL_law_928 : decode cL_law 928 = .ok (.invokevirtual 84, 3) := by decide +kernel
theorem dL_law_931 : decode cL_law 931 = .ok (.iload 5, 2) := by decide +kernel
theorem dL_law_933 : decode cL_law 933 = .ok (.if_icmp .eq 5, 3) := by decide +kernel
theorem dL_law_936 : decode cL_law 936 = .ok (.iconst 0, 1) := by decide +kernel
theorem dL_law_937 : decode cL_law 937 = .ok (.ireturn, 1) := by decide +kernel
theorem dL_law_938 : decode cL_law 938 = .ok (.iload 5, 2) := by decide +kernel
theorem dL_law_940 : decode cL_law 940 = .ok (.ifCond .ne 22, 3) := by decide +kernel
theorem dL_law_943 : decode cL_law 943 = .ok (.aload_n 3, 1) := by decide +kernel
theorem dL_law_944 : decode cL_law 944 = .ok (.iconst 0, 1) := by decide +kernel
theorem dL_law_945 : decode cL_law 945 = .ok (.laload, 1) := by decide +kernel
theorem dL_law_946 : decode cL_law 946 = .ok (.iload 6, 2) := by decide +kernel
theorem dL_law_948 : decode cL_law 948 = .ok (.ifCond .eq 7, 3) := by decide +kernel
theorem dL_law_951 : decode cL_law 951 = .ok (.lconst 1, 1) := by decide +kernel
theorem dL_law_952 : decode cL_law 952 = .ok (.goto 4, 3) := by decide +kernel
theorem dL_law_955 : decode cL_law 955 = .ok (.lconst 0, 1) := by decide +kernel
theorem dL_law_956 : decode cL_law 956 = .ok (.lcmp, 1) := by decide +kernel
theorem dL_law_957 : decode cL_law 957 = .ok (.ifCond .eq 5, 3) := by decide +kernel
theorem dL_law_960 : decode cL_law 960 = .ok (.iconst 0, 1) := by decide +kernel
theorem dL_law_961 : decode cL_law 961 = .ok (.ireturn, 1) := by decide +kernel
theorem dL_law_962 : decode cL_law 962 = .ok (.goto 519, 3) := by decide +kernel
theorem dL_law_965 : decode cL_law 965 = .ok (.aload_n 1, 1) := by decide +kernel
theorem dL_law_966 : decode cL_law 966 = .ok (.aload_n 0, 1) := by decide +kernel
theorem dL_law_967 : decode cL_law 967 = .ok (.iload 4, 2) := by decide +kernel
theorem dL_law_969 : decode cL_law 969 = .ok (.iconst 1, 1) := by decide +kernel
theorem dL_law_970 : decode cL_law 970 = .ok (.iadd, 1) := by decide +kernel
theorem dL_law_971 : decode cL_law 971 = .ok (.iaload, 1) := by decide +kernel
theorem dL_law_972 : decode cL_law 972 = .ok (.aload_n 0, 1) := by decide +kernel
theorem dL_law_973 : decode cL_law 973 = .ok (.iload 4, 2) := by decide +kernel
theorem dL_law_975 : decode cL_law 975 = .ok (.iconst 2, 1) := by decide +kernel
theorem dL_law_976 : decode cL_law 976 = .ok (.iadd, 1) := by decide +kernel
theorem dL_law_977 : decode cL_law 977 = .ok (.iaload, 1) := by decide +kernel
theorem dL_law_978 : decode cL_law 978 = .ok (.aload_n 0, 1) := by decide +kernel
theorem dL_law_979 : decode cL_law 979 = .ok (.iload 4, 2) := by decide +kernel
theorem dL_law_981 : decode cL_law 981 = .ok (.iconst 3, 1) := by decide +kernel
theorem dL_law_982 : decode cL_law 982 = .ok (.iadd, 1) := by decide +kernel
theorem dL_law_983 : decode cL_law 983 = .ok (.iaload, 1) := by decide +kernel
theorem dL_law_984 : decode cL_law 984 = .ok (.aload_n 0, 1) := by decide +kernel
theorem dL_law_985 : decode cL_law 985 = .ok (.iload 4, 2) := by decide +kernel
theorem dL_law_987 : decode cL_law 987 = .ok (.iconst 4, 1) := by decide +kernel
theorem dL_law_988 : decode cL_law 988 = .ok (.iadd, 1) := by decide +kernel
theorem dL_law_989 : decode cL_law 989 = .ok (.iaload, 1) := by decide +kernel
theorem dL_law_990 : decode cL_law 990 = .ok (.aload_n 3, 1) := by decide +kernel
theorem dL_law_991 : decode cL_law 991 = .ok (.invokestatic 122, 3) := by decide +kernel
theorem dL_law_994 : decode cL_law 994 = .ok (.istore 5, 2) := by decide +kernel
theorem dL_law_996 : decode cL_law 996 = .ok (.aload_n 2, 1) := by decide +kernel
theorem dL_law_997 : decode cL_law 997 = .ok (.aload_n 0, 1) := by decide +kernel
theorem dL_law_998 : decode cL_law 998 = .ok (.iload 4, 2) := by decide +kernel
theorem dL_law_1000 : decode cL_law 1000 = .ok (.iconst 1, 1) := by decide +kernel
theorem dL_law_1001 : decode cL_law 1001 = .ok (.iadd, 1) := by decide +kernel
theorem dL_law_1002 : decode cL_law 1002 = .ok (.iaload, 1) := by decide +kernel
theorem dL_law_1003 : decode cL_law 1003 = .ok (.aload_n 0, 1) := by decide +kernel
theorem dL_law_1004 : decode cL_law 1004 = .ok (.iload 4, 2) := by decide +kernel
theorem dL_law_1006 : decode cL_law 1006 = .ok (.iconst 2, 1) := by decide +kernel
theorem dL_law_1007 : decode cL_law 1007 = .ok (.iadd, 1) := by decide +kernel
theorem dL_law_1008 : decode cL_law 1008 = .ok (.iaload, 1) := by decide +kernel
theorem dL_law_1009 : decode cL_law 1009 = .ok (.aload_n 0, 1) := by decide +kernel
theorem dL_law_1010 : decode cL_law 1010 = .ok (.iload 4, 2) := by decide +kernel
end
section
theorem dL_law_1012 : decode cL_law 1012 = .ok (.iconst 3, 1) := by decide +kernel
theorem dL_law_1013 : decode cL_law 1013 = .ok (.iadd, 1) := by decide +kernel
theorem dL_law_1014 : decode cL_law 1014 = .ok (.iaload, 1) := by decide +kernel
theorem dL_law_1015 : decode cL_law 1015 = .ok (.aload_n 0, 1) := by decide +kernel
theorem dL_law_1016 : decode cL_law 1016 = .ok (.iload 4, 2) := by decide +kernel
theorem dL_law_1018 : decode cL_law 1018 = .ok (.iconst 4, 1) := by decide +kernel
theorem dL_law_1019 : decode cL_law 1019 = .ok (.iadd, 1) := by decide +kernel
theorem dL_law_1020 : decode cL_law 1020 = .ok (.iaload, 1) := by decide +kernel
theorem dL_law_1021 : decode cL_law 1021 = .ok (.invokevirtual 124, 3) := by decide +kernel
theorem dL_law_1024 : decode cL_law 1024 = .ok (.istore 6, 2) := by decide +kernel
theorem dL_law_1026 : decode cL_law 1026 = .ok (.aload_n 2, 1) := by decide +kernel
theorem dL_law_1027 : decode cL_law 1027 = .ok (.invokevirtual 84, 3) := by decide +kernel
theorem dL_law_1030 : decode cL_law 1030 = .ok (.iload 5, 2) := by decide +kernel
theorem dL_law_1032 : decode cL_law 1032 = .ok (.if_icmp .eq 5, 3) := by decide +kernel
theorem dL_law_1035 : decode cL_law 1035 = .ok (.iconst 0, 1) := by decide +kernel
theorem dL_law_1036 : decode cL_law 1036 = .ok (.ireturn, 1) := by decide +kernel
theorem dL_law_1037 : decode cL_law 1037 = .ok (.iload 5, 2) := by decide +kernel
theorem dL_law_1039 : decode cL_law 1039 = .ok (.ifCond .ne 15, 3) := by decide +kernel
theorem dL_law_1042 : decode cL_law 1042 = .ok (.aload_n 3, 1) := by decide +kernel
theorem dL_law_1043 : decode cL_law 1043 = .ok (.iconst 0, 1) := by decide +kernel
theorem dL_law_1044 : decode cL_law 1044 = .ok (.laload, 1) := by decide +kernel
theorem dL_law_1045 : decode cL_law 1045 = .ok (.iload 6, 2) := by decide +kernel
theorem dL_law_1047 : decode cL_law 1047 = .ok (.i2l, 1) := by decide +kernel
theorem dL_law_1048 : decode cL_law 1048 = .ok (.lcmp, 1) := by decide +kernel
theorem dL_law_1049 : decode cL_law 1049 = .ok (.ifCond .eq 5, 3) := by decide +kernel
theorem dL_law_1052 : decode cL_law 1052 = .ok (.iconst 0, 1) := by decide +kernel
theorem dL_law_1053 : decode cL_law 1053 = .ok (.ireturn, 1) := by decide +kernel
theorem dL_law_1054 : decode cL_law 1054 = .ok (.goto 427, 3) := by decide +kernel
theorem dL_law_1057 : decode cL_law 1057 = .ok (.aload_n 1, 1) := by decide +kernel
theorem dL_law_1058 : decode cL_law 1058 = .ok (.aload_n 0, 1) := by decide +kernel
theorem dL_law_1059 : decode cL_law 1059 = .ok (.iload 4, 2) := by decide +kernel
theorem dL_law_1061 : decode cL_law 1061 = .ok (.iconst 1, 1) := by decide +kernel
theorem dL_law_1062 : decode cL_law 1062 = .ok (.iadd, 1) := by decide +kernel
theorem dL_law_1063 : decode cL_law 1063 = .ok (.iaload, 1) := by decide +kernel
theorem dL_law_1064 : decode cL_law 1064 = .ok (.aload_n 0, 1) := by decide +kernel
theorem dL_law_1065 : decode cL_law 1065 = .ok (.iload 4, 2) := by decide +kernel
theorem dL_law_1067 : decode cL_law 1067 = .ok (.iconst 2, 1) := by decide +kernel
theorem dL_law_1068 : decode cL_law 1068 = .ok (.iadd, 1) := by decide +kernel
theorem dL_law_1069 : decode cL_law 1069 = .ok (.iaload, 1) := by decide +kernel
theorem dL_law_1070 : decode cL_law 1070 = .ok (.aload_n 0, 1) := by decide +kernel
theorem dL_law_1071 : decode cL_law 1071 = .ok (.iload 4, 2) := by decide +kernel
theorem dL_law_1073 : decode cL_law 1073 = .ok (.iconst 3, 1) := by decide +kernel
theorem dL_law_1074 : decode cL_law 1074 = .ok (.iadd, 1) := by decide +kernel
theorem dL_law_1075 : decode cL_law 1075 = .ok (.iaload, 1) := by decide +kernel
theorem dL_law_1076 : decode cL_law 1076 = .ok (.aload_n 0, 1) := by decide +kernel
theorem dL_law_1077 : decode cL_law 1077 = .ok (.iload 4, 2) := by decide +kernel
theorem dL_law_1079 : decode cL_law 1079 = .ok (.iconst 4, 1) := by decide +kernel
theorem dL_law_1080 : decode cL_law 1080 = .ok (.iadd, 1) := by decide +kernel
theorem dL_law_1081 : decode cL_law 1081 = .ok (.iaload, 1) := by decide +kernel
theorem dL_law_1082 : decode cL_law 1082 = .ok (.aload_n 3, 1) := by decide +kernel
theorem dL_law_1083 : decode cL_law 1083 = .ok (.invokestatic 125, 3) := by decide +kernel
theorem dL_law_1086 : decode cL_law 1086 = .ok (.istore 5, 2) := by decide +kernel
theorem dL_law_1088 : decode cL_law 1088 = .ok (.aload_n 2, 1) := by decide +kernel
theorem dL_law_1089 : decode cL_law 1089 = .ok (.aload_n 0, 1) := by decide +kernel
theorem dL_law_1090 : decode cL_law 1090 = .ok (.iload 4, 2) := by decide +kernel
theorem dL_law_1092 : decode cL_law 1092 = .ok (.iconst 1, 1) := by decide +kernel
theorem dL_law_1093 : decode cL_law 1093 = .ok (.iadd, 1) := by decide +kernel
theorem dL_law_1094 : decode cL_law 1094 = .ok (.iaload, 1) := by decide +kernel
theorem dL_law_1095 : decode cL_law 1095 = .ok (.aload_n 0, 1) := by decide +kernel
theorem dL_law_1096 : decode cL_law 1096 = .ok (.iload 4, 2) := by decide +kernel
theorem dL_law_1098 : decode cL_law 1098 = .ok (.iconst 2, 1) := by decide +kernel
theorem dL_law_1099 : decode cL_law 1099 = .ok (.iadd, 1) := by decide +kernel
theorem dL_law_1100 : decode cL_law 1100 = .ok (.iaload, 1) := by decide +kernel
theorem dL_law_1101 : decode cL_law 1101 = .ok (.aload_n 0, 1) := by decide +kernel
theorem dL_law_1102 : decode cL_law 1102 = .ok (.iload 4, 2) := by decide +kernel
theorem dL_law_1104 : decode cL_law 1104 = .ok (.iconst 3, 1) := by decide +kernel
theorem dL_law_1105 : decode cL_law 1105 = .ok (.iadd, 1) := by decide +kernel
theorem dL_law_1106 : decode cL_law 1106 = .ok (.iaload, 1) := by decide +kernel
theorem dL_law_1107 : decode cL_law 1107 = .ok (.aload_n 0, 1) := by decide +kernel
theorem dL_law_1108 : decode cL_law 1108 = .ok (.iload 4, 2) := by decide +kernel
theorem dL_law_1110 : decode cL_law 1110 = .ok (.iconst 4, 1) := by decide +kernel
theorem dL_law_1111 : decode cL_law 1111 = .ok (.iadd, 1) := by decide +kernel
theorem dL_law_1112 : decode cL_law 1112 = .ok (.iaload, 1) := by decide +kernel
theorem dL_law_1113 : decode cL_law 1113 = .ok (.invokevirtual 127, 3) := by decide +kernel
theorem dL_law_1116 : decode cL_law 1116 = .ok (.istore 6, 2) := by decide +kernel
theorem dL_law_1118 : decode cL_law 1118 = .ok (.aload_n 2, 1) := by decide +kernel
theorem dL_law_1119 : decode cL_law 1119 = .ok (.invokevirtual 84, 3) := by decide +kernel
theorem dL_law_1122 : decode cL_law 1122 = .ok (.iload 5, 2) := by decide +kernel
theorem dL_law_1124 : decode cL_law 1124 = .ok (.if_icmp .eq 5, 3) := by decide +kernel
theorem dL_law_1127 : decode cL_law 1127 = .ok (.iconst 0, 1) := by decide +kernel
theorem dL_law_1128 : decode cL_law 1128 = .ok (.ireturn, 1) := by decide +kernel
theorem dL_law_1129 : decode cL_law 1129 = .ok (.iload 5, 2) := by decide +kernel
theorem dL_law_1131 : decode cL_law 1131 = .ok (.ifCond .ne 15, 3) := by decide +kernel
theorem dL_law_1134 : decode cL_law 1134 = .ok (.aload_n 3, 1) := by decide +kernel
theorem dL_law_1135 : decode cL_law 1135 = .ok (.iconst 0, 1) := by decide +kernel
theorem dL_law_1136 : decode cL_law 1136 = .ok (.laload, 1) := by decide +kernel
theorem dL_law_1137 : decode cL_law 1137 = .ok (.iload 6, 2) := by decide +kernel
theorem dL_law_1139 : decode cL_law 1139 = .ok (.i2l, 1) := by decide +kernel
theorem dL_law_1140 : decode cL_law 1140 = .ok (.lcmp, 1) := by decide +kernel
theorem dL_law_1141 : decode cL_law 1141 = .ok (.ifCond .eq 5, 3) := by decide +kernel
theorem dL_law_1144 : decode cL_law 1144 = .ok (.iconst 0, 1) := by decide +kernel
theorem dL_law_1145 : decode cL_law 1145 = .ok (.ireturn, 1) := by decide +kernel
theorem dL_law_1146 : decode cL_law 1146 = .ok (.goto 335, 3) := by decide +kernel
theorem dL_law_1149 : decode cL_law 1149 = .ok (.aload_n 1, 1) := by decide +kernel
theorem dL_law_1150 : decode cL_law 1150 = .ok (.aload_n 0, 1) := by decide +kernel
theorem dL_law_1151 : decode cL_law 1151 = .ok (.iload 4, 2) := by decide +kernel
theorem dL_law_1153 : decode cL_law 1153 = .ok (.iconst 1, 1) := by decide +kernel
theorem dL_law_1154 : decode cL_law 1154 = .ok (.iadd, 1) := by decide +kernel
theorem dL_law_1155 : decode cL_law 1155 = .ok (.iaload, 1) := by decide +kernel
theorem dL_law_1156 : decode cL_law 1156 = .ok (.aload_n 0, 1) := by decide +kernel
theorem dL_law_1157 : decode cL_law 1157 = .ok (.iload 4, 2) := by decide +kernel
theorem dL_law_1159 : decode cL_law 1159 = .ok (.iconst 2, 1) := by decide +kernel
theorem dL_law_1160 : decode cL_law 1160 = .ok (.iadd, 1) := by decide +kernel
theorem dL_law_1161 : decode cL_law 1161 = .ok (.iaload, 1) := by decide +kernel
theorem dL_law_1162 : decode cL_law 1162 = .ok (.aload_n 3, 1) := by decide +kernel
theorem dL_law_1163 : decode cL_law 1163 = .ok (.invokestatic 128, 3) := by decide +kernel
theorem dL_law_1166 : decode cL_law 1166 = .ok (.istore 5, 2) := by decide +kernel
theorem dL_law_1168 : decode cL_law 1168 = .ok (.aload_n 2, 1) := by decide +kernel
theorem dL_law_1169 : decode cL_law 1169 = .ok (.aload_n 0, 1) := by decide +kernel
theorem dL_law_1170 : decode cL_law 1170 = .ok (.iload 4, 2) := by decide +kernel
theorem dL_law_1172 : decode cL_law 1172 = .ok (.iconst 1, 1) := by decide +kernel
theorem dL_law_1173 : decode cL_law 1173 = .ok (.iadd, 1) := by decide +kernel
theorem dL_law_1174 : decode cL_law 1174 = .ok (.iaload, 1) := by decide +kernel
theorem dL_law_1175 : decode cL_law 1175 = .ok (.aload_n 0, 1) := by decide +kernel
theorem dL_law_1176 : decode cL_law 1176 = .ok (.iload 4, 2) := by decide +kernel
theorem dL_law_1178 : decode cL_law 1178 = .ok (.iconst 2, 1) := by decide +kernel
theorem dL_law_1179 : decode cL_law 1179 = .ok (.iadd, 1) := by decide +kernel
theorem dL_law_1180 : decode cL_law 1180 = .ok (.iaload, 1) := by decide +kernel
theorem dL_law_1181 : decode cL_law 1181 = .ok (.invokevirtual 130, 3) := by decide +kernel
theorem dL_law_1184 : decode cL_law 1184 = .ok (.istore 6, 2) := by decide +kernel
theorem dL_law_1186 : decode cL_law 1186 = .ok (.aload_n 2, 1) := by decide +kernel
theorem dL_law_1187 : decode cL_law 1187 = .ok (.invokevirtual 84, 3) := by decide +kernel
theorem dL_law_1190 : decode cL_law 1190 = .ok (.iload 5, 2) := by decide +kernel
theorem dL_law_1192 : decode cL_law 1192 = .ok (.if_icmp .eq 5, 3) := by decide +kernel
theorem dL_law_1195 : decode cL_law 1195 = .ok (.iconst 0, 1) := by decide +kernel
theorem dL_law_1196 : decode cL_law 1196 = .ok (.ireturn, 1) := by decide +kernel
theorem dL_law_1197 : decode cL_law 1197 = .ok (.iload 5, 2) := by decide +kernel
theorem dL_law_1199 : decode cL_law 1199 = .ok (.ifCond .ne 15, 3) := by decide +kernel
theorem dL_law_1202 : decode cL_law 1202 = .ok (.aload_n 3, 1) := by decide +kernel
theorem dL_law_1203 : decode cL_law 1203 = .ok (.iconst 0, 1) := by decide +kernel
theorem dL_law_1204 : decode cL_law 1204 = .ok (.laload, 1) := by decide +kernel
theorem dL_law_1205 : decode cL_law 1205 = .ok (.iload 6, 2) := by decide +kernel
theorem dL_law_1207 : decode cL_law 1207 = .ok (.i2l, 1) := by decide +kernel
theorem dL_law_1208 : decode cL_law 1208 = .ok (.lcmp, 1) := by decide +kernel
theorem dL_law_1209 : decode cL_law 1209 = .ok (.ifCond .eq 5, 3) := by decide +kernel
theorem dL_law_1212 : decode cL_law 1212 = .ok (.iconst 0, 1) := by decide +kernel
theorem dL_law_1213 : decode cL_law 1213 = .ok (.ireturn, 1) := by decide +kernel
theorem dL_law_1214 : decode cL_law 1214 = .ok (.goto 267, 3) := by decide +kernel
theorem dL_law_1217 : decode cL_law 1217 = .ok (.aload_n 1, 1) := by decide +kernel
theorem dL_law_1218 : decode cL_law 1218 = .ok (.invokevirtual 131, 3) := by decide +kernel
theorem dL_law_1221 : decode cL_law 1221 = .ok (.aload_n 2, 1) := by decide +kernel
theorem dL_law_1222 : decode cL_law 1222 = .ok (.invokevirtual 134, 3) := by decide +kernel
theorem dL_law_1225 : decode cL_law 1225 = .ok (.if_icmp .eq 256, 3) := by decide +kernel
theorem dL_law_1228 : decode cL_law 1228 = .ok (.iconst 0, 1) := by decide +kernel
theorem dL_law_1229 : decode cL_law 1229 = .ok (.ireturn, 1) := by decide +kernel
theorem dL_law_1230 : decode cL_law 1230 = .ok (.aload_n 1, 1) := by decide +kernel
theorem dL_law_1231 : decode cL_law 1231 = .ok (.aload_n 0, 1) := by decide +kernel
theorem dL_law_1232 : decode cL_law 1232 = .ok (.iload 4, 2) := by decide +kernel
theorem dL_law_1234 : decode cL_law 1234 = .ok (.iconst 1, 1) := by decide +kernel
theorem dL_law_1235 : decode cL_law 1235 = .ok (.iadd, 1) := by decide +kernel
theorem dL_law_1236 : decode cL_law 1236 = .ok (.iaload, 1) := by decide +kernel
theorem dL_law_1237 : decode cL_law 1237 = .ok (.aload_n 0, 1) := by decide +kernel
theorem dL_law_1238 : decode cL_law 1238 = .ok (.iload 4, 2) := by decide +kernel
theorem dL_law_1240 : decode cL_law 1240 = .ok (.iconst 2, 1) := by decide +kernel
theorem dL_law_1241 : decode cL_law 1241 = .ok (.iadd, 1) := by decide +kernel
theorem dL_law_1242 : decode cL_law 1242 = .ok (.iaload, 1) := by decide +kernel
theorem dL_law_1243 : decode cL_law 1243 = .ok (.aload_n 3, 1) := by decide +kernel
theorem dL_law_1244 : decode cL_law 1244 = .ok (.invokestatic 135, 3) := by decide +kernel
theorem dL_law_1247 : decode cL_law 1247 = .ok (.istore 5, 2) := by decide +kernel
theorem dL_law_1249 : decode cL_law 1249 = .ok (.aload_n 2, 1) := by decide +kernel
theorem dL_law_1250 : decode cL_law 1250 = .ok (.aload_n 0, 1) := by decide +kernel
theorem dL_law_1251 : decode cL_law 1251 = .ok (.iload 4, 2) := by decide +kernel
theorem dL_law_1253 : decode cL_law 1253 = .ok (.iconst 1, 1) := by decide +kernel
theorem dL_law_1254 : decode cL_law 1254 = .ok (.iadd, 1) := by decide +kernel
theorem dL_law_1255 : decode cL_law 1255 = .ok (.iaload, 1) := by decide +kernel
theorem dL_law_1256 : decode cL_law 1256 = .ok (.aload_n 0, 1) := by decide +kernel
theorem dL_law_1257 : decode cL_law 1257 = .ok (.iload 4, 2) := by decide +kernel
theorem dL_law_1259 : decode cL_law 1259 = .ok (.iconst 2, 1) := by decide +kernel
theorem dL_law_1260 : decode cL_law 1260 = .ok (.iadd, 1) := by decide +kernel
theorem dL_law_1261 : decode cL_law 1261 = .ok (.iaload, 1) := by decide +kernel
theorem dL_law_1262 : decode cL_law 1262 = .ok (.invokevirtual 137, 3) := by decide +kernel
theorem dL_law_1265 : decode cL_law 1265 = .ok (.istore 6, 2) := by decide +kernel
theorem dL_law_1267 : decode cL_law 1267 = .ok (.aload_n 2, 1) := by decide +kernel
theorem dL_law_1268 : decode cL_law 1268 = .ok (.invokevirtual 84, 3) := by decide +kernel
theorem dL_law_1271 : decode cL_law 1271 = .ok (.iload 5, 2) := by decide +kernel
theorem dL_law_1273 : decode cL_law 1273 = .ok (.if_icmp .eq 5, 3) := by decide +kernel
theorem dL_law_1276 : decode cL_law 1276 = .ok (.iconst 0, 1) := by decide +kernel
theorem dL_law_1277 : decode cL_law 1277 = .ok (.ireturn, 1) := by decide +kernel
theorem dL_law_1278 : decode cL_law 1278 = .ok (.iload 5, 2) := by decide +kernel
theorem dL_law_1280 : decode cL_law 1280 = .ok (.ifCond .ne 22, 3) := by decide +kernel
theorem dL_law_1283 : decode cL_law 1283 = .ok (.aload_n 3, 1) := by decide +kernel
theorem dL_law_1284 : decode cL_law 1284 = .ok (.iconst 0, 1) := by decide +kernel
theorem dL_law_1285 : decode cL_law 1285 = .ok (.laload, 1) := by decide +kernel
theorem dL_law_1286 : decode cL_law 1286 = .ok (.iload 6, 2) := by decide +kernel
theorem dL_law_1288 : decode cL_law 1288 = .ok (.ifCond .eq 7, 3) := by decide +kernel
theorem dL_law_1291 : decode cL_law 1291 = .ok (.lconst 1, 1) := by decide +kernel
theorem dL_law_1292 : decode cL_law 1292 = .ok (.goto 4, 3) := by decide +kernel
theorem dL_law_1295 : decode cL_law 1295 = .ok (.lconst 0, 1) := by decide +kernel
theorem dL_law_1296 : decode cL_law 1296 = .ok (.lcmp, 1) := by decide +kernel
theorem dL_law_1297 : decode cL_law 1297 = .ok (.ifCond .eq 5, 3) := by decide +kernel
theorem dL_law_1300 : decode cL_law 1300 = .ok (.iconst 0, 1) := by decide +kernel
theorem dL_law_1301 : decode cL_law 1301 = .ok (.ireturn, 1) := by decide +kernel
theorem dL_law_1302 : decode cL_law 1302 = .ok (.goto 179, 3) := by decide +kernel
theorem dL_law_1305 : decode cL_law 1305 = .ok (.aload_n 1, 1) := by decide +kernel
theorem dL_law_1306 : decode cL_law 1306 = .ok (.invokevirtual 138, 3) := by decide +kernel
theorem dL_law_1309 : decode cL_law 1309 = .ok (.aload_n 2, 1) := by decide +kernel
theorem dL_law_1310 : decode cL_law 1310 = .ok (.invokevirtual 141, 3) := by decide +kernel
theorem dL_law_1313 : decode cL_law 1313 = .ok (.if_icmp .eq 168, 3) := by decide +kernel
theorem dL_law_1316 : decode cL_law 1316 = .ok (.iconst 0, 1) := by decide +kernel
theorem dL_law_1317 : decode cL_law 1317 = .ok (.ireturn, 1) := by decide +kernel
theorem dL_law_1318 : decode cL_law 1318 = .ok (.aload_n 1, 1) := by decide +kernel
theorem dL_law_1319 : decode cL_law 1319 = .ok (.aload_n 0, 1) := by decide +kernel
theorem dL_law_1320 : decode cL_law 1320 = .ok (.iload 4, 2) := by decide +kernel
theorem dL_law_1322 : decode cL_law 1322 = .ok (.iconst 1, 1) := by decide +kernel
theorem dL_law_1323 : decode cL_law 1323 = .ok (.iadd, 1) := by decide +kernel
theorem dL_law_1324 : decode cL_law 1324 = .ok (.iaload, 1) := by decide +kernel
theorem dL_law_1325 : decode cL_law 1325 = .ok (.aload_n 0, 1) := by decide +kernel
theorem dL_law_1326 : decode cL_law 1326 = .ok (.iload 4, 2) := by decide +kernel
theorem dL_law_1328 : decode cL_law 1328 = .ok (.iconst 2, 1) := by decide +kernel
theorem dL_law_1329 : decode cL_law 1329 = .ok (.iadd, 1) := by decide +kernel
theorem dL_law_1330 : decode cL_law 1330 = .ok (.iaload, 1) := by decide +kernel
theorem dL_law_1331 : decode cL_law 1331 = .ok (.aload_n 3, 1) := by decide +kernel
theorem dL_law_1332 : decode cL_law 1332 = .ok (.invokestatic 142, 3) := by decide +kernel
theorem dL_law_1335 : decode cL_law 1335 = .ok (.istore 5, 2) := by decide +kernel
theorem dL_law_1337 : decode cL_law 1337 = .ok (.aload_n 2, 1) := by decide +kernel
theorem dL_law_1338 : decode cL_law 1338 = .ok (.aload_n 0, 1) := by decide +kernel
theorem dL_law_1339 : decode cL_law 1339 = .ok (.iload 4, 2) := by decide +kernel
theorem dL_law_1341 : decode cL_law 1341 = .ok (.iconst 1, 1) := by decide +kernel
theorem dL_law_1342 : decode cL_law 1342 = .ok (.iadd, 1) := by decide +kernel
theorem dL_law_1343 : decode cL_law 1343 = .ok (.iaload, 1) := by decide +kernel
theorem dL_law_1344 : decode cL_law 1344 = .ok (.aload_n 0, 1) := by decide +kernel
theorem dL_law_1345 : decode cL_law 1345 = .ok (.iload 4, 2) := by decide +kernel
theorem dL_law_1347 : decode cL_law 1347 = .ok (.iconst 2, 1) := by decide +kernel
theorem dL_law_1348 : decode cL_law 1348 = .ok (.iadd, 1) := by decide +kernel
theorem dL_law_1349 : decode cL_law 1349 = .ok (.iaload, 1) := by decide +kernel
theorem dL_law_1350 : decode cL_law 1350 = .ok (.invokevirtual 144, 3) := by decide +kernel
theorem dL_law_1353 : decode cL_law 1353 = .ok (.istore 6, 2) := by decide +kernel
theorem dL_law_1355 : decode cL_law 1355 = .ok (.aload_n 2, 1) := by decide +kernel
theorem dL_law_1356 : decode cL_law 1356 = .ok (.invokevirtual 84, 3) := by decide +kernel
theorem dL_law_1359 : decode cL_law 1359 = .ok (.iload 5, 2) := by decide +kernel
theorem dL_law_1361 : decode cL_law 1361 = .ok (.if_icmp .eq 5, 3) := by decide +kernel
theorem dL_law_1364 : decode cL_law 1364 = .ok (.iconst 0, 1) := by decide +kernel
theorem dL_law_1365 : decode cL_law 1365 = .ok (.ireturn, 1) := by decide +kernel
theorem dL_law_1366 : decode cL_law 1366 = .ok (.iload 5, 2) := by decide +kernel
theorem dL_law_1368 : decode cL_law 1368 = .ok (.ifCond .ne 22, 3) := by decide +kernel
theorem dL_law_1371 : decode cL_law 1371 = .ok (.aload_n 3, 1) := by decide +kernel
theorem dL_law_1372 : decode cL_law 1372 = .ok (.iconst 0, 1) := by decide +kernel
theorem dL_law_1373 : decode cL_law 1373 = .ok (.laload, 1) := by decide +kernel
theorem dL_law_1374 : decode cL_law 1374 = .ok (.iload 6, 2) := by decide +kernel
theorem dL_law_1376 : decode cL_law 1376 = .ok (.ifCond .eq 7, 3) := by decide +kernel
theorem dL_law_1379 : decode cL_law 1379 = .ok (.lconst 1, 1) := by decide +kernel
theorem dL_law_1380 : decode cL_law 1380 = .ok (.goto 4, 3) := by decide +kernel
theorem dL_law_1383 : decode cL_law 1383 = .ok (.lconst 0, 1) := by decide +kernel
theorem dL_law_1384 : decode cL_law 1384 = .ok (.lcmp, 1) := by decide +kernel
theorem dL_law_1385 : decode cL_law 1385 = .ok (.ifCond .eq 5, 3) := by decide +kernel
theorem dL_law_1388 : decode cL_law 1388 = .ok (.iconst 0, 1) := by decide +kernel
theorem dL_law_1389 : decode cL_law 1389 = .ok (.ireturn, 1) := by decide +kernel
theorem dL_law_1390 : decode cL_law 1390 = .ok (.goto 91, 3) := by decide +kernel
theorem dL_law_1393 : decode cL_law 1393 = .ok (.aload_n 1, 1) := by decide +kernel
theorem dL_law_1394 : decode cL_law 1394 = .ok (.aload_n 0, 1) := by decide +kernel
theorem dL_law_1395 : decode cL_law 1395 = .ok (.iload 4, 2) := by decide +kernel
theorem dL_law_1397 : decode cL_law 1397 = .ok (.iconst 1, 1) := by decide +kernel
theorem dL_law_1398 : decode cL_law 1398 = .ok (.iadd, 1) := by decide +kernel
theorem dL_law_1399 : decode cL_law 1399 = .ok (.iaload, 1) := by decide +kernel
theorem dL_law_1400 : decode cL_law 1400 = .ok (.aload_n 0, 1) := by decide +kernel
theorem dL_law_1401 : decode cL_law 1401 = .ok (.iload 4, 2) := by decide +kernel
theorem dL_law_1403 : decode cL_law 1403 = .ok (.iconst 2, 1) := by decide +kernel
theorem dL_law_1404 : decode cL_law 1404 = .ok (.iadd, 1) := by decide +kernel
theorem dL_law_1405 : decode cL_law 1405 = .ok (.iaload, 1) := by decide +kernel
theorem dL_law_1406 : decode cL_law 1406 = .ok (.aload_n 3, 1) := by decide +kernel
theorem dL_law_1407 : decode cL_law 1407 = .ok (.invokestatic 145, 3) := by decide +kernel
theorem dL_law_1410 : decode cL_law 1410 = .ok (.istore 5, 2) := by decide +kernel
theorem dL_law_1412 : decode cL_law 1412 = .ok (.aload_n 2, 1) := by decide +kernel
theorem dL_law_1413 : decode cL_law 1413 = .ok (.aload_n 0, 1) := by decide +kernel
theorem dL_law_1414 : decode cL_law 1414 = .ok (.iload 4, 2) := by decide +kernel
theorem dL_law_1416 : decode cL_law 1416 = .ok (.iconst 1, 1) := by decide +kernel
theorem dL_law_1417 : decode cL_law 1417 = .ok (.iadd, 1) := by decide +kernel
theorem dL_law_1418 : decode cL_law 1418 = .ok (.iaload, 1) := by decide +kernel
theorem dL_law_1419 : decode cL_law 1419 = .ok (.aload_n 0, 1) := by decide +kernel
theorem dL_law_1420 : decode cL_law 1420 = .ok (.iload 4, 2) := by decide +kernel
theorem dL_law_1422 : decode cL_law 1422 = .ok (.iconst 2, 1) := by decide +kernel
theorem dL_law_1423 : decode cL_law 1423 = .ok (.iadd, 1) := by decide +kernel
theorem dL_law_1424 : decode cL_law 1424 = .ok (.iaload, 1) := by decide +kernel
theorem dL_law_1425 : decode cL_law 1425 = .ok (.invokevirtual 147, 3) := by decide +kernel
theorem dL_law_1428 : decode cL_law 1428 = .ok (.istore 6, 2) := by decide +kernel
theorem dL_law_1430 : decode cL_law 1430 = .ok (.aload_n 2, 1) := by decide +kernel
theorem dL_law_1431 : decode cL_law 1431 = .ok (.invokevirtual 84, 3) := by decide +kernel
theorem dL_law_1434 : decode cL_law 1434 = .ok (.iload 5, 2) := by decide +kernel
theorem dL_law_1436 : decode cL_law 1436 = .ok (.if_icmp .eq 5, 3) := by decide +kernel
theorem dL_law_1439 : decode cL_law 1439 = .ok (.iconst 0, 1) := by decide +kernel
theorem dL_law_1440 : decode cL_law 1440 = .ok (.ireturn, 1) := by decide +kernel
theorem dL_law_1441 : decode cL_law 1441 = .ok (.iload 5, 2) := by decide +kernel
theorem dL_law_1443 : decode cL_law 1443 = .ok (.ifCond .ne 22, 3) := by decide +kernel
theorem dL_law_1446 : decode cL_law 1446 = .ok (.aload_n 3, 1) := by decide +kernel
theorem dL_law_1447 : decode cL_law 1447 = .ok (.iconst 0, 1) := by decide +kernel
theorem dL_law_1448 : decode cL_law 1448 = .ok (.laload, 1) := by decide +kernel
theorem dL_law_1449 : decode cL_law 1449 = .ok (.iload 6, 2) := by decide +kernel
theorem dL_law_1451 : decode cL_law 1451 = .ok (.ifCond .eq 7, 3) := by decide +kernel
theorem dL_law_1454 : decode cL_law 1454 = .ok (.lconst 1, 1) := by decide +kernel
theorem dL_law_1455 : decode cL_law 1455 = .ok (.goto 4, 3) := by decide +kernel
theorem dL_law_1458 : decode cL_law 1458 = .ok (.lconst 0, 1) := by decide +kernel
theorem dL_law_1459 : decode cL_law 1459 = .ok (.lcmp, 1) := by decide +kernel
theorem dL_law_1460 : decode cL_law 1460 = .ok (.ifCond .eq 5, 3) := by decide +kernel
theorem dL_law_1463 : decode cL_law 1463 = .ok (.iconst 0, 1) := by decide +kernel
theorem dL_law_1464 : decode cL_law 1464 = .ok (.ireturn, 1) := by decide +kernel
theorem dL_law_1465 : decode cL_law 1465 = .ok (.goto 16, 3) := by decide +kernel
theorem dL_law_1468 : decode cL_law 1468 = .ok (.aload_n 1, 1) := by decide +kernel
theorem dL_law_1469 : decode cL_law 1469 = .ok (.invokevirtual 148, 3) := by decide +kernel
theorem dL_law_1472 : decode cL_law 1472 = .ok (.aload_n 2, 1) := by decide +kernel
theorem dL_law_1473 : decode cL_law 1473 = .ok (.invokevirtual 151, 3) := by decide +kernel
theorem dL_law_1476 : decode cL_law 1476 = .ok (.if_icmp .eq 5, 3) := by decide +kernel
theorem dL_law_1479 : decode cL_law 1479 = .ok (.iconst 0, 1) := by decide +kernel
theorem dL_law_1480 : decode cL_law 1480 = .ok (.ireturn, 1) := by decide +kernel
theorem dL_law_1481 : decode cL_law 1481 = .ok (.iinc 4 6, 3) := by decide +kernel
theorem dL_law_1484 : decode cL_law 1484 = .ok (.goto (-1461), 3) := by decide +kernel
theorem dL_law_1487 : decode cL_law 1487 = .ok (.iconst 1, 1) := by decide +kernel
theorem dL_law_1488 : decode cL_law 1488 = .ok (.ireturn, 1) := by decide +kernel
end
section
/-! A WORLD BY LOGICAL PLACES: g says what lies at the place t, ad where the place is in the heap. -/
abbrev qw_G : Type := Nat → Option va_E
def qw_P (D : va_G) (ad : Nat → Nat) (g : qw_G) (H : Heap) : Prop := ∀ (t : Nat) (e : va_E), g t = some e → va_at D vwCl (ad t, e) H
/-- finitely many places, apart in the heap, each of a kind -/
def qw_D (A : Nat → Prop) (ad : Nat → Nat) (g : qw_G) : Prop := (∃ T : List Nat, T.Nodup ∧ ∀ t, g t ≠ none ↔ t ∈ T) ∧ (∀ t u, g t ≠ none → g u ≠ none → ad t = ad u → t = u) ∧ ∀ t, g t ≠ none → A (ad t)
def qw_A (ad : Nat → Nat) (g : qw_G) (sz : Nat) : Nat → Prop := fun q => (∃ t, g t ≠ none ∧ q = ad t) ∨ sz ≤ q
/-- the same places filled -/
def qw_S (g g' : qw_G) : Prop := ∀ t, g' t ≠ none ↔ g t ≠ none
def qw_ls (T : List Nat) (ad : Nat → Nat) (g : qw_G) : va_W := T.map (fun t => (ad t, (g t).getD (.inr (0, []))))
theorem qw_some {g : qw_G} {t : Nat} {e : va_E} (h : g t = some e) : g t ≠ none := by rw [h]; exact fun q => nomatch q
theorem qw_ls_at {T : List Nat} {ad : Nat → Nat} {g : qw_G} {k : Nat} {q : Nat × va_E} (hT : ∀ t, g t ≠ none ↔ t ∈ T) (h : (qw_ls T ad g)[k]? = some q) : ∃ t e, T[k]? = some t ∧ g t = some e ∧ q = (ad t, e) := by
  unfold qw_ls at h
  rw [List.getElem?_map] at h
  cases ht : T[k]? with
  | none => rw [ht] at h; cases h
  | some t =>
    rw [ht] at h
    have hm := (hT t).mpr (List.mem_of_getElem? ht)
    cases hg : g t with
    | none => exact absurd hg hm
    | some e =>
      refine ⟨t, e, rfl, hg, ?_⟩
      have h2 := Option.some.inj h
      rw [← h2]
      show (ad t, (g t).getD _) = _
      rw [hg]
      rfl
theorem qw_ls_get {T : List Nat} {ad : Nat → Nat} {g : qw_G} {t : Nat} {e : va_E} (hT : ∀ t, g t ≠ none ↔ t ∈ T) (h : g t = some e) : ∃ k : Nat, T[k]? = some t ∧ (qw_ls T ad g)[k]? = some (ad t, e) := by
  obtain ⟨k, hk⟩ := List.getElem?_of_mem ((hT t).mp (qw_some h))
  refine ⟨k, hk, ?_⟩
  unfold qw_ls
  rw [List.getElem?_map, hk]
  show some (ad t, (g t).getD _) = _
  rw [h]
  rfl
theorem qw_nd {T : List Nat} (h : T.Nodup) {i j t : Nat} (hi : T[i]? = some t) (hj : T[j]? = some t) : i = j := by
  exact (List.getElem?_inj (List.getElem?_eq_some_iff.mp hi).1 h).mp (hi.trans hj.symm)
theorem qw_open {D : va_G} {A : Nat → Prop} {ad : Nat → Nat} {g : qw_G} {H : Heap} (hP : qw_P D ad g H) (hD : qw_D A ad g) : ∃ ws : va_W, va_P D vwCl ws H ∧ va_D A ws ∧ (∀ t e, g t = some e → ∃ k : Nat, ws[k]? = some (ad t, e)) ∧
    (∀ (t : Nat) (e e' : va_E) (k : Nat) (H1 : Heap), g t = some e → ws[k]? = some (ad t, e) → va_P D vwCl (ws.set k (ad t, e')) H1 → qw_P D ad (va_up g t (some e')) H1) ∧
    (∀ (t q : Nat) (e : va_E) (H1 : Heap), g t = none → va_P D vwCl (ws ++ [(q, e)]) H1 → va_D A (ws ++ [(q, e)]) → qw_P D (va_up ad t q) (va_up g t (some e)) H1 ∧ qw_D A (va_up ad t q) (va_up g t (some e))) := by
  obtain ⟨⟨T, hn, hT⟩, hi, hA⟩ := hD
  have hDl : va_D A (qw_ls T ad g) := by
    refine ⟨fun i j p q h1 h2 h3 => ?_, fun k q h1 => ?_⟩
    · obtain ⟨t, e, a1, a2, rfl⟩ := qw_ls_at hT h1
      obtain ⟨u, e2, b1, b2, rfl⟩ := qw_ls_at hT h2
      have := hi t u (qw_some a2) (qw_some b2) h3
      subst this
      exact qw_nd hn a1 b1
    · obtain ⟨t, e, a1, a2, rfl⟩ := qw_ls_at hT h1
      exact hA t (qw_some a2)
  refine ⟨qw_ls T ad g, fun k q h => ?_, hDl, fun t e h => ?_, ?_, ?_⟩
  · obtain ⟨t, e, a1, a2, rfl⟩ := qw_ls_at hT h
    exact hP t e a2
  · obtain ⟨k, -, hk⟩ := qw_ls_get (ad := ad) hT h
    exact ⟨k, hk⟩
  · intro t e e' k H1 h hk hP1 u e2 hu
    have hl := (List.getElem?_eq_some_iff.mp hk).1
    by_cases hut : u = t
    · subst hut
      rw [va_up_self] at hu
      cases hu
      exact hP1 k _ (List.getElem?_set_self hl)
    · rw [va_up_ne _ _ hut] at hu
      obtain ⟨j, -, hj⟩ := qw_ls_get (ad := ad) hT hu
      refine hP1 j _ ?_
      rw [List.getElem?_set_ne]
      · exact hj
      · intro hkj
        subst hkj
        exact hut (hi u t (qw_some hu) (qw_some h) (congrArg Prod.fst (Option.some.inj (hj.symm.trans hk))))
  · intro t q e H1 h hP1 hD1
    have hlast : ((qw_ls T ad g) ++ [(q, e)])[(qw_ls T ad g).length]? = some (q, e) := by
      rw [List.getElem?_append_right (Nat.le_refl _), Nat.sub_self]; rfl
    have htT : t ∉ T := fun z => (hT t).mpr z h
    have hold : ∀ u, g u ≠ none → u ≠ t := fun u hu z => hu (z ▸ h)
    refine ⟨fun u e2 hu => ?_, ⟨t :: T, List.nodup_cons.mpr ⟨htT, hn⟩, fun u => ?_⟩, fun u v hu hv huv => ?_, fun u hu => ?_⟩
    · by_cases hut : u = t
      · subst hut
        rw [va_up_self] at hu
        cases hu
        have := hP1 _ _ hlast
        rw [va_up_self]
        exact this
      · rw [va_up_ne _ _ hut] at hu
        rw [va_up_ne _ _ hut]
        obtain ⟨j, -, hj⟩ := qw_ls_get (ad := ad) hT hu
        refine hP1 j _ ?_
        rw [List.getElem?_append_left (List.getElem?_eq_some_iff.mp hj).1]
        exact hj
    · by_cases hut : u = t
      · subst hut
        rw [va_up_self]
        exact ⟨fun _ => List.mem_cons_self, fun _ z => nomatch z⟩
      · rw [va_up_ne _ _ hut, hT u, List.mem_cons]
        exact ⟨fun z => Or.inr z, fun z => z.elim (fun z => absurd z hut) id⟩
    · have apart : ∀ u, g u ≠ none → ad u ≠ q := by
        intro u hu huq
        cases hg : g u with
        | none => exact hu hg
        | some e2 =>
          obtain ⟨j, -, hj⟩ := qw_ls_get (ad := ad) hT hg
          have hjl := (List.getElem?_eq_some_iff.mp hj).1
          have h1 : ((qw_ls T ad g) ++ [(q, e)])[j]? = some (ad u, e2) := by rw [List.getElem?_append_left hjl]; exact hj
          have := hD1.1 j _ _ _ h1 hlast huq
          omega
      by_cases hut : u = t <;> by_cases hvt : v = t
      · rw [hut, hvt]
      · exfalso
        subst hut
        rw [va_up_ne _ _ hvt] at hv
        rw [va_up_self, va_up_ne _ _ hvt] at huv
        exact apart v hv huv.symm
      · exfalso
        subst hvt
        rw [va_up_ne _ _ hut] at hu
        rw [va_up_self, va_up_ne _ _ hut] at huv
        exact apart u hu huv
      · rw [va_up_ne _ _ hut] at hu
        rw [va_up_ne _ _ hvt] at hv
        rw [va_up_ne _ _ hut, va_up_ne _ _ hvt] at huv
        exact hi u v hu hv huv
    · by_cases hut : u = t
      · subst hut
        rw [va_up_self]
        exact hD1.2 _ _ hlast
      · rw [va_up_ne _ _ hut] at hu
        rw [va_up_ne _ _ hut]
        exact hA u hu
theorem qw_D.put {A : Nat → Prop} {ad : Nat → Nat} {g : qw_G} {t : Nat} {e e' : va_E} (hD : qw_D A ad g) (h : g t = some e) : qw_D A ad (va_up g t (some e')) := by
  have key : ∀ u, va_up g t (some e') u ≠ none ↔ g u ≠ none := by
    intro u
    by_cases hut : u = t
    · subst hut
      rw [va_up_self]
      exact ⟨fun _ => qw_some h, fun _ z => nomatch z⟩
    · rw [va_up_ne _ _ hut]
  obtain ⟨⟨T, hn, hT⟩, hi, hA⟩ := hD
  exact ⟨⟨T, hn, fun u => (key u).trans (hT u)⟩, fun u v hu hv => hi u v ((key u).mp hu) ((key v).mp hv), fun u hu => hA u ((key u).mp hu)⟩
theorem qw_D.weaken {A B : Nat → Prop} {ad : Nat → Nat} {g : qw_G} (h : qw_D A ad g) (hAB : ∀ t, g t ≠ none → A (ad t) → B (ad t)) : qw_D B ad g := ⟨h.1, h.2.1, fun t ht => hAB t ht (h.2.2 t ht)⟩
theorem qw_D.self {A : Nat → Prop} {ad : Nat → Nat} {g : qw_G} {sz : Nat} (h : qw_D A ad g) : qw_D (qw_A ad g sz) ad g := ⟨h.1, h.2.1, fun t ht => Or.inl ⟨t, ht, rfl⟩⟩
theorem qw_P.kept {D : va_G} {ad : Nat → Nat} {g : qw_G} {H H1 : Heap} (h : qw_P D ad g H) (hq : ∀ t, g t ≠ none → H1[ad t]? = H[ad t]?) : qw_P D ad g H1 := fun t e ht => (h t e ht).kept (hq t (qw_some ht))
/-- the words that stay true whatever is resolved -/
def qw_ok : Cond → Bool
  | .fieldLinkNest .. => true
  | .methodLinkNest .. => true
  | .castable .. => true
  | .declares .. => true
  | w => goodWord w
def qw_Ts : List Cond := lw_tbl.filter qw_ok
theorem qw_warm {w : Cond} (h2 : qw_ok w = true) {args a' : Array Value} {s U : State} (hW : s.WarmedH U.vm) (h : w.before args s = true) : w.before a' U = true := by
  cases w with
  | fieldLinkNest => exact va_Nw.use rfl (va_Nw.warmF hW (va_Nw.of rfl h))
  | methodLinkNest => exact va_Nw.use rfl (va_Nw.warmM hW (va_Nw.of rfl h))
  | castable => exact va_Nw.use rfl (va_Nw.warmC hW (va_Nw.of rfl h))
  | declares => exact va_Nw.use rfl (va_Nw.warmD hW (va_Nw.of rfl h))
  | _ => exact word_at hW (good_of_word h2) h
def qw_tb (w : Cond) : Prop := w ∈ qw_Ts
theorem qw_tbi {w : Cond} (i : Nat) (h : lw_tbl[i]? = some w) (h2 : qw_ok w = true) : qw_tb w := List.mem_filter.mpr ⟨List.mem_of_getElem? h, h2⟩
theorem va_AOA.moved {ty : FieldType} {u U : State} (hvm : u.vm.Alike U.vm) (h : va_AOA ty u) : va_AOA ty U := arrayOver_alikeB hvm h

/-- the array classes: by D.1 from 20 on -/
def qw_ty (D : va_G) : List (ClassId × FieldType) := [(D.1 20, .int), (D.1 21, .boolean), (D.1 22, .long), (D.1 23, .object RX5), (D.1 24, .object RX4), (D.1 25, .object RX1), (D.1 26, .object RX3), (D.1 27, .array .int)]
def qw_E1 : String := "java/lang/IndexOutOfBoundsException"
def qw_E2 : String := "java/lang/IllegalArgumentException"
def qw_E3 : String := "java/lang/IllegalStateException"
def qw_strs : List (Nat × String) := [(207, "no such table"), (41, "no such place or goods"), (48, "amount is out of range"), (57, "there are 120 sales"), (74, "no such sale"), (80, "the sale was taken back"), (215, "no such entry"), (109, "level is out of range"), (111, "hours is out of range"), (116, "there are 40 embargoes"), (122, "no such embargo"), (127, "the embargo does not last"), (213, "no such level"), (151, "it would be behind 10000"), (183, "there is no report")]
/-- what the tables say, at any state of the run -/
def qw_K (D : va_G) (U : State) : Prop := va_K D vwCl (qw_ty D) U ∧ (∀ w ∈ qw_Ts, w.before #[] U = true) ∧ (∀ q ∈ qw_strs, ∃ a, vk_R RX6 q.1 q.2 a U) ∧ (va_Nc qw_E2 qw_E1 U ∧ va_Nc qw_E3 qw_E1 U ∧ va_Nc qw_E3 qw_E2 U) ∧ (va_AO RX5 U ∧ va_AO RX4 U ∧ va_AO RX1 U ∧ va_AO RX3 U ∧ va_AOA .int U)
theorem qw_K.warm {D : va_G} {s U : State} (hW : s.WarmedH U.vm) (h : qw_K D s) : qw_K D U := by
  obtain ⟨h1, h2, h3, ⟨h4, h5, h6⟩, h7, h8, h9, h10, h11⟩ := h
  exact ⟨va_K.moved hW.alike h1, fun w hw => qw_warm (List.mem_filter.mp hw).2 hW (h2 w hw), fun q hq => by obtain ⟨a, ha⟩ := h3 q hq; exact ⟨a, vk_R.warm hW ha⟩, ⟨h4.moved hW.alike, h5.moved hW.alike, h6.moved hW.alike⟩, h7.moved hW.alike, h8.moved hW.alike, h9.moved hW.alike, h10.moved hW.alike, h11.moved hW.alike⟩
theorem qw_K.same {D : va_G} {s U : State} (hv : U.vm = s.vm) (h : qw_K D s) : qw_K D U := h.warm (by rw [hv]; exact State.WarmedH.refl s)
theorem qw_K.use {D : va_G} {s : State} (h : qw_K D s) {args : Array Value} {w : Cond} (hw : qw_tb w) : w.before args s = true := qw_warm (List.mem_filter.mp hw).2 (State.WarmedH.refl s) (h.2.1 w hw)
theorem qw_K.ts {D : va_G} {s : State} (h : qw_K D s) {args : Array Value} : ∀ w ∈ qw_Ts, w.before args s = true := fun _ hw => h.use hw
/-- the two statics that an exception's constructor reads -/
def qw_Z (A : Nat → Prop) (U : State) (H : Heap) : Prop := vx_Zq Bundle.tN "UNASSIGNED_STACK" Bundle.steD A U H ∧ vx_Zq Bundle.tN "SUPPRESSED_SENTINEL" Bundle.listD A U H
theorem qw_Z.moved {A : Nat → Prop} {u U : State} {H : Heap} (hvm : u.vm.Alike U.vm) (h : qw_Z A u H) : qw_Z A U H := ⟨h.1.moved hvm, h.2.moved hvm⟩
theorem qw_Z.kept {A : Nat → Prop} {U : State} {H H1 : Heap} (h : qw_Z A U H) (hq : ∀ a : Nat, a < H.size → ¬ A a → H1[a]? = H[a]?) : qw_Z A U H1 := ⟨h.1.kept hq, h.2.kept hq⟩
theorem qw_Z.narrow {A B : Nat → Prop} {U : State} {H : Heap} (h : qw_Z A U H) (hAB : ∀ q, B q → A q) : qw_Z B U H := ⟨h.1.narrow hAB, h.2.narrow hAB⟩
/-- a contract's start -/
def qw_B (D : va_G) (ad : Nat → Nat) (g : qw_G) (sz : Nat) (U : State) : Prop := U.heap.size = sz ∧ qw_P D ad g U.heap ∧ qw_K D U ∧ qw_D (fun _ => True) ad g ∧ qw_Z (qw_A ad g sz) U U.heap
theorem qw_blind {D : va_G} {ad : Nat → Nat} {g : qw_G} {sz : Nat} {av : List Value} : FrameBlind (va_Pc av (qw_B D ad g sz)) := by
  intro a U f mk h
  obtain ⟨h0, h1, h2, h3, h4, h5⟩ := h
  exact ⟨h0, h1, h2, qw_K.same (s := U) rfl h3, h4, h5.moved (u := U) (U := U.calling f mk a) (Vm.Alike.refl U.vm)⟩
/-- a contract's end: what comes back, the places and what they hold -/
def qw_Q (post : Option Value → (Nat → Nat) → qw_G → Prop) (D : va_G) (A : Nat → Prop) : Array Value → State → Outcome → State → Prop := fun _ st oc t => (∃ (v : Option Value) (ad : Nat → Nat) (g : qw_G), oc = .returned v ∧ post v ad g ∧ qw_P D ad g t.heap ∧ qw_D A ad g) ∧ va_F A st t
/-- .. where it throws: the places hold what they held -/
def qw_X (px : String → Prop) (D : va_G) (A : Nat → Prop) (ad : Nat → Nat) (g : qw_G) : String → State → State → Prop := fun E st t => px E ∧ qw_P D ad g t.heap ∧ va_F A st t
def qw_M (l : Launch) (y : MethodName) (ws : List Cond) (rm : Room) (D : va_G) (ad : Nat → Nat) (g : qw_G) (av : List Value) (post : Option Value → (Nat → Nat) → qw_G → Prop) (mc ms : Nat) : Prop :=
  ∀ sz, Met l y ws rm (va_Pc av (qw_B D ad g sz)) (qw_Q post D (qw_A ad g sz)) mc ms (qw_A ad g sz)
def qw_T (l : Launch) (y : MethodName) (ws : List Cond) (rm : Room) (D : va_G) (ad : Nat → Nat) (g : qw_G) (av : List Value) (post : Option Value → (Nat → Nat) → qw_G → Prop) (px : String → Prop) (mc ms : Nat) : Prop :=
  ∀ sz, vx_Met l y ws rm (va_Pc av (qw_B D ad g sz)) (qw_Q post D (qw_A ad g sz)) (qw_X px D (qw_A ad g sz) ad g) mc ms (qw_A ad g sz)

section QWA
variable {p : Program} {l : Launch} {e : Env} {R : Room} {s : State} {m : MethodId} {args : Array Value} {below : List Frame} {meth : Method} {c : Code}
variable {D : va_G} {A : Nat → Prop} {nL : Nat} {Q : State → Prop} {k n : Nat} {ad : Nat → Nat} {g : qw_G} {pc : Nat} {lv : List (Nat × Value)} {st : List Value}
variable {cc : ByteArray} {own : String} {ret : Option FieldType}
/-- the walk's goal, at any heap that holds the places, any locals that hold lv -/
def qw_W (p : Program) (l : Launch) (e : Env) (R : Room) (s : State) (m : MethodId) (args : Array Value) (below : List Frame) (meth : Method) (c : Code) (D : va_G) (A : Nat → Prop) (nL : Nat) (Q : State → Prop) (k n : Nat) (ad : Nat → Nat) (g : qw_G) (pc : Nat) (lv : List (Nat × Value)) (st : List Value) : Prop :=
  ∀ (H : Heap) (locs : List Loc) (ls : Array Slot), qw_P D ad g H → qw_D A ad g → va_S A s.heap H locs → lv_has ls nL lv → W p l e R s m args below meth c H locs k n Q (F0 m pc ls st)
/-- .. with an exception of the class E over the frame -/
def qw_V (p : Program) (l : Launch) (e : Env) (R : Room) (s : State) (m : MethodId) (args : Array Value) (below : List Frame) (meth : Method) (c : Code) (D : va_G) (A : Nat → Prop) (nL : Nat) (Q : State → Prop) (k n : Nat) (ad : Nat → Nat) (g : qw_G) (pc : Nat) (lv : List (Nat × Value)) (st : List Value) (E : String) : Prop :=
  ∀ (H : Heap) (locs : List Loc) (ls : Array Slot) (ce : Cell) (q : Addr), qw_P D ad g H → qw_D A ad g → va_S A s.heap H locs → lv_has ls nL lv → H[q]? = some ce → ce.vm = .none → s.vm.findClass E = some ce.cls → vx_W p l e R s m args below meth c H locs k n Q (F0 m pc ls st) q
/-- what stays the same in a body -/
def qw_C (p : Program) (l : Launch) (s : State) (m : MethodId) (args : Array Value) (meth : Method) (c : Code) (D : va_G) (A : Nat → Prop) (nL : Nat) (cc : ByteArray) (own : String) (ret : Option FieldType) : Prop :=
  p.tables.exec = Jvm.exec ∧ c.code = cc ∧ c.maxLocals = nL ∧ s.vm.findClass own = some m.cls ∧ qw_K D s ∧ (∀ q, s.heap.size ≤ q → A q) ∧ qw_Z A s s.heap ∧ meth.locks = false ∧ meth.sig.returnType = ret ∧ l.stackTraces = false
theorem qw_widen {k' n' : Nat} (h1 : k ≤ k') (h2 : n ≤ n') (kk : qw_W p l e R s m args below meth c D A nL Q k' n' ad g pc lv st) : qw_W p l e R s m args below meth c D A nL Q k n ad g pc lv st := fun H locs ls hP hD hS hl => W.widen h1 h2 (kk H locs ls hP hD hS hl)
/-- other words for the same state -/
theorem qw_to {ad' : Nat → Nat} {g' : qw_G} {lv' : List (Nat × Value)} {st' : List Value} (h1 : ad = ad') (h2 : g = g') (h3 : lv = lv') (h4 : st = st') (kk : qw_W p l e R s m args below meth c D A nL Q k n ad' g' pc lv' st') : qw_W p l e R s m args below meth c D A nL Q k n ad g pc lv st := by subst h1; subst h2; subst h3; subst h4; exact kk
theorem qw_pick (ks : List Nat) {lv' : List (Nat × Value)} (h : lv_pick lv ks = lv') (kk : qw_W p l e R s m args below meth c D A nL Q k n ad g pc lv' st) : qw_W p l e R s m args below meth c D A nL Q k n ad g pc lv st := fun H locs ls hP hD hS hl => kk H locs ls hP hD hS (lv_sub hl ks h)

theorem qr_iconst (C : qw_C p l s m args meth c D A nL cc own ret) {z : Int} {v : Int32} (hd : decode cc pc = .ok (.iconst z, 1)) (hv : Int32.ofInt z = v) (kk : qw_W p l e R s m args below meth c D A nL Q k n ad g (pc + 1) lv (.int v :: st)) : qw_W p l e R s m args below meth c D A nL Q k n ad g pc lv st := fun H locs ls hP hD hS hl => lv_iconst C.1 C.2.1 hd hv (kk H locs ls hP hD hS hl)
theorem qr_bipush (C : qw_C p l s m args meth c D A nL cc own ret) {z : Int} {v : Int32} (hd : decode cc pc = .ok (.bipush z, 2)) (hv : (Int8.ofInt z).toInt32 = v) (kk : qw_W p l e R s m args below meth c D A nL Q k n ad g (pc + 2) lv (.int v :: st)) : qw_W p l e R s m args below meth c D A nL Q k n ad g pc lv st := fun H locs ls hP hD hS hl => lv_bipush C.1 C.2.1 hd hv (kk H locs ls hP hD hS hl)
theorem qr_sipush (C : qw_C p l s m args meth c D A nL cc own ret) {z : Int} {v : Int32} (hd : decode cc pc = .ok (.sipush z, 3)) (hv : (Int16.ofInt z).toInt32 = v) (kk : qw_W p l e R s m args below meth c D A nL Q k n ad g (pc + 3) lv (.int v :: st)) : qw_W p l e R s m args below meth c D A nL Q k n ad g pc lv st := fun H locs ls hP hD hS hl => lv_sipush C.1 C.2.1 hd hv (kk H locs ls hP hD hS hl)
theorem qr_lconst (C : qw_C p l s m args meth c D A nL cc own ret) {z : Fin 2} {v : Int64} (hd : decode cc pc = .ok (.lconst z, 1)) (hv : Int64.ofNat (z : Nat) = v) (kk : qw_W p l e R s m args below meth c D A nL Q k n ad g (pc + 1) lv (.long v :: st)) : qw_W p l e R s m args below meth c D A nL Q k n ad g pc lv st := fun H locs ls hP hD hS hl => lv_lconst C.1 C.2.1 hd hv (kk H locs ls hP hD hS hl)
theorem qr_ldc (C : qw_C p l s m args meth c D A nL cc own ret) {ix : Nat} {v : Int32} (hc : Jvm.Cond.constant own ix v ∈ qw_Ts) (hd : decode cc pc = .ok (.ldc ix, 2)) (kk : qw_W p l e R s m args below meth c D A nL Q k n ad g (pc + 2) lv (.int v :: st)) : qw_W p l e R s m args below meth c D A nL Q k n ad g pc lv st := fun H locs ls hP hD hS hl => lv_ldc C.1 C.2.1 C.2.2.2.1 (C.2.2.2.2.1.use hc) hd (kk H locs ls hP hD hS hl)
theorem qr_ldcw (C : qw_C p l s m args meth c D A nL cc own ret) {ix : Nat} {v : Int32} (hc : Jvm.Cond.constant own ix v ∈ qw_Ts) (hd : decode cc pc = .ok (.ldc_w ix, 3)) (kk : qw_W p l e R s m args below meth c D A nL Q k n ad g (pc + 3) lv (.int v :: st)) : qw_W p l e R s m args below meth c D A nL Q k n ad g pc lv st := fun H locs ls hP hD hS hl => lv_ldcw C.1 C.2.1 C.2.2.2.1 (C.2.2.2.2.1.use hc) hd (kk H locs ls hP hD hS hl)
theorem qr_iload_n (C : qw_C p l s m args meth c D A nL cc own ret) {j : Fin 4} {i : Nat} {x : Int32} (hd : decode cc pc = .ok (.iload_n j, 1)) (hj : (j : Nat) = i) (w : Nat) (hw : lv[w]? = some (i, .int x)) (kk : qw_W p l e R s m args below meth c D A nL Q k n ad g (pc + 1) lv (.int x :: st)) : qw_W p l e R s m args below meth c D A nL Q k n ad g pc lv st := fun H locs ls hP hD hS hl => lv_iload_n C.1 C.2.1 hd hj (lv_at hl w hw) (kk H locs ls hP hD hS hl)
theorem qr_iload (C : qw_C p l s m args meth c D A nL cc own ret) {i : Nat} {x : Int32} (hd : decode cc pc = .ok (.iload i, 2)) (w : Nat) (hw : lv[w]? = some (i, .int x)) (kk : qw_W p l e R s m args below meth c D A nL Q k n ad g (pc + 2) lv (.int x :: st)) : qw_W p l e R s m args below meth c D A nL Q k n ad g pc lv st := fun H locs ls hP hD hS hl => lv_iload C.1 C.2.1 hd (lv_at hl w hw) (kk H locs ls hP hD hS hl)
theorem qr_aload_n (C : qw_C p l s m args meth c D A nL cc own ret) {j : Fin 4} {i : Nat} {x : Nat} (hd : decode cc pc = .ok (.aload_n j, 1)) (hj : (j : Nat) = i) (w : Nat) (hw : lv[w]? = some (i, .ref x)) (kk : qw_W p l e R s m args below meth c D A nL Q k n ad g (pc + 1) lv (.ref x :: st)) : qw_W p l e R s m args below meth c D A nL Q k n ad g pc lv st := fun H locs ls hP hD hS hl => lv_aload_n C.1 C.2.1 hd hj (lv_at hl w hw) (kk H locs ls hP hD hS hl)
theorem qr_aload (C : qw_C p l s m args meth c D A nL cc own ret) {i : Nat} {x : Nat} (hd : decode cc pc = .ok (.aload i, 2)) (w : Nat) (hw : lv[w]? = some (i, .ref x)) (kk : qw_W p l e R s m args below meth c D A nL Q k n ad g (pc + 2) lv (.ref x :: st)) : qw_W p l e R s m args below meth c D A nL Q k n ad g pc lv st := fun H locs ls hP hD hS hl => lv_aload C.1 C.2.1 hd (lv_at hl w hw) (kk H locs ls hP hD hS hl)
theorem qr_istore_n (C : qw_C p l s m args meth c D A nL cc own ret) {j : Fin 4} {i : Nat} {x : Int32} {lv' : List (Nat × Value)} (hd : decode cc pc = .ok (.istore_n j, 1)) (hj : (j : Nat) = i) (hn : i < nL) (h : ((i, Value.int x) :: lv.filter (fun q => !(q.1 == i) && !(q.1 + 1 == i && q.2.category == 2))) = lv') (kk : qw_W p l e R s m args below meth c D A nL Q k n ad g (pc + 1) lv' st) : qw_W p l e R s m args below meth c D A nL Q k n ad g pc lv (.int x :: st) := fun H locs ls hP hD hS hl => lv_istore_n C.1 C.2.1 hd hj hl hn h (fun ls2 hl2 => kk H locs ls2 hP hD hS hl2)
theorem qr_istore (C : qw_C p l s m args meth c D A nL cc own ret) {i : Nat} {x : Int32} {lv' : List (Nat × Value)} (hd : decode cc pc = .ok (.istore i, 2)) (hn : i < nL) (h : ((i, Value.int x) :: lv.filter (fun q => !(q.1 == i) && !(q.1 + 1 == i && q.2.category == 2))) = lv') (kk : qw_W p l e R s m args below meth c D A nL Q k n ad g (pc + 2) lv' st) : qw_W p l e R s m args below meth c D A nL Q k n ad g pc lv (.int x :: st) := fun H locs ls hP hD hS hl => lv_istore C.1 C.2.1 hd hl hn h (fun ls2 hl2 => kk H locs ls2 hP hD hS hl2)
theorem qr_astore_n (C : qw_C p l s m args meth c D A nL cc own ret) {j : Fin 4} {i : Nat} {x : Nat} {lv' : List (Nat × Value)} (hd : decode cc pc = .ok (.astore_n j, 1)) (hj : (j : Nat) = i) (hn : i < nL) (h : ((i, Value.ref x) :: lv.filter (fun q => !(q.1 == i) && !(q.1 + 1 == i && q.2.category == 2))) = lv') (kk : qw_W p l e R s m args below meth c D A nL Q k n ad g (pc + 1) lv' st) : qw_W p l e R s m args below meth c D A nL Q k n ad g pc lv (.ref x :: st) := fun H locs ls hP hD hS hl => lv_astore_n C.1 C.2.1 hd hj hl hn h (fun ls2 hl2 => kk H locs ls2 hP hD hS hl2)
theorem qr_astore (C : qw_C p l s m args meth c D A nL cc own ret) {i : Nat} {x : Nat} {lv' : List (Nat × Value)} (hd : decode cc pc = .ok (.astore i, 2)) (hn : i < nL) (h : ((i, Value.ref x) :: lv.filter (fun q => !(q.1 == i) && !(q.1 + 1 == i && q.2.category == 2))) = lv') (kk : qw_W p l e R s m args below meth c D A nL Q k n ad g (pc + 2) lv' st) : qw_W p l e R s m args below meth c D A nL Q k n ad g pc lv (.ref x :: st) := fun H locs ls hP hD hS hl => lv_astore C.1 C.2.1 hd hl hn h (fun ls2 hl2 => kk H locs ls2 hP hD hS hl2)
theorem qr_iinc (C : qw_C p l s m args meth c D A nL cc own ret) {i w : Nat} {z : Int} {x v : Int32} {lv' : List (Nat × Value)} (hd : decode cc pc = .ok (.iinc i z, 3)) (hw : lv[w]? = some (i, .int x)) (hv : x + Int32.ofInt z = v) (hn : i < nL) (h : ((i, Value.int v) :: lv.filter (fun q => !(q.1 == i) && !(q.1 + 1 == i && q.2.category == 2))) = lv') (kk : qw_W p l e R s m args below meth c D A nL Q k n ad g (pc + 3) lv' st) : qw_W p l e R s m args below meth c D A nL Q k n ad g pc lv st := fun H locs ls hP hD hS hl => lv_iinc C.1 C.2.1 hd hl hw hv hn h (fun ls2 hl2 => kk H locs ls2 hP hD hS hl2)
theorem qr_iadd (C : qw_C p l s m args meth c D A nL cc own ret) {x y : Int32} (hd : decode cc pc = .ok (.iadd, 1)) (kk : qw_W p l e R s m args below meth c D A nL Q k n ad g (pc + 1) lv (.int (x + y) :: st)) : qw_W p l e R s m args below meth c D A nL Q k n ad g pc lv (.int y :: .int x :: st) := fun H locs ls hP hD hS hl => lv_iadd C.1 C.2.1 hd (kk H locs ls hP hD hS hl)
theorem qr_isub (C : qw_C p l s m args meth c D A nL cc own ret) {x y : Int32} (hd : decode cc pc = .ok (.isub, 1)) (kk : qw_W p l e R s m args below meth c D A nL Q k n ad g (pc + 1) lv (.int (x - y) :: st)) : qw_W p l e R s m args below meth c D A nL Q k n ad g pc lv (.int y :: .int x :: st) := fun H locs ls hP hD hS hl => lv_isub C.1 C.2.1 hd (kk H locs ls hP hD hS hl)
theorem qr_imul (C : qw_C p l s m args meth c D A nL cc own ret) {x y : Int32} (hd : decode cc pc = .ok (.imul, 1)) (kk : qw_W p l e R s m args below meth c D A nL Q k n ad g (pc + 1) lv (.int (x * y) :: st)) : qw_W p l e R s m args below meth c D A nL Q k n ad g pc lv (.int y :: .int x :: st) := fun H locs ls hP hD hS hl => lv_imul C.1 C.2.1 hd (kk H locs ls hP hD hS hl)
theorem qr_iand (C : qw_C p l s m args meth c D A nL cc own ret) {x y : Int32} (hd : decode cc pc = .ok (.iand, 1)) (kk : qw_W p l e R s m args below meth c D A nL Q k n ad g (pc + 1) lv (.int (x &&& y) :: st)) : qw_W p l e R s m args below meth c D A nL Q k n ad g pc lv (.int y :: .int x :: st) := fun H locs ls hP hD hS hl => lv_iand C.1 C.2.1 hd (kk H locs ls hP hD hS hl)
theorem qr_ior (C : qw_C p l s m args meth c D A nL cc own ret) {x y : Int32} (hd : decode cc pc = .ok (.ior, 1)) (kk : qw_W p l e R s m args below meth c D A nL Q k n ad g (pc + 1) lv (.int (x ||| y) :: st)) : qw_W p l e R s m args below meth c D A nL Q k n ad g pc lv (.int y :: .int x :: st) := fun H locs ls hP hD hS hl => lv_ior C.1 C.2.1 hd (kk H locs ls hP hD hS hl)
theorem qr_ixor (C : qw_C p l s m args meth c D A nL cc own ret) {x y : Int32} (hd : decode cc pc = .ok (.ixor, 1)) (kk : qw_W p l e R s m args below meth c D A nL Q k n ad g (pc + 1) lv (.int (x ^^^ y) :: st)) : qw_W p l e R s m args below meth c D A nL Q k n ad g pc lv (.int y :: .int x :: st) := fun H locs ls hP hD hS hl => lv_ixor C.1 C.2.1 hd (kk H locs ls hP hD hS hl)
theorem qr_ishl (C : qw_C p l s m args meth c D A nL cc own ret) {x y : Int32} (hd : decode cc pc = .ok (.ishl, 1)) (kk : qw_W p l e R s m args below meth c D A nL Q k n ad g (pc + 1) lv (.int (x <<< (y &&& 31)) :: st)) : qw_W p l e R s m args below meth c D A nL Q k n ad g pc lv (.int y :: .int x :: st) := fun H locs ls hP hD hS hl => lv_ishl C.1 C.2.1 hd (kk H locs ls hP hD hS hl)
theorem qr_ishr (C : qw_C p l s m args meth c D A nL cc own ret) {x y : Int32} (hd : decode cc pc = .ok (.ishr, 1)) (kk : qw_W p l e R s m args below meth c D A nL Q k n ad g (pc + 1) lv (.int (x >>> (y &&& 31)) :: st)) : qw_W p l e R s m args below meth c D A nL Q k n ad g pc lv (.int y :: .int x :: st) := fun H locs ls hP hD hS hl => lv_ishr C.1 C.2.1 hd (kk H locs ls hP hD hS hl)
theorem qr_idiv (C : qw_C p l s m args meth c D A nL cc own ret) {x y : Int32} (hd : decode cc pc = .ok (.idiv, 1)) (hne : ¬ y = 0) (kk : qw_W p l e R s m args below meth c D A nL Q k n ad g (pc + 1) lv (.int (x / y) :: st)) : qw_W p l e R s m args below meth c D A nL Q k n ad g pc lv (.int y :: .int x :: st) := fun H locs ls hP hD hS hl => lv_idiv C.1 C.2.1 hd hne (kk H locs ls hP hD hS hl)
theorem qr_irem (C : qw_C p l s m args meth c D A nL cc own ret) {x y : Int32} (hd : decode cc pc = .ok (.irem, 1)) (hne : ¬ y = 0) (kk : qw_W p l e R s m args below meth c D A nL Q k n ad g (pc + 1) lv (.int (x - x / y * y) :: st)) : qw_W p l e R s m args below meth c D A nL Q k n ad g pc lv (.int y :: .int x :: st) := fun H locs ls hP hD hS hl => lv_irem C.1 C.2.1 hd hne (kk H locs ls hP hD hS hl)
theorem qr_iushr (C : qw_C p l s m args meth c D A nL cc own ret) {x y : Int32} (hd : decode cc pc = .ok (.iushr, 1)) (kk : qw_W p l e R s m args below meth c D A nL Q k n ad g (pc + 1) lv (.int ((x.toUInt32 >>> (y.toUInt32 &&& Int32.toUInt32 31)).toInt32) :: st)) : qw_W p l e R s m args below meth c D A nL Q k n ad g pc lv (.int y :: .int x :: st) := fun H locs ls hP hD hS hl => lv_iushr C.1 C.2.1 hd rfl (kk H locs ls hP hD hS hl)
theorem qr_ineg (C : qw_C p l s m args meth c D A nL cc own ret) {x : Int32} (hd : decode cc pc = .ok (.ineg, 1)) (kk : qw_W p l e R s m args below meth c D A nL Q k n ad g (pc + 1) lv (.int (-x) :: st)) : qw_W p l e R s m args below meth c D A nL Q k n ad g pc lv (.int x :: st) := fun H locs ls hP hD hS hl => lv_ineg C.1 C.2.1 hd (kk H locs ls hP hD hS hl)
theorem qr_i2l (C : qw_C p l s m args meth c D A nL cc own ret) {x : Int32} (hd : decode cc pc = .ok (.i2l, 1)) (kk : qw_W p l e R s m args below meth c D A nL Q k n ad g (pc + 1) lv (.long x.toInt64 :: st)) : qw_W p l e R s m args below meth c D A nL Q k n ad g pc lv (.int x :: st) := fun H locs ls hP hD hS hl => lv_i2l C.1 C.2.1 hd rfl (kk H locs ls hP hD hS hl)
theorem qr_lcmp (C : qw_C p l s m args meth c D A nL cc own ret) {x y : Int64} (hd : decode cc pc = .ok (.lcmp, 1)) (kk : qw_W p l e R s m args below meth c D A nL Q k n ad g (pc + 1) lv (.int (lg_cmp x y) :: st)) : qw_W p l e R s m args below meth c D A nL Q k n ad g pc lv (.long y :: .long x :: st) := fun H locs ls hP hD hS hl => W.lcmp C.1 C.2.1 hd (kk H locs ls hP hD hS hl)
theorem qr_dup (C : qw_C p l s m args meth c D A nL cc own ret) {v : Value} (hd : decode cc pc = .ok (.dup, 1)) (hv : v.category = 1) (kk : qw_W p l e R s m args below meth c D A nL Q k n ad g (pc + 1) lv (v :: v :: st)) : qw_W p l e R s m args below meth c D A nL Q k n ad g pc lv (v :: st) := fun H locs ls hP hD hS hl => lv_dup C.1 C.2.1 hd hv (kk H locs ls hP hD hS hl)
theorem qr_pop (C : qw_C p l s m args meth c D A nL cc own ret) {v : Value} (hd : decode cc pc = .ok (.pop, 1)) (hv : v.category = 1) (kk : qw_W p l e R s m args below meth c D A nL Q k n ad g (pc + 1) lv st) : qw_W p l e R s m args below meth c D A nL Q k n ad g pc lv (v :: st) := fun H locs ls hP hD hS hl => lv_pop C.1 C.2.1 hd hv (kk H locs ls hP hD hS hl)
theorem qr_dup_x1 (C : qw_C p l s m args meth c D A nL cc own ret) {v u : Value} (hd : decode cc pc = .ok (.dup_x1, 1)) (hv : v.category = 1) (hu : u.category = 1) (kk : qw_W p l e R s m args below meth c D A nL Q k n ad g (pc + 1) lv (v :: u :: v :: st)) : qw_W p l e R s m args below meth c D A nL Q k n ad g pc lv (v :: u :: st) := fun H locs ls hP hD hS hl => lv_dup_x1 C.1 C.2.1 hd hv hu (kk H locs ls hP hD hS hl)
theorem qr_dup2 (C : qw_C p l s m args meth c D A nL cc own ret) {v u : Value} (hd : decode cc pc = .ok (.dup2, 1)) (hv : v.category = 1) (hu : u.category = 1) (kk : qw_W p l e R s m args below meth c D A nL Q k n ad g (pc + 1) lv (v :: u :: v :: u :: st)) : qw_W p l e R s m args below meth c D A nL Q k n ad g pc lv (v :: u :: st) := fun H locs ls hP hD hS hl => lv_dup2_11 C.1 C.2.1 hd hv hu (kk H locs ls hP hD hS hl)
theorem qr_goto (C : qw_C p l s m args meth c D A nL cc own ret) {off : Int} {tgt : Nat} (hd : decode cc pc = .ok (.goto off, 3)) (ht : (pc : Int) + off = (tgt : Int)) (kk : qw_W p l e R s m args below meth c D A nL Q k n ad g tgt lv st) : qw_W p l e R s m args below meth c D A nL Q k n ad g pc lv st := fun H locs ls hP hD hS hl => lv_goto C.1 C.2.1 hd ht (kk H locs ls hP hD hS hl)
theorem qr_if_eq (C : qw_C p l s m args meth c D A nL cc own ret) {x : Int32} {off : Int} (tgt : Nat) (hd : decode cc pc = .ok (.ifCond .eq off, 3)) (ht : (pc : Int) + off = (tgt : Int)) (kt : x = 0 → qw_W p l e R s m args below meth c D A nL Q k n ad g tgt lv st) (kf : ¬ x = 0 → qw_W p l e R s m args below meth c D A nL Q k n ad g (pc + 3) lv st) : qw_W p l e R s m args below meth c D A nL Q k n ad g pc lv (.int x :: st) := fun H locs ls hP hD hS hl => lv_if_eq C.1 C.2.1 hd ht (fun z => kt z H locs ls hP hD hS hl) (fun z => kf z H locs ls hP hD hS hl)
theorem qr_icmp_eq (C : qw_C p l s m args meth c D A nL cc own ret) {x y : Int32} {off : Int} (tgt : Nat) (hd : decode cc pc = .ok (.if_icmp .eq off, 3)) (ht : (pc : Int) + off = (tgt : Int)) (kt : x = y → qw_W p l e R s m args below meth c D A nL Q k n ad g tgt lv st) (kf : ¬ x = y → qw_W p l e R s m args below meth c D A nL Q k n ad g (pc + 3) lv st) : qw_W p l e R s m args below meth c D A nL Q k n ad g pc lv (.int y :: .int x :: st) := fun H locs ls hP hD hS hl => lv_icmp_eq C.1 C.2.1 hd ht (fun z => kt z H locs ls hP hD hS hl) (fun z => kf z H locs ls hP hD hS hl)
theorem qr_if_ne (C : qw_C p l s m args meth c D A nL cc own ret) {x : Int32} {off : Int} (tgt : Nat) (hd : decode cc pc = .ok (.ifCond .ne off, 3)) (ht : (pc : Int) + off = (tgt : Int)) (kt : ¬ x = 0 → qw_W p l e R s m args below meth c D A nL Q k n ad g tgt lv st) (kf : x = 0 → qw_W p l e R s m args below meth c D A nL Q k n ad g (pc + 3) lv st) : qw_W p l e R s m args below meth c D A nL Q k n ad g pc lv (.int x :: st) := fun H locs ls hP hD hS hl => lv_if_ne C.1 C.2.1 hd ht (fun z => kt z H locs ls hP hD hS hl) (fun z => kf z H locs ls hP hD hS hl)
theorem qr_icmp_ne (C : qw_C p l s m args meth c D A nL cc own ret) {x y : Int32} {off : Int} (tgt : Nat) (hd : decode cc pc = .ok (.if_icmp .ne off, 3)) (ht : (pc : Int) + off = (tgt : Int)) (kt : ¬ x = y → qw_W p l e R s m args below meth c D A nL Q k n ad g tgt lv st) (kf : x = y → qw_W p l e R s m args below meth c D A nL Q k n ad g (pc + 3) lv st) : qw_W p l e R s m args below meth c D A nL Q k n ad g pc lv (.int y :: .int x :: st) := fun H locs ls hP hD hS hl => lv_icmp_ne C.1 C.2.1 hd ht (fun z => kt z H locs ls hP hD hS hl) (fun z => kf z H locs ls hP hD hS hl)
theorem qr_if_lt (C : qw_C p l s m args meth c D A nL cc own ret) {x : Int32} {off : Int} (tgt : Nat) (hd : decode cc pc = .ok (.ifCond .lt off, 3)) (ht : (pc : Int) + off = (tgt : Int)) (kt : x < 0 → qw_W p l e R s m args below meth c D A nL Q k n ad g tgt lv st) (kf : ¬ x < 0 → qw_W p l e R s m args below meth c D A nL Q k n ad g (pc + 3) lv st) : qw_W p l e R s m args below meth c D A nL Q k n ad g pc lv (.int x :: st) := fun H locs ls hP hD hS hl => lv_if_lt C.1 C.2.1 hd ht (fun z => kt z H locs ls hP hD hS hl) (fun z => kf z H locs ls hP hD hS hl)
theorem qr_icmp_lt (C : qw_C p l s m args meth c D A nL cc own ret) {x y : Int32} {off : Int} (tgt : Nat) (hd : decode cc pc = .ok (.if_icmp .lt off, 3)) (ht : (pc : Int) + off = (tgt : Int)) (kt : x < y → qw_W p l e R s m args below meth c D A nL Q k n ad g tgt lv st) (kf : ¬ x < y → qw_W p l e R s m args below meth c D A nL Q k n ad g (pc + 3) lv st) : qw_W p l e R s m args below meth c D A nL Q k n ad g pc lv (.int y :: .int x :: st) := fun H locs ls hP hD hS hl => lv_icmp_lt C.1 C.2.1 hd ht (fun z => kt z H locs ls hP hD hS hl) (fun z => kf z H locs ls hP hD hS hl)
theorem qr_if_ge (C : qw_C p l s m args meth c D A nL cc own ret) {x : Int32} {off : Int} (tgt : Nat) (hd : decode cc pc = .ok (.ifCond .ge off, 3)) (ht : (pc : Int) + off = (tgt : Int)) (kt : 0 ≤ x → qw_W p l e R s m args below meth c D A nL Q k n ad g tgt lv st) (kf : ¬ 0 ≤ x → qw_W p l e R s m args below meth c D A nL Q k n ad g (pc + 3) lv st) : qw_W p l e R s m args below meth c D A nL Q k n ad g pc lv (.int x :: st) := fun H locs ls hP hD hS hl => lv_if_ge C.1 C.2.1 hd ht (fun z => kt z H locs ls hP hD hS hl) (fun z => kf z H locs ls hP hD hS hl)
theorem qr_icmp_ge (C : qw_C p l s m args meth c D A nL cc own ret) {x y : Int32} {off : Int} (tgt : Nat) (hd : decode cc pc = .ok (.if_icmp .ge off, 3)) (ht : (pc : Int) + off = (tgt : Int)) (kt : y ≤ x → qw_W p l e R s m args below meth c D A nL Q k n ad g tgt lv st) (kf : ¬ y ≤ x → qw_W p l e R s m args below meth c D A nL Q k n ad g (pc + 3) lv st) : qw_W p l e R s m args below meth c D A nL Q k n ad g pc lv (.int y :: .int x :: st) := fun H locs ls hP hD hS hl => lv_icmp_ge C.1 C.2.1 hd ht (fun z => kt z H locs ls hP hD hS hl) (fun z => kf z H locs ls hP hD hS hl)
theorem qr_if_gt (C : qw_C p l s m args meth c D A nL cc own ret) {x : Int32} {off : Int} (tgt : Nat) (hd : decode cc pc = .ok (.ifCond .gt off, 3)) (ht : (pc : Int) + off = (tgt : Int)) (kt : 0 < x → qw_W p l e R s m args below meth c D A nL Q k n ad g tgt lv st) (kf : ¬ 0 < x → qw_W p l e R s m args below meth c D A nL Q k n ad g (pc + 3) lv st) : qw_W p l e R s m args below meth c D A nL Q k n ad g pc lv (.int x :: st) := fun H locs ls hP hD hS hl => lv_if_gt C.1 C.2.1 hd ht (fun z => kt z H locs ls hP hD hS hl) (fun z => kf z H locs ls hP hD hS hl)
theorem qr_icmp_gt (C : qw_C p l s m args meth c D A nL cc own ret) {x y : Int32} {off : Int} (tgt : Nat) (hd : decode cc pc = .ok (.if_icmp .gt off, 3)) (ht : (pc : Int) + off = (tgt : Int)) (kt : y < x → qw_W p l e R s m args below meth c D A nL Q k n ad g tgt lv st) (kf : ¬ y < x → qw_W p l e R s m args below meth c D A nL Q k n ad g (pc + 3) lv st) : qw_W p l e R s m args below meth c D A nL Q k n ad g pc lv (.int y :: .int x :: st) := fun H locs ls hP hD hS hl => lv_icmp_gt C.1 C.2.1 hd ht (fun z => kt z H locs ls hP hD hS hl) (fun z => kf z H locs ls hP hD hS hl)
theorem qr_if_le (C : qw_C p l s m args meth c D A nL cc own ret) {x : Int32} {off : Int} (tgt : Nat) (hd : decode cc pc = .ok (.ifCond .le off, 3)) (ht : (pc : Int) + off = (tgt : Int)) (kt : x ≤ 0 → qw_W p l e R s m args below meth c D A nL Q k n ad g tgt lv st) (kf : ¬ x ≤ 0 → qw_W p l e R s m args below meth c D A nL Q k n ad g (pc + 3) lv st) : qw_W p l e R s m args below meth c D A nL Q k n ad g pc lv (.int x :: st) := fun H locs ls hP hD hS hl => lv_if_le C.1 C.2.1 hd ht (fun z => kt z H locs ls hP hD hS hl) (fun z => kf z H locs ls hP hD hS hl)
theorem qr_icmp_le (C : qw_C p l s m args meth c D A nL cc own ret) {x y : Int32} {off : Int} (tgt : Nat) (hd : decode cc pc = .ok (.if_icmp .le off, 3)) (ht : (pc : Int) + off = (tgt : Int)) (kt : x ≤ y → qw_W p l e R s m args below meth c D A nL Q k n ad g tgt lv st) (kf : ¬ x ≤ y → qw_W p l e R s m args below meth c D A nL Q k n ad g (pc + 3) lv st) : qw_W p l e R s m args below meth c D A nL Q k n ad g pc lv (.int y :: .int x :: st) := fun H locs ls hP hD hS hl => lv_icmp_le C.1 C.2.1 hd ht (fun z => kt z H locs ls hP hD hS hl) (fun z => kf z H locs ls hP hD hS hl)
theorem qr_topi {x : Int32} (kk : ∀ y : Int32, y = x → qw_W p l e R s m args below meth c D A nL Q k n ad g pc lv (.int y :: st)) : qw_W p l e R s m args below meth c D A nL Q k n ad g pc lv (.int x :: st) := kk x rfl
end QWA
end
section
section QWB
variable {p : Program} {l : Launch} {e : Env} {R : Room} {s : State} {m : MethodId} {args : Array Value} {below : List Frame} {meth : Method} {c : Code}
variable {D : va_G} {A : Nat → Prop} {nL : Nat} {Q : State → Prop} {k n : Nat} {ad : Nat → Nat} {g : qw_G} {pc : Nat} {lv : List (Nat × Value)} {st : List Value}
variable {cc : ByteArray} {own : String} {ret : Option FieldType}

theorem qw_one {D : va_G} {a : Nat} {e : va_E} {H : Heap} (h : va_at D vwCl (a, e) H) : va_P D vwCl [(a, e)] H := by
  intro k q hk
  cases k with
  | zero => cases hk; exact h
  | succ k => simp at hk
theorem qw_two {D : va_G} {a b : Nat} {e e2 : va_E} {H : Heap} (h : va_at D vwCl (a, e) H) (h2 : va_at D vwCl (b, e2) H) : va_P D vwCl [(a, e), (b, e2)] H := by
  intro k q hk
  cases k with
  | zero => cases hk; exact h
  | succ k =>
    cases k with
    | zero => cases hk; exact h2
    | succ k => simp at hk
/-- a class's numbers, once for all -/
def qw_ci (ci : Nat) (Cn : String) (T : u_T) (N : Nat) : Prop := (∀ w ∈ u_ws Cn T N, w ∈ qw_Ts) ∧ vwCl[ci]? = some (Cn, T, N)
theorem qr_get (C : qw_C p l s m args meth c D A nL cc own ret) {T : u_T} {N ci ix a : Nat} {Cn : String} (h0 : qw_ci ci Cn T N) (j : Nat) (hj : j < N) (hw : qw_tb (.fieldLink own ix (T j).1 (T j).2.1 (T j).2.2.1)) {fs : List Value} {v : Value} (t : Nat) (hg : g t = some (.inr (ci, fs))) (ha : ad t = a) (hv : fs[j]? = some v) (hd : decode cc pc = .ok (.getfield ix, 3)) (kk : qw_W p l e R s m args below meth c D A nL Q k n ad g (pc + 3) lv (v :: st)) : qw_W p l e R s m args below meth c D A nL Q k n ad g pc lv (.ref a :: st) := by
  subst ha
  intro H locs ls hP hD hS hl
  exact va_get (D := D) (ws := [(ad t, .inr (ci, fs))]) C.1 C.2.1 (C.2.2.2.2.1.ts) h0.1 C.2.2.2.1 C.2.2.2.2.1.1 (qw_one (hP t _ hg)) 0 rfl h0.2 j hj (C.2.2.2.2.1.use hw) (fun _ h => h) hv hd (kk H locs ls hP hD hS hl)
theorem qr_getN (C : qw_C p l s m args meth c D A nL cc own ret) {T : u_T} {N ci ix a : Nat} {Cn host : String} (h0 : qw_ci ci Cn T N) (j : Nat) (hj : j < N) (hw : qw_tb (.fieldLinkNest own ix (T j).1 (T j).2.1 (T j).2.2.1 host)) {fs : List Value} {v : Value} (t : Nat) (hg : g t = some (.inr (ci, fs))) (ha : ad t = a) (hv : fs[j]? = some v) (hd : decode cc pc = .ok (.getfield ix, 3)) (kk : qw_W p l e R s m args below meth c D A nL Q k n ad g (pc + 3) lv (v :: st)) : qw_W p l e R s m args below meth c D A nL Q k n ad g pc lv (.ref a :: st) := by
  subst ha
  intro H locs ls hP hD hS hl
  exact va_getN (D := D) (ws := [(ad t, .inr (ci, fs))]) C.1 C.2.1 (C.2.2.2.2.1.ts) h0.1 C.2.2.2.1 C.2.2.2.2.1.1 (qw_one (hP t _ hg)) 0 rfl h0.2 j hj (C.2.2.2.2.1.use hw) (fun _ h => h) hv hd (kk H locs ls hP hD hS hl)
theorem qr_put (C : qw_C p l s m args meth c D A nL cc own ret) {T : u_T} {N ci ix a : Nat} {Cn : String} (h0 : qw_ci ci Cn T N) (tyf : Nat → FieldType) (hty : ∀ i, i < N → parseFieldDescriptor (T i).2.2.1 = some (tyf i)) (hnm : ∀ a, a < N → ∀ b, b < N → a ≠ b → (T a).2.1 ≠ (T b).2.1) (j : Nat) (hj : j < N) (hw : qw_tb (.fieldLink own ix (T j).1 (T j).2.1 (T j).2.2.1)) (hfin : (T j).2.2.2 = false) {ty : FieldType} (hdd : parseFieldDescriptor (T j).2.2.1 = some ty) {fs fs' : List Value} {v : Value} (t : Nat) (hg : g t = some (.inr (ci, fs))) (ha : ad t = a) (hn : narrow ty v = v) (hfit : fits ty v = true) (hl0 : j < fs.length) (hfs : fs.set j v = fs') (hd : decode cc pc = .ok (.putfield ix, 3)) (kk : qw_W p l e R s m args below meth c D A nL Q k n ad (va_up g t (some (.inr (ci, fs')))) (pc + 3) lv st) : qw_W p l e R s m args below meth c D A nL Q k n ad g pc lv (v :: .ref a :: st) := by
  subst ha
  subst hfs
  intro H locs ls hP hD hS hl
  obtain ⟨ws, hPw, hDw, hget, hput, -⟩ := qw_open hP hD
  obtain ⟨w, hk⟩ := hget t _ hg
  exact va_put C.1 C.2.1 (C.2.2.2.2.1.ts) h0.1 tyf hty hnm C.2.2.2.1 C.2.2.2.2.1.1 hPw hDw hS w hk h0.2 j hj (C.2.2.2.2.1.use hw) (fun _ h => h) hfin hdd hn hfit hl0 hd (fun H1 locs1 hP1 hD1 hS1 => kk H1 locs1 ls (hput t _ _ w H1 hg hk hP1) (hD.put hg) hS1 hl)
theorem qr_putN (C : qw_C p l s m args meth c D A nL cc own ret) {T : u_T} {N ci ix a : Nat} {Cn host : String} (h0 : qw_ci ci Cn T N) (tyf : Nat → FieldType) (hty : ∀ i, i < N → parseFieldDescriptor (T i).2.2.1 = some (tyf i)) (hnm : ∀ a, a < N → ∀ b, b < N → a ≠ b → (T a).2.1 ≠ (T b).2.1) (j : Nat) (hj : j < N) (hw : qw_tb (.fieldLinkNest own ix (T j).1 (T j).2.1 (T j).2.2.1 host)) (hfin : (T j).2.2.2 = false) {ty : FieldType} (hdd : parseFieldDescriptor (T j).2.2.1 = some ty) {fs fs' : List Value} {v : Value} (t : Nat) (hg : g t = some (.inr (ci, fs))) (ha : ad t = a) (hn : narrow ty v = v) (hfit : fits ty v = true) (hl0 : j < fs.length) (hfs : fs.set j v = fs') (hd : decode cc pc = .ok (.putfield ix, 3)) (kk : qw_W p l e R s m args below meth c D A nL Q k n ad (va_up g t (some (.inr (ci, fs')))) (pc + 3) lv st) : qw_W p l e R s m args below meth c D A nL Q k n ad g pc lv (v :: .ref a :: st) := by
  subst ha
  subst hfs
  intro H locs ls hP hD hS hl
  obtain ⟨ws, hPw, hDw, hget, hput, -⟩ := qw_open hP hD
  obtain ⟨w, hk⟩ := hget t _ hg
  exact va_putN C.1 C.2.1 (C.2.2.2.2.1.ts) h0.1 tyf hty hnm C.2.2.2.1 C.2.2.2.2.1.1 hPw hDw hS w hk h0.2 j hj (C.2.2.2.2.1.use hw) (fun _ h => h) hfin hdd hn hfit hl0 hd (fun H1 locs1 hP1 hD1 hS1 => kk H1 locs1 ls (hput t _ _ w H1 hg hk hP1) (hD.put hg) hS1 hl)
theorem qr_putF (C : qw_C p l s m args meth c D A nL cc own ret) {T : u_T} {N ci ix a : Nat} {Cn : String} (h0 : qw_ci ci Cn T N) (tyf : Nat → FieldType) (hty : ∀ i, i < N → parseFieldDescriptor (T i).2.2.1 = some (tyf i)) (hnm : ∀ a, a < N → ∀ b, b < N → a ≠ b → (T a).2.1 ≠ (T b).2.1) (j : Nat) (hj : j < N) (hw : qw_tb (.fieldLink own ix (T j).1 (T j).2.1 (T j).2.2.1)) (hfin : (T j).2.2.2 = true) (hin2 : meth.name = "<init>") (hdecl : (T j).1 = own) {ty : FieldType} (hdd : parseFieldDescriptor (T j).2.2.1 = some ty) {fs fs' : List Value} {v : Value} (t : Nat) (hg : g t = some (.inr (ci, fs))) (ha : ad t = a) (hn : narrow ty v = v) (hfit : fits ty v = true) (hl0 : j < fs.length) (hfs : fs.set j v = fs') (hd : decode cc pc = .ok (.putfield ix, 3)) (kk : qw_W p l e R s m args below meth c D A nL Q k n ad (va_up g t (some (.inr (ci, fs')))) (pc + 3) lv st) : qw_W p l e R s m args below meth c D A nL Q k n ad g pc lv (v :: .ref a :: st) := by
  subst ha
  subst hfs
  intro H locs ls hP hD hS hl
  obtain ⟨ws, hPw, hDw, hget, hput, -⟩ := qw_open hP hD
  obtain ⟨w, hk⟩ := hget t _ hg
  exact va_putF C.1 C.2.1 (C.2.2.2.2.1.ts) h0.1 tyf hty hnm C.2.2.2.1 C.2.2.2.2.1.1 hPw hDw hS w hk h0.2 j hj (C.2.2.2.2.1.use hw) (fun _ h => h) hfin hin2 hdecl hdd hn hfit hl0 hd (fun H1 locs1 hP1 hD1 hS1 => kk H1 locs1 ls (hput t _ _ w H1 hg hk hP1) (hD.put hg) hS1 hl)
theorem qw_in {i : Int32} {j n0 : Nat} (hi : i = nI j) (hj : j < n0) (h0 : Nat.ble n0 2147483647 = true) : vp_in i n0 ∧ i.toNatClampNeg = j := by
  have h1 : n0 ≤ 2147483647 := Nat.le_of_ble_eq_true h0
  subst hi
  exact ⟨vp_in_nI hj (by omega), nI_clamp (by omega)⟩
theorem qr_iald (C : qw_C p l s m args meth c D A nL cc own ret) {n0 j a : Nat} {f : Nat → Int32} {i : Int32} {x : Int32} (t : Nat) (hg : g t = some (.inl (D.1 20, n0, .inl f))) (ha : ad t = a) (hi : i = nI j) (hj : j < n0) (h0 : Nat.ble n0 2147483647 = true) (hx : f j = x) (hd : decode cc pc = .ok (.iaload, 1)) (kk : qw_W p l e R s m args below meth c D A nL Q k n ad g (pc + 1) lv (.int x :: st)) : qw_W p l e R s m args below meth c D A nL Q k n ad g pc lv (.int i :: .ref a :: st) := by
  subst ha
  obtain ⟨h1, h2⟩ := qw_in hi hj h0
  intro H locs ls hP hD hS hl
  refine va_iald (D := D) (ws := [(ad t, .inl (D.1 20, n0, .inl f))]) C.1 C.2.1 C.2.2.2.2.1.1 (qw_one (hP t _ hg)) 0 0 rfl rfl h1 hd ?_
  rw [h2, hx]
  exact kk H locs ls hP hD hS hl
theorem qr_zald (C : qw_C p l s m args meth c D A nL cc own ret) {n0 j a : Nat} {f : Nat → Int32} {i : Int32} {x : Int32} (t : Nat) (hg : g t = some (.inl (D.1 21, n0, .inl f))) (ha : ad t = a) (hi : i = nI j) (hj : j < n0) (h0 : Nat.ble n0 2147483647 = true) (hx : f j = x) (hd : decode cc pc = .ok (.baload, 1)) (kk : qw_W p l e R s m args below meth c D A nL Q k n ad g (pc + 1) lv (.int x :: st)) : qw_W p l e R s m args below meth c D A nL Q k n ad g pc lv (.int i :: .ref a :: st) := by
  subst ha
  obtain ⟨h1, h2⟩ := qw_in hi hj h0
  intro H locs ls hP hD hS hl
  refine va_zald (D := D) (ws := [(ad t, .inl (D.1 21, n0, .inl f))]) C.1 C.2.1 C.2.2.2.2.1.1 (qw_one (hP t _ hg)) 0 1 rfl rfl h1 hd ?_
  rw [h2, hx]
  exact kk H locs ls hP hD hS hl
theorem qr_lald (C : qw_C p l s m args meth c D A nL cc own ret) {n0 j a : Nat} {f : Nat → Int64} {i : Int32} {x : Int64} (t : Nat) (hg : g t = some (.inl (D.1 22, n0, .inr (.inl f)))) (ha : ad t = a) (hi : i = nI j) (hj : j < n0) (h0 : Nat.ble n0 2147483647 = true) (hx : f j = x) (hd : decode cc pc = .ok (.laload, 1)) (kk : qw_W p l e R s m args below meth c D A nL Q k n ad g (pc + 1) lv (.long x :: st)) : qw_W p l e R s m args below meth c D A nL Q k n ad g pc lv (.int i :: .ref a :: st) := by
  subst ha
  obtain ⟨h1, h2⟩ := qw_in hi hj h0
  intro H locs ls hP hD hS hl
  refine va_lald (D := D) (ws := [(ad t, .inl (D.1 22, n0, .inr (.inl f)))]) C.1 C.2.1 C.2.2.2.2.1.1 (qw_one (hP t _ hg)) 0 2 rfl rfl h1 hd ?_
  rw [h2, hx]
  exact kk H locs ls hP hD hS hl
theorem qr_aald (C : qw_C p l s m args meth c D A nL cc own ret) {n0 j a b : Nat} {f : Nat → Option Nat} {i : Int32} (t0 : Nat) {cA : ClassId} {ty : FieldType} (ht : (qw_ty D)[t0]? = some (cA, ty)) (hr : ty.isReference = true) (t : Nat) (hg : g t = some (.inl (cA, n0, .inr (.inr (.inr (.inr f)))))) (ha : ad t = a) (hi : i = nI j) (hj : j < n0) (h0 : Nat.ble n0 2147483647 = true) (hb : f j = some b) (hd : decode cc pc = .ok (.aaload, 1)) (kk : qw_W p l e R s m args below meth c D A nL Q k n ad g (pc + 1) lv (.ref b :: st)) : qw_W p l e R s m args below meth c D A nL Q k n ad g pc lv (.int i :: .ref a :: st) := by
  subst ha
  obtain ⟨h1, h2⟩ := qw_in hi hj h0
  intro H locs ls hP hD hS hl
  have hlt : i.toNatClampNeg < n0 := by rw [h2]; exact hj
  refine W.aald (v := va_rf (f i.toNatClampNeg)) (ty := ty) C.1 C.2.1 (hP t _ hg) ((C.2.2.2.2.1.1.2 t0 _ ht).1 n0 (fun j => va_rf (f j))) hr (fun q => by cases q) (by show ¬ (i < 0 ∨ (arrV _ _ _).slots.size ≤ _); rw [arrV_size]; exact h1) (by show (arrV _ _ _).slots[_]? = _; rw [arrV_read _ _ hlt]) rfl rfl hd ?_
  rw [h2, hb]
  exact kk H locs ls hP hD hS hl
theorem qr_iast (C : qw_C p l s m args meth c D A nL cc own ret) {n0 j a : Nat} {f : Nat → Int32} {i : Int32} {x : Int32} (t : Nat) (hg : g t = some (.inl (D.1 20, n0, .inl f))) (ha : ad t = a) (hi : i = nI j) (hj : j < n0) (h0 : Nat.ble n0 2147483647 = true) (hd : decode cc pc = .ok (.iastore, 1)) (kk : qw_W p l e R s m args below meth c D A nL Q k n ad (va_up g t (some (.inl (D.1 20, n0, .inl (upd f j x))))) (pc + 1) lv st) : qw_W p l e R s m args below meth c D A nL Q k n ad g pc lv (.int x :: .int i :: .ref a :: st) := by
  subst ha
  obtain ⟨h1, h2⟩ := qw_in hi hj h0
  intro H locs ls hP hD hS hl
  obtain ⟨ws, hPw, hDw, hget, hput, -⟩ := qw_open hP hD
  obtain ⟨w, hk⟩ := hget t _ hg
  refine va_iast C.1 C.2.1 C.2.2.2.2.1.1 hPw hDw hS w 0 hk rfl h1 hd (fun H1 locs1 hP1 hD1 hS1 => ?_)
  rw [h2] at hP1
  exact kk H1 locs1 ls (hput t _ _ w H1 hg hk hP1) (hD.put hg) hS1 hl
theorem qr_last (C : qw_C p l s m args meth c D A nL cc own ret) {n0 j a : Nat} {f : Nat → Int64} {i : Int32} {x : Int64} (t : Nat) (hg : g t = some (.inl (D.1 22, n0, .inr (.inl f)))) (ha : ad t = a) (hi : i = nI j) (hj : j < n0) (h0 : Nat.ble n0 2147483647 = true) (hd : decode cc pc = .ok (.lastore, 1)) (kk : qw_W p l e R s m args below meth c D A nL Q k n ad (va_up g t (some (.inl (D.1 22, n0, .inr (.inl (vp_updL f j x)))))) (pc + 1) lv st) : qw_W p l e R s m args below meth c D A nL Q k n ad g pc lv (.long x :: .int i :: .ref a :: st) := by
  subst ha
  obtain ⟨h1, h2⟩ := qw_in hi hj h0
  intro H locs ls hP hD hS hl
  obtain ⟨ws, hPw, hDw, hget, hput, -⟩ := qw_open hP hD
  obtain ⟨w, hk⟩ := hget t _ hg
  refine va_last C.1 C.2.1 C.2.2.2.2.1.1 hPw hDw hS w 2 hk rfl h1 hd (fun H1 locs1 hP1 hD1 hS1 => ?_)
  rw [h2] at hP1
  exact kk H1 locs1 ls (hput t _ _ w H1 hg hk hP1) (hD.put hg) hS1 hl
theorem qw_b01 {x : Int32} (h : x = 0 ∨ x = 1) : vp_nar .boolean x = x ∧ narrow .boolean (.int x) = .int x ∧ fits .boolean (.int x) = true := by
  rcases h with rfl | rfl <;> decide
theorem qr_zast (C : qw_C p l s m args meth c D A nL cc own ret) {n0 j a : Nat} {f : Nat → Int32} {i x : Int32} (t : Nat) (hg : g t = some (.inl (D.1 21, n0, .inl f))) (ha : ad t = a) (hi : i = nI j) (hj : j < n0) (h0 : Nat.ble n0 2147483647 = true) (hx : x = 0 ∨ x = 1) (hd : decode cc pc = .ok (.bastore, 1)) (kk : qw_W p l e R s m args below meth c D A nL Q k n ad (va_up g t (some (.inl (D.1 21, n0, .inl (upd f j x))))) (pc + 1) lv st) : qw_W p l e R s m args below meth c D A nL Q k n ad g pc lv (.int x :: .int i :: .ref a :: st) := by
  subst ha
  obtain ⟨h1, h2⟩ := qw_in hi hj h0
  intro H locs ls hP hD hS hl
  obtain ⟨ws, hPw, hDw, hget, hput, -⟩ := qw_open hP hD
  obtain ⟨w, hk⟩ := hget t _ hg
  refine va_zast C.1 C.2.1 C.2.2.2.2.1.1 hPw hDw hS w 1 hk rfl h1 hd (fun H1 locs1 hP1 hD1 hS1 => ?_)
  rw [h2, (qw_b01 hx).1] at hP1
  exact kk H1 locs1 ls (hput t _ _ w H1 hg hk hP1) (hD.put hg) hS1 hl
theorem qr_aast (C : qw_C p l s m args meth c D A nL cc own ret) {n0 j a b ci : Nat} {f : Nat → Option Nat} {i : Int32} (t0 : Nat) {cA : ClassId} {r : vw_C} (ht : (qw_ty D)[t0]? = some (cA, .object r.1)) (hc : vwCl[ci]? = some r) (t u : Nat) {vs : List Value} (hg : g t = some (.inl (cA, n0, .inr (.inr (.inr (.inr f)))))) (ha : ad t = a) (hu : g u = some (.inr (ci, vs))) (hb : ad u = b) (hi : i = nI j) (hj : j < n0) (h0 : Nat.ble n0 2147483647 = true) (hd : decode cc pc = .ok (.aastore, 1)) (kk : qw_W p l e R s m args below meth c D A nL Q k n ad (va_up g t (some (.inl (cA, n0, .inr (.inr (.inr (.inr (va_up f j (some b))))))))) (pc + 1) lv st) : qw_W p l e R s m args below meth c D A nL Q k n ad g pc lv (.ref b :: .int i :: .ref a :: st) := by
  subst ha
  subst hb
  obtain ⟨h1, h2⟩ := qw_in hi hj h0
  intro H locs ls hP hD hS hl
  obtain ⟨ws, hPw, hDw, hget, hput, -⟩ := qw_open hP hD
  obtain ⟨w, hk⟩ := hget t _ hg
  obtain ⟨w2, hk2⟩ := hget u _ hu
  refine va_astq C.1 C.2.1 C.2.2.2.2.1.1 hPw hDw hS w t0 w2 ci hk ht hk2 hc h1 hd (fun H1 locs1 hP1 hD1 hS1 => ?_)
  rw [h2] at hP1
  exact kk H1 locs1 ls (hput t _ _ w H1 hg hk hP1) (hD.put hg) hS1 hl
theorem qr_copy (C : qw_C p l s m args meth c D A nL cc own ret) {ix a b n0 n1 j : Nat} {f f2 : Nat → Int32} {x : Int32} (hw : qw_tb (.methodLink own ix arraycopyName)) (hw1 : qw_tb (.native arraycopyName)) (hw2 : qw_tb (.static arraycopyName)) (hw3 : qw_tb (.initialized "java/lang/System")) (t u : Nat) (hg : g t = some (.inl (D.1 20, n0, .inl f))) (ha : ad t = a) (hu : g u = some (.inl (D.1 20, n1, .inl f2))) (hb : ad u = b) (hi : x = nI j) (h0 : j ≤ n0) (h1 : j ≤ n1) (h2 : Nat.ble n0 2147483647 = true) (hfr : 1 ≤ R.frames) (hlo : (st.map fun v => v.category).sum + (nativeFrameWords "java/lang/System" "arraycopy" 5 + 11) ≤ R.locals) (hd : decode cc pc = .ok (.invokestatic ix, 3)) (kk : qw_W p l e R s m args below meth c D A nL Q k n ad (va_up g u (some (.inl (D.1 20, n1, .inl (va_cpy f f2 0 0 j))))) (pc + 3) lv st) : qw_W p l e R s m args below meth c D A nL Q k n ad g pc lv (.int x :: .int 0 :: .ref b :: .int 0 :: .ref a :: st) := by
  subst ha
  subst hb
  have h3 : n0 ≤ 2147483647 := Nat.le_of_ble_eq_true h2
  have hx : x.toNatClampNeg = j := by rw [hi]; exact nI_clamp (by omega)
  have hx0 : ¬ x < 0 := by rw [hi]; exact nI_pos (by omega)
  intro H locs ls hP hD hS hl
  obtain ⟨ws, hPw, hDw, hget, hput, -⟩ := qw_open hP hD
  obtain ⟨w, hk⟩ := hget t _ hg
  obtain ⟨w2, hk2⟩ := hget u _ hu
  refine va_copyi (ty := .int) C.1 C.2.1 (by rw [C.2.2.1]; exact hl.1.symm) C.2.2.2.1 (C.2.2.2.2.1.use hw) (C.2.2.2.2.1.use hw1) (C.2.2.2.2.1.use hw2) (C.2.2.2.2.1.use hw3) C.2.2.2.2.1.1 hPw hDw hS w w2 0 0 hk hk2 rfl rfl rfl (by decide) (by decide) hx0 (by rw [hx]; exact (by show 0 + j ≤ n0; omega)) (by rw [hx]; exact (by show 0 + j ≤ n1; omega)) (fun i _ => rfl) hfr hlo hd (fun H1 locs1 hP1 hD1 hS1 => ?_)
  rw [hx] at hP1
  exact kk H1 locs1 ls (hput u _ _ w2 H1 hu hk2 hP1) (hD.put hu) hS1 hl
theorem qw_cls {U : State} {x y : ClassId} {nm : String} (h1 : U.vm.findClass nm = some x) (h2 : U.vm.findClass nm = some y) : x = y := Option.some.inj (h1.symm.trans h2)
theorem qr_new (C : qw_C p l s m args meth c D A nL cc own ret) {T : u_T} {N ci ix : Nat} {Cn : String} (h0 : qw_ci ci Cn T N) (tyf : Nat → FieldType) (hty : ∀ i, i < N → parseFieldDescriptor (T i).2.2.1 = some (tyf i)) (hw : qw_tb (.classLink own ix Cn)) (hw1 : qw_tb (.instantiable Cn N)) (hw2 : qw_tb (.initialized Cn)) (fs : List Value) (hfs : ∀ j, j < N → defaultValue (tyf j) = vp_V fs j) (t : Nat) (hf : g t = none) (hk : k + 1 ≤ R.cells) (hn : n + N ≤ R.slots) (hd : decode cc pc = .ok (.new ix, 3)) (kk : ∀ q, qw_W p l e R s m args below meth c D A nL Q (k + 1) (n + N) (va_up ad t q) (va_up g t (some (.inr (ci, fs)))) (pc + 3) lv (.ref q :: st)) : qw_W p l e R s m args below meth c D A nL Q k n ad g pc lv st := by
  intro H locs ls hP hD hS hl
  obtain ⟨ws, hPw, hDw, -, -, hpush⟩ := qw_open hP hD
  refine va_new C.1 C.2.1 (C.2.2.2.2.1.ts) h0.1 tyf hty C.2.2.2.1 (C.2.2.2.2.1.use hw) (C.2.2.2.2.1.use hw1) (C.2.2.2.2.1.use hw2) C.2.2.2.2.1.1 hPw hDw hS C.2.2.2.2.2.1 h0.2 hfs hk hn hd (fun q H1 hP1 hD1 hS1 => ?_)
  obtain ⟨a1, a2⟩ := hpush t q _ H1 hf hP1 hD1
  exact kk q H1 locs ls a1 a2 hS1 hl
theorem qr_newI (C : qw_C p l s m args meth c D A nL cc own ret) {N : Nat} {x : Int32} (hw : qw_tb (.arrayClass .int)) (hx : x = nI N) (hN : Nat.ble N 10000 = true) (t : Nat) (hf : g t = none) (hk : k + 1 ≤ R.cells) (hn : n + N ≤ R.slots) (hd : decode cc pc = .ok (.newarray .int, 2)) (kk : ∀ q, qw_W p l e R s m args below meth c D A nL Q (k + 1) (n + N) (va_up ad t q) (va_up g t (some (.inl (D.1 20, N, .inl (fun _ => 0))))) (pc + 2) lv (.ref q :: st)) : qw_W p l e R s m args below meth c D A nL Q k n ad g pc lv (.int x :: st) := by
  have hN2 : N ≤ 10000 := Nat.le_of_ble_eq_true hN
  intro H locs ls hP hD hS hl
  obtain ⟨ws, hPw, hDw, -, -, hpush⟩ := qw_open hP hD
  refine va_newa (atype := .int) (a0 := (N, .inl (fun _ => 0))) C.1 C.2.1 (C.2.2.2.2.1.use hw) rfl C.2.2.2.2.1.1 hPw hDw hS C.2.2.2.2.2.1 (fun _ => rfl) (by rw [hx]; exact nI_pos (by omega)) (by rw [hx]; exact nI_clamp (by omega)) (by show N * 4 ≤ _; omega) hk hn hd (fun q cA H1 hK1 hP1 hD1 hS1 => ?_)
  have hc : cA = D.1 20 := qw_cls ((hK1.2 8 (cA, .int) rfl).2 : s.vm.findClass _ = some cA) ((C.2.2.2.2.1.1.2 0 (D.1 20, .int) rfl).2 : s.vm.findClass _ = some (D.1 20))
  subst hc
  obtain ⟨a1, a2⟩ := hpush t q _ H1 hf hP1 hD1
  exact kk q H1 locs ls a1 a2 hS1 hl
theorem qr_newZ (C : qw_C p l s m args meth c D A nL cc own ret) {N : Nat} {x : Int32} (hw : qw_tb (.arrayClass .boolean)) (hx : x = nI N) (hN : Nat.ble N 10000 = true) (t : Nat) (hf : g t = none) (hk : k + 1 ≤ R.cells) (hn : n + N ≤ R.slots) (hd : decode cc pc = .ok (.newarray .boolean, 2)) (kk : ∀ q, qw_W p l e R s m args below meth c D A nL Q (k + 1) (n + N) (va_up ad t q) (va_up g t (some (.inl (D.1 21, N, .inl (fun _ => 0))))) (pc + 2) lv (.ref q :: st)) : qw_W p l e R s m args below meth c D A nL Q k n ad g pc lv (.int x :: st) := by
  have hN2 : N ≤ 10000 := Nat.le_of_ble_eq_true hN
  intro H locs ls hP hD hS hl
  obtain ⟨ws, hPw, hDw, -, -, hpush⟩ := qw_open hP hD
  refine va_newa (atype := .boolean) (a0 := (N, .inl (fun _ => 0))) C.1 C.2.1 (C.2.2.2.2.1.use hw) rfl C.2.2.2.2.1.1 hPw hDw hS C.2.2.2.2.2.1 (fun _ => rfl) (by rw [hx]; exact nI_pos (by omega)) (by rw [hx]; exact nI_clamp (by omega)) (by show N * 1 ≤ _; omega) hk hn hd (fun q cA H1 hK1 hP1 hD1 hS1 => ?_)
  have hc : cA = D.1 21 := qw_cls ((hK1.2 8 (cA, .boolean) rfl).2 : s.vm.findClass _ = some cA) ((C.2.2.2.2.1.1.2 1 (D.1 21, .boolean) rfl).2 : s.vm.findClass _ = some (D.1 21))
  subst hc
  obtain ⟨a1, a2⟩ := hpush t q _ H1 hf hP1 hD1
  exact kk q H1 locs ls a1 a2 hS1 hl
theorem qr_newL (C : qw_C p l s m args meth c D A nL cc own ret) {N : Nat} {x : Int32} (hw : qw_tb (.arrayClass .long)) (hx : x = nI N) (hN : Nat.ble N 10000 = true) (t : Nat) (hf : g t = none) (hk : k + 1 ≤ R.cells) (hn : n + N ≤ R.slots) (hd : decode cc pc = .ok (.newarray .long, 2)) (kk : ∀ q, qw_W p l e R s m args below meth c D A nL Q (k + 1) (n + N) (va_up ad t q) (va_up g t (some (.inl (D.1 22, N, .inr (.inl (fun _ => 0)))))) (pc + 2) lv (.ref q :: st)) : qw_W p l e R s m args below meth c D A nL Q k n ad g pc lv (.int x :: st) := by
  have hN2 : N ≤ 10000 := Nat.le_of_ble_eq_true hN
  intro H locs ls hP hD hS hl
  obtain ⟨ws, hPw, hDw, -, -, hpush⟩ := qw_open hP hD
  refine va_newa (atype := .long) (a0 := (N, .inr (.inl (fun _ => 0)))) C.1 C.2.1 (C.2.2.2.2.1.use hw) rfl C.2.2.2.2.1.1 hPw hDw hS C.2.2.2.2.2.1 (fun _ => rfl) (by rw [hx]; exact nI_pos (by omega)) (by rw [hx]; exact nI_clamp (by omega)) (by show N * 8 ≤ _; omega) hk hn hd (fun q cA H1 hK1 hP1 hD1 hS1 => ?_)
  have hc : cA = D.1 22 := qw_cls ((hK1.2 8 (cA, .long) rfl).2 : s.vm.findClass _ = some cA) ((C.2.2.2.2.1.1.2 2 (D.1 22, .long) rfl).2 : s.vm.findClass _ = some (D.1 22))
  subst hc
  obtain ⟨a1, a2⟩ := hpush t q _ H1 hf hP1 hD1
  exact kk q H1 locs ls a1 a2 hS1 hl
theorem qr_newQ (C : qw_C p l s m args meth c D A nL cc own ret) {N ix t0 : Nat} {x : Int32} {Cn : String} {cB : ClassId} (hw : qw_tb (.classLink own ix Cn)) (ho : va_AO Cn s) (ht : (qw_ty D)[t0]? = some (cB, .object Cn)) (hx : x = nI N) (hN : Nat.ble N 10000 = true) (t : Nat) (hf : g t = none) (hk : k + 1 ≤ R.cells) (hn : n + N ≤ R.slots) (hd : decode cc pc = .ok (.anewarray ix, 3)) (kk : ∀ q, qw_W p l e R s m args below meth c D A nL Q (k + 1) (n + N) (va_up ad t q) (va_up g t (some (.inl (cB, N, .inr (.inr (.inr (.inr (fun _ => none)))))))) (pc + 3) lv (.ref q :: st)) : qw_W p l e R s m args below meth c D A nL Q k n ad g pc lv (.int x :: st) := by
  have hN2 : N ≤ 10000 := Nat.le_of_ble_eq_true hN
  intro H locs ls hP hD hS hl
  obtain ⟨ws, hPw, hDw, -, -, hpush⟩ := qw_open hP hD
  refine va_newq C.1 C.2.1 C.2.2.2.1 (C.2.2.2.2.1.use hw) ho C.2.2.2.2.1.1 hPw hDw hS C.2.2.2.2.2.1 (by rw [hx]; exact nI_pos (by omega)) (by rw [hx]; exact nI_clamp (by omega)) (by omega) hk hn hd (fun q cA H1 hK1 hP1 hD1 hS1 => ?_)
  have hc : cA = cB := by
    obtain ⟨kA, comp, -, -, -, h4⟩ := (hK1.2 8 (cA, .object Cn) rfl).2
    obtain ⟨kA2, comp2, -, -, -, h5⟩ := (C.2.2.2.2.1.1.2 t0 (cB, .object Cn) ht).2
    exact qw_cls h4 h5
  subst hc
  obtain ⟨a1, a2⟩ := hpush t q _ H1 hf hP1 hD1
  exact kk q H1 locs ls a1 a2 hS1 hl
theorem qr_obj (C : qw_C p l s m args meth c D A nL cc own ret) {ix a : Nat} (hw : qw_tb (.methodLink own ix objectInit)) (hw1 : qw_tb (.instanceMethod objectInit)) (hw2 : qw_tb (.code objectInit ⟨#[0xb1]⟩ 1 none)) (hfr : 1 ≤ R.frames) (hlo : (st.map fun v => v.category).sum + 12 ≤ R.locals) (hd : decode cc pc = .ok (.invokespecial ix, 3)) (kk : qw_W p l e R s m args below meth c D A nL Q k n ad g (pc + 3) lv st) : qw_W p l e R s m args below meth c D A nL Q k n ad g pc lv (.ref a :: st) := by
  intro H locs ls hP hD hS hl
  exact W.objInit C.1 C.2.1 C.2.2.2.1 (C.2.2.2.2.1.use hw) (C.2.2.2.2.1.use hw1) (C.2.2.2.2.1.use hw2) rfl (by rw [C.2.2.1]; exact hl.1) rfl hd hfr (by simpa [JFrame.monitorRoom] using hlo) (kk H locs ls hP hD hS hl)
theorem qw_fr {H : Heap} {locs : List Loc} (C6 : ∀ q, s.heap.size ≤ q → A q) (hD : qw_D A ad g) (hS : va_S A s.heap H locs) : ∀ q, qw_A ad g H.size q → A q := by
  intro q hq
  rcases hq with ⟨t, ht, rfl⟩ | hq
  · exact hD.2.2 t ht
  · exact C6 q (Nat.le_trans hS.1 hq)
theorem qw_start (C : qw_C p l s m args meth c D A nL cc own ret) {H : Heap} {locs : List Loc} {U : State} (hP : qw_P D ad g H) (hD : qw_D A ad g) (hS : va_S A s.heap H locs) (hU : U.heap = H) (hW : s.WarmedH U.vm) : qw_B D ad g H.size U := by
  subst hU
  exact ⟨rfl, hP, C.2.2.2.2.1.warm hW, hD.weaken (fun _ _ _ => trivial), (C.2.2.2.2.2.2.1.kept hS.2.1).narrow (qw_fr C.2.2.2.2.2.1 hD hS) |>.moved hW.alike⟩
theorem qw_back {post : Option Value → (Nat → Nat) → qw_G → Prop} {mc ms : Nat} {H : Heap} {locs : List Loc} {ls : Array Slot} {st0 rest : List Value} {a : Array Value} (C6 : ∀ q, s.heap.size ≤ q → A q)
    (hr : va_Run p l e R s m args below meth c H locs k n mc ms (F0 m pc ls st0) rest (qw_Q post D (qw_A ad g H.size) a) (qw_A ad g H.size)) (hD : qw_D A ad g) (hS : va_S A s.heap H locs)
    (kk : ∀ v ad' g', post v ad' g' → ∀ H1 locs1, qw_P D ad' g' H1 → qw_D A ad' g' → va_S A s.heap H1 locs1 → W p l e R s m args below meth c H1 locs1 (k + mc) (n + ms) Q (F0 m (pc + 3) ls (v.toList ++ rest))) : W p l e R s m args below meth c H locs k n Q (F0 m pc ls st0) := by
  have hf := qw_fr C6 hD hS
  intro T hT X
  obtain ⟨v, st₀, t, T', L, h0, X', hL, e1, e2, ⟨⟨v2, ad', g', hv, hp, hP', hD'⟩, hz, hk⟩, stp⟩ := hr T hT X
  cases hv
  rw [h0] at hz hk
  obtain ⟨t2, a1, b1⟩ := kk v ad' g' hp T'.heap (locs ++ L) (by rw [e1]; exact hP') (hD'.weaken (fun t _ h => hf _ h))
    ⟨Nat.le_trans hS.1 (by rw [e1]; exact hz), fun q h1 h2 => by rw [e1, hk q (Nat.lt_of_lt_of_le h1 hS.1) (fun z => h2 (hf q z))]; exact hS.2.1 q h1 h2, fun q hq => by
      rcases List.mem_append.mp hq with h | h
      · exact hS.2.2 q h
      · exact hf _ (hL q h)⟩ T' rfl X'
  exact ⟨t2, stp t2 a1, b1⟩
theorem qw_backX {post : Option Value → (Nat → Nat) → qw_G → Prop} {px : String → Prop} {mc ms : Nat} {H : Heap} {locs : List Loc} {ls : Array Slot} {st0 rest : List Value} {a : Array Value} (C6 : ∀ q, s.heap.size ≤ q → A q)
    (hr : vx_Run p l e R s m args below meth c H locs k n mc ms (F0 m pc ls st0) rest (qw_Q post D (qw_A ad g H.size) a) (qw_X px D (qw_A ad g H.size) ad g) (qw_A ad g H.size)) (hD : qw_D A ad g) (hS : va_S A s.heap H locs)
    (kx : ∀ E, px E → ∀ H1 locs1 ce q, qw_P D ad g H1 → va_S A s.heap H1 locs1 → H1[q]? = some ce → ce.vm = .none → s.vm.findClass E = some ce.cls → vx_W p l e R s m args below meth c H1 locs1 (k + mc) (n + ms) Q (F0 m pc ls rest) q)
    (kk : ∀ v ad' g', post v ad' g' → ∀ H1 locs1, qw_P D ad' g' H1 → qw_D A ad' g' → va_S A s.heap H1 locs1 → W p l e R s m args below meth c H1 locs1 (k + mc) (n + ms) Q (F0 m (pc + 3) ls (v.toList ++ rest))) : W p l e R s m args below meth c H locs k n Q (F0 m pc ls st0) := by
  have hf := qw_fr C6 hD hS
  intro T hT X
  rcases hr T hT X with ⟨v, st₀, t, T', L, h0, X', hL, e1, e2, ⟨⟨v2, ad', g', hv, hp, hP', hD'⟩, hz, hk⟩, stp⟩ | ⟨q, st₀, t, T', L, E, ce, h0, X', hL, e1, e2, ⟨hpx, hP', hz, hk⟩, hce, hcv, hcl, stp⟩
  · cases hv
    rw [h0] at hz hk
    obtain ⟨t2, a1, b1⟩ := kk v ad' g' hp T'.heap (locs ++ L) (by rw [e1]; exact hP') (hD'.weaken (fun t _ h => hf _ h))
      ⟨Nat.le_trans hS.1 (by rw [e1]; exact hz), fun q h1 h2 => by rw [e1, hk q (Nat.lt_of_lt_of_le h1 hS.1) (fun z => h2 (hf q z))]; exact hS.2.1 q h1 h2, fun q hq => by
        rcases List.mem_append.mp hq with h | h
        · exact hS.2.2 q h
        · exact hf _ (hL q h)⟩ T' rfl X'
    exact ⟨t2, stp t2 a1, b1⟩
  · rw [h0] at hz hk
    obtain ⟨t2, a1, b1⟩ := kx E hpx T'.heap (locs ++ L) ce q (by rw [e1]; exact hP')
      ⟨Nat.le_trans hS.1 (by rw [e1]; exact hz), fun q h1 h2 => by rw [e1, hk q (Nat.lt_of_lt_of_le h1 hS.1) (fun z => h2 (hf q z))]; exact hS.2.1 q h1 h2, fun q hq => by
        rcases List.mem_append.mp hq with h | h
        · exact hS.2.2 q h
        · exact hf _ (hL q h)⟩ (by rw [e1]; exact hce) hcv hcl T' rfl X'
    exact ⟨t2, stp.trans a1, b1⟩
end QWB
end
section
section QWD
variable {p : Program} {l : Launch} {e : Env} {R : Room} {s : State} {m : MethodId} {args : Array Value} {below : List Frame} {meth : Method} {c : Code}
variable {D : va_G} {A : Nat → Prop} {nL : Nat} {Q : State → Prop} {k n : Nat} {ad : Nat → Nat} {g : qw_G} {pc : Nat} {lv : List (Nat × Value)} {st : List Value}
variable {cc : ByteArray} {own : String} {ret : Option FieldType}

theorem qw_gi {ws : List Cond} (h : ws.all (fun w => decide (w ∈ qw_Ts) && goodWord w) = true) : GoodIn qw_Ts ws := goodIn_of ws h
theorem qc_S (C : qw_C p l s m args meth c D A nL cc own ret) : CallFix p m c cc nL s args qw_Ts own := ⟨C.1, C.2.1, C.2.2.1, C.2.2.2.1, C.2.2.2.2.1.ts⟩
theorem qw_recv (C : qw_C p l s m args meth c D A nL cc own ret) {H : Heap} {t ci : Nat} {q : vw_C} {fs : List Value} (hP : qw_P D ad g H) (hc : vwCl[ci]? = some q) (hg : g t = some (.inr (ci, fs))) : ∃ cell : Cell, H[ad t]? = some cell ∧ cell.vm.isStatics = false ∧ s.vm.findClass q.1 = some cell.cls := va_recv C.2.2.2.2.1.1 (qw_one (hP t _ hg)) (q0 := 0) hc rfl

theorem qr_callV (C : qw_C p l s m args meth c D A nL cc own ret) {y : MethodName} {bytes : ByteArray} {maxL ix mc ms na : Nat} {cret : Option FieldType} {rm : Room} {a : Nat} {As rest : List Value} {post : Option Value → (Nat → Nat) → qw_G → Prop} (hM : qw_M l y [Cond.code y bytes maxL cret] rm D ad g (.ref a :: As) post mc ms) {ci : Nat} {q : vw_C} {fs : List Value} (t : Nat) (hg : g t = some (.inr (ci, fs))) (ha : ad t = a) (hc : vwCl[ci]? = some q) (hG : GoodIn qw_Ts (wsV own ix q.1 y [Cond.code y bytes maxL cret])) (hyc : y.cls = q.1) (hy : y.cls ≠ "java/lang/invoke/MethodHandle" ∧ y.cls ≠ "java/lang/invoke/VarHandle" ∧ (parseMethodDescriptor y.desc).map (fun d => d.parameters.length) = some na) (hna : As.length = na) (hst : st = As.reverse ++ .ref a :: rest) (hcat : (rest.map fun v => v.category).sum ≤ 8) (hrc : rm.cells = mc) (hrs : rm.slots = ms) (hR : rm.frames + 1 ≤ R.frames ∧ 8 + (maxL + 11) + rm.locals ≤ R.locals) (hcs : k + mc ≤ R.cells ∧ n + ms ≤ R.slots) (hd : decode cc pc = .ok (.invokevirtual ix, 3)) (kk : ∀ v ad' g', post v ad' g' → qw_W p l e R s m args below meth c D A nL Q (k + mc) (n + ms) ad' g' (pc + 3) lv (v.toList ++ rest)) : qw_W p l e R s m args below meth c D A nL Q k n ad g pc lv st := by
  subst ha
  subst hst
  intro H locs ls hP hD hS hl
  have hw0 : 2 * (F0 m pc ls rest).monitorRoom + (rest.map fun v => v.category).sum ≤ 8 := lv_room hcat
  refine qw_back C.2.2.2.2.2.1 (va_runV (rest := rest) (qc_S C) (hM H.size) (cwV na C.2.2.2.2.1.ts hG rfl hrc hrs ⟨hyc, hy⟩ hR) ⟨qw_blind, qw_recv C hP hc hg, fun U hU hW => ⟨rfl, qw_start C hP hD hS hU hW⟩⟩ rfl hna hl.1 rfl hw0 hd hcs) hD hS (fun v ad2 g2 hp H1 locs1 h1 h2 h3 => kk v ad2 g2 hp H1 locs1 ls h1 h2 h3 hl)
theorem qr_callS (C : qw_C p l s m args meth c D A nL cc own ret) {y : MethodName} {bytes : ByteArray} {maxL ix mc ms na : Nat} {cret : Option FieldType} {rm : Room} {As rest : List Value} {post : Option Value → (Nat → Nat) → qw_G → Prop} (hM : qw_M l y [Cond.code y bytes maxL cret] rm D ad g As post mc ms) (hG : GoodIn qw_Ts (va_wsS own ix y [Cond.code y bytes maxL cret])) (hy : y.cls ≠ "java/lang/invoke/MethodHandle" ∧ y.cls ≠ "java/lang/invoke/VarHandle" ∧ (parseMethodDescriptor y.desc).map (fun d => d.parameters.length) = some na) (hna : As.length = na) (hst : st = As.reverse ++ rest) (hcat : (rest.map fun v => v.category).sum ≤ 8) (hrc : rm.cells = mc) (hrs : rm.slots = ms) (hR : rm.frames + 1 ≤ R.frames ∧ 8 + (maxL + 11) + rm.locals ≤ R.locals) (hcs : k + mc ≤ R.cells ∧ n + ms ≤ R.slots) (hd : decode cc pc = .ok (.invokestatic ix, 3)) (kk : ∀ v ad' g', post v ad' g' → qw_W p l e R s m args below meth c D A nL Q (k + mc) (n + ms) ad' g' (pc + 3) lv (v.toList ++ rest)) : qw_W p l e R s m args below meth c D A nL Q k n ad g pc lv st := by
  skip
  subst hst
  intro H locs ls hP hD hS hl
  have hw0 : 2 * (F0 m pc ls rest).monitorRoom + (rest.map fun v => v.category).sum ≤ 8 := lv_room hcat
  refine qw_back C.2.2.2.2.2.1 (va_runS (rest := rest) (qc_S C) (hM H.size) (va_cwS na C.2.2.2.2.1.ts hG rfl hrc hrs hy hR) ⟨qw_blind, fun U hU hW => ⟨rfl, qw_start C hP hD hS hU hW⟩⟩ rfl hna hl.1 rfl hw0 hd hcs) hD hS (fun v ad2 g2 hp H1 locs1 h1 h2 h3 => kk v ad2 g2 hp H1 locs1 ls h1 h2 h3 hl)
theorem qr_callVX (C : qw_C p l s m args meth c D A nL cc own ret) {y : MethodName} {bytes : ByteArray} {maxL ix mc ms na : Nat} {cret : Option FieldType} {rm : Room} {a : Nat} {As rest : List Value} {post : Option Value → (Nat → Nat) → qw_G → Prop} {px : String → Prop} (hM : qw_T l y [Cond.code y bytes maxL cret] rm D ad g (.ref a :: As) post px mc ms) {ci : Nat} {q : vw_C} {fs : List Value} (t : Nat) (hg : g t = some (.inr (ci, fs))) (ha : ad t = a) (hc : vwCl[ci]? = some q) (hG : GoodIn qw_Ts (wsV own ix q.1 y [Cond.code y bytes maxL cret])) (hyc : y.cls = q.1) (hy : y.cls ≠ "java/lang/invoke/MethodHandle" ∧ y.cls ≠ "java/lang/invoke/VarHandle" ∧ (parseMethodDescriptor y.desc).map (fun d => d.parameters.length) = some na) (hna : As.length = na) (hst : st = As.reverse ++ .ref a :: rest) (hcat : (rest.map fun v => v.category).sum ≤ 8) (hrc : rm.cells = mc) (hrs : rm.slots = ms) (hR : rm.frames + 1 ≤ R.frames ∧ 8 + (maxL + 11) + rm.locals ≤ R.locals) (hcs : k + mc ≤ R.cells ∧ n + ms ≤ R.slots) (hd : decode cc pc = .ok (.invokevirtual ix, 3)) (kx : ∀ E, px E → qw_V p l e R s m args below meth c D A nL Q (k + mc) (n + ms) ad g pc lv rest E) (kk : ∀ v ad' g', post v ad' g' → qw_W p l e R s m args below meth c D A nL Q (k + mc) (n + ms) ad' g' (pc + 3) lv (v.toList ++ rest)) : qw_W p l e R s m args below meth c D A nL Q k n ad g pc lv st := by
  subst ha
  subst hst
  intro H locs ls hP hD hS hl
  have hw0 : 2 * (F0 m pc ls rest).monitorRoom + (rest.map fun v => v.category).sum ≤ 8 := lv_room hcat
  refine qw_backX C.2.2.2.2.2.1 (vx_runV (rest := rest) (qc_S C) (hM H.size) (cwV na C.2.2.2.2.1.ts hG rfl hrc hrs ⟨hyc, hy⟩ hR) ⟨qw_blind, qw_recv C hP hc hg, fun U hU hW => ⟨rfl, qw_start C hP hD hS hU hW⟩⟩ rfl hna hl.1 rfl hw0 hd hcs) hD hS (fun E hE H1 locs1 ce q h1 h3 h4 h5 h6 => kx E hE H1 locs1 ls ce q h1 hD h3 hl h4 h5 h6) (fun v ad2 g2 hp H1 locs1 h1 h2 h3 => kk v ad2 g2 hp H1 locs1 ls h1 h2 h3 hl)
theorem qr_callSX (C : qw_C p l s m args meth c D A nL cc own ret) {y : MethodName} {bytes : ByteArray} {maxL ix mc ms na : Nat} {cret : Option FieldType} {rm : Room} {As rest : List Value} {post : Option Value → (Nat → Nat) → qw_G → Prop} {px : String → Prop} (hM : qw_T l y [Cond.code y bytes maxL cret] rm D ad g As post px mc ms) (hG : GoodIn qw_Ts (va_wsS own ix y [Cond.code y bytes maxL cret])) (hy : y.cls ≠ "java/lang/invoke/MethodHandle" ∧ y.cls ≠ "java/lang/invoke/VarHandle" ∧ (parseMethodDescriptor y.desc).map (fun d => d.parameters.length) = some na) (hna : As.length = na) (hst : st = As.reverse ++ rest) (hcat : (rest.map fun v => v.category).sum ≤ 8) (hrc : rm.cells = mc) (hrs : rm.slots = ms) (hR : rm.frames + 1 ≤ R.frames ∧ 8 + (maxL + 11) + rm.locals ≤ R.locals) (hcs : k + mc ≤ R.cells ∧ n + ms ≤ R.slots) (hd : decode cc pc = .ok (.invokestatic ix, 3)) (kx : ∀ E, px E → qw_V p l e R s m args below meth c D A nL Q (k + mc) (n + ms) ad g pc lv rest E) (kk : ∀ v ad' g', post v ad' g' → qw_W p l e R s m args below meth c D A nL Q (k + mc) (n + ms) ad' g' (pc + 3) lv (v.toList ++ rest)) : qw_W p l e R s m args below meth c D A nL Q k n ad g pc lv st := by
  skip
  subst hst
  intro H locs ls hP hD hS hl
  have hw0 : 2 * (F0 m pc ls rest).monitorRoom + (rest.map fun v => v.category).sum ≤ 8 := lv_room hcat
  refine qw_backX C.2.2.2.2.2.1 (vx_runS (rest := rest) (qc_S C) (hM H.size) (va_cwS na C.2.2.2.2.1.ts hG rfl hrc hrs hy hR) ⟨qw_blind, fun U hU hW => ⟨rfl, qw_start C hP hD hS hU hW⟩⟩ rfl hna hl.1 rfl hw0 hd hcs) hD hS (fun E hE H1 locs1 ce q h1 h3 h4 h5 h6 => kx E hE H1 locs1 ls ce q h1 hD h3 hl h4 h5 h6) (fun v ad2 g2 hp H1 locs1 h1 h2 h3 => kk v ad2 g2 hp H1 locs1 ls h1 h2 h3 hl)
theorem qr_callI (C : qw_C p l s m args meth c D A nL cc own ret) {y : MethodName} {bytes : ByteArray} {maxL ix mc ms na : Nat} {cret : Option FieldType} {rm : Room} {a : Nat} {As rest : List Value} {post : Option Value → (Nat → Nat) → qw_G → Prop} (hM : qw_M l y [Cond.code y bytes maxL none] rm D ad g (.ref a :: As) post mc ms) (hG : GoodIn qw_Ts [Cond.code y bytes maxL none]) (hw : qw_tb (.methodLink own ix y)) (hw1 : qw_tb (.instanceMethod y)) (hw2 : qw_tb (.initialized y.cls)) (hyn : y.name = "<init>") (hy : y.cls ≠ "java/lang/invoke/MethodHandle" ∧ y.cls ≠ "java/lang/invoke/VarHandle" ∧ (parseMethodDescriptor y.desc).map (fun d => d.parameters.length) = some na) (hna : As.length = na) (hst : st = As.reverse ++ .ref a :: rest) (hcat : (rest.map fun v => v.category).sum ≤ 8) (hrc : rm.cells = mc) (hrs : rm.slots = ms) (hR : rm.frames + 1 ≤ R.frames ∧ 8 + (maxL + 11) + rm.locals ≤ R.locals) (hcs : k + mc ≤ R.cells ∧ n + ms ≤ R.slots) (hd : decode cc pc = .ok (.invokespecial ix, 3)) (kk : ∀ v ad' g', post v ad' g' → qw_W p l e R s m args below meth c D A nL Q (k + mc) (n + ms) ad' g' (pc + 3) lv (v.toList ++ rest)) : qw_W p l e R s m args below meth c D A nL Q k n ad g pc lv st := by
  skip
  subst hst
  intro H locs ls hP hD hS hl
  have hw0 : 2 * (F0 m pc ls rest).monitorRoom + (rest.map fun v => v.category).sum ≤ 8 := lv_room hcat
  refine qw_back C.2.2.2.2.2.1 (va_runI (rest := rest) (qc_S C) (hM H.size) (cwI na C.2.2.2.2.1.ts hG rfl hrc hrs (C.2.2.2.2.1.use hw2) (C.2.2.2.2.1.use hw) (C.2.2.2.2.1.use hw1) hyn hy hR) ⟨qw_blind, fun U hU hW => ⟨rfl, qw_start C hP hD hS hU hW⟩⟩ rfl hna hl.1 rfl hw0 hd hcs) hD hS (fun v ad2 g2 hp H1 locs1 h1 h2 h3 => kk v ad2 g2 hp H1 locs1 ls h1 h2 h3 hl)
theorem qr_callNV (C : qw_C p l s m args meth c D A nL cc own ret) {y : MethodName} {bytes : ByteArray} {maxL ix mc ms na : Nat} {cret : Option FieldType} {rm : Room} {a : Nat} {As rest : List Value} {post : Option Value → (Nat → Nat) → qw_G → Prop} (hM : qw_M l y [Cond.code y bytes maxL cret] rm D ad g (.ref a :: As) post mc ms) {ci : Nat} {q : vw_C} {fs : List Value} (t : Nat) (hg : g t = some (.inr (ci, fs))) (ha : ad t = a) (hc : vwCl[ci]? = some q) {host : String} (hG : GoodIn qw_Ts [Cond.code y bytes maxL cret]) (hw : qw_tb (.methodLinkNest own ix y host)) (hw2 : qw_tb (.initialized y.cls)) (hw1 : qw_tb (.instanceMethod y)) (hw3 : qw_tb (.selects q.1 y y)) (hy : y.cls ≠ "java/lang/invoke/MethodHandle" ∧ y.cls ≠ "java/lang/invoke/VarHandle" ∧ (parseMethodDescriptor y.desc).map (fun d => d.parameters.length) = some na) (hna : As.length = na) (hst : st = As.reverse ++ .ref a :: rest) (hcat : (rest.map fun v => v.category).sum ≤ 8) (hrc : rm.cells = mc) (hrs : rm.slots = ms) (hR : rm.frames + 1 ≤ R.frames ∧ 8 + (maxL + 11) + rm.locals ≤ R.locals) (hcs : k + mc ≤ R.cells ∧ n + ms ≤ R.slots) (hd : decode cc pc = .ok (.invokevirtual ix, 3)) (kk : ∀ v ad' g', post v ad' g' → qw_W p l e R s m args below meth c D A nL Q (k + mc) (n + ms) ad' g' (pc + 3) lv (v.toList ++ rest)) : qw_W p l e R s m args below meth c D A nL Q k n ad g pc lv st := by
  subst ha
  subst hst
  intro H locs ls hP hD hS hl
  have hw0 : 2 * (F0 m pc ls rest).monitorRoom + (rest.map fun v => v.category).sum ≤ 8 := lv_room hcat
  refine qw_back C.2.2.2.2.2.1 (va_runVN (rest := rest) (qc_S C) (hM H.size) ⟨va_cnB na C.2.2.2.2.1.ts hG rfl hrc hrs (va_Nw.of rfl (C.2.2.2.2.1.use (args := #[]) hw)) (C.2.2.2.2.1.use hw2) hy hR, C.2.2.2.2.1.use hw1, C.2.2.2.2.1.use hw3⟩ ⟨qw_blind, qw_recv C hP hc hg, fun U hU hW => ⟨rfl, qw_start C hP hD hS hU hW⟩⟩ rfl hna hl.1 rfl hw0 hd hcs) hD hS (fun v ad2 g2 hp H1 locs1 h1 h2 h3 => kk v ad2 g2 hp H1 locs1 ls h1 h2 h3 hl)
theorem qr_callNS (C : qw_C p l s m args meth c D A nL cc own ret) {y : MethodName} {bytes : ByteArray} {maxL ix mc ms na : Nat} {cret : Option FieldType} {rm : Room} {As rest : List Value} {post : Option Value → (Nat → Nat) → qw_G → Prop} (hM : qw_M l y [Cond.code y bytes maxL cret] rm D ad g As post mc ms) {host : String} (hG : GoodIn qw_Ts [Cond.code y bytes maxL cret]) (hw : qw_tb (.methodLinkNest own ix y host)) (hw2 : qw_tb (.initialized y.cls)) (hw1 : qw_tb (.static y)) (hy : y.cls ≠ "java/lang/invoke/MethodHandle" ∧ y.cls ≠ "java/lang/invoke/VarHandle" ∧ (parseMethodDescriptor y.desc).map (fun d => d.parameters.length) = some na) (hna : As.length = na) (hst : st = As.reverse ++ rest) (hcat : (rest.map fun v => v.category).sum ≤ 8) (hrc : rm.cells = mc) (hrs : rm.slots = ms) (hR : rm.frames + 1 ≤ R.frames ∧ 8 + (maxL + 11) + rm.locals ≤ R.locals) (hcs : k + mc ≤ R.cells ∧ n + ms ≤ R.slots) (hd : decode cc pc = .ok (.invokestatic ix, 3)) (kk : ∀ v ad' g', post v ad' g' → qw_W p l e R s m args below meth c D A nL Q (k + mc) (n + ms) ad' g' (pc + 3) lv (v.toList ++ rest)) : qw_W p l e R s m args below meth c D A nL Q k n ad g pc lv st := by
  skip
  subst hst
  intro H locs ls hP hD hS hl
  have hw0 : 2 * (F0 m pc ls rest).monitorRoom + (rest.map fun v => v.category).sum ≤ 8 := lv_room hcat
  refine qw_back C.2.2.2.2.2.1 (va_runSN (rest := rest) (qc_S C) (hM H.size) ⟨va_cnB na C.2.2.2.2.1.ts hG rfl hrc hrs (va_Nw.of rfl (C.2.2.2.2.1.use (args := #[]) hw)) (C.2.2.2.2.1.use hw2) hy hR, C.2.2.2.2.1.use hw1, trivial⟩ ⟨qw_blind, fun U hU hW => ⟨rfl, qw_start C hP hD hS hU hW⟩⟩ rfl hna hl.1 rfl hw0 hd hcs) hD hS (fun v ad2 g2 hp H1 locs1 h1 h2 h3 => kk v ad2 g2 hp H1 locs1 ls h1 h2 h3 hl)
theorem qr_callNI (C : qw_C p l s m args meth c D A nL cc own ret) {y : MethodName} {bytes : ByteArray} {maxL ix mc ms na : Nat} {cret : Option FieldType} {rm : Room} {a : Nat} {As rest : List Value} {post : Option Value → (Nat → Nat) → qw_G → Prop} (hM : qw_M l y [Cond.code y bytes maxL none] rm D ad g (.ref a :: As) post mc ms) {host : String} (hG : GoodIn qw_Ts [Cond.code y bytes maxL none]) (hw : qw_tb (.methodLinkNest own ix y host)) (hw2 : qw_tb (.initialized y.cls)) (hw1 : qw_tb (.instanceMethod y)) (hyn : y.name = "<init>") (hy : y.cls ≠ "java/lang/invoke/MethodHandle" ∧ y.cls ≠ "java/lang/invoke/VarHandle" ∧ (parseMethodDescriptor y.desc).map (fun d => d.parameters.length) = some na) (hna : As.length = na) (hst : st = As.reverse ++ .ref a :: rest) (hcat : (rest.map fun v => v.category).sum ≤ 8) (hrc : rm.cells = mc) (hrs : rm.slots = ms) (hR : rm.frames + 1 ≤ R.frames ∧ 8 + (maxL + 11) + rm.locals ≤ R.locals) (hcs : k + mc ≤ R.cells ∧ n + ms ≤ R.slots) (hd : decode cc pc = .ok (.invokespecial ix, 3)) (kk : ∀ v ad' g', post v ad' g' → qw_W p l e R s m args below meth c D A nL Q (k + mc) (n + ms) ad' g' (pc + 3) lv (v.toList ++ rest)) : qw_W p l e R s m args below meth c D A nL Q k n ad g pc lv st := by
  skip
  subst hst
  intro H locs ls hP hD hS hl
  have hw0 : 2 * (F0 m pc ls rest).monitorRoom + (rest.map fun v => v.category).sum ≤ 8 := lv_room hcat
  refine qw_back C.2.2.2.2.2.1 (va_runIN (rest := rest) (qc_S C) (hM H.size) ⟨va_cnB na C.2.2.2.2.1.ts hG rfl hrc hrs (va_Nw.of rfl (C.2.2.2.2.1.use (args := #[]) hw)) (C.2.2.2.2.1.use hw2) hy hR, hyn, C.2.2.2.2.1.use hw1⟩ ⟨qw_blind, fun U hU hW => ⟨rfl, qw_start C hP hD hS hU hW⟩⟩ rfl hna hl.1 rfl hw0 hd hcs) hD hS (fun v ad2 g2 hp H1 locs1 h1 h2 h3 => kk v ad2 g2 hp H1 locs1 ls h1 h2 h3 hl)
theorem qr_callSW (C : qw_C p l s m args meth c D A nL cc own ret) {y : MethodName} {bytes : ByteArray} {maxL ix mc ms na : Nat} {cret : Option FieldType} {rm : Room} {hh : List (Nat × Nat × Nat × Nat)} {As rest : List Value} {post : Option Value → (Nat → Nat) → qw_G → Prop} (hM : qw_M l y [Cond.codeWith y bytes maxL cret hh] rm D ad g As post mc ms) (hG : GoodIn qw_Ts (va_wsS own ix y [Cond.codeWith y bytes maxL cret hh])) (hy : y.cls ≠ "java/lang/invoke/MethodHandle" ∧ y.cls ≠ "java/lang/invoke/VarHandle" ∧ (parseMethodDescriptor y.desc).map (fun d => d.parameters.length) = some na) (hna : As.length = na) (hst : st = As.reverse ++ rest) (hcat : (rest.map fun v => v.category).sum ≤ 8) (hrc : rm.cells = mc) (hrs : rm.slots = ms) (hR : rm.frames + 1 ≤ R.frames ∧ 8 + (maxL + 11) + rm.locals ≤ R.locals) (hcs : k + mc ≤ R.cells ∧ n + ms ≤ R.slots) (hd : decode cc pc = .ok (.invokestatic ix, 3)) (kk : ∀ v ad' g', post v ad' g' → qw_W p l e R s m args below meth c D A nL Q (k + mc) (n + ms) ad' g' (pc + 3) lv (v.toList ++ rest)) : qw_W p l e R s m args below meth c D A nL Q k n ad g pc lv st := by
  subst hst
  intro H locs ls hP hD hS hl
  have hw0 : 2 * (F0 m pc ls rest).monitorRoom + (rest.map fun v => v.category).sum ≤ 8 := lv_room hcat
  refine qw_back C.2.2.2.2.2.1 (vx_runSW (rest := rest) (qc_S C) (hM H.size) (vx_cwSW na C.2.2.2.2.1.ts hG rfl hrc hrs hy hR) ⟨qw_blind, fun U hU hW => ⟨rfl, qw_start C hP hD hS hU hW⟩⟩ rfl hna hl.1 rfl hw0 hd hcs) hD hS (fun v ad2 g2 hp H1 locs1 h1 h2 h3 => kk v ad2 g2 hp H1 locs1 ls h1 h2 h3 hl)
theorem qw_end {post : Option Value → (Nat → Nat) → qw_G → Prop} {v : Option Value} {H : Heap} {locs : List Loc} {t : State} (hp : post v ad g) (hP : qw_P D ad g H) (hD : qw_D A ad g) (hS : va_S A s.heap H locs) (ht : t.heap = H) : qw_Q post D A args s (.returned v) t := ⟨⟨v, ad, g, rfl, hp, by rw [ht]; exact hP, hD⟩, hS.F ht⟩
theorem qr_iret (C : qw_C p l s m args meth c D A nL cc own ret) {post : Option Value → (Nat → Nat) → qw_G → Prop} {mc ms : Nat} {v : Int32} (hr : ret = some .int) (hk : k ≤ mc) (hn : n ≤ ms) (hd : decode cc pc = .ok (.ireturn, 1)) (hp : post (some (.int v)) ad g) : qw_W p l e R s m args below meth c D A nL (MQ below (qw_Q post D A) args s mc ms A) k n ad g pc lv [.int v] := fun H locs ls hP hD hS hl => W.widen hk hn (W.iret C.1 C.2.1 (C.2.2.2.2.2.2.2.2.1.trans hr) (fun t ht hW => qw_end hp hP hD hS ht) hS.2.2 hd C.2.2.2.2.2.2.2.1)
theorem qr_zret (C : qw_C p l s m args meth c D A nL cc own ret) {post : Option Value → (Nat → Nat) → qw_G → Prop} {mc ms : Nat} {v : Int32} (hr : ret = some .boolean) (hv : v = 0 ∨ v = 1) (hk : k ≤ mc) (hn : n ≤ ms) (hd : decode cc pc = .ok (.ireturn, 1)) (hp : post (some (.int v)) ad g) : qw_W p l e R s m args below meth c D A nL (MQ below (qw_Q post D A) args s mc ms A) k n ad g pc lv [.int v] := fun H locs ls hP hD hS hl => W.widen hk hn (W.zret C.1 C.2.1 (C.2.2.2.2.2.2.2.2.1.trans hr) (qw_b01 hv).2.1 (fun t ht hW => qw_end hp hP hD hS ht) hS.2.2 hd C.2.2.2.2.2.2.2.1)
theorem qr_vret (C : qw_C p l s m args meth c D A nL cc own ret) {post : Option Value → (Nat → Nat) → qw_G → Prop} {mc ms : Nat} (hr : ret = none) (hk : k ≤ mc) (hn : n ≤ ms) (hd : decode cc pc = .ok (.return_, 1)) (hp : post none ad g) : qw_W p l e R s m args below meth c D A nL (MQ below (qw_Q post D A) args s mc ms A) k n ad g pc lv [] := fun H locs ls hP hD hS hl => W.widen hk hn (W.vret C.1 C.2.1 (C.2.2.2.2.2.2.2.2.1.trans hr) (fun t ht hW => qw_end hp hP hD hS ht) hS.2.2 hd C.2.2.2.2.2.2.2.1)
theorem qr_aret (C : qw_C p l s m args meth c D A nL cc own ret) {post : Option Value → (Nat → Nat) → qw_G → Prop} {mc ms a : Nat} {nm : String} (hr : ret = some (.object nm)) (hk : k ≤ mc) (hn : n ≤ ms) (hd : decode cc pc = .ok (.areturn, 1)) (hp : post (some (.ref a)) ad g) : qw_W p l e R s m args below meth c D A nL (MQ below (qw_Q post D A) args s mc ms A) k n ad g pc lv [.ref a] := fun H locs ls hP hD hS hl => W.widen hk hn (W.aret C.1 C.2.1 (C.2.2.2.2.2.2.2.2.1.trans hr) (Or.inl ⟨_, rfl⟩) (Or.inr ⟨_, rfl⟩) (fun t ht hW => qw_end hp hP hD hS ht) hS.2.2 hd C.2.2.2.2.2.2.2.1)
theorem qr_iretX (C : qw_C p l s m args meth c D A nL cc own ret) {post : Option Value → (Nat → Nat) → qw_G → Prop} {px : String → Prop} {ad0 : Nat → Nat} {g0 : qw_G} {mc ms : Nat} {v : Int32} (hr : ret = some .int) (hk : k ≤ mc) (hn : n ≤ ms) (hd : decode cc pc = .ok (.ireturn, 1)) (hp : post (some (.int v)) ad g) : qw_W p l e R s m args below meth c D A nL (vx_MQ below (qw_Q post D A) (qw_X px D A ad0 g0) args s mc ms A) k n ad g pc lv [.int v] := fun H locs ls hP hD hS hl => W.widen hk hn (vx_ret (W.iret C.1 C.2.1 (C.2.2.2.2.2.2.2.2.1.trans hr) (fun t ht hW => qw_end hp hP hD hS ht) hS.2.2 hd C.2.2.2.2.2.2.2.1))
theorem qr_zretX (C : qw_C p l s m args meth c D A nL cc own ret) {post : Option Value → (Nat → Nat) → qw_G → Prop} {px : String → Prop} {ad0 : Nat → Nat} {g0 : qw_G} {mc ms : Nat} {v : Int32} (hr : ret = some .boolean) (hv : v = 0 ∨ v = 1) (hk : k ≤ mc) (hn : n ≤ ms) (hd : decode cc pc = .ok (.ireturn, 1)) (hp : post (some (.int v)) ad g) : qw_W p l e R s m args below meth c D A nL (vx_MQ below (qw_Q post D A) (qw_X px D A ad0 g0) args s mc ms A) k n ad g pc lv [.int v] := fun H locs ls hP hD hS hl => W.widen hk hn (vx_ret (W.zret C.1 C.2.1 (C.2.2.2.2.2.2.2.2.1.trans hr) (qw_b01 hv).2.1 (fun t ht hW => qw_end hp hP hD hS ht) hS.2.2 hd C.2.2.2.2.2.2.2.1))
theorem qr_vretX (C : qw_C p l s m args meth c D A nL cc own ret) {post : Option Value → (Nat → Nat) → qw_G → Prop} {px : String → Prop} {ad0 : Nat → Nat} {g0 : qw_G} {mc ms : Nat} (hr : ret = none) (hk : k ≤ mc) (hn : n ≤ ms) (hd : decode cc pc = .ok (.return_, 1)) (hp : post none ad g) : qw_W p l e R s m args below meth c D A nL (vx_MQ below (qw_Q post D A) (qw_X px D A ad0 g0) args s mc ms A) k n ad g pc lv [] := fun H locs ls hP hD hS hl => W.widen hk hn (vx_ret (W.vret C.1 C.2.1 (C.2.2.2.2.2.2.2.2.1.trans hr) (fun t ht hW => qw_end hp hP hD hS ht) hS.2.2 hd C.2.2.2.2.2.2.2.1))
theorem qr_aretX (C : qw_C p l s m args meth c D A nL cc own ret) {post : Option Value → (Nat → Nat) → qw_G → Prop} {px : String → Prop} {ad0 : Nat → Nat} {g0 : qw_G} {mc ms a : Nat} {nm : String} (hr : ret = some (.object nm)) (hk : k ≤ mc) (hn : n ≤ ms) (hd : decode cc pc = .ok (.areturn, 1)) (hp : post (some (.ref a)) ad g) : qw_W p l e R s m args below meth c D A nL (vx_MQ below (qw_Q post D A) (qw_X px D A ad0 g0) args s mc ms A) k n ad g pc lv [.ref a] := fun H locs ls hP hD hS hl => W.widen hk hn (vx_ret (W.aret C.1 C.2.1 (C.2.2.2.2.2.2.2.2.1.trans hr) (Or.inl ⟨_, rfl⟩) (Or.inr ⟨_, rfl⟩) (fun t ht hW => qw_end hp hP hD hS ht) hS.2.2 hd C.2.2.2.2.2.2.2.1))
def qw_nt (c : Code) : Prop := ∀ x ∈ c.exceptionTable.toList, False
theorem qw_xw (C : qw_C p l s m args meth c D A nL cc own ret) {H : Heap} {locs : List Loc} {px : String → Prop} {E : String} {t : State} (hE : px E) (hP : qw_P D ad g H) (hS : va_S A s.heap H locs) (h1 : H.size ≤ t.heap.size) (h2 : ∀ q : Nat, q < H.size → t.heap[q]? = H[q]?) : qw_X px D A ad g E s t := by
  refine ⟨hE, hP.kept (fun u hu => ?_), Nat.le_trans hS.1 h1, fun q hq hA => ?_⟩
  · cases hg : g u with
    | none => exact absurd hg hu
    | some e2 => exact h2 _ (hP u e2 hg).lt
  · rw [h2 q (Nat.lt_of_lt_of_le hq hS.1)]
    exact hS.2.1 q hq hA
/-- not caught here -/
theorem qr_out (C : qw_C p l s m args meth c D A nL cc own ret) {post : Option Value → (Nat → Nat) → qw_G → Prop} {px : String → Prop} {mc ms : Nat} {E : String} (hnt : qw_nt c) (hE : px E) (hk : k ≤ mc) (hn : n ≤ ms) : qw_V p l e R s m args below meth c D A nL (vx_MQ below (qw_Q post D A) (qw_X px D A ad g) args s mc ms A) k n ad g pc lv st E := fun H locs ls ce q hP hD hS hl h1 h2 h3 =>
  vx_out (fun x hx => absurd hx (hnt x)) C.2.2.2.2.2.2.2.1 h1 h2 h3 (fun t ht hA => qw_xw C hE hP hS (by rw [ht]; exact Nat.le_refl _) (fun q _ => by rw [ht])) hS.2.2 hk hn
def qw_nms : List String := ["java/lang/RuntimeException", "java/lang/Exception"]
set_option maxRecDepth 20000 in
theorem qh_1 : ∀ w ∈ vx_atS RX6 43 qw_E1 qw_nms, w ∈ qw_Ts := by decide +kernel
set_option maxRecDepth 20000 in
theorem qg_1 : ∀ w ∈ Cond.classLink RX6 39 qw_E1 :: Cond.initialized qw_E1 :: vx_atS RX6 43 qw_E1 qw_nms, vx_ot w = true := by decide +kernel
set_option maxRecDepth 20000 in
theorem qi_1 : (Cond.classLink RX6 39 qw_E1) ∈ qw_Ts ∧ (Cond.initialized qw_E1) ∈ qw_Ts := by decide +kernel
theorem qr_throw1 (C : qw_C p l s m args meth c D A nL cc RX6 ret) {post : Option Value → (Nat → Nat) → qw_G → Prop} {px : String → Prop} {mc ms is : Nat} {tx : String} (hnt : qw_nt c) (hstr : (is, tx) ∈ qw_strs) (hE : px qw_E1)
    (d0 : decode cc pc = .ok (.new 39, 3)) (d3 : decode cc (pc + 3) = .ok (.dup, 1)) (d4 : decode cc (pc + 4) = .ok (.ldc is, 2)) (d6 : decode cc (pc + 6) = .ok (.invokespecial 43, 3)) (d9 : decode cc (pc + 9) = .ok (.athrow, 1))
    (hRf : 5 < R.frames) (hRl : (st.map fun v => v.category).sum + 82 ≤ R.locals) (hRc : k + 1 ≤ R.cells) (hRs : n + 6 ≤ R.slots) (hk : k + 1 ≤ mc) (hn : n + 6 ≤ ms) : qw_W p l e R s m args below meth c D A nL (vx_MQ below (qw_Q post D A) (qw_X px D A ad g) args s mc ms A) k n ad g pc lv st := by
  intro H locs ls hP hD hS hl
  obtain ⟨sa, hsa⟩ := C.2.2.2.2.1.2.2.1 _ hstr
  exact vx_throwS (names := qw_nms) C.1 C.2.1 C.2.2.2.2.2.2.2.2.2 C.2.2.2.1 (by decide) (by decide) (C.2.2.2.2.1.use qi_1.1) (C.2.2.2.2.1.use qi_1.2) hsa (fun w hw => C.2.2.2.2.1.use (qh_1 w hw)) qg_1 C.2.2.2.2.2.2.1.1 C.2.2.2.2.2.2.1.2 hS (by rw [C.2.2.1]; exact hl.1) d0 d3 d4 d6 d9 (fun x hx => absurd hx (hnt x)) hRf hRl hRc hRs C.2.2.2.2.2.2.2.1 (fun t _ h1 h2 => qw_xw C hE hP hS h1 h2) hS.2.2 hk hn
set_option maxRecDepth 20000 in
theorem qh_2 : ∀ w ∈ vx_atS RX6 50 qw_E2 qw_nms, w ∈ qw_Ts := by decide +kernel
set_option maxRecDepth 20000 in
theorem qg_2 : ∀ w ∈ Cond.classLink RX6 46 qw_E2 :: Cond.initialized qw_E2 :: vx_atS RX6 50 qw_E2 qw_nms, vx_ot w = true := by decide +kernel
set_option maxRecDepth 20000 in
theorem qi_2 : (Cond.classLink RX6 46 qw_E2) ∈ qw_Ts ∧ (Cond.initialized qw_E2) ∈ qw_Ts := by decide +kernel
theorem qr_throw2 (C : qw_C p l s m args meth c D A nL cc RX6 ret) {post : Option Value → (Nat → Nat) → qw_G → Prop} {px : String → Prop} {mc ms is : Nat} {tx : String} (hnt : qw_nt c) (hstr : (is, tx) ∈ qw_strs) (hE : px qw_E2)
    (d0 : decode cc pc = .ok (.new 46, 3)) (d3 : decode cc (pc + 3) = .ok (.dup, 1)) (d4 : decode cc (pc + 4) = .ok (.ldc is, 2)) (d6 : decode cc (pc + 6) = .ok (.invokespecial 50, 3)) (d9 : decode cc (pc + 9) = .ok (.athrow, 1))
    (hRf : 5 < R.frames) (hRl : (st.map fun v => v.category).sum + 82 ≤ R.locals) (hRc : k + 1 ≤ R.cells) (hRs : n + 6 ≤ R.slots) (hk : k + 1 ≤ mc) (hn : n + 6 ≤ ms) : qw_W p l e R s m args below meth c D A nL (vx_MQ below (qw_Q post D A) (qw_X px D A ad g) args s mc ms A) k n ad g pc lv st := by
  intro H locs ls hP hD hS hl
  obtain ⟨sa, hsa⟩ := C.2.2.2.2.1.2.2.1 _ hstr
  exact vx_throwS (names := qw_nms) C.1 C.2.1 C.2.2.2.2.2.2.2.2.2 C.2.2.2.1 (by decide) (by decide) (C.2.2.2.2.1.use qi_2.1) (C.2.2.2.2.1.use qi_2.2) hsa (fun w hw => C.2.2.2.2.1.use (qh_2 w hw)) qg_2 C.2.2.2.2.2.2.1.1 C.2.2.2.2.2.2.1.2 hS (by rw [C.2.2.1]; exact hl.1) d0 d3 d4 d6 d9 (fun x hx => absurd hx (hnt x)) hRf hRl hRc hRs C.2.2.2.2.2.2.2.1 (fun t _ h1 h2 => qw_xw C hE hP hS h1 h2) hS.2.2 hk hn
set_option maxRecDepth 20000 in
theorem qh_3 : ∀ w ∈ vx_atS RX6 59 qw_E3 qw_nms, w ∈ qw_Ts := by decide +kernel
set_option maxRecDepth 20000 in
theorem qg_3 : ∀ w ∈ Cond.classLink RX6 55 qw_E3 :: Cond.initialized qw_E3 :: vx_atS RX6 59 qw_E3 qw_nms, vx_ot w = true := by decide +kernel
set_option maxRecDepth 20000 in
theorem qi_3 : (Cond.classLink RX6 55 qw_E3) ∈ qw_Ts ∧ (Cond.initialized qw_E3) ∈ qw_Ts := by decide +kernel
theorem qr_throw3 (C : qw_C p l s m args meth c D A nL cc RX6 ret) {post : Option Value → (Nat → Nat) → qw_G → Prop} {px : String → Prop} {mc ms is : Nat} {tx : String} (hnt : qw_nt c) (hstr : (is, tx) ∈ qw_strs) (hE : px qw_E3)
    (d0 : decode cc pc = .ok (.new 55, 3)) (d3 : decode cc (pc + 3) = .ok (.dup, 1)) (d4 : decode cc (pc + 4) = .ok (.ldc is, 2)) (d6 : decode cc (pc + 6) = .ok (.invokespecial 59, 3)) (d9 : decode cc (pc + 9) = .ok (.athrow, 1))
    (hRf : 5 < R.frames) (hRl : (st.map fun v => v.category).sum + 82 ≤ R.locals) (hRc : k + 1 ≤ R.cells) (hRs : n + 6 ≤ R.slots) (hk : k + 1 ≤ mc) (hn : n + 6 ≤ ms) : qw_W p l e R s m args below meth c D A nL (vx_MQ below (qw_Q post D A) (qw_X px D A ad g) args s mc ms A) k n ad g pc lv st := by
  intro H locs ls hP hD hS hl
  obtain ⟨sa, hsa⟩ := C.2.2.2.2.1.2.2.1 _ hstr
  exact vx_throwS (names := qw_nms) C.1 C.2.1 C.2.2.2.2.2.2.2.2.2 C.2.2.2.1 (by decide) (by decide) (C.2.2.2.2.1.use qi_3.1) (C.2.2.2.2.1.use qi_3.2) hsa (fun w hw => C.2.2.2.2.1.use (qh_3 w hw)) qg_3 C.2.2.2.2.2.2.1.1 C.2.2.2.2.2.2.1.2 hS (by rw [C.2.2.1]; exact hl.1) d0 d3 d4 d6 d9 (fun x hx => absurd hx (hnt x)) hRf hRl hRc hRs C.2.2.2.2.2.2.2.1 (fun t _ h1 h2 => qw_xw C hE hP hS h1 h2) hS.2.2 hk hn
theorem qr_catch (C : qw_C p l s m args meth c D A nL cc own ret) {hh : List (Nat × Nat × Nat × Nat)} {E : String} (htab : c.exceptionTable.toList = tableOf hh) (pre : List ExceptionTableEntry) (x : ExceptionTableEntry) (suf : List ExceptionTableEntry) (hsp : tableOf hh = pre ++ x :: suf) (hpass : ∀ z ∈ pre, covers z pc = false ∨ (z.catchType ≠ 0 ∧ ∃ nm : String, qw_tb (.classLink own z.catchType nm) ∧ va_Nc E nm s)) (hx : covers x pc = true) (h0 : x.catchType ≠ 0) (hw : qw_tb (.classLink own x.catchType E)) (hw1 : qw_tb (.castable E E)) (kk : ∀ q, qw_W p l e R s m args below meth c D A nL Q k n ad g x.handlerPc lv [.ref q]) : qw_V p l e R s m args below meth c D A nL Q k n ad g pc lv st E := fun H locs ls ce q hP hD hS hl h1 h2 h3 =>
  vx_catch C.2.2.2.1 pre x suf (htab.trans hsp) (fun z hz => (hpass z hz).imp id (fun ⟨a, nm, b, d⟩ => ⟨a, nm, C.2.2.2.2.1.use b, d⟩)) hx h0 (C.2.2.2.2.1.use hw) (C.2.2.2.2.1.use hw1) h1 h2 h3 (kk q H locs ls hP hD hS hl)
end QWD
section QWE
variable {l : Launch} {D : va_G} {ad : Nat → Nat} {g : qw_G}
theorem qw_enterC {p : Program} {e : Env} {s : State} {m : MethodId} {args : Array Value} {below : List Frame} {meth : Method} {c : Code} {s₁ : State} {y : MethodName} {S : Spec} {cc : ByteArray} {maxL : Nat} {ret : Option FieldType} {own : String} {sz : Nat} (hst : l.stackTraces = false) (B : BodyLoose p l y S cc maxL ret e s m args below meth c s₁) (hml : c.maxLocals = maxL) (hown : y.cls = own) (hv : qw_B D ad g sz s) : qw_C p l s m args meth c D (qw_A ad g sz) maxL cc own ret := by
  subst hown
  obtain ⟨hsz, hP, hK, hD, hZ⟩ := hv
  exact ⟨B.exec, B.bytes, hml, findClass_of_methodNamed B.named, hK, fun q hq => Or.inr (by rw [← hsz]; exact hq), hZ, B.notSynchronized, B.returns, hst⟩
theorem qw_M.of {y : MethodName} {rm : Room} {cc : ByteArray} {maxL : Nat} {ret : Option FieldType} {own : String} {av : List Value} {lv : List (Nat × Value)} {post : Option Value → (Nat → Nat) → qw_G → Prop} {mc ms : Nat} (hst : l.stackTraces = false) (hy : plainName y.cls = true) (hown : y.cls = own) (hlv : lv_args 0 av = lv) (hlen : (lg_sl av).length ≤ maxL)
    (body : ∀ p e s m args below meth c A, qw_C p l s m args meth c D A maxL cc own ret → meth.name = y.name → qw_W p l e rm s m args below meth c D A maxL (MQ below (qw_Q post D A) args s mc ms A) 0 0 ad g 0 lv []) : qw_M l y [Cond.code y cc maxL ret] rm D ad g av post mc ms := by
  intro sz
  refine Met.ofW (cc := cc) (maxL := maxL) (ret := ret) hy rfl ?_
  intro p e s m args below meth c s₁ B hml hv
  obtain ⟨rfl, hv⟩ := hv
  have C := qw_enterC (own := own) hst B hml hown hv
  rw [lg_entry_eq]
  exact body p e s m _ below meth c _ C (name_of_methodNamed B.named B.method).1 s.heap [] _ hv.2.1 hv.2.2.2.1.self va_S.rf (by rw [← hlv]; exact lv_entry av hlen)
theorem qw_T.of {y : MethodName} {rm : Room} {cc : ByteArray} {maxL : Nat} {ret : Option FieldType} {own : String} {av : List Value} {lv : List (Nat × Value)} {post : Option Value → (Nat → Nat) → qw_G → Prop} {px : String → Prop} {mc ms : Nat} (hst : l.stackTraces = false) (hy : plainName y.cls = true) (hown : y.cls = own) (hlv : lv_args 0 av = lv) (hlen : (lg_sl av).length ≤ maxL)
    (body : ∀ p e s m args below meth c A, qw_C p l s m args meth c D A maxL cc own ret → qw_nt c → qw_W p l e rm s m args below meth c D A maxL (vx_MQ below (qw_Q post D A) (qw_X px D A ad g) args s mc ms A) 0 0 ad g 0 lv []) : qw_T l y [Cond.code y cc maxL ret] rm D ad g av post px mc ms := by
  intro sz
  refine vx_ofW (cc := cc) (maxL := maxL) (ret := ret) hy rfl ?_
  intro p e s m args below meth c s₁ B hml hnt hv
  obtain ⟨rfl, hv⟩ := hv
  have C := qw_enterC (own := own) hst B hml hown hv
  rw [lg_entry_eq]
  exact body p e s m _ below meth c _ C hnt s.heap [] _ hv.2.1 hv.2.2.2.1.self va_S.rf (by rw [← hlv]; exact lv_entry av hlen)
end QWE
end
section
section QWF
variable {p : Program} {l : Launch} {e : Env} {R : Room} {s : State} {m : MethodId} {args : Array Value} {below : List Frame} {meth : Method} {c : Code}
variable {D : va_G} {A : Nat → Prop} {nL : Nat} {Q : State → Prop} {k n : Nat} {ad : Nat → Nat} {g : qw_G} {pc : Nat} {lv : List (Nat × Value)} {st : List Value}
variable {cc : ByteArray} {own : String} {ret : Option FieldType}

set_option maxRecDepth 20000 in
theorem qi_X1 : qw_ci 0 RX1 TX1 5 := ⟨by decide +kernel, rfl⟩
set_option maxRecDepth 20000 in
theorem qi_X2 : qw_ci 1 RX2 TX2 1 := ⟨by decide +kernel, rfl⟩
set_option maxRecDepth 20000 in
theorem qi_X3 : qw_ci 2 RX3 TX3 5 := ⟨by decide +kernel, rfl⟩
set_option maxRecDepth 20000 in
theorem qi_X4 : qw_ci 3 RX4 TX4 5 := ⟨by decide +kernel, rfl⟩
set_option maxRecDepth 20000 in
theorem qi_X5 : qw_ci 4 RX5 TX5 4 := ⟨by decide +kernel, rfl⟩
set_option maxRecDepth 20000 in
theorem qi_X6 : qw_ci 5 RX6 TX6 9 := ⟨by decide +kernel, rfl⟩
set_option maxRecDepth 20000 in
theorem qi_X7 : qw_ci 6 RX7 TX7 20 := ⟨by decide +kernel, rfl⟩
set_option maxRecDepth 20000 in
theorem fl_X3_9 : qw_tb (.fieldLink RX3 9 (TX3 0).1 (TX3 0).2.1 (TX3 0).2.2.1) := qw_tbi 62 (by decide +kernel) rfl
theorem gf_X3_9 (C : qw_C p l s m args meth c D A nL cc RX3 ret) {a : Nat} {fs : List Value} {v : Value} (t : Nat) (hg : g t = some (.inr (2, fs))) (ha : ad t = a) (hv : fs[0]? = some v) (hd : decode cc pc = .ok (.getfield 9, 3)) (kk : qw_W p l e R s m args below meth c D A nL Q k n ad g (pc + 3) lv (v :: st)) : qw_W p l e R s m args below meth c D A nL Q k n ad g pc lv (.ref a :: st) := qr_get C qi_X3 0 (by decide) fl_X3_9 t hg ha hv hd kk
theorem pf_X3_9 (C : qw_C p l s m args meth c D A nL cc RX3 ret) (hin2 : meth.name = "<init>") {a : Nat} {fs fs' : List Value} {v : Value} (t : Nat) (hg : g t = some (.inr (2, fs))) (ha : ad t = a) (hn : narrow (.array .int) v = v) (hfit : fits (.array .int) v = true) (hl0 : 0 < fs.length) (hfs : fs.set 0 v = fs') (hd : decode cc pc = .ok (.putfield 9, 3)) (kk : qw_W p l e R s m args below meth c D A nL Q k n ad (va_up g t (some (.inr (2, fs')))) (pc + 3) lv st) : qw_W p l e R s m args below meth c D A nL Q k n ad g pc lv (v :: .ref a :: st) := qr_putF C qi_X3 tyX3 tyX3_ok nmX3 0 (by decide) fl_X3_9 rfl hin2 rfl (by decide +kernel) t hg ha hn hfit hl0 hfs hd kk
set_option maxRecDepth 20000 in
theorem fl_X6_186 : qw_tb (.fieldLinkNest RX6 186 (TX3 0).1 (TX3 0).2.1 (TX3 0).2.2.1 RX6) := qw_tbi 63 (by decide +kernel) rfl
theorem gf_X6_186 (C : qw_C p l s m args meth c D A nL cc RX6 ret) {a : Nat} {fs : List Value} {v : Value} (t : Nat) (hg : g t = some (.inr (2, fs))) (ha : ad t = a) (hv : fs[0]? = some v) (hd : decode cc pc = .ok (.getfield 186, 3)) (kk : qw_W p l e R s m args below meth c D A nL Q k n ad g (pc + 3) lv (v :: st)) : qw_W p l e R s m args below meth c D A nL Q k n ad g pc lv (.ref a :: st) := qr_getN C qi_X3 0 (by decide) fl_X6_186 t hg ha hv hd kk
set_option maxRecDepth 20000 in
theorem fl_X3_39 : qw_tb (.fieldLink RX3 39 (TX3 1).1 (TX3 1).2.1 (TX3 1).2.2.1) := qw_tbi 64 (by decide +kernel) rfl
theorem gf_X3_39 (C : qw_C p l s m args meth c D A nL cc RX3 ret) {a : Nat} {fs : List Value} {v : Value} (t : Nat) (hg : g t = some (.inr (2, fs))) (ha : ad t = a) (hv : fs[1]? = some v) (hd : decode cc pc = .ok (.getfield 39, 3)) (kk : qw_W p l e R s m args below meth c D A nL Q k n ad g (pc + 3) lv (v :: st)) : qw_W p l e R s m args below meth c D A nL Q k n ad g pc lv (.ref a :: st) := qr_get C qi_X3 1 (by decide) fl_X3_39 t hg ha hv hd kk
theorem pf_X3_39 (C : qw_C p l s m args meth c D A nL cc RX3 ret) {a : Nat} {fs fs' : List Value} {v : Value} (t : Nat) (hg : g t = some (.inr (2, fs))) (ha : ad t = a) (hn : narrow .boolean v = v) (hfit : fits .boolean v = true) (hl0 : 1 < fs.length) (hfs : fs.set 1 v = fs') (hd : decode cc pc = .ok (.putfield 39, 3)) (kk : qw_W p l e R s m args below meth c D A nL Q k n ad (va_up g t (some (.inr (2, fs')))) (pc + 3) lv st) : qw_W p l e R s m args below meth c D A nL Q k n ad g pc lv (v :: .ref a :: st) := qr_put C qi_X3 tyX3 tyX3_ok nmX3 1 (by decide) fl_X3_39 rfl (by decide +kernel) t hg ha hn hfit hl0 hfs hd kk
set_option maxRecDepth 20000 in
theorem fl_X6_180 : qw_tb (.fieldLinkNest RX6 180 (TX3 1).1 (TX3 1).2.1 (TX3 1).2.2.1 RX6) := qw_tbi 65 (by decide +kernel) rfl
theorem gf_X6_180 (C : qw_C p l s m args meth c D A nL cc RX6 ret) {a : Nat} {fs : List Value} {v : Value} (t : Nat) (hg : g t = some (.inr (2, fs))) (ha : ad t = a) (hv : fs[1]? = some v) (hd : decode cc pc = .ok (.getfield 180, 3)) (kk : qw_W p l e R s m args below meth c D A nL Q k n ad g (pc + 3) lv (v :: st)) : qw_W p l e R s m args below meth c D A nL Q k n ad g pc lv (.ref a :: st) := qr_getN C qi_X3 1 (by decide) fl_X6_180 t hg ha hv hd kk
theorem pf_X6_180 (C : qw_C p l s m args meth c D A nL cc RX6 ret) {a : Nat} {fs fs' : List Value} {v : Value} (t : Nat) (hg : g t = some (.inr (2, fs))) (ha : ad t = a) (hn : narrow .boolean v = v) (hfit : fits .boolean v = true) (hl0 : 1 < fs.length) (hfs : fs.set 1 v = fs') (hd : decode cc pc = .ok (.putfield 180, 3)) (kk : qw_W p l e R s m args below meth c D A nL Q k n ad (va_up g t (some (.inr (2, fs')))) (pc + 3) lv st) : qw_W p l e R s m args below meth c D A nL Q k n ad g pc lv (v :: .ref a :: st) := qr_putN C qi_X3 tyX3 tyX3_ok nmX3 1 (by decide) fl_X6_180 rfl (by decide +kernel) t hg ha hn hfit hl0 hfs hd kk
set_option maxRecDepth 20000 in
theorem fl_X3_26 : qw_tb (.fieldLink RX3 26 (TX3 2).1 (TX3 2).2.1 (TX3 2).2.2.1) := qw_tbi 66 (by decide +kernel) rfl
theorem gf_X3_26 (C : qw_C p l s m args meth c D A nL cc RX3 ret) {a : Nat} {fs : List Value} {v : Value} (t : Nat) (hg : g t = some (.inr (2, fs))) (ha : ad t = a) (hv : fs[2]? = some v) (hd : decode cc pc = .ok (.getfield 26, 3)) (kk : qw_W p l e R s m args below meth c D A nL Q k n ad g (pc + 3) lv (v :: st)) : qw_W p l e R s m args below meth c D A nL Q k n ad g pc lv (.ref a :: st) := qr_get C qi_X3 2 (by decide) fl_X3_26 t hg ha hv hd kk
theorem pf_X3_26 (C : qw_C p l s m args meth c D A nL cc RX3 ret) {a : Nat} {fs fs' : List Value} {v : Value} (t : Nat) (hg : g t = some (.inr (2, fs))) (ha : ad t = a) (hn : narrow .int v = v) (hfit : fits .int v = true) (hl0 : 2 < fs.length) (hfs : fs.set 2 v = fs') (hd : decode cc pc = .ok (.putfield 26, 3)) (kk : qw_W p l e R s m args below meth c D A nL Q k n ad (va_up g t (some (.inr (2, fs')))) (pc + 3) lv st) : qw_W p l e R s m args below meth c D A nL Q k n ad g pc lv (v :: .ref a :: st) := qr_put C qi_X3 tyX3 tyX3_ok nmX3 2 (by decide) fl_X3_26 rfl (by decide +kernel) t hg ha hn hfit hl0 hfs hd kk
set_option maxRecDepth 20000 in
theorem fl_X6_189 : qw_tb (.fieldLinkNest RX6 189 (TX3 2).1 (TX3 2).2.1 (TX3 2).2.2.1 RX6) := qw_tbi 67 (by decide +kernel) rfl
theorem gf_X6_189 (C : qw_C p l s m args meth c D A nL cc RX6 ret) {a : Nat} {fs : List Value} {v : Value} (t : Nat) (hg : g t = some (.inr (2, fs))) (ha : ad t = a) (hv : fs[2]? = some v) (hd : decode cc pc = .ok (.getfield 189, 3)) (kk : qw_W p l e R s m args below meth c D A nL Q k n ad g (pc + 3) lv (v :: st)) : qw_W p l e R s m args below meth c D A nL Q k n ad g pc lv (.ref a :: st) := qr_getN C qi_X3 2 (by decide) fl_X6_189 t hg ha hv hd kk
theorem pf_X6_189 (C : qw_C p l s m args meth c D A nL cc RX6 ret) {a : Nat} {fs fs' : List Value} {v : Value} (t : Nat) (hg : g t = some (.inr (2, fs))) (ha : ad t = a) (hn : narrow .int v = v) (hfit : fits .int v = true) (hl0 : 2 < fs.length) (hfs : fs.set 2 v = fs') (hd : decode cc pc = .ok (.putfield 189, 3)) (kk : qw_W p l e R s m args below meth c D A nL Q k n ad (va_up g t (some (.inr (2, fs')))) (pc + 3) lv st) : qw_W p l e R s m args below meth c D A nL Q k n ad g pc lv (v :: .ref a :: st) := qr_putN C qi_X3 tyX3 tyX3_ok nmX3 2 (by decide) fl_X6_189 rfl (by decide +kernel) t hg ha hn hfit hl0 hfs hd kk
set_option maxRecDepth 20000 in
theorem fl_X3_30 : qw_tb (.fieldLink RX3 30 (TX3 3).1 (TX3 3).2.1 (TX3 3).2.2.1) := qw_tbi 68 (by decide +kernel) rfl
theorem gf_X3_30 (C : qw_C p l s m args meth c D A nL cc RX3 ret) {a : Nat} {fs : List Value} {v : Value} (t : Nat) (hg : g t = some (.inr (2, fs))) (ha : ad t = a) (hv : fs[3]? = some v) (hd : decode cc pc = .ok (.getfield 30, 3)) (kk : qw_W p l e R s m args below meth c D A nL Q k n ad g (pc + 3) lv (v :: st)) : qw_W p l e R s m args below meth c D A nL Q k n ad g pc lv (.ref a :: st) := qr_get C qi_X3 3 (by decide) fl_X3_30 t hg ha hv hd kk
theorem pf_X3_30 (C : qw_C p l s m args meth c D A nL cc RX3 ret) {a : Nat} {fs fs' : List Value} {v : Value} (t : Nat) (hg : g t = some (.inr (2, fs))) (ha : ad t = a) (hn : narrow .int v = v) (hfit : fits .int v = true) (hl0 : 3 < fs.length) (hfs : fs.set 3 v = fs') (hd : decode cc pc = .ok (.putfield 30, 3)) (kk : qw_W p l e R s m args below meth c D A nL Q k n ad (va_up g t (some (.inr (2, fs')))) (pc + 3) lv st) : qw_W p l e R s m args below meth c D A nL Q k n ad g pc lv (v :: .ref a :: st) := qr_put C qi_X3 tyX3 tyX3_ok nmX3 3 (by decide) fl_X3_30 rfl (by decide +kernel) t hg ha hn hfit hl0 hfs hd kk
set_option maxRecDepth 20000 in
theorem fl_X6_172 : qw_tb (.fieldLinkNest RX6 172 (TX3 3).1 (TX3 3).2.1 (TX3 3).2.2.1 RX6) := qw_tbi 69 (by decide +kernel) rfl
theorem gf_X6_172 (C : qw_C p l s m args meth c D A nL cc RX6 ret) {a : Nat} {fs : List Value} {v : Value} (t : Nat) (hg : g t = some (.inr (2, fs))) (ha : ad t = a) (hv : fs[3]? = some v) (hd : decode cc pc = .ok (.getfield 172, 3)) (kk : qw_W p l e R s m args below meth c D A nL Q k n ad g (pc + 3) lv (v :: st)) : qw_W p l e R s m args below meth c D A nL Q k n ad g pc lv (.ref a :: st) := qr_getN C qi_X3 3 (by decide) fl_X6_172 t hg ha hv hd kk
theorem pf_X6_172 (C : qw_C p l s m args meth c D A nL cc RX6 ret) {a : Nat} {fs fs' : List Value} {v : Value} (t : Nat) (hg : g t = some (.inr (2, fs))) (ha : ad t = a) (hn : narrow .int v = v) (hfit : fits .int v = true) (hl0 : 3 < fs.length) (hfs : fs.set 3 v = fs') (hd : decode cc pc = .ok (.putfield 172, 3)) (kk : qw_W p l e R s m args below meth c D A nL Q k n ad (va_up g t (some (.inr (2, fs')))) (pc + 3) lv st) : qw_W p l e R s m args below meth c D A nL Q k n ad g pc lv (v :: .ref a :: st) := qr_putN C qi_X3 tyX3 tyX3_ok nmX3 3 (by decide) fl_X6_172 rfl (by decide +kernel) t hg ha hn hfit hl0 hfs hd kk
set_option maxRecDepth 20000 in
theorem fl_X3_36 : qw_tb (.fieldLink RX3 36 (TX3 4).1 (TX3 4).2.1 (TX3 4).2.2.1) := qw_tbi 70 (by decide +kernel) rfl
theorem gf_X3_36 (C : qw_C p l s m args meth c D A nL cc RX3 ret) {a : Nat} {fs : List Value} {v : Value} (t : Nat) (hg : g t = some (.inr (2, fs))) (ha : ad t = a) (hv : fs[4]? = some v) (hd : decode cc pc = .ok (.getfield 36, 3)) (kk : qw_W p l e R s m args below meth c D A nL Q k n ad g (pc + 3) lv (v :: st)) : qw_W p l e R s m args below meth c D A nL Q k n ad g pc lv (.ref a :: st) := qr_get C qi_X3 4 (by decide) fl_X3_36 t hg ha hv hd kk
theorem pf_X3_36 (C : qw_C p l s m args meth c D A nL cc RX3 ret) {a : Nat} {fs fs' : List Value} {v : Value} (t : Nat) (hg : g t = some (.inr (2, fs))) (ha : ad t = a) (hn : narrow .int v = v) (hfit : fits .int v = true) (hl0 : 4 < fs.length) (hfs : fs.set 4 v = fs') (hd : decode cc pc = .ok (.putfield 36, 3)) (kk : qw_W p l e R s m args below meth c D A nL Q k n ad (va_up g t (some (.inr (2, fs')))) (pc + 3) lv st) : qw_W p l e R s m args below meth c D A nL Q k n ad g pc lv (v :: .ref a :: st) := qr_put C qi_X3 tyX3 tyX3_ok nmX3 4 (by decide) fl_X3_36 rfl (by decide +kernel) t hg ha hn hfit hl0 hfs hd kk
set_option maxRecDepth 20000 in
theorem fl_X6_192 : qw_tb (.fieldLinkNest RX6 192 (TX3 4).1 (TX3 4).2.1 (TX3 4).2.2.1 RX6) := qw_tbi 71 (by decide +kernel) rfl
theorem gf_X6_192 (C : qw_C p l s m args meth c D A nL cc RX6 ret) {a : Nat} {fs : List Value} {v : Value} (t : Nat) (hg : g t = some (.inr (2, fs))) (ha : ad t = a) (hv : fs[4]? = some v) (hd : decode cc pc = .ok (.getfield 192, 3)) (kk : qw_W p l e R s m args below meth c D A nL Q k n ad g (pc + 3) lv (v :: st)) : qw_W p l e R s m args below meth c D A nL Q k n ad g pc lv (.ref a :: st) := qr_getN C qi_X3 4 (by decide) fl_X6_192 t hg ha hv hd kk
theorem pf_X6_192 (C : qw_C p l s m args meth c D A nL cc RX6 ret) {a : Nat} {fs fs' : List Value} {v : Value} (t : Nat) (hg : g t = some (.inr (2, fs))) (ha : ad t = a) (hn : narrow .int v = v) (hfit : fits .int v = true) (hl0 : 4 < fs.length) (hfs : fs.set 4 v = fs') (hd : decode cc pc = .ok (.putfield 192, 3)) (kk : qw_W p l e R s m args below meth c D A nL Q k n ad (va_up g t (some (.inr (2, fs')))) (pc + 3) lv st) : qw_W p l e R s m args below meth c D A nL Q k n ad g pc lv (v :: .ref a :: st) := qr_putN C qi_X3 tyX3 tyX3_ok nmX3 4 (by decide) fl_X6_192 rfl (by decide +kernel) t hg ha hn hfit hl0 hfs hd kk
set_option maxRecDepth 20000 in
theorem fl_X5_9 : qw_tb (.fieldLink RX5 9 (TX5 0).1 (TX5 0).2.1 (TX5 0).2.2.1) := qw_tbi 84 (by decide +kernel) rfl
theorem gf_X5_9 (C : qw_C p l s m args meth c D A nL cc RX5 ret) {a : Nat} {fs : List Value} {v : Value} (t : Nat) (hg : g t = some (.inr (4, fs))) (ha : ad t = a) (hv : fs[0]? = some v) (hd : decode cc pc = .ok (.getfield 9, 3)) (kk : qw_W p l e R s m args below meth c D A nL Q k n ad g (pc + 3) lv (v :: st)) : qw_W p l e R s m args below meth c D A nL Q k n ad g pc lv (.ref a :: st) := qr_get C qi_X5 0 (by decide) fl_X5_9 t hg ha hv hd kk
theorem pf_X5_9 (C : qw_C p l s m args meth c D A nL cc RX5 ret) (hin2 : meth.name = "<init>") {a : Nat} {fs fs' : List Value} {v : Value} (t : Nat) (hg : g t = some (.inr (4, fs))) (ha : ad t = a) (hn : narrow (.array .int) v = v) (hfit : fits (.array .int) v = true) (hl0 : 0 < fs.length) (hfs : fs.set 0 v = fs') (hd : decode cc pc = .ok (.putfield 9, 3)) (kk : qw_W p l e R s m args below meth c D A nL Q k n ad (va_up g t (some (.inr (4, fs')))) (pc + 3) lv st) : qw_W p l e R s m args below meth c D A nL Q k n ad g pc lv (v :: .ref a :: st) := qr_putF C qi_X5 tyX5 tyX5_ok nmX5 0 (by decide) fl_X5_9 rfl hin2 rfl (by decide +kernel) t hg ha hn hfit hl0 hfs hd kk
set_option maxRecDepth 20000 in
theorem fl_X3_15 : qw_tb (.fieldLinkNest RX3 15 (TX5 0).1 (TX5 0).2.1 (TX5 0).2.2.1 RX6) := qw_tbi 85 (by decide +kernel) rfl
theorem gf_X3_15 (C : qw_C p l s m args meth c D A nL cc RX3 ret) {a : Nat} {fs : List Value} {v : Value} (t : Nat) (hg : g t = some (.inr (4, fs))) (ha : ad t = a) (hv : fs[0]? = some v) (hd : decode cc pc = .ok (.getfield 15, 3)) (kk : qw_W p l e R s m args below meth c D A nL Q k n ad g (pc + 3) lv (v :: st)) : qw_W p l e R s m args below meth c D A nL Q k n ad g pc lv (.ref a :: st) := qr_getN C qi_X5 0 (by decide) fl_X3_15 t hg ha hv hd kk
set_option maxRecDepth 20000 in
theorem fl_X6_101 : qw_tb (.fieldLinkNest RX6 101 (TX5 0).1 (TX5 0).2.1 (TX5 0).2.2.1 RX6) := qw_tbi 86 (by decide +kernel) rfl
theorem gf_X6_101 (C : qw_C p l s m args meth c D A nL cc RX6 ret) {a : Nat} {fs : List Value} {v : Value} (t : Nat) (hg : g t = some (.inr (4, fs))) (ha : ad t = a) (hv : fs[0]? = some v) (hd : decode cc pc = .ok (.getfield 101, 3)) (kk : qw_W p l e R s m args below meth c D A nL Q k n ad g (pc + 3) lv (v :: st)) : qw_W p l e R s m args below meth c D A nL Q k n ad g pc lv (.ref a :: st) := qr_getN C qi_X5 0 (by decide) fl_X6_101 t hg ha hv hd kk
set_option maxRecDepth 20000 in
theorem fl_X5_17 : qw_tb (.fieldLink RX5 17 (TX5 1).1 (TX5 1).2.1 (TX5 1).2.2.1) := qw_tbi 87 (by decide +kernel) rfl
theorem gf_X5_17 (C : qw_C p l s m args meth c D A nL cc RX5 ret) {a : Nat} {fs : List Value} {v : Value} (t : Nat) (hg : g t = some (.inr (4, fs))) (ha : ad t = a) (hv : fs[1]? = some v) (hd : decode cc pc = .ok (.getfield 17, 3)) (kk : qw_W p l e R s m args below meth c D A nL Q k n ad g (pc + 3) lv (v :: st)) : qw_W p l e R s m args below meth c D A nL Q k n ad g pc lv (.ref a :: st) := qr_get C qi_X5 1 (by decide) fl_X5_17 t hg ha hv hd kk
theorem pf_X5_17 (C : qw_C p l s m args meth c D A nL cc RX5 ret) (hin2 : meth.name = "<init>") {a : Nat} {fs fs' : List Value} {v : Value} (t : Nat) (hg : g t = some (.inr (4, fs))) (ha : ad t = a) (hn : narrow (.array (.object "Pivotforge$Report")) v = v) (hfit : fits (.array (.object "Pivotforge$Report")) v = true) (hl0 : 1 < fs.length) (hfs : fs.set 1 v = fs') (hd : decode cc pc = .ok (.putfield 17, 3)) (kk : qw_W p l e R s m args below meth c D A nL Q k n ad (va_up g t (some (.inr (4, fs')))) (pc + 3) lv st) : qw_W p l e R s m args below meth c D A nL Q k n ad g pc lv (v :: .ref a :: st) := qr_putF C qi_X5 tyX5 tyX5_ok nmX5 1 (by decide) fl_X5_17 rfl hin2 rfl (by decide +kernel) t hg ha hn hfit hl0 hfs hd kk
set_option maxRecDepth 20000 in
theorem fl_X6_209 : qw_tb (.fieldLinkNest RX6 209 (TX5 1).1 (TX5 1).2.1 (TX5 1).2.2.1 RX6) := qw_tbi 88 (by decide +kernel) rfl
theorem gf_X6_209 (C : qw_C p l s m args meth c D A nL cc RX6 ret) {a : Nat} {fs : List Value} {v : Value} (t : Nat) (hg : g t = some (.inr (4, fs))) (ha : ad t = a) (hv : fs[1]? = some v) (hd : decode cc pc = .ok (.getfield 209, 3)) (kk : qw_W p l e R s m args below meth c D A nL Q k n ad g (pc + 3) lv (v :: st)) : qw_W p l e R s m args below meth c D A nL Q k n ad g pc lv (.ref a :: st) := qr_getN C qi_X5 1 (by decide) fl_X6_209 t hg ha hv hd kk
set_option maxRecDepth 20000 in
theorem fl_X6_94 : qw_tb (.fieldLinkNest RX6 94 (TX5 2).1 (TX5 2).2.1 (TX5 2).2.2.1 RX6) := qw_tbi 89 (by decide +kernel) rfl
theorem gf_X6_94 (C : qw_C p l s m args meth c D A nL cc RX6 ret) {a : Nat} {fs : List Value} {v : Value} (t : Nat) (hg : g t = some (.inr (4, fs))) (ha : ad t = a) (hv : fs[2]? = some v) (hd : decode cc pc = .ok (.getfield 94, 3)) (kk : qw_W p l e R s m args below meth c D A nL Q k n ad g (pc + 3) lv (v :: st)) : qw_W p l e R s m args below meth c D A nL Q k n ad g pc lv (.ref a :: st) := qr_getN C qi_X5 2 (by decide) fl_X6_94 t hg ha hv hd kk
theorem pf_X6_94 (C : qw_C p l s m args meth c D A nL cc RX6 ret) {a : Nat} {fs fs' : List Value} {v : Value} (t : Nat) (hg : g t = some (.inr (4, fs))) (ha : ad t = a) (hn : narrow .boolean v = v) (hfit : fits .boolean v = true) (hl0 : 2 < fs.length) (hfs : fs.set 2 v = fs') (hd : decode cc pc = .ok (.putfield 94, 3)) (kk : qw_W p l e R s m args below meth c D A nL Q k n ad (va_up g t (some (.inr (4, fs')))) (pc + 3) lv st) : qw_W p l e R s m args below meth c D A nL Q k n ad g pc lv (v :: .ref a :: st) := qr_putN C qi_X5 tyX5 tyX5_ok nmX5 2 (by decide) fl_X6_94 rfl (by decide +kernel) t hg ha hn hfit hl0 hfs hd kk
set_option maxRecDepth 20000 in
theorem fl_X3_33 : qw_tb (.fieldLinkNest RX3 33 (TX5 3).1 (TX5 3).2.1 (TX5 3).2.2.1 RX6) := qw_tbi 90 (by decide +kernel) rfl
theorem gf_X3_33 (C : qw_C p l s m args meth c D A nL cc RX3 ret) {a : Nat} {fs : List Value} {v : Value} (t : Nat) (hg : g t = some (.inr (4, fs))) (ha : ad t = a) (hv : fs[3]? = some v) (hd : decode cc pc = .ok (.getfield 33, 3)) (kk : qw_W p l e R s m args below meth c D A nL Q k n ad g (pc + 3) lv (v :: st)) : qw_W p l e R s m args below meth c D A nL Q k n ad g pc lv (.ref a :: st) := qr_getN C qi_X5 3 (by decide) fl_X3_33 t hg ha hv hd kk
theorem pf_X3_33 (C : qw_C p l s m args meth c D A nL cc RX3 ret) {a : Nat} {fs fs' : List Value} {v : Value} (t : Nat) (hg : g t = some (.inr (4, fs))) (ha : ad t = a) (hn : narrow .int v = v) (hfit : fits .int v = true) (hl0 : 3 < fs.length) (hfs : fs.set 3 v = fs') (hd : decode cc pc = .ok (.putfield 33, 3)) (kk : qw_W p l e R s m args below meth c D A nL Q k n ad (va_up g t (some (.inr (4, fs')))) (pc + 3) lv st) : qw_W p l e R s m args below meth c D A nL Q k n ad g pc lv (v :: .ref a :: st) := qr_putN C qi_X5 tyX5 tyX5_ok nmX5 3 (by decide) fl_X3_33 rfl (by decide +kernel) t hg ha hn hfit hl0 hfs hd kk
set_option maxRecDepth 20000 in
theorem fl_X6_67 : qw_tb (.fieldLinkNest RX6 67 (TX5 3).1 (TX5 3).2.1 (TX5 3).2.2.1 RX6) := qw_tbi 91 (by decide +kernel) rfl
theorem gf_X6_67 (C : qw_C p l s m args meth c D A nL cc RX6 ret) {a : Nat} {fs : List Value} {v : Value} (t : Nat) (hg : g t = some (.inr (4, fs))) (ha : ad t = a) (hv : fs[3]? = some v) (hd : decode cc pc = .ok (.getfield 67, 3)) (kk : qw_W p l e R s m args below meth c D A nL Q k n ad g (pc + 3) lv (v :: st)) : qw_W p l e R s m args below meth c D A nL Q k n ad g pc lv (.ref a :: st) := qr_getN C qi_X5 3 (by decide) fl_X6_67 t hg ha hv hd kk
theorem pf_X6_67 (C : qw_C p l s m args meth c D A nL cc RX6 ret) {a : Nat} {fs fs' : List Value} {v : Value} (t : Nat) (hg : g t = some (.inr (4, fs))) (ha : ad t = a) (hn : narrow .int v = v) (hfit : fits .int v = true) (hl0 : 3 < fs.length) (hfs : fs.set 3 v = fs') (hd : decode cc pc = .ok (.putfield 67, 3)) (kk : qw_W p l e R s m args below meth c D A nL Q k n ad (va_up g t (some (.inr (4, fs')))) (pc + 3) lv st) : qw_W p l e R s m args below meth c D A nL Q k n ad g pc lv (v :: .ref a :: st) := qr_putN C qi_X5 tyX5 tyX5_ok nmX5 3 (by decide) fl_X6_67 rfl (by decide +kernel) t hg ha hn hfit hl0 hfs hd kk
set_option maxRecDepth 20000 in
theorem fl_X2_13 : qw_tb (.fieldLink RX2 13 (TX2 0).1 (TX2 0).2.1 (TX2 0).2.2.1) := qw_tbi 113 (by decide +kernel) rfl
theorem gf_X2_13 (C : qw_C p l s m args meth c D A nL cc RX2 ret) {a : Nat} {fs : List Value} {v : Value} (t : Nat) (hg : g t = some (.inr (1, fs))) (ha : ad t = a) (hv : fs[0]? = some v) (hd : decode cc pc = .ok (.getfield 13, 3)) (kk : qw_W p l e R s m args below meth c D A nL Q k n ad g (pc + 3) lv (v :: st)) : qw_W p l e R s m args below meth c D A nL Q k n ad g pc lv (.ref a :: st) := qr_get C qi_X2 0 (by decide) fl_X2_13 t hg ha hv hd kk
theorem pf_X2_13 (C : qw_C p l s m args meth c D A nL cc RX2 ret) (hin2 : meth.name = "<init>") {a : Nat} {fs fs' : List Value} {v : Value} (t : Nat) (hg : g t = some (.inr (1, fs))) (ha : ad t = a) (hn : narrow (.array (.array .int)) v = v) (hfit : fits (.array (.array .int)) v = true) (hl0 : 0 < fs.length) (hfs : fs.set 0 v = fs') (hd : decode cc pc = .ok (.putfield 13, 3)) (kk : qw_W p l e R s m args below meth c D A nL Q k n ad (va_up g t (some (.inr (1, fs')))) (pc + 3) lv st) : qw_W p l e R s m args below meth c D A nL Q k n ad g pc lv (v :: .ref a :: st) := qr_putF C qi_X2 tyX2 tyX2_ok nmX2 0 (by decide) fl_X2_13 rfl hin2 rfl (by decide +kernel) t hg ha hn hfit hl0 hfs hd kk
set_option maxRecDepth 20000 in
theorem fl_X6_11 : qw_tb (.fieldLink RX6 11 (TX6 0).1 (TX6 0).2.1 (TX6 0).2.2.1) := qw_tbi 117 (by decide +kernel) rfl
theorem gf_X6_11 (C : qw_C p l s m args meth c D A nL cc RX6 ret) {a : Nat} {fs : List Value} {v : Value} (t : Nat) (hg : g t = some (.inr (5, fs))) (ha : ad t = a) (hv : fs[0]? = some v) (hd : decode cc pc = .ok (.getfield 11, 3)) (kk : qw_W p l e R s m args below meth c D A nL Q k n ad g (pc + 3) lv (v :: st)) : qw_W p l e R s m args below meth c D A nL Q k n ad g pc lv (.ref a :: st) := qr_get C qi_X6 0 (by decide) fl_X6_11 t hg ha hv hd kk
theorem pf_X6_11 (C : qw_C p l s m args meth c D A nL cc RX6 ret) (hin2 : meth.name = "<init>") {a : Nat} {fs fs' : List Value} {v : Value} (t : Nat) (hg : g t = some (.inr (5, fs))) (ha : ad t = a) (hn : narrow (.array (.object "Pivotforge$Table")) v = v) (hfit : fits (.array (.object "Pivotforge$Table")) v = true) (hl0 : 0 < fs.length) (hfs : fs.set 0 v = fs') (hd : decode cc pc = .ok (.putfield 11, 3)) (kk : qw_W p l e R s m args below meth c D A nL Q k n ad (va_up g t (some (.inr (5, fs')))) (pc + 3) lv st) : qw_W p l e R s m args below meth c D A nL Q k n ad g pc lv (v :: .ref a :: st) := qr_putF C qi_X6 tyX6 tyX6_ok nmX6 0 (by decide) fl_X6_11 rfl hin2 rfl (by decide +kernel) t hg ha hn hfit hl0 hfs hd kk
set_option maxRecDepth 20000 in
theorem fl_X6_18 : qw_tb (.fieldLink RX6 18 (TX6 1).1 (TX6 1).2.1 (TX6 1).2.2.1) := qw_tbi 118 (by decide +kernel) rfl
theorem gf_X6_18 (C : qw_C p l s m args meth c D A nL cc RX6 ret) {a : Nat} {fs : List Value} {v : Value} (t : Nat) (hg : g t = some (.inr (5, fs))) (ha : ad t = a) (hv : fs[1]? = some v) (hd : decode cc pc = .ok (.getfield 18, 3)) (kk : qw_W p l e R s m args below meth c D A nL Q k n ad g (pc + 3) lv (v :: st)) : qw_W p l e R s m args below meth c D A nL Q k n ad g pc lv (.ref a :: st) := qr_get C qi_X6 1 (by decide) fl_X6_18 t hg ha hv hd kk
theorem pf_X6_18 (C : qw_C p l s m args meth c D A nL cc RX6 ret) (hin2 : meth.name = "<init>") {a : Nat} {fs fs' : List Value} {v : Value} (t : Nat) (hg : g t = some (.inr (5, fs))) (ha : ad t = a) (hn : narrow (.array (.object "Pivotforge$Sale")) v = v) (hfit : fits (.array (.object "Pivotforge$Sale")) v = true) (hl0 : 1 < fs.length) (hfs : fs.set 1 v = fs') (hd : decode cc pc = .ok (.putfield 18, 3)) (kk : qw_W p l e R s m args below meth c D A nL Q k n ad (va_up g t (some (.inr (5, fs')))) (pc + 3) lv st) : qw_W p l e R s m args below meth c D A nL Q k n ad g pc lv (v :: .ref a :: st) := qr_putF C qi_X6 tyX6 tyX6_ok nmX6 1 (by decide) fl_X6_18 rfl hin2 rfl (by decide +kernel) t hg ha hn hfit hl0 hfs hd kk
set_option maxRecDepth 20000 in
theorem fl_X6_24 : qw_tb (.fieldLink RX6 24 (TX6 2).1 (TX6 2).2.1 (TX6 2).2.2.1) := qw_tbi 119 (by decide +kernel) rfl
theorem gf_X6_24 (C : qw_C p l s m args meth c D A nL cc RX6 ret) {a : Nat} {fs : List Value} {v : Value} (t : Nat) (hg : g t = some (.inr (5, fs))) (ha : ad t = a) (hv : fs[2]? = some v) (hd : decode cc pc = .ok (.getfield 24, 3)) (kk : qw_W p l e R s m args below meth c D A nL Q k n ad g (pc + 3) lv (v :: st)) : qw_W p l e R s m args below meth c D A nL Q k n ad g pc lv (.ref a :: st) := qr_get C qi_X6 2 (by decide) fl_X6_24 t hg ha hv hd kk
theorem pf_X6_24 (C : qw_C p l s m args meth c D A nL cc RX6 ret) (hin2 : meth.name = "<init>") {a : Nat} {fs fs' : List Value} {v : Value} (t : Nat) (hg : g t = some (.inr (5, fs))) (ha : ad t = a) (hn : narrow (.array (.object "Pivotforge$Embargo")) v = v) (hfit : fits (.array (.object "Pivotforge$Embargo")) v = true) (hl0 : 2 < fs.length) (hfs : fs.set 2 v = fs') (hd : decode cc pc = .ok (.putfield 24, 3)) (kk : qw_W p l e R s m args below meth c D A nL Q k n ad (va_up g t (some (.inr (5, fs')))) (pc + 3) lv st) : qw_W p l e R s m args below meth c D A nL Q k n ad g pc lv (v :: .ref a :: st) := qr_putF C qi_X6 tyX6 tyX6_ok nmX6 2 (by decide) fl_X6_24 rfl hin2 rfl (by decide +kernel) t hg ha hn hfit hl0 hfs hd kk
set_option maxRecDepth 20000 in
theorem fl_X6_31 : qw_tb (.fieldLink RX6 31 (TX6 3).1 (TX6 3).2.1 (TX6 3).2.2.1) := qw_tbi 120 (by decide +kernel) rfl
theorem gf_X6_31 (C : qw_C p l s m args meth c D A nL cc RX6 ret) {a : Nat} {fs : List Value} {v : Value} (t : Nat) (hg : g t = some (.inr (5, fs))) (ha : ad t = a) (hv : fs[3]? = some v) (hd : decode cc pc = .ok (.getfield 31, 3)) (kk : qw_W p l e R s m args below meth c D A nL Q k n ad g (pc + 3) lv (v :: st)) : qw_W p l e R s m args below meth c D A nL Q k n ad g pc lv (.ref a :: st) := qr_get C qi_X6 3 (by decide) fl_X6_31 t hg ha hv hd kk
theorem pf_X6_31 (C : qw_C p l s m args meth c D A nL cc RX6 ret) (hin2 : meth.name = "<init>") {a : Nat} {fs fs' : List Value} {v : Value} (t : Nat) (hg : g t = some (.inr (5, fs))) (ha : ad t = a) (hn : narrow (.object "Pivotforge$Equations") v = v) (hfit : fits (.object "Pivotforge$Equations") v = true) (hl0 : 3 < fs.length) (hfs : fs.set 3 v = fs') (hd : decode cc pc = .ok (.putfield 31, 3)) (kk : qw_W p l e R s m args below meth c D A nL Q k n ad (va_up g t (some (.inr (5, fs')))) (pc + 3) lv st) : qw_W p l e R s m args below meth c D A nL Q k n ad g pc lv (v :: .ref a :: st) := qr_putF C qi_X6 tyX6 tyX6_ok nmX6 3 (by decide) fl_X6_31 rfl hin2 rfl (by decide +kernel) t hg ha hn hfit hl0 hfs hd kk
set_option maxRecDepth 20000 in
theorem fl_X6_51 : qw_tb (.fieldLink RX6 51 (TX6 4).1 (TX6 4).2.1 (TX6 4).2.2.1) := qw_tbi 121 (by decide +kernel) rfl
theorem gf_X6_51 (C : qw_C p l s m args meth c D A nL cc RX6 ret) {a : Nat} {fs : List Value} {v : Value} (t : Nat) (hg : g t = some (.inr (5, fs))) (ha : ad t = a) (hv : fs[4]? = some v) (hd : decode cc pc = .ok (.getfield 51, 3)) (kk : qw_W p l e R s m args below meth c D A nL Q k n ad g (pc + 3) lv (v :: st)) : qw_W p l e R s m args below meth c D A nL Q k n ad g pc lv (.ref a :: st) := qr_get C qi_X6 4 (by decide) fl_X6_51 t hg ha hv hd kk
theorem pf_X6_51 (C : qw_C p l s m args meth c D A nL cc RX6 ret) {a : Nat} {fs fs' : List Value} {v : Value} (t : Nat) (hg : g t = some (.inr (5, fs))) (ha : ad t = a) (hn : narrow .int v = v) (hfit : fits .int v = true) (hl0 : 4 < fs.length) (hfs : fs.set 4 v = fs') (hd : decode cc pc = .ok (.putfield 51, 3)) (kk : qw_W p l e R s m args below meth c D A nL Q k n ad (va_up g t (some (.inr (5, fs')))) (pc + 3) lv st) : qw_W p l e R s m args below meth c D A nL Q k n ad g pc lv (v :: .ref a :: st) := qr_put C qi_X6 tyX6 tyX6_ok nmX6 4 (by decide) fl_X6_51 rfl (by decide +kernel) t hg ha hn hfit hl0 hfs hd kk
set_option maxRecDepth 20000 in
theorem fl_X6_113 : qw_tb (.fieldLink RX6 113 (TX6 5).1 (TX6 5).2.1 (TX6 5).2.2.1) := qw_tbi 122 (by decide +kernel) rfl
theorem gf_X6_113 (C : qw_C p l s m args meth c D A nL cc RX6 ret) {a : Nat} {fs : List Value} {v : Value} (t : Nat) (hg : g t = some (.inr (5, fs))) (ha : ad t = a) (hv : fs[5]? = some v) (hd : decode cc pc = .ok (.getfield 113, 3)) (kk : qw_W p l e R s m args below meth c D A nL Q k n ad g (pc + 3) lv (v :: st)) : qw_W p l e R s m args below meth c D A nL Q k n ad g pc lv (.ref a :: st) := qr_get C qi_X6 5 (by decide) fl_X6_113 t hg ha hv hd kk
theorem pf_X6_113 (C : qw_C p l s m args meth c D A nL cc RX6 ret) {a : Nat} {fs fs' : List Value} {v : Value} (t : Nat) (hg : g t = some (.inr (5, fs))) (ha : ad t = a) (hn : narrow .int v = v) (hfit : fits .int v = true) (hl0 : 5 < fs.length) (hfs : fs.set 5 v = fs') (hd : decode cc pc = .ok (.putfield 113, 3)) (kk : qw_W p l e R s m args below meth c D A nL Q k n ad (va_up g t (some (.inr (5, fs')))) (pc + 3) lv st) : qw_W p l e R s m args below meth c D A nL Q k n ad g pc lv (v :: .ref a :: st) := qr_put C qi_X6 tyX6 tyX6_ok nmX6 5 (by decide) fl_X6_113 rfl (by decide +kernel) t hg ha hn hfit hl0 hfs hd kk
set_option maxRecDepth 20000 in
theorem fl_X6_118 : qw_tb (.fieldLink RX6 118 (TX6 6).1 (TX6 6).2.1 (TX6 6).2.2.1) := qw_tbi 123 (by decide +kernel) rfl
theorem gf_X6_118 (C : qw_C p l s m args meth c D A nL cc RX6 ret) {a : Nat} {fs : List Value} {v : Value} (t : Nat) (hg : g t = some (.inr (5, fs))) (ha : ad t = a) (hv : fs[6]? = some v) (hd : decode cc pc = .ok (.getfield 118, 3)) (kk : qw_W p l e R s m args below meth c D A nL Q k n ad g (pc + 3) lv (v :: st)) : qw_W p l e R s m args below meth c D A nL Q k n ad g pc lv (.ref a :: st) := qr_get C qi_X6 6 (by decide) fl_X6_118 t hg ha hv hd kk
theorem pf_X6_118 (C : qw_C p l s m args meth c D A nL cc RX6 ret) {a : Nat} {fs fs' : List Value} {v : Value} (t : Nat) (hg : g t = some (.inr (5, fs))) (ha : ad t = a) (hn : narrow .int v = v) (hfit : fits .int v = true) (hl0 : 6 < fs.length) (hfs : fs.set 6 v = fs') (hd : decode cc pc = .ok (.putfield 118, 3)) (kk : qw_W p l e R s m args below meth c D A nL Q k n ad (va_up g t (some (.inr (5, fs')))) (pc + 3) lv st) : qw_W p l e R s m args below meth c D A nL Q k n ad g pc lv (v :: .ref a :: st) := qr_put C qi_X6 tyX6 tyX6_ok nmX6 6 (by decide) fl_X6_118 rfl (by decide +kernel) t hg ha hn hfit hl0 hfs hd kk
set_option maxRecDepth 20000 in
theorem fl_X6_153 : qw_tb (.fieldLink RX6 153 (TX6 7).1 (TX6 7).2.1 (TX6 7).2.2.1) := qw_tbi 124 (by decide +kernel) rfl
theorem gf_X6_153 (C : qw_C p l s m args meth c D A nL cc RX6 ret) {a : Nat} {fs : List Value} {v : Value} (t : Nat) (hg : g t = some (.inr (5, fs))) (ha : ad t = a) (hv : fs[7]? = some v) (hd : decode cc pc = .ok (.getfield 153, 3)) (kk : qw_W p l e R s m args below meth c D A nL Q k n ad g (pc + 3) lv (v :: st)) : qw_W p l e R s m args below meth c D A nL Q k n ad g pc lv (.ref a :: st) := qr_get C qi_X6 7 (by decide) fl_X6_153 t hg ha hv hd kk
theorem pf_X6_153 (C : qw_C p l s m args meth c D A nL cc RX6 ret) {a : Nat} {fs fs' : List Value} {v : Value} (t : Nat) (hg : g t = some (.inr (5, fs))) (ha : ad t = a) (hn : narrow .int v = v) (hfit : fits .int v = true) (hl0 : 7 < fs.length) (hfs : fs.set 7 v = fs') (hd : decode cc pc = .ok (.putfield 153, 3)) (kk : qw_W p l e R s m args below meth c D A nL Q k n ad (va_up g t (some (.inr (5, fs')))) (pc + 3) lv st) : qw_W p l e R s m args below meth c D A nL Q k n ad g pc lv (v :: .ref a :: st) := qr_put C qi_X6 tyX6 tyX6_ok nmX6 7 (by decide) fl_X6_153 rfl (by decide +kernel) t hg ha hn hfit hl0 hfs hd kk
set_option maxRecDepth 20000 in
theorem fl_X6_198 : qw_tb (.fieldLink RX6 198 (TX6 8).1 (TX6 8).2.1 (TX6 8).2.2.1) := qw_tbi 125 (by decide +kernel) rfl
theorem gf_X6_198 (C : qw_C p l s m args meth c D A nL cc RX6 ret) {a : Nat} {fs : List Value} {v : Value} (t : Nat) (hg : g t = some (.inr (5, fs))) (ha : ad t = a) (hv : fs[8]? = some v) (hd : decode cc pc = .ok (.getfield 198, 3)) (kk : qw_W p l e R s m args below meth c D A nL Q k n ad g (pc + 3) lv (v :: st)) : qw_W p l e R s m args below meth c D A nL Q k n ad g pc lv (.ref a :: st) := qr_get C qi_X6 8 (by decide) fl_X6_198 t hg ha hv hd kk
theorem pf_X6_198 (C : qw_C p l s m args meth c D A nL cc RX6 ret) {a : Nat} {fs fs' : List Value} {v : Value} (t : Nat) (hg : g t = some (.inr (5, fs))) (ha : ad t = a) (hn : narrow .int v = v) (hfit : fits .int v = true) (hl0 : 8 < fs.length) (hfs : fs.set 8 v = fs') (hd : decode cc pc = .ok (.putfield 198, 3)) (kk : qw_W p l e R s m args below meth c D A nL Q k n ad (va_up g t (some (.inr (5, fs')))) (pc + 3) lv st) : qw_W p l e R s m args below meth c D A nL Q k n ad g pc lv (v :: .ref a :: st) := qr_put C qi_X6 tyX6 tyX6_ok nmX6 8 (by decide) fl_X6_198 rfl (by decide +kernel) t hg ha hn hfit hl0 hfs hd kk
set_option maxRecDepth 20000 in
theorem fl_X4_9 : qw_tb (.fieldLink RX4 9 (TX4 0).1 (TX4 0).2.1 (TX4 0).2.2.1) := qw_tbi 302 (by decide +kernel) rfl
theorem gf_X4_9 (C : qw_C p l s m args meth c D A nL cc RX4 ret) {a : Nat} {fs : List Value} {v : Value} (t : Nat) (hg : g t = some (.inr (3, fs))) (ha : ad t = a) (hv : fs[0]? = some v) (hd : decode cc pc = .ok (.getfield 9, 3)) (kk : qw_W p l e R s m args below meth c D A nL Q k n ad g (pc + 3) lv (v :: st)) : qw_W p l e R s m args below meth c D A nL Q k n ad g pc lv (.ref a :: st) := qr_get C qi_X4 0 (by decide) fl_X4_9 t hg ha hv hd kk
theorem pf_X4_9 (C : qw_C p l s m args meth c D A nL cc RX4 ret) (hin2 : meth.name = "<init>") {a : Nat} {fs fs' : List Value} {v : Value} (t : Nat) (hg : g t = some (.inr (3, fs))) (ha : ad t = a) (hn : narrow .int v = v) (hfit : fits .int v = true) (hl0 : 0 < fs.length) (hfs : fs.set 0 v = fs') (hd : decode cc pc = .ok (.putfield 9, 3)) (kk : qw_W p l e R s m args below meth c D A nL Q k n ad (va_up g t (some (.inr (3, fs')))) (pc + 3) lv st) : qw_W p l e R s m args below meth c D A nL Q k n ad g pc lv (v :: .ref a :: st) := qr_putF C qi_X4 tyX4 tyX4_ok nmX4 0 (by decide) fl_X4_9 rfl hin2 rfl (by decide +kernel) t hg ha hn hfit hl0 hfs hd kk
set_option maxRecDepth 20000 in
theorem fl_X6_82 : qw_tb (.fieldLinkNest RX6 82 (TX4 0).1 (TX4 0).2.1 (TX4 0).2.2.1 RX6) := qw_tbi 303 (by decide +kernel) rfl
theorem gf_X6_82 (C : qw_C p l s m args meth c D A nL cc RX6 ret) {a : Nat} {fs : List Value} {v : Value} (t : Nat) (hg : g t = some (.inr (3, fs))) (ha : ad t = a) (hv : fs[0]? = some v) (hd : decode cc pc = .ok (.getfield 82, 3)) (kk : qw_W p l e R s m args below meth c D A nL Q k n ad g (pc + 3) lv (v :: st)) : qw_W p l e R s m args below meth c D A nL Q k n ad g pc lv (.ref a :: st) := qr_getN C qi_X4 0 (by decide) fl_X6_82 t hg ha hv hd kk
set_option maxRecDepth 20000 in
theorem fl_X4_15 : qw_tb (.fieldLink RX4 15 (TX4 1).1 (TX4 1).2.1 (TX4 1).2.2.1) := qw_tbi 304 (by decide +kernel) rfl
theorem gf_X4_15 (C : qw_C p l s m args meth c D A nL cc RX4 ret) {a : Nat} {fs : List Value} {v : Value} (t : Nat) (hg : g t = some (.inr (3, fs))) (ha : ad t = a) (hv : fs[1]? = some v) (hd : decode cc pc = .ok (.getfield 15, 3)) (kk : qw_W p l e R s m args below meth c D A nL Q k n ad g (pc + 3) lv (v :: st)) : qw_W p l e R s m args below meth c D A nL Q k n ad g pc lv (.ref a :: st) := qr_get C qi_X4 1 (by decide) fl_X4_15 t hg ha hv hd kk
theorem pf_X4_15 (C : qw_C p l s m args meth c D A nL cc RX4 ret) (hin2 : meth.name = "<init>") {a : Nat} {fs fs' : List Value} {v : Value} (t : Nat) (hg : g t = some (.inr (3, fs))) (ha : ad t = a) (hn : narrow .int v = v) (hfit : fits .int v = true) (hl0 : 1 < fs.length) (hfs : fs.set 1 v = fs') (hd : decode cc pc = .ok (.putfield 15, 3)) (kk : qw_W p l e R s m args below meth c D A nL Q k n ad (va_up g t (some (.inr (3, fs')))) (pc + 3) lv st) : qw_W p l e R s m args below meth c D A nL Q k n ad g pc lv (v :: .ref a :: st) := qr_putF C qi_X4 tyX4 tyX4_ok nmX4 1 (by decide) fl_X4_15 rfl hin2 rfl (by decide +kernel) t hg ha hn hfit hl0 hfs hd kk
set_option maxRecDepth 20000 in
theorem fl_X6_85 : qw_tb (.fieldLinkNest RX6 85 (TX4 1).1 (TX4 1).2.1 (TX4 1).2.2.1 RX6) := qw_tbi 305 (by decide +kernel) rfl
theorem gf_X6_85 (C : qw_C p l s m args meth c D A nL cc RX6 ret) {a : Nat} {fs : List Value} {v : Value} (t : Nat) (hg : g t = some (.inr (3, fs))) (ha : ad t = a) (hv : fs[1]? = some v) (hd : decode cc pc = .ok (.getfield 85, 3)) (kk : qw_W p l e R s m args below meth c D A nL Q k n ad g (pc + 3) lv (v :: st)) : qw_W p l e R s m args below meth c D A nL Q k n ad g pc lv (.ref a :: st) := qr_getN C qi_X4 1 (by decide) fl_X6_85 t hg ha hv hd kk
set_option maxRecDepth 20000 in
theorem fl_X4_18 : qw_tb (.fieldLink RX4 18 (TX4 2).1 (TX4 2).2.1 (TX4 2).2.2.1) := qw_tbi 306 (by decide +kernel) rfl
theorem gf_X4_18 (C : qw_C p l s m args meth c D A nL cc RX4 ret) {a : Nat} {fs : List Value} {v : Value} (t : Nat) (hg : g t = some (.inr (3, fs))) (ha : ad t = a) (hv : fs[2]? = some v) (hd : decode cc pc = .ok (.getfield 18, 3)) (kk : qw_W p l e R s m args below meth c D A nL Q k n ad g (pc + 3) lv (v :: st)) : qw_W p l e R s m args below meth c D A nL Q k n ad g pc lv (.ref a :: st) := qr_get C qi_X4 2 (by decide) fl_X4_18 t hg ha hv hd kk
theorem pf_X4_18 (C : qw_C p l s m args meth c D A nL cc RX4 ret) (hin2 : meth.name = "<init>") {a : Nat} {fs fs' : List Value} {v : Value} (t : Nat) (hg : g t = some (.inr (3, fs))) (ha : ad t = a) (hn : narrow .int v = v) (hfit : fits .int v = true) (hl0 : 2 < fs.length) (hfs : fs.set 2 v = fs') (hd : decode cc pc = .ok (.putfield 18, 3)) (kk : qw_W p l e R s m args below meth c D A nL Q k n ad (va_up g t (some (.inr (3, fs')))) (pc + 3) lv st) : qw_W p l e R s m args below meth c D A nL Q k n ad g pc lv (v :: .ref a :: st) := qr_putF C qi_X4 tyX4 tyX4_ok nmX4 2 (by decide) fl_X4_18 rfl hin2 rfl (by decide +kernel) t hg ha hn hfit hl0 hfs hd kk
set_option maxRecDepth 20000 in
theorem fl_X6_88 : qw_tb (.fieldLinkNest RX6 88 (TX4 2).1 (TX4 2).2.1 (TX4 2).2.2.1 RX6) := qw_tbi 307 (by decide +kernel) rfl
theorem gf_X6_88 (C : qw_C p l s m args meth c D A nL cc RX6 ret) {a : Nat} {fs : List Value} {v : Value} (t : Nat) (hg : g t = some (.inr (3, fs))) (ha : ad t = a) (hv : fs[2]? = some v) (hd : decode cc pc = .ok (.getfield 88, 3)) (kk : qw_W p l e R s m args below meth c D A nL Q k n ad g (pc + 3) lv (v :: st)) : qw_W p l e R s m args below meth c D A nL Q k n ad g pc lv (.ref a :: st) := qr_getN C qi_X4 2 (by decide) fl_X6_88 t hg ha hv hd kk
set_option maxRecDepth 20000 in
theorem fl_X4_21 : qw_tb (.fieldLink RX4 21 (TX4 3).1 (TX4 3).2.1 (TX4 3).2.2.1) := qw_tbi 308 (by decide +kernel) rfl
theorem gf_X4_21 (C : qw_C p l s m args meth c D A nL cc RX4 ret) {a : Nat} {fs : List Value} {v : Value} (t : Nat) (hg : g t = some (.inr (3, fs))) (ha : ad t = a) (hv : fs[3]? = some v) (hd : decode cc pc = .ok (.getfield 21, 3)) (kk : qw_W p l e R s m args below meth c D A nL Q k n ad g (pc + 3) lv (v :: st)) : qw_W p l e R s m args below meth c D A nL Q k n ad g pc lv (.ref a :: st) := qr_get C qi_X4 3 (by decide) fl_X4_21 t hg ha hv hd kk
theorem pf_X4_21 (C : qw_C p l s m args meth c D A nL cc RX4 ret) (hin2 : meth.name = "<init>") {a : Nat} {fs fs' : List Value} {v : Value} (t : Nat) (hg : g t = some (.inr (3, fs))) (ha : ad t = a) (hn : narrow .int v = v) (hfit : fits .int v = true) (hl0 : 3 < fs.length) (hfs : fs.set 3 v = fs') (hd : decode cc pc = .ok (.putfield 21, 3)) (kk : qw_W p l e R s m args below meth c D A nL Q k n ad (va_up g t (some (.inr (3, fs')))) (pc + 3) lv st) : qw_W p l e R s m args below meth c D A nL Q k n ad g pc lv (v :: .ref a :: st) := qr_putF C qi_X4 tyX4 tyX4_ok nmX4 3 (by decide) fl_X4_21 rfl hin2 rfl (by decide +kernel) t hg ha hn hfit hl0 hfs hd kk
set_option maxRecDepth 20000 in
theorem fl_X6_91 : qw_tb (.fieldLinkNest RX6 91 (TX4 3).1 (TX4 3).2.1 (TX4 3).2.2.1 RX6) := qw_tbi 309 (by decide +kernel) rfl
theorem gf_X6_91 (C : qw_C p l s m args meth c D A nL cc RX6 ret) {a : Nat} {fs : List Value} {v : Value} (t : Nat) (hg : g t = some (.inr (3, fs))) (ha : ad t = a) (hv : fs[3]? = some v) (hd : decode cc pc = .ok (.getfield 91, 3)) (kk : qw_W p l e R s m args below meth c D A nL Q k n ad g (pc + 3) lv (v :: st)) : qw_W p l e R s m args below meth c D A nL Q k n ad g pc lv (.ref a :: st) := qr_getN C qi_X4 3 (by decide) fl_X6_91 t hg ha hv hd kk
set_option maxRecDepth 20000 in
theorem fl_X4_24 : qw_tb (.fieldLink RX4 24 (TX4 4).1 (TX4 4).2.1 (TX4 4).2.2.1) := qw_tbi 310 (by decide +kernel) rfl
theorem gf_X4_24 (C : qw_C p l s m args meth c D A nL cc RX4 ret) {a : Nat} {fs : List Value} {v : Value} (t : Nat) (hg : g t = some (.inr (3, fs))) (ha : ad t = a) (hv : fs[4]? = some v) (hd : decode cc pc = .ok (.getfield 24, 3)) (kk : qw_W p l e R s m args below meth c D A nL Q k n ad g (pc + 3) lv (v :: st)) : qw_W p l e R s m args below meth c D A nL Q k n ad g pc lv (.ref a :: st) := qr_get C qi_X4 4 (by decide) fl_X4_24 t hg ha hv hd kk
theorem pf_X4_24 (C : qw_C p l s m args meth c D A nL cc RX4 ret) {a : Nat} {fs fs' : List Value} {v : Value} (t : Nat) (hg : g t = some (.inr (3, fs))) (ha : ad t = a) (hn : narrow .boolean v = v) (hfit : fits .boolean v = true) (hl0 : 4 < fs.length) (hfs : fs.set 4 v = fs') (hd : decode cc pc = .ok (.putfield 24, 3)) (kk : qw_W p l e R s m args below meth c D A nL Q k n ad (va_up g t (some (.inr (3, fs')))) (pc + 3) lv st) : qw_W p l e R s m args below meth c D A nL Q k n ad g pc lv (v :: .ref a :: st) := qr_put C qi_X4 tyX4 tyX4_ok nmX4 4 (by decide) fl_X4_24 rfl (by decide +kernel) t hg ha hn hfit hl0 hfs hd kk
set_option maxRecDepth 20000 in
theorem fl_X6_76 : qw_tb (.fieldLinkNest RX6 76 (TX4 4).1 (TX4 4).2.1 (TX4 4).2.2.1 RX6) := qw_tbi 311 (by decide +kernel) rfl
theorem gf_X6_76 (C : qw_C p l s m args meth c D A nL cc RX6 ret) {a : Nat} {fs : List Value} {v : Value} (t : Nat) (hg : g t = some (.inr (3, fs))) (ha : ad t = a) (hv : fs[4]? = some v) (hd : decode cc pc = .ok (.getfield 76, 3)) (kk : qw_W p l e R s m args below meth c D A nL Q k n ad g (pc + 3) lv (v :: st)) : qw_W p l e R s m args below meth c D A nL Q k n ad g pc lv (.ref a :: st) := qr_getN C qi_X4 4 (by decide) fl_X6_76 t hg ha hv hd kk
theorem pf_X6_76 (C : qw_C p l s m args meth c D A nL cc RX6 ret) {a : Nat} {fs fs' : List Value} {v : Value} (t : Nat) (hg : g t = some (.inr (3, fs))) (ha : ad t = a) (hn : narrow .boolean v = v) (hfit : fits .boolean v = true) (hl0 : 4 < fs.length) (hfs : fs.set 4 v = fs') (hd : decode cc pc = .ok (.putfield 76, 3)) (kk : qw_W p l e R s m args below meth c D A nL Q k n ad (va_up g t (some (.inr (3, fs')))) (pc + 3) lv st) : qw_W p l e R s m args below meth c D A nL Q k n ad g pc lv (v :: .ref a :: st) := qr_putN C qi_X4 tyX4 tyX4_ok nmX4 4 (by decide) fl_X6_76 rfl (by decide +kernel) t hg ha hn hfit hl0 hfs hd kk
set_option maxRecDepth 20000 in
theorem fl_X1_7 : qw_tb (.fieldLink RX1 7 (TX1 0).1 (TX1 0).2.1 (TX1 0).2.2.1) := qw_tbi 388 (by decide +kernel) rfl
theorem gf_X1_7 (C : qw_C p l s m args meth c D A nL cc RX1 ret) {a : Nat} {fs : List Value} {v : Value} (t : Nat) (hg : g t = some (.inr (0, fs))) (ha : ad t = a) (hv : fs[0]? = some v) (hd : decode cc pc = .ok (.getfield 7, 3)) (kk : qw_W p l e R s m args below meth c D A nL Q k n ad g (pc + 3) lv (v :: st)) : qw_W p l e R s m args below meth c D A nL Q k n ad g pc lv (.ref a :: st) := qr_get C qi_X1 0 (by decide) fl_X1_7 t hg ha hv hd kk
theorem pf_X1_7 (C : qw_C p l s m args meth c D A nL cc RX1 ret) (hin2 : meth.name = "<init>") {a : Nat} {fs fs' : List Value} {v : Value} (t : Nat) (hg : g t = some (.inr (0, fs))) (ha : ad t = a) (hn : narrow .int v = v) (hfit : fits .int v = true) (hl0 : 0 < fs.length) (hfs : fs.set 0 v = fs') (hd : decode cc pc = .ok (.putfield 7, 3)) (kk : qw_W p l e R s m args below meth c D A nL Q k n ad (va_up g t (some (.inr (0, fs')))) (pc + 3) lv st) : qw_W p l e R s m args below meth c D A nL Q k n ad g pc lv (v :: .ref a :: st) := qr_putF C qi_X1 tyX1 tyX1_ok nmX1 0 (by decide) fl_X1_7 rfl hin2 rfl (by decide +kernel) t hg ha hn hfit hl0 hfs hd kk
set_option maxRecDepth 20000 in
theorem fl_X6_132 : qw_tb (.fieldLinkNest RX6 132 (TX1 0).1 (TX1 0).2.1 (TX1 0).2.2.1 RX6) := qw_tbi 389 (by decide +kernel) rfl
theorem gf_X6_132 (C : qw_C p l s m args meth c D A nL cc RX6 ret) {a : Nat} {fs : List Value} {v : Value} (t : Nat) (hg : g t = some (.inr (0, fs))) (ha : ad t = a) (hv : fs[0]? = some v) (hd : decode cc pc = .ok (.getfield 132, 3)) (kk : qw_W p l e R s m args below meth c D A nL Q k n ad g (pc + 3) lv (v :: st)) : qw_W p l e R s m args below meth c D A nL Q k n ad g pc lv (.ref a :: st) := qr_getN C qi_X1 0 (by decide) fl_X6_132 t hg ha hv hd kk
set_option maxRecDepth 20000 in
theorem fl_X1_13 : qw_tb (.fieldLink RX1 13 (TX1 1).1 (TX1 1).2.1 (TX1 1).2.2.1) := qw_tbi 390 (by decide +kernel) rfl
theorem gf_X1_13 (C : qw_C p l s m args meth c D A nL cc RX1 ret) {a : Nat} {fs : List Value} {v : Value} (t : Nat) (hg : g t = some (.inr (0, fs))) (ha : ad t = a) (hv : fs[1]? = some v) (hd : decode cc pc = .ok (.getfield 13, 3)) (kk : qw_W p l e R s m args below meth c D A nL Q k n ad g (pc + 3) lv (v :: st)) : qw_W p l e R s m args below meth c D A nL Q k n ad g pc lv (.ref a :: st) := qr_get C qi_X1 1 (by decide) fl_X1_13 t hg ha hv hd kk
theorem pf_X1_13 (C : qw_C p l s m args meth c D A nL cc RX1 ret) (hin2 : meth.name = "<init>") {a : Nat} {fs fs' : List Value} {v : Value} (t : Nat) (hg : g t = some (.inr (0, fs))) (ha : ad t = a) (hn : narrow .int v = v) (hfit : fits .int v = true) (hl0 : 1 < fs.length) (hfs : fs.set 1 v = fs') (hd : decode cc pc = .ok (.putfield 13, 3)) (kk : qw_W p l e R s m args below meth c D A nL Q k n ad (va_up g t (some (.inr (0, fs')))) (pc + 3) lv st) : qw_W p l e R s m args below meth c D A nL Q k n ad g pc lv (v :: .ref a :: st) := qr_putF C qi_X1 tyX1 tyX1_ok nmX1 1 (by decide) fl_X1_13 rfl hin2 rfl (by decide +kernel) t hg ha hn hfit hl0 hfs hd kk
set_option maxRecDepth 20000 in
theorem fl_X6_217 : qw_tb (.fieldLinkNest RX6 217 (TX1 1).1 (TX1 1).2.1 (TX1 1).2.2.1 RX6) := qw_tbi 391 (by decide +kernel) rfl
theorem gf_X6_217 (C : qw_C p l s m args meth c D A nL cc RX6 ret) {a : Nat} {fs : List Value} {v : Value} (t : Nat) (hg : g t = some (.inr (0, fs))) (ha : ad t = a) (hv : fs[1]? = some v) (hd : decode cc pc = .ok (.getfield 217, 3)) (kk : qw_W p l e R s m args below meth c D A nL Q k n ad g (pc + 3) lv (v :: st)) : qw_W p l e R s m args below meth c D A nL Q k n ad g pc lv (.ref a :: st) := qr_getN C qi_X1 1 (by decide) fl_X6_217 t hg ha hv hd kk
set_option maxRecDepth 20000 in
theorem fl_X1_16 : qw_tb (.fieldLink RX1 16 (TX1 2).1 (TX1 2).2.1 (TX1 2).2.2.1) := qw_tbi 392 (by decide +kernel) rfl
theorem gf_X1_16 (C : qw_C p l s m args meth c D A nL cc RX1 ret) {a : Nat} {fs : List Value} {v : Value} (t : Nat) (hg : g t = some (.inr (0, fs))) (ha : ad t = a) (hv : fs[2]? = some v) (hd : decode cc pc = .ok (.getfield 16, 3)) (kk : qw_W p l e R s m args below meth c D A nL Q k n ad g (pc + 3) lv (v :: st)) : qw_W p l e R s m args below meth c D A nL Q k n ad g pc lv (.ref a :: st) := qr_get C qi_X1 2 (by decide) fl_X1_16 t hg ha hv hd kk
theorem pf_X1_16 (C : qw_C p l s m args meth c D A nL cc RX1 ret) (hin2 : meth.name = "<init>") {a : Nat} {fs fs' : List Value} {v : Value} (t : Nat) (hg : g t = some (.inr (0, fs))) (ha : ad t = a) (hn : narrow .int v = v) (hfit : fits .int v = true) (hl0 : 2 < fs.length) (hfs : fs.set 2 v = fs') (hd : decode cc pc = .ok (.putfield 16, 3)) (kk : qw_W p l e R s m args below meth c D A nL Q k n ad (va_up g t (some (.inr (0, fs')))) (pc + 3) lv st) : qw_W p l e R s m args below meth c D A nL Q k n ad g pc lv (v :: .ref a :: st) := qr_putF C qi_X1 tyX1 tyX1_ok nmX1 2 (by decide) fl_X1_16 rfl hin2 rfl (by decide +kernel) t hg ha hn hfit hl0 hfs hd kk
set_option maxRecDepth 20000 in
theorem fl_X6_133 : qw_tb (.fieldLinkNest RX6 133 (TX1 2).1 (TX1 2).2.1 (TX1 2).2.2.1 RX6) := qw_tbi 393 (by decide +kernel) rfl
theorem gf_X6_133 (C : qw_C p l s m args meth c D A nL cc RX6 ret) {a : Nat} {fs : List Value} {v : Value} (t : Nat) (hg : g t = some (.inr (0, fs))) (ha : ad t = a) (hv : fs[2]? = some v) (hd : decode cc pc = .ok (.getfield 133, 3)) (kk : qw_W p l e R s m args below meth c D A nL Q k n ad g (pc + 3) lv (v :: st)) : qw_W p l e R s m args below meth c D A nL Q k n ad g pc lv (.ref a :: st) := qr_getN C qi_X1 2 (by decide) fl_X6_133 t hg ha hv hd kk
set_option maxRecDepth 20000 in
theorem fl_X1_19 : qw_tb (.fieldLink RX1 19 (TX1 3).1 (TX1 3).2.1 (TX1 3).2.2.1) := qw_tbi 394 (by decide +kernel) rfl
theorem gf_X1_19 (C : qw_C p l s m args meth c D A nL cc RX1 ret) {a : Nat} {fs : List Value} {v : Value} (t : Nat) (hg : g t = some (.inr (0, fs))) (ha : ad t = a) (hv : fs[3]? = some v) (hd : decode cc pc = .ok (.getfield 19, 3)) (kk : qw_W p l e R s m args below meth c D A nL Q k n ad g (pc + 3) lv (v :: st)) : qw_W p l e R s m args below meth c D A nL Q k n ad g pc lv (.ref a :: st) := qr_get C qi_X1 3 (by decide) fl_X1_19 t hg ha hv hd kk
theorem pf_X1_19 (C : qw_C p l s m args meth c D A nL cc RX1 ret) (hin2 : meth.name = "<init>") {a : Nat} {fs fs' : List Value} {v : Value} (t : Nat) (hg : g t = some (.inr (0, fs))) (ha : ad t = a) (hn : narrow .int v = v) (hfit : fits .int v = true) (hl0 : 3 < fs.length) (hfs : fs.set 3 v = fs') (hd : decode cc pc = .ok (.putfield 19, 3)) (kk : qw_W p l e R s m args below meth c D A nL Q k n ad (va_up g t (some (.inr (0, fs')))) (pc + 3) lv st) : qw_W p l e R s m args below meth c D A nL Q k n ad g pc lv (v :: .ref a :: st) := qr_putF C qi_X1 tyX1 tyX1_ok nmX1 3 (by decide) fl_X1_19 rfl hin2 rfl (by decide +kernel) t hg ha hn hfit hl0 hfs hd kk
set_option maxRecDepth 20000 in
theorem fl_X6_136 : qw_tb (.fieldLinkNest RX6 136 (TX1 3).1 (TX1 3).2.1 (TX1 3).2.2.1 RX6) := qw_tbi 395 (by decide +kernel) rfl
theorem gf_X6_136 (C : qw_C p l s m args meth c D A nL cc RX6 ret) {a : Nat} {fs : List Value} {v : Value} (t : Nat) (hg : g t = some (.inr (0, fs))) (ha : ad t = a) (hv : fs[3]? = some v) (hd : decode cc pc = .ok (.getfield 136, 3)) (kk : qw_W p l e R s m args below meth c D A nL Q k n ad g (pc + 3) lv (v :: st)) : qw_W p l e R s m args below meth c D A nL Q k n ad g pc lv (.ref a :: st) := qr_getN C qi_X1 3 (by decide) fl_X6_136 t hg ha hv hd kk
set_option maxRecDepth 20000 in
theorem fl_X1_22 : qw_tb (.fieldLink RX1 22 (TX1 4).1 (TX1 4).2.1 (TX1 4).2.2.1) := qw_tbi 396 (by decide +kernel) rfl
theorem gf_X1_22 (C : qw_C p l s m args meth c D A nL cc RX1 ret) {a : Nat} {fs : List Value} {v : Value} (t : Nat) (hg : g t = some (.inr (0, fs))) (ha : ad t = a) (hv : fs[4]? = some v) (hd : decode cc pc = .ok (.getfield 22, 3)) (kk : qw_W p l e R s m args below meth c D A nL Q k n ad g (pc + 3) lv (v :: st)) : qw_W p l e R s m args below meth c D A nL Q k n ad g pc lv (.ref a :: st) := qr_get C qi_X1 4 (by decide) fl_X1_22 t hg ha hv hd kk
theorem pf_X1_22 (C : qw_C p l s m args meth c D A nL cc RX1 ret) {a : Nat} {fs fs' : List Value} {v : Value} (t : Nat) (hg : g t = some (.inr (0, fs))) (ha : ad t = a) (hn : narrow .boolean v = v) (hfit : fits .boolean v = true) (hl0 : 4 < fs.length) (hfs : fs.set 4 v = fs') (hd : decode cc pc = .ok (.putfield 22, 3)) (kk : qw_W p l e R s m args below meth c D A nL Q k n ad (va_up g t (some (.inr (0, fs')))) (pc + 3) lv st) : qw_W p l e R s m args below meth c D A nL Q k n ad g pc lv (v :: .ref a :: st) := qr_put C qi_X1 tyX1 tyX1_ok nmX1 4 (by decide) fl_X1_22 rfl (by decide +kernel) t hg ha hn hfit hl0 hfs hd kk
set_option maxRecDepth 20000 in
theorem fl_X6_129 : qw_tb (.fieldLinkNest RX6 129 (TX1 4).1 (TX1 4).2.1 (TX1 4).2.2.1 RX6) := qw_tbi 397 (by decide +kernel) rfl
theorem gf_X6_129 (C : qw_C p l s m args meth c D A nL cc RX6 ret) {a : Nat} {fs : List Value} {v : Value} (t : Nat) (hg : g t = some (.inr (0, fs))) (ha : ad t = a) (hv : fs[4]? = some v) (hd : decode cc pc = .ok (.getfield 129, 3)) (kk : qw_W p l e R s m args below meth c D A nL Q k n ad g (pc + 3) lv (v :: st)) : qw_W p l e R s m args below meth c D A nL Q k n ad g pc lv (.ref a :: st) := qr_getN C qi_X1 4 (by decide) fl_X6_129 t hg ha hv hd kk
theorem pf_X6_129 (C : qw_C p l s m args meth c D A nL cc RX6 ret) {a : Nat} {fs fs' : List Value} {v : Value} (t : Nat) (hg : g t = some (.inr (0, fs))) (ha : ad t = a) (hn : narrow .boolean v = v) (hfit : fits .boolean v = true) (hl0 : 4 < fs.length) (hfs : fs.set 4 v = fs') (hd : decode cc pc = .ok (.putfield 129, 3)) (kk : qw_W p l e R s m args below meth c D A nL Q k n ad (va_up g t (some (.inr (0, fs')))) (pc + 3) lv st) : qw_W p l e R s m args below meth c D A nL Q k n ad g pc lv (v :: .ref a :: st) := qr_putN C qi_X1 tyX1 tyX1_ok nmX1 4 (by decide) fl_X6_129 rfl (by decide +kernel) t hg ha hn hfit hl0 hfs hd kk
set_option maxRecDepth 20000 in
theorem fl_X7_53 : qw_tb (.fieldLink RX7 53 (TX7 0).1 (TX7 0).2.1 (TX7 0).2.2.1) := qw_tbi 547 (by decide +kernel) rfl
theorem gf_X7_53 (C : qw_C p l s m args meth c D A nL cc RX7 ret) {a : Nat} {fs : List Value} {v : Value} (t : Nat) (hg : g t = some (.inr (6, fs))) (ha : ad t = a) (hv : fs[0]? = some v) (hd : decode cc pc = .ok (.getfield 53, 3)) (kk : qw_W p l e R s m args below meth c D A nL Q k n ad g (pc + 3) lv (v :: st)) : qw_W p l e R s m args below meth c D A nL Q k n ad g pc lv (.ref a :: st) := qr_get C qi_X7 0 (by decide) fl_X7_53 t hg ha hv hd kk
theorem pf_X7_53 (C : qw_C p l s m args meth c D A nL cc RX7 ret) {a : Nat} {fs fs' : List Value} {v : Value} (t : Nat) (hg : g t = some (.inr (6, fs))) (ha : ad t = a) (hn : narrow .int v = v) (hfit : fits .int v = true) (hl0 : 0 < fs.length) (hfs : fs.set 0 v = fs') (hd : decode cc pc = .ok (.putfield 53, 3)) (kk : qw_W p l e R s m args below meth c D A nL Q k n ad (va_up g t (some (.inr (6, fs')))) (pc + 3) lv st) : qw_W p l e R s m args below meth c D A nL Q k n ad g pc lv (v :: .ref a :: st) := qr_put C qi_X7 tyX7 tyX7_ok nmX7 0 (by decide) fl_X7_53 rfl (by decide +kernel) t hg ha hn hfit hl0 hfs hd kk
set_option maxRecDepth 20000 in
theorem fl_X7_92 : qw_tb (.fieldLink RX7 92 (TX7 1).1 (TX7 1).2.1 (TX7 1).2.2.1) := qw_tbi 548 (by decide +kernel) rfl
theorem gf_X7_92 (C : qw_C p l s m args meth c D A nL cc RX7 ret) {a : Nat} {fs : List Value} {v : Value} (t : Nat) (hg : g t = some (.inr (6, fs))) (ha : ad t = a) (hv : fs[1]? = some v) (hd : decode cc pc = .ok (.getfield 92, 3)) (kk : qw_W p l e R s m args below meth c D A nL Q k n ad g (pc + 3) lv (v :: st)) : qw_W p l e R s m args below meth c D A nL Q k n ad g pc lv (.ref a :: st) := qr_get C qi_X7 1 (by decide) fl_X7_92 t hg ha hv hd kk
theorem pf_X7_92 (C : qw_C p l s m args meth c D A nL cc RX7 ret) {a : Nat} {fs fs' : List Value} {v : Value} (t : Nat) (hg : g t = some (.inr (6, fs))) (ha : ad t = a) (hn : narrow .int v = v) (hfit : fits .int v = true) (hl0 : 1 < fs.length) (hfs : fs.set 1 v = fs') (hd : decode cc pc = .ok (.putfield 92, 3)) (kk : qw_W p l e R s m args below meth c D A nL Q k n ad (va_up g t (some (.inr (6, fs')))) (pc + 3) lv st) : qw_W p l e R s m args below meth c D A nL Q k n ad g pc lv (v :: .ref a :: st) := qr_put C qi_X7 tyX7 tyX7_ok nmX7 1 (by decide) fl_X7_92 rfl (by decide +kernel) t hg ha hn hfit hl0 hfs hd kk
set_option maxRecDepth 20000 in
theorem fl_X7_72 : qw_tb (.fieldLink RX7 72 (TX7 2).1 (TX7 2).2.1 (TX7 2).2.2.1) := qw_tbi 549 (by decide +kernel) rfl
theorem gf_X7_72 (C : qw_C p l s m args meth c D A nL cc RX7 ret) {a : Nat} {fs : List Value} {v : Value} (t : Nat) (hg : g t = some (.inr (6, fs))) (ha : ad t = a) (hv : fs[2]? = some v) (hd : decode cc pc = .ok (.getfield 72, 3)) (kk : qw_W p l e R s m args below meth c D A nL Q k n ad g (pc + 3) lv (v :: st)) : qw_W p l e R s m args below meth c D A nL Q k n ad g pc lv (.ref a :: st) := qr_get C qi_X7 2 (by decide) fl_X7_72 t hg ha hv hd kk
theorem pf_X7_72 (C : qw_C p l s m args meth c D A nL cc RX7 ret) {a : Nat} {fs fs' : List Value} {v : Value} (t : Nat) (hg : g t = some (.inr (6, fs))) (ha : ad t = a) (hn : narrow .int v = v) (hfit : fits .int v = true) (hl0 : 2 < fs.length) (hfs : fs.set 2 v = fs') (hd : decode cc pc = .ok (.putfield 72, 3)) (kk : qw_W p l e R s m args below meth c D A nL Q k n ad (va_up g t (some (.inr (6, fs')))) (pc + 3) lv st) : qw_W p l e R s m args below meth c D A nL Q k n ad g pc lv (v :: .ref a :: st) := qr_put C qi_X7 tyX7 tyX7_ok nmX7 2 (by decide) fl_X7_72 rfl (by decide +kernel) t hg ha hn hfit hl0 hfs hd kk
set_option maxRecDepth 20000 in
theorem fl_X7_7 : qw_tb (.fieldLink RX7 7 (TX7 3).1 (TX7 3).2.1 (TX7 3).2.2.1) := qw_tbi 550 (by decide +kernel) rfl
theorem gf_X7_7 (C : qw_C p l s m args meth c D A nL cc RX7 ret) {a : Nat} {fs : List Value} {v : Value} (t : Nat) (hg : g t = some (.inr (6, fs))) (ha : ad t = a) (hv : fs[3]? = some v) (hd : decode cc pc = .ok (.getfield 7, 3)) (kk : qw_W p l e R s m args below meth c D A nL Q k n ad g (pc + 3) lv (v :: st)) : qw_W p l e R s m args below meth c D A nL Q k n ad g pc lv (.ref a :: st) := qr_get C qi_X7 3 (by decide) fl_X7_7 t hg ha hv hd kk
theorem pf_X7_7 (C : qw_C p l s m args meth c D A nL cc RX7 ret) (hin2 : meth.name = "<init>") {a : Nat} {fs fs' : List Value} {v : Value} (t : Nat) (hg : g t = some (.inr (6, fs))) (ha : ad t = a) (hn : narrow (.array .int) v = v) (hfit : fits (.array .int) v = true) (hl0 : 3 < fs.length) (hfs : fs.set 3 v = fs') (hd : decode cc pc = .ok (.putfield 7, 3)) (kk : qw_W p l e R s m args below meth c D A nL Q k n ad (va_up g t (some (.inr (6, fs')))) (pc + 3) lv st) : qw_W p l e R s m args below meth c D A nL Q k n ad g pc lv (v :: .ref a :: st) := qr_putF C qi_X7 tyX7 tyX7_ok nmX7 3 (by decide) fl_X7_7 rfl hin2 rfl (by decide +kernel) t hg ha hn hfit hl0 hfs hd kk
set_option maxRecDepth 20000 in
theorem fl_X7_13 : qw_tb (.fieldLink RX7 13 (TX7 4).1 (TX7 4).2.1 (TX7 4).2.2.1) := qw_tbi 551 (by decide +kernel) rfl
theorem gf_X7_13 (C : qw_C p l s m args meth c D A nL cc RX7 ret) {a : Nat} {fs : List Value} {v : Value} (t : Nat) (hg : g t = some (.inr (6, fs))) (ha : ad t = a) (hv : fs[4]? = some v) (hd : decode cc pc = .ok (.getfield 13, 3)) (kk : qw_W p l e R s m args below meth c D A nL Q k n ad g (pc + 3) lv (v :: st)) : qw_W p l e R s m args below meth c D A nL Q k n ad g pc lv (.ref a :: st) := qr_get C qi_X7 4 (by decide) fl_X7_13 t hg ha hv hd kk
theorem pf_X7_13 (C : qw_C p l s m args meth c D A nL cc RX7 ret) (hin2 : meth.name = "<init>") {a : Nat} {fs fs' : List Value} {v : Value} (t : Nat) (hg : g t = some (.inr (6, fs))) (ha : ad t = a) (hn : narrow (.array .int) v = v) (hfit : fits (.array .int) v = true) (hl0 : 4 < fs.length) (hfs : fs.set 4 v = fs') (hd : decode cc pc = .ok (.putfield 13, 3)) (kk : qw_W p l e R s m args below meth c D A nL Q k n ad (va_up g t (some (.inr (6, fs')))) (pc + 3) lv st) : qw_W p l e R s m args below meth c D A nL Q k n ad g pc lv (v :: .ref a :: st) := qr_putF C qi_X7 tyX7 tyX7_ok nmX7 4 (by decide) fl_X7_13 rfl hin2 rfl (by decide +kernel) t hg ha hn hfit hl0 hfs hd kk
set_option maxRecDepth 20000 in
theorem fl_X7_16 : qw_tb (.fieldLink RX7 16 (TX7 5).1 (TX7 5).2.1 (TX7 5).2.2.1) := qw_tbi 552 (by decide +kernel) rfl
theorem gf_X7_16 (C : qw_C p l s m args meth c D A nL cc RX7 ret) {a : Nat} {fs : List Value} {v : Value} (t : Nat) (hg : g t = some (.inr (6, fs))) (ha : ad t = a) (hv : fs[5]? = some v) (hd : decode cc pc = .ok (.getfield 16, 3)) (kk : qw_W p l e R s m args below meth c D A nL Q k n ad g (pc + 3) lv (v :: st)) : qw_W p l e R s m args below meth c D A nL Q k n ad g pc lv (.ref a :: st) := qr_get C qi_X7 5 (by decide) fl_X7_16 t hg ha hv hd kk
theorem pf_X7_16 (C : qw_C p l s m args meth c D A nL cc RX7 ret) (hin2 : meth.name = "<init>") {a : Nat} {fs fs' : List Value} {v : Value} (t : Nat) (hg : g t = some (.inr (6, fs))) (ha : ad t = a) (hn : narrow (.array .int) v = v) (hfit : fits (.array .int) v = true) (hl0 : 5 < fs.length) (hfs : fs.set 5 v = fs') (hd : decode cc pc = .ok (.putfield 16, 3)) (kk : qw_W p l e R s m args below meth c D A nL Q k n ad (va_up g t (some (.inr (6, fs')))) (pc + 3) lv st) : qw_W p l e R s m args below meth c D A nL Q k n ad g pc lv (v :: .ref a :: st) := qr_putF C qi_X7 tyX7 tyX7_ok nmX7 5 (by decide) fl_X7_16 rfl hin2 rfl (by decide +kernel) t hg ha hn hfit hl0 hfs hd kk
set_option maxRecDepth 20000 in
theorem fl_X7_19 : qw_tb (.fieldLink RX7 19 (TX7 6).1 (TX7 6).2.1 (TX7 6).2.2.1) := qw_tbi 553 (by decide +kernel) rfl
theorem gf_X7_19 (C : qw_C p l s m args meth c D A nL cc RX7 ret) {a : Nat} {fs : List Value} {v : Value} (t : Nat) (hg : g t = some (.inr (6, fs))) (ha : ad t = a) (hv : fs[6]? = some v) (hd : decode cc pc = .ok (.getfield 19, 3)) (kk : qw_W p l e R s m args below meth c D A nL Q k n ad g (pc + 3) lv (v :: st)) : qw_W p l e R s m args below meth c D A nL Q k n ad g pc lv (.ref a :: st) := qr_get C qi_X7 6 (by decide) fl_X7_19 t hg ha hv hd kk
theorem pf_X7_19 (C : qw_C p l s m args meth c D A nL cc RX7 ret) (hin2 : meth.name = "<init>") {a : Nat} {fs fs' : List Value} {v : Value} (t : Nat) (hg : g t = some (.inr (6, fs))) (ha : ad t = a) (hn : narrow (.array .int) v = v) (hfit : fits (.array .int) v = true) (hl0 : 6 < fs.length) (hfs : fs.set 6 v = fs') (hd : decode cc pc = .ok (.putfield 19, 3)) (kk : qw_W p l e R s m args below meth c D A nL Q k n ad (va_up g t (some (.inr (6, fs')))) (pc + 3) lv st) : qw_W p l e R s m args below meth c D A nL Q k n ad g pc lv (v :: .ref a :: st) := qr_putF C qi_X7 tyX7 tyX7_ok nmX7 6 (by decide) fl_X7_19 rfl hin2 rfl (by decide +kernel) t hg ha hn hfit hl0 hfs hd kk
set_option maxRecDepth 20000 in
theorem fl_X7_22 : qw_tb (.fieldLink RX7 22 (TX7 7).1 (TX7 7).2.1 (TX7 7).2.2.1) := qw_tbi 554 (by decide +kernel) rfl
theorem gf_X7_22 (C : qw_C p l s m args meth c D A nL cc RX7 ret) {a : Nat} {fs : List Value} {v : Value} (t : Nat) (hg : g t = some (.inr (6, fs))) (ha : ad t = a) (hv : fs[7]? = some v) (hd : decode cc pc = .ok (.getfield 22, 3)) (kk : qw_W p l e R s m args below meth c D A nL Q k n ad g (pc + 3) lv (v :: st)) : qw_W p l e R s m args below meth c D A nL Q k n ad g pc lv (.ref a :: st) := qr_get C qi_X7 7 (by decide) fl_X7_22 t hg ha hv hd kk
theorem pf_X7_22 (C : qw_C p l s m args meth c D A nL cc RX7 ret) (hin2 : meth.name = "<init>") {a : Nat} {fs fs' : List Value} {v : Value} (t : Nat) (hg : g t = some (.inr (6, fs))) (ha : ad t = a) (hn : narrow (.array .boolean) v = v) (hfit : fits (.array .boolean) v = true) (hl0 : 7 < fs.length) (hfs : fs.set 7 v = fs') (hd : decode cc pc = .ok (.putfield 22, 3)) (kk : qw_W p l e R s m args below meth c D A nL Q k n ad (va_up g t (some (.inr (6, fs')))) (pc + 3) lv st) : qw_W p l e R s m args below meth c D A nL Q k n ad g pc lv (v :: .ref a :: st) := qr_putF C qi_X7 tyX7 tyX7_ok nmX7 7 (by decide) fl_X7_22 rfl hin2 rfl (by decide +kernel) t hg ha hn hfit hl0 hfs hd kk
set_option maxRecDepth 20000 in
theorem fl_X7_26 : qw_tb (.fieldLink RX7 26 (TX7 8).1 (TX7 8).2.1 (TX7 8).2.2.1) := qw_tbi 555 (by decide +kernel) rfl
theorem gf_X7_26 (C : qw_C p l s m args meth c D A nL cc RX7 ret) {a : Nat} {fs : List Value} {v : Value} (t : Nat) (hg : g t = some (.inr (6, fs))) (ha : ad t = a) (hv : fs[8]? = some v) (hd : decode cc pc = .ok (.getfield 26, 3)) (kk : qw_W p l e R s m args below meth c D A nL Q k n ad g (pc + 3) lv (v :: st)) : qw_W p l e R s m args below meth c D A nL Q k n ad g pc lv (.ref a :: st) := qr_get C qi_X7 8 (by decide) fl_X7_26 t hg ha hv hd kk
theorem pf_X7_26 (C : qw_C p l s m args meth c D A nL cc RX7 ret) (hin2 : meth.name = "<init>") {a : Nat} {fs fs' : List Value} {v : Value} (t : Nat) (hg : g t = some (.inr (6, fs))) (ha : ad t = a) (hn : narrow (.array .boolean) v = v) (hfit : fits (.array .boolean) v = true) (hl0 : 8 < fs.length) (hfs : fs.set 8 v = fs') (hd : decode cc pc = .ok (.putfield 26, 3)) (kk : qw_W p l e R s m args below meth c D A nL Q k n ad (va_up g t (some (.inr (6, fs')))) (pc + 3) lv st) : qw_W p l e R s m args below meth c D A nL Q k n ad g pc lv (v :: .ref a :: st) := qr_putF C qi_X7 tyX7 tyX7_ok nmX7 8 (by decide) fl_X7_26 rfl hin2 rfl (by decide +kernel) t hg ha hn hfit hl0 hfs hd kk
set_option maxRecDepth 20000 in
theorem fl_X7_95 : qw_tb (.fieldLink RX7 95 (TX7 9).1 (TX7 9).2.1 (TX7 9).2.2.1) := qw_tbi 556 (by decide +kernel) rfl
theorem gf_X7_95 (C : qw_C p l s m args meth c D A nL cc RX7 ret) {a : Nat} {fs : List Value} {v : Value} (t : Nat) (hg : g t = some (.inr (6, fs))) (ha : ad t = a) (hv : fs[9]? = some v) (hd : decode cc pc = .ok (.getfield 95, 3)) (kk : qw_W p l e R s m args below meth c D A nL Q k n ad g (pc + 3) lv (v :: st)) : qw_W p l e R s m args below meth c D A nL Q k n ad g pc lv (.ref a :: st) := qr_get C qi_X7 9 (by decide) fl_X7_95 t hg ha hv hd kk
theorem pf_X7_95 (C : qw_C p l s m args meth c D A nL cc RX7 ret) {a : Nat} {fs fs' : List Value} {v : Value} (t : Nat) (hg : g t = some (.inr (6, fs))) (ha : ad t = a) (hn : narrow .int v = v) (hfit : fits .int v = true) (hl0 : 9 < fs.length) (hfs : fs.set 9 v = fs') (hd : decode cc pc = .ok (.putfield 95, 3)) (kk : qw_W p l e R s m args below meth c D A nL Q k n ad (va_up g t (some (.inr (6, fs')))) (pc + 3) lv st) : qw_W p l e R s m args below meth c D A nL Q k n ad g pc lv (v :: .ref a :: st) := qr_put C qi_X7 tyX7 tyX7_ok nmX7 9 (by decide) fl_X7_95 rfl (by decide +kernel) t hg ha hn hfit hl0 hfs hd kk
set_option maxRecDepth 20000 in
theorem fl_X7_29 : qw_tb (.fieldLink RX7 29 (TX7 10).1 (TX7 10).2.1 (TX7 10).2.2.1) := qw_tbi 557 (by decide +kernel) rfl
theorem gf_X7_29 (C : qw_C p l s m args meth c D A nL cc RX7 ret) {a : Nat} {fs : List Value} {v : Value} (t : Nat) (hg : g t = some (.inr (6, fs))) (ha : ad t = a) (hv : fs[10]? = some v) (hd : decode cc pc = .ok (.getfield 29, 3)) (kk : qw_W p l e R s m args below meth c D A nL Q k n ad g (pc + 3) lv (v :: st)) : qw_W p l e R s m args below meth c D A nL Q k n ad g pc lv (.ref a :: st) := qr_get C qi_X7 10 (by decide) fl_X7_29 t hg ha hv hd kk
theorem pf_X7_29 (C : qw_C p l s m args meth c D A nL cc RX7 ret) (hin2 : meth.name = "<init>") {a : Nat} {fs fs' : List Value} {v : Value} (t : Nat) (hg : g t = some (.inr (6, fs))) (ha : ad t = a) (hn : narrow (.array .int) v = v) (hfit : fits (.array .int) v = true) (hl0 : 10 < fs.length) (hfs : fs.set 10 v = fs') (hd : decode cc pc = .ok (.putfield 29, 3)) (kk : qw_W p l e R s m args below meth c D A nL Q k n ad (va_up g t (some (.inr (6, fs')))) (pc + 3) lv st) : qw_W p l e R s m args below meth c D A nL Q k n ad g pc lv (v :: .ref a :: st) := qr_putF C qi_X7 tyX7 tyX7_ok nmX7 10 (by decide) fl_X7_29 rfl hin2 rfl (by decide +kernel) t hg ha hn hfit hl0 hfs hd kk
set_option maxRecDepth 20000 in
theorem fl_X7_32 : qw_tb (.fieldLink RX7 32 (TX7 11).1 (TX7 11).2.1 (TX7 11).2.2.1) := qw_tbi 558 (by decide +kernel) rfl
theorem gf_X7_32 (C : qw_C p l s m args meth c D A nL cc RX7 ret) {a : Nat} {fs : List Value} {v : Value} (t : Nat) (hg : g t = some (.inr (6, fs))) (ha : ad t = a) (hv : fs[11]? = some v) (hd : decode cc pc = .ok (.getfield 32, 3)) (kk : qw_W p l e R s m args below meth c D A nL Q k n ad g (pc + 3) lv (v :: st)) : qw_W p l e R s m args below meth c D A nL Q k n ad g pc lv (.ref a :: st) := qr_get C qi_X7 11 (by decide) fl_X7_32 t hg ha hv hd kk
theorem pf_X7_32 (C : qw_C p l s m args meth c D A nL cc RX7 ret) (hin2 : meth.name = "<init>") {a : Nat} {fs fs' : List Value} {v : Value} (t : Nat) (hg : g t = some (.inr (6, fs))) (ha : ad t = a) (hn : narrow (.array .int) v = v) (hfit : fits (.array .int) v = true) (hl0 : 11 < fs.length) (hfs : fs.set 11 v = fs') (hd : decode cc pc = .ok (.putfield 32, 3)) (kk : qw_W p l e R s m args below meth c D A nL Q k n ad (va_up g t (some (.inr (6, fs')))) (pc + 3) lv st) : qw_W p l e R s m args below meth c D A nL Q k n ad g pc lv (v :: .ref a :: st) := qr_putF C qi_X7 tyX7 tyX7_ok nmX7 11 (by decide) fl_X7_32 rfl hin2 rfl (by decide +kernel) t hg ha hn hfit hl0 hfs hd kk
set_option maxRecDepth 20000 in
theorem fl_X7_35 : qw_tb (.fieldLink RX7 35 (TX7 12).1 (TX7 12).2.1 (TX7 12).2.2.1) := qw_tbi 559 (by decide +kernel) rfl
theorem gf_X7_35 (C : qw_C p l s m args meth c D A nL cc RX7 ret) {a : Nat} {fs : List Value} {v : Value} (t : Nat) (hg : g t = some (.inr (6, fs))) (ha : ad t = a) (hv : fs[12]? = some v) (hd : decode cc pc = .ok (.getfield 35, 3)) (kk : qw_W p l e R s m args below meth c D A nL Q k n ad g (pc + 3) lv (v :: st)) : qw_W p l e R s m args below meth c D A nL Q k n ad g pc lv (.ref a :: st) := qr_get C qi_X7 12 (by decide) fl_X7_35 t hg ha hv hd kk
theorem pf_X7_35 (C : qw_C p l s m args meth c D A nL cc RX7 ret) (hin2 : meth.name = "<init>") {a : Nat} {fs fs' : List Value} {v : Value} (t : Nat) (hg : g t = some (.inr (6, fs))) (ha : ad t = a) (hn : narrow (.array .int) v = v) (hfit : fits (.array .int) v = true) (hl0 : 12 < fs.length) (hfs : fs.set 12 v = fs') (hd : decode cc pc = .ok (.putfield 35, 3)) (kk : qw_W p l e R s m args below meth c D A nL Q k n ad (va_up g t (some (.inr (6, fs')))) (pc + 3) lv st) : qw_W p l e R s m args below meth c D A nL Q k n ad g pc lv (v :: .ref a :: st) := qr_putF C qi_X7 tyX7 tyX7_ok nmX7 12 (by decide) fl_X7_35 rfl hin2 rfl (by decide +kernel) t hg ha hn hfit hl0 hfs hd kk
set_option maxRecDepth 20000 in
theorem fl_X7_38 : qw_tb (.fieldLink RX7 38 (TX7 13).1 (TX7 13).2.1 (TX7 13).2.2.1) := qw_tbi 560 (by decide +kernel) rfl
theorem gf_X7_38 (C : qw_C p l s m args meth c D A nL cc RX7 ret) {a : Nat} {fs : List Value} {v : Value} (t : Nat) (hg : g t = some (.inr (6, fs))) (ha : ad t = a) (hv : fs[13]? = some v) (hd : decode cc pc = .ok (.getfield 38, 3)) (kk : qw_W p l e R s m args below meth c D A nL Q k n ad g (pc + 3) lv (v :: st)) : qw_W p l e R s m args below meth c D A nL Q k n ad g pc lv (.ref a :: st) := qr_get C qi_X7 13 (by decide) fl_X7_38 t hg ha hv hd kk
theorem pf_X7_38 (C : qw_C p l s m args meth c D A nL cc RX7 ret) (hin2 : meth.name = "<init>") {a : Nat} {fs fs' : List Value} {v : Value} (t : Nat) (hg : g t = some (.inr (6, fs))) (ha : ad t = a) (hn : narrow (.array .int) v = v) (hfit : fits (.array .int) v = true) (hl0 : 13 < fs.length) (hfs : fs.set 13 v = fs') (hd : decode cc pc = .ok (.putfield 38, 3)) (kk : qw_W p l e R s m args below meth c D A nL Q k n ad (va_up g t (some (.inr (6, fs')))) (pc + 3) lv st) : qw_W p l e R s m args below meth c D A nL Q k n ad g pc lv (v :: .ref a :: st) := qr_putF C qi_X7 tyX7 tyX7_ok nmX7 13 (by decide) fl_X7_38 rfl hin2 rfl (by decide +kernel) t hg ha hn hfit hl0 hfs hd kk
set_option maxRecDepth 20000 in
theorem fl_X7_41 : qw_tb (.fieldLink RX7 41 (TX7 14).1 (TX7 14).2.1 (TX7 14).2.2.1) := qw_tbi 561 (by decide +kernel) rfl
theorem gf_X7_41 (C : qw_C p l s m args meth c D A nL cc RX7 ret) {a : Nat} {fs : List Value} {v : Value} (t : Nat) (hg : g t = some (.inr (6, fs))) (ha : ad t = a) (hv : fs[14]? = some v) (hd : decode cc pc = .ok (.getfield 41, 3)) (kk : qw_W p l e R s m args below meth c D A nL Q k n ad g (pc + 3) lv (v :: st)) : qw_W p l e R s m args below meth c D A nL Q k n ad g pc lv (.ref a :: st) := qr_get C qi_X7 14 (by decide) fl_X7_41 t hg ha hv hd kk
theorem pf_X7_41 (C : qw_C p l s m args meth c D A nL cc RX7 ret) (hin2 : meth.name = "<init>") {a : Nat} {fs fs' : List Value} {v : Value} (t : Nat) (hg : g t = some (.inr (6, fs))) (ha : ad t = a) (hn : narrow (.array .boolean) v = v) (hfit : fits (.array .boolean) v = true) (hl0 : 14 < fs.length) (hfs : fs.set 14 v = fs') (hd : decode cc pc = .ok (.putfield 41, 3)) (kk : qw_W p l e R s m args below meth c D A nL Q k n ad (va_up g t (some (.inr (6, fs')))) (pc + 3) lv st) : qw_W p l e R s m args below meth c D A nL Q k n ad g pc lv (v :: .ref a :: st) := qr_putF C qi_X7 tyX7 tyX7_ok nmX7 14 (by decide) fl_X7_41 rfl hin2 rfl (by decide +kernel) t hg ha hn hfit hl0 hfs hd kk
set_option maxRecDepth 20000 in
theorem fl_X7_44 : qw_tb (.fieldLink RX7 44 (TX7 15).1 (TX7 15).2.1 (TX7 15).2.2.1) := qw_tbi 562 (by decide +kernel) rfl
theorem gf_X7_44 (C : qw_C p l s m args meth c D A nL cc RX7 ret) {a : Nat} {fs : List Value} {v : Value} (t : Nat) (hg : g t = some (.inr (6, fs))) (ha : ad t = a) (hv : fs[15]? = some v) (hd : decode cc pc = .ok (.getfield 44, 3)) (kk : qw_W p l e R s m args below meth c D A nL Q k n ad g (pc + 3) lv (v :: st)) : qw_W p l e R s m args below meth c D A nL Q k n ad g pc lv (.ref a :: st) := qr_get C qi_X7 15 (by decide) fl_X7_44 t hg ha hv hd kk
theorem pf_X7_44 (C : qw_C p l s m args meth c D A nL cc RX7 ret) (hin2 : meth.name = "<init>") {a : Nat} {fs fs' : List Value} {v : Value} (t : Nat) (hg : g t = some (.inr (6, fs))) (ha : ad t = a) (hn : narrow (.array .boolean) v = v) (hfit : fits (.array .boolean) v = true) (hl0 : 15 < fs.length) (hfs : fs.set 15 v = fs') (hd : decode cc pc = .ok (.putfield 44, 3)) (kk : qw_W p l e R s m args below meth c D A nL Q k n ad (va_up g t (some (.inr (6, fs')))) (pc + 3) lv st) : qw_W p l e R s m args below meth c D A nL Q k n ad g pc lv (v :: .ref a :: st) := qr_putF C qi_X7 tyX7 tyX7_ok nmX7 15 (by decide) fl_X7_44 rfl hin2 rfl (by decide +kernel) t hg ha hn hfit hl0 hfs hd kk
set_option maxRecDepth 20000 in
theorem fl_X7_47 : qw_tb (.fieldLink RX7 47 (TX7 16).1 (TX7 16).2.1 (TX7 16).2.2.1) := qw_tbi 563 (by decide +kernel) rfl
theorem gf_X7_47 (C : qw_C p l s m args meth c D A nL cc RX7 ret) {a : Nat} {fs : List Value} {v : Value} (t : Nat) (hg : g t = some (.inr (6, fs))) (ha : ad t = a) (hv : fs[16]? = some v) (hd : decode cc pc = .ok (.getfield 47, 3)) (kk : qw_W p l e R s m args below meth c D A nL Q k n ad g (pc + 3) lv (v :: st)) : qw_W p l e R s m args below meth c D A nL Q k n ad g pc lv (.ref a :: st) := qr_get C qi_X7 16 (by decide) fl_X7_47 t hg ha hv hd kk
theorem pf_X7_47 (C : qw_C p l s m args meth c D A nL cc RX7 ret) (hin2 : meth.name = "<init>") {a : Nat} {fs fs' : List Value} {v : Value} (t : Nat) (hg : g t = some (.inr (6, fs))) (ha : ad t = a) (hn : narrow (.array .int) v = v) (hfit : fits (.array .int) v = true) (hl0 : 16 < fs.length) (hfs : fs.set 16 v = fs') (hd : decode cc pc = .ok (.putfield 47, 3)) (kk : qw_W p l e R s m args below meth c D A nL Q k n ad (va_up g t (some (.inr (6, fs')))) (pc + 3) lv st) : qw_W p l e R s m args below meth c D A nL Q k n ad g pc lv (v :: .ref a :: st) := qr_putF C qi_X7 tyX7 tyX7_ok nmX7 16 (by decide) fl_X7_47 rfl hin2 rfl (by decide +kernel) t hg ha hn hfit hl0 hfs hd kk
set_option maxRecDepth 20000 in
theorem fl_X7_50 : qw_tb (.fieldLink RX7 50 (TX7 17).1 (TX7 17).2.1 (TX7 17).2.2.1) := qw_tbi 564 (by decide +kernel) rfl
theorem gf_X7_50 (C : qw_C p l s m args meth c D A nL cc RX7 ret) {a : Nat} {fs : List Value} {v : Value} (t : Nat) (hg : g t = some (.inr (6, fs))) (ha : ad t = a) (hv : fs[17]? = some v) (hd : decode cc pc = .ok (.getfield 50, 3)) (kk : qw_W p l e R s m args below meth c D A nL Q k n ad g (pc + 3) lv (v :: st)) : qw_W p l e R s m args below meth c D A nL Q k n ad g pc lv (.ref a :: st) := qr_get C qi_X7 17 (by decide) fl_X7_50 t hg ha hv hd kk
theorem pf_X7_50 (C : qw_C p l s m args meth c D A nL cc RX7 ret) (hin2 : meth.name = "<init>") {a : Nat} {fs fs' : List Value} {v : Value} (t : Nat) (hg : g t = some (.inr (6, fs))) (ha : ad t = a) (hn : narrow (.array .int) v = v) (hfit : fits (.array .int) v = true) (hl0 : 17 < fs.length) (hfs : fs.set 17 v = fs') (hd : decode cc pc = .ok (.putfield 50, 3)) (kk : qw_W p l e R s m args below meth c D A nL Q k n ad (va_up g t (some (.inr (6, fs')))) (pc + 3) lv st) : qw_W p l e R s m args below meth c D A nL Q k n ad g pc lv (v :: .ref a :: st) := qr_putF C qi_X7 tyX7 tyX7_ok nmX7 17 (by decide) fl_X7_50 rfl hin2 rfl (by decide +kernel) t hg ha hn hfit hl0 hfs hd kk
set_option maxRecDepth 20000 in
theorem fl_X7_69 : qw_tb (.fieldLink RX7 69 (TX7 18).1 (TX7 18).2.1 (TX7 18).2.2.1) := qw_tbi 565 (by decide +kernel) rfl
theorem gf_X7_69 (C : qw_C p l s m args meth c D A nL cc RX7 ret) {a : Nat} {fs : List Value} {v : Value} (t : Nat) (hg : g t = some (.inr (6, fs))) (ha : ad t = a) (hv : fs[18]? = some v) (hd : decode cc pc = .ok (.getfield 69, 3)) (kk : qw_W p l e R s m args below meth c D A nL Q k n ad g (pc + 3) lv (v :: st)) : qw_W p l e R s m args below meth c D A nL Q k n ad g pc lv (.ref a :: st) := qr_get C qi_X7 18 (by decide) fl_X7_69 t hg ha hv hd kk
theorem pf_X7_69 (C : qw_C p l s m args meth c D A nL cc RX7 ret) {a : Nat} {fs fs' : List Value} {v : Value} (t : Nat) (hg : g t = some (.inr (6, fs))) (ha : ad t = a) (hn : narrow .int v = v) (hfit : fits .int v = true) (hl0 : 18 < fs.length) (hfs : fs.set 18 v = fs') (hd : decode cc pc = .ok (.putfield 69, 3)) (kk : qw_W p l e R s m args below meth c D A nL Q k n ad (va_up g t (some (.inr (6, fs')))) (pc + 3) lv st) : qw_W p l e R s m args below meth c D A nL Q k n ad g pc lv (v :: .ref a :: st) := qr_put C qi_X7 tyX7 tyX7_ok nmX7 18 (by decide) fl_X7_69 rfl (by decide +kernel) t hg ha hn hfit hl0 hfs hd kk
set_option maxRecDepth 20000 in
theorem fl_X7_127 : qw_tb (.fieldLink RX7 127 (TX7 19).1 (TX7 19).2.1 (TX7 19).2.2.1) := qw_tbi 566 (by decide +kernel) rfl
theorem gf_X7_127 (C : qw_C p l s m args meth c D A nL cc RX7 ret) {a : Nat} {fs : List Value} {v : Value} (t : Nat) (hg : g t = some (.inr (6, fs))) (ha : ad t = a) (hv : fs[19]? = some v) (hd : decode cc pc = .ok (.getfield 127, 3)) (kk : qw_W p l e R s m args below meth c D A nL Q k n ad g (pc + 3) lv (v :: st)) : qw_W p l e R s m args below meth c D A nL Q k n ad g pc lv (.ref a :: st) := qr_get C qi_X7 19 (by decide) fl_X7_127 t hg ha hv hd kk
theorem pf_X7_127 (C : qw_C p l s m args meth c D A nL cc RX7 ret) {a : Nat} {fs fs' : List Value} {v : Value} (t : Nat) (hg : g t = some (.inr (6, fs))) (ha : ad t = a) (hn : narrow .int v = v) (hfit : fits .int v = true) (hl0 : 19 < fs.length) (hfs : fs.set 19 v = fs') (hd : decode cc pc = .ok (.putfield 127, 3)) (kk : qw_W p l e R s m args below meth c D A nL Q k n ad (va_up g t (some (.inr (6, fs')))) (pc + 3) lv st) : qw_W p l e R s m args below meth c D A nL Q k n ad g pc lv (v :: .ref a :: st) := qr_put C qi_X7 tyX7 tyX7_ok nmX7 19 (by decide) fl_X7_127 rfl (by decide +kernel) t hg ha hn hfit hl0 hfs hd kk
end QWF
section QWG
variable {p : Program} {l : Launch} {e : Env} {R : Room} {s : State} {m : MethodId} {args : Array Value} {below : List Frame} {meth : Method} {c : Code}
variable {D : va_G} {A : Nat → Prop} {nL : Nat} {Q : State → Prop} {k n : Nat} {ad : Nat → Nat} {g : qw_G} {pc : Nat} {lv : List (Nat × Value)} {st : List Value}
variable {cc : ByteArray} {own : String} {ret : Option FieldType}

theorem qr_if_eq_t (C : qw_C p l s m args meth c D A nL cc own ret) {x : Int32} {off : Int} (tgt : Nat) (hd : decode cc pc = .ok (.ifCond .eq off, 3)) (ht : (pc : Int) + off = (tgt : Int)) (h : x = 0) (kt : qw_W p l e R s m args below meth c D A nL Q k n ad g tgt lv st) : qw_W p l e R s m args below meth c D A nL Q k n ad g pc lv (.int x :: st) := qr_if_eq C tgt hd ht (fun _ => kt) (fun z => absurd h z)
theorem qr_if_eq_f (C : qw_C p l s m args meth c D A nL cc own ret) {x : Int32} {off : Int} (tgt : Nat) (hd : decode cc pc = .ok (.ifCond .eq off, 3)) (ht : (pc : Int) + off = (tgt : Int)) (h : ¬ x = 0) (kf : qw_W p l e R s m args below meth c D A nL Q k n ad g (pc + 3) lv st) : qw_W p l e R s m args below meth c D A nL Q k n ad g pc lv (.int x :: st) := qr_if_eq C tgt hd ht (fun z => absurd z h) (fun _ => kf)
theorem qr_icmp_eq_t (C : qw_C p l s m args meth c D A nL cc own ret) {x y : Int32} {off : Int} (tgt : Nat) (hd : decode cc pc = .ok (.if_icmp .eq off, 3)) (ht : (pc : Int) + off = (tgt : Int)) (h : x = y) (kt : qw_W p l e R s m args below meth c D A nL Q k n ad g tgt lv st) : qw_W p l e R s m args below meth c D A nL Q k n ad g pc lv (.int y :: .int x :: st) := qr_icmp_eq C tgt hd ht (fun _ => kt) (fun z => absurd h z)
theorem qr_icmp_eq_f (C : qw_C p l s m args meth c D A nL cc own ret) {x y : Int32} {off : Int} (tgt : Nat) (hd : decode cc pc = .ok (.if_icmp .eq off, 3)) (ht : (pc : Int) + off = (tgt : Int)) (h : ¬ x = y) (kf : qw_W p l e R s m args below meth c D A nL Q k n ad g (pc + 3) lv st) : qw_W p l e R s m args below meth c D A nL Q k n ad g pc lv (.int y :: .int x :: st) := qr_icmp_eq C tgt hd ht (fun z => absurd z h) (fun _ => kf)
theorem qr_if_ne_t (C : qw_C p l s m args meth c D A nL cc own ret) {x : Int32} {off : Int} (tgt : Nat) (hd : decode cc pc = .ok (.ifCond .ne off, 3)) (ht : (pc : Int) + off = (tgt : Int)) (h : ¬ x = 0) (kt : qw_W p l e R s m args below meth c D A nL Q k n ad g tgt lv st) : qw_W p l e R s m args below meth c D A nL Q k n ad g pc lv (.int x :: st) := qr_if_ne C tgt hd ht (fun _ => kt) (fun z => absurd z h)
theorem qr_if_ne_f (C : qw_C p l s m args meth c D A nL cc own ret) {x : Int32} {off : Int} (tgt : Nat) (hd : decode cc pc = .ok (.ifCond .ne off, 3)) (ht : (pc : Int) + off = (tgt : Int)) (h : x = 0) (kf : qw_W p l e R s m args below meth c D A nL Q k n ad g (pc + 3) lv st) : qw_W p l e R s m args below meth c D A nL Q k n ad g pc lv (.int x :: st) := qr_if_ne C tgt hd ht (fun z => absurd h z) (fun _ => kf)
theorem qr_icmp_ne_t (C : qw_C p l s m args meth c D A nL cc own ret) {x y : Int32} {off : Int} (tgt : Nat) (hd : decode cc pc = .ok (.if_icmp .ne off, 3)) (ht : (pc : Int) + off = (tgt : Int)) (h : ¬ x = y) (kt : qw_W p l e R s m args below meth c D A nL Q k n ad g tgt lv st) : qw_W p l e R s m args below meth c D A nL Q k n ad g pc lv (.int y :: .int x :: st) := qr_icmp_ne C tgt hd ht (fun _ => kt) (fun z => absurd z h)
theorem qr_icmp_ne_f (C : qw_C p l s m args meth c D A nL cc own ret) {x y : Int32} {off : Int} (tgt : Nat) (hd : decode cc pc = .ok (.if_icmp .ne off, 3)) (ht : (pc : Int) + off = (tgt : Int)) (h : x = y) (kf : qw_W p l e R s m args below meth c D A nL Q k n ad g (pc + 3) lv st) : qw_W p l e R s m args below meth c D A nL Q k n ad g pc lv (.int y :: .int x :: st) := qr_icmp_ne C tgt hd ht (fun z => absurd h z) (fun _ => kf)
theorem qr_if_lt_t (C : qw_C p l s m args meth c D A nL cc own ret) {x : Int32} {off : Int} (tgt : Nat) (hd : decode cc pc = .ok (.ifCond .lt off, 3)) (ht : (pc : Int) + off = (tgt : Int)) (h : x < 0) (kt : qw_W p l e R s m args below meth c D A nL Q k n ad g tgt lv st) : qw_W p l e R s m args below meth c D A nL Q k n ad g pc lv (.int x :: st) := qr_if_lt C tgt hd ht (fun _ => kt) (fun z => absurd h z)
theorem qr_if_lt_f (C : qw_C p l s m args meth c D A nL cc own ret) {x : Int32} {off : Int} (tgt : Nat) (hd : decode cc pc = .ok (.ifCond .lt off, 3)) (ht : (pc : Int) + off = (tgt : Int)) (h : ¬ x < 0) (kf : qw_W p l e R s m args below meth c D A nL Q k n ad g (pc + 3) lv st) : qw_W p l e R s m args below meth c D A nL Q k n ad g pc lv (.int x :: st) := qr_if_lt C tgt hd ht (fun z => absurd z h) (fun _ => kf)
theorem qr_icmp_lt_t (C : qw_C p l s m args meth c D A nL cc own ret) {x y : Int32} {off : Int} (tgt : Nat) (hd : decode cc pc = .ok (.if_icmp .lt off, 3)) (ht : (pc : Int) + off = (tgt : Int)) (h : x < y) (kt : qw_W p l e R s m args below meth c D A nL Q k n ad g tgt lv st) : qw_W p l e R s m args below meth c D A nL Q k n ad g pc lv (.int y :: .int x :: st) := qr_icmp_lt C tgt hd ht (fun _ => kt) (fun z => absurd h z)
theorem qr_icmp_lt_f (C : qw_C p l s m args meth c D A nL cc own ret) {x y : Int32} {off : Int} (tgt : Nat) (hd : decode cc pc = .ok (.if_icmp .lt off, 3)) (ht : (pc : Int) + off = (tgt : Int)) (h : ¬ x < y) (kf : qw_W p l e R s m args below meth c D A nL Q k n ad g (pc + 3) lv st) : qw_W p l e R s m args below meth c D A nL Q k n ad g pc lv (.int y :: .int x :: st) := qr_icmp_lt C tgt hd ht (fun z => absurd z h) (fun _ => kf)
theorem qr_if_ge_t (C : qw_C p l s m args meth c D A nL cc own ret) {x : Int32} {off : Int} (tgt : Nat) (hd : decode cc pc = .ok (.ifCond .ge off, 3)) (ht : (pc : Int) + off = (tgt : Int)) (h : 0 ≤ x) (kt : qw_W p l e R s m args below meth c D A nL Q k n ad g tgt lv st) : qw_W p l e R s m args below meth c D A nL Q k n ad g pc lv (.int x :: st) := qr_if_ge C tgt hd ht (fun _ => kt) (fun z => absurd h z)
theorem qr_if_ge_f (C : qw_C p l s m args meth c D A nL cc own ret) {x : Int32} {off : Int} (tgt : Nat) (hd : decode cc pc = .ok (.ifCond .ge off, 3)) (ht : (pc : Int) + off = (tgt : Int)) (h : ¬ 0 ≤ x) (kf : qw_W p l e R s m args below meth c D A nL Q k n ad g (pc + 3) lv st) : qw_W p l e R s m args below meth c D A nL Q k n ad g pc lv (.int x :: st) := qr_if_ge C tgt hd ht (fun z => absurd z h) (fun _ => kf)
theorem qr_icmp_ge_t (C : qw_C p l s m args meth c D A nL cc own ret) {x y : Int32} {off : Int} (tgt : Nat) (hd : decode cc pc = .ok (.if_icmp .ge off, 3)) (ht : (pc : Int) + off = (tgt : Int)) (h : y ≤ x) (kt : qw_W p l e R s m args below meth c D A nL Q k n ad g tgt lv st) : qw_W p l e R s m args below meth c D A nL Q k n ad g pc lv (.int y :: .int x :: st) := qr_icmp_ge C tgt hd ht (fun _ => kt) (fun z => absurd h z)
theorem qr_icmp_ge_f (C : qw_C p l s m args meth c D A nL cc own ret) {x y : Int32} {off : Int} (tgt : Nat) (hd : decode cc pc = .ok (.if_icmp .ge off, 3)) (ht : (pc : Int) + off = (tgt : Int)) (h : ¬ y ≤ x) (kf : qw_W p l e R s m args below meth c D A nL Q k n ad g (pc + 3) lv st) : qw_W p l e R s m args below meth c D A nL Q k n ad g pc lv (.int y :: .int x :: st) := qr_icmp_ge C tgt hd ht (fun z => absurd z h) (fun _ => kf)
theorem qr_if_gt_t (C : qw_C p l s m args meth c D A nL cc own ret) {x : Int32} {off : Int} (tgt : Nat) (hd : decode cc pc = .ok (.ifCond .gt off, 3)) (ht : (pc : Int) + off = (tgt : Int)) (h : 0 < x) (kt : qw_W p l e R s m args below meth c D A nL Q k n ad g tgt lv st) : qw_W p l e R s m args below meth c D A nL Q k n ad g pc lv (.int x :: st) := qr_if_gt C tgt hd ht (fun _ => kt) (fun z => absurd h z)
theorem qr_if_gt_f (C : qw_C p l s m args meth c D A nL cc own ret) {x : Int32} {off : Int} (tgt : Nat) (hd : decode cc pc = .ok (.ifCond .gt off, 3)) (ht : (pc : Int) + off = (tgt : Int)) (h : ¬ 0 < x) (kf : qw_W p l e R s m args below meth c D A nL Q k n ad g (pc + 3) lv st) : qw_W p l e R s m args below meth c D A nL Q k n ad g pc lv (.int x :: st) := qr_if_gt C tgt hd ht (fun z => absurd z h) (fun _ => kf)
theorem qr_icmp_gt_t (C : qw_C p l s m args meth c D A nL cc own ret) {x y : Int32} {off : Int} (tgt : Nat) (hd : decode cc pc = .ok (.if_icmp .gt off, 3)) (ht : (pc : Int) + off = (tgt : Int)) (h : y < x) (kt : qw_W p l e R s m args below meth c D A nL Q k n ad g tgt lv st) : qw_W p l e R s m args below meth c D A nL Q k n ad g pc lv (.int y :: .int x :: st) := qr_icmp_gt C tgt hd ht (fun _ => kt) (fun z => absurd h z)
theorem qr_icmp_gt_f (C : qw_C p l s m args meth c D A nL cc own ret) {x y : Int32} {off : Int} (tgt : Nat) (hd : decode cc pc = .ok (.if_icmp .gt off, 3)) (ht : (pc : Int) + off = (tgt : Int)) (h : ¬ y < x) (kf : qw_W p l e R s m args below meth c D A nL Q k n ad g (pc + 3) lv st) : qw_W p l e R s m args below meth c D A nL Q k n ad g pc lv (.int y :: .int x :: st) := qr_icmp_gt C tgt hd ht (fun z => absurd z h) (fun _ => kf)
theorem qr_if_le_t (C : qw_C p l s m args meth c D A nL cc own ret) {x : Int32} {off : Int} (tgt : Nat) (hd : decode cc pc = .ok (.ifCond .le off, 3)) (ht : (pc : Int) + off = (tgt : Int)) (h : x ≤ 0) (kt : qw_W p l e R s m args below meth c D A nL Q k n ad g tgt lv st) : qw_W p l e R s m args below meth c D A nL Q k n ad g pc lv (.int x :: st) := qr_if_le C tgt hd ht (fun _ => kt) (fun z => absurd h z)
theorem qr_if_le_f (C : qw_C p l s m args meth c D A nL cc own ret) {x : Int32} {off : Int} (tgt : Nat) (hd : decode cc pc = .ok (.ifCond .le off, 3)) (ht : (pc : Int) + off = (tgt : Int)) (h : ¬ x ≤ 0) (kf : qw_W p l e R s m args below meth c D A nL Q k n ad g (pc + 3) lv st) : qw_W p l e R s m args below meth c D A nL Q k n ad g pc lv (.int x :: st) := qr_if_le C tgt hd ht (fun z => absurd z h) (fun _ => kf)
theorem qr_icmp_le_t (C : qw_C p l s m args meth c D A nL cc own ret) {x y : Int32} {off : Int} (tgt : Nat) (hd : decode cc pc = .ok (.if_icmp .le off, 3)) (ht : (pc : Int) + off = (tgt : Int)) (h : x ≤ y) (kt : qw_W p l e R s m args below meth c D A nL Q k n ad g tgt lv st) : qw_W p l e R s m args below meth c D A nL Q k n ad g pc lv (.int y :: .int x :: st) := qr_icmp_le C tgt hd ht (fun _ => kt) (fun z => absurd h z)
theorem qr_icmp_le_f (C : qw_C p l s m args meth c D A nL cc own ret) {x y : Int32} {off : Int} (tgt : Nat) (hd : decode cc pc = .ok (.if_icmp .le off, 3)) (ht : (pc : Int) + off = (tgt : Int)) (h : ¬ x ≤ y) (kf : qw_W p l e R s m args below meth c D A nL Q k n ad g (pc + 3) lv st) : qw_W p l e R s m args below meth c D A nL Q k n ad g pc lv (.int y :: .int x :: st) := qr_icmp_le C tgt hd ht (fun z => absurd z h) (fun _ => kf)
end QWG
set_option maxRecDepth 20000 in
theorem gi_X0_9 : GoodIn qw_Ts [Cond.code yX6_contains cX6_contains 2 (some .boolean)] ∧ (Cond.methodLinkNest RX0 9 yX6_contains RX6) ∈ qw_Ts ∧ (Cond.initialized RX6) ∈ qw_Ts ∧ (Cond.static yX6_contains) ∈ qw_Ts := ⟨qw_gi (by decide +kernel), by decide +kernel⟩
set_option maxRecDepth 20000 in
theorem gi_X0_13 : GoodIn qw_Ts (va_wsS RX0 13 yX0_isOnRound [Cond.code yX0_isOnRound cX0_isOnRound 7 (some .boolean)]) := qw_gi (by decide +kernel)
set_option maxRecDepth 20000 in
theorem gi_X0_18 : GoodIn qw_Ts (va_wsS RX0 18 yX0_fewestCovers [Cond.code yX0_fewestCovers cX0_fewestCovers 8 (some .int)]) := qw_gi (by decide +kernel)
set_option maxRecDepth 20000 in
theorem gi_X0_22 : GoodIn qw_Ts (va_wsS RX0 22 yX0_columnsOf [Cond.code yX0_columnsOf cX0_columnsOf 2 (some .int)]) := qw_gi (by decide +kernel)
set_option maxRecDepth 20000 in
theorem gi_X0_25 : GoodIn qw_Ts (va_wsS RX0 25 yX0_cornersOf [Cond.code yX0_cornersOf cX0_cornersOf 6 (some .int)]) := qw_gi (by decide +kernel)
set_option maxRecDepth 20000 in
theorem gi_X0_29 : GoodIn qw_Ts (va_wsS RX0 29 yJ6_bitCount_0f7a4 [Cond.code yJ6_bitCount_0f7a4 cJ6_bitCount_0f7a4 1 (some .int)]) := qw_gi (by decide +kernel)
set_option maxRecDepth 20000 in
theorem gi_X2_16 : GoodIn qw_Ts (wsV RX2 16 RX2 yX2_write [Cond.code yX2_write cX2_write 6 none]) := qw_gi (by decide +kernel)
set_option maxRecDepth 20000 in
theorem gi_X2_20 : GoodIn qw_Ts (wsV RX2 20 RX2 yX2_solve [Cond.code yX2_solve cX2_solve 4 none]) := qw_gi (by decide +kernel)
set_option maxRecDepth 20000 in
theorem gi_X2_23 : GoodIn qw_Ts (wsV RX2 23 RX2 yX2_tellsOnly [Cond.code yX2_tellsOnly cX2_tellsOnly 4 (some .boolean)]) := qw_gi (by decide +kernel)
set_option maxRecDepth 20000 in
theorem gi_X2_27 : GoodIn qw_Ts [Cond.code yX6_contains cX6_contains 2 (some .boolean)] ∧ (Cond.methodLinkNest RX2 27 yX6_contains RX6) ∈ qw_Ts ∧ (Cond.initialized RX6) ∈ qw_Ts ∧ (Cond.static yX6_contains) ∈ qw_Ts := ⟨qw_gi (by decide +kernel), by decide +kernel⟩
set_option maxRecDepth 20000 in
theorem gi_X2_30 : GoodIn qw_Ts (wsV RX2 30 RX2 yX2_unspentWith [Cond.code yX2_unspentWith cX2_unspentWith 4 (some .int)]) := qw_gi (by decide +kernel)
set_option maxRecDepth 20000 in
theorem gi_X2_34 : GoodIn qw_Ts (wsV RX2 34 RX2 yX2_removeFromOthers [Cond.code yX2_removeFromOthers cX2_removeFromOthers 7 none]) := qw_gi (by decide +kernel)
set_option maxRecDepth 20000 in
theorem gi_X5_21 : GoodIn qw_Ts [Cond.code yX3_init cX3_init 1 none] ∧ (Cond.methodLinkNest RX5 21 yX3_init RX6) ∈ qw_Ts ∧ (Cond.initialized RX3) ∈ qw_Ts ∧ (Cond.instanceMethod yX3_init) ∈ qw_Ts := ⟨qw_gi (by decide +kernel), by decide +kernel⟩
set_option maxRecDepth 20000 in
theorem gi_X6_15 : GoodIn qw_Ts [Cond.code yX5_init cX5_init 2 none] ∧ (Cond.methodLinkNest RX6 15 yX5_init RX6) ∈ qw_Ts ∧ (Cond.initialized RX5) ∈ qw_Ts ∧ (Cond.instanceMethod yX5_init) ∈ qw_Ts := ⟨qw_gi (by decide +kernel), by decide +kernel⟩
set_option maxRecDepth 20000 in
theorem gi_X6_30 : GoodIn qw_Ts [Cond.code yX2_init cX2_init 1 none] ∧ (Cond.methodLinkNest RX6 30 yX2_init RX6) ∈ qw_Ts ∧ (Cond.initialized RX2) ∈ qw_Ts ∧ (Cond.instanceMethod yX2_init) ∈ qw_Ts := ⟨qw_gi (by decide +kernel), by decide +kernel⟩
set_option maxRecDepth 20000 in
theorem gi_X6_35 : GoodIn qw_Ts (wsV RX6 35 RX6 yX6_tableAt [Cond.code yX6_tableAt cX6_tableAt 2 (some (.object "Pivotforge$Table"))]) := qw_gi (by decide +kernel)
set_option maxRecDepth 20000 in
theorem gi_X6_60 : GoodIn qw_Ts [Cond.code yX4_init cX4_init 5 none] ∧ (Cond.methodLinkNest RX6 60 yX4_init RX6) ∈ qw_Ts ∧ (Cond.initialized RX4) ∈ qw_Ts ∧ (Cond.instanceMethod yX4_init) ∈ qw_Ts := ⟨qw_gi (by decide +kernel), by decide +kernel⟩
set_option maxRecDepth 20000 in
theorem gi_X6_63 : GoodIn qw_Ts [Cond.code yX5_enter cX5_enter 4 none] ∧ (Cond.methodLinkNest RX6 63 yX5_enter RX6) ∈ qw_Ts ∧ (Cond.initialized RX5) ∈ qw_Ts ∧ (Cond.instanceMethod yX5_enter) ∈ qw_Ts ∧ (Cond.selects RX5 yX5_enter yX5_enter) ∈ qw_Ts := ⟨qw_gi (by decide +kernel), by decide +kernel⟩
set_option maxRecDepth 20000 in
theorem gi_X6_70 : GoodIn qw_Ts (wsV RX6 70 RX6 yX6_dropBelow [Cond.code yX6_dropBelow cX6_dropBelow 4 none]) := qw_gi (by decide +kernel)
set_option maxRecDepth 20000 in
theorem gi_X6_97 : GoodIn qw_Ts (wsV RX6 97 RX6 yX6_entryOfTable [Cond.code yX6_entryOfTable cX6_entryOfTable 4 (some .int)]) := qw_gi (by decide +kernel)
set_option maxRecDepth 20000 in
theorem gi_X6_105 : GoodIn qw_Ts [Cond.code yX4_countsIn cX4_countsIn 4 (some .boolean)] ∧ (Cond.methodLinkNest RX6 105 yX4_countsIn RX6) ∈ qw_Ts ∧ (Cond.initialized RX4) ∈ qw_Ts ∧ (Cond.instanceMethod yX4_countsIn) ∈ qw_Ts ∧ (Cond.selects RX4 yX4_countsIn yX4_countsIn) ∈ qw_Ts := ⟨qw_gi (by decide +kernel), by decide +kernel⟩
set_option maxRecDepth 20000 in
theorem gi_X6_121 : GoodIn qw_Ts [Cond.code yX1_init cX1_init 5 none] ∧ (Cond.methodLinkNest RX6 121 yX1_init RX6) ∈ qw_Ts ∧ (Cond.initialized RX1) ∈ qw_Ts ∧ (Cond.instanceMethod yX1_init) ∈ qw_Ts := ⟨qw_gi (by decide +kernel), by decide +kernel⟩
set_option maxRecDepth 20000 in
theorem gi_X6_124 : GoodIn qw_Ts [Cond.code yX1_lastsAt cX1_lastsAt 2 (some .boolean)] ∧ (Cond.methodLinkNest RX6 124 yX1_lastsAt RX6) ∈ qw_Ts ∧ (Cond.initialized RX1) ∈ qw_Ts ∧ (Cond.instanceMethod yX1_lastsAt) ∈ qw_Ts ∧ (Cond.selects RX1 yX1_lastsAt yX1_lastsAt) ∈ qw_Ts := ⟨qw_gi (by decide +kernel), by decide +kernel⟩
set_option maxRecDepth 20000 in
theorem gi_X6_139 : GoodIn qw_Ts (va_wsS RX6 139 yX6_refuseStrangeLevel [Cond.code yX6_refuseStrangeLevel cX6_refuseStrangeLevel 1 none]) := qw_gi (by decide +kernel)
set_option maxRecDepth 20000 in
theorem gi_X6_143 : GoodIn qw_Ts (wsV RX6 143 RX6 yX6_embargoedFor [Cond.code yX6_embargoedFor cX6_embargoedFor 6 (some .int)]) := qw_gi (by decide +kernel)
set_option maxRecDepth 20000 in
theorem gi_X6_147 : GoodIn qw_Ts (va_wsS RX6 147 yX6_contains [Cond.code yX6_contains cX6_contains 2 (some .boolean)]) := qw_gi (by decide +kernel)
set_option maxRecDepth 20000 in
theorem gi_X6_156 : GoodIn qw_Ts (wsV RX6 156 RX6 yX6_reportAt [Cond.code yX6_reportAt cX6_reportAt 4 (some (.object "Pivotforge$Report"))]) := qw_gi (by decide +kernel)
set_option maxRecDepth 20000 in
theorem gi_X6_160 : GoodIn qw_Ts [Cond.code yX0_around cX0_around 3 (some .int)] ∧ (Cond.methodLinkNest RX6 160 yX0_around RX6) ∈ qw_Ts ∧ (Cond.initialized RX0) ∈ qw_Ts ∧ (Cond.static yX0_around) ∈ qw_Ts := ⟨qw_gi (by decide +kernel), by decide +kernel⟩
set_option maxRecDepth 20000 in
theorem gi_X6_166 : GoodIn qw_Ts [Cond.code yX3_fill cX3_fill 4 none] ∧ (Cond.methodLinkNest RX6 166 yX3_fill RX6) ∈ qw_Ts ∧ (Cond.initialized RX3) ∈ qw_Ts ∧ (Cond.instanceMethod yX3_fill) ∈ qw_Ts ∧ (Cond.selects RX3 yX3_fill yX3_fill) ∈ qw_Ts := ⟨qw_gi (by decide +kernel), by decide +kernel⟩
set_option maxRecDepth 20000 in
theorem gi_X6_175 : GoodIn qw_Ts (va_wsS RX6 175 yJ6_bitCount_0f7a4 [Cond.code yJ6_bitCount_0f7a4 cJ6_bitCount_0f7a4 1 (some .int)]) := qw_gi (by decide +kernel)
set_option maxRecDepth 20000 in
theorem gi_X6_195 : GoodIn qw_Ts (va_wsS RX6 195 yX6_entryAt [Cond.code yX6_entryAt cX6_entryAt 2 (some .int)]) := qw_gi (by decide +kernel)
set_option maxRecDepth 20000 in
theorem gi_X6_201 : GoodIn qw_Ts [Cond.code yX0_isOnRound cX0_isOnRound 7 (some .boolean)] ∧ (Cond.methodLinkNest RX6 201 yX0_isOnRound RX6) ∈ qw_Ts ∧ (Cond.initialized RX0) ∈ qw_Ts ∧ (Cond.static yX0_isOnRound) ∈ qw_Ts := ⟨qw_gi (by decide +kernel), by decide +kernel⟩
set_option maxRecDepth 20000 in
theorem gi_X6_204 : GoodIn qw_Ts [Cond.code yX2_determine cX2_determine 4 (some .boolean)] ∧ (Cond.methodLinkNest RX6 204 yX2_determine RX6) ∈ qw_Ts ∧ (Cond.initialized RX2) ∈ qw_Ts ∧ (Cond.instanceMethod yX2_determine) ∈ qw_Ts ∧ (Cond.selects RX2 yX2_determine yX2_determine) ∈ qw_Ts := ⟨qw_gi (by decide +kernel), by decide +kernel⟩
set_option maxRecDepth 20000 in
theorem gi_X7_57 : GoodIn qw_Ts (va_wsS RX7 57 yX7_in [Cond.code yX7_in cX7_in 3 (some .boolean)]) := qw_gi (by decide +kernel)
set_option maxRecDepth 20000 in
theorem gi_X7_61 : GoodIn qw_Ts (va_wsS RX7 61 yX7_isTable [Cond.code yX7_isTable cX7_isTable 1 (some .boolean)]) := qw_gi (by decide +kernel)
set_option maxRecDepth 20000 in
theorem gi_X7_65 : GoodIn qw_Ts (va_wsS RX7 65 yX7_isEntry [Cond.code yX7_isEntry cX7_isEntry 2 (some .boolean)]) := qw_gi (by decide +kernel)
set_option maxRecDepth 20000 in
theorem gi_X7_75 : GoodIn qw_Ts (wsV RX7 75 RX7 yX7_refused [Cond.code yX7_refused cX7_refused 2 (some .boolean)]) := qw_gi (by decide +kernel)
set_option maxRecDepth 20000 in
theorem gi_X7_78 : GoodIn qw_Ts (wsV RX7 78 RX7 yX7_drop [Cond.code yX7_drop cX7_drop 5 (some .int)]) := qw_gi (by decide +kernel)
set_option maxRecDepth 20000 in
theorem gi_X7_82 : GoodIn qw_Ts (wsV RX7 82 RX7 yX7_entryOf [Cond.code yX7_entryOf cX7_entryOf 6 (some .int)]) := qw_gi (by decide +kernel)
set_option maxRecDepth 20000 in
theorem gi_X7_86 : GoodIn qw_Ts (wsV RX7 86 RX7 yX7_sumOf [Cond.code yX7_sumOf cX7_sumOf 8 (some .int)]) := qw_gi (by decide +kernel)
set_option maxRecDepth 20000 in
theorem gi_X7_89 : GoodIn qw_Ts (wsV RX7 89 RX7 yX7_sum [Cond.code yX7_sum cX7_sum 5 (some .int)]) := qw_gi (by decide +kernel)
set_option maxRecDepth 20000 in
theorem gi_X7_98 : GoodIn qw_Ts (wsV RX7 98 RX7 yX7_lasts [Cond.code yX7_lasts cX7_lasts 2 (some .boolean)]) := qw_gi (by decide +kernel)
set_option maxRecDepth 20000 in
theorem gi_X7_101 : GoodIn qw_Ts (va_wsS RX7 101 yX7_isLevel [Cond.code yX7_isLevel cX7_isLevel 1 (some .boolean)]) := qw_gi (by decide +kernel)
set_option maxRecDepth 20000 in
theorem gi_X7_104 : GoodIn qw_Ts (wsV RX7 104 RX7 yX7_barred [Cond.code yX7_barred cX7_barred 5 (some .int)]) := qw_gi (by decide +kernel)
set_option maxRecDepth 20000 in
theorem gi_X7_107 : GoodIn qw_Ts (va_wsS RX7 107 yX7_isFound [Cond.code yX7_isFound cX7_isFound 9 (some .boolean)]) := qw_gi (by decide +kernel)
set_option maxRecDepth 20000 in
theorem gi_X7_110 : GoodIn qw_Ts (va_wsS RX7 110 yX7_covers [Cond.code yX7_covers cX7_covers 3 (some .int)]) := qw_gi (by decide +kernel)
set_option maxRecDepth 20000 in
theorem gi_X7_113 : GoodIn qw_Ts (va_wsS RX7 113 yX7_bits [Cond.code yX7_bits cX7_bits 3 (some .int)]) := qw_gi (by decide +kernel)
set_option maxRecDepth 20000 in
theorem gi_X7_117 : GoodIn qw_Ts (va_wsS RX7 117 yX7_areBoth [Cond.code yX7_areBoth cX7_areBoth 2 (some .boolean)]) := qw_gi (by decide +kernel)
set_option maxRecDepth 20000 in
theorem gi_X7_120 : GoodIn qw_Ts (va_wsS RX7 120 yX7_hidden [Cond.code yX7_hidden cX7_hidden 9 (some .int)]) := qw_gi (by decide +kernel)
set_option maxRecDepth 20000 in
theorem gi_X7_124 : GoodIn qw_Ts (wsV RX7 124 RX7 yX7_noEntry [Cond.code yX7_noEntry cX7_noEntry 3 (some .boolean)]) := qw_gi (by decide +kernel)
set_option maxRecDepth 20000 in
theorem gi_X7_130 : GoodIn qw_Ts (wsV RX7 130 RX7 yX7_isKnown [Cond.code yX7_isKnown cX7_isKnown 4 (some .boolean)]) := qw_gi (by decide +kernel)
set_option maxRecDepth 20000 in
theorem gi_L_7 : GoodIn qw_Ts (wsV RL 7 RX6 yX6_sale [Cond.code yX6_sale cX6_sale 7 (some .int)]) := qw_gi (by decide +kernel)
set_option maxRecDepth 20000 in
theorem gi_L_19 : GoodIn qw_Ts (wsV RL 19 RX6 yX6_takeBack [Cond.code yX6_takeBack cX6_takeBack 4 (some .int)]) := qw_gi (by decide +kernel)
set_option maxRecDepth 20000 in
theorem gi_L_23 : GoodIn qw_Ts (wsV RL 23 RX6 yX6_turn [Cond.code yX6_turn cX6_turn 3 (some .boolean)]) := qw_gi (by decide +kernel)
set_option maxRecDepth 20000 in
theorem gi_L_27 : GoodIn qw_Ts (wsV RL 27 RX6 yX6_sum [Cond.code yX6_sum cX6_sum 5 (some .int)]) := qw_gi (by decide +kernel)
set_option maxRecDepth 20000 in
theorem gi_L_31 : GoodIn qw_Ts (wsV RL 31 RX6 yX6_sumFromSales [Cond.code yX6_sumFromSales cX6_sumFromSales 7 (some .int)]) := qw_gi (by decide +kernel)
set_option maxRecDepth 20000 in
theorem gi_L_34 : GoodIn qw_Ts (wsV RL 34 RX6 yX6_embargo [Cond.code yX6_embargo cX6_embargo 8 (some .int)]) := qw_gi (by decide +kernel)
set_option maxRecDepth 20000 in
theorem gi_L_38 : GoodIn qw_Ts (wsV RL 38 RX6 yX6_lift [Cond.code yX6_lift cX6_lift 3 (some .int)]) := qw_gi (by decide +kernel)
set_option maxRecDepth 20000 in
theorem gi_L_41 : GoodIn qw_Ts (wsV RL 41 RX6 yX6_isEmbargoed [Cond.code yX6_isEmbargoed cX6_isEmbargoed 6 (some .boolean)]) := qw_gi (by decide +kernel)
set_option maxRecDepth 20000 in
theorem gi_L_45 : GoodIn qw_Ts (wsV RL 45 RX6 yX6_pass [Cond.code yX6_pass cX6_pass 6 (some .int)]) := qw_gi (by decide +kernel)
set_option maxRecDepth 20000 in
theorem gi_L_48 : GoodIn qw_Ts (wsV RL 48 RX6 yX6_build [Cond.code yX6_build cX6_build 5 (some .int)]) := qw_gi (by decide +kernel)
set_option maxRecDepth 20000 in
theorem gi_L_52 : GoodIn qw_Ts (wsV RL 52 RX6 yX6_isBuilt [Cond.code yX6_isBuilt cX6_isBuilt 3 (some .boolean)]) := qw_gi (by decide +kernel)
set_option maxRecDepth 20000 in
theorem gi_L_56 : GoodIn qw_Ts (wsV RL 56 RX6 yX6_shown [Cond.code yX6_shown cX6_shown 7 (some .int)]) := qw_gi (by decide +kernel)
set_option maxRecDepth 20000 in
theorem gi_L_59 : GoodIn qw_Ts (wsV RL 59 RX6 yX6_why [Cond.code yX6_why cX6_why 7 (some .int)]) := qw_gi (by decide +kernel)
set_option maxRecDepth 20000 in
theorem gi_L_62 : GoodIn qw_Ts (wsV RL 62 RX6 yX6_read [Cond.code yX6_read cX6_read 4 (some .int)]) := qw_gi (by decide +kernel)
set_option maxRecDepth 20000 in
theorem gi_L_65 : GoodIn qw_Ts (wsV RL 65 RX6 yX6_mark [Cond.code yX6_mark cX6_mark 4 (some .boolean)]) := qw_gi (by decide +kernel)
set_option maxRecDepth 20000 in
theorem gi_L_68 : GoodIn qw_Ts (wsV RL 68 RX6 yX6_isKnown [Cond.code yX6_isKnown cX6_isKnown 4 (some .boolean)]) := qw_gi (by decide +kernel)
set_option maxRecDepth 20000 in
theorem gi_L_71 : GoodIn qw_Ts (wsV RL 71 RX6 yX6_isKnownBySolving [Cond.code yX6_isKnownBySolving cX6_isKnownBySolving 4 (some .boolean)]) := qw_gi (by decide +kernel)
set_option maxRecDepth 20000 in
theorem gi_L_74 : GoodIn qw_Ts [Cond.code yX6_init cX6_init 2 none] ∧ (Cond.methodLink RL 74 yX6_init) ∈ qw_Ts ∧ (Cond.instanceMethod yX6_init) ∈ qw_Ts ∧ (Cond.initialized RX6) ∈ qw_Ts := ⟨qw_gi (by decide +kernel), by decide +kernel⟩
set_option maxRecDepth 20000 in
theorem gi_L_77 : GoodIn qw_Ts [Cond.code yX7_init cX7_init 1 none] ∧ (Cond.methodLink RL 77 yX7_init) ∈ qw_Ts ∧ (Cond.instanceMethod yX7_init) ∈ qw_Ts ∧ (Cond.initialized RX7) ∈ qw_Ts := ⟨qw_gi (by decide +kernel), by decide +kernel⟩
set_option maxRecDepth 20000 in
theorem gi_L_78 : GoodIn qw_Ts (va_wsS RL 78 yL_sale [Cond.codeWith yL_sale cL_sale 7 (some .int) [(0, 14, 17, 13), (0, 14, 21, 15), (0, 14, 25, 17)]]) := qw_gi (by decide +kernel)
set_option maxRecDepth 20000 in
theorem gi_L_83 : GoodIn qw_Ts (wsV RL 83 RX7 yX7_sale [Cond.code yX7_sale cX7_sale 7 (some .int)]) := qw_gi (by decide +kernel)
set_option maxRecDepth 20000 in
theorem gi_L_84 : GoodIn qw_Ts (wsV RL 84 RX7 yX7_thrown [Cond.code yX7_thrown cX7_thrown 1 (some .int)]) := qw_gi (by decide +kernel)
set_option maxRecDepth 20000 in
theorem gi_L_88 : GoodIn qw_Ts (va_wsS RL 88 yL_takeBack [Cond.codeWith yL_takeBack cL_takeBack 4 (some .int) [(0, 9, 12, 13), (0, 9, 15, 17)]]) := qw_gi (by decide +kernel)
set_option maxRecDepth 20000 in
theorem gi_L_91 : GoodIn qw_Ts (wsV RL 91 RX7 yX7_takeBack [Cond.code yX7_takeBack cX7_takeBack 3 (some .int)]) := qw_gi (by decide +kernel)
set_option maxRecDepth 20000 in
theorem gi_L_92 : GoodIn qw_Ts (va_wsS RL 92 yL_turn [Cond.codeWith yL_turn cL_turn 4 (some .int) [(0, 16, 19, 13)]]) := qw_gi (by decide +kernel)
set_option maxRecDepth 20000 in
theorem gi_L_94 : GoodIn qw_Ts (wsV RL 94 RX7 yX7_turn [Cond.code yX7_turn cX7_turn 2 (some .boolean)]) := qw_gi (by decide +kernel)
set_option maxRecDepth 20000 in
theorem gi_L_95 : GoodIn qw_Ts (va_wsS RL 95 yL_sum [Cond.codeWith yL_sum cL_sum 6 (some .int) [(0, 12, 15, 13)]]) := qw_gi (by decide +kernel)
set_option maxRecDepth 20000 in
theorem gi_L_98 : GoodIn qw_Ts (wsV RL 98 RX7 yX7_sum [Cond.code yX7_sum cX7_sum 5 (some .int)]) := qw_gi (by decide +kernel)
set_option maxRecDepth 20000 in
theorem gi_L_99 : GoodIn qw_Ts (va_wsS RL 99 yL_sumFromSales [Cond.codeWith yL_sumFromSales cL_sumFromSales 6 (some .int) [(0, 12, 15, 13)]]) := qw_gi (by decide +kernel)
set_option maxRecDepth 20000 in
theorem gi_L_101 : GoodIn qw_Ts (wsV RL 101 RX7 yX7_sumFromSales [Cond.code yX7_sumFromSales cX7_sumFromSales 4 (some .int)]) := qw_gi (by decide +kernel)
set_option maxRecDepth 20000 in
theorem gi_L_102 : GoodIn qw_Ts (va_wsS RL 102 yL_embargo [Cond.codeWith yL_embargo cL_embargo 8 (some .int) [(0, 16, 19, 13), (0, 16, 23, 15), (0, 16, 27, 17)]]) := qw_gi (by decide +kernel)
set_option maxRecDepth 20000 in
theorem gi_L_105 : GoodIn qw_Ts (wsV RL 105 RX7 yX7_embargo [Cond.code yX7_embargo cX7_embargo 8 (some .int)]) := qw_gi (by decide +kernel)
set_option maxRecDepth 20000 in
theorem gi_L_106 : GoodIn qw_Ts (va_wsS RL 106 yL_lift [Cond.codeWith yL_lift cL_lift 4 (some .int) [(0, 9, 12, 13), (0, 9, 15, 17)]]) := qw_gi (by decide +kernel)
set_option maxRecDepth 20000 in
theorem gi_L_108 : GoodIn qw_Ts (wsV RL 108 RX7 yX7_lift [Cond.code yX7_lift cX7_lift 3 (some .int)]) := qw_gi (by decide +kernel)
set_option maxRecDepth 20000 in
theorem gi_L_109 : GoodIn qw_Ts (va_wsS RL 109 yL_isEmbargoed [Cond.codeWith yL_isEmbargoed cL_isEmbargoed 7 (some .int) [(0, 21, 24, 13)]]) := qw_gi (by decide +kernel)
set_option maxRecDepth 20000 in
theorem gi_L_111 : GoodIn qw_Ts (wsV RL 111 RX7 yX7_isEmbargoed [Cond.code yX7_isEmbargoed cX7_isEmbargoed 6 (some .boolean)]) := qw_gi (by decide +kernel)
set_option maxRecDepth 20000 in
theorem gi_L_112 : GoodIn qw_Ts (va_wsS RL 112 yL_pass [Cond.codeWith yL_pass cL_pass 4 (some .int) [(0, 9, 12, 15), (0, 9, 15, 17)]]) := qw_gi (by decide +kernel)
set_option maxRecDepth 20000 in
theorem gi_L_114 : GoodIn qw_Ts (wsV RL 114 RX7 yX7_pass [Cond.code yX7_pass cX7_pass 5 (some .int)]) := qw_gi (by decide +kernel)
set_option maxRecDepth 20000 in
theorem gi_L_115 : GoodIn qw_Ts (va_wsS RL 115 yL_build [Cond.codeWith yL_build cL_build 5 (some .int) [(0, 10, 13, 13)]]) := qw_gi (by decide +kernel)
set_option maxRecDepth 20000 in
theorem gi_L_118 : GoodIn qw_Ts (wsV RL 118 RX7 yX7_build [Cond.code yX7_build cX7_build 4 (some .int)]) := qw_gi (by decide +kernel)
set_option maxRecDepth 20000 in
theorem gi_L_119 : GoodIn qw_Ts (va_wsS RL 119 yL_isBuilt [Cond.codeWith yL_isBuilt cL_isBuilt 5 (some .int) [(0, 17, 20, 13)]]) := qw_gi (by decide +kernel)
set_option maxRecDepth 20000 in
theorem gi_L_121 : GoodIn qw_Ts (wsV RL 121 RX7 yX7_isBuilt [Cond.code yX7_isBuilt cX7_isBuilt 3 (some .boolean)]) := qw_gi (by decide +kernel)
set_option maxRecDepth 20000 in
theorem gi_L_122 : GoodIn qw_Ts (va_wsS RL 122 yL_shown [Cond.codeWith yL_shown cL_shown 7 (some .int) [(0, 14, 17, 13), (0, 14, 21, 17)]]) := qw_gi (by decide +kernel)
set_option maxRecDepth 20000 in
theorem gi_L_124 : GoodIn qw_Ts (wsV RL 124 RX7 yX7_shown [Cond.code yX7_shown cX7_shown 7 (some .int)]) := qw_gi (by decide +kernel)
set_option maxRecDepth 20000 in
theorem gi_L_125 : GoodIn qw_Ts (va_wsS RL 125 yL_why [Cond.codeWith yL_why cL_why 7 (some .int) [(0, 14, 17, 13)]]) := qw_gi (by decide +kernel)
set_option maxRecDepth 20000 in
theorem gi_L_127 : GoodIn qw_Ts (wsV RL 127 RX7 yX7_why [Cond.code yX7_why cX7_why 7 (some .int)]) := qw_gi (by decide +kernel)
set_option maxRecDepth 20000 in
theorem gi_L_128 : GoodIn qw_Ts (va_wsS RL 128 yL_read [Cond.codeWith yL_read cL_read 5 (some .int) [(0, 10, 13, 13), (0, 10, 17, 17)]]) := qw_gi (by decide +kernel)
set_option maxRecDepth 20000 in
theorem gi_L_130 : GoodIn qw_Ts (wsV RL 130 RX7 yX7_read [Cond.code yX7_read cX7_read 6 (some .int)]) := qw_gi (by decide +kernel)
set_option maxRecDepth 20000 in
theorem gi_L_131 : GoodIn qw_Ts (wsV RL 131 RX6 yX6_dropped [Cond.code yX6_dropped cX6_dropped 1 (some .int)]) := qw_gi (by decide +kernel)
set_option maxRecDepth 20000 in
theorem gi_L_134 : GoodIn qw_Ts (wsV RL 134 RX7 yX7_dropped [Cond.code yX7_dropped cX7_dropped 1 (some .int)]) := qw_gi (by decide +kernel)
set_option maxRecDepth 20000 in
theorem gi_L_135 : GoodIn qw_Ts (va_wsS RL 135 yL_mark [Cond.codeWith yL_mark cL_mark 5 (some .int) [(0, 17, 20, 13)]]) := qw_gi (by decide +kernel)
set_option maxRecDepth 20000 in
theorem gi_L_137 : GoodIn qw_Ts (wsV RL 137 RX7 yX7_mark [Cond.code yX7_mark cX7_mark 3 (some .boolean)]) := qw_gi (by decide +kernel)
set_option maxRecDepth 20000 in
theorem gi_L_138 : GoodIn qw_Ts (wsV RL 138 RX6 yX6_clear [Cond.code yX6_clear cX6_clear 2 (some .int)]) := qw_gi (by decide +kernel)
set_option maxRecDepth 20000 in
theorem gi_L_141 : GoodIn qw_Ts (wsV RL 141 RX7 yX7_clear [Cond.code yX7_clear cX7_clear 2 (some .int)]) := qw_gi (by decide +kernel)
set_option maxRecDepth 20000 in
theorem gi_L_142 : GoodIn qw_Ts (va_wsS RL 142 yL_isKnown [Cond.codeWith yL_isKnown cL_isKnown 5 (some .int) [(0, 17, 20, 13)]]) := qw_gi (by decide +kernel)
set_option maxRecDepth 20000 in
theorem gi_L_144 : GoodIn qw_Ts (wsV RL 144 RX7 yX7_isKnown [Cond.code yX7_isKnown cX7_isKnown 4 (some .boolean)]) := qw_gi (by decide +kernel)
set_option maxRecDepth 20000 in
theorem gi_L_145 : GoodIn qw_Ts (va_wsS RL 145 yL_isKnownBySolving [Cond.codeWith yL_isKnownBySolving cL_isKnownBySolving 5 (some .int) [(0, 17, 20, 13)]]) := qw_gi (by decide +kernel)
set_option maxRecDepth 20000 in
theorem gi_L_147 : GoodIn qw_Ts (wsV RL 147 RX7 yX7_isKnownBySolving [Cond.code yX7_isKnownBySolving cX7_isKnownBySolving 3 (some .boolean)]) := qw_gi (by decide +kernel)
set_option maxRecDepth 20000 in
theorem gi_L_148 : GoodIn qw_Ts (wsV RL 148 RX6 yX6_cover [Cond.code yX6_cover cX6_cover 2 (some .int)]) := qw_gi (by decide +kernel)
set_option maxRecDepth 20000 in
theorem gi_L_151 : GoodIn qw_Ts (wsV RL 151 RX7 yX7_cover [Cond.code yX7_cover cX7_cover 2 (some .int)]) := qw_gi (by decide +kernel)
set_option maxRecDepth 20000 in
theorem go_X1 : (Cond.methodLink RX1 1 objectInit) ∈ qw_Ts ∧ (Cond.instanceMethod objectInit) ∈ qw_Ts ∧ (Cond.code objectInit ⟨#[0xb1]⟩ 1 none) ∈ qw_Ts := by decide +kernel
set_option maxRecDepth 20000 in
theorem go_X2 : (Cond.methodLink RX2 3 objectInit) ∈ qw_Ts ∧ (Cond.instanceMethod objectInit) ∈ qw_Ts ∧ (Cond.code objectInit ⟨#[0xb1]⟩ 1 none) ∈ qw_Ts := by decide +kernel
set_option maxRecDepth 20000 in
theorem go_X3 : (Cond.methodLink RX3 3 objectInit) ∈ qw_Ts ∧ (Cond.instanceMethod objectInit) ∈ qw_Ts ∧ (Cond.code objectInit ⟨#[0xb1]⟩ 1 none) ∈ qw_Ts := by decide +kernel
set_option maxRecDepth 20000 in
theorem go_X4 : (Cond.methodLink RX4 3 objectInit) ∈ qw_Ts ∧ (Cond.instanceMethod objectInit) ∈ qw_Ts ∧ (Cond.code objectInit ⟨#[0xb1]⟩ 1 none) ∈ qw_Ts := by decide +kernel
set_option maxRecDepth 20000 in
theorem go_X5 : (Cond.methodLink RX5 3 objectInit) ∈ qw_Ts ∧ (Cond.instanceMethod objectInit) ∈ qw_Ts ∧ (Cond.code objectInit ⟨#[0xb1]⟩ 1 none) ∈ qw_Ts := by decide +kernel
set_option maxRecDepth 20000 in
theorem go_X6 : (Cond.methodLink RX6 1 objectInit) ∈ qw_Ts ∧ (Cond.instanceMethod objectInit) ∈ qw_Ts ∧ (Cond.code objectInit ⟨#[0xb1]⟩ 1 none) ∈ qw_Ts := by decide +kernel
set_option maxRecDepth 20000 in
theorem go_X7 : (Cond.methodLink RX7 1 objectInit) ∈ qw_Ts ∧ (Cond.instanceMethod objectInit) ∈ qw_Ts ∧ (Cond.code objectInit ⟨#[0xb1]⟩ 1 none) ∈ qw_Ts := by decide +kernel
set_option maxRecDepth 20000 in
theorem gA_int : (Cond.arrayClass .int) ∈ qw_Ts := by decide +kernel
set_option maxRecDepth 20000 in
theorem gA_boolean : (Cond.arrayClass .boolean) ∈ qw_Ts := by decide +kernel
set_option maxRecDepth 20000 in
theorem gA_long : (Cond.arrayClass .long) ∈ qw_Ts := by decide +kernel
set_option maxRecDepth 20000 in
theorem gc_X2_11 : (Cond.classLink RX2 11 ("[" ++ (FieldType.array .int).toString)) ∈ qw_Ts := by decide +kernel
set_option maxRecDepth 20000 in
theorem gc_X5_15 : (Cond.classLink RX5 15 RX3) ∈ qw_Ts := by decide +kernel
set_option maxRecDepth 20000 in
theorem gc_X6_9 : (Cond.classLink RX6 9 RX5) ∈ qw_Ts := by decide +kernel
set_option maxRecDepth 20000 in
theorem gc_X6_16 : (Cond.classLink RX6 16 RX4) ∈ qw_Ts := by decide +kernel
set_option maxRecDepth 20000 in
theorem gc_X6_22 : (Cond.classLink RX6 22 RX1) ∈ qw_Ts := by decide +kernel
set_option maxRecDepth 20000 in
theorem gc_X6_28 : (Cond.classLink RX6 28 RX2) ∈ qw_Ts ∧ (Cond.instantiable RX2 1) ∈ qw_Ts ∧ (Cond.initialized RX2) ∈ qw_Ts := by decide +kernel
set_option maxRecDepth 20000 in
theorem gc_L_8 : (Cond.classLink RL 8 RX6) ∈ qw_Ts ∧ (Cond.instantiable RX6 9) ∈ qw_Ts ∧ (Cond.initialized RX6) ∈ qw_Ts := by decide +kernel
set_option maxRecDepth 20000 in
theorem gc_L_75 : (Cond.classLink RL 75 RX7) ∈ qw_Ts ∧ (Cond.instantiable RX7 20) ∈ qw_Ts ∧ (Cond.initialized RX7) ∈ qw_Ts := by decide +kernel
set_option maxRecDepth 20000 in
theorem gy_copy : (Cond.methodLink RX3 20 arraycopyName) ∈ qw_Ts ∧ (Cond.native arraycopyName) ∈ qw_Ts ∧ (Cond.static arraycopyName) ∈ qw_Ts ∧ (Cond.initialized "java/lang/System") ∈ qw_Ts := by decide +kernel
set_option maxRecDepth 20000 in
theorem gk_bits : (Cond.constant RJ6 265 1431655765) ∈ qw_Ts ∧ (Cond.constant RJ6 266 858993459) ∈ qw_Ts ∧ (Cond.constant RJ6 267 252645135) ∈ qw_Ts := by decide +kernel
end
section
/-! numbers, answers, words for what the methods of sets answer -/
def qw_kp (ad : Nat → Nat) (g : qw_G) (v : Option Value) : Option Value → (Nat → Nat) → qw_G → Prop := fun v' ad' g' => v = v' ∧ ad = ad' ∧ g = g'
theorem qw_kpi {ad : Nat → Nat} {g : qw_G} {v w : Option Value} (h : v = w) : qw_kp ad g v w ad g := ⟨h, rfl, rfl⟩
theorem qw_kpn {ad : Nat → Nat} {g : qw_G} {x y : Int32} (h : x = y) : qw_kp ad g (some (.int x)) (some (.int y)) ad g := ⟨by rw [h], rfl, rfl⟩
def sg_b (c : Prop) [Decidable c] : Int32 := if c then 1 else 0
theorem sg_b01 (c : Prop) [Decidable c] : sg_b c = 0 ∨ sg_b c = 1 := by unfold sg_b; by_cases h : c <;> simp [h]
theorem sg_bt {c : Prop} [Decidable c] (h : c) : sg_b c = 1 := if_pos h
theorem sg_bf {c : Prop} [Decidable c] (h : ¬ c) : sg_b c = 0 := if_neg h
theorem sg_b0 {c : Prop} [Decidable c] : sg_b c = 0 ↔ ¬ c := by unfold sg_b; by_cases h : c <;> simp [h]
theorem sg_le {x y : Int32} (a b : Nat) (hx : x = nI a) (hy : y = nI b) (ha : a < 2147483648) (hb : b < 2147483648) : x ≤ y ↔ a ≤ b := by subst hx; subst hy; exact nI_leI ha hb
theorem sg_lt {x y : Int32} (a b : Nat) (hx : x = nI a) (hy : y = nI b) (ha : a < 2147483648) (hb : b < 2147483648) : x < y ↔ a < b := by subst hx; subst hy; exact nI_ltI ha hb
theorem sg_eq {x y : Int32} (a b : Nat) (hx : x = nI a) (hy : y = nI b) (ha : a < 2147483648) (hb : b < 2147483648) : x = y ↔ a = b := by subst hx; subst hy; exact nI_eq ha hb
/-- f at 0, 1, .. n - 1, one after the other -/
def sg_it {α : Type} (f : Nat → α → α) (x : α) : Nat → α
  | 0 => x
  | n + 1 => f n (sg_it f x n)
def sg_sum (f : Nat → Int32) (n : Nat) : Int32 := sg_it (fun k x => x + f k) 0 n
/-- is a place in the set -/
def sg_has (s m : Int32) : Int32 := if s &&& (1 <<< (m &&& 31)) = 0 then 0 else 1
theorem sg_has01 (s m : Int32) : sg_has s m = 0 ∨ sg_has s m = 1 := by unfold sg_has; by_cases h : s &&& (1 <<< (m &&& 31)) = 0 <;> simp [h]
def sg_cols (s row : Int32) : Int32 := (s >>> ((row * 6) &&& 31)) &&& 63
def sg_corners (e row col : Int32) : Int32 := ((1 <<< ((e / 6 * 6 + col) &&& 31)) ||| (1 <<< ((row * 6 + (e - e / 6 * 6)) &&& 31))) ||| (1 <<< ((row * 6 + col) &&& 31))
/-- one row of a pass -/
def sg_rstep (others : Int32) (row : Nat) (reached : Int32) : Int32 := if sg_cols others (nI row) &&& reached = 0 then reached else reached ||| sg_cols others (nI row)
def sg_rpass (others reached : Int32) : Int32 := sg_it (sg_rstep others) reached 5
def sg_oth (h e : Int32) : Int32 := h &&& ((1 <<< (e &&& 31)) ^^^ (-1))
def sg_reach (h e : Int32) : Int32 := sg_it (fun _ x => sg_rpass (sg_oth h e) x) (sg_cols (sg_oth h e) (e / 6)) 5
def sg_round (h e : Int32) : Int32 := sg_has (sg_reach h e) (e - e / 6 * 6)
theorem sg_round01 (h e : Int32) : sg_round h e = 0 ∨ sg_round h e = 1 := sg_has01 _ _
/-- java.lang.Integer.bitCount, as its body says it -/
def sg_bc1 (x : Int32) : Int32 := x - ((x.toUInt32 >>> ((1 : Int32).toUInt32 &&& Int32.toUInt32 31)).toInt32 &&& 1431655765)
def sg_bc2 (x : Int32) : Int32 := (x &&& 858993459) + ((x.toUInt32 >>> ((2 : Int32).toUInt32 &&& Int32.toUInt32 31)).toInt32 &&& 858993459)
def sg_bc3 (x : Int32) : Int32 := (x + (x.toUInt32 >>> ((4 : Int32).toUInt32 &&& Int32.toUInt32 31)).toInt32) &&& 252645135
def sg_bc4 (x : Int32) : Int32 := x + (x.toUInt32 >>> ((8 : Int32).toUInt32 &&& Int32.toUInt32 31)).toInt32
def sg_bc5 (x : Int32) : Int32 := x + (x.toUInt32 >>> ((16 : Int32).toUInt32 &&& Int32.toUInt32 31)).toInt32
def sg_bc (x : Int32) : Int32 := sg_bc5 (sg_bc4 (sg_bc3 (sg_bc2 (sg_bc1 x)))) &&& 63
/-- fewest covers: (fewest, best) -/
def sg_fstep (h e : Int32) (row col : Nat) (s : Int32 × Int32) : Int32 × Int32 :=
  if nI row = e / 6 then s else if nI col = e - e / 6 * 6 then s else
    if s.1 ≤ sg_bc (sg_corners e (nI row) (nI col) &&& (h ^^^ (-1))) then s else (sg_bc (sg_corners e (nI row) (nI col) &&& (h ^^^ (-1))), sg_corners e (nI row) (nI col))
def sg_few (h e : Int32) : Int32 × Int32 := sg_it (fun row s => sg_it (fun col s => sg_fstep h e row col s) s 6) (4, 0) 5
def sg_astep (e0 : Int32) (e : Nat) (h : Int32) : Int32 := if sg_has e0 (nI e) = 0 then h else if sg_round h (nI e) = 0 then h ||| (sg_few h (nI e)).2 else h
def sg_around (e0 : Int32) : Int32 := sg_it (sg_astep e0) e0 30
end
section
set_option maxHeartbeats 4000000 in
set_option maxRecDepth 100000 in
theorem k_X6_contains {l : Launch} (hst : l.stackTraces = false) (D : va_G) (ad : Nat → Nat) (g : qw_G) (x0 x1 : Int32) : qw_M l yX6_contains [Cond.code yX6_contains cX6_contains 2 (some .boolean)] { frames := 0, cells := 0, slots := 0, locals := 0 } D ad g [(.int x0), (.int x1)] (qw_kp ad g (some (.int (sg_has x0 x1)))) 0 0 := by
  refine qw_M.of (maxL := 2) (own := RX6) (lv := [(0, (.int x0)), (1, (.int x1))]) hst (by decide) rfl rfl (Nat.le_of_ble_eq_true rfl) ?_
  intro p e s m args below meth c A C hin
  refine qr_iload_n C dX6_contains_0 rfl 0 rfl ?_
  refine qr_iconst (v := 1) C dX6_contains_1 (by decide) ?_
  refine qr_iload_n C dX6_contains_2 rfl 1 rfl ?_
  refine qr_ishl C dX6_contains_3 ?_
  refine qr_iand C dX6_contains_4 ?_
  refine qr_if_eq C 12 dX6_contains_5 (by decide) (fun c1 => ?_) (fun c1 => ?_)
  · skip
    refine qr_iconst (v := 0) C dX6_contains_12 (by decide) ?_
    exact qr_zret C rfl (by first | exact Or.inr rfl | exact Or.inl rfl) (Nat.zero_le _) (Nat.zero_le _) dX6_contains_13 (qw_kpn (by first | exact if_pos c1 | exact if_neg c1))
  · skip
    refine qr_iconst (v := 1) C dX6_contains_8 (by decide) ?_
    refine qr_goto (tgt := 13) C dX6_contains_9 (by decide) ?_
    exact qr_zret C rfl (by first | exact Or.inr rfl | exact Or.inl rfl) (Nat.zero_le _) (Nat.zero_le _) dX6_contains_13 (qw_kpn (by first | exact if_pos c1 | exact if_neg c1))
set_option maxHeartbeats 4000000 in
set_option maxRecDepth 100000 in
theorem k_X0_columnsOf {l : Launch} (hst : l.stackTraces = false) (D : va_G) (ad : Nat → Nat) (g : qw_G) (x0 x1 : Int32) : qw_M l yX0_columnsOf [Cond.code yX0_columnsOf cX0_columnsOf 2 (some .int)] { frames := 0, cells := 0, slots := 0, locals := 0 } D ad g [(.int x0), (.int x1)] (qw_kp ad g (some (.int (sg_cols x0 x1)))) 0 0 := by
  refine qw_M.of (maxL := 2) (own := RX0) (lv := [(0, (.int x0)), (1, (.int x1))]) hst (by decide) rfl rfl (Nat.le_of_ble_eq_true rfl) ?_
  intro p e s m args below meth c A C hin
  refine qr_iload_n C dX0_columnsOf_0 rfl 0 rfl ?_
  refine qr_iload_n C dX0_columnsOf_1 rfl 1 rfl ?_
  refine qr_bipush (v := 6) C dX0_columnsOf_2 (by decide) ?_
  refine qr_imul C dX0_columnsOf_4 ?_
  refine qr_ishr C dX0_columnsOf_5 ?_
  refine qr_bipush (v := 63) C dX0_columnsOf_6 (by decide) ?_
  refine qr_iand C dX0_columnsOf_8 ?_
  exact qr_iret C rfl (Nat.zero_le _) (Nat.zero_le _) dX0_columnsOf_9 (qw_kpn rfl)
set_option maxHeartbeats 4000000 in
set_option maxRecDepth 100000 in
theorem k_X0_cornersOf {l : Launch} (hst : l.stackTraces = false) (D : va_G) (ad : Nat → Nat) (g : qw_G) (x0 x1 x2 : Int32) : qw_M l yX0_cornersOf [Cond.code yX0_cornersOf cX0_cornersOf 6 (some .int)] { frames := 0, cells := 0, slots := 0, locals := 0 } D ad g [(.int x0), (.int x1), (.int x2)] (qw_kp ad g (some (.int (sg_corners x0 x1 x2)))) 0 0 := by
  refine qw_M.of (maxL := 6) (own := RX0) (lv := [(0, (.int x0)), (1, (.int x1)), (2, (.int x2))]) hst (by decide) rfl rfl (Nat.le_of_ble_eq_true rfl) ?_
  intro p e s m args below meth c A C hin
  refine qr_iload_n C dX0_cornersOf_0 rfl 0 rfl ?_
  refine qr_bipush (v := 6) C dX0_cornersOf_1 (by decide) ?_
  refine qr_idiv C dX0_cornersOf_3 (by decide) ?_
  refine qr_bipush (v := 6) C dX0_cornersOf_4 (by decide) ?_
  refine qr_imul C dX0_cornersOf_6 ?_
  refine qr_iload_n C dX0_cornersOf_7 rfl 2 rfl ?_
  refine qr_iadd C dX0_cornersOf_8 ?_
  refine qr_istore_n (lv' := [(3, (.int (((x0 / (6 : Int32)) * (6 : Int32)) + x2))), (0, (.int x0)), (1, (.int x1)), (2, (.int x2))]) C dX0_cornersOf_9 rfl (by decide) rfl ?_
  refine qr_iload_n C dX0_cornersOf_10 rfl 2 rfl ?_
  refine qr_bipush (v := 6) C dX0_cornersOf_11 (by decide) ?_
  refine qr_imul C dX0_cornersOf_13 ?_
  refine qr_iload_n C dX0_cornersOf_14 rfl 1 rfl ?_
  refine qr_bipush (v := 6) C dX0_cornersOf_15 (by decide) ?_
  refine qr_irem C dX0_cornersOf_17 (by decide) ?_
  refine qr_iadd C dX0_cornersOf_18 ?_
  refine qr_istore (lv' := [(4, (.int ((x1 * (6 : Int32)) + (x0 - x0 / (6 : Int32) * (6 : Int32))))), (3, (.int (((x0 / (6 : Int32)) * (6 : Int32)) + x2))), (0, (.int x0)), (1, (.int x1)), (2, (.int x2))]) C dX0_cornersOf_19 (by decide) rfl ?_
  refine qr_iload_n C dX0_cornersOf_21 rfl 3 rfl ?_
  refine qr_bipush (v := 6) C dX0_cornersOf_22 (by decide) ?_
  refine qr_imul C dX0_cornersOf_24 ?_
  refine qr_iload_n C dX0_cornersOf_25 rfl 4 rfl ?_
  refine qr_iadd C dX0_cornersOf_26 ?_
  refine qr_istore (lv' := [(5, (.int ((x1 * (6 : Int32)) + x2))), (4, (.int ((x1 * (6 : Int32)) + (x0 - x0 / (6 : Int32) * (6 : Int32))))), (3, (.int (((x0 / (6 : Int32)) * (6 : Int32)) + x2))), (0, (.int x0)), (1, (.int x1)), (2, (.int x2))]) C dX0_cornersOf_27 (by decide) rfl ?_
  refine qr_iconst (v := 1) C dX0_cornersOf_29 (by decide) ?_
  refine qr_iload_n C dX0_cornersOf_30 rfl 2 rfl ?_
  refine qr_ishl C dX0_cornersOf_31 ?_
  refine qr_iconst (v := 1) C dX0_cornersOf_32 (by decide) ?_
  refine qr_iload C dX0_cornersOf_33 1 rfl ?_
  refine qr_ishl C dX0_cornersOf_35 ?_
  refine qr_ior C dX0_cornersOf_36 ?_
  refine qr_iconst (v := 1) C dX0_cornersOf_37 (by decide) ?_
  refine qr_iload C dX0_cornersOf_38 0 rfl ?_
  refine qr_ishl C dX0_cornersOf_40 ?_
  refine qr_ior C dX0_cornersOf_41 ?_
  exact qr_iret C rfl (Nat.zero_le _) (Nat.zero_le _) dX0_cornersOf_42 (qw_kpn rfl)
set_option maxHeartbeats 4000000 in
set_option maxRecDepth 100000 in
theorem k_J6_bitCount_0f7a4 {l : Launch} (hst : l.stackTraces = false) (D : va_G) (ad : Nat → Nat) (g : qw_G) (x0 : Int32) : qw_M l yJ6_bitCount_0f7a4 [Cond.code yJ6_bitCount_0f7a4 cJ6_bitCount_0f7a4 1 (some .int)] { frames := 0, cells := 0, slots := 0, locals := 0 } D ad g [(.int x0)] (qw_kp ad g (some (.int (sg_bc x0)))) 0 0 := by
  refine qw_M.of (maxL := 1) (own := RJ6) (lv := [(0, (.int x0))]) hst (by decide) rfl rfl (Nat.le_of_ble_eq_true rfl) ?_
  intro p e s m args below meth c A C hin
  refine qr_iload_n C dJ6_bitCount_0f7a4_0 rfl 0 rfl ?_
  refine qr_iload_n C dJ6_bitCount_0f7a4_1 rfl 0 rfl ?_
  refine qr_iconst (v := 1) C dJ6_bitCount_0f7a4_2 (by decide) ?_
  refine qr_iushr C dJ6_bitCount_0f7a4_3 ?_
  refine qr_ldcw (v := 1431655765) C (gk_bits.1) dJ6_bitCount_0f7a4_4 ?_
  refine qr_iand C dJ6_bitCount_0f7a4_7 ?_
  refine qr_isub C dJ6_bitCount_0f7a4_8 ?_
  refine qr_istore_n (lv' := [(0, (.int (x0 - (((x0.toUInt32 >>> ((1 : Int32).toUInt32 &&& Int32.toUInt32 31)).toInt32) &&& (1431655765 : Int32)))))]) C dJ6_bitCount_0f7a4_9 rfl (by decide) rfl ?_
  refine qr_iload_n C dJ6_bitCount_0f7a4_10 rfl 0 rfl ?_
  refine qr_ldcw (v := 858993459) C (gk_bits.2.1) dJ6_bitCount_0f7a4_11 ?_
  refine qr_iand C dJ6_bitCount_0f7a4_14 ?_
  refine qr_iload_n C dJ6_bitCount_0f7a4_15 rfl 0 rfl ?_
  refine qr_iconst (v := 2) C dJ6_bitCount_0f7a4_16 (by decide) ?_
  refine qr_iushr C dJ6_bitCount_0f7a4_17 ?_
  refine qr_ldcw (v := 858993459) C (gk_bits.2.1) dJ6_bitCount_0f7a4_18 ?_
  refine qr_iand C dJ6_bitCount_0f7a4_21 ?_
  refine qr_iadd C dJ6_bitCount_0f7a4_22 ?_
  refine qr_istore_n (lv' := [(0, (.int (((x0 - (((x0.toUInt32 >>> ((1 : Int32).toUInt32 &&& Int32.toUInt32 31)).toInt32) &&& (1431655765 : Int32))) &&& (858993459 : Int32)) + ((((x0 - (((x0.toUInt32 >>> ((1 : Int32).toUInt32 &&& Int32.toUInt32 31)).toInt32) &&& (1431655765 : Int32))).toUInt32 >>> ((2 : Int32).toUInt32 &&& Int32.toUInt32 31)).toInt32) &&& (858993459 : Int32)))))]) C dJ6_bitCount_0f7a4_23 rfl (by decide) rfl ?_
  refine qr_iload_n C dJ6_bitCount_0f7a4_24 rfl 0 rfl ?_
  refine qr_iload_n C dJ6_bitCount_0f7a4_25 rfl 0 rfl ?_
  refine qr_iconst (v := 4) C dJ6_bitCount_0f7a4_26 (by decide) ?_
  refine qr_iushr C dJ6_bitCount_0f7a4_27 ?_
  refine qr_iadd C dJ6_bitCount_0f7a4_28 ?_
  refine qr_ldcw (v := 252645135) C (gk_bits.2.2) dJ6_bitCount_0f7a4_29 ?_
  refine qr_iand C dJ6_bitCount_0f7a4_32 ?_
  refine qr_istore_n (lv' := [(0, (.int (((((x0 - (((x0.toUInt32 >>> ((1 : Int32).toUInt32 &&& Int32.toUInt32 31)).toInt32) &&& (1431655765 : Int32))) &&& (858993459 : Int32)) + ((((x0 - (((x0.toUInt32 >>> ((1 : Int32).toUInt32 &&& Int32.toUInt32 31)).toInt32) &&& (1431655765 : Int32))).toUInt32 >>> ((2 : Int32).toUInt32 &&& Int32.toUInt32 31)).toInt32) &&& (858993459 : Int32))) + (((((x0 - (((x0.toUInt32 >>> ((1 : Int32).toUInt32 &&& Int32.toUInt32 31)).toInt32) &&& (1431655765 : Int32))) &&& (858993459 : Int32)) + ((((x0 - (((x0.toUInt32 >>> ((1 : Int32).toUInt32 &&& Int32.toUInt32 31)).toInt32) &&& (1431655765 : Int32))).toUInt32 >>> ((2 : Int32).toUInt32 &&& Int32.toUInt32 31)).toInt32) &&& (858993459 : Int32))).toUInt32 >>> ((4 : Int32).toUInt32 &&& Int32.toUInt32 31)).toInt32)) &&& (252645135 : Int32))))]) C dJ6_bitCount_0f7a4_33 rfl (by decide) rfl ?_
  refine qr_iload_n C dJ6_bitCount_0f7a4_34 rfl 0 rfl ?_
  refine qr_iload_n C dJ6_bitCount_0f7a4_35 rfl 0 rfl ?_
  refine qr_bipush (v := 8) C dJ6_bitCount_0f7a4_36 (by decide) ?_
  refine qr_iushr C dJ6_bitCount_0f7a4_38 ?_
  refine qr_iadd C dJ6_bitCount_0f7a4_39 ?_
  refine qr_istore_n (lv' := [(0, (.int ((((((x0 - (((x0.toUInt32 >>> ((1 : Int32).toUInt32 &&& Int32.toUInt32 31)).toInt32) &&& (1431655765 : Int32))) &&& (858993459 : Int32)) + ((((x0 - (((x0.toUInt32 >>> ((1 : Int32).toUInt32 &&& Int32.toUInt32 31)).toInt32) &&& (1431655765 : Int32))).toUInt32 >>> ((2 : Int32).toUInt32 &&& Int32.toUInt32 31)).toInt32) &&& (858993459 : Int32))) + (((((x0 - (((x0.toUInt32 >>> ((1 : Int32).toUInt32 &&& Int32.toUInt32 31)).toInt32) &&& (1431655765 : Int32))) &&& (858993459 : Int32)) + ((((x0 - (((x0.toUInt32 >>> ((1 : Int32).toUInt32 &&& Int32.toUInt32 31)).toInt32) &&& (1431655765 : Int32))).toUInt32 >>> ((2 : Int32).toUInt32 &&& Int32.toUInt32 31)).toInt32) &&& (858993459 : Int32))).toUInt32 >>> ((4 : Int32).toUInt32 &&& Int32.toUInt32 31)).toInt32)) &&& (252645135 : Int32)) + (((((((x0 - (((x0.toUInt32 >>> ((1 : Int32).toUInt32 &&& Int32.toUInt32 31)).toInt32) &&& (1431655765 : Int32))) &&& (858993459 : Int32)) + ((((x0 - (((x0.toUInt32 >>> ((1 : Int32).toUInt32 &&& Int32.toUInt32 31)).toInt32) &&& (1431655765 : Int32))).toUInt32 >>> ((2 : Int32).toUInt32 &&& Int32.toUInt32 31)).toInt32) &&& (858993459 : Int32))) + (((((x0 - (((x0.toUInt32 >>> ((1 : Int32).toUInt32 &&& Int32.toUInt32 31)).toInt32) &&& (1431655765 : Int32))) &&& (858993459 : Int32)) + ((((x0 - (((x0.toUInt32 >>> ((1 : Int32).toUInt32 &&& Int32.toUInt32 31)).toInt32) &&& (1431655765 : Int32))).toUInt32 >>> ((2 : Int32).toUInt32 &&& Int32.toUInt32 31)).toInt32) &&& (858993459 : Int32))).toUInt32 >>> ((4 : Int32).toUInt32 &&& Int32.toUInt32 31)).toInt32)) &&& (252645135 : Int32)).toUInt32 >>> ((8 : Int32).toUInt32 &&& Int32.toUInt32 31)).toInt32))))]) C dJ6_bitCount_0f7a4_40 rfl (by decide) rfl ?_
  refine qr_iload_n C dJ6_bitCount_0f7a4_41 rfl 0 rfl ?_
  refine qr_iload_n C dJ6_bitCount_0f7a4_42 rfl 0 rfl ?_
  refine qr_bipush (v := 16) C dJ6_bitCount_0f7a4_43 (by decide) ?_
  refine qr_iushr C dJ6_bitCount_0f7a4_45 ?_
  refine qr_iadd C dJ6_bitCount_0f7a4_46 ?_
  refine qr_istore_n (lv' := [(0, (.int (((((((x0 - (((x0.toUInt32 >>> ((1 : Int32).toUInt32 &&& Int32.toUInt32 31)).toInt32) &&& (1431655765 : Int32))) &&& (858993459 : Int32)) + ((((x0 - (((x0.toUInt32 >>> ((1 : Int32).toUInt32 &&& Int32.toUInt32 31)).toInt32) &&& (1431655765 : Int32))).toUInt32 >>> ((2 : Int32).toUInt32 &&& Int32.toUInt32 31)).toInt32) &&& (858993459 : Int32))) + (((((x0 - (((x0.toUInt32 >>> ((1 : Int32).toUInt32 &&& Int32.toUInt32 31)).toInt32) &&& (1431655765 : Int32))) &&& (858993459 : Int32)) + ((((x0 - (((x0.toUInt32 >>> ((1 : Int32).toUInt32 &&& Int32.toUInt32 31)).toInt32) &&& (1431655765 : Int32))).toUInt32 >>> ((2 : Int32).toUInt32 &&& Int32.toUInt32 31)).toInt32) &&& (858993459 : Int32))).toUInt32 >>> ((4 : Int32).toUInt32 &&& Int32.toUInt32 31)).toInt32)) &&& (252645135 : Int32)) + (((((((x0 - (((x0.toUInt32 >>> ((1 : Int32).toUInt32 &&& Int32.toUInt32 31)).toInt32) &&& (1431655765 : Int32))) &&& (858993459 : Int32)) + ((((x0 - (((x0.toUInt32 >>> ((1 : Int32).toUInt32 &&& Int32.toUInt32 31)).toInt32) &&& (1431655765 : Int32))).toUInt32 >>> ((2 : Int32).toUInt32 &&& Int32.toUInt32 31)).toInt32) &&& (858993459 : Int32))) + (((((x0 - (((x0.toUInt32 >>> ((1 : Int32).toUInt32 &&& Int32.toUInt32 31)).toInt32) &&& (1431655765 : Int32))) &&& (858993459 : Int32)) + ((((x0 - (((x0.toUInt32 >>> ((1 : Int32).toUInt32 &&& Int32.toUInt32 31)).toInt32) &&& (1431655765 : Int32))).toUInt32 >>> ((2 : Int32).toUInt32 &&& Int32.toUInt32 31)).toInt32) &&& (858993459 : Int32))).toUInt32 >>> ((4 : Int32).toUInt32 &&& Int32.toUInt32 31)).toInt32)) &&& (252645135 : Int32)).toUInt32 >>> ((8 : Int32).toUInt32 &&& Int32.toUInt32 31)).toInt32)) + ((((((((x0 - (((x0.toUInt32 >>> ((1 : Int32).toUInt32 &&& Int32.toUInt32 31)).toInt32) &&& (1431655765 : Int32))) &&& (858993459 : Int32)) + ((((x0 - (((x0.toUInt32 >>> ((1 : Int32).toUInt32 &&& Int32.toUInt32 31)).toInt32) &&& (1431655765 : Int32))).toUInt32 >>> ((2 : Int32).toUInt32 &&& Int32.toUInt32 31)).toInt32) &&& (858993459 : Int32))) + (((((x0 - (((x0.toUInt32 >>> ((1 : Int32).toUInt32 &&& Int32.toUInt32 31)).toInt32) &&& (1431655765 : Int32))) &&& (858993459 : Int32)) + ((((x0 - (((x0.toUInt32 >>> ((1 : Int32).toUInt32 &&& Int32.toUInt32 31)).toInt32) &&& (1431655765 : Int32))).toUInt32 >>> ((2 : Int32).toUInt32 &&& Int32.toUInt32 31)).toInt32) &&& (858993459 : Int32))).toUInt32 >>> ((4 : Int32).toUInt32 &&& Int32.toUInt32 31)).toInt32)) &&& (252645135 : Int32)) + (((((((x0 - (((x0.toUInt32 >>> ((1 : Int32).toUInt32 &&& Int32.toUInt32 31)).toInt32) &&& (1431655765 : Int32))) &&& (858993459 : Int32)) + ((((x0 - (((x0.toUInt32 >>> ((1 : Int32).toUInt32 &&& Int32.toUInt32 31)).toInt32) &&& (1431655765 : Int32))).toUInt32 >>> ((2 : Int32).toUInt32 &&& Int32.toUInt32 31)).toInt32) &&& (858993459 : Int32))) + (((((x0 - (((x0.toUInt32 >>> ((1 : Int32).toUInt32 &&& Int32.toUInt32 31)).toInt32) &&& (1431655765 : Int32))) &&& (858993459 : Int32)) + ((((x0 - (((x0.toUInt32 >>> ((1 : Int32).toUInt32 &&& Int32.toUInt32 31)).toInt32) &&& (1431655765 : Int32))).toUInt32 >>> ((2 : Int32).toUInt32 &&& Int32.toUInt32 31)).toInt32) &&& (858993459 : Int32))).toUInt32 >>> ((4 : Int32).toUInt32 &&& Int32.toUInt32 31)).toInt32)) &&& (252645135 : Int32)).toUInt32 >>> ((8 : Int32).toUInt32 &&& Int32.toUInt32 31)).toInt32)).toUInt32 >>> ((16 : Int32).toUInt32 &&& Int32.toUInt32 31)).toInt32))))]) C dJ6_bitCount_0f7a4_47 rfl (by decide) rfl ?_
  refine qr_iload_n C dJ6_bitCount_0f7a4_48 rfl 0 rfl ?_
  refine qr_bipush (v := 63) C dJ6_bitCount_0f7a4_49 (by decide) ?_
  refine qr_iand C dJ6_bitCount_0f7a4_51 ?_
  exact qr_iret C rfl (Nat.zero_le _) (Nat.zero_le _) dJ6_bitCount_0f7a4_52 (qw_kpn rfl)
set_option maxHeartbeats 4000000 in
set_option maxRecDepth 100000 in
theorem k_X0_isOnRound {l : Launch} (hst : l.stackTraces = false) (D : va_G) (ad : Nat → Nat) (g : qw_G) (x0 x1 : Int32) : qw_M l yX0_isOnRound [Cond.code yX0_isOnRound cX0_isOnRound 7 (some .boolean)] { frames := 1, cells := 0, slots := 0, locals := 30 } D ad g [(.int x0), (.int x1)] (qw_kp ad g (some (.int (sg_round x0 x1)))) 0 0 := by
  refine qw_M.of (maxL := 7) (own := RX0) (lv := [(0, (.int x0)), (1, (.int x1))]) hst (by decide) rfl rfl (Nat.le_of_ble_eq_true rfl) ?_
  intro p e s m args below meth c A C hin
  refine qr_iload_n C dX0_isOnRound_0 rfl 0 rfl ?_
  refine qr_iconst (v := 1) C dX0_isOnRound_1 (by decide) ?_
  refine qr_iload_n C dX0_isOnRound_2 rfl 1 rfl ?_
  refine qr_ishl C dX0_isOnRound_3 ?_
  refine qr_iconst (v := -1) C dX0_isOnRound_4 (by decide) ?_
  refine qr_ixor C dX0_isOnRound_5 ?_
  refine qr_iand C dX0_isOnRound_6 ?_
  refine qr_istore_n (lv' := [(2, (.int (x0 &&& (((1 : Int32) <<< (x1 &&& 31)) ^^^ (-1 : Int32))))), (0, (.int x0)), (1, (.int x1))]) C dX0_isOnRound_7 rfl (by decide) rfl ?_
  refine qr_iload_n C dX0_isOnRound_8 rfl 0 rfl ?_
  refine qr_iload_n C dX0_isOnRound_9 rfl 2 rfl ?_
  refine qr_bipush (v := 6) C dX0_isOnRound_10 (by decide) ?_
  refine qr_idiv C dX0_isOnRound_12 (by decide) ?_
  refine qr_callS C (na := 2) (As := [(.int (x0 &&& (((1 : Int32) <<< (x1 &&& 31)) ^^^ (-1 : Int32)))), (.int (x1 / (6 : Int32)))]) (rest := []) (k_X0_columnsOf hst D ad g (sg_oth x0 x1) (x1 / 6)) gi_X0_22 ⟨by decide, by decide, by decide +kernel⟩ rfl rfl (Nat.le_of_ble_eq_true rfl) rfl rfl ⟨Nat.le_of_ble_eq_true rfl, Nat.le_of_ble_eq_true rfl⟩ ⟨Nat.le_of_ble_eq_true rfl, Nat.le_of_ble_eq_true rfl⟩ dX0_isOnRound_13 (fun v ad2 g2 hpo => ?_)
  obtain ⟨rfl, rfl, rfl⟩ := hpo
  refine qr_istore_n (lv' := [(3, (.int (sg_cols (sg_oth x0 x1) (x1 / 6)))), (2, (.int (x0 &&& (((1 : Int32) <<< (x1 &&& 31)) ^^^ (-1 : Int32))))), (0, (.int x0)), (1, (.int x1))]) C dX0_isOnRound_16 rfl (by decide) rfl ?_
  refine qr_iconst (v := 0) C dX0_isOnRound_17 (by decide) ?_
  refine qr_istore (lv' := [(4, (.int (0 : Int32))), (3, (.int (sg_cols (sg_oth x0 x1) (x1 / 6)))), (2, (.int (x0 &&& (((1 : Int32) <<< (x1 &&& 31)) ^^^ (-1 : Int32))))), (0, (.int x0)), (1, (.int x1))]) C dX0_isOnRound_18 (by decide) rfl ?_
  have L20 : ∀ (j20 i20 : Nat) (r : Int32), i20 + j20 = 5 → r = sg_it (fun _ x => sg_rpass (sg_oth x0 x1) x) (sg_cols (sg_oth x0 x1) (x1 / 6)) i20 → qw_W p l e { frames := 1, cells := 0, slots := 0, locals := 30 } s m args below meth c D A 7 (MQ below (qw_Q (qw_kp ad g (some (.int (sg_round x0 x1)))) D A) args s 0 0 A) 0 0 ad g 20 [(0, (.int x0)), (1, (.int x1)), (2, (.int (x0 &&& (((1 : Int32) <<< (x1 &&& 31)) ^^^ (-1 : Int32))))), (3, (.int r)), (4, (.int (nI i20)))] [] := by
    intro j20
    induction j20 with
    | zero =>
      intro i20 r hi20 hr
      obtain rfl : i20 = 5 := by omega
      refine qr_iload C dX0_isOnRound_20 4 rfl ?_
      refine qr_iconst (v := 5) C dX0_isOnRound_22 (by decide) ?_
      refine qr_icmp_ge_t C 67 dX0_isOnRound_23 (by decide) ((sg_le (5) (5) rfl rfl (by omega) (by omega)).mpr (Nat.le_refl _)) ?_
      refine qr_iload_n C dX0_isOnRound_67 rfl 3 rfl ?_
      refine qr_iload_n C dX0_isOnRound_68 rfl 1 rfl ?_
      refine qr_bipush (v := 6) C dX0_isOnRound_69 (by decide) ?_
      refine qr_irem C dX0_isOnRound_71 (by decide) ?_
      refine qr_callNS C (na := 2) (As := [(.int r), (.int (x1 - x1 / (6 : Int32) * (6 : Int32)))]) (rest := []) (k_X6_contains hst D ad g r (x1 - x1 / 6 * 6)) gi_X0_9.1 gi_X0_9.2.1 gi_X0_9.2.2.1 gi_X0_9.2.2.2 ⟨by decide, by decide, by decide +kernel⟩ rfl rfl (Nat.le_of_ble_eq_true rfl) rfl rfl ⟨Nat.le_of_ble_eq_true rfl, Nat.le_of_ble_eq_true rfl⟩ ⟨Nat.le_of_ble_eq_true rfl, Nat.le_of_ble_eq_true rfl⟩ dX0_isOnRound_72 (fun v ad2 g2 hpo => ?_)
      obtain ⟨rfl, rfl, rfl⟩ := hpo
      exact qr_zret C rfl (sg_has01 _ _) (Nat.zero_le _) (Nat.zero_le _) dX0_isOnRound_75 (qw_kpn (by subst hr; rfl))
    | succ j20 ih20 =>
      intro i20 r hi20 hr
      refine qr_iload C dX0_isOnRound_20 4 rfl ?_
      refine qr_iconst (v := 5) C dX0_isOnRound_22 (by decide) ?_
      refine qr_icmp_ge_f C 67 dX0_isOnRound_23 (by decide) (fun z => absurd ((sg_le (5) (i20) rfl rfl (by omega) (by omega)).mp z) (by omega)) ?_
      refine qr_iconst (v := 0) C dX0_isOnRound_26 (by decide) ?_
      refine qr_istore (lv' := [(5, (.int (0 : Int32))), (0, (.int x0)), (1, (.int x1)), (2, (.int (x0 &&& (((1 : Int32) <<< (x1 &&& 31)) ^^^ (-1 : Int32))))), (3, (.int r)), (4, (.int (nI i20)))]) C dX0_isOnRound_27 (by decide) rfl ?_
      have L29 : ∀ (j29 i29 : Nat) (q : Int32), i29 + j29 = 5 → q = sg_it (sg_rstep (sg_oth x0 x1)) r i29 → qw_W p l e { frames := 1, cells := 0, slots := 0, locals := 30 } s m args below meth c D A 7 (MQ below (qw_Q (qw_kp ad g (some (.int (sg_round x0 x1)))) D A) args s 0 0 A) 0 0 ad g 29 [(0, (.int x0)), (1, (.int x1)), (2, (.int (x0 &&& (((1 : Int32) <<< (x1 &&& 31)) ^^^ (-1 : Int32))))), (3, (.int q)), (4, (.int (nI i20))), (5, (.int (nI i29)))] [] := by
        intro j29
        induction j29 with
        | zero =>
          intro i29 q hi29 hq
          obtain rfl : i29 = 5 := by omega
          refine qr_iload C dX0_isOnRound_29 5 rfl ?_
          refine qr_iconst (v := 5) C dX0_isOnRound_31 (by decide) ?_
          refine qr_icmp_ge_t C 61 dX0_isOnRound_32 (by decide) ((sg_le (5) (5) rfl rfl (by omega) (by omega)).mpr (Nat.le_refl _)) ?_
          refine qr_iinc (v := (nI (i20 + 1))) (lv' := [(4, (.int (nI (i20 + 1)))), (0, (.int x0)), (1, (.int x1)), (2, (.int (x0 &&& (((1 : Int32) <<< (x1 &&& 31)) ^^^ (-1 : Int32))))), (3, (.int q)), (5, (.int (nI (5))))]) C dX0_isOnRound_61 (w := 4) rfl (nI_1 _) (by decide) rfl ?_
          refine qr_goto (tgt := 20) C dX0_isOnRound_64 (by decide) ?_
          refine qw_pick [1, 2, 3, 4, 0] (lv' := [(0, (.int x0)), (1, (.int x1)), (2, (.int (x0 &&& (((1 : Int32) <<< (x1 &&& 31)) ^^^ (-1 : Int32))))), (3, (.int q)), (4, (.int (nI (i20 + 1))))]) rfl ?_
          exact ih20 (i20 + 1) q (by omega) (by subst hr; exact hq)
        | succ j29 ih29 =>
          intro i29 q hi29 hq
          refine qr_iload C dX0_isOnRound_29 5 rfl ?_
          refine qr_iconst (v := 5) C dX0_isOnRound_31 (by decide) ?_
          refine qr_icmp_ge_f C 61 dX0_isOnRound_32 (by decide) (fun z => absurd ((sg_le (5) (i29) rfl rfl (by omega) (by omega)).mp z) (by omega)) ?_
          refine qr_iload_n C dX0_isOnRound_35 rfl 2 rfl ?_
          refine qr_iload C dX0_isOnRound_36 5 rfl ?_
          refine qr_callS C (na := 2) (As := [(.int (x0 &&& (((1 : Int32) <<< (x1 &&& 31)) ^^^ (-1 : Int32)))), (.int (nI i29))]) (rest := []) (k_X0_columnsOf hst D ad g (sg_oth x0 x1) (nI i29)) gi_X0_22 ⟨by decide, by decide, by decide +kernel⟩ rfl rfl (Nat.le_of_ble_eq_true rfl) rfl rfl ⟨Nat.le_of_ble_eq_true rfl, Nat.le_of_ble_eq_true rfl⟩ ⟨Nat.le_of_ble_eq_true rfl, Nat.le_of_ble_eq_true rfl⟩ dX0_isOnRound_38 (fun v ad2 g2 hpo => ?_)
          obtain ⟨rfl, rfl, rfl⟩ := hpo
          refine qr_istore (lv' := [(6, (.int (sg_cols (sg_oth x0 x1) (nI i29)))), (0, (.int x0)), (1, (.int x1)), (2, (.int (x0 &&& (((1 : Int32) <<< (x1 &&& 31)) ^^^ (-1 : Int32))))), (3, (.int q)), (4, (.int (nI i20))), (5, (.int (nI i29)))]) C dX0_isOnRound_41 (by decide) rfl ?_
          refine qr_iload C dX0_isOnRound_43 0 rfl ?_
          refine qr_iload_n C dX0_isOnRound_45 rfl 4 rfl ?_
          refine qr_iand C dX0_isOnRound_46 ?_
          refine qr_if_eq C 55 dX0_isOnRound_47 (by decide) (fun c47 => ?_) (fun c47 => ?_)
          · skip
            refine qr_iinc (v := (nI (i29 + 1))) (lv' := [(5, (.int (nI (i29 + 1)))), (6, (.int (sg_cols (sg_oth x0 x1) (nI i29)))), (0, (.int x0)), (1, (.int x1)), (2, (.int (x0 &&& (((1 : Int32) <<< (x1 &&& 31)) ^^^ (-1 : Int32))))), (3, (.int q)), (4, (.int (nI i20)))]) C dX0_isOnRound_55 (w := 6) rfl (nI_1 _) (by decide) rfl ?_
            refine qr_goto (tgt := 29) C dX0_isOnRound_58 (by decide) ?_
            refine qw_pick [2, 3, 4, 5, 6, 0] (lv' := [(0, (.int x0)), (1, (.int x1)), (2, (.int (x0 &&& (((1 : Int32) <<< (x1 &&& 31)) ^^^ (-1 : Int32))))), (3, (.int q)), (4, (.int (nI i20))), (5, (.int (nI (i29 + 1))))]) rfl ?_
            exact ih29 (i29 + 1) q (by omega) (by subst hq; exact (if_pos c47).symm)
          · skip
            refine qr_iload_n C dX0_isOnRound_50 rfl 4 rfl ?_
            refine qr_iload C dX0_isOnRound_51 0 rfl ?_
            refine qr_ior C dX0_isOnRound_53 ?_
            refine qr_istore_n (lv' := [(3, (.int (q ||| (sg_cols (sg_oth x0 x1) (nI i29))))), (6, (.int (sg_cols (sg_oth x0 x1) (nI i29)))), (0, (.int x0)), (1, (.int x1)), (2, (.int (x0 &&& (((1 : Int32) <<< (x1 &&& 31)) ^^^ (-1 : Int32))))), (4, (.int (nI i20))), (5, (.int (nI i29)))]) C dX0_isOnRound_54 rfl (by decide) rfl ?_
            refine qr_iinc (v := (nI (i29 + 1))) (lv' := [(5, (.int (nI (i29 + 1)))), (3, (.int (q ||| (sg_cols (sg_oth x0 x1) (nI i29))))), (6, (.int (sg_cols (sg_oth x0 x1) (nI i29)))), (0, (.int x0)), (1, (.int x1)), (2, (.int (x0 &&& (((1 : Int32) <<< (x1 &&& 31)) ^^^ (-1 : Int32))))), (4, (.int (nI i20)))]) C dX0_isOnRound_55 (w := 6) rfl (nI_1 _) (by decide) rfl ?_
            refine qr_goto (tgt := 29) C dX0_isOnRound_58 (by decide) ?_
            refine qw_pick [3, 4, 5, 1, 6, 0] (lv' := [(0, (.int x0)), (1, (.int x1)), (2, (.int (x0 &&& (((1 : Int32) <<< (x1 &&& 31)) ^^^ (-1 : Int32))))), (3, (.int (q ||| (sg_cols (sg_oth x0 x1) (nI i29))))), (4, (.int (nI i20))), (5, (.int (nI (i29 + 1))))]) rfl ?_
            exact ih29 (i29 + 1) (q ||| (sg_cols (sg_oth x0 x1) (nI i29))) (by omega) (by subst hq; exact (if_neg c47).symm)
      refine qw_pick [1, 2, 3, 4, 5, 0] (lv' := [(0, (.int x0)), (1, (.int x1)), (2, (.int (x0 &&& (((1 : Int32) <<< (x1 &&& 31)) ^^^ (-1 : Int32))))), (3, (.int r)), (4, (.int (nI i20))), (5, (.int (0 : Int32)))]) rfl ?_
      exact L29 (5) 0 r (by omega) rfl
  refine qw_pick [3, 4, 2, 1, 0] (lv' := [(0, (.int x0)), (1, (.int x1)), (2, (.int (x0 &&& (((1 : Int32) <<< (x1 &&& 31)) ^^^ (-1 : Int32))))), (3, (.int (sg_cols (sg_oth x0 x1) (x1 / 6)))), (4, (.int (0 : Int32)))]) rfl ?_
  exact L20 (5) 0 (sg_cols (sg_oth x0 x1) (x1 / 6)) (by omega) rfl
set_option maxHeartbeats 4000000 in
set_option maxRecDepth 100000 in
theorem k_X0_fewestCovers {l : Launch} (hst : l.stackTraces = false) (D : va_G) (ad : Nat → Nat) (g : qw_G) (x0 x1 : Int32) : qw_M l yX0_fewestCovers [Cond.code yX0_fewestCovers cX0_fewestCovers 8 (some .int)] { frames := 1, cells := 0, slots := 0, locals := 30 } D ad g [(.int x0), (.int x1)] (qw_kp ad g (some (.int (sg_few x0 x1).2))) 0 0 := by
  refine qw_M.of (maxL := 8) (own := RX0) (lv := [(0, (.int x0)), (1, (.int x1))]) hst (by decide) rfl rfl (Nat.le_of_ble_eq_true rfl) ?_
  intro p e s m args below meth c A C hin
  refine qr_iconst (v := 4) C dX0_fewestCovers_0 (by decide) ?_
  refine qr_istore_n (lv' := [(2, (.int (4 : Int32))), (0, (.int x0)), (1, (.int x1))]) C dX0_fewestCovers_1 rfl (by decide) rfl ?_
  refine qr_iconst (v := 0) C dX0_fewestCovers_2 (by decide) ?_
  refine qr_istore_n (lv' := [(3, (.int (0 : Int32))), (2, (.int (4 : Int32))), (0, (.int x0)), (1, (.int x1))]) C dX0_fewestCovers_3 rfl (by decide) rfl ?_
  refine qr_iconst (v := 0) C dX0_fewestCovers_4 (by decide) ?_
  refine qr_istore (lv' := [(4, (.int (0 : Int32))), (3, (.int (0 : Int32))), (2, (.int (4 : Int32))), (0, (.int x0)), (1, (.int x1))]) C dX0_fewestCovers_5 (by decide) rfl ?_
  have L7 : ∀ (j7 i7 : Nat) (fa : Int32) (fb : Int32), i7 + j7 = 5 → fa = (sg_it (fun row s => sg_it (fun col s => sg_fstep x0 x1 row col s) s 6) (4, 0) i7).1 → fb = (sg_it (fun row s => sg_it (fun col s => sg_fstep x0 x1 row col s) s 6) (4, 0) i7).2 → qw_W p l e { frames := 1, cells := 0, slots := 0, locals := 30 } s m args below meth c D A 8 (MQ below (qw_Q (qw_kp ad g (some (.int (sg_few x0 x1).2))) D A) args s 0 0 A) 0 0 ad g 7 [(0, (.int x0)), (1, (.int x1)), (2, (.int fa)), (3, (.int fb)), (4, (.int (nI i7)))] [] := by
    intro j7
    induction j7 with
    | zero =>
      intro i7 fa fb hi7 hfa hfb
      obtain rfl : i7 = 5 := by omega
      refine qr_iload C dX0_fewestCovers_7 4 rfl ?_
      refine qr_iconst (v := 5) C dX0_fewestCovers_9 (by decide) ?_
      refine qr_icmp_ge_t C 86 dX0_fewestCovers_10 (by decide) ((sg_le (5) (5) rfl rfl (by omega) (by omega)).mpr (Nat.le_refl _)) ?_
      refine qr_iload_n C dX0_fewestCovers_86 rfl 3 rfl ?_
      exact qr_iret C rfl (Nat.zero_le _) (Nat.zero_le _) dX0_fewestCovers_87 (qw_kpn hfb.symm)
    | succ j7 ih7 =>
      intro i7 fa fb hi7 hfa hfb
      refine qr_iload C dX0_fewestCovers_7 4 rfl ?_
      refine qr_iconst (v := 5) C dX0_fewestCovers_9 (by decide) ?_
      refine qr_icmp_ge_f C 86 dX0_fewestCovers_10 (by decide) (fun z => absurd ((sg_le (5) (i7) rfl rfl (by omega) (by omega)).mp z) (by omega)) ?_
      refine qr_iconst (v := 0) C dX0_fewestCovers_13 (by decide) ?_
      refine qr_istore (lv' := [(5, (.int (0 : Int32))), (0, (.int x0)), (1, (.int x1)), (2, (.int fa)), (3, (.int fb)), (4, (.int (nI i7)))]) C dX0_fewestCovers_14 (by decide) rfl ?_
      have L16 : ∀ (j16 i16 : Nat) (fu : Int32) (fv : Int32), i16 + j16 = 6 → fu = (sg_it (fun col s => sg_fstep x0 x1 i7 col s) (fa, fb) i16).1 → fv = (sg_it (fun col s => sg_fstep x0 x1 i7 col s) (fa, fb) i16).2 → qw_W p l e { frames := 1, cells := 0, slots := 0, locals := 30 } s m args below meth c D A 8 (MQ below (qw_Q (qw_kp ad g (some (.int (sg_few x0 x1).2))) D A) args s 0 0 A) 0 0 ad g 16 [(0, (.int x0)), (1, (.int x1)), (2, (.int fu)), (3, (.int fv)), (4, (.int (nI i7))), (5, (.int (nI i16)))] [] := by
        intro j16
        induction j16 with
        | zero =>
          intro i16 fu fv hi16 hfu hfv
          obtain rfl : i16 = 6 := by omega
          refine qr_iload C dX0_fewestCovers_16 5 rfl ?_
          refine qr_bipush (v := 6) C dX0_fewestCovers_18 (by decide) ?_
          refine qr_icmp_ge_t C 80 dX0_fewestCovers_20 (by decide) ((sg_le (6) (6) rfl rfl (by omega) (by omega)).mpr (Nat.le_refl _)) ?_
          refine qr_iinc (v := (nI (i7 + 1))) (lv' := [(4, (.int (nI (i7 + 1)))), (0, (.int x0)), (1, (.int x1)), (2, (.int fu)), (3, (.int fv)), (5, (.int (nI (6))))]) C dX0_fewestCovers_80 (w := 4) rfl (nI_1 _) (by decide) rfl ?_
          refine qr_goto (tgt := 7) C dX0_fewestCovers_83 (by decide) ?_
          refine qw_pick [1, 2, 3, 4, 0] (lv' := [(0, (.int x0)), (1, (.int x1)), (2, (.int fu)), (3, (.int fv)), (4, (.int (nI (i7 + 1))))]) rfl ?_
          exact ih7 (i7 + 1) fu fv (by omega) (by show fu = (sg_it (fun col s => sg_fstep x0 x1 i7 col s) (sg_it (fun row s => sg_it (fun col s => sg_fstep x0 x1 row col s) s 6) (4, 0) i7) 6).1; rw [show sg_it (fun row s => sg_it (fun col s => sg_fstep x0 x1 row col s) s 6) (4, 0) i7 = (fa, fb) from Prod.ext hfa.symm hfb.symm]; exact hfu) (by show fv = (sg_it (fun col s => sg_fstep x0 x1 i7 col s) (sg_it (fun row s => sg_it (fun col s => sg_fstep x0 x1 row col s) s 6) (4, 0) i7) 6).2; rw [show sg_it (fun row s => sg_it (fun col s => sg_fstep x0 x1 row col s) s 6) (4, 0) i7 = (fa, fb) from Prod.ext hfa.symm hfb.symm]; exact hfv)
        | succ j16 ih16 =>
          intro i16 fu fv hi16 hfu hfv
          refine qr_iload C dX0_fewestCovers_16 5 rfl ?_
          refine qr_bipush (v := 6) C dX0_fewestCovers_18 (by decide) ?_
          refine qr_icmp_ge_f C 80 dX0_fewestCovers_20 (by decide) (fun z => absurd ((sg_le (6) (i16) rfl rfl (by omega) (by omega)).mp z) (by omega)) ?_
          refine qr_iload C dX0_fewestCovers_23 4 rfl ?_
          refine qr_iload_n C dX0_fewestCovers_25 rfl 1 rfl ?_
          refine qr_bipush (v := 6) C dX0_fewestCovers_26 (by decide) ?_
          refine qr_idiv C dX0_fewestCovers_28 (by decide) ?_
          refine qr_icmp_eq C 74 dX0_fewestCovers_29 (by decide) (fun c29 => ?_) (fun c29 => ?_)
          · skip
            refine qr_iinc (v := (nI (i16 + 1))) (lv' := [(5, (.int (nI (i16 + 1)))), (0, (.int x0)), (1, (.int x1)), (2, (.int fu)), (3, (.int fv)), (4, (.int (nI i7)))]) C dX0_fewestCovers_74 (w := 5) rfl (nI_1 _) (by decide) rfl ?_
            refine qr_goto (tgt := 16) C dX0_fewestCovers_77 (by decide) ?_
            refine qw_pick [1, 2, 3, 4, 5, 0] (lv' := [(0, (.int x0)), (1, (.int x1)), (2, (.int fu)), (3, (.int fv)), (4, (.int (nI i7))), (5, (.int (nI (i16 + 1))))]) rfl ?_
            exact ih16 (i16 + 1) fu fv (by omega) (by have e : sg_it (fun col s => sg_fstep x0 x1 i7 col s) (fa, fb) (i16 + 1) = sg_fstep x0 x1 i7 i16 (fu, fv) := (by show sg_fstep x0 x1 i7 i16 (sg_it (fun col s => sg_fstep x0 x1 i7 col s) (fa, fb) i16) = _; rw [show sg_it (fun col s => sg_fstep x0 x1 i7 col s) (fa, fb) i16 = (fu, fv) from Prod.ext hfu.symm hfv.symm]); rw [e]; simp only [sg_fstep, if_pos c29]) (by have e : sg_it (fun col s => sg_fstep x0 x1 i7 col s) (fa, fb) (i16 + 1) = sg_fstep x0 x1 i7 i16 (fu, fv) := (by show sg_fstep x0 x1 i7 i16 (sg_it (fun col s => sg_fstep x0 x1 i7 col s) (fa, fb) i16) = _; rw [show sg_it (fun col s => sg_fstep x0 x1 i7 col s) (fa, fb) i16 = (fu, fv) from Prod.ext hfu.symm hfv.symm]); rw [e]; simp only [sg_fstep, if_pos c29])
          · skip
            refine qr_iload C dX0_fewestCovers_32 5 rfl ?_
            refine qr_iload_n C dX0_fewestCovers_34 rfl 1 rfl ?_
            refine qr_bipush (v := 6) C dX0_fewestCovers_35 (by decide) ?_
            refine qr_irem C dX0_fewestCovers_37 (by decide) ?_
            refine qr_icmp_eq C 74 dX0_fewestCovers_38 (by decide) (fun c38 => ?_) (fun c38 => ?_)
            · skip
              refine qr_iinc (v := (nI (i16 + 1))) (lv' := [(5, (.int (nI (i16 + 1)))), (0, (.int x0)), (1, (.int x1)), (2, (.int fu)), (3, (.int fv)), (4, (.int (nI i7)))]) C dX0_fewestCovers_74 (w := 5) rfl (nI_1 _) (by decide) rfl ?_
              refine qr_goto (tgt := 16) C dX0_fewestCovers_77 (by decide) ?_
              refine qw_pick [1, 2, 3, 4, 5, 0] (lv' := [(0, (.int x0)), (1, (.int x1)), (2, (.int fu)), (3, (.int fv)), (4, (.int (nI i7))), (5, (.int (nI (i16 + 1))))]) rfl ?_
              exact ih16 (i16 + 1) fu fv (by omega) (by have e : sg_it (fun col s => sg_fstep x0 x1 i7 col s) (fa, fb) (i16 + 1) = sg_fstep x0 x1 i7 i16 (fu, fv) := (by show sg_fstep x0 x1 i7 i16 (sg_it (fun col s => sg_fstep x0 x1 i7 col s) (fa, fb) i16) = _; rw [show sg_it (fun col s => sg_fstep x0 x1 i7 col s) (fa, fb) i16 = (fu, fv) from Prod.ext hfu.symm hfv.symm]); rw [e]; simp only [sg_fstep, if_neg c29, if_pos c38]) (by have e : sg_it (fun col s => sg_fstep x0 x1 i7 col s) (fa, fb) (i16 + 1) = sg_fstep x0 x1 i7 i16 (fu, fv) := (by show sg_fstep x0 x1 i7 i16 (sg_it (fun col s => sg_fstep x0 x1 i7 col s) (fa, fb) i16) = _; rw [show sg_it (fun col s => sg_fstep x0 x1 i7 col s) (fa, fb) i16 = (fu, fv) from Prod.ext hfu.symm hfv.symm]); rw [e]; simp only [sg_fstep, if_neg c29, if_pos c38])
            · skip
              refine qr_iload_n C dX0_fewestCovers_41 rfl 1 rfl ?_
              refine qr_iload C dX0_fewestCovers_42 4 rfl ?_
              refine qr_iload C dX0_fewestCovers_44 5 rfl ?_
              refine qr_callS C (na := 3) (As := [(.int x1), (.int (nI i7)), (.int (nI i16))]) (rest := []) (k_X0_cornersOf hst D ad g x1 (nI i7) (nI i16)) gi_X0_25 ⟨by decide, by decide, by decide +kernel⟩ rfl rfl (Nat.le_of_ble_eq_true rfl) rfl rfl ⟨Nat.le_of_ble_eq_true rfl, Nat.le_of_ble_eq_true rfl⟩ ⟨Nat.le_of_ble_eq_true rfl, Nat.le_of_ble_eq_true rfl⟩ dX0_fewestCovers_46 (fun v ad2 g2 hpo => ?_)
              obtain ⟨rfl, rfl, rfl⟩ := hpo
              refine qr_istore (lv' := [(6, (.int (sg_corners x1 (nI i7) (nI i16)))), (0, (.int x0)), (1, (.int x1)), (2, (.int fu)), (3, (.int fv)), (4, (.int (nI i7))), (5, (.int (nI i16)))]) C dX0_fewestCovers_49 (by decide) rfl ?_
              refine qr_iload C dX0_fewestCovers_51 0 rfl ?_
              refine qr_iload_n C dX0_fewestCovers_53 rfl 1 rfl ?_
              refine qr_iconst (v := -1) C dX0_fewestCovers_54 (by decide) ?_
              refine qr_ixor C dX0_fewestCovers_55 ?_
              refine qr_iand C dX0_fewestCovers_56 ?_
              refine qr_callS C (na := 1) (As := [(.int ((sg_corners x1 (nI i7) (nI i16)) &&& (x0 ^^^ (-1 : Int32))))]) (rest := []) (k_J6_bitCount_0f7a4 hst D ad g (sg_corners x1 (nI i7) (nI i16) &&& (x0 ^^^ (-1)))) gi_X0_29 ⟨by decide, by decide, by decide +kernel⟩ rfl rfl (Nat.le_of_ble_eq_true rfl) rfl rfl ⟨Nat.le_of_ble_eq_true rfl, Nat.le_of_ble_eq_true rfl⟩ ⟨Nat.le_of_ble_eq_true rfl, Nat.le_of_ble_eq_true rfl⟩ dX0_fewestCovers_57 (fun v ad2 g2 hpo => ?_)
              obtain ⟨rfl, rfl, rfl⟩ := hpo
              refine qr_istore (lv' := [(7, (.int (sg_bc (sg_corners x1 (nI i7) (nI i16) &&& (x0 ^^^ (-1)))))), (6, (.int (sg_corners x1 (nI i7) (nI i16)))), (0, (.int x0)), (1, (.int x1)), (2, (.int fu)), (3, (.int fv)), (4, (.int (nI i7))), (5, (.int (nI i16)))]) C dX0_fewestCovers_60 (by decide) rfl ?_
              refine qr_iload C dX0_fewestCovers_62 0 rfl ?_
              refine qr_iload_n C dX0_fewestCovers_64 rfl 4 rfl ?_
              refine qr_icmp_ge C 74 dX0_fewestCovers_65 (by decide) (fun c65 => ?_) (fun c65 => ?_)
              · skip
                refine qr_iinc (v := (nI (i16 + 1))) (lv' := [(5, (.int (nI (i16 + 1)))), (7, (.int (sg_bc (sg_corners x1 (nI i7) (nI i16) &&& (x0 ^^^ (-1)))))), (6, (.int (sg_corners x1 (nI i7) (nI i16)))), (0, (.int x0)), (1, (.int x1)), (2, (.int fu)), (3, (.int fv)), (4, (.int (nI i7)))]) C dX0_fewestCovers_74 (w := 7) rfl (nI_1 _) (by decide) rfl ?_
                refine qr_goto (tgt := 16) C dX0_fewestCovers_77 (by decide) ?_
                refine qw_pick [3, 4, 5, 6, 7, 0] (lv' := [(0, (.int x0)), (1, (.int x1)), (2, (.int fu)), (3, (.int fv)), (4, (.int (nI i7))), (5, (.int (nI (i16 + 1))))]) rfl ?_
                exact ih16 (i16 + 1) fu fv (by omega) (by have e : sg_it (fun col s => sg_fstep x0 x1 i7 col s) (fa, fb) (i16 + 1) = sg_fstep x0 x1 i7 i16 (fu, fv) := (by show sg_fstep x0 x1 i7 i16 (sg_it (fun col s => sg_fstep x0 x1 i7 col s) (fa, fb) i16) = _; rw [show sg_it (fun col s => sg_fstep x0 x1 i7 col s) (fa, fb) i16 = (fu, fv) from Prod.ext hfu.symm hfv.symm]); rw [e]; simp only [sg_fstep, if_neg c29, if_neg c38, if_pos c65]) (by have e : sg_it (fun col s => sg_fstep x0 x1 i7 col s) (fa, fb) (i16 + 1) = sg_fstep x0 x1 i7 i16 (fu, fv) := (by show sg_fstep x0 x1 i7 i16 (sg_it (fun col s => sg_fstep x0 x1 i7 col s) (fa, fb) i16) = _; rw [show sg_it (fun col s => sg_fstep x0 x1 i7 col s) (fa, fb) i16 = (fu, fv) from Prod.ext hfu.symm hfv.symm]); rw [e]; simp only [sg_fstep, if_neg c29, if_neg c38, if_pos c65])
              · skip
                refine qr_iload C dX0_fewestCovers_68 0 rfl ?_
                refine qr_istore_n (lv' := [(2, (.int (sg_bc (sg_corners x1 (nI i7) (nI i16) &&& (x0 ^^^ (-1)))))), (7, (.int (sg_bc (sg_corners x1 (nI i7) (nI i16) &&& (x0 ^^^ (-1)))))), (6, (.int (sg_corners x1 (nI i7) (nI i16)))), (0, (.int x0)), (1, (.int x1)), (3, (.int fv)), (4, (.int (nI i7))), (5, (.int (nI i16)))]) C dX0_fewestCovers_70 rfl (by decide) rfl ?_
                refine qr_iload C dX0_fewestCovers_71 2 rfl ?_
                refine qr_istore_n (lv' := [(3, (.int (sg_corners x1 (nI i7) (nI i16)))), (2, (.int (sg_bc (sg_corners x1 (nI i7) (nI i16) &&& (x0 ^^^ (-1)))))), (7, (.int (sg_bc (sg_corners x1 (nI i7) (nI i16) &&& (x0 ^^^ (-1)))))), (6, (.int (sg_corners x1 (nI i7) (nI i16)))), (0, (.int x0)), (1, (.int x1)), (4, (.int (nI i7))), (5, (.int (nI i16)))]) C dX0_fewestCovers_73 rfl (by decide) rfl ?_
                refine qr_iinc (v := (nI (i16 + 1))) (lv' := [(5, (.int (nI (i16 + 1)))), (3, (.int (sg_corners x1 (nI i7) (nI i16)))), (2, (.int (sg_bc (sg_corners x1 (nI i7) (nI i16) &&& (x0 ^^^ (-1)))))), (7, (.int (sg_bc (sg_corners x1 (nI i7) (nI i16) &&& (x0 ^^^ (-1)))))), (6, (.int (sg_corners x1 (nI i7) (nI i16)))), (0, (.int x0)), (1, (.int x1)), (4, (.int (nI i7)))]) C dX0_fewestCovers_74 (w := 7) rfl (nI_1 _) (by decide) rfl ?_
                refine qr_goto (tgt := 16) C dX0_fewestCovers_77 (by decide) ?_
                refine qw_pick [5, 6, 2, 1, 7, 0] (lv' := [(0, (.int x0)), (1, (.int x1)), (2, (.int (sg_bc (sg_corners x1 (nI i7) (nI i16) &&& (x0 ^^^ (-1)))))), (3, (.int (sg_corners x1 (nI i7) (nI i16)))), (4, (.int (nI i7))), (5, (.int (nI (i16 + 1))))]) rfl ?_
                exact ih16 (i16 + 1) (sg_bc (sg_corners x1 (nI i7) (nI i16) &&& (x0 ^^^ (-1)))) (sg_corners x1 (nI i7) (nI i16)) (by omega) (by have e : sg_it (fun col s => sg_fstep x0 x1 i7 col s) (fa, fb) (i16 + 1) = sg_fstep x0 x1 i7 i16 (fu, fv) := (by show sg_fstep x0 x1 i7 i16 (sg_it (fun col s => sg_fstep x0 x1 i7 col s) (fa, fb) i16) = _; rw [show sg_it (fun col s => sg_fstep x0 x1 i7 col s) (fa, fb) i16 = (fu, fv) from Prod.ext hfu.symm hfv.symm]); rw [e]; simp only [sg_fstep, if_neg c29, if_neg c38, if_neg c65]) (by have e : sg_it (fun col s => sg_fstep x0 x1 i7 col s) (fa, fb) (i16 + 1) = sg_fstep x0 x1 i7 i16 (fu, fv) := (by show sg_fstep x0 x1 i7 i16 (sg_it (fun col s => sg_fstep x0 x1 i7 col s) (fa, fb) i16) = _; rw [show sg_it (fun col s => sg_fstep x0 x1 i7 col s) (fa, fb) i16 = (fu, fv) from Prod.ext hfu.symm hfv.symm]); rw [e]; simp only [sg_fstep, if_neg c29, if_neg c38, if_neg c65])
      refine qw_pick [1, 2, 3, 4, 5, 0] (lv' := [(0, (.int x0)), (1, (.int x1)), (2, (.int fa)), (3, (.int fb)), (4, (.int (nI i7))), (5, (.int (0 : Int32)))]) rfl ?_
      exact L16 (6) 0 fa fb (by omega) rfl rfl
  refine qw_pick [3, 4, 2, 1, 0] (lv' := [(0, (.int x0)), (1, (.int x1)), (2, (.int (4 : Int32))), (3, (.int (0 : Int32))), (4, (.int (0 : Int32)))]) rfl ?_
  exact L7 (5) 0 (4 : Int32) (0 : Int32) (by omega) rfl rfl
set_option maxHeartbeats 4000000 in
set_option maxRecDepth 100000 in
theorem k_X0_around {l : Launch} (hst : l.stackTraces = false) (D : va_G) (ad : Nat → Nat) (g : qw_G) (x0 : Int32) : qw_M l yX0_around [Cond.code yX0_around cX0_around 3 (some .int)] { frames := 2, cells := 0, slots := 0, locals := 60 } D ad g [(.int x0)] (qw_kp ad g (some (.int (sg_around x0)))) 0 0 := by
  refine qw_M.of (maxL := 3) (own := RX0) (lv := [(0, (.int x0))]) hst (by decide) rfl rfl (Nat.le_of_ble_eq_true rfl) ?_
  intro p e s m args below meth c A C hin
  refine qr_iload_n C dX0_around_0 rfl 0 rfl ?_
  refine qr_istore_n (lv' := [(1, (.int x0)), (0, (.int x0))]) C dX0_around_1 rfl (by decide) rfl ?_
  refine qr_iconst (v := 0) C dX0_around_2 (by decide) ?_
  refine qr_istore_n (lv' := [(2, (.int (0 : Int32))), (1, (.int x0)), (0, (.int x0))]) C dX0_around_3 rfl (by decide) rfl ?_
  have L4 : ∀ (j4 i4 : Nat) (h : Int32), i4 + j4 = 30 → h = sg_it (sg_astep x0) x0 i4 → qw_W p l e { frames := 2, cells := 0, slots := 0, locals := 60 } s m args below meth c D A 3 (MQ below (qw_Q (qw_kp ad g (some (.int (sg_around x0)))) D A) args s 0 0 A) 0 0 ad g 4 [(0, (.int x0)), (1, (.int h)), (2, (.int (nI i4)))] [] := by
    intro j4
    induction j4 with
    | zero =>
      intro i4 h hi4 hh
      obtain rfl : i4 = 30 := by omega
      refine qr_iload_n C dX0_around_4 rfl 2 rfl ?_
      refine qr_bipush (v := 30) C dX0_around_5 (by decide) ?_
      refine qr_icmp_ge_t C 40 dX0_around_7 (by decide) ((sg_le (30) (30) rfl rfl (by omega) (by omega)).mpr (Nat.le_refl _)) ?_
      refine qr_iload_n C dX0_around_40 rfl 1 rfl ?_
      exact qr_iret C rfl (Nat.zero_le _) (Nat.zero_le _) dX0_around_41 (qw_kpn hh.symm)
    | succ j4 ih4 =>
      intro i4 h hi4 hh
      refine qr_iload_n C dX0_around_4 rfl 2 rfl ?_
      refine qr_bipush (v := 30) C dX0_around_5 (by decide) ?_
      refine qr_icmp_ge_f C 40 dX0_around_7 (by decide) (fun z => absurd ((sg_le (30) (i4) rfl rfl (by omega) (by omega)).mp z) (by omega)) ?_
      refine qr_iload_n C dX0_around_10 rfl 0 rfl ?_
      refine qr_iload_n C dX0_around_11 rfl 2 rfl ?_
      refine qr_callNS C (na := 2) (As := [(.int x0), (.int (nI i4))]) (rest := []) (k_X6_contains hst D ad g x0 (nI i4)) gi_X0_9.1 gi_X0_9.2.1 gi_X0_9.2.2.1 gi_X0_9.2.2.2 ⟨by decide, by decide, by decide +kernel⟩ rfl rfl (Nat.le_of_ble_eq_true rfl) rfl rfl ⟨Nat.le_of_ble_eq_true rfl, Nat.le_of_ble_eq_true rfl⟩ ⟨Nat.le_of_ble_eq_true rfl, Nat.le_of_ble_eq_true rfl⟩ dX0_around_12 (fun v ad2 g2 hpo => ?_)
      obtain ⟨rfl, rfl, rfl⟩ := hpo
      refine qr_if_eq C 34 dX0_around_15 (by decide) (fun c15 => ?_) (fun c15 => ?_)
      · skip
        refine qr_iinc (v := (nI (i4 + 1))) (lv' := [(2, (.int (nI (i4 + 1)))), (0, (.int x0)), (1, (.int h))]) C dX0_around_34 (w := 2) rfl (nI_1 _) (by decide) rfl ?_
        refine qr_goto (tgt := 4) C dX0_around_37 (by decide) ?_
        refine qw_pick [1, 2, 0] (lv' := [(0, (.int x0)), (1, (.int h)), (2, (.int (nI (i4 + 1))))]) rfl ?_
        exact ih4 (i4 + 1) h (by omega) (by subst hh; show _ = sg_astep x0 i4 (sg_it (sg_astep x0) x0 i4); simp only [sg_astep, if_pos c15])
      · skip
        refine qr_iload_n C dX0_around_18 rfl 1 rfl ?_
        refine qr_iload_n C dX0_around_19 rfl 2 rfl ?_
        refine qr_callS C (na := 2) (As := [(.int h), (.int (nI i4))]) (rest := []) (k_X0_isOnRound hst D ad g h (nI i4)) gi_X0_13 ⟨by decide, by decide, by decide +kernel⟩ rfl rfl (Nat.le_of_ble_eq_true rfl) rfl rfl ⟨Nat.le_of_ble_eq_true rfl, Nat.le_of_ble_eq_true rfl⟩ ⟨Nat.le_of_ble_eq_true rfl, Nat.le_of_ble_eq_true rfl⟩ dX0_around_20 (fun v ad2 g2 hpo => ?_)
        obtain ⟨rfl, rfl, rfl⟩ := hpo
        refine qr_if_ne C 34 dX0_around_23 (by decide) (fun c23 => ?_) (fun c23 => ?_)
        · skip
          refine qr_iinc (v := (nI (i4 + 1))) (lv' := [(2, (.int (nI (i4 + 1)))), (0, (.int x0)), (1, (.int h))]) C dX0_around_34 (w := 2) rfl (nI_1 _) (by decide) rfl ?_
          refine qr_goto (tgt := 4) C dX0_around_37 (by decide) ?_
          refine qw_pick [1, 2, 0] (lv' := [(0, (.int x0)), (1, (.int h)), (2, (.int (nI (i4 + 1))))]) rfl ?_
          exact ih4 (i4 + 1) h (by omega) (by subst hh; show _ = sg_astep x0 i4 (sg_it (sg_astep x0) x0 i4); simp only [sg_astep, if_neg c15, if_neg c23])
        · skip
          refine qr_iload_n C dX0_around_26 rfl 1 rfl ?_
          refine qr_iload_n C dX0_around_27 rfl 1 rfl ?_
          refine qr_iload_n C dX0_around_28 rfl 2 rfl ?_
          refine qr_callS C (na := 2) (As := [(.int h), (.int (nI i4))]) (rest := [(.int h)]) (k_X0_fewestCovers hst D ad g h (nI i4)) gi_X0_18 ⟨by decide, by decide, by decide +kernel⟩ rfl rfl (Nat.le_of_ble_eq_true rfl) rfl rfl ⟨Nat.le_of_ble_eq_true rfl, Nat.le_of_ble_eq_true rfl⟩ ⟨Nat.le_of_ble_eq_true rfl, Nat.le_of_ble_eq_true rfl⟩ dX0_around_29 (fun v ad2 g2 hpo => ?_)
          obtain ⟨rfl, rfl, rfl⟩ := hpo
          refine qr_ior C dX0_around_32 ?_
          refine qr_istore_n (lv' := [(1, (.int (h ||| (sg_few h (nI i4)).2))), (0, (.int x0)), (2, (.int (nI i4)))]) C dX0_around_33 rfl (by decide) rfl ?_
          refine qr_iinc (v := (nI (i4 + 1))) (lv' := [(2, (.int (nI (i4 + 1)))), (1, (.int (h ||| (sg_few h (nI i4)).2))), (0, (.int x0))]) C dX0_around_34 (w := 2) rfl (nI_1 _) (by decide) rfl ?_
          refine qr_goto (tgt := 4) C dX0_around_37 (by decide) ?_
          refine qw_pick [2, 1, 0] (lv' := [(0, (.int x0)), (1, (.int (h ||| (sg_few h (nI i4)).2))), (2, (.int (nI (i4 + 1))))]) rfl ?_
          exact ih4 (i4 + 1) (h ||| (sg_few h (nI i4)).2) (by omega) (by subst hh; show _ = sg_astep x0 i4 (sg_it (sg_astep x0) x0 i4); simp only [sg_astep, if_neg c15, if_pos c23])
  refine qw_pick [2, 1, 0] (lv' := [(0, (.int x0)), (1, (.int x0)), (2, (.int (0 : Int32)))]) rfl ?_
  exact L4 (30) 0 x0 (by omega) rfl
end
section
def sm_in (x0 x1 x2 : Int32) : Int32 := (if x0 < x1 then (0 : Int32) else (if x2 < x0 then (0 : Int32) else (1 : Int32)))
set_option maxHeartbeats 4000000 in
set_option maxRecDepth 100000 in
theorem k_X7_in {l : Launch} (hst : l.stackTraces = false) (D : va_G) (ad : Nat → Nat) (g : qw_G) (x0 x1 x2 : Int32) : qw_M l yX7_in [Cond.code yX7_in cX7_in 3 (some .boolean)] { frames := 0, cells := 0, slots := 0, locals := 0 } D ad g [(.int x0), (.int x1), (.int x2)] (qw_kp ad g (some (.int (sm_in x0 x1 x2)))) 0 0 := by
  refine qw_M.of (maxL := 3) (own := RX7) (lv := [(0, (.int x0)), (1, (.int x1)), (2, (.int x2))]) hst (by decide) rfl rfl (Nat.le_of_ble_eq_true rfl) ?_
  intro p e s m args below meth c A C hin
  refine qr_iload_n C dX7_in_0 rfl 0 rfl ?_
  refine qr_iload_n C dX7_in_1 rfl 1 rfl ?_
  refine qr_icmp_lt C 14 dX7_in_2 (by decide) (fun c1 => ?_) (fun c1 => ?_)
  · skip
    refine qr_iconst (v := 0) C dX7_in_14 (by decide) ?_
    exact qr_zret C rfl (by decide) (Nat.zero_le _) (Nat.zero_le _) dX7_in_15 (qw_kpn (by simp only [sm_in, if_pos c1]))
  · skip
    refine qr_iload_n C dX7_in_5 rfl 0 rfl ?_
    refine qr_iload_n C dX7_in_6 rfl 2 rfl ?_
    refine qr_icmp_gt C 14 dX7_in_7 (by decide) (fun c2 => ?_) (fun c2 => ?_)
    · skip
      refine qr_iconst (v := 0) C dX7_in_14 (by decide) ?_
      exact qr_zret C rfl (by decide) (Nat.zero_le _) (Nat.zero_le _) dX7_in_15 (qw_kpn (by simp only [sm_in, if_neg c1, if_pos c2]))
    · skip
      refine qr_iconst (v := 1) C dX7_in_10 (by decide) ?_
      refine qr_goto (tgt := 15) C dX7_in_11 (by decide) ?_
      exact qr_zret C rfl (by decide) (Nat.zero_le _) (Nat.zero_le _) dX7_in_15 (qw_kpn (by simp only [sm_in, if_neg c1, if_neg c2]))
theorem sm_in01 (x0 x1 x2 : Int32) : sm_in x0 x1 x2 = 0 ∨ sm_in x0 x1 x2 = 1 := by unfold sm_in; by_cases h : x0 < x1 <;> by_cases h2 : x2 < x0 <;> simp [h, h2]
def sm_isT (x0 : Int32) : Int32 := (sm_in (x0) ((0 : Int32)) ((2 : Int32)))
set_option maxHeartbeats 4000000 in
set_option maxRecDepth 100000 in
theorem k_X7_isTable {l : Launch} (hst : l.stackTraces = false) (D : va_G) (ad : Nat → Nat) (g : qw_G) (x0 : Int32) : qw_M l yX7_isTable [Cond.code yX7_isTable cX7_isTable 1 (some .boolean)] { frames := 1, cells := 0, slots := 0, locals := 30 } D ad g [(.int x0)] (qw_kp ad g (some (.int (sm_isT x0)))) 0 0 := by
  refine qw_M.of (maxL := 1) (own := RX7) (lv := [(0, (.int x0))]) hst (by decide) rfl rfl (Nat.le_of_ble_eq_true rfl) ?_
  intro p e s m args below meth c A C hin
  refine qr_iload_n C dX7_isTable_0 rfl 0 rfl ?_
  refine qr_iconst (v := 0) C dX7_isTable_1 (by decide) ?_
  refine qr_iconst (v := 2) C dX7_isTable_2 (by decide) ?_
  refine qr_callS C (na := 3) (As := [(.int x0), (.int (0 : Int32)), (.int (2 : Int32))]) (rest := []) (k_X7_in hst D ad g (x0) ((0 : Int32)) ((2 : Int32))) gi_X7_57 ⟨by decide, by decide, by decide +kernel⟩ rfl rfl (Nat.le_of_ble_eq_true rfl) rfl rfl ⟨Nat.le_of_ble_eq_true rfl, Nat.le_of_ble_eq_true rfl⟩ ⟨Nat.le_of_ble_eq_true rfl, Nat.le_of_ble_eq_true rfl⟩ dX7_isTable_3 (fun v ad2 g2 hpo => ?_)
  obtain ⟨rfl, rfl, rfl⟩ := hpo
  exact qr_zret C rfl (sm_in01 _ _ _) (Nat.zero_le _) (Nat.zero_le _) dX7_isTable_6 (qw_kpn rfl)
def sm_isL (x0 : Int32) : Int32 := (sm_in (x0) ((0 : Int32)) ((3 : Int32)))
set_option maxHeartbeats 4000000 in
set_option maxRecDepth 100000 in
theorem k_X7_isLevel {l : Launch} (hst : l.stackTraces = false) (D : va_G) (ad : Nat → Nat) (g : qw_G) (x0 : Int32) : qw_M l yX7_isLevel [Cond.code yX7_isLevel cX7_isLevel 1 (some .boolean)] { frames := 1, cells := 0, slots := 0, locals := 30 } D ad g [(.int x0)] (qw_kp ad g (some (.int (sm_isL x0)))) 0 0 := by
  refine qw_M.of (maxL := 1) (own := RX7) (lv := [(0, (.int x0))]) hst (by decide) rfl rfl (Nat.le_of_ble_eq_true rfl) ?_
  intro p e s m args below meth c A C hin
  refine qr_iload_n C dX7_isLevel_0 rfl 0 rfl ?_
  refine qr_iconst (v := 0) C dX7_isLevel_1 (by decide) ?_
  refine qr_iconst (v := 3) C dX7_isLevel_2 (by decide) ?_
  refine qr_callS C (na := 3) (As := [(.int x0), (.int (0 : Int32)), (.int (3 : Int32))]) (rest := []) (k_X7_in hst D ad g (x0) ((0 : Int32)) ((3 : Int32))) gi_X7_57 ⟨by decide, by decide, by decide +kernel⟩ rfl rfl (Nat.le_of_ble_eq_true rfl) rfl rfl ⟨Nat.le_of_ble_eq_true rfl, Nat.le_of_ble_eq_true rfl⟩ ⟨Nat.le_of_ble_eq_true rfl, Nat.le_of_ble_eq_true rfl⟩ dX7_isLevel_3 (fun v ad2 g2 hpo => ?_)
  obtain ⟨rfl, rfl, rfl⟩ := hpo
  exact qr_zret C rfl (sm_in01 _ _ _) (Nat.zero_le _) (Nat.zero_le _) dX7_isLevel_6 (qw_kpn rfl)
def sm_isE (x0 x1 : Int32) : Int32 := (if (sm_in (x0) ((0 : Int32)) ((4 : Int32))) = 0 then (0 : Int32) else (if (sm_in (x1) ((0 : Int32)) ((5 : Int32))) = 0 then (0 : Int32) else (1 : Int32)))
set_option maxHeartbeats 4000000 in
set_option maxRecDepth 100000 in
theorem k_X7_isEntry {l : Launch} (hst : l.stackTraces = false) (D : va_G) (ad : Nat → Nat) (g : qw_G) (x0 x1 : Int32) : qw_M l yX7_isEntry [Cond.code yX7_isEntry cX7_isEntry 2 (some .boolean)] { frames := 1, cells := 0, slots := 0, locals := 30 } D ad g [(.int x0), (.int x1)] (qw_kp ad g (some (.int (sm_isE x0 x1)))) 0 0 := by
  refine qw_M.of (maxL := 2) (own := RX7) (lv := [(0, (.int x0)), (1, (.int x1))]) hst (by decide) rfl rfl (Nat.le_of_ble_eq_true rfl) ?_
  intro p e s m args below meth c A C hin
  refine qr_iload_n C dX7_isEntry_0 rfl 0 rfl ?_
  refine qr_iconst (v := 0) C dX7_isEntry_1 (by decide) ?_
  refine qr_iconst (v := 4) C dX7_isEntry_2 (by decide) ?_
  refine qr_callS C (na := 3) (As := [(.int x0), (.int (0 : Int32)), (.int (4 : Int32))]) (rest := []) (k_X7_in hst D ad g (x0) ((0 : Int32)) ((4 : Int32))) gi_X7_57 ⟨by decide, by decide, by decide +kernel⟩ rfl rfl (Nat.le_of_ble_eq_true rfl) rfl rfl ⟨Nat.le_of_ble_eq_true rfl, Nat.le_of_ble_eq_true rfl⟩ ⟨Nat.le_of_ble_eq_true rfl, Nat.le_of_ble_eq_true rfl⟩ dX7_isEntry_3 (fun v ad2 g2 hpo => ?_)
  obtain ⟨rfl, rfl, rfl⟩ := hpo
  refine qr_if_eq C 22 dX7_isEntry_6 (by decide) (fun c1 => ?_) (fun c1 => ?_)
  · skip
    refine qr_iconst (v := 0) C dX7_isEntry_22 (by decide) ?_
    exact qr_zret C rfl (by decide) (Nat.zero_le _) (Nat.zero_le _) dX7_isEntry_23 (qw_kpn (by simp only [sm_isE, if_pos c1]))
  · skip
    refine qr_iload_n C dX7_isEntry_9 rfl 1 rfl ?_
    refine qr_iconst (v := 0) C dX7_isEntry_10 (by decide) ?_
    refine qr_iconst (v := 5) C dX7_isEntry_11 (by decide) ?_
    refine qr_callS C (na := 3) (As := [(.int x1), (.int (0 : Int32)), (.int (5 : Int32))]) (rest := []) (k_X7_in hst D ad g (x1) ((0 : Int32)) ((5 : Int32))) gi_X7_57 ⟨by decide, by decide, by decide +kernel⟩ rfl rfl (Nat.le_of_ble_eq_true rfl) rfl rfl ⟨Nat.le_of_ble_eq_true rfl, Nat.le_of_ble_eq_true rfl⟩ ⟨Nat.le_of_ble_eq_true rfl, Nat.le_of_ble_eq_true rfl⟩ dX7_isEntry_12 (fun v ad2 g2 hpo => ?_)
    obtain ⟨rfl, rfl, rfl⟩ := hpo
    refine qr_if_eq C 22 dX7_isEntry_15 (by decide) (fun c2 => ?_) (fun c2 => ?_)
    · skip
      refine qr_iconst (v := 0) C dX7_isEntry_22 (by decide) ?_
      exact qr_zret C rfl (by decide) (Nat.zero_le _) (Nat.zero_le _) dX7_isEntry_23 (qw_kpn (by simp only [sm_isE, if_neg c1, if_pos c2]))
    · skip
      refine qr_iconst (v := 1) C dX7_isEntry_18 (by decide) ?_
      refine qr_goto (tgt := 23) C dX7_isEntry_19 (by decide) ?_
      exact qr_zret C rfl (by decide) (Nat.zero_le _) (Nat.zero_le _) dX7_isEntry_23 (qw_kpn (by simp only [sm_isE, if_neg c1, if_neg c2]))
def sm_both (x0 x1 : Int32) : Int32 := (if (sm_isT (x0)) = 0 then (0 : Int32) else (if (sm_isL (x1)) = 0 then (0 : Int32) else (1 : Int32)))
set_option maxHeartbeats 4000000 in
set_option maxRecDepth 100000 in
theorem k_X7_areBoth {l : Launch} (hst : l.stackTraces = false) (D : va_G) (ad : Nat → Nat) (g : qw_G) (x0 x1 : Int32) : qw_M l yX7_areBoth [Cond.code yX7_areBoth cX7_areBoth 2 (some .boolean)] { frames := 2, cells := 0, slots := 0, locals := 60 } D ad g [(.int x0), (.int x1)] (qw_kp ad g (some (.int (sm_both x0 x1)))) 0 0 := by
  refine qw_M.of (maxL := 2) (own := RX7) (lv := [(0, (.int x0)), (1, (.int x1))]) hst (by decide) rfl rfl (Nat.le_of_ble_eq_true rfl) ?_
  intro p e s m args below meth c A C hin
  refine qr_iload_n C dX7_areBoth_0 rfl 0 rfl ?_
  refine qr_callS C (na := 1) (As := [(.int x0)]) (rest := []) (k_X7_isTable hst D ad g (x0)) gi_X7_61 ⟨by decide, by decide, by decide +kernel⟩ rfl rfl (Nat.le_of_ble_eq_true rfl) rfl rfl ⟨Nat.le_of_ble_eq_true rfl, Nat.le_of_ble_eq_true rfl⟩ ⟨Nat.le_of_ble_eq_true rfl, Nat.le_of_ble_eq_true rfl⟩ dX7_areBoth_1 (fun v ad2 g2 hpo => ?_)
  obtain ⟨rfl, rfl, rfl⟩ := hpo
  refine qr_if_eq C 18 dX7_areBoth_4 (by decide) (fun c1 => ?_) (fun c1 => ?_)
  · skip
    refine qr_iconst (v := 0) C dX7_areBoth_18 (by decide) ?_
    exact qr_zret C rfl (by decide) (Nat.zero_le _) (Nat.zero_le _) dX7_areBoth_19 (qw_kpn (by simp only [sm_both, if_pos c1]))
  · skip
    refine qr_iload_n C dX7_areBoth_7 rfl 1 rfl ?_
    refine qr_callS C (na := 1) (As := [(.int x1)]) (rest := []) (k_X7_isLevel hst D ad g (x1)) gi_X7_101 ⟨by decide, by decide, by decide +kernel⟩ rfl rfl (Nat.le_of_ble_eq_true rfl) rfl rfl ⟨Nat.le_of_ble_eq_true rfl, Nat.le_of_ble_eq_true rfl⟩ ⟨Nat.le_of_ble_eq_true rfl, Nat.le_of_ble_eq_true rfl⟩ dX7_areBoth_8 (fun v ad2 g2 hpo => ?_)
    obtain ⟨rfl, rfl, rfl⟩ := hpo
    refine qr_if_eq C 18 dX7_areBoth_11 (by decide) (fun c2 => ?_) (fun c2 => ?_)
    · skip
      refine qr_iconst (v := 0) C dX7_areBoth_18 (by decide) ?_
      exact qr_zret C rfl (by decide) (Nat.zero_le _) (Nat.zero_le _) dX7_areBoth_19 (qw_kpn (by simp only [sm_both, if_neg c1, if_pos c2]))
    · skip
      refine qr_iconst (v := 1) C dX7_areBoth_14 (by decide) ?_
      refine qr_goto (tgt := 19) C dX7_areBoth_15 (by decide) ?_
      exact qr_zret C rfl (by decide) (Nat.zero_le _) (Nat.zero_le _) dX7_areBoth_19 (qw_kpn (by simp only [sm_both, if_neg c1, if_neg c2]))
def sm_cov (x0 x1 x2 : Int32) : Int32 := ((((1 : Int32) <<< ((((6 : Int32) * (x0 / (6 : Int32))) + x2) &&& 31)) ||| ((1 : Int32) <<< ((((6 : Int32) * x1) + (x0 - x0 / (6 : Int32) * (6 : Int32))) &&& 31))) ||| ((1 : Int32) <<< ((((6 : Int32) * x1) + x2) &&& 31)))
set_option maxHeartbeats 4000000 in
set_option maxRecDepth 100000 in
theorem k_X7_covers {l : Launch} (hst : l.stackTraces = false) (D : va_G) (ad : Nat → Nat) (g : qw_G) (x0 x1 x2 : Int32) : qw_M l yX7_covers [Cond.code yX7_covers cX7_covers 3 (some .int)] { frames := 0, cells := 0, slots := 0, locals := 0 } D ad g [(.int x0), (.int x1), (.int x2)] (qw_kp ad g (some (.int (sm_cov x0 x1 x2)))) 0 0 := by
  refine qw_M.of (maxL := 3) (own := RX7) (lv := [(0, (.int x0)), (1, (.int x1)), (2, (.int x2))]) hst (by decide) rfl rfl (Nat.le_of_ble_eq_true rfl) ?_
  intro p e s m args below meth c A C hin
  refine qr_iconst (v := 1) C dX7_covers_0 (by decide) ?_
  refine qr_bipush (v := 6) C dX7_covers_1 (by decide) ?_
  refine qr_iload_n C dX7_covers_3 rfl 0 rfl ?_
  refine qr_bipush (v := 6) C dX7_covers_4 (by decide) ?_
  refine qr_idiv C dX7_covers_6 (by decide) ?_
  refine qr_imul C dX7_covers_7 ?_
  refine qr_iload_n C dX7_covers_8 rfl 2 rfl ?_
  refine qr_iadd C dX7_covers_9 ?_
  refine qr_ishl C dX7_covers_10 ?_
  refine qr_iconst (v := 1) C dX7_covers_11 (by decide) ?_
  refine qr_bipush (v := 6) C dX7_covers_12 (by decide) ?_
  refine qr_iload_n C dX7_covers_14 rfl 1 rfl ?_
  refine qr_imul C dX7_covers_15 ?_
  refine qr_iload_n C dX7_covers_16 rfl 0 rfl ?_
  refine qr_bipush (v := 6) C dX7_covers_17 (by decide) ?_
  refine qr_irem C dX7_covers_19 (by decide) ?_
  refine qr_iadd C dX7_covers_20 ?_
  refine qr_ishl C dX7_covers_21 ?_
  refine qr_ior C dX7_covers_22 ?_
  refine qr_iconst (v := 1) C dX7_covers_23 (by decide) ?_
  refine qr_bipush (v := 6) C dX7_covers_24 (by decide) ?_
  refine qr_iload_n C dX7_covers_26 rfl 1 rfl ?_
  refine qr_imul C dX7_covers_27 ?_
  refine qr_iload_n C dX7_covers_28 rfl 2 rfl ?_
  refine qr_iadd C dX7_covers_29 ?_
  refine qr_ishl C dX7_covers_30 ?_
  refine qr_ior C dX7_covers_31 ?_
  exact qr_iret C rfl (Nat.zero_le _) (Nat.zero_le _) dX7_covers_32 (qw_kpn rfl)
def sm_bit (s k : Int32) : Int32 := (s >>> (k &&& 31)) &&& 1
def sm_bits (s : Int32) : Int32 := sg_it (fun k n => n + sm_bit s (nI k)) 0 30
set_option maxHeartbeats 4000000 in
set_option maxRecDepth 100000 in
theorem k_X7_bits {l : Launch} (hst : l.stackTraces = false) (D : va_G) (ad : Nat → Nat) (g : qw_G) (x0 : Int32) : qw_M l yX7_bits [Cond.code yX7_bits cX7_bits 3 (some .int)] { frames := 0, cells := 0, slots := 0, locals := 0 } D ad g [(.int x0)] (qw_kp ad g (some (.int (sm_bits x0)))) 0 0 := by
  refine qw_M.of (maxL := 3) (own := RX7) (lv := [(0, (.int x0))]) hst (by decide) rfl rfl (Nat.le_of_ble_eq_true rfl) ?_
  intro p e s m args below meth c A C hin
  refine qr_iconst (v := 0) C dX7_bits_0 (by decide) ?_
  refine qr_istore_n (lv' := [(1, (.int (0 : Int32))), (0, (.int x0))]) C dX7_bits_1 rfl (by decide) rfl ?_
  refine qr_iconst (v := 0) C dX7_bits_2 (by decide) ?_
  refine qr_istore_n (lv' := [(2, (.int (0 : Int32))), (1, (.int (0 : Int32))), (0, (.int x0))]) C dX7_bits_3 rfl (by decide) rfl ?_
  have L4 : ∀ (j4 i4 : Nat) (h : Int32), i4 + j4 = 30 → h = sg_it (fun k n => n + sm_bit x0 (nI k)) 0 i4 → qw_W p l e { frames := 0, cells := 0, slots := 0, locals := 0 } s m args below meth c D A 3 (MQ below (qw_Q (qw_kp ad g (some (.int (sm_bits x0)))) D A) args s 0 0 A) 0 0 ad g 4 [(0, (.int x0)), (1, (.int h)), (2, (.int (nI i4)))] [] := by
    intro j4
    induction j4 with
    | zero =>
      intro i4 h hi4 hh
      obtain rfl : i4 = 30 := by omega
      refine qr_iload_n C dX7_bits_4 rfl 2 rfl ?_
      refine qr_bipush (v := 30) C dX7_bits_5 (by decide) ?_
      refine qr_icmp_ge_t C 24 dX7_bits_7 (by decide) ((sg_le (30) (30) rfl rfl (by omega) (by omega)).mpr (Nat.le_refl _)) ?_
      refine qr_iload_n C dX7_bits_24 rfl 1 rfl ?_
      exact qr_iret C rfl (Nat.zero_le _) (Nat.zero_le _) dX7_bits_25 (qw_kpn hh.symm)
    | succ j4 ih4 =>
      intro i4 h hi4 hh
      refine qr_iload_n C dX7_bits_4 rfl 2 rfl ?_
      refine qr_bipush (v := 30) C dX7_bits_5 (by decide) ?_
      refine qr_icmp_ge_f C 24 dX7_bits_7 (by decide) (fun z => absurd ((sg_le (30) (i4) rfl rfl (by omega) (by omega)).mp z) (by omega)) ?_
      refine qr_iload_n C dX7_bits_10 rfl 1 rfl ?_
      refine qr_iload_n C dX7_bits_11 rfl 0 rfl ?_
      refine qr_iload_n C dX7_bits_12 rfl 2 rfl ?_
      refine qr_ishr C dX7_bits_13 ?_
      refine qr_iconst (v := 1) C dX7_bits_14 (by decide) ?_
      refine qr_iand C dX7_bits_15 ?_
      refine qr_iadd C dX7_bits_16 ?_
      refine qr_istore_n (lv' := [(1, (.int (h + ((x0 >>> ((nI i4) &&& 31)) &&& (1 : Int32))))), (0, (.int x0)), (2, (.int (nI i4)))]) C dX7_bits_17 rfl (by decide) rfl ?_
      refine qr_iinc (v := (nI (i4 + 1))) (lv' := [(2, (.int (nI (i4 + 1)))), (1, (.int (h + ((x0 >>> ((nI i4) &&& 31)) &&& (1 : Int32))))), (0, (.int x0))]) C dX7_bits_18 (w := 2) rfl (nI_1 _) (by decide) rfl ?_
      refine qr_goto (tgt := 4) C dX7_bits_21 (by decide) ?_
      refine qw_pick [2, 1, 0] (lv' := [(0, (.int x0)), (1, (.int (h + ((x0 >>> ((nI i4) &&& 31)) &&& (1 : Int32))))), (2, (.int (nI (i4 + 1))))]) rfl ?_
      exact ih4 (i4 + 1) (h + ((x0 >>> ((nI i4) &&& 31)) &&& (1 : Int32))) (by omega) (by subst hh; rfl)
  refine qw_pick [2, 1, 0] (lv' := [(0, (.int x0)), (1, (.int (0 : Int32))), (2, (.int (0 : Int32)))]) rfl ?_
  exact L4 (30) 0 (0 : Int32) (by omega) rfl
/-- one entry of a round of isFound: (rows, columns) -/
def sm_is (oth : Int32) (k : Nat) : Int32 := if sm_bit oth (nI k) = 1 then 1 else 0
def sm_hs (s : Int32 × Int32) (k : Nat) : Int32 := if sm_bit s.1 (nI k / 6) = 1 then 1 else if sm_bit s.2 (nI k - nI k / 6 * 6) = 1 then 1 else 0
def sm_fst (oth : Int32) (k : Nat) (s : Int32 × Int32) : Int32 × Int32 :=
  (s.1 ||| (if sm_is oth k = 0 then (0 : Int32) else if sm_hs s k = 0 then 0 else 1 <<< ((nI k / 6) &&& 31) : Int32), s.2 ||| (if sm_is oth k = 0 then (0 : Int32) else if sm_hs s k = 0 then 0 else 1 <<< ((nI k - nI k / 6 * 6) &&& 31) : Int32))
def sm_frd (oth : Int32) (s : Int32 × Int32) : Int32 × Int32 := sg_it (sm_fst oth) s 30
def sm_frs (h e : Int32) : Int32 × Int32 := sg_it (fun _ s => sm_frd (sg_oth h e) s) (1 <<< ((e / 6) &&& 31), 0) 11
def sm_found (h e : Int32) : Int32 := if sm_bit (sm_frs h e).2 (e - e / 6 * 6) = 0 then 1 else 0
theorem sm_found01 (h e : Int32) : sm_found h e = 0 ∨ sm_found h e = 1 := by unfold sm_found; by_cases q : sm_bit (sm_frs h e).2 (e - e / 6 * 6) = 0 <;> simp [q]
set_option maxHeartbeats 4000000 in
set_option maxRecDepth 100000 in
theorem k_X7_isFound {l : Launch} (hst : l.stackTraces = false) (D : va_G) (ad : Nat → Nat) (g : qw_G) (x0 x1 : Int32) : qw_M l yX7_isFound [Cond.code yX7_isFound cX7_isFound 9 (some .boolean)] { frames := 0, cells := 0, slots := 0, locals := 0 } D ad g [(.int x0), (.int x1)] (qw_kp ad g (some (.int (sm_found x0 x1)))) 0 0 := by
  refine qw_M.of (maxL := 9) (own := RX7) (lv := [(0, (.int x0)), (1, (.int x1))]) hst (by decide) rfl rfl (Nat.le_of_ble_eq_true rfl) ?_
  intro p e s m args below meth c A C hin
  refine qr_iload_n C dX7_isFound_0 rfl 0 rfl ?_
  refine qr_iconst (v := 1) C dX7_isFound_1 (by decide) ?_
  refine qr_iload_n C dX7_isFound_2 rfl 1 rfl ?_
  refine qr_ishl C dX7_isFound_3 ?_
  refine qr_iconst (v := -1) C dX7_isFound_4 (by decide) ?_
  refine qr_ixor C dX7_isFound_5 ?_
  refine qr_iand C dX7_isFound_6 ?_
  refine qr_istore_n (lv' := [(2, (.int (x0 &&& (((1 : Int32) <<< (x1 &&& 31)) ^^^ (-1 : Int32))))), (0, (.int x0)), (1, (.int x1))]) C dX7_isFound_7 rfl (by decide) rfl ?_
  refine qr_iconst (v := 1) C dX7_isFound_8 (by decide) ?_
  refine qr_iload_n C dX7_isFound_9 rfl 2 rfl ?_
  refine qr_bipush (v := 6) C dX7_isFound_10 (by decide) ?_
  refine qr_idiv C dX7_isFound_12 (by decide) ?_
  refine qr_ishl C dX7_isFound_13 ?_
  refine qr_istore_n (lv' := [(3, (.int ((1 : Int32) <<< ((x1 / (6 : Int32)) &&& 31)))), (2, (.int (x0 &&& (((1 : Int32) <<< (x1 &&& 31)) ^^^ (-1 : Int32))))), (0, (.int x0)), (1, (.int x1))]) C dX7_isFound_14 rfl (by decide) rfl ?_
  refine qr_iconst (v := 0) C dX7_isFound_15 (by decide) ?_
  refine qr_istore (lv' := [(4, (.int (0 : Int32))), (3, (.int ((1 : Int32) <<< ((x1 / (6 : Int32)) &&& 31)))), (2, (.int (x0 &&& (((1 : Int32) <<< (x1 &&& 31)) ^^^ (-1 : Int32))))), (0, (.int x0)), (1, (.int x1))]) C dX7_isFound_16 (by decide) rfl ?_
  refine qr_iconst (v := 0) C dX7_isFound_18 (by decide) ?_
  refine qr_istore (lv' := [(5, (.int (0 : Int32))), (4, (.int (0 : Int32))), (3, (.int ((1 : Int32) <<< ((x1 / (6 : Int32)) &&& 31)))), (2, (.int (x0 &&& (((1 : Int32) <<< (x1 &&& 31)) ^^^ (-1 : Int32))))), (0, (.int x0)), (1, (.int x1))]) C dX7_isFound_19 (by decide) rfl ?_
  have L21 : ∀ (j21 i21 : Nat) (fa : Int32) (fb : Int32), i21 + j21 = 11 → fa = (sg_it (fun _ s => sm_frd (sg_oth x0 x1) s) (1 <<< ((x1 / 6) &&& 31), 0) i21).1 → fb = (sg_it (fun _ s => sm_frd (sg_oth x0 x1) s) (1 <<< ((x1 / 6) &&& 31), 0) i21).2 → qw_W p l e { frames := 0, cells := 0, slots := 0, locals := 0 } s m args below meth c D A 9 (MQ below (qw_Q (qw_kp ad g (some (.int (sm_found x0 x1)))) D A) args s 0 0 A) 0 0 ad g 21 [(0, (.int x0)), (1, (.int x1)), (2, (.int (x0 &&& (((1 : Int32) <<< (x1 &&& 31)) ^^^ (-1 : Int32))))), (3, (.int fa)), (4, (.int fb)), (5, (.int (nI i21)))] [] := by
    intro j21
    induction j21 with
    | zero =>
      intro i21 fa fb hi21 hfa hfb
      obtain rfl : i21 = 11 := by omega
      refine qr_iload C dX7_isFound_21 5 rfl ?_
      refine qr_bipush (v := 11) C dX7_isFound_23 (by decide) ?_
      refine qr_icmp_ge_t C 151 dX7_isFound_25 (by decide) ((sg_le (11) (11) rfl rfl (by omega) (by omega)).mpr (Nat.le_refl _)) ?_
      refine qr_iload C dX7_isFound_151 4 rfl ?_
      refine qr_iload_n C dX7_isFound_153 rfl 1 rfl ?_
      refine qr_bipush (v := 6) C dX7_isFound_154 (by decide) ?_
      refine qr_irem C dX7_isFound_156 (by decide) ?_
      refine qr_ishr C dX7_isFound_157 ?_
      refine qr_iconst (v := 1) C dX7_isFound_158 (by decide) ?_
      refine qr_iand C dX7_isFound_159 ?_
      refine qr_if_ne C 167 dX7_isFound_160 (by decide) (fun c1 => ?_) (fun c1 => ?_)
      · skip
        refine qr_iconst (v := 0) C dX7_isFound_167 (by decide) ?_
        exact qr_zret C rfl (by decide) (Nat.zero_le _) (Nat.zero_le _) dX7_isFound_168 (qw_kpn (by have e : sm_frs x0 x1 = (fa, fb) := Prod.ext hfa.symm hfb.symm; simp only [sm_found, e]; exact if_neg c1))
      · skip
        refine qr_iconst (v := 1) C dX7_isFound_163 (by decide) ?_
        refine qr_goto (tgt := 168) C dX7_isFound_164 (by decide) ?_
        exact qr_zret C rfl (by decide) (Nat.zero_le _) (Nat.zero_le _) dX7_isFound_168 (qw_kpn (by have e : sm_frs x0 x1 = (fa, fb) := Prod.ext hfa.symm hfb.symm; simp only [sm_found, e]; exact if_pos c1))
    | succ j21 ih21 =>
      intro i21 fa fb hi21 hfa hfb
      refine qr_iload C dX7_isFound_21 5 rfl ?_
      refine qr_bipush (v := 11) C dX7_isFound_23 (by decide) ?_
      refine qr_icmp_ge_f C 151 dX7_isFound_25 (by decide) (fun z => absurd ((sg_le (11) (i21) rfl rfl (by omega) (by omega)).mp z) (by omega)) ?_
      refine qr_iconst (v := 0) C dX7_isFound_28 (by decide) ?_
      refine qr_istore (lv' := [(6, (.int (0 : Int32))), (0, (.int x0)), (1, (.int x1)), (2, (.int (x0 &&& (((1 : Int32) <<< (x1 &&& 31)) ^^^ (-1 : Int32))))), (3, (.int fa)), (4, (.int fb)), (5, (.int (nI i21)))]) C dX7_isFound_29 (by decide) rfl ?_
      have L31 : ∀ (j31 i31 : Nat) (fu : Int32) (fv : Int32), i31 + j31 = 30 → fu = (sg_it (sm_fst (sg_oth x0 x1)) (fa, fb) i31).1 → fv = (sg_it (sm_fst (sg_oth x0 x1)) (fa, fb) i31).2 → qw_W p l e { frames := 0, cells := 0, slots := 0, locals := 0 } s m args below meth c D A 9 (MQ below (qw_Q (qw_kp ad g (some (.int (sm_found x0 x1)))) D A) args s 0 0 A) 0 0 ad g 31 [(0, (.int x0)), (1, (.int x1)), (2, (.int (x0 &&& (((1 : Int32) <<< (x1 &&& 31)) ^^^ (-1 : Int32))))), (3, (.int fu)), (4, (.int fv)), (5, (.int (nI i21))), (6, (.int (nI i31)))] [] := by
        intro j31
        induction j31 with
        | zero =>
          intro i31 fu fv hi31 hfu hfv
          obtain rfl : i31 = 30 := by omega
          refine qr_iload C dX7_isFound_31 6 rfl ?_
          refine qr_bipush (v := 30) C dX7_isFound_33 (by decide) ?_
          refine qr_icmp_ge_t C 145 dX7_isFound_35 (by decide) ((sg_le (30) (30) rfl rfl (by omega) (by omega)).mpr (Nat.le_refl _)) ?_
          refine qr_iinc (v := (nI (i21 + 1))) (lv' := [(5, (.int (nI (i21 + 1)))), (0, (.int x0)), (1, (.int x1)), (2, (.int (x0 &&& (((1 : Int32) <<< (x1 &&& 31)) ^^^ (-1 : Int32))))), (3, (.int fu)), (4, (.int fv)), (6, (.int (nI (30))))]) C dX7_isFound_145 (w := 5) rfl (nI_1 _) (by decide) rfl ?_
          refine qr_goto (tgt := 21) C dX7_isFound_148 (by decide) ?_
          refine qw_pick [1, 2, 3, 4, 5, 0] (lv' := [(0, (.int x0)), (1, (.int x1)), (2, (.int (x0 &&& (((1 : Int32) <<< (x1 &&& 31)) ^^^ (-1 : Int32))))), (3, (.int fu)), (4, (.int fv)), (5, (.int (nI (i21 + 1))))]) rfl ?_
          exact ih21 (i21 + 1) fu fv (by omega) (by show fu = (sg_it (sm_fst (sg_oth x0 x1)) (sg_it (fun _ s => sm_frd (sg_oth x0 x1) s) (1 <<< ((x1 / 6) &&& 31), 0) i21) 30).1; rw [show sg_it (fun _ s => sm_frd (sg_oth x0 x1) s) (1 <<< ((x1 / 6) &&& 31), 0) i21 = (fa, fb) from Prod.ext hfa.symm hfb.symm]; exact hfu) (by show fv = (sg_it (sm_fst (sg_oth x0 x1)) (sg_it (fun _ s => sm_frd (sg_oth x0 x1) s) (1 <<< ((x1 / 6) &&& 31), 0) i21) 30).2; rw [show sg_it (fun _ s => sm_frd (sg_oth x0 x1) s) (1 <<< ((x1 / 6) &&& 31), 0) i21 = (fa, fb) from Prod.ext hfa.symm hfb.symm]; exact hfv)
        | succ j31 ih31 =>
          intro i31 fu fv hi31 hfu hfv
          refine qr_iload C dX7_isFound_31 6 rfl ?_
          refine qr_bipush (v := 30) C dX7_isFound_33 (by decide) ?_
          refine qr_icmp_ge_f C 145 dX7_isFound_35 (by decide) (fun z => absurd ((sg_le (30) (i31) rfl rfl (by omega) (by omega)).mp z) (by omega)) ?_
          have M38_1 : ∀ b38 : Int32, b38 = (if (((x0 &&& (((1 : Int32) <<< (x1 &&& 31)) ^^^ (-1 : Int32))) >>> ((nI i31) &&& 31)) &&& (1 : Int32)) = (1 : Int32) then (1 : Int32) else (0 : Int32)) → qw_W p l e { frames := 0, cells := 0, slots := 0, locals := 0 } s m args below meth c D A 9 (MQ below (qw_Q (qw_kp ad g (some (.int (sm_found x0 x1)))) D A) args s 0 0 A) 0 0 ad g 53 [(0, (.int x0)), (1, (.int x1)), (2, (.int (x0 &&& (((1 : Int32) <<< (x1 &&& 31)) ^^^ (-1 : Int32))))), (3, (.int fu)), (4, (.int fv)), (5, (.int (nI i21))), (6, (.int (nI i31)))] [(.int b38)] := by
            intro b38 hb38
            refine qr_istore (lv' := [(7, (.int b38)), (0, (.int x0)), (1, (.int x1)), (2, (.int (x0 &&& (((1 : Int32) <<< (x1 &&& 31)) ^^^ (-1 : Int32))))), (3, (.int fu)), (4, (.int fv)), (5, (.int (nI i21))), (6, (.int (nI i31)))]) C dX7_isFound_53 (by decide) rfl ?_
            have M55_2 : ∀ b55 : Int32, b55 = (if ((fu >>> (((nI i31) / (6 : Int32)) &&& 31)) &&& (1 : Int32)) = (1 : Int32) then (1 : Int32) else (if ((fv >>> (((nI i31) - (nI i31) / (6 : Int32) * (6 : Int32)) &&& 31)) &&& (1 : Int32)) = (1 : Int32) then (1 : Int32) else (0 : Int32))) → qw_W p l e { frames := 0, cells := 0, slots := 0, locals := 0 } s m args below meth c D A 9 (MQ below (qw_Q (qw_kp ad g (some (.int (sm_found x0 x1)))) D A) args s 0 0 A) 0 0 ad g 87 [(7, (.int b38)), (0, (.int x0)), (1, (.int x1)), (2, (.int (x0 &&& (((1 : Int32) <<< (x1 &&& 31)) ^^^ (-1 : Int32))))), (3, (.int fu)), (4, (.int fv)), (5, (.int (nI i21))), (6, (.int (nI i31)))] [(.int b55)] := by
              intro b55 hb55
              refine qr_istore (lv' := [(8, (.int b55)), (7, (.int b38)), (0, (.int x0)), (1, (.int x1)), (2, (.int (x0 &&& (((1 : Int32) <<< (x1 &&& 31)) ^^^ (-1 : Int32))))), (3, (.int fu)), (4, (.int fv)), (5, (.int (nI i21))), (6, (.int (nI i31)))]) C dX7_isFound_87 (by decide) rfl ?_
              refine qr_iload_n C dX7_isFound_89 rfl 5 rfl ?_
              have M90_3 : ∀ hrw0 : Int32, hrw0 = (if b38 = 0 then (0 : Int32) else (if b55 = 0 then (0 : Int32) else ((1 : Int32) <<< (((nI i31) / (6 : Int32)) &&& 31)))) → qw_W p l e { frames := 0, cells := 0, slots := 0, locals := 0 } s m args below meth c D A 9 (MQ below (qw_Q (qw_kp ad g (some (.int (sm_found x0 x1)))) D A) args s 0 0 A) 0 0 ad g 111 [(8, (.int b55)), (7, (.int b38)), (0, (.int x0)), (1, (.int x1)), (2, (.int (x0 &&& (((1 : Int32) <<< (x1 &&& 31)) ^^^ (-1 : Int32))))), (3, (.int fu)), (4, (.int fv)), (5, (.int (nI i21))), (6, (.int (nI i31)))] [(.int hrw0), (.int fu)] := by
                intro hrw0 hhrw0
                have hrw := hhrw0
                refine qr_ior C dX7_isFound_111 ?_
                refine qr_istore_n (lv' := [(3, (.int (fu ||| hrw0))), (8, (.int b55)), (7, (.int b38)), (0, (.int x0)), (1, (.int x1)), (2, (.int (x0 &&& (((1 : Int32) <<< (x1 &&& 31)) ^^^ (-1 : Int32))))), (4, (.int fv)), (5, (.int (nI i21))), (6, (.int (nI i31)))]) C dX7_isFound_112 rfl (by decide) rfl ?_
                refine qr_iload C dX7_isFound_113 6 rfl ?_
                have M115_4 : ∀ hcl0 : Int32, hcl0 = (if b38 = 0 then (0 : Int32) else (if b55 = 0 then (0 : Int32) else ((1 : Int32) <<< (((nI i31) - (nI i31) / (6 : Int32) * (6 : Int32)) &&& 31)))) → qw_W p l e { frames := 0, cells := 0, slots := 0, locals := 0 } s m args below meth c D A 9 (MQ below (qw_Q (qw_kp ad g (some (.int (sm_found x0 x1)))) D A) args s 0 0 A) 0 0 ad g 136 [(3, (.int (fu ||| hrw0))), (8, (.int b55)), (7, (.int b38)), (0, (.int x0)), (1, (.int x1)), (2, (.int (x0 &&& (((1 : Int32) <<< (x1 &&& 31)) ^^^ (-1 : Int32))))), (4, (.int fv)), (5, (.int (nI i21))), (6, (.int (nI i31)))] [(.int hcl0), (.int fv)] := by
                  intro hcl0 hhcl0
                  have hcl := hhcl0
                  refine qr_ior C dX7_isFound_136 ?_
                  refine qr_istore (lv' := [(4, (.int (fv ||| hcl0))), (3, (.int (fu ||| hrw0))), (8, (.int b55)), (7, (.int b38)), (0, (.int x0)), (1, (.int x1)), (2, (.int (x0 &&& (((1 : Int32) <<< (x1 &&& 31)) ^^^ (-1 : Int32))))), (5, (.int (nI i21))), (6, (.int (nI i31)))]) C dX7_isFound_137 (by decide) rfl ?_
                  refine qr_iinc (v := (nI (i31 + 1))) (lv' := [(6, (.int (nI (i31 + 1)))), (4, (.int (fv ||| hcl0))), (3, (.int (fu ||| hrw0))), (8, (.int b55)), (7, (.int b38)), (0, (.int x0)), (1, (.int x1)), (2, (.int (x0 &&& (((1 : Int32) <<< (x1 &&& 31)) ^^^ (-1 : Int32))))), (5, (.int (nI i21)))]) C dX7_isFound_139 (w := 8) rfl (nI_1 _) (by decide) rfl ?_
                  refine qr_goto (tgt := 31) C dX7_isFound_142 (by decide) ?_
                  refine qw_pick [5, 6, 7, 2, 1, 8, 0] (lv' := [(0, (.int x0)), (1, (.int x1)), (2, (.int (x0 &&& (((1 : Int32) <<< (x1 &&& 31)) ^^^ (-1 : Int32))))), (3, (.int (fu ||| hrw0))), (4, (.int (fv ||| hcl0))), (5, (.int (nI i21))), (6, (.int (nI (i31 + 1))))]) rfl ?_
                  exact ih31 (i31 + 1) (fu ||| hrw0) (fv ||| hcl0) (by omega) (by have e : sg_it (sm_fst (sg_oth x0 x1)) (fa, fb) (i31 + 1) = sm_fst (sg_oth x0 x1) i31 (fu, fv) := (by show sm_fst (sg_oth x0 x1) i31 (sg_it (sm_fst (sg_oth x0 x1)) (fa, fb) i31) = _; rw [show sg_it (sm_fst (sg_oth x0 x1)) (fa, fb) i31 = (fu, fv) from Prod.ext hfu.symm hfv.symm]); rw [e, hrw, hb55, hb38]; rfl) (by have e : sg_it (sm_fst (sg_oth x0 x1)) (fa, fb) (i31 + 1) = sm_fst (sg_oth x0 x1) i31 (fu, fv) := (by show sm_fst (sg_oth x0 x1) i31 (sg_it (sm_fst (sg_oth x0 x1)) (fa, fb) i31) = _; rw [show sg_it (sm_fst (sg_oth x0 x1)) (fa, fb) i31 = (fu, fv) from Prod.ext hfu.symm hfv.symm]); rw [e, hcl, hb55, hb38]; rfl)
                refine qr_iload C dX7_isFound_115 2 rfl ?_
                refine qr_if_eq C 135 dX7_isFound_117 (by decide) (fun c6 => ?_) (fun c6 => ?_)
                · skip
                  refine qr_iconst (v := 0) C dX7_isFound_135 (by decide) ?_
                  exact M115_4 _ (by simp only [if_pos c6])
                · skip
                  refine qr_iload C dX7_isFound_120 1 rfl ?_
                  refine qr_if_eq C 135 dX7_isFound_122 (by decide) (fun c7 => ?_) (fun c7 => ?_)
                  · skip
                    refine qr_iconst (v := 0) C dX7_isFound_135 (by decide) ?_
                    exact M115_4 _ (by simp only [if_neg c6, if_pos c7])
                  · skip
                    refine qr_iconst (v := 1) C dX7_isFound_125 (by decide) ?_
                    refine qr_iload C dX7_isFound_126 8 rfl ?_
                    refine qr_bipush (v := 6) C dX7_isFound_128 (by decide) ?_
                    refine qr_irem C dX7_isFound_130 (by decide) ?_
                    refine qr_ishl C dX7_isFound_131 ?_
                    refine qr_goto (tgt := 136) C dX7_isFound_132 (by decide) ?_
                    exact M115_4 _ (by simp only [if_neg c6, if_neg c7])
              refine qr_iload C dX7_isFound_90 1 rfl ?_
              refine qr_if_eq C 110 dX7_isFound_92 (by decide) (fun c8 => ?_) (fun c8 => ?_)
              · skip
                refine qr_iconst (v := 0) C dX7_isFound_110 (by decide) ?_
                exact M90_3 _ (by simp only [if_pos c8])
              · skip
                refine qr_iload C dX7_isFound_95 0 rfl ?_
                refine qr_if_eq C 110 dX7_isFound_97 (by decide) (fun c9 => ?_) (fun c9 => ?_)
                · skip
                  refine qr_iconst (v := 0) C dX7_isFound_110 (by decide) ?_
                  exact M90_3 _ (by simp only [if_neg c8, if_pos c9])
                · skip
                  refine qr_iconst (v := 1) C dX7_isFound_100 (by decide) ?_
                  refine qr_iload C dX7_isFound_101 8 rfl ?_
                  refine qr_bipush (v := 6) C dX7_isFound_103 (by decide) ?_
                  refine qr_idiv C dX7_isFound_105 (by decide) ?_
                  refine qr_ishl C dX7_isFound_106 ?_
                  refine qr_goto (tgt := 111) C dX7_isFound_107 (by decide) ?_
                  exact M90_3 _ (by simp only [if_neg c8, if_neg c9])
            refine qr_iload_n C dX7_isFound_55 rfl 4 rfl ?_
            refine qr_iload C dX7_isFound_56 7 rfl ?_
            refine qr_bipush (v := 6) C dX7_isFound_58 (by decide) ?_
            refine qr_idiv C dX7_isFound_60 (by decide) ?_
            refine qr_ishr C dX7_isFound_61 ?_
            refine qr_iconst (v := 1) C dX7_isFound_62 (by decide) ?_
            refine qr_iand C dX7_isFound_63 ?_
            refine qr_iconst (v := 1) C dX7_isFound_64 (by decide) ?_
            refine qr_icmp_eq C 82 dX7_isFound_65 (by decide) (fun c10 => ?_) (fun c10 => ?_)
            · skip
              refine qr_iconst (v := 1) C dX7_isFound_82 (by decide) ?_
              refine qr_goto (tgt := 87) C dX7_isFound_83 (by decide) ?_
              exact M55_2 _ (by simp only [if_pos c10])
            · skip
              refine qr_iload C dX7_isFound_68 5 rfl ?_
              refine qr_iload C dX7_isFound_70 7 rfl ?_
              refine qr_bipush (v := 6) C dX7_isFound_72 (by decide) ?_
              refine qr_irem C dX7_isFound_74 (by decide) ?_
              refine qr_ishr C dX7_isFound_75 ?_
              refine qr_iconst (v := 1) C dX7_isFound_76 (by decide) ?_
              refine qr_iand C dX7_isFound_77 ?_
              refine qr_iconst (v := 1) C dX7_isFound_78 (by decide) ?_
              refine qr_icmp_ne C 86 dX7_isFound_79 (by decide) (fun c11 => ?_) (fun c11 => ?_)
              · skip
                refine qr_iconst (v := 0) C dX7_isFound_86 (by decide) ?_
                exact M55_2 _ (by simp only [if_neg c10, if_neg c11])
              · skip
                refine qr_iconst (v := 1) C dX7_isFound_82 (by decide) ?_
                refine qr_goto (tgt := 87) C dX7_isFound_83 (by decide) ?_
                exact M55_2 _ (by simp only [if_neg c10, if_pos c11])
          refine qr_iload_n C dX7_isFound_38 rfl 2 rfl ?_
          refine qr_iload C dX7_isFound_39 6 rfl ?_
          refine qr_ishr C dX7_isFound_41 ?_
          refine qr_iconst (v := 1) C dX7_isFound_42 (by decide) ?_
          refine qr_iand C dX7_isFound_43 ?_
          refine qr_iconst (v := 1) C dX7_isFound_44 (by decide) ?_
          refine qr_icmp_ne C 52 dX7_isFound_45 (by decide) (fun c12 => ?_) (fun c12 => ?_)
          · skip
            refine qr_iconst (v := 0) C dX7_isFound_52 (by decide) ?_
            exact M38_1 _ (by simp only [if_neg c12])
          · skip
            refine qr_iconst (v := 1) C dX7_isFound_48 (by decide) ?_
            refine qr_goto (tgt := 53) C dX7_isFound_49 (by decide) ?_
            exact M38_1 _ (by simp only [if_pos c12])
      refine qw_pick [1, 2, 3, 4, 5, 6, 0] (lv' := [(0, (.int x0)), (1, (.int x1)), (2, (.int (x0 &&& (((1 : Int32) <<< (x1 &&& 31)) ^^^ (-1 : Int32))))), (3, (.int fa)), (4, (.int fb)), (5, (.int (nI i21))), (6, (.int (0 : Int32)))]) rfl ?_
      exact L31 (30) 0 fa fb (by omega) rfl rfl
  refine qw_pick [4, 5, 3, 2, 1, 0] (lv' := [(0, (.int x0)), (1, (.int x1)), (2, (.int (x0 &&& (((1 : Int32) <<< (x1 &&& 31)) ^^^ (-1 : Int32))))), (3, (.int ((1 : Int32) <<< ((x1 / (6 : Int32)) &&& 31)))), (4, (.int (0 : Int32))), (5, (.int (0 : Int32)))]) rfl ?_
  exact L21 (11) 0 ((1 : Int32) <<< ((x1 / (6 : Int32)) &&& 31)) (0 : Int32) (by omega) rfl rfl
def sm_hst (h : Int32) (e k : Nat) (s : Int32 × Int32) : Int32 × Int32 :=
  if (if nI k / 6 = nI e / 6 then (0 : Int32) else if nI k - nI k / 6 * 6 = nI e - nI e / 6 * 6 then 0 else 1) = 0 then s else
    if s.2 ≤ sm_bits (sm_cov (nI e) (nI k / 6) (nI k - nI k / 6 * 6) &&& (h ^^^ (-1))) then s else (sm_cov (nI e) (nI k / 6) (nI k - nI k / 6 * 6), sm_bits (sm_cov (nI e) (nI k / 6) (nI k - nI k / 6 * 6) &&& (h ^^^ (-1))))
def sm_best (h : Int32) (e : Nat) : Int32 × Int32 := sg_it (sm_hst h e) (0, 30) 30
def sm_hid1 (x0 : Int32) (e : Nat) (h : Int32) : Int32 := if sm_bit x0 (nI e) = 1 then (if sm_found h (nI e) = 0 then h else h ||| (sm_best h e).1) else h
def sm_hidden (x0 : Int32) : Int32 := sg_it (sm_hid1 x0) x0 30
set_option maxHeartbeats 4000000 in
set_option maxRecDepth 100000 in
theorem k_X7_hidden {l : Launch} (hst : l.stackTraces = false) (D : va_G) (ad : Nat → Nat) (g : qw_G) (x0 : Int32) : qw_M l yX7_hidden [Cond.code yX7_hidden cX7_hidden 9 (some .int)] { frames := 1, cells := 0, slots := 0, locals := 40 } D ad g [(.int x0)] (qw_kp ad g (some (.int (sm_hidden x0)))) 0 0 := by
  refine qw_M.of (maxL := 9) (own := RX7) (lv := [(0, (.int x0))]) hst (by decide) rfl rfl (Nat.le_of_ble_eq_true rfl) ?_
  intro p e s m args below meth c A C hin
  refine qr_iload_n C dX7_hidden_0 rfl 0 rfl ?_
  refine qr_istore_n (lv' := [(1, (.int x0)), (0, (.int x0))]) C dX7_hidden_1 rfl (by decide) rfl ?_
  refine qr_iconst (v := 0) C dX7_hidden_2 (by decide) ?_
  refine qr_istore_n (lv' := [(2, (.int (0 : Int32))), (1, (.int x0)), (0, (.int x0))]) C dX7_hidden_3 rfl (by decide) rfl ?_
  have L4 : ∀ (j4 i4 : Nat) (h : Int32), i4 + j4 = 30 → h = sg_it (sm_hid1 x0) x0 i4 → qw_W p l e { frames := 1, cells := 0, slots := 0, locals := 40 } s m args below meth c D A 9 (MQ below (qw_Q (qw_kp ad g (some (.int (sm_hidden x0)))) D A) args s 0 0 A) 0 0 ad g 4 [(0, (.int x0)), (1, (.int h)), (2, (.int (nI i4)))] [] := by
    intro j4
    induction j4 with
    | zero =>
      intro i4 h hi4 hh
      obtain rfl : i4 = 30 := by omega
      refine qr_iload_n C dX7_hidden_4 rfl 2 rfl ?_
      refine qr_bipush (v := 30) C dX7_hidden_5 (by decide) ?_
      refine qr_icmp_ge_t C 136 dX7_hidden_7 (by decide) ((sg_le (30) (30) rfl rfl (by omega) (by omega)).mpr (Nat.le_refl _)) ?_
      refine qr_iload_n C dX7_hidden_136 rfl 1 rfl ?_
      exact qr_iret C rfl (Nat.zero_le _) (Nat.zero_le _) dX7_hidden_137 (qw_kpn hh.symm)
    | succ j4 ih4 =>
      intro i4 h hi4 hh
      refine qr_iload_n C dX7_hidden_4 rfl 2 rfl ?_
      refine qr_bipush (v := 30) C dX7_hidden_5 (by decide) ?_
      refine qr_icmp_ge_f C 136 dX7_hidden_7 (by decide) (fun z => absurd ((sg_le (30) (i4) rfl rfl (by omega) (by omega)).mp z) (by omega)) ?_
      refine qr_iload_n C dX7_hidden_10 rfl 0 rfl ?_
      refine qr_iload_n C dX7_hidden_11 rfl 2 rfl ?_
      refine qr_ishr C dX7_hidden_12 ?_
      refine qr_iconst (v := 1) C dX7_hidden_13 (by decide) ?_
      refine qr_iand C dX7_hidden_14 ?_
      refine qr_iconst (v := 1) C dX7_hidden_15 (by decide) ?_
      refine qr_icmp_ne C 130 dX7_hidden_16 (by decide) (fun c16 => ?_) (fun c16 => ?_)
      · skip
        refine qr_iinc (v := (nI (i4 + 1))) (lv' := [(2, (.int (nI (i4 + 1)))), (0, (.int x0)), (1, (.int h))]) C dX7_hidden_130 (w := 2) rfl (nI_1 _) (by decide) rfl ?_
        refine qr_goto (tgt := 4) C dX7_hidden_133 (by decide) ?_
        refine qw_pick [1, 2, 0] (lv' := [(0, (.int x0)), (1, (.int h)), (2, (.int (nI (i4 + 1))))]) rfl ?_
        exact ih4 (i4 + 1) h (by omega) (by have e : sg_it (sm_hid1 x0) x0 (i4 + 1) = sm_hid1 x0 i4 h := (by subst hh; rfl); rw [e]; exact (if_neg c16).symm)
      · skip
        refine qr_iload_n C dX7_hidden_19 rfl 1 rfl ?_
        refine qr_iload_n C dX7_hidden_20 rfl 2 rfl ?_
        refine qr_callS C (na := 2) (As := [(.int h), (.int (nI i4))]) (rest := []) (k_X7_isFound hst D ad g (h) ((nI i4))) gi_X7_107 ⟨by decide, by decide, by decide +kernel⟩ rfl rfl (Nat.le_of_ble_eq_true rfl) rfl rfl ⟨Nat.le_of_ble_eq_true rfl, Nat.le_of_ble_eq_true rfl⟩ ⟨Nat.le_of_ble_eq_true rfl, Nat.le_of_ble_eq_true rfl⟩ dX7_hidden_21 (fun v ad2 g2 hpo => ?_)
        obtain ⟨rfl, rfl, rfl⟩ := hpo
        refine qr_if_eq C 130 dX7_hidden_24 (by decide) (fun c24 => ?_) (fun c24 => ?_)
        · skip
          refine qr_iinc (v := (nI (i4 + 1))) (lv' := [(2, (.int (nI (i4 + 1)))), (0, (.int x0)), (1, (.int h))]) C dX7_hidden_130 (w := 2) rfl (nI_1 _) (by decide) rfl ?_
          refine qr_goto (tgt := 4) C dX7_hidden_133 (by decide) ?_
          refine qw_pick [1, 2, 0] (lv' := [(0, (.int x0)), (1, (.int h)), (2, (.int (nI (i4 + 1))))]) rfl ?_
          exact ih4 (i4 + 1) h (by omega) (by have e : sg_it (sm_hid1 x0) x0 (i4 + 1) = sm_hid1 x0 i4 h := (by subst hh; rfl); rw [e]; exact (Eq.trans (if_pos c16) (if_pos c24)).symm)
        · skip
          refine qr_iconst (v := 0) C dX7_hidden_27 (by decide) ?_
          refine qr_istore_n (lv' := [(3, (.int (0 : Int32))), (0, (.int x0)), (1, (.int h)), (2, (.int (nI i4)))]) C dX7_hidden_28 rfl (by decide) rfl ?_
          refine qr_bipush (v := 30) C dX7_hidden_29 (by decide) ?_
          refine qr_istore (lv' := [(4, (.int (30 : Int32))), (3, (.int (0 : Int32))), (0, (.int x0)), (1, (.int h)), (2, (.int (nI i4)))]) C dX7_hidden_31 (by decide) rfl ?_
          refine qr_iconst (v := 0) C dX7_hidden_33 (by decide) ?_
          refine qr_istore (lv' := [(5, (.int (0 : Int32))), (4, (.int (30 : Int32))), (3, (.int (0 : Int32))), (0, (.int x0)), (1, (.int h)), (2, (.int (nI i4)))]) C dX7_hidden_34 (by decide) rfl ?_
          have L36 : ∀ (j36 i36 : Nat) (fb : Int32) (fl : Int32), i36 + j36 = 30 → fb = (sg_it (sm_hst h i4) (0, 30) i36).1 → fl = (sg_it (sm_hst h i4) (0, 30) i36).2 → qw_W p l e { frames := 1, cells := 0, slots := 0, locals := 40 } s m args below meth c D A 9 (MQ below (qw_Q (qw_kp ad g (some (.int (sm_hidden x0)))) D A) args s 0 0 A) 0 0 ad g 36 [(0, (.int x0)), (1, (.int h)), (2, (.int (nI i4))), (3, (.int fb)), (4, (.int fl)), (5, (.int (nI i36)))] [] := by
            intro j36
            induction j36 with
            | zero =>
              intro i36 fb fl hi36 hfb hfl
              obtain rfl : i36 = 30 := by omega
              refine qr_iload C dX7_hidden_36 5 rfl ?_
              refine qr_bipush (v := 30) C dX7_hidden_38 (by decide) ?_
              refine qr_icmp_ge_t C 126 dX7_hidden_40 (by decide) ((sg_le (30) (30) rfl rfl (by omega) (by omega)).mpr (Nat.le_refl _)) ?_
              refine qr_iload_n C dX7_hidden_126 rfl 1 rfl ?_
              refine qr_iload_n C dX7_hidden_127 rfl 3 rfl ?_
              refine qr_ior C dX7_hidden_128 ?_
              refine qr_istore_n (lv' := [(1, (.int (h ||| fb))), (0, (.int x0)), (2, (.int (nI i4))), (3, (.int fb)), (4, (.int fl)), (5, (.int (nI (30))))]) C dX7_hidden_129 rfl (by decide) rfl ?_
              refine qr_iinc (v := (nI (i4 + 1))) (lv' := [(2, (.int (nI (i4 + 1)))), (1, (.int (h ||| fb))), (0, (.int x0)), (3, (.int fb)), (4, (.int fl)), (5, (.int (nI (30))))]) C dX7_hidden_130 (w := 2) rfl (nI_1 _) (by decide) rfl ?_
              refine qr_goto (tgt := 4) C dX7_hidden_133 (by decide) ?_
              refine qw_pick [2, 1, 0] (lv' := [(0, (.int x0)), (1, (.int (h ||| fb))), (2, (.int (nI (i4 + 1))))]) rfl ?_
              exact ih4 (i4 + 1) (h ||| fb) (by omega) (by have e : sg_it (sm_hid1 x0) x0 (i4 + 1) = sm_hid1 x0 i4 h := (by subst hh; rfl); rw [e, hfb]; exact (Eq.trans (if_pos c16) (if_neg c24)).symm)
            | succ j36 ih36 =>
              intro i36 fb fl hi36 hfb hfl
              refine qr_iload C dX7_hidden_36 5 rfl ?_
              refine qr_bipush (v := 30) C dX7_hidden_38 (by decide) ?_
              refine qr_icmp_ge_f C 126 dX7_hidden_40 (by decide) (fun z => absurd ((sg_le (30) (i36) rfl rfl (by omega) (by omega)).mp z) (by omega)) ?_
              have M43_0 : ∀ bi : Int32, bi = (if ((nI i36) / (6 : Int32)) = ((nI i4) / (6 : Int32)) then (0 : Int32) else (if ((nI i36) - (nI i36) / (6 : Int32) * (6 : Int32)) = ((nI i4) - (nI i4) / (6 : Int32) * (6 : Int32)) then (0 : Int32) else (1 : Int32))) → qw_W p l e { frames := 1, cells := 0, slots := 0, locals := 40 } s m args below meth c D A 9 (MQ below (qw_Q (qw_kp ad g (some (.int (sm_hidden x0)))) D A) args s 0 0 A) 0 0 ad g 72 [(0, (.int x0)), (1, (.int h)), (2, (.int (nI i4))), (3, (.int fb)), (4, (.int fl)), (5, (.int (nI i36)))] [(.int bi)] := by
                intro bi hbi
                refine qr_istore (lv' := [(6, (.int bi)), (0, (.int x0)), (1, (.int h)), (2, (.int (nI i4))), (3, (.int fb)), (4, (.int fl)), (5, (.int (nI i36)))]) C dX7_hidden_72 (by decide) rfl ?_
                refine qr_iload_n C dX7_hidden_74 rfl 3 rfl ?_
                refine qr_iload C dX7_hidden_75 6 rfl ?_
                refine qr_bipush (v := 6) C dX7_hidden_77 (by decide) ?_
                refine qr_idiv C dX7_hidden_79 (by decide) ?_
                refine qr_iload C dX7_hidden_80 6 rfl ?_
                refine qr_bipush (v := 6) C dX7_hidden_82 (by decide) ?_
                refine qr_irem C dX7_hidden_84 (by decide) ?_
                refine qr_callS C (na := 3) (As := [(.int (nI i4)), (.int ((nI i36) / (6 : Int32))), (.int ((nI i36) - (nI i36) / (6 : Int32) * (6 : Int32)))]) (rest := []) (k_X7_covers hst D ad g ((nI i4)) (((nI i36) / (6 : Int32))) (((nI i36) - (nI i36) / (6 : Int32) * (6 : Int32)))) gi_X7_110 ⟨by decide, by decide, by decide +kernel⟩ rfl rfl (Nat.le_of_ble_eq_true rfl) rfl rfl ⟨Nat.le_of_ble_eq_true rfl, Nat.le_of_ble_eq_true rfl⟩ ⟨Nat.le_of_ble_eq_true rfl, Nat.le_of_ble_eq_true rfl⟩ dX7_hidden_85 (fun v ad2 g2 hpo => ?_)
                obtain ⟨rfl, rfl, rfl⟩ := hpo
                refine qr_istore (lv' := [(7, (.int (sm_cov ((nI i4)) (((nI i36) / (6 : Int32))) (((nI i36) - (nI i36) / (6 : Int32) * (6 : Int32)))))), (6, (.int bi)), (0, (.int x0)), (1, (.int h)), (2, (.int (nI i4))), (3, (.int fb)), (4, (.int fl)), (5, (.int (nI i36)))]) C dX7_hidden_88 (by decide) rfl ?_
                refine qr_iload C dX7_hidden_90 0 rfl ?_
                refine qr_iload_n C dX7_hidden_92 rfl 3 rfl ?_
                refine qr_iconst (v := -1) C dX7_hidden_93 (by decide) ?_
                refine qr_ixor C dX7_hidden_94 ?_
                refine qr_iand C dX7_hidden_95 ?_
                refine qr_callS C (na := 1) (As := [(.int ((sm_cov ((nI i4)) (((nI i36) / (6 : Int32))) (((nI i36) - (nI i36) / (6 : Int32) * (6 : Int32)))) &&& (h ^^^ (-1 : Int32))))]) (rest := []) (k_X7_bits hst D ad g (((sm_cov ((nI i4)) (((nI i36) / (6 : Int32))) (((nI i36) - (nI i36) / (6 : Int32) * (6 : Int32)))) &&& (h ^^^ (-1 : Int32))))) gi_X7_113 ⟨by decide, by decide, by decide +kernel⟩ rfl rfl (Nat.le_of_ble_eq_true rfl) rfl rfl ⟨Nat.le_of_ble_eq_true rfl, Nat.le_of_ble_eq_true rfl⟩ ⟨Nat.le_of_ble_eq_true rfl, Nat.le_of_ble_eq_true rfl⟩ dX7_hidden_96 (fun v ad2 g2 hpo => ?_)
                obtain ⟨rfl, rfl, rfl⟩ := hpo
                refine qr_istore (lv' := [(8, (.int (sm_bits (((sm_cov ((nI i4)) (((nI i36) / (6 : Int32))) (((nI i36) - (nI i36) / (6 : Int32) * (6 : Int32)))) &&& (h ^^^ (-1 : Int32))))))), (7, (.int (sm_cov ((nI i4)) (((nI i36) / (6 : Int32))) (((nI i36) - (nI i36) / (6 : Int32) * (6 : Int32)))))), (6, (.int bi)), (0, (.int x0)), (1, (.int h)), (2, (.int (nI i4))), (3, (.int fb)), (4, (.int fl)), (5, (.int (nI i36)))]) C dX7_hidden_99 (by decide) rfl ?_
                refine qr_iload C dX7_hidden_101 2 rfl ?_
                refine qr_if_eq C 120 dX7_hidden_103 (by decide) (fun c103 => ?_) (fun c103 => ?_)
                · skip
                  refine qr_iinc (v := (nI (i36 + 1))) (lv' := [(5, (.int (nI (i36 + 1)))), (8, (.int (sm_bits (((sm_cov ((nI i4)) (((nI i36) / (6 : Int32))) (((nI i36) - (nI i36) / (6 : Int32) * (6 : Int32)))) &&& (h ^^^ (-1 : Int32))))))), (7, (.int (sm_cov ((nI i4)) (((nI i36) / (6 : Int32))) (((nI i36) - (nI i36) / (6 : Int32) * (6 : Int32)))))), (6, (.int bi)), (0, (.int x0)), (1, (.int h)), (2, (.int (nI i4))), (3, (.int fb)), (4, (.int fl))]) C dX7_hidden_120 (w := 8) rfl (nI_1 _) (by decide) rfl ?_
                  refine qr_goto (tgt := 36) C dX7_hidden_123 (by decide) ?_
                  refine qw_pick [4, 5, 6, 7, 8, 0] (lv' := [(0, (.int x0)), (1, (.int h)), (2, (.int (nI i4))), (3, (.int fb)), (4, (.int fl)), (5, (.int (nI (i36 + 1))))]) rfl ?_
                  exact ih36 (i36 + 1) fb fl (by omega) (by have e : sg_it (sm_hst h i4) (0, 30) (i36 + 1) = sm_hst h i4 i36 (fb, fl) := (by show sm_hst h i4 i36 (sg_it (sm_hst h i4) (0, 30) i36) = _; rw [show sg_it (sm_hst h i4) (0, 30) i36 = (fb, fl) from Prod.ext hfb.symm hfl.symm]); rw [e]; simp only [sm_hst, if_pos (hbi.symm.trans c103)]) (by have e : sg_it (sm_hst h i4) (0, 30) (i36 + 1) = sm_hst h i4 i36 (fb, fl) := (by show sm_hst h i4 i36 (sg_it (sm_hst h i4) (0, 30) i36) = _; rw [show sg_it (sm_hst h i4) (0, 30) i36 = (fb, fl) from Prod.ext hfb.symm hfl.symm]); rw [e]; simp only [sm_hst, if_pos (hbi.symm.trans c103)])
                · skip
                  refine qr_iload C dX7_hidden_106 0 rfl ?_
                  refine qr_iload C dX7_hidden_108 7 rfl ?_
                  refine qr_icmp_ge C 120 dX7_hidden_110 (by decide) (fun c110 => ?_) (fun c110 => ?_)
                  · skip
                    refine qr_iinc (v := (nI (i36 + 1))) (lv' := [(5, (.int (nI (i36 + 1)))), (8, (.int (sm_bits (((sm_cov ((nI i4)) (((nI i36) / (6 : Int32))) (((nI i36) - (nI i36) / (6 : Int32) * (6 : Int32)))) &&& (h ^^^ (-1 : Int32))))))), (7, (.int (sm_cov ((nI i4)) (((nI i36) / (6 : Int32))) (((nI i36) - (nI i36) / (6 : Int32) * (6 : Int32)))))), (6, (.int bi)), (0, (.int x0)), (1, (.int h)), (2, (.int (nI i4))), (3, (.int fb)), (4, (.int fl))]) C dX7_hidden_120 (w := 8) rfl (nI_1 _) (by decide) rfl ?_
                    refine qr_goto (tgt := 36) C dX7_hidden_123 (by decide) ?_
                    refine qw_pick [4, 5, 6, 7, 8, 0] (lv' := [(0, (.int x0)), (1, (.int h)), (2, (.int (nI i4))), (3, (.int fb)), (4, (.int fl)), (5, (.int (nI (i36 + 1))))]) rfl ?_
                    exact ih36 (i36 + 1) fb fl (by omega) (by have e : sg_it (sm_hst h i4) (0, 30) (i36 + 1) = sm_hst h i4 i36 (fb, fl) := (by show sm_hst h i4 i36 (sg_it (sm_hst h i4) (0, 30) i36) = _; rw [show sg_it (sm_hst h i4) (0, 30) i36 = (fb, fl) from Prod.ext hfb.symm hfl.symm]); rw [e]; simp only [sm_hst, if_neg (fun z => c103 (hbi.trans z)), if_pos c110]) (by have e : sg_it (sm_hst h i4) (0, 30) (i36 + 1) = sm_hst h i4 i36 (fb, fl) := (by show sm_hst h i4 i36 (sg_it (sm_hst h i4) (0, 30) i36) = _; rw [show sg_it (sm_hst h i4) (0, 30) i36 = (fb, fl) from Prod.ext hfb.symm hfl.symm]); rw [e]; simp only [sm_hst, if_neg (fun z => c103 (hbi.trans z)), if_pos c110])
                  · skip
                    refine qr_iload C dX7_hidden_113 0 rfl ?_
                    refine qr_istore (lv' := [(4, (.int (sm_bits (((sm_cov ((nI i4)) (((nI i36) / (6 : Int32))) (((nI i36) - (nI i36) / (6 : Int32) * (6 : Int32)))) &&& (h ^^^ (-1 : Int32))))))), (8, (.int (sm_bits (((sm_cov ((nI i4)) (((nI i36) / (6 : Int32))) (((nI i36) - (nI i36) / (6 : Int32) * (6 : Int32)))) &&& (h ^^^ (-1 : Int32))))))), (7, (.int (sm_cov ((nI i4)) (((nI i36) / (6 : Int32))) (((nI i36) - (nI i36) / (6 : Int32) * (6 : Int32)))))), (6, (.int bi)), (0, (.int x0)), (1, (.int h)), (2, (.int (nI i4))), (3, (.int fb)), (5, (.int (nI i36)))]) C dX7_hidden_115 (by decide) rfl ?_
                    refine qr_iload C dX7_hidden_117 2 rfl ?_
                    refine qr_istore_n (lv' := [(3, (.int (sm_cov ((nI i4)) (((nI i36) / (6 : Int32))) (((nI i36) - (nI i36) / (6 : Int32) * (6 : Int32)))))), (4, (.int (sm_bits (((sm_cov ((nI i4)) (((nI i36) / (6 : Int32))) (((nI i36) - (nI i36) / (6 : Int32) * (6 : Int32)))) &&& (h ^^^ (-1 : Int32))))))), (8, (.int (sm_bits (((sm_cov ((nI i4)) (((nI i36) / (6 : Int32))) (((nI i36) - (nI i36) / (6 : Int32) * (6 : Int32)))) &&& (h ^^^ (-1 : Int32))))))), (7, (.int (sm_cov ((nI i4)) (((nI i36) / (6 : Int32))) (((nI i36) - (nI i36) / (6 : Int32) * (6 : Int32)))))), (6, (.int bi)), (0, (.int x0)), (1, (.int h)), (2, (.int (nI i4))), (5, (.int (nI i36)))]) C dX7_hidden_119 rfl (by decide) rfl ?_
                    refine qr_iinc (v := (nI (i36 + 1))) (lv' := [(5, (.int (nI (i36 + 1)))), (3, (.int (sm_cov ((nI i4)) (((nI i36) / (6 : Int32))) (((nI i36) - (nI i36) / (6 : Int32) * (6 : Int32)))))), (4, (.int (sm_bits (((sm_cov ((nI i4)) (((nI i36) / (6 : Int32))) (((nI i36) - (nI i36) / (6 : Int32) * (6 : Int32)))) &&& (h ^^^ (-1 : Int32))))))), (8, (.int (sm_bits (((sm_cov ((nI i4)) (((nI i36) / (6 : Int32))) (((nI i36) - (nI i36) / (6 : Int32) * (6 : Int32)))) &&& (h ^^^ (-1 : Int32))))))), (7, (.int (sm_cov ((nI i4)) (((nI i36) / (6 : Int32))) (((nI i36) - (nI i36) / (6 : Int32) * (6 : Int32)))))), (6, (.int bi)), (0, (.int x0)), (1, (.int h)), (2, (.int (nI i4)))]) C dX7_hidden_120 (w := 8) rfl (nI_1 _) (by decide) rfl ?_
                    refine qr_goto (tgt := 36) C dX7_hidden_123 (by decide) ?_
                    refine qw_pick [6, 7, 8, 1, 2, 0] (lv' := [(0, (.int x0)), (1, (.int h)), (2, (.int (nI i4))), (3, (.int (sm_cov ((nI i4)) (((nI i36) / (6 : Int32))) (((nI i36) - (nI i36) / (6 : Int32) * (6 : Int32)))))), (4, (.int (sm_bits (((sm_cov ((nI i4)) (((nI i36) / (6 : Int32))) (((nI i36) - (nI i36) / (6 : Int32) * (6 : Int32)))) &&& (h ^^^ (-1 : Int32))))))), (5, (.int (nI (i36 + 1))))]) rfl ?_
                    exact ih36 (i36 + 1) (sm_cov ((nI i4)) (((nI i36) / (6 : Int32))) (((nI i36) - (nI i36) / (6 : Int32) * (6 : Int32)))) (sm_bits (((sm_cov ((nI i4)) (((nI i36) / (6 : Int32))) (((nI i36) - (nI i36) / (6 : Int32) * (6 : Int32)))) &&& (h ^^^ (-1 : Int32))))) (by omega) (by have e : sg_it (sm_hst h i4) (0, 30) (i36 + 1) = sm_hst h i4 i36 (fb, fl) := (by show sm_hst h i4 i36 (sg_it (sm_hst h i4) (0, 30) i36) = _; rw [show sg_it (sm_hst h i4) (0, 30) i36 = (fb, fl) from Prod.ext hfb.symm hfl.symm]); rw [e]; simp only [sm_hst, if_neg (fun z => c103 (hbi.trans z)), if_neg c110]) (by have e : sg_it (sm_hst h i4) (0, 30) (i36 + 1) = sm_hst h i4 i36 (fb, fl) := (by show sm_hst h i4 i36 (sg_it (sm_hst h i4) (0, 30) i36) = _; rw [show sg_it (sm_hst h i4) (0, 30) i36 = (fb, fl) from Prod.ext hfb.symm hfl.symm]); rw [e]; simp only [sm_hst, if_neg (fun z => c103 (hbi.trans z)), if_neg c110])
              refine qr_iload C dX7_hidden_43 5 rfl ?_
              refine qr_bipush (v := 6) C dX7_hidden_45 (by decide) ?_
              refine qr_idiv C dX7_hidden_47 (by decide) ?_
              refine qr_iload_n C dX7_hidden_48 rfl 2 rfl ?_
              refine qr_bipush (v := 6) C dX7_hidden_49 (by decide) ?_
              refine qr_idiv C dX7_hidden_51 (by decide) ?_
              refine qr_icmp_eq C 71 dX7_hidden_52 (by decide) (fun c2 => ?_) (fun c2 => ?_)
              · skip
                refine qr_iconst (v := 0) C dX7_hidden_71 (by decide) ?_
                exact M43_0 _ (by simp only [if_pos c2])
              · skip
                refine qr_iload C dX7_hidden_55 5 rfl ?_
                refine qr_bipush (v := 6) C dX7_hidden_57 (by decide) ?_
                refine qr_irem C dX7_hidden_59 (by decide) ?_
                refine qr_iload_n C dX7_hidden_60 rfl 2 rfl ?_
                refine qr_bipush (v := 6) C dX7_hidden_61 (by decide) ?_
                refine qr_irem C dX7_hidden_63 (by decide) ?_
                refine qr_icmp_eq C 71 dX7_hidden_64 (by decide) (fun c3 => ?_) (fun c3 => ?_)
                · skip
                  refine qr_iconst (v := 0) C dX7_hidden_71 (by decide) ?_
                  exact M43_0 _ (by simp only [if_neg c2, if_pos c3])
                · skip
                  refine qr_iconst (v := 1) C dX7_hidden_67 (by decide) ?_
                  refine qr_goto (tgt := 72) C dX7_hidden_68 (by decide) ?_
                  exact M43_0 _ (by simp only [if_neg c2, if_neg c3])
          refine qw_pick [3, 4, 5, 2, 1, 0] (lv' := [(0, (.int x0)), (1, (.int h)), (2, (.int (nI i4))), (3, (.int (0 : Int32))), (4, (.int (30 : Int32))), (5, (.int (0 : Int32)))]) rfl ?_
          exact L36 (30) 0 (0 : Int32) (30 : Int32) (by omega) rfl rfl
  refine qw_pick [2, 1, 0] (lv' := [(0, (.int x0)), (1, (.int x0)), (2, (.int (0 : Int32)))]) rfl ?_
  exact L4 (30) 0 x0 (by omega) rfl
end
section
/-! the model: its fields and arrays hold σ; r: which exception its latest call told -/
def qm_P (D : va_G) (σ : Nat → Nat → Int32) (r : Int32) (ad : Nat → Nat) (g : qw_G) : Prop :=
  g 100 = some (.inr (6, [(.int r), (.int (σ 1 0)), (.int (σ 2 0)), (.ref (ad 103)), (.ref (ad 104)), (.ref (ad 105)), (.ref (ad 106)), (.ref (ad 107)), (.ref (ad 108)), (.int (σ 9 0)), (.ref (ad 110)), (.ref (ad 111)), (.ref (ad 112)), (.ref (ad 113)), (.ref (ad 114)), (.ref (ad 115)), (.ref (ad 116)), (.ref (ad 117)), (.int (σ 18 0)), (.int (σ 19 0))])) ∧
  g 103 = some (.inl (D.1 20, 120, .inl (σ 3))) ∧
  g 104 = some (.inl (D.1 20, 120, .inl (σ 4))) ∧
  g 105 = some (.inl (D.1 20, 120, .inl (σ 5))) ∧
  g 106 = some (.inl (D.1 20, 120, .inl (σ 6))) ∧
  g 107 = some (.inl (D.1 21, 120, .inl (σ 7))) ∧
  g 108 = some (.inl (D.1 21, 3, .inl (σ 8))) ∧
  g 110 = some (.inl (D.1 20, 40, .inl (σ 10))) ∧
  g 111 = some (.inl (D.1 20, 40, .inl (σ 11))) ∧
  g 112 = some (.inl (D.1 20, 40, .inl (σ 12))) ∧
  g 113 = some (.inl (D.1 20, 40, .inl (σ 13))) ∧
  g 114 = some (.inl (D.1 21, 40, .inl (σ 14))) ∧
  g 115 = some (.inl (D.1 21, 12, .inl (σ 15))) ∧
  g 116 = some (.inl (D.1 20, 12, .inl (σ 16))) ∧
  g 117 = some (.inl (D.1 20, 12, .inl (σ 17)))
def qm_to (D : va_G) (ad : Nat → Nat) (g : qw_G) (v : Option Value) (σ : Nat → Nat → Int32) (r : Int32) : Option Value → (Nat → Nat) → qw_G → Prop := fun v' ad' g' => v = v' ∧ ad = ad' ∧ qm_P D σ r ad g' ∧ ∀ t, (t < 100 ∨ 118 ≤ t) → g' t = g t
def sm_ref (x : Int32) : Int32 := if x = 0 then 0 else 1
theorem sm_ref0 {x : Int32} : sm_ref x = 0 ↔ x = 0 := by unfold sm_ref; by_cases h : x = 0 <;> simp [h]
theorem sm_ref01 (x : Int32) : sm_ref x = 0 ∨ sm_ref x = 1 := by unfold sm_ref; by_cases h : x = 0 <;> simp [h]
/-- the scalar k of the state -/
def sg_u (σ : Nat → Nat → Int32) (k : Nat) (v : Int32) : Nat → Nat → Int32 := va_up σ k (fun _ => v)
theorem sm_in_i {v lo hi : Int32} : sm_in v lo hi = 0 ↔ ¬ (lo.toInt ≤ v.toInt ∧ v.toInt ≤ hi.toInt) := by
  unfold sm_in
  by_cases h : v < lo <;> by_cases h2 : hi < v <;> simp [h, h2] <;> rw [Int32.lt_iff_toInt_lt] at h h2 <;> omega
theorem sg_nat {x : Int32} {n : Nat} (h : 0 ≤ x.toInt) (h2 : x.toInt < n) (hn : n < 2147483648) : ∃ j, j < n ∧ x = nI j := by
  refine ⟨x.toInt.toNat, by omega, ?_⟩
  apply Int32.toInt_inj.mp
  rw [nI_toInt (by omega)]
  omega
theorem sm_isT_ok {x : Int32} (h : ¬ sm_isT x = 0) : ∃ t, t < 3 ∧ x = nI t := by
  unfold sm_isT at h
  rw [sm_in_i] at h
  have e0 : (0 : Int32).toInt = 0 := by decide
  have e2 : (2 : Int32).toInt = 2 := by decide
  exact sg_nat (n := 3) (by omega) (by omega) (by omega)
theorem sm_isL_ok {x : Int32} (h : ¬ sm_isL x = 0) : ∃ t, t < 4 ∧ x = nI t := by
  unfold sm_isL at h
  rw [sm_in_i] at h
  have e0 : (0 : Int32).toInt = 0 := by decide
  have e2 : (3 : Int32).toInt = 3 := by decide
  exact sg_nat (n := 4) (by omega) (by omega) (by omega)
theorem sm_isE_ok {x y : Int32} (h : ¬ sm_isE x y = 0) : (∃ t, t < 5 ∧ x = nI t) ∧ ∃ t, t < 6 ∧ y = nI t := by
  unfold sm_isE at h
  by_cases h1 : sm_in x 0 4 = 0
  · exact absurd (if_pos h1) h
  · by_cases h2 : sm_in y 0 5 = 0
    · exact absurd ((if_neg h1).trans (if_pos h2)) h
    · rw [sm_in_i] at h1 h2
      have e0 : (0 : Int32).toInt = 0 := by decide
      have e2 : (4 : Int32).toInt = 4 := by decide
      have e3 : (5 : Int32).toInt = 5 := by decide
      exact ⟨sg_nat (n := 5) (by omega) (by omega) (by omega), sg_nat (n := 6) (by omega) (by omega) (by omega)⟩
theorem sg_cl {f : Nat → Int32} {x : Int32} {j : Nat} (h : x = nI j) (hj : j < 2147483648) : f j = f x.toNatClampNeg := by rw [h, nI_clamp hj]
set_option maxHeartbeats 4000000 in
set_option maxRecDepth 100000 in
theorem k_X7_thrown {l : Launch} (hst : l.stackTraces = false) (D : va_G) (ad : Nat → Nat) (g : qw_G) (σ : Nat → Nat → Int32) (r : Int32) (hM : qm_P D σ r ad g)  : qw_M l yX7_thrown [Cond.code yX7_thrown cX7_thrown 1 (some .int)] { frames := 0, cells := 0, slots := 0, locals := 0 } D ad g [(.ref (ad 100))] (qw_kp ad g (some (.int r))) 0 0 := by
  refine qw_M.of (maxL := 1) (own := RX7) (lv := [(0, (.ref (ad 100)))]) hst (by decide) rfl rfl (Nat.le_of_ble_eq_true rfl) ?_
  intro p e s m args below meth c A C hin
  refine qr_aload_n C dX7_thrown_0 rfl 0 rfl ?_
  refine gf_X7_53 C (100) (hM.1) rfl rfl dX7_thrown_1 ?_
  exact qr_iret C rfl (Nat.zero_le _) (Nat.zero_le _) dX7_thrown_4 (qw_kpn rfl)
set_option maxHeartbeats 4000000 in
set_option maxRecDepth 100000 in
theorem k_X7_refused {l : Launch} (hst : l.stackTraces = false) (D : va_G) (ad : Nat → Nat) (g : qw_G) (σ : Nat → Nat → Int32) (r : Int32) (hM : qm_P D σ r ad g) (x1 : Int32) : qw_M l yX7_refused [Cond.code yX7_refused cX7_refused 2 (some .boolean)] { frames := 0, cells := 0, slots := 0, locals := 0 } D ad g [(.ref (ad 100)), (.int x1)] (qm_to D ad g (some (.int (sm_ref x1))) σ x1) 0 0 := by
  refine qw_M.of (maxL := 2) (own := RX7) (lv := [(0, (.ref (ad 100))), (1, (.int x1))]) hst (by decide) rfl rfl (Nat.le_of_ble_eq_true rfl) ?_
  intro p e s m args below meth c A C hin
  refine qr_aload_n C dX7_refused_0 rfl 0 rfl ?_
  refine qr_iload_n C dX7_refused_1 rfl 1 rfl ?_
  refine pf_X7_53 C (100) (hM.1) rfl rfl rfl (Nat.le_of_ble_eq_true rfl) rfl dX7_refused_2 ?_
  generalize hg2 : va_up g (100) _ = g1
  have f3 : g1 (100) = some (.inr (6, [(.int x1), (.int (σ 1 0)), (.int (σ 2 0)), (.ref (ad 103)), (.ref (ad 104)), (.ref (ad 105)), (.ref (ad 106)), (.ref (ad 107)), (.ref (ad 108)), (.int (σ 9 0)), (.ref (ad 110)), (.ref (ad 111)), (.ref (ad 112)), (.ref (ad 113)), (.ref (ad 114)), (.ref (ad 115)), (.ref (ad 116)), (.ref (ad 117)), (.int (σ 18 0)), (.int (σ 19 0))])) := by rw [← hg2]; exact va_up_self _ _ _
  have f4 : g1 (103) = g (103) := by rw [← hg2]; exact va_up_ne _ _ (by omega)
  have f5 : g1 (104) = g (104) := by rw [← hg2]; exact va_up_ne _ _ (by omega)
  have f6 : g1 (105) = g (105) := by rw [← hg2]; exact va_up_ne _ _ (by omega)
  have f7 : g1 (106) = g (106) := by rw [← hg2]; exact va_up_ne _ _ (by omega)
  have f8 : g1 (107) = g (107) := by rw [← hg2]; exact va_up_ne _ _ (by omega)
  have f9 : g1 (108) = g (108) := by rw [← hg2]; exact va_up_ne _ _ (by omega)
  have f10 : g1 (110) = g (110) := by rw [← hg2]; exact va_up_ne _ _ (by omega)
  have f11 : g1 (111) = g (111) := by rw [← hg2]; exact va_up_ne _ _ (by omega)
  have f12 : g1 (112) = g (112) := by rw [← hg2]; exact va_up_ne _ _ (by omega)
  have f13 : g1 (113) = g (113) := by rw [← hg2]; exact va_up_ne _ _ (by omega)
  have f14 : g1 (114) = g (114) := by rw [← hg2]; exact va_up_ne _ _ (by omega)
  have f15 : g1 (115) = g (115) := by rw [← hg2]; exact va_up_ne _ _ (by omega)
  have f16 : g1 (116) = g (116) := by rw [← hg2]; exact va_up_ne _ _ (by omega)
  have f17 : g1 (117) = g (117) := by rw [← hg2]; exact va_up_ne _ _ (by omega)
  refine qr_iload_n C dX7_refused_5 rfl 1 rfl ?_
  refine qr_if_eq C 13 dX7_refused_6 (by decide) (fun c18 => ?_) (fun c18 => ?_)
  · skip
    refine qr_iconst (v := 0) C dX7_refused_13 (by decide) ?_
    exact qr_zret C rfl (by decide) (Nat.zero_le _) (Nat.zero_le _) dX7_refused_14 (⟨congrArg (fun z => some (Value.int z)) (by simp only [sm_ref, if_pos c18]), rfl, ⟨f3, (f4.trans (hM.2.1)), (f5.trans (hM.2.2.1)), (f6.trans (hM.2.2.2.1)), (f7.trans (hM.2.2.2.2.1)), (f8.trans (hM.2.2.2.2.2.1)), (f9.trans (hM.2.2.2.2.2.2.1)), (f10.trans (hM.2.2.2.2.2.2.2.1)), (f11.trans (hM.2.2.2.2.2.2.2.2.1)), (f12.trans (hM.2.2.2.2.2.2.2.2.2.1)), (f13.trans (hM.2.2.2.2.2.2.2.2.2.2.1)), (f14.trans (hM.2.2.2.2.2.2.2.2.2.2.2.1)), (f15.trans (hM.2.2.2.2.2.2.2.2.2.2.2.2.1)), (f16.trans (hM.2.2.2.2.2.2.2.2.2.2.2.2.2.1)), (f17.trans (hM.2.2.2.2.2.2.2.2.2.2.2.2.2.2))⟩, fun t ht => ((congrFun hg2 t).symm.trans ((va_up_ne _ _ (by omega)).trans rfl))⟩)
  · skip
    refine qr_iconst (v := 1) C dX7_refused_9 (by decide) ?_
    refine qr_goto (tgt := 14) C dX7_refused_10 (by decide) ?_
    exact qr_zret C rfl (by decide) (Nat.zero_le _) (Nat.zero_le _) dX7_refused_14 (⟨congrArg (fun z => some (Value.int z)) (by simp only [sm_ref, if_neg c18]), rfl, ⟨f3, (f4.trans (hM.2.1)), (f5.trans (hM.2.2.1)), (f6.trans (hM.2.2.2.1)), (f7.trans (hM.2.2.2.2.1)), (f8.trans (hM.2.2.2.2.2.1)), (f9.trans (hM.2.2.2.2.2.2.1)), (f10.trans (hM.2.2.2.2.2.2.2.1)), (f11.trans (hM.2.2.2.2.2.2.2.2.1)), (f12.trans (hM.2.2.2.2.2.2.2.2.2.1)), (f13.trans (hM.2.2.2.2.2.2.2.2.2.2.1)), (f14.trans (hM.2.2.2.2.2.2.2.2.2.2.2.1)), (f15.trans (hM.2.2.2.2.2.2.2.2.2.2.2.2.1)), (f16.trans (hM.2.2.2.2.2.2.2.2.2.2.2.2.2.1)), (f17.trans (hM.2.2.2.2.2.2.2.2.2.2.2.2.2.2))⟩, fun t ht => ((congrFun hg2 t).symm.trans ((va_up_ne _ _ (by omega)).trans rfl))⟩)
def sm_row (σ : Nat → Nat → Int32) (x1 x2 x3 : Int32) : Int32 := if σ 8 x1.toNatClampNeg = 0 then x2 else x3
def sm_ent (σ : Nat → Nat → Int32) (x1 x2 x3 : Int32) : Int32 := if sm_isT x1 = 0 then -1 else if sm_isE (sm_row σ x1 x2 x3) (sm_row σ x1 x3 x2) = 0 then -1 else 6 * sm_row σ x1 x2 x3 + sm_row σ x1 x3 x2
set_option maxHeartbeats 4000000 in
set_option maxRecDepth 100000 in
theorem k_X7_entryOf {l : Launch} (hst : l.stackTraces = false) (D : va_G) (ad : Nat → Nat) (g : qw_G) (σ : Nat → Nat → Int32) (r : Int32) (hM : qm_P D σ r ad g) (x1 x2 x3 : Int32) : qw_M l yX7_entryOf [Cond.code yX7_entryOf cX7_entryOf 6 (some .int)] { frames := 2, cells := 0, slots := 0, locals := 60 } D ad g [(.ref (ad 100)), (.int x1), (.int x2), (.int x3)] (qw_kp ad g (some (.int (sm_ent σ x1 x2 x3)))) 0 0 := by
  refine qw_M.of (maxL := 6) (own := RX7) (lv := [(0, (.ref (ad 100))), (1, (.int x1)), (2, (.int x2)), (3, (.int x3))]) hst (by decide) rfl rfl (Nat.le_of_ble_eq_true rfl) ?_
  intro p e s m args below meth c A C hin
  refine qr_iload_n C dX7_entryOf_0 rfl 1 rfl ?_
  refine qr_callS C (na := 1) (As := [(.int x1)]) (rest := []) (k_X7_isTable hst D ad g (x1)) gi_X7_61 ⟨by decide, by decide, by decide +kernel⟩ rfl rfl (Nat.le_of_ble_eq_true rfl) rfl rfl ⟨Nat.le_of_ble_eq_true rfl, Nat.le_of_ble_eq_true rfl⟩ ⟨Nat.le_of_ble_eq_true rfl, Nat.le_of_ble_eq_true rfl⟩ dX7_entryOf_1 (fun v ad2 g2 hpo => ?_)
  obtain ⟨rfl, rfl, rfl⟩ := hpo
  refine qr_if_ne C 9 dX7_entryOf_4 (by decide) (fun c4 => ?_) (fun c4 => ?_)
  · skip
    obtain ⟨t, ht, hx1⟩ := sm_isT_ok c4
    have M9_0 : ∀ b9 : Int32, b9 = (if (σ 8 (x1.toNatClampNeg)) = 0 then x2 else x3) → qw_W p l e { frames := 2, cells := 0, slots := 0, locals := 60 } s m args below meth c D A 6 (MQ below (qw_Q (qw_kp ad g (some (.int (sm_ent σ x1 x2 x3)))) D A) args s 0 0 A) 0 0 ad g 23 [(0, (.ref (ad 100))), (1, (.int x1)), (2, (.int x2)), (3, (.int x3))] [(.int b9)] := by
      intro b9 hb9
      have hb9 : b9 = sm_row σ x1 x2 x3 := hb9.trans (rfl)
      refine qr_istore (lv' := [(4, (.int b9)), (0, (.ref (ad 100))), (1, (.int x1)), (2, (.int x2)), (3, (.int x3))]) C dX7_entryOf_23 (by decide) rfl ?_
      have M25_1 : ∀ b25 : Int32, b25 = (if (σ 8 (x1.toNatClampNeg)) = 0 then x3 else x2) → qw_W p l e { frames := 2, cells := 0, slots := 0, locals := 60 } s m args below meth c D A 6 (MQ below (qw_Q (qw_kp ad g (some (.int (sm_ent σ x1 x2 x3)))) D A) args s 0 0 A) 0 0 ad g 39 [(4, (.int b9)), (0, (.ref (ad 100))), (1, (.int x1)), (2, (.int x2)), (3, (.int x3))] [(.int b25)] := by
        intro b25 hb25
        have hb25 : b25 = sm_row σ x1 x3 x2 := hb25.trans (rfl)
        refine qr_istore (lv' := [(5, (.int b25)), (4, (.int b9)), (0, (.ref (ad 100))), (1, (.int x1)), (2, (.int x2)), (3, (.int x3))]) C dX7_entryOf_39 (by decide) rfl ?_
        refine qr_iload C dX7_entryOf_41 1 rfl ?_
        refine qr_iload C dX7_entryOf_43 0 rfl ?_
        refine qr_callS C (na := 2) (As := [(.int b9), (.int b25)]) (rest := []) (k_X7_isEntry hst D ad g (b9) (b25)) gi_X7_65 ⟨by decide, by decide, by decide +kernel⟩ rfl rfl (Nat.le_of_ble_eq_true rfl) rfl rfl ⟨Nat.le_of_ble_eq_true rfl, Nat.le_of_ble_eq_true rfl⟩ ⟨Nat.le_of_ble_eq_true rfl, Nat.le_of_ble_eq_true rfl⟩ dX7_entryOf_45 (fun v ad2 g2 hpo => ?_)
        obtain ⟨rfl, rfl, rfl⟩ := hpo
        refine qr_if_eq C 62 dX7_entryOf_48 (by decide) (fun c3 => ?_) (fun c3 => ?_)
        · skip
          refine qr_iconst (v := -1) C dX7_entryOf_62 (by decide) ?_
          exact qr_iret C rfl (Nat.zero_le _) (Nat.zero_le _) dX7_entryOf_63 (qw_kpn (by subst hb9; subst hb25; exact (if_neg c4).trans (if_pos c3)))
        · skip
          refine qr_bipush (v := 6) C dX7_entryOf_51 (by decide) ?_
          refine qr_iload C dX7_entryOf_53 1 rfl ?_
          refine qr_imul C dX7_entryOf_55 ?_
          refine qr_iload C dX7_entryOf_56 0 rfl ?_
          refine qr_iadd C dX7_entryOf_58 ?_
          refine qr_goto (tgt := 63) C dX7_entryOf_59 (by decide) ?_
          exact qr_iret C rfl (Nat.zero_le _) (Nat.zero_le _) dX7_entryOf_63 (qw_kpn (by subst hb9; subst hb25; exact (if_neg c4).trans (if_neg c3)))
      refine qr_aload_n C dX7_entryOf_25 rfl 1 rfl ?_
      refine gf_X7_26 C (100) (hM.1) rfl rfl dX7_entryOf_26 ?_
      refine qr_iload_n C dX7_entryOf_29 rfl 2 rfl ?_
      refine qr_zald C (x := (σ 8 (x1.toNatClampNeg))) (108) (hM.2.2.2.2.2.2.1) rfl (j := t) hx1 (by omega) rfl (sg_cl hx1 (by omega)) dX7_entryOf_30 ?_
      refine qr_if_eq C 38 dX7_entryOf_31 (by decide) (fun c4 => ?_) (fun c4 => ?_)
      · skip
        refine qr_iload_n C dX7_entryOf_38 rfl 4 rfl ?_
        exact M25_1 _ (by simp only [if_pos c4])
      · skip
        refine qr_iload_n C dX7_entryOf_34 rfl 3 rfl ?_
        refine qr_goto (tgt := 39) C dX7_entryOf_35 (by decide) ?_
        exact M25_1 _ (by simp only [if_neg c4])
    refine qr_aload_n C dX7_entryOf_9 rfl 0 rfl ?_
    refine gf_X7_26 C (100) (hM.1) rfl rfl dX7_entryOf_10 ?_
    refine qr_iload_n C dX7_entryOf_13 rfl 1 rfl ?_
    refine qr_zald C (x := (σ 8 (x1.toNatClampNeg))) (108) (hM.2.2.2.2.2.2.1) rfl (j := t) hx1 (by omega) rfl (sg_cl hx1 (by omega)) dX7_entryOf_14 ?_
    refine qr_if_eq C 22 dX7_entryOf_15 (by decide) (fun c5 => ?_) (fun c5 => ?_)
    · skip
      refine qr_iload_n C dX7_entryOf_22 rfl 2 rfl ?_
      exact M9_0 _ (by simp only [if_pos c5])
    · skip
      refine qr_iload_n C dX7_entryOf_18 rfl 3 rfl ?_
      refine qr_goto (tgt := 23) C dX7_entryOf_19 (by decide) ?_
      exact M9_0 _ (by simp only [if_neg c5])
  · skip
    refine qr_iconst (v := -1) C dX7_entryOf_7 (by decide) ?_
    exact qr_iret C rfl (Nat.zero_le _) (Nat.zero_le _) dX7_entryOf_8 (qw_kpn (if_pos c4))
def sm_dstep (t k : Nat) (s : Int32 × (Nat → Int32)) : Int32 × (Nat → Int32) := (s.1 + (if s.2 (4 * t + k) = 0 then 0 else 1), upd s.2 (4 * t + k) 0)
def sm_drop (t : Nat) (A : Nat → Int32) (L : Nat) : Int32 × (Nat → Int32) := sg_it (sm_dstep t) (0, A) L
def sm_dropS (σ : Nat → Nat → Int32) (t L : Nat) : Nat → Nat → Int32 := sg_u (va_up σ 15 (sm_drop t (σ 15) L).2) 18 (σ 18 0 + (sm_drop t (σ 15) L).1)
theorem sg_ix {a b c d : Nat} : nI 4 * nI a + nI b = nI (4 * a + b) := by rw [pk_mul, nI_add]
set_option maxHeartbeats 4000000 in
set_option maxRecDepth 100000 in
theorem k_X7_drop {l : Launch} (hst : l.stackTraces = false) (D : va_G) (ad : Nat → Nat) (g : qw_G) (σ : Nat → Nat → Int32) (r : Int32) (hM : qm_P D σ r ad g) (x1 x2 : Int32) (t L : Nat) (ht : t < 3) (hL : L < 5) (hx1 : x1 = nI t) (hx2 : x2 = nI L) : qw_M l yX7_drop [Cond.code yX7_drop cX7_drop 5 (some .int)] { frames := 0, cells := 0, slots := 0, locals := 0 } D ad g [(.ref (ad 100)), (.int x1), (.int x2)] (qm_to D ad g (some (.int (sm_drop t (σ 15) L).1)) (sm_dropS σ t L) r) 0 0 := by
  refine qw_M.of (maxL := 5) (own := RX7) (lv := [(0, (.ref (ad 100))), (1, (.int x1)), (2, (.int x2))]) hst (by decide) rfl rfl (Nat.le_of_ble_eq_true rfl) ?_
  intro p e s m args below meth c A C hin
  refine qr_iconst (v := 0) C dX7_drop_0 (by decide) ?_
  refine qr_istore_n (lv' := [(3, (.int (0 : Int32))), (0, (.ref (ad 100))), (1, (.int x1)), (2, (.int x2))]) C dX7_drop_1 rfl (by decide) rfl ?_
  refine qr_iconst (v := 0) C dX7_drop_2 (by decide) ?_
  refine qr_istore (lv' := [(4, (.int (0 : Int32))), (3, (.int (0 : Int32))), (0, (.ref (ad 100))), (1, (.int x1)), (2, (.int x2))]) C dX7_drop_3 (by decide) rfl ?_
  have L5 : ∀ (j5 i5 : Nat) (gl5 : qw_G) (nn : Int32), i5 + j5 = L → nn = (sm_drop t (σ 15) i5).1 → (qm_P D (va_up σ 15 (sm_drop t (σ 15) i5).2) r ad gl5 ∧ ∀ t, (t < 100 ∨ 118 ≤ t) → gl5 t = g t) → qw_W p l e { frames := 0, cells := 0, slots := 0, locals := 0 } s m args below meth c D A 5 (MQ below (qw_Q (qm_to D ad g (some (.int (sm_drop t (σ 15) L).1)) (sm_dropS σ t L) r) D A) args s 0 0 A) 0 0 ad gl5 5 [(0, (.ref (ad 100))), (1, (.int x1)), (2, (.int x2)), (3, (.int nn)), (4, (.int (nI i5)))] [] := by
    intro j5
    induction j5 with
    | zero =>
      intro i5 gl5 nn hi5 hnn hw5
      obtain rfl : L = i5 := by omega
      obtain ⟨hM5, hfr5⟩ := hw5
      refine qr_iload C dX7_drop_5 4 rfl ?_
      refine qr_iload_n C dX7_drop_7 rfl 2 rfl ?_
      refine qr_icmp_ge_t C 51 dX7_drop_8 (by decide) ((sg_le (L) (L) hx2 rfl (by omega) (by omega)).mpr (Nat.le_refl _)) ?_
      refine qr_aload_n C dX7_drop_51 rfl 0 rfl ?_
      refine qr_dup C dX7_drop_52 rfl ?_
      refine gf_X7_69 C (100) (hM5.1) rfl rfl dX7_drop_53 ?_
      refine qr_iload_n C dX7_drop_56 rfl 3 rfl ?_
      refine qr_iadd C dX7_drop_57 ?_
      refine pf_X7_69 C (100) (hM5.1) rfl rfl rfl (Nat.le_of_ble_eq_true rfl) rfl dX7_drop_58 ?_
      generalize hg2 : va_up gl5 (100) _ = g1
      have f3 : g1 (100) = some (.inr (6, [(.int r), (.int ((va_up σ 15 (sm_drop t (σ 15) L).2) 1 0)), (.int ((va_up σ 15 (sm_drop t (σ 15) L).2) 2 0)), (.ref (ad 103)), (.ref (ad 104)), (.ref (ad 105)), (.ref (ad 106)), (.ref (ad 107)), (.ref (ad 108)), (.int ((va_up σ 15 (sm_drop t (σ 15) L).2) 9 0)), (.ref (ad 110)), (.ref (ad 111)), (.ref (ad 112)), (.ref (ad 113)), (.ref (ad 114)), (.ref (ad 115)), (.ref (ad 116)), (.ref (ad 117)), (.int (((va_up σ 15 (sm_drop t (σ 15) L).2) 18 0) + nn)), (.int ((va_up σ 15 (sm_drop t (σ 15) L).2) 19 0))])) := by rw [← hg2]; exact va_up_self _ _ _
      have f4 : g1 (103) = gl5 (103) := by rw [← hg2]; exact va_up_ne _ _ (by omega)
      have f5 : g1 (104) = gl5 (104) := by rw [← hg2]; exact va_up_ne _ _ (by omega)
      have f6 : g1 (105) = gl5 (105) := by rw [← hg2]; exact va_up_ne _ _ (by omega)
      have f7 : g1 (106) = gl5 (106) := by rw [← hg2]; exact va_up_ne _ _ (by omega)
      have f8 : g1 (107) = gl5 (107) := by rw [← hg2]; exact va_up_ne _ _ (by omega)
      have f9 : g1 (108) = gl5 (108) := by rw [← hg2]; exact va_up_ne _ _ (by omega)
      have f10 : g1 (110) = gl5 (110) := by rw [← hg2]; exact va_up_ne _ _ (by omega)
      have f11 : g1 (111) = gl5 (111) := by rw [← hg2]; exact va_up_ne _ _ (by omega)
      have f12 : g1 (112) = gl5 (112) := by rw [← hg2]; exact va_up_ne _ _ (by omega)
      have f13 : g1 (113) = gl5 (113) := by rw [← hg2]; exact va_up_ne _ _ (by omega)
      have f14 : g1 (114) = gl5 (114) := by rw [← hg2]; exact va_up_ne _ _ (by omega)
      have f15 : g1 (115) = gl5 (115) := by rw [← hg2]; exact va_up_ne _ _ (by omega)
      have f16 : g1 (116) = gl5 (116) := by rw [← hg2]; exact va_up_ne _ _ (by omega)
      have f17 : g1 (117) = gl5 (117) := by rw [← hg2]; exact va_up_ne _ _ (by omega)
      refine qr_iload_n C dX7_drop_61 rfl 3 rfl ?_
      exact qr_iret C rfl (Nat.zero_le _) (Nat.zero_le _) dX7_drop_62 ((by subst hnn; exact ⟨rfl, rfl, ⟨f3, (f4.trans (hM5.2.1)), (f5.trans (hM5.2.2.1)), (f6.trans (hM5.2.2.2.1)), (f7.trans (hM5.2.2.2.2.1)), (f8.trans (hM5.2.2.2.2.2.1)), (f9.trans (hM5.2.2.2.2.2.2.1)), (f10.trans (hM5.2.2.2.2.2.2.2.1)), (f11.trans (hM5.2.2.2.2.2.2.2.2.1)), (f12.trans (hM5.2.2.2.2.2.2.2.2.2.1)), (f13.trans (hM5.2.2.2.2.2.2.2.2.2.2.1)), (f14.trans (hM5.2.2.2.2.2.2.2.2.2.2.2.1)), (f15.trans (hM5.2.2.2.2.2.2.2.2.2.2.2.2.1)), (f16.trans (hM5.2.2.2.2.2.2.2.2.2.2.2.2.2.1)), (f17.trans (hM5.2.2.2.2.2.2.2.2.2.2.2.2.2.2))⟩, fun t ht => ((congrFun hg2 t).symm.trans ((va_up_ne _ _ (by omega)).trans ((hfr5 t ht).trans rfl)))⟩))
    | succ j5 ih5 =>
      intro i5 gl5 nn hi5 hnn hw5
      obtain ⟨hM5, hfr5⟩ := hw5
      refine qr_iload C dX7_drop_5 4 rfl ?_
      refine qr_iload_n C dX7_drop_7 rfl 2 rfl ?_
      refine qr_icmp_ge_f C 51 dX7_drop_8 (by decide) (fun z => absurd ((sg_le (L) (i5) hx2 rfl (by omega) (by omega)).mp z) (by omega)) ?_
      refine qr_iload_n C dX7_drop_11 rfl 3 rfl ?_
      have M12_17 : ∀ b12 : Int32, b12 = (if (((va_up σ 15 (sm_drop t (σ 15) i5).2) 15) (4 * t + i5)) = 0 then (0 : Int32) else (1 : Int32)) → qw_W p l e { frames := 0, cells := 0, slots := 0, locals := 0 } s m args below meth c D A 5 (MQ below (qw_Q (qm_to D ad g (some (.int (sm_drop t (σ 15) L).1)) (sm_dropS σ t L) r) D A) args s 0 0 A) 0 0 ad gl5 31 [(0, (.ref (ad 100))), (1, (.int x1)), (2, (.int x2)), (3, (.int nn)), (4, (.int (nI i5)))] [(.int b12), (.int nn)] := by
        intro b12 hb12
        refine qr_iadd C dX7_drop_31 ?_
        refine qr_istore_n (lv' := [(3, (.int (nn + b12))), (0, (.ref (ad 100))), (1, (.int x1)), (2, (.int x2)), (4, (.int (nI i5)))]) C dX7_drop_32 rfl (by decide) rfl ?_
        refine qr_aload_n C dX7_drop_33 rfl 1 rfl ?_
        refine gf_X7_44 C (100) (hM5.1) rfl rfl dX7_drop_34 ?_
        refine qr_iconst (v := 4) C dX7_drop_37 (by decide) ?_
        refine qr_iload_n C dX7_drop_38 rfl 2 rfl ?_
        refine qr_imul C dX7_drop_39 ?_
        refine qr_iload C dX7_drop_40 4 rfl ?_
        refine qr_iadd C dX7_drop_42 ?_
        refine qr_iconst (v := 0) C dX7_drop_43 (by decide) ?_
        refine qr_zast C (115) (hM5.2.2.2.2.2.2.2.2.2.2.2.2.1) rfl (j := 4 * t + i5) (by rw [hx1, show (4 : Int32) = nI 4 from rfl, pk_mul, nI_add]) (by omega) rfl (Or.inl rfl) dX7_drop_44 ?_
        generalize hg20 : va_up gl5 (115) _ = g19
        have f21 : g19 (115) = some (.inl (D.1 21, 12, .inl (upd ((va_up σ 15 (sm_drop t (σ 15) i5).2) 15) (4 * t + i5) (0 : Int32)))) := by rw [← hg20]; exact va_up_self _ _ _
        have f22 : g19 (100) = gl5 (100) := by rw [← hg20]; exact va_up_ne _ _ (by omega)
        have f23 : g19 (103) = gl5 (103) := by rw [← hg20]; exact va_up_ne _ _ (by omega)
        have f24 : g19 (104) = gl5 (104) := by rw [← hg20]; exact va_up_ne _ _ (by omega)
        have f25 : g19 (105) = gl5 (105) := by rw [← hg20]; exact va_up_ne _ _ (by omega)
        have f26 : g19 (106) = gl5 (106) := by rw [← hg20]; exact va_up_ne _ _ (by omega)
        have f27 : g19 (107) = gl5 (107) := by rw [← hg20]; exact va_up_ne _ _ (by omega)
        have f28 : g19 (108) = gl5 (108) := by rw [← hg20]; exact va_up_ne _ _ (by omega)
        have f29 : g19 (110) = gl5 (110) := by rw [← hg20]; exact va_up_ne _ _ (by omega)
        have f30 : g19 (111) = gl5 (111) := by rw [← hg20]; exact va_up_ne _ _ (by omega)
        have f31 : g19 (112) = gl5 (112) := by rw [← hg20]; exact va_up_ne _ _ (by omega)
        have f32 : g19 (113) = gl5 (113) := by rw [← hg20]; exact va_up_ne _ _ (by omega)
        have f33 : g19 (114) = gl5 (114) := by rw [← hg20]; exact va_up_ne _ _ (by omega)
        have f34 : g19 (116) = gl5 (116) := by rw [← hg20]; exact va_up_ne _ _ (by omega)
        have f35 : g19 (117) = gl5 (117) := by rw [← hg20]; exact va_up_ne _ _ (by omega)
        refine qr_iinc (v := (nI (i5 + 1))) (lv' := [(4, (.int (nI (i5 + 1)))), (3, (.int (nn + b12))), (0, (.ref (ad 100))), (1, (.int x1)), (2, (.int x2))]) C dX7_drop_45 (w := 4) rfl (nI_1 _) (by decide) rfl ?_
        refine qr_goto (tgt := 5) C dX7_drop_48 (by decide) ?_
        refine qw_pick [2, 3, 4, 1, 0] (lv' := [(0, (.ref (ad 100))), (1, (.int x1)), (2, (.int x2)), (3, (.int (nn + b12))), (4, (.int (nI (i5 + 1))))]) rfl ?_
        exact ih5 (i5 + 1) g19 (nn + b12) (by omega) (by subst hnn; subst hb12; rfl) ⟨⟨(f22.trans (hM5.1)), (f23.trans (hM5.2.1)), (f24.trans (hM5.2.2.1)), (f25.trans (hM5.2.2.2.1)), (f26.trans (hM5.2.2.2.2.1)), (f27.trans (hM5.2.2.2.2.2.1)), (f28.trans (hM5.2.2.2.2.2.2.1)), (f29.trans (hM5.2.2.2.2.2.2.2.1)), (f30.trans (hM5.2.2.2.2.2.2.2.2.1)), (f31.trans (hM5.2.2.2.2.2.2.2.2.2.1)), (f32.trans (hM5.2.2.2.2.2.2.2.2.2.2.1)), (f33.trans (hM5.2.2.2.2.2.2.2.2.2.2.2.1)), f21, (f34.trans (hM5.2.2.2.2.2.2.2.2.2.2.2.2.2.1)), (f35.trans (hM5.2.2.2.2.2.2.2.2.2.2.2.2.2.2))⟩, fun t1 ht => ((congrFun hg20 t1).symm.trans ((va_up_ne _ _ (by omega)).trans ((hfr5 t1 ht).trans rfl)))⟩
      refine qr_aload_n C dX7_drop_12 rfl 0 rfl ?_
      refine gf_X7_44 C (100) (hM5.1) rfl rfl dX7_drop_13 ?_
      refine qr_iconst (v := 4) C dX7_drop_16 (by decide) ?_
      refine qr_iload_n C dX7_drop_17 rfl 1 rfl ?_
      refine qr_imul C dX7_drop_18 ?_
      refine qr_iload C dX7_drop_19 4 rfl ?_
      refine qr_iadd C dX7_drop_21 ?_
      refine qr_zald C (x := (((va_up σ 15 (sm_drop t (σ 15) i5).2) 15) (4 * t + i5))) (115) (hM5.2.2.2.2.2.2.2.2.2.2.2.2.1) rfl (j := 4 * t + i5) (by rw [hx1, show (4 : Int32) = nI 4 from rfl, pk_mul, nI_add]) (by omega) rfl rfl dX7_drop_22 ?_
      refine qr_if_eq C 30 dX7_drop_23 (by decide) (fun c36 => ?_) (fun c36 => ?_)
      · skip
        refine qr_iconst (v := 0) C dX7_drop_30 (by decide) ?_
        exact M12_17 _ (by simp only [if_pos c36])
      · skip
        refine qr_iconst (v := 1) C dX7_drop_26 (by decide) ?_
        refine qr_goto (tgt := 31) C dX7_drop_27 (by decide) ?_
        exact M12_17 _ (by simp only [if_neg c36])
  refine qw_pick [2, 3, 4, 1, 0] (lv' := [(0, (.ref (ad 100))), (1, (.int x1)), (2, (.int x2)), (3, (.int (0 : Int32))), (4, (.int (0 : Int32)))]) rfl ?_
  exact L5 (L) 0 g (0 : Int32) (by omega) rfl ⟨hM, fun _ _ => rfl⟩
def sm_isS (σ : Nat → Nat → Int32) (x1 x2 : Int32) (k : Nat) : Int32 := (if ((σ 3) (k)) = x1 then (if ((σ 7) (k)) = 0 then (if (x2 / (6 : Int32)) = (4 : Int32) then (if (x2 - x2 / (6 : Int32) * (6 : Int32)) = (5 : Int32) then (1 : Int32) else (if ((σ 5) (k)) = (x2 - x2 / (6 : Int32) * (6 : Int32)) then (1 : Int32) else (0 : Int32))) else (if ((σ 4) (k)) = (x2 / (6 : Int32)) then (if (x2 - x2 / (6 : Int32) * (6 : Int32)) = (5 : Int32) then (1 : Int32) else (if ((σ 5) (k)) = (x2 - x2 / (6 : Int32) * (6 : Int32)) then (1 : Int32) else (0 : Int32))) else (0 : Int32))) else (0 : Int32)) else (0 : Int32))
def sm_sumO (σ : Nat → Nat → Int32) (x1 x2 : Int32) (n : Nat) : Int32 := sg_it (fun k s => s + (if sm_isS σ x1 x2 k = 0 then 0 else σ 6 k)) 0 n
set_option maxHeartbeats 4000000 in
set_option maxRecDepth 100000 in
theorem k_X7_sumOf {l : Launch} (hst : l.stackTraces = false) (D : va_G) (ad : Nat → Nat) (g : qw_G) (σ : Nat → Nat → Int32) (r : Int32) (hM : qm_P D σ r ad g) (n : Nat) (hn : σ 2 0 = nI n) (hn2 : n ≤ 120) (x1 x2 : Int32) : qw_M l yX7_sumOf [Cond.code yX7_sumOf cX7_sumOf 8 (some .int)] { frames := 0, cells := 0, slots := 0, locals := 0 } D ad g [(.ref (ad 100)), (.int x1), (.int x2)] (qw_kp ad g (some (.int (sm_sumO σ x1 x2 n)))) 0 0 := by
  refine qw_M.of (maxL := 8) (own := RX7) (lv := [(0, (.ref (ad 100))), (1, (.int x1)), (2, (.int x2))]) hst (by decide) rfl rfl (Nat.le_of_ble_eq_true rfl) ?_
  intro p e s m args below meth c A C hin
  refine qr_iload_n C dX7_sumOf_0 rfl 2 rfl ?_
  refine qr_bipush (v := 6) C dX7_sumOf_1 (by decide) ?_
  refine qr_idiv C dX7_sumOf_3 (by decide) ?_
  refine qr_istore_n (lv' := [(3, (.int (x2 / (6 : Int32)))), (0, (.ref (ad 100))), (1, (.int x1)), (2, (.int x2))]) C dX7_sumOf_4 rfl (by decide) rfl ?_
  refine qr_iload_n C dX7_sumOf_5 rfl 3 rfl ?_
  refine qr_bipush (v := 6) C dX7_sumOf_6 (by decide) ?_
  refine qr_irem C dX7_sumOf_8 (by decide) ?_
  refine qr_istore (lv' := [(4, (.int (x2 - x2 / (6 : Int32) * (6 : Int32)))), (3, (.int (x2 / (6 : Int32)))), (0, (.ref (ad 100))), (1, (.int x1)), (2, (.int x2))]) C dX7_sumOf_9 (by decide) rfl ?_
  refine qr_iconst (v := 0) C dX7_sumOf_11 (by decide) ?_
  refine qr_istore (lv' := [(5, (.int (0 : Int32))), (4, (.int (x2 - x2 / (6 : Int32) * (6 : Int32)))), (3, (.int (x2 / (6 : Int32)))), (0, (.ref (ad 100))), (1, (.int x1)), (2, (.int x2))]) C dX7_sumOf_12 (by decide) rfl ?_
  refine qr_iconst (v := 0) C dX7_sumOf_14 (by decide) ?_
  refine qr_istore (lv' := [(6, (.int (0 : Int32))), (5, (.int (0 : Int32))), (4, (.int (x2 - x2 / (6 : Int32) * (6 : Int32)))), (3, (.int (x2 / (6 : Int32)))), (0, (.ref (ad 100))), (1, (.int x1)), (2, (.int x2))]) C dX7_sumOf_15 (by decide) rfl ?_
  have L17 : ∀ (j17 i17 : Nat) (ac : Int32), i17 + j17 = n → ac = sm_sumO σ x1 x2 i17 → qw_W p l e { frames := 0, cells := 0, slots := 0, locals := 0 } s m args below meth c D A 8 (MQ below (qw_Q (qw_kp ad g (some (.int (sm_sumO σ x1 x2 n)))) D A) args s 0 0 A) 0 0 ad g 17 [(0, (.ref (ad 100))), (1, (.int x1)), (2, (.int x2)), (3, (.int (x2 / (6 : Int32)))), (4, (.int (x2 - x2 / (6 : Int32) * (6 : Int32)))), (5, (.int ac)), (6, (.int (nI i17)))] [] := by
    intro j17
    induction j17 with
    | zero =>
      intro i17 ac hi17 hac
      obtain rfl : n = i17 := by omega
      refine qr_iload C dX7_sumOf_17 6 rfl ?_
      refine qr_aload_n C dX7_sumOf_19 rfl 0 rfl ?_
      refine gf_X7_72 C (100) (hM.1) rfl rfl dX7_sumOf_20 ?_
      refine qr_icmp_ge_t C 115 dX7_sumOf_23 (by decide) ((sg_le (n) (n) hn rfl (by omega) (by omega)).mpr (Nat.le_refl _)) ?_
      refine qr_iload C dX7_sumOf_115 5 rfl ?_
      exact qr_iret C rfl (Nat.zero_le _) (Nat.zero_le _) dX7_sumOf_117 (qw_kpn hac.symm)
    | succ j17 ih17 =>
      intro i17 ac hi17 hac
      refine qr_iload C dX7_sumOf_17 6 rfl ?_
      refine qr_aload_n C dX7_sumOf_19 rfl 0 rfl ?_
      refine gf_X7_72 C (100) (hM.1) rfl rfl dX7_sumOf_20 ?_
      refine qr_icmp_ge_f C 115 dX7_sumOf_23 (by decide) (fun z => absurd ((sg_le (n) (i17) hn rfl (by omega) (by omega)).mp z) (by omega)) ?_
      have M26_0 : ∀ bs : Int32, bs = (if ((σ 3) (i17)) = x1 then (if ((σ 7) (i17)) = 0 then (if (x2 / (6 : Int32)) = (4 : Int32) then (if (x2 - x2 / (6 : Int32) * (6 : Int32)) = (5 : Int32) then (1 : Int32) else (if ((σ 5) (i17)) = (x2 - x2 / (6 : Int32) * (6 : Int32)) then (1 : Int32) else (0 : Int32))) else (if ((σ 4) (i17)) = (x2 / (6 : Int32)) then (if (x2 - x2 / (6 : Int32) * (6 : Int32)) = (5 : Int32) then (1 : Int32) else (if ((σ 5) (i17)) = (x2 - x2 / (6 : Int32) * (6 : Int32)) then (1 : Int32) else (0 : Int32))) else (0 : Int32))) else (0 : Int32)) else (0 : Int32)) → qw_W p l e { frames := 0, cells := 0, slots := 0, locals := 0 } s m args below meth c D A 8 (MQ below (qw_Q (qw_kp ad g (some (.int (sm_sumO σ x1 x2 n)))) D A) args s 0 0 A) 0 0 ad g 86 [(0, (.ref (ad 100))), (1, (.int x1)), (2, (.int x2)), (3, (.int (x2 / (6 : Int32)))), (4, (.int (x2 - x2 / (6 : Int32) * (6 : Int32)))), (5, (.int ac)), (6, (.int (nI i17)))] [(.int bs)] := by
        intro bs hbs
        refine qr_istore (lv' := [(7, (.int bs)), (0, (.ref (ad 100))), (1, (.int x1)), (2, (.int x2)), (3, (.int (x2 / (6 : Int32)))), (4, (.int (x2 - x2 / (6 : Int32) * (6 : Int32)))), (5, (.int ac)), (6, (.int (nI i17)))]) C dX7_sumOf_86 (by decide) rfl ?_
        refine qr_iload C dX7_sumOf_88 6 rfl ?_
        have M90_1 : ∀ bt : Int32, bt = (if bs = 0 then (0 : Int32) else ((σ 6) (i17))) → qw_W p l e { frames := 0, cells := 0, slots := 0, locals := 0 } s m args below meth c D A 8 (MQ below (qw_Q (qw_kp ad g (some (.int (sm_sumO σ x1 x2 n)))) D A) args s 0 0 A) 0 0 ad g 106 [(7, (.int bs)), (0, (.ref (ad 100))), (1, (.int x1)), (2, (.int x2)), (3, (.int (x2 / (6 : Int32)))), (4, (.int (x2 - x2 / (6 : Int32) * (6 : Int32)))), (5, (.int ac)), (6, (.int (nI i17)))] [(.int bt), (.int ac)] := by
          intro bt hbt
          refine qr_iadd C dX7_sumOf_106 ?_
          refine qr_istore (lv' := [(5, (.int (ac + bt))), (7, (.int bs)), (0, (.ref (ad 100))), (1, (.int x1)), (2, (.int x2)), (3, (.int (x2 / (6 : Int32)))), (4, (.int (x2 - x2 / (6 : Int32) * (6 : Int32)))), (6, (.int (nI i17)))]) C dX7_sumOf_107 (by decide) rfl ?_
          refine qr_iinc (v := (nI (i17 + 1))) (lv' := [(6, (.int (nI (i17 + 1)))), (5, (.int (ac + bt))), (7, (.int bs)), (0, (.ref (ad 100))), (1, (.int x1)), (2, (.int x2)), (3, (.int (x2 / (6 : Int32)))), (4, (.int (x2 - x2 / (6 : Int32) * (6 : Int32))))]) C dX7_sumOf_109 (w := 7) rfl (nI_1 _) (by decide) rfl ?_
          refine qr_goto (tgt := 17) C dX7_sumOf_112 (by decide) ?_
          refine qw_pick [3, 4, 5, 6, 7, 1, 0] (lv' := [(0, (.ref (ad 100))), (1, (.int x1)), (2, (.int x2)), (3, (.int (x2 / (6 : Int32)))), (4, (.int (x2 - x2 / (6 : Int32) * (6 : Int32)))), (5, (.int (ac + bt))), (6, (.int (nI (i17 + 1))))]) rfl ?_
          exact ih17 (i17 + 1) (ac + bt) (by omega) (by subst hac; subst hbt; subst hbs; rfl)
        refine qr_iload C dX7_sumOf_90 0 rfl ?_
        refine qr_if_eq C 105 dX7_sumOf_92 (by decide) (fun c3 => ?_) (fun c3 => ?_)
        · skip
          refine qr_iconst (v := 0) C dX7_sumOf_105 (by decide) ?_
          exact M90_1 _ (by simp only [if_pos c3])
        · skip
          refine qr_aload_n C dX7_sumOf_95 rfl 1 rfl ?_
          refine gf_X7_19 C (100) (hM.1) rfl rfl dX7_sumOf_96 ?_
          refine qr_iload C dX7_sumOf_99 7 rfl ?_
          refine qr_iald C (x := ((σ 6) (i17))) (106) (hM.2.2.2.2.1) rfl (j := i17) rfl (by omega) rfl rfl dX7_sumOf_101 ?_
          refine qr_goto (tgt := 106) C dX7_sumOf_102 (by decide) ?_
          exact M90_1 _ (by simp only [if_neg c3])
      refine qr_aload_n C dX7_sumOf_26 rfl 0 rfl ?_
      refine gf_X7_7 C (100) (hM.1) rfl rfl dX7_sumOf_27 ?_
      refine qr_iload C dX7_sumOf_30 6 rfl ?_
      refine qr_iald C (x := ((σ 3) (i17))) (103) (hM.2.1) rfl (j := i17) rfl (by omega) rfl rfl dX7_sumOf_32 ?_
      refine qr_iload_n C dX7_sumOf_33 rfl 1 rfl ?_
      refine qr_icmp_ne C 85 dX7_sumOf_34 (by decide) (fun c4 => ?_) (fun c4 => ?_)
      · skip
        refine qr_iconst (v := 0) C dX7_sumOf_85 (by decide) ?_
        exact M26_0 _ (by simp only [if_neg c4])
      · skip
        refine qr_aload_n C dX7_sumOf_37 rfl 0 rfl ?_
        refine gf_X7_22 C (100) (hM.1) rfl rfl dX7_sumOf_38 ?_
        refine qr_iload C dX7_sumOf_41 6 rfl ?_
        refine qr_zald C (x := ((σ 7) (i17))) (107) (hM.2.2.2.2.2.1) rfl (j := i17) rfl (by omega) rfl rfl dX7_sumOf_43 ?_
        refine qr_if_ne C 85 dX7_sumOf_44 (by decide) (fun c5 => ?_) (fun c5 => ?_)
        · skip
          refine qr_iconst (v := 0) C dX7_sumOf_85 (by decide) ?_
          exact M26_0 _ (by simp only [if_pos c4, if_neg c5])
        · skip
          refine qr_iload_n C dX7_sumOf_47 rfl 3 rfl ?_
          refine qr_iconst (v := 4) C dX7_sumOf_48 (by decide) ?_
          refine qr_icmp_eq C 63 dX7_sumOf_49 (by decide) (fun c6 => ?_) (fun c6 => ?_)
          · skip
            refine qr_iload C dX7_sumOf_63 4 rfl ?_
            refine qr_iconst (v := 5) C dX7_sumOf_65 (by decide) ?_
            refine qr_icmp_eq C 81 dX7_sumOf_66 (by decide) (fun c7 => ?_) (fun c7 => ?_)
            · skip
              refine qr_iconst (v := 1) C dX7_sumOf_81 (by decide) ?_
              refine qr_goto (tgt := 86) C dX7_sumOf_82 (by decide) ?_
              exact M26_0 _ (by simp only [if_pos c4, if_pos c5, if_pos c6, if_pos c7])
            · skip
              refine qr_aload_n C dX7_sumOf_69 rfl 0 rfl ?_
              refine gf_X7_16 C (100) (hM.1) rfl rfl dX7_sumOf_70 ?_
              refine qr_iload C dX7_sumOf_73 6 rfl ?_
              refine qr_iald C (x := ((σ 5) (i17))) (105) (hM.2.2.2.1) rfl (j := i17) rfl (by omega) rfl rfl dX7_sumOf_75 ?_
              refine qr_iload C dX7_sumOf_76 4 rfl ?_
              refine qr_icmp_ne C 85 dX7_sumOf_78 (by decide) (fun c8 => ?_) (fun c8 => ?_)
              · skip
                refine qr_iconst (v := 0) C dX7_sumOf_85 (by decide) ?_
                exact M26_0 _ (by simp only [if_pos c4, if_pos c5, if_pos c6, if_neg c7, if_neg c8])
              · skip
                refine qr_iconst (v := 1) C dX7_sumOf_81 (by decide) ?_
                refine qr_goto (tgt := 86) C dX7_sumOf_82 (by decide) ?_
                exact M26_0 _ (by simp only [if_pos c4, if_pos c5, if_pos c6, if_neg c7, if_pos c8])
          · skip
            refine qr_aload_n C dX7_sumOf_52 rfl 0 rfl ?_
            refine gf_X7_13 C (100) (hM.1) rfl rfl dX7_sumOf_53 ?_
            refine qr_iload C dX7_sumOf_56 6 rfl ?_
            refine qr_iald C (x := ((σ 4) (i17))) (104) (hM.2.2.1) rfl (j := i17) rfl (by omega) rfl rfl dX7_sumOf_58 ?_
            refine qr_iload_n C dX7_sumOf_59 rfl 3 rfl ?_
            refine qr_icmp_ne C 85 dX7_sumOf_60 (by decide) (fun c9 => ?_) (fun c9 => ?_)
            · skip
              refine qr_iconst (v := 0) C dX7_sumOf_85 (by decide) ?_
              exact M26_0 _ (by simp only [if_pos c4, if_pos c5, if_neg c6, if_neg c9])
            · skip
              refine qr_iload C dX7_sumOf_63 4 rfl ?_
              refine qr_iconst (v := 5) C dX7_sumOf_65 (by decide) ?_
              refine qr_icmp_eq C 81 dX7_sumOf_66 (by decide) (fun c10 => ?_) (fun c10 => ?_)
              · skip
                refine qr_iconst (v := 1) C dX7_sumOf_81 (by decide) ?_
                refine qr_goto (tgt := 86) C dX7_sumOf_82 (by decide) ?_
                exact M26_0 _ (by simp only [if_pos c4, if_pos c5, if_neg c6, if_pos c9, if_pos c10])
              · skip
                refine qr_aload_n C dX7_sumOf_69 rfl 0 rfl ?_
                refine gf_X7_16 C (100) (hM.1) rfl rfl dX7_sumOf_70 ?_
                refine qr_iload C dX7_sumOf_73 6 rfl ?_
                refine qr_iald C (x := ((σ 5) (i17))) (105) (hM.2.2.2.1) rfl (j := i17) rfl (by omega) rfl rfl dX7_sumOf_75 ?_
                refine qr_iload C dX7_sumOf_76 4 rfl ?_
                refine qr_icmp_ne C 85 dX7_sumOf_78 (by decide) (fun c11 => ?_) (fun c11 => ?_)
                · skip
                  refine qr_iconst (v := 0) C dX7_sumOf_85 (by decide) ?_
                  exact M26_0 _ (by simp only [if_pos c4, if_pos c5, if_neg c6, if_pos c9, if_neg c10, if_neg c11])
                · skip
                  refine qr_iconst (v := 1) C dX7_sumOf_81 (by decide) ?_
                  refine qr_goto (tgt := 86) C dX7_sumOf_82 (by decide) ?_
                  exact M26_0 _ (by simp only [if_pos c4, if_pos c5, if_neg c6, if_pos c9, if_neg c10, if_pos c11])
  refine qw_pick [4, 5, 6, 3, 2, 1, 0] (lv' := [(0, (.ref (ad 100))), (1, (.int x1)), (2, (.int x2)), (3, (.int (x2 / (6 : Int32)))), (4, (.int (x2 - x2 / (6 : Int32) * (6 : Int32)))), (5, (.int (0 : Int32))), (6, (.int (0 : Int32)))]) rfl ?_
  exact L17 (n) 0 (0 : Int32) (by omega) rfl
def sm_lasts (σ : Nat → Nat → Int32) (k : Nat) : Int32 := if σ 14 k = 0 then (if σ 13 k ≤ σ 1 0 then 0 else 1) else 0
set_option maxHeartbeats 4000000 in
set_option maxRecDepth 100000 in
theorem k_X7_lasts {l : Launch} (hst : l.stackTraces = false) (D : va_G) (ad : Nat → Nat) (g : qw_G) (σ : Nat → Nat → Int32) (r : Int32) (hM : qm_P D σ r ad g) (x1 : Int32) (k : Nat) (hk : k < 40) (hx1 : x1 = nI k) : qw_M l yX7_lasts [Cond.code yX7_lasts cX7_lasts 2 (some .boolean)] { frames := 0, cells := 0, slots := 0, locals := 0 } D ad g [(.ref (ad 100)), (.int x1)] (qw_kp ad g (some (.int (sm_lasts σ k)))) 0 0 := by
  refine qw_M.of (maxL := 2) (own := RX7) (lv := [(0, (.ref (ad 100))), (1, (.int x1))]) hst (by decide) rfl rfl (Nat.le_of_ble_eq_true rfl) ?_
  intro p e s m args below meth c A C hin
  refine qr_aload_n C dX7_lasts_0 rfl 0 rfl ?_
  refine gf_X7_41 C (100) (hM.1) rfl rfl dX7_lasts_1 ?_
  refine qr_iload_n C dX7_lasts_4 rfl 1 rfl ?_
  refine qr_zald C (x := ((σ 14) (k))) (114) (hM.2.2.2.2.2.2.2.2.2.2.2.1) rfl (j := k) hx1 (by omega) rfl rfl dX7_lasts_5 ?_
  refine qr_if_ne C 26 dX7_lasts_6 (by decide) (fun c1 => ?_) (fun c1 => ?_)
  · skip
    refine qr_iconst (v := 0) C dX7_lasts_26 (by decide) ?_
    exact qr_zret C rfl (by decide) (Nat.zero_le _) (Nat.zero_le _) dX7_lasts_27 (qw_kpn (by simp only [sm_lasts, if_neg c1]))
  · skip
    refine qr_aload_n C dX7_lasts_9 rfl 0 rfl ?_
    refine gf_X7_92 C (100) (hM.1) rfl rfl dX7_lasts_10 ?_
    refine qr_aload_n C dX7_lasts_13 rfl 0 rfl ?_
    refine gf_X7_38 C (100) (hM.1) rfl rfl dX7_lasts_14 ?_
    refine qr_iload_n C dX7_lasts_17 rfl 1 rfl ?_
    refine qr_iald C (x := ((σ 13) (k))) (113) (hM.2.2.2.2.2.2.2.2.2.2.1) rfl (j := k) hx1 (by omega) rfl rfl dX7_lasts_18 ?_
    refine qr_icmp_ge C 26 dX7_lasts_19 (by decide) (fun c2 => ?_) (fun c2 => ?_)
    · skip
      refine qr_iconst (v := 0) C dX7_lasts_26 (by decide) ?_
      exact qr_zret C rfl (by decide) (Nat.zero_le _) (Nat.zero_le _) dX7_lasts_27 (qw_kpn (by simp only [sm_lasts, if_pos c1, if_pos c2]))
    · skip
      refine qr_iconst (v := 1) C dX7_lasts_22 (by decide) ?_
      refine qr_goto (tgt := 27) C dX7_lasts_23 (by decide) ?_
      exact qr_zret C rfl (by decide) (Nat.zero_le _) (Nat.zero_le _) dX7_lasts_27 (qw_kpn (by simp only [sm_lasts, if_pos c1, if_neg c2]))
theorem sm_lasts01 (σ : Nat → Nat → Int32) (k : Nat) : sm_lasts σ k = 0 ∨ sm_lasts σ k = 1 := by unfold sm_lasts; by_cases h : σ 14 k = 0 <;> by_cases h2 : σ 13 k ≤ σ 1 0 <;> simp [h, h2]
def sm_bterm (σ : Nat → Nat → Int32) (x1 x2 : Int32) (k : Nat) : Int32 := if sm_lasts σ k = 0 then 0 else if σ 10 k = x1 then (if σ 12 k ≤ x2 then 0 else 1 <<< (σ 11 k &&& 31)) else 0
def sm_bar (σ : Nat → Nat → Int32) (x1 x2 : Int32) (n : Nat) : Int32 := sg_it (fun k s => s ||| sm_bterm σ x1 x2 k) 0 n
set_option maxHeartbeats 4000000 in
set_option maxRecDepth 100000 in
theorem k_X7_barred {l : Launch} (hst : l.stackTraces = false) (D : va_G) (ad : Nat → Nat) (g : qw_G) (σ : Nat → Nat → Int32) (r : Int32) (hM : qm_P D σ r ad g) (n : Nat) (hn : σ 9 0 = nI n) (hn2 : n ≤ 40) (x1 x2 : Int32) : qw_M l yX7_barred [Cond.code yX7_barred cX7_barred 5 (some .int)] { frames := 1, cells := 0, slots := 0, locals := 40 } D ad g [(.ref (ad 100)), (.int x1), (.int x2)] (qw_kp ad g (some (.int (sm_bar σ x1 x2 n)))) 0 0 := by
  refine qw_M.of (maxL := 5) (own := RX7) (lv := [(0, (.ref (ad 100))), (1, (.int x1)), (2, (.int x2))]) hst (by decide) rfl rfl (Nat.le_of_ble_eq_true rfl) ?_
  intro p e s m args below meth c A C hin
  refine qr_iconst (v := 0) C dX7_barred_0 (by decide) ?_
  refine qr_istore_n (lv' := [(3, (.int (0 : Int32))), (0, (.ref (ad 100))), (1, (.int x1)), (2, (.int x2))]) C dX7_barred_1 rfl (by decide) rfl ?_
  refine qr_iconst (v := 0) C dX7_barred_2 (by decide) ?_
  refine qr_istore (lv' := [(4, (.int (0 : Int32))), (3, (.int (0 : Int32))), (0, (.ref (ad 100))), (1, (.int x1)), (2, (.int x2))]) C dX7_barred_3 (by decide) rfl ?_
  have L5 : ∀ (j5 i5 : Nat) (ac : Int32), i5 + j5 = n → ac = sm_bar σ x1 x2 i5 → qw_W p l e { frames := 1, cells := 0, slots := 0, locals := 40 } s m args below meth c D A 5 (MQ below (qw_Q (qw_kp ad g (some (.int (sm_bar σ x1 x2 n)))) D A) args s 0 0 A) 0 0 ad g 5 [(0, (.ref (ad 100))), (1, (.int x1)), (2, (.int x2)), (3, (.int ac)), (4, (.int (nI i5)))] [] := by
    intro j5
    induction j5 with
    | zero =>
      intro i5 ac hi5 hac
      obtain rfl : n = i5 := by omega
      refine qr_iload C dX7_barred_5 4 rfl ?_
      refine qr_aload_n C dX7_barred_7 rfl 0 rfl ?_
      refine gf_X7_95 C (100) (hM.1) rfl rfl dX7_barred_8 ?_
      refine qr_icmp_ge_t C 67 dX7_barred_11 (by decide) ((sg_le (n) (n) hn rfl (by omega) (by omega)).mpr (Nat.le_refl _)) ?_
      refine qr_iload_n C dX7_barred_67 rfl 3 rfl ?_
      exact qr_iret C rfl (Nat.zero_le _) (Nat.zero_le _) dX7_barred_68 (qw_kpn hac.symm)
    | succ j5 ih5 =>
      intro i5 ac hi5 hac
      refine qr_iload C dX7_barred_5 4 rfl ?_
      refine qr_aload_n C dX7_barred_7 rfl 0 rfl ?_
      refine gf_X7_95 C (100) (hM.1) rfl rfl dX7_barred_8 ?_
      refine qr_icmp_ge_f C 67 dX7_barred_11 (by decide) (fun z => absurd ((sg_le (n) (i5) hn rfl (by omega) (by omega)).mp z) (by omega)) ?_
      refine qr_iload_n C dX7_barred_14 rfl 3 rfl ?_
      have M15_0 : ∀ bt : Int32, bt = (if (sm_lasts σ (i5)) = 0 then (0 : Int32) else (if ((σ 10) (i5)) = x1 then (if ((σ 12) (i5)) ≤ x2 then (0 : Int32) else ((1 : Int32) <<< (((σ 11) (i5)) &&& 31))) else (0 : Int32))) → qw_W p l e { frames := 1, cells := 0, slots := 0, locals := 40 } s m args below meth c D A 5 (MQ below (qw_Q (qw_kp ad g (some (.int (sm_bar σ x1 x2 n)))) D A) args s 0 0 A) 0 0 ad g 59 [(0, (.ref (ad 100))), (1, (.int x1)), (2, (.int x2)), (3, (.int ac)), (4, (.int (nI i5)))] [(.int bt), (.int ac)] := by
        intro bt hbt
        refine qr_ior C dX7_barred_59 ?_
        refine qr_istore_n (lv' := [(3, (.int (ac ||| bt))), (0, (.ref (ad 100))), (1, (.int x1)), (2, (.int x2)), (4, (.int (nI i5)))]) C dX7_barred_60 rfl (by decide) rfl ?_
        refine qr_iinc (v := (nI (i5 + 1))) (lv' := [(4, (.int (nI (i5 + 1)))), (3, (.int (ac ||| bt))), (0, (.ref (ad 100))), (1, (.int x1)), (2, (.int x2))]) C dX7_barred_61 (w := 4) rfl (nI_1 _) (by decide) rfl ?_
        refine qr_goto (tgt := 5) C dX7_barred_64 (by decide) ?_
        refine qw_pick [2, 3, 4, 1, 0] (lv' := [(0, (.ref (ad 100))), (1, (.int x1)), (2, (.int x2)), (3, (.int (ac ||| bt))), (4, (.int (nI (i5 + 1))))]) rfl ?_
        exact ih5 (i5 + 1) (ac ||| bt) (by omega) (by subst hac; subst hbt; rfl)
      refine qr_aload_n C dX7_barred_15 rfl 0 rfl ?_
      refine qr_iload C dX7_barred_16 4 rfl ?_
      refine qr_callV C (na := 1) (As := [(.int (nI i5))]) (rest := [(.int ac)]) (k_X7_lasts hst D ad g σ r hM (nI i5) i5 (by omega) rfl) (100) (hM.1) rfl rfl gi_X7_98 rfl ⟨by decide, by decide, by decide +kernel⟩ rfl rfl (Nat.le_of_ble_eq_true rfl) rfl rfl ⟨Nat.le_of_ble_eq_true rfl, Nat.le_of_ble_eq_true rfl⟩ ⟨Nat.le_of_ble_eq_true rfl, Nat.le_of_ble_eq_true rfl⟩ dX7_barred_18 (fun v ad2 g2 hpo => ?_)
      obtain ⟨rfl, rfl, rfl⟩ := hpo
      refine qr_if_eq C 58 dX7_barred_21 (by decide) (fun c2 => ?_) (fun c2 => ?_)
      · skip
        refine qr_iconst (v := 0) C dX7_barred_58 (by decide) ?_
        exact M15_0 _ (by simp only [if_pos c2])
      · skip
        refine qr_aload_n C dX7_barred_24 rfl 0 rfl ?_
        refine gf_X7_29 C (100) (hM.1) rfl rfl dX7_barred_25 ?_
        refine qr_iload C dX7_barred_28 4 rfl ?_
        refine qr_iald C (x := ((σ 10) (i5))) (110) (hM.2.2.2.2.2.2.2.1) rfl (j := i5) rfl (by omega) rfl rfl dX7_barred_30 ?_
        refine qr_iload_n C dX7_barred_31 rfl 1 rfl ?_
        refine qr_icmp_ne C 58 dX7_barred_32 (by decide) (fun c3 => ?_) (fun c3 => ?_)
        · skip
          refine qr_iconst (v := 0) C dX7_barred_58 (by decide) ?_
          exact M15_0 _ (by simp only [if_neg c2, if_neg c3])
        · skip
          refine qr_aload_n C dX7_barred_35 rfl 0 rfl ?_
          refine gf_X7_35 C (100) (hM.1) rfl rfl dX7_barred_36 ?_
          refine qr_iload C dX7_barred_39 4 rfl ?_
          refine qr_iald C (x := ((σ 12) (i5))) (112) (hM.2.2.2.2.2.2.2.2.2.1) rfl (j := i5) rfl (by omega) rfl rfl dX7_barred_41 ?_
          refine qr_iload_n C dX7_barred_42 rfl 2 rfl ?_
          refine qr_icmp_le C 58 dX7_barred_43 (by decide) (fun c4 => ?_) (fun c4 => ?_)
          · skip
            refine qr_iconst (v := 0) C dX7_barred_58 (by decide) ?_
            exact M15_0 _ (by simp only [if_neg c2, if_pos c3, if_pos c4])
          · skip
            refine qr_iconst (v := 1) C dX7_barred_46 (by decide) ?_
            refine qr_aload_n C dX7_barred_47 rfl 0 rfl ?_
            refine gf_X7_32 C (100) (hM.1) rfl rfl dX7_barred_48 ?_
            refine qr_iload C dX7_barred_51 4 rfl ?_
            refine qr_iald C (x := ((σ 11) (i5))) (111) (hM.2.2.2.2.2.2.2.2.1) rfl (j := i5) rfl (by omega) rfl rfl dX7_barred_53 ?_
            refine qr_ishl C dX7_barred_54 ?_
            refine qr_goto (tgt := 59) C dX7_barred_55 (by decide) ?_
            exact M15_0 _ (by simp only [if_neg c2, if_pos c3, if_neg c4])
  refine qw_pick [2, 3, 4, 1, 0] (lv' := [(0, (.ref (ad 100))), (1, (.int x1)), (2, (.int x2)), (3, (.int (0 : Int32))), (4, (.int (0 : Int32)))]) rfl ?_
  exact L5 (n) 0 (0 : Int32) (by omega) rfl
end
section
/-! the model's public methods -/
/-- what a call of the model does: c: the code of its refusal (0: none), v: its answer, σ': the state then -/
def qm_op (D : va_G) (ad : Nat → Nat) (g : qw_G) (c v : Int32) (σ σ' : Nat → Nat → Int32) : Option Value → (Nat → Nat) → qw_G → Prop := fun v' ad' g' => ad = ad' ∧ (∀ t, (t < 100 ∨ 118 ≤ t) → g' t = g t) ∧ ((¬ c = 0 ∧ some (.int 0) = v' ∧ qm_P D σ c ad g') ∨ (c = 0 ∧ some (.int v) = v' ∧ qm_P D σ' c ad g'))
theorem sg_vi {x y : Int32} (h : x = y) : some (Value.int x) = some (Value.int y) := by rw [h]
def sm_are (x1 x2 x3 : Int32) : Int32 := (if (sm_isT (x1)) = 0 then (0 : Int32) else (if (sm_in (x2) ((0 : Int32)) ((3 : Int32))) = 0 then (0 : Int32) else (if (sm_in (x3) ((0 : Int32)) ((4 : Int32))) = 0 then (0 : Int32) else (1 : Int32))))
def sm_csale (σ : Nat → Nat → Int32) (x1 x2 x3 x4 : Int32) : Int32 := if sm_are x1 x2 x3 = 0 then 1 else if sm_in x4 (-1000) 1000 = 0 then 2 else if σ 2 0 = 120 then 3 else 0
def sm_saleS1 (σ : Nat → Nat → Int32) (n : Nat) (x1 x2 x3 x4 : Int32) : Nat → Nat → Int32 := sg_u (va_up (va_up (va_up (va_up σ 3 (upd (σ 3) n x1)) 4 (upd (σ 4) n x2)) 5 (upd (σ 5) n x3)) 6 (upd (σ 6) n x4)) 2 (σ 2 0 + 1)
def sm_saleS (σ : Nat → Nat → Int32) (n : Nat) (x1 x2 x3 x4 : Int32) : Nat → Nat → Int32 := sm_dropS (sm_saleS1 σ n x1 x2 x3 x4) x1.toNatClampNeg 4
theorem sm_are_ok {x1 x2 x3 : Int32} (h : ¬ sm_are x1 x2 x3 = 0) : ¬ sm_isT x1 = 0 ∧ ¬ sm_in x2 0 3 = 0 ∧ ¬ sm_in x3 0 4 = 0 := by
  unfold sm_are at h
  refine ⟨fun z => ?_, fun z => ?_, fun z => ?_⟩ <;> revert h <;> simp [z]
theorem sm_csale_ok {σ : Nat → Nat → Int32} {n : Nat} {x1 x2 x3 x4 : Int32} (hn : σ 2 0 = nI n) (hn2 : n ≤ 120) (h : sm_csale σ x1 x2 x3 x4 = 0) : ∃ t, t < 3 ∧ x1 = nI t ∧ n < 120 ∧ x1.toNatClampNeg = t := by
  unfold sm_csale at h
  by_cases h1 : sm_are x1 x2 x3 = 0
  · rw [if_pos h1] at h; exact absurd h (by decide)
  · rw [if_neg h1] at h
    by_cases h2 : sm_in x4 (-1000) 1000 = 0
    · rw [if_pos h2] at h; exact absurd h (by decide)
    · rw [if_neg h2] at h
      by_cases h3 : σ 2 0 = 120
      · rw [if_pos h3] at h; exact absurd h (by decide)
      · obtain ⟨t, ht, hx⟩ := sm_isT_ok (sm_are_ok h1).1
        refine ⟨t, ht, hx, ?_, by rw [hx, nI_clamp (by omega)]⟩
        have : ¬ n = 120 := fun z => h3 (by rw [hn, z]; rfl)
        omega
set_option maxHeartbeats 4000000 in
set_option maxRecDepth 100000 in
theorem k_X7_sale {l : Launch} (hst : l.stackTraces = false) (D : va_G) (ad : Nat → Nat) (g : qw_G) (σ : Nat → Nat → Int32) (r : Int32) (hM : qm_P D σ r ad g) (n : Nat) (hn : σ 2 0 = nI n) (hn2 : n ≤ 120) (x1 x2 x3 x4 : Int32) : qw_M l yX7_sale [Cond.code yX7_sale cX7_sale 7 (some .int)] { frames := 2, cells := 0, slots := 0, locals := 70 } D ad g [(.ref (ad 100)), (.int x1), (.int x2), (.int x3), (.int x4)] (qm_op D ad g (sm_csale σ x1 x2 x3 x4) (σ 2 0) σ (sm_saleS σ n x1 x2 x3 x4)) 0 0 := by
  refine qw_M.of (maxL := 7) (own := RX7) (lv := [(0, (.ref (ad 100))), (1, (.int x1)), (2, (.int x2)), (3, (.int x3)), (4, (.int x4))]) hst (by decide) rfl rfl (Nat.le_of_ble_eq_true rfl) ?_
  intro p e s m args below meth c A C hin
  have M0_0 : ∀ b0 : Int32, b0 = (if (sm_isT (x1)) = 0 then (0 : Int32) else (if (sm_in (x2) ((0 : Int32)) ((3 : Int32))) = 0 then (0 : Int32) else (if (sm_in (x3) ((0 : Int32)) ((4 : Int32))) = 0 then (0 : Int32) else (1 : Int32)))) → qw_W p l e { frames := 2, cells := 0, slots := 0, locals := 70 } s m args below meth c D A 7 (MQ below (qw_Q (qm_op D ad g (sm_csale σ x1 x2 x3 x4) (σ 2 0) σ (sm_saleS σ n x1 x2 x3 x4)) D A) args s 0 0 A) 0 0 ad g 30 [(0, (.ref (ad 100))), (1, (.int x1)), (2, (.int x2)), (3, (.int x3)), (4, (.int x4))] [(.int b0)] := by
    intro b0 hb0
    refine qr_istore (lv' := [(5, (.int b0)), (0, (.ref (ad 100))), (1, (.int x1)), (2, (.int x2)), (3, (.int x3)), (4, (.int x4))]) C dX7_sale_30 (by decide) rfl ?_
    refine qr_iload C dX7_sale_32 5 rfl ?_
    refine qr_sipush (v := -1000) C dX7_sale_34 (by decide) ?_
    refine qr_sipush (v := 1000) C dX7_sale_37 (by decide) ?_
    refine qr_callS C (na := 3) (As := [(.int x4), (.int (-1000 : Int32)), (.int (1000 : Int32))]) (rest := []) (k_X7_in hst D ad g (x4) ((-1000 : Int32)) ((1000 : Int32))) gi_X7_57 ⟨by decide, by decide, by decide +kernel⟩ rfl rfl (Nat.le_of_ble_eq_true rfl) rfl rfl ⟨Nat.le_of_ble_eq_true rfl, Nat.le_of_ble_eq_true rfl⟩ ⟨Nat.le_of_ble_eq_true rfl, Nat.le_of_ble_eq_true rfl⟩ dX7_sale_40 (fun v ad2 g2 hpo => ?_)
    obtain ⟨rfl, rfl, rfl⟩ := hpo
    refine qr_istore (lv' := [(6, (.int (sm_in (x4) ((-1000 : Int32)) ((1000 : Int32))))), (5, (.int b0)), (0, (.ref (ad 100))), (1, (.int x1)), (2, (.int x2)), (3, (.int x3)), (4, (.int x4))]) C dX7_sale_43 (by decide) rfl ?_
    refine qr_aload_n C dX7_sale_45 rfl 2 rfl ?_
    have M46_1 : ∀ bk : Int32, bk = (if b0 = 0 then (1 : Int32) else (if (sm_in (x4) ((-1000 : Int32)) ((1000 : Int32))) = 0 then (2 : Int32) else (if (σ 2 0) = (120 : Int32) then (3 : Int32) else (0 : Int32)))) → qw_W p l e { frames := 2, cells := 0, slots := 0, locals := 70 } s m args below meth c D A 7 (MQ below (qw_Q (qm_op D ad g (sm_csale σ x1 x2 x3 x4) (σ 2 0) σ (sm_saleS σ n x1 x2 x3 x4)) D A) args s 0 0 A) 0 0 ad g 78 [(6, (.int (sm_in (x4) ((-1000 : Int32)) ((1000 : Int32))))), (5, (.int b0)), (0, (.ref (ad 100))), (1, (.int x1)), (2, (.int x2)), (3, (.int x3)), (4, (.int x4))] [(.int bk), (.ref (ad 100))] := by
      intro bk hbk
      have hbk : bk = sm_csale σ x1 x2 x3 x4 := hbk.trans ((by subst hb0; rfl))
      refine qr_callV C (na := 1) (As := [(.int bk)]) (rest := []) (k_X7_refused hst D ad g σ r hM bk) (100) (hM.1) rfl rfl gi_X7_75 rfl ⟨by decide, by decide, by decide +kernel⟩ rfl rfl (Nat.le_of_ble_eq_true rfl) rfl rfl ⟨Nat.le_of_ble_eq_true rfl, Nat.le_of_ble_eq_true rfl⟩ ⟨Nat.le_of_ble_eq_true rfl, Nat.le_of_ble_eq_true rfl⟩ dX7_sale_78 (fun v ad2 gc3 hpo4 => ?_)
      obtain ⟨rfl, rfl, hM5, hfr6⟩ := hpo4
      refine qr_if_eq C 86 dX7_sale_81 (by decide) (fun c81 => ?_) (fun c81 => ?_)
      · skip
        obtain ⟨t0, ht0, hx1, hn3, hx1c⟩ := sm_csale_ok hn hn2 (hbk.symm.trans (sm_ref0.mp c81))
        refine qr_aload_n C dX7_sale_86 rfl 2 rfl ?_
        refine gf_X7_7 C (100) (hM5.1) rfl rfl dX7_sale_87 ?_
        refine qr_aload_n C dX7_sale_90 rfl 2 rfl ?_
        refine gf_X7_72 C (100) (hM5.1) rfl rfl dX7_sale_91 ?_
        refine qr_iload_n C dX7_sale_94 rfl 3 rfl ?_
        refine qr_iast C (103) (hM5.2.1) rfl (j := n) hn (by omega) rfl dX7_sale_95 ?_
        generalize hg8 : va_up gc3 (103) _ = g7
        have f9 : g7 (103) = some (.inl (D.1 20, 120, .inl (upd (σ 3) (n) x1))) := by rw [← hg8]; exact va_up_self _ _ _
        have f10 : g7 (100) = gc3 (100) := by rw [← hg8]; exact va_up_ne _ _ (by omega)
        have f11 : g7 (104) = gc3 (104) := by rw [← hg8]; exact va_up_ne _ _ (by omega)
        have f12 : g7 (105) = gc3 (105) := by rw [← hg8]; exact va_up_ne _ _ (by omega)
        have f13 : g7 (106) = gc3 (106) := by rw [← hg8]; exact va_up_ne _ _ (by omega)
        have f14 : g7 (107) = gc3 (107) := by rw [← hg8]; exact va_up_ne _ _ (by omega)
        have f15 : g7 (108) = gc3 (108) := by rw [← hg8]; exact va_up_ne _ _ (by omega)
        have f16 : g7 (110) = gc3 (110) := by rw [← hg8]; exact va_up_ne _ _ (by omega)
        have f17 : g7 (111) = gc3 (111) := by rw [← hg8]; exact va_up_ne _ _ (by omega)
        have f18 : g7 (112) = gc3 (112) := by rw [← hg8]; exact va_up_ne _ _ (by omega)
        have f19 : g7 (113) = gc3 (113) := by rw [← hg8]; exact va_up_ne _ _ (by omega)
        have f20 : g7 (114) = gc3 (114) := by rw [← hg8]; exact va_up_ne _ _ (by omega)
        have f21 : g7 (115) = gc3 (115) := by rw [← hg8]; exact va_up_ne _ _ (by omega)
        have f22 : g7 (116) = gc3 (116) := by rw [← hg8]; exact va_up_ne _ _ (by omega)
        have f23 : g7 (117) = gc3 (117) := by rw [← hg8]; exact va_up_ne _ _ (by omega)
        refine qr_aload_n C dX7_sale_96 rfl 2 rfl ?_
        refine gf_X7_13 C (100) ((f10.trans (hM5.1))) rfl rfl dX7_sale_97 ?_
        refine qr_aload_n C dX7_sale_100 rfl 2 rfl ?_
        refine gf_X7_72 C (100) ((f10.trans (hM5.1))) rfl rfl dX7_sale_101 ?_
        refine qr_iload_n C dX7_sale_104 rfl 4 rfl ?_
        refine qr_iast C (104) ((f11.trans (hM5.2.2.1))) rfl (j := n) hn (by omega) rfl dX7_sale_105 ?_
        generalize hg25 : va_up g7 (104) _ = g24
        have f26 : g24 (104) = some (.inl (D.1 20, 120, .inl (upd (σ 4) (n) x2))) := by rw [← hg25]; exact va_up_self _ _ _
        have f27 : g24 (100) = g7 (100) := by rw [← hg25]; exact va_up_ne _ _ (by omega)
        have f28 : g24 (105) = g7 (105) := by rw [← hg25]; exact va_up_ne _ _ (by omega)
        have f29 : g24 (106) = g7 (106) := by rw [← hg25]; exact va_up_ne _ _ (by omega)
        have f30 : g24 (107) = g7 (107) := by rw [← hg25]; exact va_up_ne _ _ (by omega)
        have f31 : g24 (108) = g7 (108) := by rw [← hg25]; exact va_up_ne _ _ (by omega)
        have f32 : g24 (110) = g7 (110) := by rw [← hg25]; exact va_up_ne _ _ (by omega)
        have f33 : g24 (111) = g7 (111) := by rw [← hg25]; exact va_up_ne _ _ (by omega)
        have f34 : g24 (112) = g7 (112) := by rw [← hg25]; exact va_up_ne _ _ (by omega)
        have f35 : g24 (113) = g7 (113) := by rw [← hg25]; exact va_up_ne _ _ (by omega)
        have f36 : g24 (114) = g7 (114) := by rw [← hg25]; exact va_up_ne _ _ (by omega)
        have f37 : g24 (115) = g7 (115) := by rw [← hg25]; exact va_up_ne _ _ (by omega)
        have f38 : g24 (116) = g7 (116) := by rw [← hg25]; exact va_up_ne _ _ (by omega)
        have f39 : g24 (117) = g7 (117) := by rw [← hg25]; exact va_up_ne _ _ (by omega)
        have f40 : g24 (103) = g7 (103) := by rw [← hg25]; exact va_up_ne _ _ (by omega)
        refine qr_aload_n C dX7_sale_106 rfl 2 rfl ?_
        refine gf_X7_16 C (100) ((f27.trans ((f10.trans (hM5.1))))) rfl rfl dX7_sale_107 ?_
        refine qr_aload_n C dX7_sale_110 rfl 2 rfl ?_
        refine gf_X7_72 C (100) ((f27.trans ((f10.trans (hM5.1))))) rfl rfl dX7_sale_111 ?_
        refine qr_iload_n C dX7_sale_114 rfl 5 rfl ?_
        refine qr_iast C (105) ((f28.trans ((f12.trans (hM5.2.2.2.1))))) rfl (j := n) hn (by omega) rfl dX7_sale_115 ?_
        generalize hg42 : va_up g24 (105) _ = g41
        have f43 : g41 (105) = some (.inl (D.1 20, 120, .inl (upd (σ 5) (n) x3))) := by rw [← hg42]; exact va_up_self _ _ _
        have f44 : g41 (100) = g24 (100) := by rw [← hg42]; exact va_up_ne _ _ (by omega)
        have f45 : g41 (106) = g24 (106) := by rw [← hg42]; exact va_up_ne _ _ (by omega)
        have f46 : g41 (107) = g24 (107) := by rw [← hg42]; exact va_up_ne _ _ (by omega)
        have f47 : g41 (108) = g24 (108) := by rw [← hg42]; exact va_up_ne _ _ (by omega)
        have f48 : g41 (110) = g24 (110) := by rw [← hg42]; exact va_up_ne _ _ (by omega)
        have f49 : g41 (111) = g24 (111) := by rw [← hg42]; exact va_up_ne _ _ (by omega)
        have f50 : g41 (112) = g24 (112) := by rw [← hg42]; exact va_up_ne _ _ (by omega)
        have f51 : g41 (113) = g24 (113) := by rw [← hg42]; exact va_up_ne _ _ (by omega)
        have f52 : g41 (114) = g24 (114) := by rw [← hg42]; exact va_up_ne _ _ (by omega)
        have f53 : g41 (115) = g24 (115) := by rw [← hg42]; exact va_up_ne _ _ (by omega)
        have f54 : g41 (116) = g24 (116) := by rw [← hg42]; exact va_up_ne _ _ (by omega)
        have f55 : g41 (117) = g24 (117) := by rw [← hg42]; exact va_up_ne _ _ (by omega)
        have f56 : g41 (103) = g24 (103) := by rw [← hg42]; exact va_up_ne _ _ (by omega)
        have f57 : g41 (104) = g24 (104) := by rw [← hg42]; exact va_up_ne _ _ (by omega)
        refine qr_aload_n C dX7_sale_116 rfl 2 rfl ?_
        refine gf_X7_19 C (100) ((f44.trans ((f27.trans ((f10.trans (hM5.1))))))) rfl rfl dX7_sale_117 ?_
        refine qr_aload_n C dX7_sale_120 rfl 2 rfl ?_
        refine gf_X7_72 C (100) ((f44.trans ((f27.trans ((f10.trans (hM5.1))))))) rfl rfl dX7_sale_121 ?_
        refine qr_iload C dX7_sale_124 6 rfl ?_
        refine qr_iast C (106) ((f45.trans ((f29.trans ((f13.trans (hM5.2.2.2.2.1))))))) rfl (j := n) hn (by omega) rfl dX7_sale_126 ?_
        generalize hg59 : va_up g41 (106) _ = g58
        have f60 : g58 (106) = some (.inl (D.1 20, 120, .inl (upd (σ 6) (n) x4))) := by rw [← hg59]; exact va_up_self _ _ _
        have f61 : g58 (100) = g41 (100) := by rw [← hg59]; exact va_up_ne _ _ (by omega)
        have f62 : g58 (107) = g41 (107) := by rw [← hg59]; exact va_up_ne _ _ (by omega)
        have f63 : g58 (108) = g41 (108) := by rw [← hg59]; exact va_up_ne _ _ (by omega)
        have f64 : g58 (110) = g41 (110) := by rw [← hg59]; exact va_up_ne _ _ (by omega)
        have f65 : g58 (111) = g41 (111) := by rw [← hg59]; exact va_up_ne _ _ (by omega)
        have f66 : g58 (112) = g41 (112) := by rw [← hg59]; exact va_up_ne _ _ (by omega)
        have f67 : g58 (113) = g41 (113) := by rw [← hg59]; exact va_up_ne _ _ (by omega)
        have f68 : g58 (114) = g41 (114) := by rw [← hg59]; exact va_up_ne _ _ (by omega)
        have f69 : g58 (115) = g41 (115) := by rw [← hg59]; exact va_up_ne _ _ (by omega)
        have f70 : g58 (116) = g41 (116) := by rw [← hg59]; exact va_up_ne _ _ (by omega)
        have f71 : g58 (117) = g41 (117) := by rw [← hg59]; exact va_up_ne _ _ (by omega)
        have f72 : g58 (103) = g41 (103) := by rw [← hg59]; exact va_up_ne _ _ (by omega)
        have f73 : g58 (104) = g41 (104) := by rw [← hg59]; exact va_up_ne _ _ (by omega)
        have f74 : g58 (105) = g41 (105) := by rw [← hg59]; exact va_up_ne _ _ (by omega)
        refine qr_aload_n C dX7_sale_127 rfl 2 rfl ?_
        refine qr_dup C dX7_sale_128 rfl ?_
        refine gf_X7_72 C (100) ((f61.trans ((f44.trans ((f27.trans ((f10.trans (hM5.1))))))))) rfl rfl dX7_sale_129 ?_
        refine qr_iconst (v := 1) C dX7_sale_132 (by decide) ?_
        refine qr_iadd C dX7_sale_133 ?_
        refine pf_X7_72 C (100) ((f61.trans ((f44.trans ((f27.trans ((f10.trans (hM5.1))))))))) rfl rfl rfl (Nat.le_of_ble_eq_true rfl) rfl dX7_sale_134 ?_
        generalize hg76 : va_up g58 (100) _ = g75
        have f77 : g75 (100) = some (.inr (6, [(.int bk), (.int (σ 1 0)), (.int ((σ 2 0) + (1 : Int32))), (.ref (ad 103)), (.ref (ad 104)), (.ref (ad 105)), (.ref (ad 106)), (.ref (ad 107)), (.ref (ad 108)), (.int (σ 9 0)), (.ref (ad 110)), (.ref (ad 111)), (.ref (ad 112)), (.ref (ad 113)), (.ref (ad 114)), (.ref (ad 115)), (.ref (ad 116)), (.ref (ad 117)), (.int (σ 18 0)), (.int (σ 19 0))])) := by rw [← hg76]; exact va_up_self _ _ _
        have f78 : g75 (107) = g58 (107) := by rw [← hg76]; exact va_up_ne _ _ (by omega)
        have f79 : g75 (108) = g58 (108) := by rw [← hg76]; exact va_up_ne _ _ (by omega)
        have f80 : g75 (110) = g58 (110) := by rw [← hg76]; exact va_up_ne _ _ (by omega)
        have f81 : g75 (111) = g58 (111) := by rw [← hg76]; exact va_up_ne _ _ (by omega)
        have f82 : g75 (112) = g58 (112) := by rw [← hg76]; exact va_up_ne _ _ (by omega)
        have f83 : g75 (113) = g58 (113) := by rw [← hg76]; exact va_up_ne _ _ (by omega)
        have f84 : g75 (114) = g58 (114) := by rw [← hg76]; exact va_up_ne _ _ (by omega)
        have f85 : g75 (115) = g58 (115) := by rw [← hg76]; exact va_up_ne _ _ (by omega)
        have f86 : g75 (116) = g58 (116) := by rw [← hg76]; exact va_up_ne _ _ (by omega)
        have f87 : g75 (117) = g58 (117) := by rw [← hg76]; exact va_up_ne _ _ (by omega)
        have f88 : g75 (103) = g58 (103) := by rw [← hg76]; exact va_up_ne _ _ (by omega)
        have f89 : g75 (104) = g58 (104) := by rw [← hg76]; exact va_up_ne _ _ (by omega)
        have f90 : g75 (105) = g58 (105) := by rw [← hg76]; exact va_up_ne _ _ (by omega)
        have f91 : g75 (106) = g58 (106) := by rw [← hg76]; exact va_up_ne _ _ (by omega)
        refine qr_aload_n C dX7_sale_137 rfl 2 rfl ?_
        refine qr_iload_n C dX7_sale_138 rfl 3 rfl ?_
        refine qr_iconst (v := 4) C dX7_sale_139 (by decide) ?_
        have hM96 : qm_P D (sm_saleS1 σ n x1 x2 x3 x4) bk ad g75 := ⟨f77, (f88.trans ((f72.trans ((f56.trans ((f40.trans (f9)))))))), (f89.trans ((f73.trans ((f57.trans (f26)))))), (f90.trans ((f74.trans (f43)))), (f91.trans (f60)), (f78.trans ((f62.trans ((f46.trans ((f30.trans ((f14.trans (hM5.2.2.2.2.2.1)))))))))), (f79.trans ((f63.trans ((f47.trans ((f31.trans ((f15.trans (hM5.2.2.2.2.2.2.1)))))))))), (f80.trans ((f64.trans ((f48.trans ((f32.trans ((f16.trans (hM5.2.2.2.2.2.2.2.1)))))))))), (f81.trans ((f65.trans ((f49.trans ((f33.trans ((f17.trans (hM5.2.2.2.2.2.2.2.2.1)))))))))), (f82.trans ((f66.trans ((f50.trans ((f34.trans ((f18.trans (hM5.2.2.2.2.2.2.2.2.2.1)))))))))), (f83.trans ((f67.trans ((f51.trans ((f35.trans ((f19.trans (hM5.2.2.2.2.2.2.2.2.2.2.1)))))))))), (f84.trans ((f68.trans ((f52.trans ((f36.trans ((f20.trans (hM5.2.2.2.2.2.2.2.2.2.2.2.1)))))))))), (f85.trans ((f69.trans ((f53.trans ((f37.trans ((f21.trans (hM5.2.2.2.2.2.2.2.2.2.2.2.2.1)))))))))), (f86.trans ((f70.trans ((f54.trans ((f38.trans ((f22.trans (hM5.2.2.2.2.2.2.2.2.2.2.2.2.2.1)))))))))), (f87.trans ((f71.trans ((f55.trans ((f39.trans ((f23.trans (hM5.2.2.2.2.2.2.2.2.2.2.2.2.2.2))))))))))⟩
        refine qr_callV C (na := 2) (As := [(.int x1), (.int (4 : Int32))]) (rest := []) (k_X7_drop hst D ad g75 (sm_saleS1 σ n x1 x2 x3 x4) bk hM96 (x1) ((4 : Int32)) (t0) (4) ht0 (by omega) hx1 rfl) (100) (f77) rfl rfl gi_X7_78 rfl ⟨by decide, by decide, by decide +kernel⟩ rfl rfl (Nat.le_of_ble_eq_true rfl) rfl rfl ⟨Nat.le_of_ble_eq_true rfl, Nat.le_of_ble_eq_true rfl⟩ ⟨Nat.le_of_ble_eq_true rfl, Nat.le_of_ble_eq_true rfl⟩ dX7_sale_140 (fun v ad2 gc92 hpo93 => ?_)
        obtain ⟨rfl, rfl, hM94, hfr95⟩ := hpo93
        refine qr_pop C dX7_sale_143 rfl ?_
        refine qr_aload_n C dX7_sale_144 rfl 2 rfl ?_
        refine gf_X7_72 C (100) (hM94.1) rfl rfl dX7_sale_145 ?_
        refine qr_iconst (v := 1) C dX7_sale_148 (by decide) ?_
        refine qr_isub C dX7_sale_149 ?_
        exact qr_iret C rfl (Nat.zero_le _) (Nat.zero_le _) dX7_sale_150 ((by subst hbk; exact ⟨rfl, fun t ht => ((hfr95 t ht).trans ((congrFun hg76 t).symm.trans ((va_up_ne _ _ (by omega)).trans ((congrFun hg59 t).symm.trans ((va_up_ne _ _ (by omega)).trans ((congrFun hg42 t).symm.trans ((va_up_ne _ _ (by omega)).trans ((congrFun hg25 t).symm.trans ((va_up_ne _ _ (by omega)).trans ((congrFun hg8 t).symm.trans ((va_up_ne _ _ (by omega)).trans ((hfr6 t ht).trans rfl)))))))))))), Or.inr ⟨sm_ref0.mp c81, sg_vi (by show σ 2 0 = σ 2 0 + 1 - 1; rw [Int32.add_sub_cancel]), (by unfold sm_saleS; rw [hx1c]; exact hM94)⟩⟩))
      · skip
        refine qr_iconst (v := 0) C dX7_sale_84 (by decide) ?_
        exact qr_iret C rfl (Nat.zero_le _) (Nat.zero_le _) dX7_sale_85 ((by subst hbk; exact ⟨rfl, fun t ht => ((hfr6 t ht).trans rfl), Or.inl ⟨fun z => c81 (sm_ref0.mpr z), rfl, hM5⟩⟩))
    refine qr_iload C dX7_sale_46 1 rfl ?_
    refine qr_if_ne C 55 dX7_sale_48 (by decide) (fun c97 => ?_) (fun c97 => ?_)
    · skip
      refine qr_iload C dX7_sale_55 0 rfl ?_
      refine qr_if_ne C 64 dX7_sale_57 (by decide) (fun c98 => ?_) (fun c98 => ?_)
      · skip
        refine qr_aload_n C dX7_sale_64 rfl 2 rfl ?_
        refine gf_X7_72 C (100) (hM.1) rfl rfl dX7_sale_65 ?_
        refine qr_bipush (v := 120) C dX7_sale_68 (by decide) ?_
        refine qr_icmp_ne C 77 dX7_sale_70 (by decide) (fun c99 => ?_) (fun c99 => ?_)
        · skip
          refine qr_iconst (v := 0) C dX7_sale_77 (by decide) ?_
          exact M46_1 _ (by simp only [if_neg c97, if_neg c98, if_neg c99])
        · skip
          refine qr_iconst (v := 3) C dX7_sale_73 (by decide) ?_
          refine qr_goto (tgt := 78) C dX7_sale_74 (by decide) ?_
          exact M46_1 _ (by simp only [if_neg c97, if_neg c98, if_pos c99])
      · skip
        refine qr_iconst (v := 2) C dX7_sale_60 (by decide) ?_
        refine qr_goto (tgt := 78) C dX7_sale_61 (by decide) ?_
        exact M46_1 _ (by simp only [if_neg c97, if_pos c98])
    · skip
      refine qr_iconst (v := 1) C dX7_sale_51 (by decide) ?_
      refine qr_goto (tgt := 78) C dX7_sale_52 (by decide) ?_
      exact M46_1 _ (by simp only [if_pos c97])
  refine qr_iload_n C dX7_sale_0 rfl 1 rfl ?_
  refine qr_callS C (na := 1) (As := [(.int x1)]) (rest := []) (k_X7_isTable hst D ad g (x1)) gi_X7_61 ⟨by decide, by decide, by decide +kernel⟩ rfl rfl (Nat.le_of_ble_eq_true rfl) rfl rfl ⟨Nat.le_of_ble_eq_true rfl, Nat.le_of_ble_eq_true rfl⟩ ⟨Nat.le_of_ble_eq_true rfl, Nat.le_of_ble_eq_true rfl⟩ dX7_sale_1 (fun v ad2 g2 hpo => ?_)
  obtain ⟨rfl, rfl, rfl⟩ := hpo
  refine qr_if_eq C 29 dX7_sale_4 (by decide) (fun c100 => ?_) (fun c100 => ?_)
  · skip
    refine qr_iconst (v := 0) C dX7_sale_29 (by decide) ?_
    exact M0_0 _ (by simp only [if_pos c100])
  · skip
    refine qr_iload_n C dX7_sale_7 rfl 2 rfl ?_
    refine qr_iconst (v := 0) C dX7_sale_8 (by decide) ?_
    refine qr_iconst (v := 3) C dX7_sale_9 (by decide) ?_
    refine qr_callS C (na := 3) (As := [(.int x2), (.int (0 : Int32)), (.int (3 : Int32))]) (rest := []) (k_X7_in hst D ad g (x2) ((0 : Int32)) ((3 : Int32))) gi_X7_57 ⟨by decide, by decide, by decide +kernel⟩ rfl rfl (Nat.le_of_ble_eq_true rfl) rfl rfl ⟨Nat.le_of_ble_eq_true rfl, Nat.le_of_ble_eq_true rfl⟩ ⟨Nat.le_of_ble_eq_true rfl, Nat.le_of_ble_eq_true rfl⟩ dX7_sale_10 (fun v ad2 g2 hpo => ?_)
    obtain ⟨rfl, rfl, rfl⟩ := hpo
    refine qr_if_eq C 29 dX7_sale_13 (by decide) (fun c101 => ?_) (fun c101 => ?_)
    · skip
      refine qr_iconst (v := 0) C dX7_sale_29 (by decide) ?_
      exact M0_0 _ (by simp only [if_neg c100, if_pos c101])
    · skip
      refine qr_iload_n C dX7_sale_16 rfl 3 rfl ?_
      refine qr_iconst (v := 0) C dX7_sale_17 (by decide) ?_
      refine qr_iconst (v := 4) C dX7_sale_18 (by decide) ?_
      refine qr_callS C (na := 3) (As := [(.int x3), (.int (0 : Int32)), (.int (4 : Int32))]) (rest := []) (k_X7_in hst D ad g (x3) ((0 : Int32)) ((4 : Int32))) gi_X7_57 ⟨by decide, by decide, by decide +kernel⟩ rfl rfl (Nat.le_of_ble_eq_true rfl) rfl rfl ⟨Nat.le_of_ble_eq_true rfl, Nat.le_of_ble_eq_true rfl⟩ ⟨Nat.le_of_ble_eq_true rfl, Nat.le_of_ble_eq_true rfl⟩ dX7_sale_19 (fun v ad2 g2 hpo => ?_)
      obtain ⟨rfl, rfl, rfl⟩ := hpo
      refine qr_if_eq C 29 dX7_sale_22 (by decide) (fun c102 => ?_) (fun c102 => ?_)
      · skip
        refine qr_iconst (v := 0) C dX7_sale_29 (by decide) ?_
        exact M0_0 _ (by simp only [if_neg c100, if_neg c101, if_pos c102])
      · skip
        refine qr_iconst (v := 1) C dX7_sale_25 (by decide) ?_
        refine qr_goto (tgt := 30) C dX7_sale_26 (by decide) ?_
        exact M0_0 _ (by simp only [if_neg c100, if_neg c101, if_neg c102])
def sm_ctake (σ : Nat → Nat → Int32) (x1 : Int32) : Int32 := if sm_in x1 0 (σ 2 0 - 1) = 0 then 1 else if σ 7 x1.toNatClampNeg = 0 then 0 else 2
theorem sm_in_n {x y : Int32} {n : Nat} (hn : y = nI n) (hn2 : n ≤ 120) (h : ¬ sm_in x 0 (y - 1) = 0) : ∃ i, i < n ∧ x = nI i := by
  rw [sm_in_i] at h
  have e0 : (0 : Int32).toInt = 0 := by decide
  cases n with
  | zero =>
    subst hn
    have e1 : ((nI 0 : Int32) - 1).toInt = -1 := by decide
    omega
  | succ k =>
    have e1 : (y - 1).toInt = (k : Int) := by rw [hn, nI_pred, nI_toInt (by omega)]
    exact sg_nat (by omega) (by omega) (by omega)
def sm_takeS (σ : Nat → Nat → Int32) (x1 : Int32) : Nat → Nat → Int32 := sm_dropS (va_up σ 7 (upd (σ 7) x1.toNatClampNeg 1)) (σ 3 x1.toNatClampNeg).toNatClampNeg 4
set_option maxHeartbeats 4000000 in
set_option maxRecDepth 100000 in
theorem k_X7_takeBack {l : Launch} (hst : l.stackTraces = false) (D : va_G) (ad : Nat → Nat) (g : qw_G) (σ : Nat → Nat → Int32) (r : Int32) (hM : qm_P D σ r ad g) (n : Nat) (hn : σ 2 0 = nI n) (hn2 : n ≤ 120) (hT : ∀ i, i < n → ∃ t, t < 3 ∧ σ 3 i = nI t) (x1 : Int32) : qw_M l yX7_takeBack [Cond.code yX7_takeBack cX7_takeBack 3 (some .int)] { frames := 2, cells := 0, slots := 0, locals := 70 } D ad g [(.ref (ad 100)), (.int x1)] (qm_op D ad g (sm_ctake σ x1) (σ 6 x1.toNatClampNeg) σ (sm_takeS σ x1)) 0 0 := by
  refine qw_M.of (maxL := 3) (own := RX7) (lv := [(0, (.ref (ad 100))), (1, (.int x1))]) hst (by decide) rfl rfl (Nat.le_of_ble_eq_true rfl) ?_
  intro p e s m args below meth c A C hin
  refine qr_iload_n C dX7_takeBack_0 rfl 1 rfl ?_
  refine qr_iconst (v := 0) C dX7_takeBack_1 (by decide) ?_
  refine qr_aload_n C dX7_takeBack_2 rfl 0 rfl ?_
  refine gf_X7_72 C (100) (hM.1) rfl rfl dX7_takeBack_3 ?_
  refine qr_iconst (v := 1) C dX7_takeBack_6 (by decide) ?_
  refine qr_isub C dX7_takeBack_7 ?_
  refine qr_callS C (na := 3) (As := [(.int x1), (.int (0 : Int32)), (.int ((σ 2 0) - (1 : Int32)))]) (rest := []) (k_X7_in hst D ad g (x1) ((0 : Int32)) (((σ 2 0) - (1 : Int32)))) gi_X7_57 ⟨by decide, by decide, by decide +kernel⟩ rfl rfl (Nat.le_of_ble_eq_true rfl) rfl rfl ⟨Nat.le_of_ble_eq_true rfl, Nat.le_of_ble_eq_true rfl⟩ ⟨Nat.le_of_ble_eq_true rfl, Nat.le_of_ble_eq_true rfl⟩ dX7_takeBack_8 (fun v ad2 g2 hpo => ?_)
  obtain ⟨rfl, rfl, rfl⟩ := hpo
  refine qr_istore_n (lv' := [(2, (.int (sm_in (x1) ((0 : Int32)) (((σ 2 0) - (1 : Int32)))))), (0, (.ref (ad 100))), (1, (.int x1))]) C dX7_takeBack_11 rfl (by decide) rfl ?_
  refine qr_aload_n C dX7_takeBack_12 rfl 1 rfl ?_
  have M13_0 : ∀ bk : Int32, bk = (if (sm_in (x1) ((0 : Int32)) (((σ 2 0) - (1 : Int32)))) = 0 then (1 : Int32) else (if (σ 7 (x1.toNatClampNeg)) = 0 then (0 : Int32) else (2 : Int32))) → qw_W p l e { frames := 2, cells := 0, slots := 0, locals := 70 } s m args below meth c D A 3 (MQ below (qw_Q (qm_op D ad g (sm_ctake σ x1) (σ 6 x1.toNatClampNeg) σ (sm_takeS σ x1)) D A) args s 0 0 A) 0 0 ad g 35 [(2, (.int (sm_in (x1) ((0 : Int32)) (((σ 2 0) - (1 : Int32)))))), (0, (.ref (ad 100))), (1, (.int x1))] [(.int bk), (.ref (ad 100))] := by
    intro bk hbk
    have hbk : bk = sm_ctake σ x1 := hbk.trans (rfl)
    refine qr_callV C (na := 1) (As := [(.int bk)]) (rest := []) (k_X7_refused hst D ad g σ r hM bk) (100) (hM.1) rfl rfl gi_X7_75 rfl ⟨by decide, by decide, by decide +kernel⟩ rfl rfl (Nat.le_of_ble_eq_true rfl) rfl rfl ⟨Nat.le_of_ble_eq_true rfl, Nat.le_of_ble_eq_true rfl⟩ ⟨Nat.le_of_ble_eq_true rfl, Nat.le_of_ble_eq_true rfl⟩ dX7_takeBack_35 (fun v ad2 gc2 hpo3 => ?_)
    obtain ⟨rfl, rfl, hM4, hfr5⟩ := hpo3
    refine qr_if_eq C 43 dX7_takeBack_38 (by decide) (fun c38 => ?_) (fun c38 => ?_)
    · skip
      have hok := hbk.symm.trans (sm_ref0.mp c38)
      have c14 : ¬ sm_in x1 0 (σ 2 0 - 1) = 0 := fun z => absurd ((if_pos z).symm.trans hok) (by decide)
      obtain ⟨i0, hi0, hx1⟩ := sm_in_n hn hn2 c14
      obtain ⟨t0, ht0, htt⟩ := hT i0 hi0
      have hic : x1.toNatClampNeg = i0 := by rw [hx1, nI_clamp (by omega)]
      have htc : (σ 3 i0).toNatClampNeg = t0 := by rw [htt, nI_clamp (by omega)]
      refine qr_aload_n C dX7_takeBack_43 rfl 1 rfl ?_
      refine gf_X7_22 C (100) (hM4.1) rfl rfl dX7_takeBack_44 ?_
      refine qr_iload_n C dX7_takeBack_47 rfl 2 rfl ?_
      refine qr_iconst (v := 1) C dX7_takeBack_48 (by decide) ?_
      refine qr_zast C (107) (hM4.2.2.2.2.2.1) rfl (j := i0) hx1 (by omega) rfl (Or.inr rfl) dX7_takeBack_49 ?_
      generalize hg7 : va_up gc2 (107) _ = g6
      have f8 : g6 (107) = some (.inl (D.1 21, 120, .inl (upd (σ 7) (i0) (1 : Int32)))) := by rw [← hg7]; exact va_up_self _ _ _
      have f9 : g6 (100) = gc2 (100) := by rw [← hg7]; exact va_up_ne _ _ (by omega)
      have f10 : g6 (103) = gc2 (103) := by rw [← hg7]; exact va_up_ne _ _ (by omega)
      have f11 : g6 (104) = gc2 (104) := by rw [← hg7]; exact va_up_ne _ _ (by omega)
      have f12 : g6 (105) = gc2 (105) := by rw [← hg7]; exact va_up_ne _ _ (by omega)
      have f13 : g6 (106) = gc2 (106) := by rw [← hg7]; exact va_up_ne _ _ (by omega)
      have f14 : g6 (108) = gc2 (108) := by rw [← hg7]; exact va_up_ne _ _ (by omega)
      have f15 : g6 (110) = gc2 (110) := by rw [← hg7]; exact va_up_ne _ _ (by omega)
      have f16 : g6 (111) = gc2 (111) := by rw [← hg7]; exact va_up_ne _ _ (by omega)
      have f17 : g6 (112) = gc2 (112) := by rw [← hg7]; exact va_up_ne _ _ (by omega)
      have f18 : g6 (113) = gc2 (113) := by rw [← hg7]; exact va_up_ne _ _ (by omega)
      have f19 : g6 (114) = gc2 (114) := by rw [← hg7]; exact va_up_ne _ _ (by omega)
      have f20 : g6 (115) = gc2 (115) := by rw [← hg7]; exact va_up_ne _ _ (by omega)
      have f21 : g6 (116) = gc2 (116) := by rw [← hg7]; exact va_up_ne _ _ (by omega)
      have f22 : g6 (117) = gc2 (117) := by rw [← hg7]; exact va_up_ne _ _ (by omega)
      refine qr_aload_n C dX7_takeBack_50 rfl 1 rfl ?_
      refine qr_aload_n C dX7_takeBack_51 rfl 1 rfl ?_
      refine gf_X7_7 C (100) ((f9.trans (hM4.1))) rfl rfl dX7_takeBack_52 ?_
      refine qr_iload_n C dX7_takeBack_55 rfl 2 rfl ?_
      refine qr_iald C (x := ((σ 3) (i0))) (103) ((f10.trans (hM4.2.1))) rfl (j := i0) hx1 (by omega) rfl rfl dX7_takeBack_56 ?_
      refine qr_iconst (v := 4) C dX7_takeBack_57 (by decide) ?_
      have hM27 : qm_P D ((va_up σ 7 (upd (σ 7) i0 1))) bk ad g6 := ⟨(f9.trans (hM4.1)), (f10.trans (hM4.2.1)), (f11.trans (hM4.2.2.1)), (f12.trans (hM4.2.2.2.1)), (f13.trans (hM4.2.2.2.2.1)), f8, (f14.trans (hM4.2.2.2.2.2.2.1)), (f15.trans (hM4.2.2.2.2.2.2.2.1)), (f16.trans (hM4.2.2.2.2.2.2.2.2.1)), (f17.trans (hM4.2.2.2.2.2.2.2.2.2.1)), (f18.trans (hM4.2.2.2.2.2.2.2.2.2.2.1)), (f19.trans (hM4.2.2.2.2.2.2.2.2.2.2.2.1)), (f20.trans (hM4.2.2.2.2.2.2.2.2.2.2.2.2.1)), (f21.trans (hM4.2.2.2.2.2.2.2.2.2.2.2.2.2.1)), (f22.trans (hM4.2.2.2.2.2.2.2.2.2.2.2.2.2.2))⟩
      refine qr_callV C (na := 2) (As := [(.int ((σ 3) (i0))), (.int (4 : Int32))]) (rest := []) (k_X7_drop hst D ad g6 ((va_up σ 7 (upd (σ 7) i0 1))) bk hM27 (((σ 3) (i0))) ((4 : Int32)) (t0) (4) ht0 (by omega) htt rfl) (100) ((f9.trans (hM4.1))) rfl rfl gi_X7_78 rfl ⟨by decide, by decide, by decide +kernel⟩ rfl rfl (Nat.le_of_ble_eq_true rfl) rfl rfl ⟨Nat.le_of_ble_eq_true rfl, Nat.le_of_ble_eq_true rfl⟩ ⟨Nat.le_of_ble_eq_true rfl, Nat.le_of_ble_eq_true rfl⟩ dX7_takeBack_58 (fun v ad2 gc23 hpo24 => ?_)
      obtain ⟨rfl, rfl, hM25, hfr26⟩ := hpo24
      refine qr_pop C dX7_takeBack_61 rfl ?_
      refine qr_aload_n C dX7_takeBack_62 rfl 1 rfl ?_
      refine gf_X7_19 C (100) (hM25.1) rfl rfl dX7_takeBack_63 ?_
      refine qr_iload_n C dX7_takeBack_66 rfl 2 rfl ?_
      refine qr_iald C (x := (((sm_dropS ((va_up σ 7 (upd (σ 7) i0 1))) (t0) (4)) 6) (i0))) (106) (hM25.2.2.2.2.1) rfl (j := i0) hx1 (by omega) rfl rfl dX7_takeBack_67 ?_
      exact qr_iret C rfl (Nat.zero_le _) (Nat.zero_le _) dX7_takeBack_68 ((by subst hbk; exact ⟨rfl, fun t ht => ((hfr26 t ht).trans ((congrFun hg7 t).symm.trans ((va_up_ne _ _ (by omega)).trans ((hfr5 t ht).trans rfl)))), Or.inr ⟨sm_ref0.mp c38, sg_vi (by rw [hic]; rfl), (by unfold sm_takeS; rw [hic, htc]; exact hM25)⟩⟩))
    · skip
      refine qr_iconst (v := 0) C dX7_takeBack_41 (by decide) ?_
      exact qr_iret C rfl (Nat.zero_le _) (Nat.zero_le _) dX7_takeBack_42 ((by subst hbk; exact ⟨rfl, fun t ht => ((hfr5 t ht).trans rfl), Or.inl ⟨fun z => c38 (sm_ref0.mpr z), rfl, hM4⟩⟩))
  refine qr_iload_n C dX7_takeBack_13 rfl 0 rfl ?_
  refine qr_if_ne C 21 dX7_takeBack_14 (by decide) (fun c14 => ?_) (fun c14 => ?_)
  · skip
    obtain ⟨i0, hi0, hx1⟩ := sm_in_n hn hn2 c14
    refine qr_aload_n C dX7_takeBack_21 rfl 1 rfl ?_
    refine gf_X7_22 C (100) (hM.1) rfl rfl dX7_takeBack_22 ?_
    refine qr_iload_n C dX7_takeBack_25 rfl 2 rfl ?_
    refine qr_zald C (x := (σ 7 (x1.toNatClampNeg))) (107) (hM.2.2.2.2.2.1) rfl (j := i0) hx1 (by omega) rfl (sg_cl hx1 (by omega)) dX7_takeBack_26 ?_
    refine qr_if_eq C 34 dX7_takeBack_27 (by decide) (fun c28 => ?_) (fun c28 => ?_)
    · skip
      refine qr_iconst (v := 0) C dX7_takeBack_34 (by decide) ?_
      exact M13_0 _ (by simp only [if_neg c14, if_pos c28])
    · skip
      refine qr_iconst (v := 2) C dX7_takeBack_30 (by decide) ?_
      refine qr_goto (tgt := 35) C dX7_takeBack_31 (by decide) ?_
      exact M13_0 _ (by simp only [if_neg c14, if_neg c28])
  · skip
    refine qr_iconst (v := 1) C dX7_takeBack_17 (by decide) ?_
    refine qr_goto (tgt := 35) C dX7_takeBack_18 (by decide) ?_
    exact M13_0 _ (by simp only [if_pos c14])
def sm_cT (x1 : Int32) : Int32 := if sm_isT x1 = 0 then 1 else 0
def sm_not (x : Int32) : Int32 := if x = 0 then 1 else 0
theorem sm_not01 (x : Int32) : sm_not x = 0 ∨ sm_not x = 1 := by unfold sm_not; by_cases h : x = 0 <;> simp [h]
theorem sm_cT_ok {x : Int32} (h : sm_cT x = 0) : ∃ t, t < 3 ∧ x = nI t := sm_isT_ok (fun z => absurd ((if_pos z).symm.trans h) (by decide))
set_option maxHeartbeats 4000000 in
set_option maxRecDepth 100000 in
theorem k_X7_turn {l : Launch} (hst : l.stackTraces = false) (D : va_G) (ad : Nat → Nat) (g : qw_G) (σ : Nat → Nat → Int32) (r : Int32) (hM : qm_P D σ r ad g) (x1 : Int32) : qw_M l yX7_turn [Cond.code yX7_turn cX7_turn 2 (some .boolean)] { frames := 2, cells := 0, slots := 0, locals := 60 } D ad g [(.ref (ad 100)), (.int x1)] (qm_op D ad g (sm_cT x1) (sm_not (σ 8 x1.toNatClampNeg)) σ (va_up σ 8 (upd (σ 8) x1.toNatClampNeg (sm_not (σ 8 x1.toNatClampNeg))))) 0 0 := by
  refine qw_M.of (maxL := 2) (own := RX7) (lv := [(0, (.ref (ad 100))), (1, (.int x1))]) hst (by decide) rfl rfl (Nat.le_of_ble_eq_true rfl) ?_
  intro p e s m args below meth c A C hin
  refine qr_aload_n C dX7_turn_0 rfl 0 rfl ?_
  have M1_0 : ∀ bk : Int32, bk = (if (sm_isT (x1)) = 0 then (1 : Int32) else (0 : Int32)) → qw_W p l e { frames := 2, cells := 0, slots := 0, locals := 60 } s m args below meth c D A 2 (MQ below (qw_Q (qm_op D ad g (sm_cT x1) (sm_not (σ 8 x1.toNatClampNeg)) σ (va_up σ 8 (upd (σ 8) x1.toNatClampNeg (sm_not (σ 8 x1.toNatClampNeg))))) D A) args s 0 0 A) 0 0 ad g 13 [(0, (.ref (ad 100))), (1, (.int x1))] [(.int bk), (.ref (ad 100))] := by
    intro bk hbk
    have hbk : bk = sm_cT x1 := hbk.trans (rfl)
    refine qr_callV C (na := 1) (As := [(.int bk)]) (rest := []) (k_X7_refused hst D ad g σ r hM bk) (100) (hM.1) rfl rfl gi_X7_75 rfl ⟨by decide, by decide, by decide +kernel⟩ rfl rfl (Nat.le_of_ble_eq_true rfl) rfl rfl ⟨Nat.le_of_ble_eq_true rfl, Nat.le_of_ble_eq_true rfl⟩ ⟨Nat.le_of_ble_eq_true rfl, Nat.le_of_ble_eq_true rfl⟩ dX7_turn_13 (fun v ad2 gc2 hpo3 => ?_)
    obtain ⟨rfl, rfl, hM4, hfr5⟩ := hpo3
    refine qr_if_eq C 21 dX7_turn_16 (by decide) (fun c16 => ?_) (fun c16 => ?_)
    · skip
      obtain ⟨i0, hi0, hx1⟩ := sm_cT_ok (hbk.symm.trans (sm_ref0.mp c16))
      have hic : x1.toNatClampNeg = i0 := by rw [hx1, nI_clamp (by omega)]
      refine qr_aload_n C dX7_turn_21 rfl 0 rfl ?_
      refine gf_X7_26 C (100) (hM4.1) rfl rfl dX7_turn_22 ?_
      refine qr_iload_n C dX7_turn_25 rfl 1 rfl ?_
      have M26_5 : ∀ bn : Int32, bn = (if ((σ 8) (i0)) = 0 then (1 : Int32) else (0 : Int32)) → qw_W p l e { frames := 2, cells := 0, slots := 0, locals := 60 } s m args below meth c D A 2 (MQ below (qw_Q (qm_op D ad g (sm_cT x1) (sm_not (σ 8 x1.toNatClampNeg)) σ (va_up σ 8 (upd (σ 8) x1.toNatClampNeg (sm_not (σ 8 x1.toNatClampNeg))))) D A) args s 0 0 A) 0 0 ad gc2 40 [(0, (.ref (ad 100))), (1, (.int x1))] [(.int bn), (.int x1), (.ref (ad 108))] := by
        intro bn hbn
        have hbn : bn = sm_not (σ 8 i0) := hbn.trans (rfl)
        refine qr_zast C (108) (hM4.2.2.2.2.2.2.1) rfl (j := i0) hx1 (by omega) rfl (by rw [hbn]; exact sm_not01 _) dX7_turn_40 ?_
        generalize hg8 : va_up gc2 (108) _ = g7
        have f9 : g7 (108) = some (.inl (D.1 21, 3, .inl (upd (σ 8) (i0) bn))) := by rw [← hg8]; exact va_up_self _ _ _
        have f10 : g7 (100) = gc2 (100) := by rw [← hg8]; exact va_up_ne _ _ (by omega)
        have f11 : g7 (103) = gc2 (103) := by rw [← hg8]; exact va_up_ne _ _ (by omega)
        have f12 : g7 (104) = gc2 (104) := by rw [← hg8]; exact va_up_ne _ _ (by omega)
        have f13 : g7 (105) = gc2 (105) := by rw [← hg8]; exact va_up_ne _ _ (by omega)
        have f14 : g7 (106) = gc2 (106) := by rw [← hg8]; exact va_up_ne _ _ (by omega)
        have f15 : g7 (107) = gc2 (107) := by rw [← hg8]; exact va_up_ne _ _ (by omega)
        have f16 : g7 (110) = gc2 (110) := by rw [← hg8]; exact va_up_ne _ _ (by omega)
        have f17 : g7 (111) = gc2 (111) := by rw [← hg8]; exact va_up_ne _ _ (by omega)
        have f18 : g7 (112) = gc2 (112) := by rw [← hg8]; exact va_up_ne _ _ (by omega)
        have f19 : g7 (113) = gc2 (113) := by rw [← hg8]; exact va_up_ne _ _ (by omega)
        have f20 : g7 (114) = gc2 (114) := by rw [← hg8]; exact va_up_ne _ _ (by omega)
        have f21 : g7 (115) = gc2 (115) := by rw [← hg8]; exact va_up_ne _ _ (by omega)
        have f22 : g7 (116) = gc2 (116) := by rw [← hg8]; exact va_up_ne _ _ (by omega)
        have f23 : g7 (117) = gc2 (117) := by rw [← hg8]; exact va_up_ne _ _ (by omega)
        refine qr_aload_n C dX7_turn_41 rfl 0 rfl ?_
        refine gf_X7_26 C (100) ((f10.trans (hM4.1))) rfl rfl dX7_turn_42 ?_
        refine qr_iload_n C dX7_turn_45 rfl 1 rfl ?_
        refine qr_zald C (x := bn) (108) (f9) rfl (j := i0) hx1 (by omega) rfl (pk_us) dX7_turn_46 ?_
        exact qr_zret C rfl (by rw [hbn]; exact sm_not01 _) (Nat.zero_le _) (Nat.zero_le _) dX7_turn_47 ((by subst hbk; subst hbn; exact ⟨rfl, fun t ht => ((congrFun hg8 t).symm.trans ((va_up_ne _ _ (by omega)).trans ((hfr5 t ht).trans rfl))), Or.inr ⟨sm_ref0.mp c16, sg_vi (by rw [hic]), (by rw [hic]; exact ⟨(f10.trans (hM4.1)), (f11.trans (hM4.2.1)), (f12.trans (hM4.2.2.1)), (f13.trans (hM4.2.2.2.1)), (f14.trans (hM4.2.2.2.2.1)), (f15.trans (hM4.2.2.2.2.2.1)), f9, (f16.trans (hM4.2.2.2.2.2.2.2.1)), (f17.trans (hM4.2.2.2.2.2.2.2.2.1)), (f18.trans (hM4.2.2.2.2.2.2.2.2.2.1)), (f19.trans (hM4.2.2.2.2.2.2.2.2.2.2.1)), (f20.trans (hM4.2.2.2.2.2.2.2.2.2.2.2.1)), (f21.trans (hM4.2.2.2.2.2.2.2.2.2.2.2.2.1)), (f22.trans (hM4.2.2.2.2.2.2.2.2.2.2.2.2.2.1)), (f23.trans (hM4.2.2.2.2.2.2.2.2.2.2.2.2.2.2))⟩)⟩⟩))
      refine qr_aload_n C dX7_turn_26 rfl 0 rfl ?_
      refine gf_X7_26 C (100) (hM4.1) rfl rfl dX7_turn_27 ?_
      refine qr_iload_n C dX7_turn_30 rfl 1 rfl ?_
      refine qr_zald C (x := ((σ 8) (i0))) (108) (hM4.2.2.2.2.2.2.1) rfl (j := i0) hx1 (by omega) rfl rfl dX7_turn_31 ?_
      refine qr_if_ne C 39 dX7_turn_32 (by decide) (fun c24 => ?_) (fun c24 => ?_)
      · skip
        refine qr_iconst (v := 0) C dX7_turn_39 (by decide) ?_
        exact M26_5 _ (by simp only [if_neg c24])
      · skip
        refine qr_iconst (v := 1) C dX7_turn_35 (by decide) ?_
        refine qr_goto (tgt := 40) C dX7_turn_36 (by decide) ?_
        exact M26_5 _ (by simp only [if_pos c24])
    · skip
      refine qr_iconst (v := 0) C dX7_turn_19 (by decide) ?_
      exact qr_zret C rfl (by decide) (Nat.zero_le _) (Nat.zero_le _) dX7_turn_20 ((by subst hbk; exact ⟨rfl, fun t ht => ((hfr5 t ht).trans rfl), Or.inl ⟨fun z => c16 (sm_ref0.mpr z), rfl, hM4⟩⟩))
  refine qr_iload_n C dX7_turn_1 rfl 1 rfl ?_
  refine qr_callS C (na := 1) (As := [(.int x1)]) (rest := [(.ref (ad 100))]) (k_X7_isTable hst D ad g (x1)) gi_X7_61 ⟨by decide, by decide, by decide +kernel⟩ rfl rfl (Nat.le_of_ble_eq_true rfl) rfl rfl ⟨Nat.le_of_ble_eq_true rfl, Nat.le_of_ble_eq_true rfl⟩ ⟨Nat.le_of_ble_eq_true rfl, Nat.le_of_ble_eq_true rfl⟩ dX7_turn_2 (fun v ad2 g2 hpo => ?_)
  obtain ⟨rfl, rfl, rfl⟩ := hpo
  refine qr_if_eq C 12 dX7_turn_5 (by decide) (fun c25 => ?_) (fun c25 => ?_)
  · skip
    refine qr_iconst (v := 1) C dX7_turn_12 (by decide) ?_
    exact M1_0 _ (by simp only [if_pos c25])
  · skip
    refine qr_iconst (v := 0) C dX7_turn_8 (by decide) ?_
    refine qr_goto (tgt := 13) C dX7_turn_9 (by decide) ?_
    exact M1_0 _ (by simp only [if_neg c25])
end
section
def sm_cent (σ : Nat → Nat → Int32) (x1 x2 x3 : Int32) : Int32 := if sm_ent σ x1 x2 x3 = -1 then 1 else 0
set_option maxHeartbeats 4000000 in
set_option maxRecDepth 100000 in
theorem k_X7_sum {l : Launch} (hst : l.stackTraces = false) (D : va_G) (ad : Nat → Nat) (g : qw_G) (σ : Nat → Nat → Int32) (r : Int32) (hM : qm_P D σ r ad g) (n : Nat) (hn : σ 2 0 = nI n) (hn2 : n ≤ 120) (x1 x2 x3 : Int32) : qw_M l yX7_sum [Cond.code yX7_sum cX7_sum 5 (some .int)] { frames := 3, cells := 0, slots := 0, locals := 90 } D ad g [(.ref (ad 100)), (.int x1), (.int x2), (.int x3)] (qm_op D ad g (sm_cent σ x1 x2 x3) (sm_sumO σ x1 (sm_ent σ x1 x2 x3) n) σ σ) 0 0 := by
  refine qw_M.of (maxL := 5) (own := RX7) (lv := [(0, (.ref (ad 100))), (1, (.int x1)), (2, (.int x2)), (3, (.int x3))]) hst (by decide) rfl rfl (Nat.le_of_ble_eq_true rfl) ?_
  intro p e s m args below meth c A C hin
  refine qr_aload_n C dX7_sum_0 rfl 0 rfl ?_
  refine qr_iload_n C dX7_sum_1 rfl 1 rfl ?_
  refine qr_iload_n C dX7_sum_2 rfl 2 rfl ?_
  refine qr_iload_n C dX7_sum_3 rfl 3 rfl ?_
  refine qr_callV C (na := 3) (As := [(.int x1), (.int x2), (.int x3)]) (rest := []) (k_X7_entryOf hst D ad g σ r hM (x1) (x2) (x3)) (100) (hM.1) rfl rfl gi_X7_82 rfl ⟨by decide, by decide, by decide +kernel⟩ rfl rfl (Nat.le_of_ble_eq_true rfl) rfl rfl ⟨Nat.le_of_ble_eq_true rfl, Nat.le_of_ble_eq_true rfl⟩ ⟨Nat.le_of_ble_eq_true rfl, Nat.le_of_ble_eq_true rfl⟩ dX7_sum_4 (fun v ad2 g2 hpo => ?_)
  obtain ⟨rfl, rfl, rfl⟩ := hpo
  refine qr_istore (lv' := [(4, (.int (sm_ent σ (x1) (x2) (x3)))), (0, (.ref (ad 100))), (1, (.int x1)), (2, (.int x2)), (3, (.int x3))]) C dX7_sum_7 (by decide) rfl ?_
  refine qr_aload_n C dX7_sum_9 rfl 1 rfl ?_
  have M10_0 : ∀ bk : Int32, bk = (if (sm_ent σ (x1) (x2) (x3)) = (-1 : Int32) then (1 : Int32) else (0 : Int32)) → qw_W p l e { frames := 3, cells := 0, slots := 0, locals := 90 } s m args below meth c D A 5 (MQ below (qw_Q (qm_op D ad g (sm_cent σ x1 x2 x3) (sm_sumO σ x1 (sm_ent σ x1 x2 x3) n) σ σ) D A) args s 0 0 A) 0 0 ad g 21 [(4, (.int (sm_ent σ (x1) (x2) (x3)))), (0, (.ref (ad 100))), (1, (.int x1)), (2, (.int x2)), (3, (.int x3))] [(.int bk), (.ref (ad 100))] := by
    intro bk hbk
    have hbk : bk = sm_cent σ x1 x2 x3 := hbk.trans (rfl)
    refine qr_callV C (na := 1) (As := [(.int bk)]) (rest := []) (k_X7_refused hst D ad g σ r hM bk) (100) (hM.1) rfl rfl gi_X7_75 rfl ⟨by decide, by decide, by decide +kernel⟩ rfl rfl (Nat.le_of_ble_eq_true rfl) rfl rfl ⟨Nat.le_of_ble_eq_true rfl, Nat.le_of_ble_eq_true rfl⟩ ⟨Nat.le_of_ble_eq_true rfl, Nat.le_of_ble_eq_true rfl⟩ dX7_sum_21 (fun v ad2 gc2 hpo3 => ?_)
    obtain ⟨rfl, rfl, hM4, hfr5⟩ := hpo3
    refine qr_if_eq C 31 dX7_sum_24 (by decide) (fun c24 => ?_) (fun c24 => ?_)
    · skip
      refine qr_aload_n C dX7_sum_31 rfl 1 rfl ?_
      refine qr_iload_n C dX7_sum_32 rfl 2 rfl ?_
      refine qr_iload C dX7_sum_33 0 rfl ?_
      refine qr_callV C (na := 2) (As := [(.int x1), (.int (sm_ent σ (x1) (x2) (x3)))]) (rest := []) (k_X7_sumOf hst D ad gc2 σ bk hM4 n hn hn2 (x1) ((sm_ent σ (x1) (x2) (x3)))) (100) (hM4.1) rfl rfl gi_X7_86 rfl ⟨by decide, by decide, by decide +kernel⟩ rfl rfl (Nat.le_of_ble_eq_true rfl) rfl rfl ⟨Nat.le_of_ble_eq_true rfl, Nat.le_of_ble_eq_true rfl⟩ ⟨Nat.le_of_ble_eq_true rfl, Nat.le_of_ble_eq_true rfl⟩ dX7_sum_35 (fun v ad2 g2 hpo => ?_)
      obtain ⟨rfl, rfl, rfl⟩ := hpo
      exact qr_iret C rfl (Nat.zero_le _) (Nat.zero_le _) dX7_sum_38 ((by subst hbk; exact ⟨rfl, fun t ht => ((hfr5 t ht).trans rfl), Or.inr ⟨sm_ref0.mp c24, rfl, ⟨hM4.1, hM4.2.1, hM4.2.2.1, hM4.2.2.2.1, hM4.2.2.2.2.1, hM4.2.2.2.2.2.1, hM4.2.2.2.2.2.2.1, hM4.2.2.2.2.2.2.2.1, hM4.2.2.2.2.2.2.2.2.1, hM4.2.2.2.2.2.2.2.2.2.1, hM4.2.2.2.2.2.2.2.2.2.2.1, hM4.2.2.2.2.2.2.2.2.2.2.2.1, hM4.2.2.2.2.2.2.2.2.2.2.2.2.1, hM4.2.2.2.2.2.2.2.2.2.2.2.2.2.1, hM4.2.2.2.2.2.2.2.2.2.2.2.2.2.2⟩⟩⟩))
    · skip
      refine qr_iconst (v := 0) C dX7_sum_27 (by decide) ?_
      refine qr_goto (tgt := 38) C dX7_sum_28 (by decide) ?_
      exact qr_iret C rfl (Nat.zero_le _) (Nat.zero_le _) dX7_sum_38 ((by subst hbk; exact ⟨rfl, fun t ht => ((hfr5 t ht).trans rfl), Or.inl ⟨fun z => c24 (sm_ref0.mpr z), rfl, hM4⟩⟩))
  refine qr_iload C dX7_sum_10 0 rfl ?_
  refine qr_iconst (v := -1) C dX7_sum_12 (by decide) ?_
  refine qr_icmp_ne C 20 dX7_sum_13 (by decide) (fun c6 => ?_) (fun c6 => ?_)
  · skip
    refine qr_iconst (v := 0) C dX7_sum_20 (by decide) ?_
    exact M10_0 _ (by simp only [if_neg c6])
  · skip
    refine qr_iconst (v := 1) C dX7_sum_16 (by decide) ?_
    refine qr_goto (tgt := 21) C dX7_sum_17 (by decide) ?_
    exact M10_0 _ (by simp only [if_pos c6])
set_option maxHeartbeats 4000000 in
set_option maxRecDepth 100000 in
theorem k_X7_sumFromSales {l : Launch} (hst : l.stackTraces = false) (D : va_G) (ad : Nat → Nat) (g : qw_G) (σ : Nat → Nat → Int32) (r : Int32) (hM : qm_P D σ r ad g) (n : Nat) (hn : σ 2 0 = nI n) (hn2 : n ≤ 120) (x1 x2 x3 : Int32) : qw_M l yX7_sumFromSales [Cond.code yX7_sumFromSales cX7_sumFromSales 4 (some .int)] { frames := 4, cells := 0, slots := 0, locals := 120 } D ad g [(.ref (ad 100)), (.int x1), (.int x2), (.int x3)] (qm_op D ad g (sm_cent σ x1 x2 x3) (sm_sumO σ x1 (sm_ent σ x1 x2 x3) n) σ σ) 0 0 := by
  refine qw_M.of (maxL := 4) (own := RX7) (lv := [(0, (.ref (ad 100))), (1, (.int x1)), (2, (.int x2)), (3, (.int x3))]) hst (by decide) rfl rfl (Nat.le_of_ble_eq_true rfl) ?_
  intro p e s m args below meth c A C hin
  refine qr_aload_n C dX7_sumFromSales_0 rfl 0 rfl ?_
  refine qr_iload_n C dX7_sumFromSales_1 rfl 1 rfl ?_
  refine qr_iload_n C dX7_sumFromSales_2 rfl 2 rfl ?_
  refine qr_iload_n C dX7_sumFromSales_3 rfl 3 rfl ?_
  refine qr_callV C (na := 3) (As := [(.int x1), (.int x2), (.int x3)]) (rest := []) (k_X7_sum hst D ad g σ r hM n hn hn2 x1 x2 x3) (100) (hM.1) rfl rfl gi_X7_89 rfl ⟨by decide, by decide, by decide +kernel⟩ rfl rfl (Nat.le_of_ble_eq_true rfl) rfl rfl ⟨Nat.le_of_ble_eq_true rfl, Nat.le_of_ble_eq_true rfl⟩ ⟨Nat.le_of_ble_eq_true rfl, Nat.le_of_ble_eq_true rfl⟩ dX7_sumFromSales_4 (fun v ad2 gc1 hpo2 => ?_)
  obtain ⟨rfl, hfr3, hx4⟩ := hpo2
  rcases hx4 with ⟨hc, rfl, hM1⟩ | ⟨hc, rfl, hM1⟩
  · skip
    exact qr_iret C rfl (Nat.zero_le _) (Nat.zero_le _) dX7_sumFromSales_7 (⟨rfl, fun t ht => ((hfr3 t ht).trans rfl), Or.inl ⟨hc, rfl, hM1⟩⟩)
  · skip
    exact qr_iret C rfl (Nat.zero_le _) (Nat.zero_le _) dX7_sumFromSales_7 (⟨rfl, fun t ht => ((hfr3 t ht).trans rfl), Or.inr ⟨hc, rfl, hM1⟩⟩)
def sm_fit (x4 x5 : Int32) : Int32 := (if (sm_in (x4) ((1 : Int32)) ((3 : Int32))) = 0 then (0 : Int32) else (if (sm_in (x5) ((1 : Int32)) ((100 : Int32))) = 0 then (0 : Int32) else (1 : Int32)))
def sm_cemb (σ : Nat → Nat → Int32) (x1 x2 x3 x4 x5 : Int32) : Int32 := if sm_ent σ x1 x2 x3 = -1 then 1 else if sm_fit x4 x5 = 0 then 2 else if σ 9 0 = 40 then 3 else 0
def sm_embS1 (σ : Nat → Nat → Int32) (n : Nat) (x1 e x4 x5 : Int32) : Nat → Nat → Int32 := sg_u (va_up (va_up (va_up (va_up σ 10 (upd (σ 10) n x1)) 11 (upd (σ 11) n e)) 12 (upd (σ 12) n x4)) 13 (upd (σ 13) n (σ 1 0 + x5))) 9 (σ 9 0 + 1)
def sm_embS (σ : Nat → Nat → Int32) (n : Nat) (x1 x2 x3 x4 x5 : Int32) : Nat → Nat → Int32 := sm_dropS (sm_embS1 σ n x1 (sm_ent σ x1 x2 x3) x4 x5) x1.toNatClampNeg x4.toNatClampNeg
theorem sm_ent_ok {σ : Nat → Nat → Int32} {x1 x2 x3 : Int32} (h : ¬ sm_ent σ x1 x2 x3 = -1) : (∃ t, t < 3 ∧ x1 = nI t) ∧ (∃ a, a < 5 ∧ sm_row σ x1 x2 x3 = nI a) ∧ (∃ b, b < 6 ∧ sm_row σ x1 x3 x2 = nI b) := by
  unfold sm_ent at h
  by_cases h1 : sm_isT x1 = 0
  · rw [if_pos h1] at h; exact absurd rfl h
  · rw [if_neg h1] at h
    by_cases h2 : sm_isE (sm_row σ x1 x2 x3) (sm_row σ x1 x3 x2) = 0
    · rw [if_pos h2] at h; exact absurd rfl h
    · exact ⟨sm_isT_ok h1, (sm_isE_ok h2).1, (sm_isE_ok h2).2⟩
theorem sm_fit_ok {x4 x5 : Int32} (h : ¬ sm_fit x4 x5 = 0) : (∃ t, t < 4 ∧ 1 ≤ t ∧ x4 = nI t) ∧ ∃ t, t < 101 ∧ 1 ≤ t ∧ x5 = nI t := by
  have e1 : (1 : Int32).toInt = 1 := by decide
  have e2 : (3 : Int32).toInt = 3 := by decide
  have e3 : (100 : Int32).toInt = 100 := by decide
  unfold sm_fit at h
  by_cases h1 : sm_in x4 1 3 = 0
  · rw [if_pos h1] at h; exact absurd rfl h
  · rw [if_neg h1] at h
    by_cases h2 : sm_in x5 1 100 = 0
    · rw [if_pos h2] at h; exact absurd rfl h
    · rw [sm_in_i] at h1 h2
      obtain ⟨t, ht, hx⟩ := sg_nat (x := x4) (n := 4) (by omega) (by omega) (by omega)
      obtain ⟨t2, ht2, hx2⟩ := sg_nat (x := x5) (n := 101) (by omega) (by omega) (by omega)
      have q1 : x4.toInt = t := by rw [hx, nI_toInt (by omega)]
      have q2 : x5.toInt = t2 := by rw [hx2, nI_toInt (by omega)]
      exact ⟨⟨t, ht, by omega, hx⟩, ⟨t2, ht2, by omega, hx2⟩⟩
theorem sm_cemb_ok {σ : Nat → Nat → Int32} {n : Nat} {x1 x2 x3 x4 x5 : Int32} (hn : σ 9 0 = nI n) (hn2 : n ≤ 40) (h : sm_cemb σ x1 x2 x3 x4 x5 = 0) : ∃ t L, t < 3 ∧ x1 = nI t ∧ L < 4 ∧ 1 ≤ L ∧ x4 = nI L ∧ n < 40 ∧ x1.toNatClampNeg = t ∧ x4.toNatClampNeg = L := by
  unfold sm_cemb at h
  by_cases h1 : sm_ent σ x1 x2 x3 = -1
  · rw [if_pos h1] at h; exact absurd h (by decide)
  · rw [if_neg h1] at h
    by_cases h2 : sm_fit x4 x5 = 0
    · rw [if_pos h2] at h; exact absurd h (by decide)
    · rw [if_neg h2] at h
      by_cases h3 : σ 9 0 = 40
      · rw [if_pos h3] at h; exact absurd h (by decide)
      · obtain ⟨t, ht, hx⟩ := (sm_ent_ok h1).1
        obtain ⟨L, hL, hL1, hx4⟩ := (sm_fit_ok h2).1
        refine ⟨t, L, ht, hx, hL, hL1, hx4, ?_, by rw [hx, nI_clamp (by omega)], by rw [hx4, nI_clamp (by omega)]⟩
        have : ¬ n = 40 := fun z => h3 (by rw [hn, z]; rfl)
        omega
set_option maxHeartbeats 4000000 in
set_option maxRecDepth 100000 in
theorem k_X7_embargo {l : Launch} (hst : l.stackTraces = false) (D : va_G) (ad : Nat → Nat) (g : qw_G) (σ : Nat → Nat → Int32) (r : Int32) (hM : qm_P D σ r ad g) (n : Nat) (hn : σ 9 0 = nI n) (hn2 : n ≤ 40) (x1 x2 x3 x4 x5 : Int32) : qw_M l yX7_embargo [Cond.code yX7_embargo cX7_embargo 8 (some .int)] { frames := 3, cells := 0, slots := 0, locals := 100 } D ad g [(.ref (ad 100)), (.int x1), (.int x2), (.int x3), (.int x4), (.int x5)] (qm_op D ad g (sm_cemb σ x1 x2 x3 x4 x5) (σ 9 0) σ (sm_embS σ n x1 x2 x3 x4 x5)) 0 0 := by
  refine qw_M.of (maxL := 8) (own := RX7) (lv := [(0, (.ref (ad 100))), (1, (.int x1)), (2, (.int x2)), (3, (.int x3)), (4, (.int x4)), (5, (.int x5))]) hst (by decide) rfl rfl (Nat.le_of_ble_eq_true rfl) ?_
  intro p e s m args below meth c A C hin
  refine qr_aload_n C dX7_embargo_0 rfl 0 rfl ?_
  refine qr_iload_n C dX7_embargo_1 rfl 1 rfl ?_
  refine qr_iload_n C dX7_embargo_2 rfl 2 rfl ?_
  refine qr_iload_n C dX7_embargo_3 rfl 3 rfl ?_
  refine qr_callV C (na := 3) (As := [(.int x1), (.int x2), (.int x3)]) (rest := []) (k_X7_entryOf hst D ad g σ r hM (x1) (x2) (x3)) (100) (hM.1) rfl rfl gi_X7_82 rfl ⟨by decide, by decide, by decide +kernel⟩ rfl rfl (Nat.le_of_ble_eq_true rfl) rfl rfl ⟨Nat.le_of_ble_eq_true rfl, Nat.le_of_ble_eq_true rfl⟩ ⟨Nat.le_of_ble_eq_true rfl, Nat.le_of_ble_eq_true rfl⟩ dX7_embargo_4 (fun v ad2 g2 hpo => ?_)
  obtain ⟨rfl, rfl, rfl⟩ := hpo
  refine qr_istore (lv' := [(6, (.int (sm_ent σ (x1) (x2) (x3)))), (0, (.ref (ad 100))), (1, (.int x1)), (2, (.int x2)), (3, (.int x3)), (4, (.int x4)), (5, (.int x5))]) C dX7_embargo_7 (by decide) rfl ?_
  have M9_0 : ∀ b9 : Int32, b9 = (if (sm_in (x4) ((1 : Int32)) ((3 : Int32))) = 0 then (0 : Int32) else (if (sm_in (x5) ((1 : Int32)) ((100 : Int32))) = 0 then (0 : Int32) else (1 : Int32))) → qw_W p l e { frames := 3, cells := 0, slots := 0, locals := 100 } s m args below meth c D A 8 (MQ below (qw_Q (qm_op D ad g (sm_cemb σ x1 x2 x3 x4 x5) (σ 9 0) σ (sm_embS σ n x1 x2 x3 x4 x5)) D A) args s 0 0 A) 0 0 ad g 35 [(6, (.int (sm_ent σ (x1) (x2) (x3)))), (0, (.ref (ad 100))), (1, (.int x1)), (2, (.int x2)), (3, (.int x3)), (4, (.int x4)), (5, (.int x5))] [(.int b9)] := by
    intro b9 hb9
    refine qr_istore (lv' := [(7, (.int b9)), (6, (.int (sm_ent σ (x1) (x2) (x3)))), (0, (.ref (ad 100))), (1, (.int x1)), (2, (.int x2)), (3, (.int x3)), (4, (.int x4)), (5, (.int x5))]) C dX7_embargo_35 (by decide) rfl ?_
    refine qr_aload_n C dX7_embargo_37 rfl 2 rfl ?_
    have M38_1 : ∀ bk : Int32, bk = (if (sm_ent σ (x1) (x2) (x3)) = (-1 : Int32) then (1 : Int32) else (if b9 = 0 then (2 : Int32) else (if (σ 9 0) = (40 : Int32) then (3 : Int32) else (0 : Int32)))) → qw_W p l e { frames := 3, cells := 0, slots := 0, locals := 100 } s m args below meth c D A 8 (MQ below (qw_Q (qm_op D ad g (sm_cemb σ x1 x2 x3 x4 x5) (σ 9 0) σ (sm_embS σ n x1 x2 x3 x4 x5)) D A) args s 0 0 A) 0 0 ad g 71 [(7, (.int b9)), (6, (.int (sm_ent σ (x1) (x2) (x3)))), (0, (.ref (ad 100))), (1, (.int x1)), (2, (.int x2)), (3, (.int x3)), (4, (.int x4)), (5, (.int x5))] [(.int bk), (.ref (ad 100))] := by
      intro bk hbk
      have hbk : bk = sm_cemb σ x1 x2 x3 x4 x5 := hbk.trans ((by subst hb9; rfl))
      refine qr_callV C (na := 1) (As := [(.int bk)]) (rest := []) (k_X7_refused hst D ad g σ r hM bk) (100) (hM.1) rfl rfl gi_X7_75 rfl ⟨by decide, by decide, by decide +kernel⟩ rfl rfl (Nat.le_of_ble_eq_true rfl) rfl rfl ⟨Nat.le_of_ble_eq_true rfl, Nat.le_of_ble_eq_true rfl⟩ ⟨Nat.le_of_ble_eq_true rfl, Nat.le_of_ble_eq_true rfl⟩ dX7_embargo_71 (fun v ad2 gc3 hpo4 => ?_)
      obtain ⟨rfl, rfl, hM5, hfr6⟩ := hpo4
      refine qr_if_eq C 79 dX7_embargo_74 (by decide) (fun c74 => ?_) (fun c74 => ?_)
      · skip
        obtain ⟨t0, L0, ht0, hx1, hL0, hL1, hx4, hn3, hx1c, hx4c⟩ := sm_cemb_ok hn hn2 (hbk.symm.trans (sm_ref0.mp c74))
        refine qr_aload_n C dX7_embargo_79 rfl 2 rfl ?_
        refine gf_X7_29 C (100) (hM5.1) rfl rfl dX7_embargo_80 ?_
        refine qr_aload_n C dX7_embargo_83 rfl 2 rfl ?_
        refine gf_X7_95 C (100) (hM5.1) rfl rfl dX7_embargo_84 ?_
        refine qr_iload_n C dX7_embargo_87 rfl 3 rfl ?_
        refine qr_iast C (110) (hM5.2.2.2.2.2.2.2.1) rfl (j := n) hn (by omega) rfl dX7_embargo_88 ?_
        generalize hg8 : va_up gc3 (110) _ = g7
        have f9 : g7 (110) = some (.inl (D.1 20, 40, .inl (upd (σ 10) (n) x1))) := by rw [← hg8]; exact va_up_self _ _ _
        have f10 : g7 (100) = gc3 (100) := by rw [← hg8]; exact va_up_ne _ _ (by omega)
        have f11 : g7 (103) = gc3 (103) := by rw [← hg8]; exact va_up_ne _ _ (by omega)
        have f12 : g7 (104) = gc3 (104) := by rw [← hg8]; exact va_up_ne _ _ (by omega)
        have f13 : g7 (105) = gc3 (105) := by rw [← hg8]; exact va_up_ne _ _ (by omega)
        have f14 : g7 (106) = gc3 (106) := by rw [← hg8]; exact va_up_ne _ _ (by omega)
        have f15 : g7 (107) = gc3 (107) := by rw [← hg8]; exact va_up_ne _ _ (by omega)
        have f16 : g7 (108) = gc3 (108) := by rw [← hg8]; exact va_up_ne _ _ (by omega)
        have f17 : g7 (111) = gc3 (111) := by rw [← hg8]; exact va_up_ne _ _ (by omega)
        have f18 : g7 (112) = gc3 (112) := by rw [← hg8]; exact va_up_ne _ _ (by omega)
        have f19 : g7 (113) = gc3 (113) := by rw [← hg8]; exact va_up_ne _ _ (by omega)
        have f20 : g7 (114) = gc3 (114) := by rw [← hg8]; exact va_up_ne _ _ (by omega)
        have f21 : g7 (115) = gc3 (115) := by rw [← hg8]; exact va_up_ne _ _ (by omega)
        have f22 : g7 (116) = gc3 (116) := by rw [← hg8]; exact va_up_ne _ _ (by omega)
        have f23 : g7 (117) = gc3 (117) := by rw [← hg8]; exact va_up_ne _ _ (by omega)
        refine qr_aload_n C dX7_embargo_89 rfl 2 rfl ?_
        refine gf_X7_32 C (100) ((f10.trans (hM5.1))) rfl rfl dX7_embargo_90 ?_
        refine qr_aload_n C dX7_embargo_93 rfl 2 rfl ?_
        refine gf_X7_95 C (100) ((f10.trans (hM5.1))) rfl rfl dX7_embargo_94 ?_
        refine qr_iload C dX7_embargo_97 1 rfl ?_
        refine qr_iast C (111) ((f17.trans (hM5.2.2.2.2.2.2.2.2.1))) rfl (j := n) hn (by omega) rfl dX7_embargo_99 ?_
        generalize hg25 : va_up g7 (111) _ = g24
        have f26 : g24 (111) = some (.inl (D.1 20, 40, .inl (upd (σ 11) (n) (sm_ent σ (x1) (x2) (x3))))) := by rw [← hg25]; exact va_up_self _ _ _
        have f27 : g24 (100) = g7 (100) := by rw [← hg25]; exact va_up_ne _ _ (by omega)
        have f28 : g24 (103) = g7 (103) := by rw [← hg25]; exact va_up_ne _ _ (by omega)
        have f29 : g24 (104) = g7 (104) := by rw [← hg25]; exact va_up_ne _ _ (by omega)
        have f30 : g24 (105) = g7 (105) := by rw [← hg25]; exact va_up_ne _ _ (by omega)
        have f31 : g24 (106) = g7 (106) := by rw [← hg25]; exact va_up_ne _ _ (by omega)
        have f32 : g24 (107) = g7 (107) := by rw [← hg25]; exact va_up_ne _ _ (by omega)
        have f33 : g24 (108) = g7 (108) := by rw [← hg25]; exact va_up_ne _ _ (by omega)
        have f34 : g24 (112) = g7 (112) := by rw [← hg25]; exact va_up_ne _ _ (by omega)
        have f35 : g24 (113) = g7 (113) := by rw [← hg25]; exact va_up_ne _ _ (by omega)
        have f36 : g24 (114) = g7 (114) := by rw [← hg25]; exact va_up_ne _ _ (by omega)
        have f37 : g24 (115) = g7 (115) := by rw [← hg25]; exact va_up_ne _ _ (by omega)
        have f38 : g24 (116) = g7 (116) := by rw [← hg25]; exact va_up_ne _ _ (by omega)
        have f39 : g24 (117) = g7 (117) := by rw [← hg25]; exact va_up_ne _ _ (by omega)
        have f40 : g24 (110) = g7 (110) := by rw [← hg25]; exact va_up_ne _ _ (by omega)
        refine qr_aload_n C dX7_embargo_100 rfl 2 rfl ?_
        refine gf_X7_35 C (100) ((f27.trans ((f10.trans (hM5.1))))) rfl rfl dX7_embargo_101 ?_
        refine qr_aload_n C dX7_embargo_104 rfl 2 rfl ?_
        refine gf_X7_95 C (100) ((f27.trans ((f10.trans (hM5.1))))) rfl rfl dX7_embargo_105 ?_
        refine qr_iload C dX7_embargo_108 6 rfl ?_
        refine qr_iast C (112) ((f34.trans ((f18.trans (hM5.2.2.2.2.2.2.2.2.2.1))))) rfl (j := n) hn (by omega) rfl dX7_embargo_110 ?_
        generalize hg42 : va_up g24 (112) _ = g41
        have f43 : g41 (112) = some (.inl (D.1 20, 40, .inl (upd (σ 12) (n) x4))) := by rw [← hg42]; exact va_up_self _ _ _
        have f44 : g41 (100) = g24 (100) := by rw [← hg42]; exact va_up_ne _ _ (by omega)
        have f45 : g41 (103) = g24 (103) := by rw [← hg42]; exact va_up_ne _ _ (by omega)
        have f46 : g41 (104) = g24 (104) := by rw [← hg42]; exact va_up_ne _ _ (by omega)
        have f47 : g41 (105) = g24 (105) := by rw [← hg42]; exact va_up_ne _ _ (by omega)
        have f48 : g41 (106) = g24 (106) := by rw [← hg42]; exact va_up_ne _ _ (by omega)
        have f49 : g41 (107) = g24 (107) := by rw [← hg42]; exact va_up_ne _ _ (by omega)
        have f50 : g41 (108) = g24 (108) := by rw [← hg42]; exact va_up_ne _ _ (by omega)
        have f51 : g41 (113) = g24 (113) := by rw [← hg42]; exact va_up_ne _ _ (by omega)
        have f52 : g41 (114) = g24 (114) := by rw [← hg42]; exact va_up_ne _ _ (by omega)
        have f53 : g41 (115) = g24 (115) := by rw [← hg42]; exact va_up_ne _ _ (by omega)
        have f54 : g41 (116) = g24 (116) := by rw [← hg42]; exact va_up_ne _ _ (by omega)
        have f55 : g41 (117) = g24 (117) := by rw [← hg42]; exact va_up_ne _ _ (by omega)
        have f56 : g41 (110) = g24 (110) := by rw [← hg42]; exact va_up_ne _ _ (by omega)
        have f57 : g41 (111) = g24 (111) := by rw [← hg42]; exact va_up_ne _ _ (by omega)
        refine qr_aload_n C dX7_embargo_111 rfl 2 rfl ?_
        refine gf_X7_38 C (100) ((f44.trans ((f27.trans ((f10.trans (hM5.1))))))) rfl rfl dX7_embargo_112 ?_
        refine qr_aload_n C dX7_embargo_115 rfl 2 rfl ?_
        refine gf_X7_95 C (100) ((f44.trans ((f27.trans ((f10.trans (hM5.1))))))) rfl rfl dX7_embargo_116 ?_
        refine qr_aload_n C dX7_embargo_119 rfl 2 rfl ?_
        refine gf_X7_92 C (100) ((f44.trans ((f27.trans ((f10.trans (hM5.1))))))) rfl rfl dX7_embargo_120 ?_
        refine qr_iload C dX7_embargo_123 7 rfl ?_
        refine qr_iadd C dX7_embargo_125 ?_
        refine qr_iast C (113) ((f51.trans ((f35.trans ((f19.trans (hM5.2.2.2.2.2.2.2.2.2.2.1))))))) rfl (j := n) hn (by omega) rfl dX7_embargo_126 ?_
        generalize hg59 : va_up g41 (113) _ = g58
        have f60 : g58 (113) = some (.inl (D.1 20, 40, .inl (upd (σ 13) (n) ((σ 1 0) + x5)))) := by rw [← hg59]; exact va_up_self _ _ _
        have f61 : g58 (100) = g41 (100) := by rw [← hg59]; exact va_up_ne _ _ (by omega)
        have f62 : g58 (103) = g41 (103) := by rw [← hg59]; exact va_up_ne _ _ (by omega)
        have f63 : g58 (104) = g41 (104) := by rw [← hg59]; exact va_up_ne _ _ (by omega)
        have f64 : g58 (105) = g41 (105) := by rw [← hg59]; exact va_up_ne _ _ (by omega)
        have f65 : g58 (106) = g41 (106) := by rw [← hg59]; exact va_up_ne _ _ (by omega)
        have f66 : g58 (107) = g41 (107) := by rw [← hg59]; exact va_up_ne _ _ (by omega)
        have f67 : g58 (108) = g41 (108) := by rw [← hg59]; exact va_up_ne _ _ (by omega)
        have f68 : g58 (114) = g41 (114) := by rw [← hg59]; exact va_up_ne _ _ (by omega)
        have f69 : g58 (115) = g41 (115) := by rw [← hg59]; exact va_up_ne _ _ (by omega)
        have f70 : g58 (116) = g41 (116) := by rw [← hg59]; exact va_up_ne _ _ (by omega)
        have f71 : g58 (117) = g41 (117) := by rw [← hg59]; exact va_up_ne _ _ (by omega)
        have f72 : g58 (110) = g41 (110) := by rw [← hg59]; exact va_up_ne _ _ (by omega)
        have f73 : g58 (111) = g41 (111) := by rw [← hg59]; exact va_up_ne _ _ (by omega)
        have f74 : g58 (112) = g41 (112) := by rw [← hg59]; exact va_up_ne _ _ (by omega)
        refine qr_aload_n C dX7_embargo_127 rfl 2 rfl ?_
        refine qr_dup C dX7_embargo_128 rfl ?_
        refine gf_X7_95 C (100) ((f61.trans ((f44.trans ((f27.trans ((f10.trans (hM5.1))))))))) rfl rfl dX7_embargo_129 ?_
        refine qr_iconst (v := 1) C dX7_embargo_132 (by decide) ?_
        refine qr_iadd C dX7_embargo_133 ?_
        refine pf_X7_95 C (100) ((f61.trans ((f44.trans ((f27.trans ((f10.trans (hM5.1))))))))) rfl rfl rfl (Nat.le_of_ble_eq_true rfl) rfl dX7_embargo_134 ?_
        generalize hg76 : va_up g58 (100) _ = g75
        have f77 : g75 (100) = some (.inr (6, [(.int bk), (.int (σ 1 0)), (.int (σ 2 0)), (.ref (ad 103)), (.ref (ad 104)), (.ref (ad 105)), (.ref (ad 106)), (.ref (ad 107)), (.ref (ad 108)), (.int ((σ 9 0) + (1 : Int32))), (.ref (ad 110)), (.ref (ad 111)), (.ref (ad 112)), (.ref (ad 113)), (.ref (ad 114)), (.ref (ad 115)), (.ref (ad 116)), (.ref (ad 117)), (.int (σ 18 0)), (.int (σ 19 0))])) := by rw [← hg76]; exact va_up_self _ _ _
        have f78 : g75 (103) = g58 (103) := by rw [← hg76]; exact va_up_ne _ _ (by omega)
        have f79 : g75 (104) = g58 (104) := by rw [← hg76]; exact va_up_ne _ _ (by omega)
        have f80 : g75 (105) = g58 (105) := by rw [← hg76]; exact va_up_ne _ _ (by omega)
        have f81 : g75 (106) = g58 (106) := by rw [← hg76]; exact va_up_ne _ _ (by omega)
        have f82 : g75 (107) = g58 (107) := by rw [← hg76]; exact va_up_ne _ _ (by omega)
        have f83 : g75 (108) = g58 (108) := by rw [← hg76]; exact va_up_ne _ _ (by omega)
        have f84 : g75 (114) = g58 (114) := by rw [← hg76]; exact va_up_ne _ _ (by omega)
        have f85 : g75 (115) = g58 (115) := by rw [← hg76]; exact va_up_ne _ _ (by omega)
        have f86 : g75 (116) = g58 (116) := by rw [← hg76]; exact va_up_ne _ _ (by omega)
        have f87 : g75 (117) = g58 (117) := by rw [← hg76]; exact va_up_ne _ _ (by omega)
        have f88 : g75 (110) = g58 (110) := by rw [← hg76]; exact va_up_ne _ _ (by omega)
        have f89 : g75 (111) = g58 (111) := by rw [← hg76]; exact va_up_ne _ _ (by omega)
        have f90 : g75 (112) = g58 (112) := by rw [← hg76]; exact va_up_ne _ _ (by omega)
        have f91 : g75 (113) = g58 (113) := by rw [← hg76]; exact va_up_ne _ _ (by omega)
        refine qr_aload_n C dX7_embargo_137 rfl 2 rfl ?_
        refine qr_iload_n C dX7_embargo_138 rfl 3 rfl ?_
        refine qr_iload C dX7_embargo_139 6 rfl ?_
        have hM96 : qm_P D (sm_embS1 σ n x1 (sm_ent σ x1 x2 x3) x4 x5) bk ad g75 := ⟨f77, (f78.trans ((f62.trans ((f45.trans ((f28.trans ((f11.trans (hM5.2.1)))))))))), (f79.trans ((f63.trans ((f46.trans ((f29.trans ((f12.trans (hM5.2.2.1)))))))))), (f80.trans ((f64.trans ((f47.trans ((f30.trans ((f13.trans (hM5.2.2.2.1)))))))))), (f81.trans ((f65.trans ((f48.trans ((f31.trans ((f14.trans (hM5.2.2.2.2.1)))))))))), (f82.trans ((f66.trans ((f49.trans ((f32.trans ((f15.trans (hM5.2.2.2.2.2.1)))))))))), (f83.trans ((f67.trans ((f50.trans ((f33.trans ((f16.trans (hM5.2.2.2.2.2.2.1)))))))))), (f88.trans ((f72.trans ((f56.trans ((f40.trans (f9)))))))), (f89.trans ((f73.trans ((f57.trans (f26)))))), (f90.trans ((f74.trans (f43)))), (f91.trans (f60)), (f84.trans ((f68.trans ((f52.trans ((f36.trans ((f20.trans (hM5.2.2.2.2.2.2.2.2.2.2.2.1)))))))))), (f85.trans ((f69.trans ((f53.trans ((f37.trans ((f21.trans (hM5.2.2.2.2.2.2.2.2.2.2.2.2.1)))))))))), (f86.trans ((f70.trans ((f54.trans ((f38.trans ((f22.trans (hM5.2.2.2.2.2.2.2.2.2.2.2.2.2.1)))))))))), (f87.trans ((f71.trans ((f55.trans ((f39.trans ((f23.trans (hM5.2.2.2.2.2.2.2.2.2.2.2.2.2.2))))))))))⟩
        refine qr_callV C (na := 2) (As := [(.int x1), (.int x4)]) (rest := []) (k_X7_drop hst D ad g75 (sm_embS1 σ n x1 (sm_ent σ x1 x2 x3) x4 x5) bk hM96 (x1) (x4) (t0) (L0) ht0 (by omega) hx1 hx4) (100) (f77) rfl rfl gi_X7_78 rfl ⟨by decide, by decide, by decide +kernel⟩ rfl rfl (Nat.le_of_ble_eq_true rfl) rfl rfl ⟨Nat.le_of_ble_eq_true rfl, Nat.le_of_ble_eq_true rfl⟩ ⟨Nat.le_of_ble_eq_true rfl, Nat.le_of_ble_eq_true rfl⟩ dX7_embargo_141 (fun v ad2 gc92 hpo93 => ?_)
        obtain ⟨rfl, rfl, hM94, hfr95⟩ := hpo93
        refine qr_pop C dX7_embargo_144 rfl ?_
        refine qr_aload_n C dX7_embargo_145 rfl 2 rfl ?_
        refine gf_X7_95 C (100) (hM94.1) rfl rfl dX7_embargo_146 ?_
        refine qr_iconst (v := 1) C dX7_embargo_149 (by decide) ?_
        refine qr_isub C dX7_embargo_150 ?_
        exact qr_iret C rfl (Nat.zero_le _) (Nat.zero_le _) dX7_embargo_151 ((by subst hbk; exact ⟨rfl, fun t ht => ((hfr95 t ht).trans ((congrFun hg76 t).symm.trans ((va_up_ne _ _ (by omega)).trans ((congrFun hg59 t).symm.trans ((va_up_ne _ _ (by omega)).trans ((congrFun hg42 t).symm.trans ((va_up_ne _ _ (by omega)).trans ((congrFun hg25 t).symm.trans ((va_up_ne _ _ (by omega)).trans ((congrFun hg8 t).symm.trans ((va_up_ne _ _ (by omega)).trans ((hfr6 t ht).trans rfl)))))))))))), Or.inr ⟨sm_ref0.mp c74, sg_vi (by show σ 9 0 = σ 9 0 + 1 - 1; rw [Int32.add_sub_cancel]), (by unfold sm_embS; rw [hx1c, hx4c]; exact hM94)⟩⟩))
      · skip
        refine qr_iconst (v := 0) C dX7_embargo_77 (by decide) ?_
        exact qr_iret C rfl (Nat.zero_le _) (Nat.zero_le _) dX7_embargo_78 ((by subst hbk; exact ⟨rfl, fun t ht => ((hfr6 t ht).trans rfl), Or.inl ⟨fun z => c74 (sm_ref0.mpr z), rfl, hM5⟩⟩))
    refine qr_iload C dX7_embargo_38 1 rfl ?_
    refine qr_iconst (v := -1) C dX7_embargo_40 (by decide) ?_
    refine qr_icmp_ne C 48 dX7_embargo_41 (by decide) (fun c97 => ?_) (fun c97 => ?_)
    · skip
      refine qr_iload C dX7_embargo_48 0 rfl ?_
      refine qr_if_ne C 57 dX7_embargo_50 (by decide) (fun c98 => ?_) (fun c98 => ?_)
      · skip
        refine qr_aload_n C dX7_embargo_57 rfl 2 rfl ?_
        refine gf_X7_95 C (100) (hM.1) rfl rfl dX7_embargo_58 ?_
        refine qr_bipush (v := 40) C dX7_embargo_61 (by decide) ?_
        refine qr_icmp_ne C 70 dX7_embargo_63 (by decide) (fun c99 => ?_) (fun c99 => ?_)
        · skip
          refine qr_iconst (v := 0) C dX7_embargo_70 (by decide) ?_
          exact M38_1 _ (by simp only [if_neg c97, if_neg c98, if_neg c99])
        · skip
          refine qr_iconst (v := 3) C dX7_embargo_66 (by decide) ?_
          refine qr_goto (tgt := 71) C dX7_embargo_67 (by decide) ?_
          exact M38_1 _ (by simp only [if_neg c97, if_neg c98, if_pos c99])
      · skip
        refine qr_iconst (v := 2) C dX7_embargo_53 (by decide) ?_
        refine qr_goto (tgt := 71) C dX7_embargo_54 (by decide) ?_
        exact M38_1 _ (by simp only [if_neg c97, if_pos c98])
    · skip
      refine qr_iconst (v := 1) C dX7_embargo_44 (by decide) ?_
      refine qr_goto (tgt := 71) C dX7_embargo_45 (by decide) ?_
      exact M38_1 _ (by simp only [if_pos c97])
  refine qr_iload C dX7_embargo_9 5 rfl ?_
  refine qr_iconst (v := 1) C dX7_embargo_11 (by decide) ?_
  refine qr_iconst (v := 3) C dX7_embargo_12 (by decide) ?_
  refine qr_callS C (na := 3) (As := [(.int x4), (.int (1 : Int32)), (.int (3 : Int32))]) (rest := []) (k_X7_in hst D ad g (x4) ((1 : Int32)) ((3 : Int32))) gi_X7_57 ⟨by decide, by decide, by decide +kernel⟩ rfl rfl (Nat.le_of_ble_eq_true rfl) rfl rfl ⟨Nat.le_of_ble_eq_true rfl, Nat.le_of_ble_eq_true rfl⟩ ⟨Nat.le_of_ble_eq_true rfl, Nat.le_of_ble_eq_true rfl⟩ dX7_embargo_13 (fun v ad2 g2 hpo => ?_)
  obtain ⟨rfl, rfl, rfl⟩ := hpo
  refine qr_if_eq C 34 dX7_embargo_16 (by decide) (fun c100 => ?_) (fun c100 => ?_)
  · skip
    refine qr_iconst (v := 0) C dX7_embargo_34 (by decide) ?_
    exact M9_0 _ (by simp only [if_pos c100])
  · skip
    refine qr_iload C dX7_embargo_19 6 rfl ?_
    refine qr_iconst (v := 1) C dX7_embargo_21 (by decide) ?_
    refine qr_bipush (v := 100) C dX7_embargo_22 (by decide) ?_
    refine qr_callS C (na := 3) (As := [(.int x5), (.int (1 : Int32)), (.int (100 : Int32))]) (rest := []) (k_X7_in hst D ad g (x5) ((1 : Int32)) ((100 : Int32))) gi_X7_57 ⟨by decide, by decide, by decide +kernel⟩ rfl rfl (Nat.le_of_ble_eq_true rfl) rfl rfl ⟨Nat.le_of_ble_eq_true rfl, Nat.le_of_ble_eq_true rfl⟩ ⟨Nat.le_of_ble_eq_true rfl, Nat.le_of_ble_eq_true rfl⟩ dX7_embargo_24 (fun v ad2 g2 hpo => ?_)
    obtain ⟨rfl, rfl, rfl⟩ := hpo
    refine qr_if_eq C 34 dX7_embargo_27 (by decide) (fun c101 => ?_) (fun c101 => ?_)
    · skip
      refine qr_iconst (v := 0) C dX7_embargo_34 (by decide) ?_
      exact M9_0 _ (by simp only [if_neg c100, if_pos c101])
    · skip
      refine qr_iconst (v := 1) C dX7_embargo_30 (by decide) ?_
      refine qr_goto (tgt := 35) C dX7_embargo_31 (by decide) ?_
      exact M9_0 _ (by simp only [if_neg c100, if_neg c101])
def sm_clift (σ : Nat → Nat → Int32) (x1 : Int32) : Int32 := if sm_in x1 0 (σ 9 0 - 1) = 0 then 1 else if sm_lasts σ x1.toNatClampNeg = 0 then 2 else 0
def sm_liftS (σ : Nat → Nat → Int32) (x1 : Int32) : Nat → Nat → Int32 := sm_dropS (va_up σ 14 (upd (σ 14) x1.toNatClampNeg 1)) (σ 10 x1.toNatClampNeg).toNatClampNeg (σ 12 x1.toNatClampNeg).toNatClampNeg
set_option maxHeartbeats 4000000 in
set_option maxRecDepth 100000 in
theorem k_X7_lift {l : Launch} (hst : l.stackTraces = false) (D : va_G) (ad : Nat → Nat) (g : qw_G) (σ : Nat → Nat → Int32) (r : Int32) (hM : qm_P D σ r ad g) (n : Nat) (hn : σ 9 0 = nI n) (hn2 : n ≤ 40) (hT : ∀ i, i < n → ∃ t, t < 3 ∧ σ 10 i = nI t) (hL : ∀ i, i < n → ∃ t, t < 4 ∧ σ 12 i = nI t) (x1 : Int32) : qw_M l yX7_lift [Cond.code yX7_lift cX7_lift 3 (some .int)] { frames := 2, cells := 0, slots := 0, locals := 80 } D ad g [(.ref (ad 100)), (.int x1)] (qm_op D ad g (sm_clift σ x1) (σ 13 x1.toNatClampNeg - σ 1 0) σ (sm_liftS σ x1)) 0 0 := by
  refine qw_M.of (maxL := 3) (own := RX7) (lv := [(0, (.ref (ad 100))), (1, (.int x1))]) hst (by decide) rfl rfl (Nat.le_of_ble_eq_true rfl) ?_
  intro p e s m args below meth c A C hin
  refine qr_iload_n C dX7_lift_0 rfl 1 rfl ?_
  refine qr_iconst (v := 0) C dX7_lift_1 (by decide) ?_
  refine qr_aload_n C dX7_lift_2 rfl 0 rfl ?_
  refine gf_X7_95 C (100) (hM.1) rfl rfl dX7_lift_3 ?_
  refine qr_iconst (v := 1) C dX7_lift_6 (by decide) ?_
  refine qr_isub C dX7_lift_7 ?_
  refine qr_callS C (na := 3) (As := [(.int x1), (.int (0 : Int32)), (.int ((σ 9 0) - (1 : Int32)))]) (rest := []) (k_X7_in hst D ad g (x1) ((0 : Int32)) (((σ 9 0) - (1 : Int32)))) gi_X7_57 ⟨by decide, by decide, by decide +kernel⟩ rfl rfl (Nat.le_of_ble_eq_true rfl) rfl rfl ⟨Nat.le_of_ble_eq_true rfl, Nat.le_of_ble_eq_true rfl⟩ ⟨Nat.le_of_ble_eq_true rfl, Nat.le_of_ble_eq_true rfl⟩ dX7_lift_8 (fun v ad2 g2 hpo => ?_)
  obtain ⟨rfl, rfl, rfl⟩ := hpo
  refine qr_istore_n (lv' := [(2, (.int (sm_in (x1) ((0 : Int32)) (((σ 9 0) - (1 : Int32)))))), (0, (.ref (ad 100))), (1, (.int x1))]) C dX7_lift_11 rfl (by decide) rfl ?_
  refine qr_aload_n C dX7_lift_12 rfl 1 rfl ?_
  have M13_0 : ∀ bk : Int32, bk = (if (sm_in (x1) ((0 : Int32)) (((σ 9 0) - (1 : Int32)))) = 0 then (1 : Int32) else (if (sm_lasts σ (x1.toNatClampNeg)) = 0 then (2 : Int32) else (0 : Int32))) → qw_W p l e { frames := 2, cells := 0, slots := 0, locals := 80 } s m args below meth c D A 3 (MQ below (qw_Q (qm_op D ad g (sm_clift σ x1) (σ 13 x1.toNatClampNeg - σ 1 0) σ (sm_liftS σ x1)) D A) args s 0 0 A) 0 0 ad g 34 [(2, (.int (sm_in (x1) ((0 : Int32)) (((σ 9 0) - (1 : Int32)))))), (0, (.ref (ad 100))), (1, (.int x1))] [(.int bk), (.ref (ad 100))] := by
    intro bk hbk
    have hbk : bk = sm_clift σ x1 := hbk.trans (rfl)
    refine qr_callV C (na := 1) (As := [(.int bk)]) (rest := []) (k_X7_refused hst D ad g σ r hM bk) (100) (hM.1) rfl rfl gi_X7_75 rfl ⟨by decide, by decide, by decide +kernel⟩ rfl rfl (Nat.le_of_ble_eq_true rfl) rfl rfl ⟨Nat.le_of_ble_eq_true rfl, Nat.le_of_ble_eq_true rfl⟩ ⟨Nat.le_of_ble_eq_true rfl, Nat.le_of_ble_eq_true rfl⟩ dX7_lift_34 (fun v ad2 gc2 hpo3 => ?_)
    obtain ⟨rfl, rfl, hM4, hfr5⟩ := hpo3
    refine qr_if_eq C 42 dX7_lift_37 (by decide) (fun c37 => ?_) (fun c37 => ?_)
    · skip
      have hok := hbk.symm.trans (sm_ref0.mp c37)
      have c14 : ¬ sm_in x1 0 (σ 9 0 - 1) = 0 := fun z => absurd ((if_pos z).symm.trans hok) (by decide)
      obtain ⟨i0, hi0, hx1⟩ := sm_in_n hn (by omega) c14
      obtain ⟨t0, ht0, htt⟩ := hT i0 hi0
      obtain ⟨L0, hL0, htL⟩ := hL i0 hi0
      have hic : x1.toNatClampNeg = i0 := by rw [hx1, nI_clamp (by omega)]
      have htc : (σ 10 i0).toNatClampNeg = t0 := by rw [htt, nI_clamp (by omega)]
      have hLc : (σ 12 i0).toNatClampNeg = L0 := by rw [htL, nI_clamp (by omega)]
      refine qr_aload_n C dX7_lift_42 rfl 1 rfl ?_
      refine gf_X7_41 C (100) (hM4.1) rfl rfl dX7_lift_43 ?_
      refine qr_iload_n C dX7_lift_46 rfl 2 rfl ?_
      refine qr_iconst (v := 1) C dX7_lift_47 (by decide) ?_
      refine qr_zast C (114) (hM4.2.2.2.2.2.2.2.2.2.2.2.1) rfl (j := i0) hx1 (by omega) rfl (Or.inr rfl) dX7_lift_48 ?_
      generalize hg7 : va_up gc2 (114) _ = g6
      have f8 : g6 (114) = some (.inl (D.1 21, 40, .inl (upd (σ 14) (i0) (1 : Int32)))) := by rw [← hg7]; exact va_up_self _ _ _
      have f9 : g6 (100) = gc2 (100) := by rw [← hg7]; exact va_up_ne _ _ (by omega)
      have f10 : g6 (103) = gc2 (103) := by rw [← hg7]; exact va_up_ne _ _ (by omega)
      have f11 : g6 (104) = gc2 (104) := by rw [← hg7]; exact va_up_ne _ _ (by omega)
      have f12 : g6 (105) = gc2 (105) := by rw [← hg7]; exact va_up_ne _ _ (by omega)
      have f13 : g6 (106) = gc2 (106) := by rw [← hg7]; exact va_up_ne _ _ (by omega)
      have f14 : g6 (107) = gc2 (107) := by rw [← hg7]; exact va_up_ne _ _ (by omega)
      have f15 : g6 (108) = gc2 (108) := by rw [← hg7]; exact va_up_ne _ _ (by omega)
      have f16 : g6 (110) = gc2 (110) := by rw [← hg7]; exact va_up_ne _ _ (by omega)
      have f17 : g6 (111) = gc2 (111) := by rw [← hg7]; exact va_up_ne _ _ (by omega)
      have f18 : g6 (112) = gc2 (112) := by rw [← hg7]; exact va_up_ne _ _ (by omega)
      have f19 : g6 (113) = gc2 (113) := by rw [← hg7]; exact va_up_ne _ _ (by omega)
      have f20 : g6 (115) = gc2 (115) := by rw [← hg7]; exact va_up_ne _ _ (by omega)
      have f21 : g6 (116) = gc2 (116) := by rw [← hg7]; exact va_up_ne _ _ (by omega)
      have f22 : g6 (117) = gc2 (117) := by rw [← hg7]; exact va_up_ne _ _ (by omega)
      refine qr_aload_n C dX7_lift_49 rfl 1 rfl ?_
      refine qr_aload_n C dX7_lift_50 rfl 1 rfl ?_
      refine gf_X7_29 C (100) ((f9.trans (hM4.1))) rfl rfl dX7_lift_51 ?_
      refine qr_iload_n C dX7_lift_54 rfl 2 rfl ?_
      refine qr_iald C (x := ((σ 10) (i0))) (110) ((f16.trans (hM4.2.2.2.2.2.2.2.1))) rfl (j := i0) hx1 (by omega) rfl rfl dX7_lift_55 ?_
      refine qr_aload_n C dX7_lift_56 rfl 1 rfl ?_
      refine gf_X7_35 C (100) ((f9.trans (hM4.1))) rfl rfl dX7_lift_57 ?_
      refine qr_iload_n C dX7_lift_60 rfl 2 rfl ?_
      refine qr_iald C (x := ((σ 12) (i0))) (112) ((f18.trans (hM4.2.2.2.2.2.2.2.2.2.1))) rfl (j := i0) hx1 (by omega) rfl rfl dX7_lift_61 ?_
      have hM27 : qm_P D ((va_up σ 14 (upd (σ 14) i0 1))) bk ad g6 := ⟨(f9.trans (hM4.1)), (f10.trans (hM4.2.1)), (f11.trans (hM4.2.2.1)), (f12.trans (hM4.2.2.2.1)), (f13.trans (hM4.2.2.2.2.1)), (f14.trans (hM4.2.2.2.2.2.1)), (f15.trans (hM4.2.2.2.2.2.2.1)), (f16.trans (hM4.2.2.2.2.2.2.2.1)), (f17.trans (hM4.2.2.2.2.2.2.2.2.1)), (f18.trans (hM4.2.2.2.2.2.2.2.2.2.1)), (f19.trans (hM4.2.2.2.2.2.2.2.2.2.2.1)), f8, (f20.trans (hM4.2.2.2.2.2.2.2.2.2.2.2.2.1)), (f21.trans (hM4.2.2.2.2.2.2.2.2.2.2.2.2.2.1)), (f22.trans (hM4.2.2.2.2.2.2.2.2.2.2.2.2.2.2))⟩
      refine qr_callV C (na := 2) (As := [(.int ((σ 10) (i0))), (.int ((σ 12) (i0)))]) (rest := []) (k_X7_drop hst D ad g6 ((va_up σ 14 (upd (σ 14) i0 1))) bk hM27 (((σ 10) (i0))) (((σ 12) (i0))) (t0) (L0) ht0 (by omega) htt htL) (100) ((f9.trans (hM4.1))) rfl rfl gi_X7_78 rfl ⟨by decide, by decide, by decide +kernel⟩ rfl rfl (Nat.le_of_ble_eq_true rfl) rfl rfl ⟨Nat.le_of_ble_eq_true rfl, Nat.le_of_ble_eq_true rfl⟩ ⟨Nat.le_of_ble_eq_true rfl, Nat.le_of_ble_eq_true rfl⟩ dX7_lift_62 (fun v ad2 gc23 hpo24 => ?_)
      obtain ⟨rfl, rfl, hM25, hfr26⟩ := hpo24
      refine qr_pop C dX7_lift_65 rfl ?_
      refine qr_aload_n C dX7_lift_66 rfl 1 rfl ?_
      refine gf_X7_38 C (100) (hM25.1) rfl rfl dX7_lift_67 ?_
      refine qr_iload_n C dX7_lift_70 rfl 2 rfl ?_
      refine qr_iald C (x := (((sm_dropS ((va_up σ 14 (upd (σ 14) i0 1))) (t0) (L0)) 13) (i0))) (113) (hM25.2.2.2.2.2.2.2.2.2.2.1) rfl (j := i0) hx1 (by omega) rfl rfl dX7_lift_71 ?_
      refine qr_aload_n C dX7_lift_72 rfl 1 rfl ?_
      refine gf_X7_92 C (100) (hM25.1) rfl rfl dX7_lift_73 ?_
      refine qr_isub C dX7_lift_76 ?_
      exact qr_iret C rfl (Nat.zero_le _) (Nat.zero_le _) dX7_lift_77 ((by subst hbk; exact ⟨rfl, fun t ht => ((hfr26 t ht).trans ((congrFun hg7 t).symm.trans ((va_up_ne _ _ (by omega)).trans ((hfr5 t ht).trans rfl)))), Or.inr ⟨sm_ref0.mp c37, sg_vi (by rw [hic]; rfl), (by unfold sm_liftS; rw [hic, htc, hLc]; exact hM25)⟩⟩))
    · skip
      refine qr_iconst (v := 0) C dX7_lift_40 (by decide) ?_
      exact qr_iret C rfl (Nat.zero_le _) (Nat.zero_le _) dX7_lift_41 ((by subst hbk; exact ⟨rfl, fun t ht => ((hfr5 t ht).trans rfl), Or.inl ⟨fun z => c37 (sm_ref0.mpr z), rfl, hM4⟩⟩))
  refine qr_iload_n C dX7_lift_13 rfl 0 rfl ?_
  refine qr_if_ne C 21 dX7_lift_14 (by decide) (fun c14 => ?_) (fun c14 => ?_)
  · skip
    obtain ⟨i0, hi0, hx1⟩ := sm_in_n hn (by omega) c14
    have hic : x1.toNatClampNeg = i0 := by rw [hx1, nI_clamp (by omega)]
    refine qr_aload_n C dX7_lift_21 rfl 1 rfl ?_
    refine qr_iload_n C dX7_lift_22 rfl 2 rfl ?_
    refine qr_callV C (na := 1) (As := [(.int x1)]) (rest := [(.ref (ad 100))]) (k_X7_lasts hst D ad g σ r hM x1 (x1.toNatClampNeg) (by rw [hic]; omega) (by rw [hic]; exact hx1)) (100) (hM.1) rfl rfl gi_X7_98 rfl ⟨by decide, by decide, by decide +kernel⟩ rfl rfl (Nat.le_of_ble_eq_true rfl) rfl rfl ⟨Nat.le_of_ble_eq_true rfl, Nat.le_of_ble_eq_true rfl⟩ ⟨Nat.le_of_ble_eq_true rfl, Nat.le_of_ble_eq_true rfl⟩ dX7_lift_23 (fun v ad2 g2 hpo => ?_)
    obtain ⟨rfl, rfl, rfl⟩ := hpo
    refine qr_if_eq C 33 dX7_lift_26 (by decide) (fun c28 => ?_) (fun c28 => ?_)
    · skip
      refine qr_iconst (v := 2) C dX7_lift_33 (by decide) ?_
      exact M13_0 _ (by simp only [if_neg c14, if_pos c28])
    · skip
      refine qr_iconst (v := 0) C dX7_lift_29 (by decide) ?_
      refine qr_goto (tgt := 34) C dX7_lift_30 (by decide) ?_
      exact M13_0 _ (by simp only [if_neg c14, if_neg c28])
  · skip
    refine qr_iconst (v := 1) C dX7_lift_17 (by decide) ?_
    refine qr_goto (tgt := 34) C dX7_lift_18 (by decide) ?_
    exact M13_0 _ (by simp only [if_pos c14])
def sm_cisE (σ : Nat → Nat → Int32) (x1 x2 x3 x4 : Int32) : Int32 := if sm_ent σ x1 x2 x3 = -1 then 1 else if sm_isL x4 = 0 then 1 else 0
def sm_b1 (x : Int32) : Int32 := if x = 1 then 1 else 0
set_option maxHeartbeats 4000000 in
set_option maxRecDepth 100000 in
theorem k_X7_isEmbargoed {l : Launch} (hst : l.stackTraces = false) (D : va_G) (ad : Nat → Nat) (g : qw_G) (σ : Nat → Nat → Int32) (r : Int32) (hM : qm_P D σ r ad g) (n : Nat) (hn : σ 9 0 = nI n) (hn2 : n ≤ 40) (x1 x2 x3 x4 : Int32) : qw_M l yX7_isEmbargoed [Cond.code yX7_isEmbargoed cX7_isEmbargoed 6 (some .boolean)] { frames := 3, cells := 0, slots := 0, locals := 100 } D ad g [(.ref (ad 100)), (.int x1), (.int x2), (.int x3), (.int x4)] (qm_op D ad g (sm_cisE σ x1 x2 x3 x4) (sm_b1 (sm_bit (sm_bar σ x1 x4 n) (sm_ent σ x1 x2 x3))) σ σ) 0 0 := by
  refine qw_M.of (maxL := 6) (own := RX7) (lv := [(0, (.ref (ad 100))), (1, (.int x1)), (2, (.int x2)), (3, (.int x3)), (4, (.int x4))]) hst (by decide) rfl rfl (Nat.le_of_ble_eq_true rfl) ?_
  intro p e s m args below meth c A C hin
  refine qr_aload_n C dX7_isEmbargoed_0 rfl 0 rfl ?_
  refine qr_iload_n C dX7_isEmbargoed_1 rfl 1 rfl ?_
  refine qr_iload_n C dX7_isEmbargoed_2 rfl 2 rfl ?_
  refine qr_iload_n C dX7_isEmbargoed_3 rfl 3 rfl ?_
  refine qr_callV C (na := 3) (As := [(.int x1), (.int x2), (.int x3)]) (rest := []) (k_X7_entryOf hst D ad g σ r hM (x1) (x2) (x3)) (100) (hM.1) rfl rfl gi_X7_82 rfl ⟨by decide, by decide, by decide +kernel⟩ rfl rfl (Nat.le_of_ble_eq_true rfl) rfl rfl ⟨Nat.le_of_ble_eq_true rfl, Nat.le_of_ble_eq_true rfl⟩ ⟨Nat.le_of_ble_eq_true rfl, Nat.le_of_ble_eq_true rfl⟩ dX7_isEmbargoed_4 (fun v ad2 g2 hpo => ?_)
  obtain ⟨rfl, rfl, rfl⟩ := hpo
  refine qr_istore (lv' := [(5, (.int (sm_ent σ (x1) (x2) (x3)))), (0, (.ref (ad 100))), (1, (.int x1)), (2, (.int x2)), (3, (.int x3)), (4, (.int x4))]) C dX7_isEmbargoed_7 (by decide) rfl ?_
  refine qr_aload_n C dX7_isEmbargoed_9 rfl 1 rfl ?_
  have M10_0 : ∀ bk : Int32, bk = (if (sm_ent σ (x1) (x2) (x3)) = (-1 : Int32) then (1 : Int32) else (if (sm_isL (x4)) = 0 then (1 : Int32) else (0 : Int32))) → qw_W p l e { frames := 3, cells := 0, slots := 0, locals := 100 } s m args below meth c D A 6 (MQ below (qw_Q (qm_op D ad g (sm_cisE σ x1 x2 x3 x4) (sm_b1 (sm_bit (sm_bar σ x1 x4 n) (sm_ent σ x1 x2 x3))) σ σ) D A) args s 0 0 A) 0 0 ad g 29 [(5, (.int (sm_ent σ (x1) (x2) (x3)))), (0, (.ref (ad 100))), (1, (.int x1)), (2, (.int x2)), (3, (.int x3)), (4, (.int x4))] [(.int bk), (.ref (ad 100))] := by
    intro bk hbk
    have hbk : bk = sm_cisE σ x1 x2 x3 x4 := hbk.trans (rfl)
    refine qr_callV C (na := 1) (As := [(.int bk)]) (rest := []) (k_X7_refused hst D ad g σ r hM bk) (100) (hM.1) rfl rfl gi_X7_75 rfl ⟨by decide, by decide, by decide +kernel⟩ rfl rfl (Nat.le_of_ble_eq_true rfl) rfl rfl ⟨Nat.le_of_ble_eq_true rfl, Nat.le_of_ble_eq_true rfl⟩ ⟨Nat.le_of_ble_eq_true rfl, Nat.le_of_ble_eq_true rfl⟩ dX7_isEmbargoed_29 (fun v ad2 gc2 hpo3 => ?_)
    obtain ⟨rfl, rfl, hM4, hfr5⟩ := hpo3
    refine qr_if_eq C 37 dX7_isEmbargoed_32 (by decide) (fun c32 => ?_) (fun c32 => ?_)
    · skip
      refine qr_aload_n C dX7_isEmbargoed_37 rfl 1 rfl ?_
      refine qr_iload_n C dX7_isEmbargoed_38 rfl 2 rfl ?_
      refine qr_iload C dX7_isEmbargoed_39 5 rfl ?_
      refine qr_callV C (na := 2) (As := [(.int x1), (.int x4)]) (rest := []) (k_X7_barred hst D ad gc2 σ bk hM4 n hn hn2 (x1) (x4)) (100) (hM4.1) rfl rfl gi_X7_104 rfl ⟨by decide, by decide, by decide +kernel⟩ rfl rfl (Nat.le_of_ble_eq_true rfl) rfl rfl ⟨Nat.le_of_ble_eq_true rfl, Nat.le_of_ble_eq_true rfl⟩ ⟨Nat.le_of_ble_eq_true rfl, Nat.le_of_ble_eq_true rfl⟩ dX7_isEmbargoed_41 (fun v ad2 g2 hpo => ?_)
      obtain ⟨rfl, rfl, rfl⟩ := hpo
      refine qr_iload C dX7_isEmbargoed_44 0 rfl ?_
      refine qr_ishr C dX7_isEmbargoed_46 ?_
      refine qr_iconst (v := 1) C dX7_isEmbargoed_47 (by decide) ?_
      refine qr_iand C dX7_isEmbargoed_48 ?_
      refine qr_iconst (v := 1) C dX7_isEmbargoed_49 (by decide) ?_
      refine qr_icmp_ne C 57 dX7_isEmbargoed_50 (by decide) (fun c50 => ?_) (fun c50 => ?_)
      · skip
        refine qr_iconst (v := 0) C dX7_isEmbargoed_57 (by decide) ?_
        exact qr_zret C rfl (by decide) (Nat.zero_le _) (Nat.zero_le _) dX7_isEmbargoed_58 ((by subst hbk; exact ⟨rfl, fun t ht => ((hfr5 t ht).trans rfl), Or.inr ⟨sm_ref0.mp c32, sg_vi (if_neg c50), ⟨hM4.1, hM4.2.1, hM4.2.2.1, hM4.2.2.2.1, hM4.2.2.2.2.1, hM4.2.2.2.2.2.1, hM4.2.2.2.2.2.2.1, hM4.2.2.2.2.2.2.2.1, hM4.2.2.2.2.2.2.2.2.1, hM4.2.2.2.2.2.2.2.2.2.1, hM4.2.2.2.2.2.2.2.2.2.2.1, hM4.2.2.2.2.2.2.2.2.2.2.2.1, hM4.2.2.2.2.2.2.2.2.2.2.2.2.1, hM4.2.2.2.2.2.2.2.2.2.2.2.2.2.1, hM4.2.2.2.2.2.2.2.2.2.2.2.2.2.2⟩⟩⟩))
      · skip
        refine qr_iconst (v := 1) C dX7_isEmbargoed_53 (by decide) ?_
        refine qr_goto (tgt := 58) C dX7_isEmbargoed_54 (by decide) ?_
        exact qr_zret C rfl (by decide) (Nat.zero_le _) (Nat.zero_le _) dX7_isEmbargoed_58 ((by subst hbk; exact ⟨rfl, fun t ht => ((hfr5 t ht).trans rfl), Or.inr ⟨sm_ref0.mp c32, sg_vi (if_pos c50), ⟨hM4.1, hM4.2.1, hM4.2.2.1, hM4.2.2.2.1, hM4.2.2.2.2.1, hM4.2.2.2.2.2.1, hM4.2.2.2.2.2.2.1, hM4.2.2.2.2.2.2.2.1, hM4.2.2.2.2.2.2.2.2.1, hM4.2.2.2.2.2.2.2.2.2.1, hM4.2.2.2.2.2.2.2.2.2.2.1, hM4.2.2.2.2.2.2.2.2.2.2.2.1, hM4.2.2.2.2.2.2.2.2.2.2.2.2.1, hM4.2.2.2.2.2.2.2.2.2.2.2.2.2.1, hM4.2.2.2.2.2.2.2.2.2.2.2.2.2.2⟩⟩⟩))
    · skip
      refine qr_iconst (v := 0) C dX7_isEmbargoed_35 (by decide) ?_
      exact qr_zret C rfl (by decide) (Nat.zero_le _) (Nat.zero_le _) dX7_isEmbargoed_36 ((by subst hbk; exact ⟨rfl, fun t ht => ((hfr5 t ht).trans rfl), Or.inl ⟨fun z => c32 (sm_ref0.mpr z), rfl, hM4⟩⟩))
  refine qr_iload C dX7_isEmbargoed_10 0 rfl ?_
  refine qr_iconst (v := -1) C dX7_isEmbargoed_12 (by decide) ?_
  refine qr_icmp_eq C 24 dX7_isEmbargoed_13 (by decide) (fun c6 => ?_) (fun c6 => ?_)
  · skip
    refine qr_iconst (v := 1) C dX7_isEmbargoed_24 (by decide) ?_
    refine qr_goto (tgt := 29) C dX7_isEmbargoed_25 (by decide) ?_
    exact M10_0 _ (by simp only [if_pos c6])
  · skip
    refine qr_iload C dX7_isEmbargoed_16 5 rfl ?_
    refine qr_callS C (na := 1) (As := [(.int x4)]) (rest := [(.ref (ad 100))]) (k_X7_isLevel hst D ad g (x4)) gi_X7_101 ⟨by decide, by decide, by decide +kernel⟩ rfl rfl (Nat.le_of_ble_eq_true rfl) rfl rfl ⟨Nat.le_of_ble_eq_true rfl, Nat.le_of_ble_eq_true rfl⟩ ⟨Nat.le_of_ble_eq_true rfl, Nat.le_of_ble_eq_true rfl⟩ dX7_isEmbargoed_18 (fun v ad2 g2 hpo => ?_)
    obtain ⟨rfl, rfl, rfl⟩ := hpo
    refine qr_if_ne C 28 dX7_isEmbargoed_21 (by decide) (fun c7 => ?_) (fun c7 => ?_)
    · skip
      refine qr_iconst (v := 0) C dX7_isEmbargoed_28 (by decide) ?_
      exact M10_0 _ (by simp only [if_neg c6, if_neg c7])
    · skip
      refine qr_iconst (v := 1) C dX7_isEmbargoed_24 (by decide) ?_
      refine qr_goto (tgt := 29) C dX7_isEmbargoed_25 (by decide) ?_
      exact M10_0 _ (by simp only [if_neg c6, if_pos c7])
end
section
theorem sm_dropS_keep (σ : Nat → Nat → Int32) (t L : Nat) {k : Nat} (h : k ≠ 15) (h2 : k ≠ 18) : sm_dropS σ t L k = σ k := by
  unfold sm_dropS sg_u
  rw [va_up_ne _ _ h2, va_up_ne _ _ h]
def sm_pstep (j : Nat) (s : Int32 × (Nat → Nat → Int32)) : Int32 × (Nat → Nat → Int32) :=
  if s.2 14 j = 0 then (if s.2 13 j = s.2 1 0 then (s.1 + (sm_drop (s.2 10 j).toNatClampNeg (s.2 15) (s.2 12 j).toNatClampNeg).1, sm_dropS s.2 (s.2 10 j).toNatClampNeg (s.2 12 j).toNatClampNeg) else (s.1 + 0, s.2)) else (s.1 + 0, s.2)
theorem sm_pA {j : Nat} {s : Int32 × (Nat → Nat → Int32)} (h : ¬ s.2 14 j = 0) : sm_pstep j s = (s.1 + 0, s.2) := if_neg h
theorem sm_pB {j : Nat} {s : Int32 × (Nat → Nat → Int32)} (h : s.2 14 j = 0) (h2 : ¬ s.2 13 j = s.2 1 0) : sm_pstep j s = (s.1 + 0, s.2) := (if_pos h).trans (if_neg h2)
theorem sm_pC {j : Nat} {s : Int32 × (Nat → Nat → Int32)} (h : s.2 14 j = 0) (h2 : s.2 13 j = s.2 1 0) : sm_pstep j s = (s.1 + (sm_drop (s.2 10 j).toNatClampNeg (s.2 15) (s.2 12 j).toNatClampNeg).1, sm_dropS s.2 (s.2 10 j).toNatClampNeg (s.2 12 j).toNatClampNeg) := (if_pos h).trans (if_pos h2)
def sm_pU (σ : Nat → Nat → Int32) : Nat → Nat → Int32 := sg_u σ 1 (σ 1 0 + 1)
def sm_phour (n : Nat) (s : Int32 × (Nat → Nat → Int32)) : Int32 × (Nat → Nat → Int32) := sg_it sm_pstep (s.1, sm_pU s.2) n
def sm_passP (σ : Nat → Nat → Int32) (n h : Nat) : Int32 × (Nat → Nat → Int32) := sg_it (fun _ s => sm_phour n s) (0, σ) h
theorem sm_pstep_keep (j : Nat) (s : Int32 × (Nat → Nat → Int32)) {k : Nat} (h : k ≠ 15) (h2 : k ≠ 18) : (sm_pstep j s).2 k = s.2 k := by
  unfold sm_pstep
  by_cases h3 : s.2 14 j = 0
  · rw [if_pos h3]
    by_cases h4 : s.2 13 j = s.2 1 0
    · rw [if_pos h4]; exact sm_dropS_keep _ _ _ h h2
    · rw [if_neg h4]
  · rw [if_neg h3]
theorem sm_pit_keep (s : Int32 × (Nat → Nat → Int32)) {k : Nat} (h : k ≠ 15) (h2 : k ≠ 18) : ∀ n, (sg_it sm_pstep s n).2 k = s.2 k
  | 0 => rfl
  | n + 1 => (sm_pstep_keep n _ h h2).trans (sm_pit_keep s h h2 n)
theorem sm_passP_keep (σ : Nat → Nat → Int32) (n : Nat) {k : Nat} (h1 : k ≠ 1) (h : k ≠ 15) (h2 : k ≠ 18) : ∀ i, (sm_passP σ n i).2 k = σ k
  | 0 => rfl
  | i + 1 => by
    show (sg_it sm_pstep ((sm_passP σ n i).1, sm_pU (sm_passP σ n i).2) n).2 k = σ k
    rw [sm_pit_keep _ h h2]
    show va_up (sm_passP σ n i).2 1 _ k = σ k
    rw [va_up_ne _ _ h1]
    exact sm_passP_keep σ n h1 h h2 i
def sm_cpass (σ : Nat → Nat → Int32) (x1 : Int32) : Int32 := if sm_in x1 1 100 = 0 then 1 else if σ 1 0 + x1 ≤ 10000 then 0 else 2
theorem sm_cpass_ok {σ : Nat → Nat → Int32} {x1 : Int32} (h : sm_cpass σ x1 = 0) : ∃ t, t < 101 ∧ 1 ≤ t ∧ x1 = nI t ∧ x1.toNatClampNeg = t := by
  have e1 : (1 : Int32).toInt = 1 := by decide
  have e3 : (100 : Int32).toInt = 100 := by decide
  unfold sm_cpass at h
  by_cases h1 : sm_in x1 1 100 = 0
  · rw [if_pos h1] at h; exact absurd h (by decide)
  · rw [sm_in_i] at h1
    obtain ⟨t, ht, hx⟩ := sg_nat (x := x1) (n := 101) (by omega) (by omega) (by omega)
    have q1 : x1.toInt = t := by rw [hx, nI_toInt (by omega)]
    exact ⟨t, ht, by omega, hx, by rw [hx, nI_clamp (by omega)]⟩
set_option maxHeartbeats 4000000 in
set_option maxRecDepth 100000 in
theorem k_X7_pass {l : Launch} (hst : l.stackTraces = false) (D : va_G) (ad : Nat → Nat) (g : qw_G) (σ : Nat → Nat → Int32) (r : Int32) (hM : qm_P D σ r ad g) (n : Nat) (hn : σ 9 0 = nI n) (hn2 : n ≤ 40) (hT : ∀ i, i < n → ∃ t, t < 3 ∧ σ 10 i = nI t) (hL : ∀ i, i < n → ∃ t, t < 4 ∧ σ 12 i = nI t) (x1 : Int32) : qw_M l yX7_pass [Cond.code yX7_pass cX7_pass 5 (some .int)] { frames := 2, cells := 0, slots := 0, locals := 80 } D ad g [(.ref (ad 100)), (.int x1)] (qm_op D ad g (sm_cpass σ x1) (sm_passP σ n x1.toNatClampNeg).1 σ (sm_passP σ n x1.toNatClampNeg).2) 0 0 := by
  refine qw_M.of (maxL := 5) (own := RX7) (lv := [(0, (.ref (ad 100))), (1, (.int x1))]) hst (by decide) rfl rfl (Nat.le_of_ble_eq_true rfl) ?_
  intro p e s m args below meth c A C hin
  refine qr_aload_n C dX7_pass_0 rfl 0 rfl ?_
  have M1_0 : ∀ bk : Int32, bk = (if (sm_in (x1) ((1 : Int32)) ((100 : Int32))) = 0 then (1 : Int32) else (if ((σ 1 0) + x1) ≤ (10000 : Int32) then (0 : Int32) else (2 : Int32))) → qw_W p l e { frames := 2, cells := 0, slots := 0, locals := 80 } s m args below meth c D A 5 (MQ below (qw_Q (qm_op D ad g (sm_cpass σ x1) (sm_passP σ n x1.toNatClampNeg).1 σ (sm_passP σ n x1.toNatClampNeg).2) D A) args s 0 0 A) 0 0 ad g 32 [(0, (.ref (ad 100))), (1, (.int x1))] [(.int bk), (.ref (ad 100))] := by
    intro bk hbk
    have hbk : bk = sm_cpass σ x1 := hbk.trans (rfl)
    refine qr_callV C (na := 1) (As := [(.int bk)]) (rest := []) (k_X7_refused hst D ad g σ r hM bk) (100) (hM.1) rfl rfl gi_X7_75 rfl ⟨by decide, by decide, by decide +kernel⟩ rfl rfl (Nat.le_of_ble_eq_true rfl) rfl rfl ⟨Nat.le_of_ble_eq_true rfl, Nat.le_of_ble_eq_true rfl⟩ ⟨Nat.le_of_ble_eq_true rfl, Nat.le_of_ble_eq_true rfl⟩ dX7_pass_32 (fun v ad2 gc2 hpo3 => ?_)
    obtain ⟨rfl, rfl, hM4, hfr5⟩ := hpo3
    refine qr_if_eq C 40 dX7_pass_35 (by decide) (fun c35 => ?_) (fun c35 => ?_)
    · skip
      obtain ⟨h0, hh0, hh1, hx1, hx1c⟩ := sm_cpass_ok (hbk.symm.trans (sm_ref0.mp c35))
      refine qr_iconst (v := 0) C dX7_pass_40 (by decide) ?_
      refine qr_istore_n (lv' := [(2, (.int (0 : Int32))), (0, (.ref (ad 100))), (1, (.int x1))]) C dX7_pass_41 rfl (by decide) rfl ?_
      refine qr_iconst (v := 0) C dX7_pass_42 (by decide) ?_
      refine qr_istore_n (lv' := [(3, (.int (0 : Int32))), (2, (.int (0 : Int32))), (0, (.ref (ad 100))), (1, (.int x1))]) C dX7_pass_43 rfl (by decide) rfl ?_
      have L44 : ∀ (j44 i44 : Nat) (gl44 : qw_G) (na : Int32), i44 + j44 = h0 → na = (sm_passP σ n i44).1 → (qm_P D (sm_passP σ n i44).2 bk ad gl44 ∧ ∀ t, (t < 100 ∨ 118 ≤ t) → gl44 t = g t) → qw_W p l e { frames := 2, cells := 0, slots := 0, locals := 80 } s m args below meth c D A 5 (MQ below (qw_Q (qm_op D ad g (sm_cpass σ x1) (sm_passP σ n x1.toNatClampNeg).1 σ (sm_passP σ n x1.toNatClampNeg).2) D A) args s 0 0 A) 0 0 ad gl44 44 [(0, (.ref (ad 100))), (1, (.int x1)), (2, (.int na)), (3, (.int (nI i44)))] [] := by
        intro j44
        induction j44 with
        | zero =>
          intro i44 gl44 na hi44 hna hw44
          obtain rfl : h0 = i44 := by omega
          obtain ⟨hM44, hfr44⟩ := hw44
          refine qr_iload_n C dX7_pass_44 rfl 3 rfl ?_
          refine qr_iload_n C dX7_pass_45 rfl 1 rfl ?_
          refine qr_icmp_ge_t C 132 dX7_pass_46 (by decide) ((sg_le (h0) (h0) hx1 rfl (by omega) (by omega)).mpr (Nat.le_refl _)) ?_
          refine qr_iload_n C dX7_pass_132 rfl 2 rfl ?_
          exact qr_iret C rfl (Nat.zero_le _) (Nat.zero_le _) dX7_pass_133 ((by subst hbk; exact ⟨rfl, fun t ht => ((hfr44 t ht).trans rfl), Or.inr ⟨sm_ref0.mp c35, sg_vi (by rw [hx1c]; exact hna.symm), (by rw [hx1c]; exact ⟨hM44.1, hM44.2.1, hM44.2.2.1, hM44.2.2.2.1, hM44.2.2.2.2.1, hM44.2.2.2.2.2.1, hM44.2.2.2.2.2.2.1, hM44.2.2.2.2.2.2.2.1, hM44.2.2.2.2.2.2.2.2.1, hM44.2.2.2.2.2.2.2.2.2.1, hM44.2.2.2.2.2.2.2.2.2.2.1, hM44.2.2.2.2.2.2.2.2.2.2.2.1, hM44.2.2.2.2.2.2.2.2.2.2.2.2.1, hM44.2.2.2.2.2.2.2.2.2.2.2.2.2.1, hM44.2.2.2.2.2.2.2.2.2.2.2.2.2.2⟩)⟩⟩))
        | succ j44 ih44 =>
          intro i44 gl44 na hi44 hna hw44
          obtain ⟨hM44, hfr44⟩ := hw44
          refine qr_iload_n C dX7_pass_44 rfl 3 rfl ?_
          refine qr_iload_n C dX7_pass_45 rfl 1 rfl ?_
          refine qr_icmp_ge_f C 132 dX7_pass_46 (by decide) (fun z => absurd ((sg_le (h0) (i44) hx1 rfl (by omega) (by omega)).mp z) (by omega)) ?_
          refine qr_aload_n C dX7_pass_49 rfl 0 rfl ?_
          refine qr_dup C dX7_pass_50 rfl ?_
          refine gf_X7_92 C (100) (hM44.1) rfl rfl dX7_pass_51 ?_
          refine qr_iconst (v := 1) C dX7_pass_54 (by decide) ?_
          refine qr_iadd C dX7_pass_55 ?_
          refine pf_X7_92 C (100) (hM44.1) rfl rfl rfl (Nat.le_of_ble_eq_true rfl) rfl dX7_pass_56 ?_
          generalize hg7 : va_up gl44 (100) _ = g6
          have f8 : g6 (100) = some (.inr (6, [(.int bk), (.int ((((sm_passP σ n i44).2) 1 0) + (1 : Int32))), (.int (((sm_passP σ n i44).2) 2 0)), (.ref (ad 103)), (.ref (ad 104)), (.ref (ad 105)), (.ref (ad 106)), (.ref (ad 107)), (.ref (ad 108)), (.int (((sm_passP σ n i44).2) 9 0)), (.ref (ad 110)), (.ref (ad 111)), (.ref (ad 112)), (.ref (ad 113)), (.ref (ad 114)), (.ref (ad 115)), (.ref (ad 116)), (.ref (ad 117)), (.int (((sm_passP σ n i44).2) 18 0)), (.int (((sm_passP σ n i44).2) 19 0))])) := by rw [← hg7]; exact va_up_self _ _ _
          have f9 : g6 (103) = gl44 (103) := by rw [← hg7]; exact va_up_ne _ _ (by omega)
          have f10 : g6 (104) = gl44 (104) := by rw [← hg7]; exact va_up_ne _ _ (by omega)
          have f11 : g6 (105) = gl44 (105) := by rw [← hg7]; exact va_up_ne _ _ (by omega)
          have f12 : g6 (106) = gl44 (106) := by rw [← hg7]; exact va_up_ne _ _ (by omega)
          have f13 : g6 (107) = gl44 (107) := by rw [← hg7]; exact va_up_ne _ _ (by omega)
          have f14 : g6 (108) = gl44 (108) := by rw [← hg7]; exact va_up_ne _ _ (by omega)
          have f15 : g6 (110) = gl44 (110) := by rw [← hg7]; exact va_up_ne _ _ (by omega)
          have f16 : g6 (111) = gl44 (111) := by rw [← hg7]; exact va_up_ne _ _ (by omega)
          have f17 : g6 (112) = gl44 (112) := by rw [← hg7]; exact va_up_ne _ _ (by omega)
          have f18 : g6 (113) = gl44 (113) := by rw [← hg7]; exact va_up_ne _ _ (by omega)
          have f19 : g6 (114) = gl44 (114) := by rw [← hg7]; exact va_up_ne _ _ (by omega)
          have f20 : g6 (115) = gl44 (115) := by rw [← hg7]; exact va_up_ne _ _ (by omega)
          have f21 : g6 (116) = gl44 (116) := by rw [← hg7]; exact va_up_ne _ _ (by omega)
          have f22 : g6 (117) = gl44 (117) := by rw [← hg7]; exact va_up_ne _ _ (by omega)
          refine qr_iconst (v := 0) C dX7_pass_59 (by decide) ?_
          refine qr_istore (lv' := [(4, (.int (0 : Int32))), (0, (.ref (ad 100))), (1, (.int x1)), (2, (.int na)), (3, (.int (nI i44)))]) C dX7_pass_60 (by decide) rfl ?_
          have L62 : ∀ (j62 i62 : Nat) (gl62 : qw_G) (nb : Int32), i62 + j62 = n → nb = (sg_it sm_pstep (na, (sm_pU (sm_passP σ n i44).2)) i62).1 → (qm_P D (sg_it sm_pstep (na, (sm_pU (sm_passP σ n i44).2)) i62).2 bk ad gl62 ∧ ∀ t, (t < 100 ∨ 118 ≤ t) → gl62 t = g t) → qw_W p l e { frames := 2, cells := 0, slots := 0, locals := 80 } s m args below meth c D A 5 (MQ below (qw_Q (qm_op D ad g (sm_cpass σ x1) (sm_passP σ n x1.toNatClampNeg).1 σ (sm_passP σ n x1.toNatClampNeg).2) D A) args s 0 0 A) 0 0 ad gl62 62 [(0, (.ref (ad 100))), (1, (.int x1)), (2, (.int nb)), (3, (.int (nI i44))), (4, (.int (nI i62)))] [] := by
            intro j62
            induction j62 with
            | zero =>
              intro i62 gl62 nb hi62 hnb hw62
              obtain rfl : n = i62 := by omega
              obtain ⟨hM62, hfr62⟩ := hw62
              have hB : (sg_it sm_pstep (na, (sm_pU (sm_passP σ n i44).2)) n).2 9 0 = nI n := by rw [sm_pit_keep _ (by decide) (by decide)]; show (sm_passP σ n i44).2 9 0 = nI n; rw [sm_passP_keep _ _ (by decide) (by decide) (by decide)]; exact hn
              refine qr_iload C dX7_pass_62 4 rfl ?_
              refine qr_aload_n C dX7_pass_64 rfl 0 rfl ?_
              refine gf_X7_95 C (100) (hM62.1) rfl rfl dX7_pass_65 ?_
              refine qr_icmp_ge_t C 126 dX7_pass_68 (by decide) ((sg_le (n) (n) hB rfl (by omega) (by omega)).mpr (Nat.le_refl _)) ?_
              refine qr_iinc (v := (nI (i44 + 1))) (lv' := [(3, (.int (nI (i44 + 1)))), (0, (.ref (ad 100))), (1, (.int x1)), (2, (.int nb)), (4, (.int (nI (n))))]) C dX7_pass_126 (w := 3) rfl (nI_1 _) (by decide) rfl ?_
              refine qr_goto (tgt := 44) C dX7_pass_129 (by decide) ?_
              refine qw_pick [1, 2, 3, 0] (lv' := [(0, (.ref (ad 100))), (1, (.int x1)), (2, (.int nb)), (3, (.int (nI (i44 + 1))))]) rfl ?_
              exact ih44 (i44 + 1) gl62 nb (by omega) (by subst hna; exact hnb) (by subst hna; exact ⟨⟨hM62.1, hM62.2.1, hM62.2.2.1, hM62.2.2.2.1, hM62.2.2.2.2.1, hM62.2.2.2.2.2.1, hM62.2.2.2.2.2.2.1, hM62.2.2.2.2.2.2.2.1, hM62.2.2.2.2.2.2.2.2.1, hM62.2.2.2.2.2.2.2.2.2.1, hM62.2.2.2.2.2.2.2.2.2.2.1, hM62.2.2.2.2.2.2.2.2.2.2.2.1, hM62.2.2.2.2.2.2.2.2.2.2.2.2.1, hM62.2.2.2.2.2.2.2.2.2.2.2.2.2.1, hM62.2.2.2.2.2.2.2.2.2.2.2.2.2.2⟩, fun t1 ht => ((hfr62 t1 ht).trans rfl)⟩)
            | succ j62 ih62 =>
              intro i62 gl62 nb hi62 hnb hw62
              obtain ⟨hM62, hfr62⟩ := hw62
              have hB : (sg_it sm_pstep (na, (sm_pU (sm_passP σ n i44).2)) i62).2 9 0 = nI n := by rw [sm_pit_keep _ (by decide) (by decide)]; show (sm_passP σ n i44).2 9 0 = nI n; rw [sm_passP_keep _ _ (by decide) (by decide) (by decide)]; exact hn
              refine qr_iload C dX7_pass_62 4 rfl ?_
              refine qr_aload_n C dX7_pass_64 rfl 0 rfl ?_
              refine gf_X7_95 C (100) (hM62.1) rfl rfl dX7_pass_65 ?_
              refine qr_icmp_ge_f C 126 dX7_pass_68 (by decide) (fun z => absurd ((sg_le (n) (i62) hB rfl (by omega) (by omega)).mp z) (by omega)) ?_
              refine qr_iload_n C dX7_pass_71 rfl 2 rfl ?_
              refine qr_aload_n C dX7_pass_72 rfl 0 rfl ?_
              refine gf_X7_41 C (100) (hM62.1) rfl rfl dX7_pass_73 ?_
              refine qr_iload C dX7_pass_76 4 rfl ?_
              refine qr_zald C (x := ((((sg_it sm_pstep (na, (sm_pU (sm_passP σ n i44).2)) i62).2) 14) (i62))) (114) (hM62.2.2.2.2.2.2.2.2.2.2.2.1) rfl (j := i62) rfl (by omega) rfl rfl dX7_pass_78 ?_
              refine qr_if_ne C 117 dX7_pass_79 (by decide) (fun c79 => ?_) (fun c79 => ?_)
              · skip
                refine qr_iconst (v := 0) C dX7_pass_117 (by decide) ?_
                refine qr_iadd C dX7_pass_118 ?_
                refine qr_istore_n (lv' := [(2, (.int (nb + (0 : Int32)))), (0, (.ref (ad 100))), (1, (.int x1)), (3, (.int (nI i44))), (4, (.int (nI i62)))]) C dX7_pass_119 rfl (by decide) rfl ?_
                refine qr_iinc (v := (nI (i62 + 1))) (lv' := [(4, (.int (nI (i62 + 1)))), (2, (.int (nb + (0 : Int32)))), (0, (.ref (ad 100))), (1, (.int x1)), (3, (.int (nI i44)))]) C dX7_pass_120 (w := 4) rfl (nI_1 _) (by decide) rfl ?_
                refine qr_goto (tgt := 62) C dX7_pass_123 (by decide) ?_
                refine qw_pick [2, 3, 1, 4, 0] (lv' := [(0, (.ref (ad 100))), (1, (.int x1)), (2, (.int (nb + (0 : Int32)))), (3, (.int (nI i44))), (4, (.int (nI (i62 + 1))))]) rfl ?_
                exact ih62 (i62 + 1) gl62 (nb + (0 : Int32)) (by omega) (by subst hnb; exact (congrArg Prod.fst (sm_pA c79)).symm) (by rw [show (sg_it sm_pstep (na, (sm_pU (sm_passP σ n i44).2)) (i62 + 1)).2 = _ from congrArg Prod.snd (sm_pA c79)]; exact ⟨⟨hM62.1, hM62.2.1, hM62.2.2.1, hM62.2.2.2.1, hM62.2.2.2.2.1, hM62.2.2.2.2.2.1, hM62.2.2.2.2.2.2.1, hM62.2.2.2.2.2.2.2.1, hM62.2.2.2.2.2.2.2.2.1, hM62.2.2.2.2.2.2.2.2.2.1, hM62.2.2.2.2.2.2.2.2.2.2.1, hM62.2.2.2.2.2.2.2.2.2.2.2.1, hM62.2.2.2.2.2.2.2.2.2.2.2.2.1, hM62.2.2.2.2.2.2.2.2.2.2.2.2.2.1, hM62.2.2.2.2.2.2.2.2.2.2.2.2.2.2⟩, fun t1 ht => ((hfr62 t1 ht).trans rfl)⟩)
              · skip
                refine qr_aload_n C dX7_pass_82 rfl 0 rfl ?_
                refine gf_X7_38 C (100) (hM62.1) rfl rfl dX7_pass_83 ?_
                refine qr_iload C dX7_pass_86 4 rfl ?_
                refine qr_iald C (x := ((((sg_it sm_pstep (na, (sm_pU (sm_passP σ n i44).2)) i62).2) 13) (i62))) (113) (hM62.2.2.2.2.2.2.2.2.2.2.1) rfl (j := i62) rfl (by omega) rfl rfl dX7_pass_88 ?_
                refine qr_aload_n C dX7_pass_89 rfl 0 rfl ?_
                refine gf_X7_92 C (100) (hM62.1) rfl rfl dX7_pass_90 ?_
                refine qr_icmp_ne C 117 dX7_pass_93 (by decide) (fun c93 => ?_) (fun c93 => ?_)
                · skip
                  refine qr_iconst (v := 0) C dX7_pass_117 (by decide) ?_
                  refine qr_iadd C dX7_pass_118 ?_
                  refine qr_istore_n (lv' := [(2, (.int (nb + (0 : Int32)))), (0, (.ref (ad 100))), (1, (.int x1)), (3, (.int (nI i44))), (4, (.int (nI i62)))]) C dX7_pass_119 rfl (by decide) rfl ?_
                  refine qr_iinc (v := (nI (i62 + 1))) (lv' := [(4, (.int (nI (i62 + 1)))), (2, (.int (nb + (0 : Int32)))), (0, (.ref (ad 100))), (1, (.int x1)), (3, (.int (nI i44)))]) C dX7_pass_120 (w := 4) rfl (nI_1 _) (by decide) rfl ?_
                  refine qr_goto (tgt := 62) C dX7_pass_123 (by decide) ?_
                  refine qw_pick [2, 3, 1, 4, 0] (lv' := [(0, (.ref (ad 100))), (1, (.int x1)), (2, (.int (nb + (0 : Int32)))), (3, (.int (nI i44))), (4, (.int (nI (i62 + 1))))]) rfl ?_
                  exact ih62 (i62 + 1) gl62 (nb + (0 : Int32)) (by omega) (by subst hnb; exact (congrArg Prod.fst (sm_pB c79 c93)).symm) (by rw [show (sg_it sm_pstep (na, (sm_pU (sm_passP σ n i44).2)) (i62 + 1)).2 = _ from congrArg Prod.snd (sm_pB c79 c93)]; exact ⟨⟨hM62.1, hM62.2.1, hM62.2.2.1, hM62.2.2.2.1, hM62.2.2.2.2.1, hM62.2.2.2.2.2.1, hM62.2.2.2.2.2.2.1, hM62.2.2.2.2.2.2.2.1, hM62.2.2.2.2.2.2.2.2.1, hM62.2.2.2.2.2.2.2.2.2.1, hM62.2.2.2.2.2.2.2.2.2.2.1, hM62.2.2.2.2.2.2.2.2.2.2.2.1, hM62.2.2.2.2.2.2.2.2.2.2.2.2.1, hM62.2.2.2.2.2.2.2.2.2.2.2.2.2.1, hM62.2.2.2.2.2.2.2.2.2.2.2.2.2.2⟩, fun t1 ht => ((hfr62 t1 ht).trans rfl)⟩)
                · skip
                  obtain ⟨t0, ht0, htt⟩ := hT i62 (by omega)
                  obtain ⟨L0, hL0, htL⟩ := hL i62 (by omega)
                  have h10 : (sg_it sm_pstep (na, (sm_pU (sm_passP σ n i44).2)) i62).2 10 i62 = nI t0 := by rw [sm_pit_keep _ (by decide) (by decide)]; show (sm_passP σ n i44).2 10 i62 = _; rw [sm_passP_keep _ _ (by decide) (by decide) (by decide)]; exact htt
                  have h12 : (sg_it sm_pstep (na, (sm_pU (sm_passP σ n i44).2)) i62).2 12 i62 = nI L0 := by rw [sm_pit_keep _ (by decide) (by decide)]; show (sm_passP σ n i44).2 12 i62 = _; rw [sm_passP_keep _ _ (by decide) (by decide) (by decide)]; exact htL
                  have h10c : ((sg_it sm_pstep (na, (sm_pU (sm_passP σ n i44).2)) i62).2 10 i62).toNatClampNeg = t0 := by rw [h10, nI_clamp (by omega)]
                  have h12c : ((sg_it sm_pstep (na, (sm_pU (sm_passP σ n i44).2)) i62).2 12 i62).toNatClampNeg = L0 := by rw [h12, nI_clamp (by omega)]
                  refine qr_aload_n C dX7_pass_96 rfl 0 rfl ?_
                  refine qr_aload_n C dX7_pass_97 rfl 0 rfl ?_
                  refine gf_X7_29 C (100) (hM62.1) rfl rfl dX7_pass_98 ?_
                  refine qr_iload C dX7_pass_101 4 rfl ?_
                  refine qr_iald C (x := ((((sg_it sm_pstep (na, (sm_pU (sm_passP σ n i44).2)) i62).2) 10) (i62))) (110) (hM62.2.2.2.2.2.2.2.1) rfl (j := i62) rfl (by omega) rfl rfl dX7_pass_103 ?_
                  refine qr_aload_n C dX7_pass_104 rfl 0 rfl ?_
                  refine gf_X7_35 C (100) (hM62.1) rfl rfl dX7_pass_105 ?_
                  refine qr_iload C dX7_pass_108 4 rfl ?_
                  refine qr_iald C (x := ((((sg_it sm_pstep (na, (sm_pU (sm_passP σ n i44).2)) i62).2) 12) (i62))) (112) (hM62.2.2.2.2.2.2.2.2.2.1) rfl (j := i62) rfl (by omega) rfl rfl dX7_pass_110 ?_
                  have hM27 : qm_P D ((sg_it sm_pstep (na, (sm_pU (sm_passP σ n i44).2)) i62).2) bk ad gl62 := ⟨hM62.1, hM62.2.1, hM62.2.2.1, hM62.2.2.2.1, hM62.2.2.2.2.1, hM62.2.2.2.2.2.1, hM62.2.2.2.2.2.2.1, hM62.2.2.2.2.2.2.2.1, hM62.2.2.2.2.2.2.2.2.1, hM62.2.2.2.2.2.2.2.2.2.1, hM62.2.2.2.2.2.2.2.2.2.2.1, hM62.2.2.2.2.2.2.2.2.2.2.2.1, hM62.2.2.2.2.2.2.2.2.2.2.2.2.1, hM62.2.2.2.2.2.2.2.2.2.2.2.2.2.1, hM62.2.2.2.2.2.2.2.2.2.2.2.2.2.2⟩
                  refine qr_callV C (na := 2) (As := [(.int ((((sg_it sm_pstep (na, (sm_pU (sm_passP σ n i44).2)) i62).2) 10) (i62))), (.int ((((sg_it sm_pstep (na, (sm_pU (sm_passP σ n i44).2)) i62).2) 12) (i62)))]) (rest := [(.int nb)]) (k_X7_drop hst D ad gl62 ((sg_it sm_pstep (na, (sm_pU (sm_passP σ n i44).2)) i62).2) bk hM27 (((((sg_it sm_pstep (na, (sm_pU (sm_passP σ n i44).2)) i62).2) 10) (i62))) (((((sg_it sm_pstep (na, (sm_pU (sm_passP σ n i44).2)) i62).2) 12) (i62))) (((sg_it sm_pstep (na, (sm_pU (sm_passP σ n i44).2)) i62).2 10 i62).toNatClampNeg) (((sg_it sm_pstep (na, (sm_pU (sm_passP σ n i44).2)) i62).2 12 i62).toNatClampNeg) (by rw [h10c]; exact ht0) (by rw [h12c]; omega) (by rw [h10c]; exact h10) (by rw [h12c]; exact h12)) (100) (hM62.1) rfl rfl gi_X7_78 rfl ⟨by decide, by decide, by decide +kernel⟩ rfl rfl (Nat.le_of_ble_eq_true rfl) rfl rfl ⟨Nat.le_of_ble_eq_true rfl, Nat.le_of_ble_eq_true rfl⟩ ⟨Nat.le_of_ble_eq_true rfl, Nat.le_of_ble_eq_true rfl⟩ dX7_pass_111 (fun v ad2 gc23 hpo24 => ?_)
                  obtain ⟨rfl, rfl, hM25, hfr26⟩ := hpo24
                  refine qr_goto (tgt := 118) C dX7_pass_114 (by decide) ?_
                  refine qr_iadd C dX7_pass_118 ?_
                  refine qr_istore_n (lv' := [(2, (.int (nb + ((sm_drop (((sg_it sm_pstep (na, (sm_pU (sm_passP σ n i44).2)) i62).2 10 i62).toNatClampNeg) (((sg_it sm_pstep (na, (sm_pU (sm_passP σ n i44).2)) i62).2) 15) (((sg_it sm_pstep (na, (sm_pU (sm_passP σ n i44).2)) i62).2 12 i62).toNatClampNeg)).1)))), (0, (.ref (ad 100))), (1, (.int x1)), (3, (.int (nI i44))), (4, (.int (nI i62)))]) C dX7_pass_119 rfl (by decide) rfl ?_
                  refine qr_iinc (v := (nI (i62 + 1))) (lv' := [(4, (.int (nI (i62 + 1)))), (2, (.int (nb + ((sm_drop (((sg_it sm_pstep (na, (sm_pU (sm_passP σ n i44).2)) i62).2 10 i62).toNatClampNeg) (((sg_it sm_pstep (na, (sm_pU (sm_passP σ n i44).2)) i62).2) 15) (((sg_it sm_pstep (na, (sm_pU (sm_passP σ n i44).2)) i62).2 12 i62).toNatClampNeg)).1)))), (0, (.ref (ad 100))), (1, (.int x1)), (3, (.int (nI i44)))]) C dX7_pass_120 (w := 4) rfl (nI_1 _) (by decide) rfl ?_
                  refine qr_goto (tgt := 62) C dX7_pass_123 (by decide) ?_
                  refine qw_pick [2, 3, 1, 4, 0] (lv' := [(0, (.ref (ad 100))), (1, (.int x1)), (2, (.int (nb + ((sm_drop (((sg_it sm_pstep (na, (sm_pU (sm_passP σ n i44).2)) i62).2 10 i62).toNatClampNeg) (((sg_it sm_pstep (na, (sm_pU (sm_passP σ n i44).2)) i62).2) 15) (((sg_it sm_pstep (na, (sm_pU (sm_passP σ n i44).2)) i62).2 12 i62).toNatClampNeg)).1)))), (3, (.int (nI i44))), (4, (.int (nI (i62 + 1))))]) rfl ?_
                  exact ih62 (i62 + 1) gc23 (nb + ((sm_drop (((sg_it sm_pstep (na, (sm_pU (sm_passP σ n i44).2)) i62).2 10 i62).toNatClampNeg) (((sg_it sm_pstep (na, (sm_pU (sm_passP σ n i44).2)) i62).2) 15) (((sg_it sm_pstep (na, (sm_pU (sm_passP σ n i44).2)) i62).2 12 i62).toNatClampNeg)).1)) (by omega) (by subst hnb; exact (congrArg Prod.fst (sm_pC c79 c93)).symm) (by rw [show (sg_it sm_pstep (na, (sm_pU (sm_passP σ n i44).2)) (i62 + 1)).2 = _ from congrArg Prod.snd (sm_pC c79 c93)]; exact ⟨hM25, fun t1 ht => ((hfr26 t1 ht).trans ((hfr62 t1 ht).trans rfl))⟩)
          refine qw_pick [1, 2, 3, 4, 0] (lv' := [(0, (.ref (ad 100))), (1, (.int x1)), (2, (.int na)), (3, (.int (nI i44))), (4, (.int (0 : Int32)))]) rfl ?_
          exact L62 (n) 0 g6 na (by omega) rfl ⟨⟨f8, (f9.trans (hM44.2.1)), (f10.trans (hM44.2.2.1)), (f11.trans (hM44.2.2.2.1)), (f12.trans (hM44.2.2.2.2.1)), (f13.trans (hM44.2.2.2.2.2.1)), (f14.trans (hM44.2.2.2.2.2.2.1)), (f15.trans (hM44.2.2.2.2.2.2.2.1)), (f16.trans (hM44.2.2.2.2.2.2.2.2.1)), (f17.trans (hM44.2.2.2.2.2.2.2.2.2.1)), (f18.trans (hM44.2.2.2.2.2.2.2.2.2.2.1)), (f19.trans (hM44.2.2.2.2.2.2.2.2.2.2.2.1)), (f20.trans (hM44.2.2.2.2.2.2.2.2.2.2.2.2.1)), (f21.trans (hM44.2.2.2.2.2.2.2.2.2.2.2.2.2.1)), (f22.trans (hM44.2.2.2.2.2.2.2.2.2.2.2.2.2.2))⟩, fun t1 ht => ((congrFun hg7 t1).symm.trans ((va_up_ne _ _ (by omega)).trans ((hfr44 t1 ht).trans rfl)))⟩
      refine qw_pick [2, 3, 1, 0] (lv' := [(0, (.ref (ad 100))), (1, (.int x1)), (2, (.int (0 : Int32))), (3, (.int (0 : Int32)))]) rfl ?_
      exact L44 (h0) 0 gc2 (0 : Int32) (by omega) rfl ⟨hM4, fun t1 ht => ((hfr5 t1 ht).trans rfl)⟩
    · skip
      refine qr_iconst (v := 0) C dX7_pass_38 (by decide) ?_
      exact qr_iret C rfl (Nat.zero_le _) (Nat.zero_le _) dX7_pass_39 ((by subst hbk; exact ⟨rfl, fun t ht => ((hfr5 t ht).trans rfl), Or.inl ⟨fun z => c35 (sm_ref0.mpr z), rfl, hM4⟩⟩))
  refine qr_iload_n C dX7_pass_1 rfl 1 rfl ?_
  refine qr_iconst (v := 1) C dX7_pass_2 (by decide) ?_
  refine qr_bipush (v := 100) C dX7_pass_3 (by decide) ?_
  refine qr_callS C (na := 3) (As := [(.int x1), (.int (1 : Int32)), (.int (100 : Int32))]) (rest := [(.ref (ad 100))]) (k_X7_in hst D ad g (x1) ((1 : Int32)) ((100 : Int32))) gi_X7_57 ⟨by decide, by decide, by decide +kernel⟩ rfl rfl (Nat.le_of_ble_eq_true rfl) rfl rfl ⟨Nat.le_of_ble_eq_true rfl, Nat.le_of_ble_eq_true rfl⟩ ⟨Nat.le_of_ble_eq_true rfl, Nat.le_of_ble_eq_true rfl⟩ dX7_pass_5 (fun v ad2 g2 hpo => ?_)
  obtain ⟨rfl, rfl, rfl⟩ := hpo
  refine qr_if_ne C 15 dX7_pass_8 (by decide) (fun c28 => ?_) (fun c28 => ?_)
  · skip
    refine qr_aload_n C dX7_pass_15 rfl 0 rfl ?_
    refine gf_X7_92 C (100) (hM.1) rfl rfl dX7_pass_16 ?_
    refine qr_iload_n C dX7_pass_19 rfl 1 rfl ?_
    refine qr_iadd C dX7_pass_20 ?_
    refine qr_sipush (v := 10000) C dX7_pass_21 (by decide) ?_
    refine qr_icmp_le C 31 dX7_pass_24 (by decide) (fun c29 => ?_) (fun c29 => ?_)
    · skip
      refine qr_iconst (v := 0) C dX7_pass_31 (by decide) ?_
      exact M1_0 _ (by simp only [if_neg c28, if_pos c29])
    · skip
      refine qr_iconst (v := 2) C dX7_pass_27 (by decide) ?_
      refine qr_goto (tgt := 32) C dX7_pass_28 (by decide) ?_
      exact M1_0 _ (by simp only [if_neg c28, if_neg c29])
  · skip
    refine qr_iconst (v := 1) C dX7_pass_11 (by decide) ?_
    refine qr_goto (tgt := 32) C dX7_pass_12 (by decide) ?_
    exact M1_0 _ (by simp only [if_pos c28])
end
