section QWF
variable {p : Program} {l : Launch} {e : Env} {R : Room} {s : State} {m : MethodId} {args : Array Value} {below : List Frame} {meth : Method} {c : Code}
variable {D : va_G} {A : Nat → Prop} {nL : Nat} {Q : State → Prop} {k n : Nat} {ad : Nat → Nat} {g : qw_G} {pc : Nat} {lv : List (Nat × Value)} {st : List Value}
variable {cc : ByteArray} {own : String} {ret : Option FieldType}

set_option maxRecDepth 20000 in
theorem qi_X1 : qw_ci 0 RX1 TX1 5 := ⟨by decide +kernel, rfl⟩
set_option maxRecDepth 20000 in
theorem qi_X2 : qw_ci 1 RX2 TX2 1 := ⟨by decide +kernel, rfl⟩
set_option maxRecDepth 20000 in
theorem qi_X3 : qw_ci 2 RX3 TX3 5 := ⟨by decide +kernel, rfl⟩
set_option maxRecDepth 20000 in
theorem qi_X4 : qw_ci 3 RX4 TX4 5 := ⟨by decide +kernel, rfl⟩
set_option maxRecDepth 20000 in
theorem qi_X5 : qw_ci 4 RX5 TX5 4 := ⟨by decide +kernel, rfl⟩
set_option maxRecDepth 20000 in
theorem qi_X6 : qw_ci 5 RX6 TX6 9 := ⟨by decide +kernel, rfl⟩
set_option maxRecDepth 20000 in
theorem qi_X7 : qw_ci 6 RX7 TX7 20 := ⟨by decide +kernel, rfl⟩
set_option maxRecDepth 20000 in
theorem fl_X3_9 : qw_tb (.fieldLink RX3 9 (TX3 0).1 (TX3 0).2.1 (TX3 0).2.2.1) := qw_tbi 62 (by decide +kernel) rfl
theorem gf_X3_9 (C : qw_C p l s m args meth c D A nL cc RX3 ret) {a : Nat} {fs : List Value} {v : Value} (t : Nat) (hg : g t = some (.inr (2, fs))) (ha : ad t = a) (hv : fs[0]? = some v) (hd : decode cc pc = .ok (.getfield 9, 3)) (kk : qw_W p l e R s m args below meth c D A nL Q k n ad g (pc + 3) lv (v :: st)) : qw_W p l e R s m args below meth c D A nL Q k n ad g pc lv (.ref a :: st) := qr_get C qi_X3 0 (by decide) fl_X3_9 t hg ha hv hd kk
theorem pf_X3_9 (C : qw_C p l s m args meth c D A nL cc RX3 ret) (hin2 : meth.name = "<init>") {a : Nat} {fs fs' : List Value} {v : Value} (t : Nat) (hg : g t = some (.inr (2, fs))) (ha : ad t = a) (hn : narrow (.array .int) v = v) (hfit : fits (.array .int) v = true) (hl0 : 0 < fs.length) (hfs : fs.set 0 v = fs') (hd : decode cc pc = .ok (.putfield 9, 3)) (kk : qw_W p l e R s m args below meth c D A nL Q k n ad (va_up g t (some (.inr (2, fs')))) (pc + 3) lv st) : qw_W p l e R s m args below meth c D A nL Q k n ad g pc lv (v :: .ref a :: st) := qr_putF C qi_X3 tyX3 tyX3_ok nmX3 0 (by decide) fl_X3_9 rfl hin2 rfl (by decide +kernel) t hg ha hn hfit hl0 hfs hd kk
set_option maxRecDepth 20000 in
theorem fl_X6_186 : qw_tb (.fieldLinkNest RX6 186 (TX3 0).1 (TX3 0).2.1 (TX3 0).2.2.1 RX6) := qw_tbi 63 (by decide +kernel) rfl
theorem gf_X6_186 (C : qw_C p l s m args meth c D A nL cc RX6 ret) {a : Nat} {fs : List Value} {v : Value} (t : Nat) (hg : g t = some (.inr (2, fs))) (ha : ad t = a) (hv : fs[0]? = some v) (hd : decode cc pc = .ok (.getfield 186, 3)) (kk : qw_W p l e R s m args below meth c D A nL Q k n ad g (pc + 3) lv (v :: st)) : qw_W p l e R s m args below meth c D A nL Q k n ad g pc lv (.ref a :: st) := qr_getN C qi_X3 0 (by decide) fl_X6_186 t hg ha hv hd kk
set_option maxRecDepth 20000 in
theorem fl_X3_39 : qw_tb (.fieldLink RX3 39 (TX3 1).1 (TX3 1).2.1 (TX3 1).2.2.1) := qw_tbi 64 (by decide +kernel) rfl
theorem gf_X3_39 (C : qw_C p l s m args meth c D A nL cc RX3 ret) {a : Nat} {fs : List Value} {v : Value} (t : Nat) (hg : g t = some (.inr (2, fs))) (ha : ad t = a) (hv : fs[1]? = some v) (hd : decode cc pc = .ok (.getfield 39, 3)) (kk : qw_W p l e R s m args below meth c D A nL Q k n ad g (pc + 3) lv (v :: st)) : qw_W p l e R s m args below meth c D A nL Q k n ad g pc lv (.ref a :: st) := qr_get C qi_X3 1 (by decide) fl_X3_39 t hg ha hv hd kk
theorem pf_X3_39 (C : qw_C p l s m args meth c D A nL cc RX3 ret) {a : Nat} {fs fs' : List Value} {v : Value} (t : Nat) (hg : g t = some (.inr (2, fs))) (ha : ad t = a) (hn : narrow .boolean v = v) (hfit : fits .boolean v = true) (hl0 : 1 < fs.length) (hfs : fs.set 1 v = fs') (hd : decode cc pc = .ok (.putfield 39, 3)) (kk : qw_W p l e R s m args below meth c D A nL Q k n ad (va_up g t (some (.inr (2, fs')))) (pc + 3) lv st) : qw_W p l e R s m args below meth c D A nL Q k n ad g pc lv (v :: .ref a :: st) := qr_put C qi_X3 tyX3 tyX3_ok nmX3 1 (by decide) fl_X3_39 rfl (by decide +kernel) t hg ha hn hfit hl0 hfs hd kk
set_option maxRecDepth 20000 in
theorem fl_X6_180 : qw_tb (.fieldLinkNest RX6 180 (TX3 1).1 (TX3 1).2.1 (TX3 1).2.2.1 RX6) := qw_tbi 65 (by decide +kernel) rfl
theorem gf_X6_180 (C : qw_C p l s m args meth c D A nL cc RX6 ret) {a : Nat} {fs : List Value} {v : Value} (t : Nat) (hg : g t = some (.inr (2, fs))) (ha : ad t = a) (hv : fs[1]? = some v) (hd : decode cc pc = .ok (.getfield 180, 3)) (kk : qw_W p l e R s m args below meth c D A nL Q k n ad g (pc + 3) lv (v :: st)) : qw_W p l e R s m args below meth c D A nL Q k n ad g pc lv (.ref a :: st) := qr_getN C qi_X3 1 (by decide) fl_X6_180 t hg ha hv hd kk
theorem pf_X6_180 (C : qw_C p l s m args meth c D A nL cc RX6 ret) {a : Nat} {fs fs' : List Value} {v : Value} (t : Nat) (hg : g t = some (.inr (2, fs))) (ha : ad t = a) (hn : narrow .boolean v = v) (hfit : fits .boolean v = true) (hl0 : 1 < fs.length) (hfs : fs.set 1 v = fs') (hd : decode cc pc = .ok (.putfield 180, 3)) (kk : qw_W p l e R s m args below meth c D A nL Q k n ad (va_up g t (some (.inr (2, fs')))) (pc + 3) lv st) : qw_W p l e R s m args below meth c D A nL Q k n ad g pc lv (v :: .ref a :: st) := qr_putN C qi_X3 tyX3 tyX3_ok nmX3 1 (by decide) fl_X6_180 rfl (by decide +kernel) t hg ha hn hfit hl0 hfs hd kk
set_option maxRecDepth 20000 in
theorem fl_X3_26 : qw_tb (.fieldLink RX3 26 (TX3 2).1 (TX3 2).2.1 (TX3 2).2.2.1) := qw_tbi 66 (by decide +kernel) rfl
theorem gf_X3_26 (C : qw_C p l s m args meth c D A nL cc RX3 ret) {a : Nat} {fs : List Value} {v : Value} (t : Nat) (hg : g t = some (.inr (2, fs))) (ha : ad t = a) (hv : fs[2]? = some v) (hd : decode cc pc = .ok (.getfield 26, 3)) (kk : qw_W p l e R s m args below meth c D A nL Q k n ad g (pc + 3) lv (v :: st)) : qw_W p l e R s m args below meth c D A nL Q k n ad g pc lv (.ref a :: st) := qr_get C qi_X3 2 (by decide) fl_X3_26 t hg ha hv hd kk
theorem pf_X3_26 (C : qw_C p l s m args meth c D A nL cc RX3 ret) {a : Nat} {fs fs' : List Value} {v : Value} (t : Nat) (hg : g t = some (.inr (2, fs))) (ha : ad t = a) (hn : narrow .int v = v) (hfit : fits .int v = true) (hl0 : 2 < fs.length) (hfs : fs.set 2 v = fs') (hd : decode cc pc = .ok (.putfield 26, 3)) (kk : qw_W p l e R s m args below meth c D A nL Q k n ad (va_up g t (some (.inr (2, fs')))) (pc + 3) lv st) : qw_W p l e R s m args below meth c D A nL Q k n ad g pc lv (v :: .ref a :: st) := qr_put C qi_X3 tyX3 tyX3_ok nmX3 2 (by decide) fl_X3_26 rfl (by decide +kernel) t hg ha hn hfit hl0 hfs hd kk
set_option maxRecDepth 20000 in
theorem fl_X6_189 : qw_tb (.fieldLinkNest RX6 189 (TX3 2).1 (TX3 2).2.1 (TX3 2).2.2.1 RX6) := qw_tbi 67 (by decide +kernel) rfl
theorem gf_X6_189 (C : qw_C p l s m args meth c D A nL cc RX6 ret) {a : Nat} {fs : List Value} {v : Value} (t : Nat) (hg : g t = some (.inr (2, fs))) (ha : ad t = a) (hv : fs[2]? = some v) (hd : decode cc pc = .ok (.getfield 189, 3)) (kk : qw_W p l e R s m args below meth c D A nL Q k n ad g (pc + 3) lv (v :: st)) : qw_W p l e R s m args below meth c D A nL Q k n ad g pc lv (.ref a :: st) := qr_getN C qi_X3 2 (by decide) fl_X6_189 t hg ha hv hd kk
theorem pf_X6_189 (C : qw_C p l s m args meth c D A nL cc RX6 ret) {a : Nat} {fs fs' : List Value} {v : Value} (t : Nat) (hg : g t = some (.inr (2, fs))) (ha : ad t = a) (hn : narrow .int v = v) (hfit : fits .int v = true) (hl0 : 2 < fs.length) (hfs : fs.set 2 v = fs') (hd : decode cc pc = .ok (.putfield 189, 3)) (kk : qw_W p l e R s m args below meth c D A nL Q k n ad (va_up g t (some (.inr (2, fs')))) (pc + 3) lv st) : qw_W p l e R s m args below meth c D A nL Q k n ad g pc lv (v :: .ref a :: st) := qr_putN C qi_X3 tyX3 tyX3_ok nmX3 2 (by decide) fl_X6_189 rfl (by decide +kernel) t hg ha hn hfit hl0 hfs hd kk
set_option maxRecDepth 20000 in
theorem fl_X3_30 : qw_tb (.fieldLink RX3 30 (TX3 3).1 (TX3 3).2.1 (TX3 3).2.2.1) := qw_tbi 68 (by decide +kernel) rfl
theorem gf_X3_30 (C : qw_C p l s m args meth c D A nL cc RX3 ret) {a : Nat} {fs : List Value} {v : Value} (t : Nat) (hg : g t = some (.inr (2, fs))) (ha : ad t = a) (hv : fs[3]? = some v) (hd : decode cc pc = .ok (.getfield 30, 3)) (kk : qw_W p l e R s m args below meth c D A nL Q k n ad g (pc + 3) lv (v :: st)) : qw_W p l e R s m args below meth c D A nL Q k n ad g pc lv (.ref a :: st) := qr_get C qi_X3 3 (by decide) fl_X3_30 t hg ha hv hd kk
theorem pf_X3_30 (C : qw_C p l s m args meth c D A nL cc RX3 ret) {a : Nat} {fs fs' : List Value} {v : Value} (t : Nat) (hg : g t = some (.inr (2, fs))) (ha : ad t = a) (hn : narrow .int v = v) (hfit : fits .int v = true) (hl0 : 3 < fs.length) (hfs : fs.set 3 v = fs') (hd : decode cc pc = .ok (.putfield 30, 3)) (kk : qw_W p l e R s m args below meth c D A nL Q k n ad (va_up g t (some (.inr (2, fs')))) (pc + 3) lv st) : qw_W p l e R s m args below meth c D A nL Q k n ad g pc lv (v :: .ref a :: st) := qr_put C qi_X3 tyX3 tyX3_ok nmX3 3 (by decide) fl_X3_30 rfl (by decide +kernel) t hg ha hn hfit hl0 hfs hd kk
set_option maxRecDepth 20000 in
theorem fl_X6_172 : qw_tb (.fieldLinkNest RX6 172 (TX3 3).1 (TX3 3).2.1 (TX3 3).2.2.1 RX6) := qw_tbi 69 (by decide +kernel) rfl
theorem gf_X6_172 (C : qw_C p l s m args meth c D A nL cc RX6 ret) {a : Nat} {fs : List Value} {v : Value} (t : Nat) (hg : g t = some (.inr (2, fs))) (ha : ad t = a) (hv : fs[3]? = some v) (hd : decode cc pc = .ok (.getfield 172, 3)) (kk : qw_W p l e R s m args below meth c D A nL Q k n ad g (pc + 3) lv (v :: st)) : qw_W p l e R s m args below meth c D A nL Q k n ad g pc lv (.ref a :: st) := qr_getN C qi_X3 3 (by decide) fl_X6_172 t hg ha hv hd kk
theorem pf_X6_172 (C : qw_C p l s m args meth c D A nL cc RX6 ret) {a : Nat} {fs fs' : List Value} {v : Value} (t : Nat) (hg : g t = some (.inr (2, fs))) (ha : ad t = a) (hn : narrow .int v = v) (hfit : fits .int v = true) (hl0 : 3 < fs.length) (hfs : fs.set 3 v = fs') (hd : decode cc pc = .ok (.putfield 172, 3)) (kk : qw_W p l e R s m args below meth c D A nL Q k n ad (va_up g t (some (.inr (2, fs')))) (pc + 3) lv st) : qw_W p l e R s m args below meth c D A nL Q k n ad g pc lv (v :: .ref a :: st) := qr_putN C qi_X3 tyX3 tyX3_ok nmX3 3 (by decide) fl_X6_172 rfl (by decide +kernel) t hg ha hn hfit hl0 hfs hd kk
set_option maxRecDepth 20000 in
theorem fl_X3_36 : qw_tb (.fieldLink RX3 36 (TX3 4).1 (TX3 4).2.1 (TX3 4).2.2.1) := qw_tbi 70 (by decide +kernel) rfl
theorem gf_X3_36 (C : qw_C p l s m args meth c D A nL cc RX3 ret) {a : Nat} {fs : List Value} {v : Value} (t : Nat) (hg : g t = some (.inr (2, fs))) (ha : ad t = a) (hv : fs[4]? = some v) (hd : decode cc pc = .ok (.getfield 36, 3)) (kk : qw_W p l e R s m args below meth c D A nL Q k n ad g (pc + 3) lv (v :: st)) : qw_W p l e R s m args below meth c D A nL Q k n ad g pc lv (.ref a :: st) := qr_get C qi_X3 4 (by decide) fl_X3_36 t hg ha hv hd kk
theorem pf_X3_36 (C : qw_C p l s m args meth c D A nL cc RX3 ret) {a : Nat} {fs fs' : List Value} {v : Value} (t : Nat) (hg : g t = some (.inr (2, fs))) (ha : ad t = a) (hn : narrow .int v = v) (hfit : fits .int v = true) (hl0 : 4 < fs.length) (hfs : fs.set 4 v = fs') (hd : decode cc pc = .ok (.putfield 36, 3)) (kk : qw_W p l e R s m args below meth c D A nL Q k n ad (va_up g t (some (.inr (2, fs')))) (pc + 3) lv st) : qw_W p l e R s m args below meth c D A nL Q k n ad g pc lv (v :: .ref a :: st) := qr_put C qi_X3 tyX3 tyX3_ok nmX3 4 (by decide) fl_X3_36 rfl (by decide +kernel) t hg ha hn hfit hl0 hfs hd kk
set_option maxRecDepth 20000 in
theorem fl_X6_192 : qw_tb (.fieldLinkNest RX6 192 (TX3 4).1 (TX3 4).2.1 (TX3 4).2.2.1 RX6) := qw_tbi 71 (by decide +kernel) rfl
theorem gf_X6_192 (C : qw_C p l s m args meth c D A nL cc RX6 ret) {a : Nat} {fs : List Value} {v : Value} (t : Nat) (hg : g t = some (.inr (2, fs))) (ha : ad t = a) (hv : fs[4]? = some v) (hd : decode cc pc = .ok (.getfield 192, 3)) (kk : qw_W p l e R s m args below meth c D A nL Q k n ad g (pc + 3) lv (v :: st)) : qw_W p l e R s m args below meth c D A nL Q k n ad g pc lv (.ref a :: st) := qr_getN C qi_X3 4 (by decide) fl_X6_192 t hg ha hv hd kk
theorem pf_X6_192 (C : qw_C p l s m args meth c D A nL cc RX6 ret) {a : Nat} {fs fs' : List Value} {v : Value} (t : Nat) (hg : g t = some (.inr (2, fs))) (ha : ad t = a) (hn : narrow .int v = v) (hfit : fits .int v = true) (hl0 : 4 < fs.length) (hfs : fs.set 4 v = fs') (hd : decode cc pc = .ok (.putfield 192, 3)) (kk : qw_W p l e R s m args below meth c D A nL Q k n ad (va_up g t (some (.inr (2, fs')))) (pc + 3) lv st) : qw_W p l e R s m args below meth c D A nL Q k n ad g pc lv (v :: .ref a :: st) := qr_putN C qi_X3 tyX3 tyX3_ok nmX3 4 (by decide) fl_X6_192 rfl (by decide +kernel) t hg ha hn hfit hl0 hfs hd kk
set_option maxRecDepth 20000 in
theorem fl_X5_9 : qw_tb (.fieldLink RX5 9 (TX5 0).1 (TX5 0).2.1 (TX5 0).2.2.1) := qw_tbi 84 (by decide +kernel) rfl
theorem gf_X5_9 (C : qw_C p l s m args meth c D A nL cc RX5 ret) {a : Nat} {fs : List Value} {v : Value} (t : Nat) (hg : g t = some (.inr (4, fs))) (ha : ad t = a) (hv : fs[0]? = some v) (hd : decode cc pc = .ok (.getfield 9, 3)) (kk : qw_W p l e R s m args below meth c D A nL Q k n ad g (pc + 3) lv (v :: st)) : qw_W p l e R s m args below meth c D A nL Q k n ad g pc lv (.ref a :: st) := qr_get C qi_X5 0 (by decide) fl_X5_9 t hg ha hv hd kk
theorem pf_X5_9 (C : qw_C p l s m args meth c D A nL cc RX5 ret) (hin2 : meth.name = "<init>") {a : Nat} {fs fs' : List Value} {v : Value} (t : Nat) (hg : g t = some (.inr (4, fs))) (ha : ad t = a) (hn : narrow (.array .int) v = v) (hfit : fits (.array .int) v = true) (hl0 : 0 < fs.length) (hfs : fs.set 0 v = fs') (hd : decode cc pc = .ok (.putfield 9, 3)) (kk : qw_W p l e R s m args below meth c D A nL Q k n ad (va_up g t (some (.inr (4, fs')))) (pc + 3) lv st) : qw_W p l e R s m args below meth c D A nL Q k n ad g pc lv (v :: .ref a :: st) := qr_putF C qi_X5 tyX5 tyX5_ok nmX5 0 (by decide) fl_X5_9 rfl hin2 rfl (by decide +kernel) t hg ha hn hfit hl0 hfs hd kk
set_option maxRecDepth 20000 in
theorem fl_X3_15 : qw_tb (.fieldLinkNest RX3 15 (TX5 0).1 (TX5 0).2.1 (TX5 0).2.2.1 RX6) := qw_tbi 85 (by decide +kernel) rfl
theorem gf_X3_15 (C : qw_C p l s m args meth c D A nL cc RX3 ret) {a : Nat} {fs : List Value} {v : Value} (t : Nat) (hg : g t = some (.inr (4, fs))) (ha : ad t = a) (hv : fs[0]? = some v) (hd : decode cc pc = .ok (.getfield 15, 3)) (kk : qw_W p l e R s m args below meth c D A nL Q k n ad g (pc + 3) lv (v :: st)) : qw_W p l e R s m args below meth c D A nL Q k n ad g pc lv (.ref a :: st) := qr_getN C qi_X5 0 (by decide) fl_X3_15 t hg ha hv hd kk
set_option maxRecDepth 20000 in
theorem fl_X6_101 : qw_tb (.fieldLinkNest RX6 101 (TX5 0).1 (TX5 0).2.1 (TX5 0).2.2.1 RX6) := qw_tbi 86 (by decide +kernel) rfl
theorem gf_X6_101 (C : qw_C p l s m args meth c D A nL cc RX6 ret) {a : Nat} {fs : List Value} {v : Value} (t : Nat) (hg : g t = some (.inr (4, fs))) (ha : ad t = a) (hv : fs[0]? = some v) (hd : decode cc pc = .ok (.getfield 101, 3)) (kk : qw_W p l e R s m args below meth c D A nL Q k n ad g (pc + 3) lv (v :: st)) : qw_W p l e R s m args below meth c D A nL Q k n ad g pc lv (.ref a :: st) := qr_getN C qi_X5 0 (by decide) fl_X6_101 t hg ha hv hd kk
set_option maxRecDepth 20000 in
theorem fl_X5_17 : qw_tb (.fieldLink RX5 17 (TX5 1).1 (TX5 1).2.1 (TX5 1).2.2.1) := qw_tbi 87 (by decide +kernel) rfl
theorem gf_X5_17 (C : qw_C p l s m args meth c D A nL cc RX5 ret) {a : Nat} {fs : List Value} {v : Value} (t : Nat) (hg : g t = some (.inr (4, fs))) (ha : ad t = a) (hv : fs[1]? = some v) (hd : decode cc pc = .ok (.getfield 17, 3)) (kk : qw_W p l e R s m args below meth c D A nL Q k n ad g (pc + 3) lv (v :: st)) : qw_W p l e R s m args below meth c D A nL Q k n ad g pc lv (.ref a :: st) := qr_get C qi_X5 1 (by decide) fl_X5_17 t hg ha hv hd kk
theorem pf_X5_17 (C : qw_C p l s m args meth c D A nL cc RX5 ret) (hin2 : meth.name = "<init>") {a : Nat} {fs fs' : List Value} {v : Value} (t : Nat) (hg : g t = some (.inr (4, fs))) (ha : ad t = a) (hn : narrow (.array (.object "Pivotforge$Report")) v = v) (hfit : fits (.array (.object "Pivotforge$Report")) v = true) (hl0 : 1 < fs.length) (hfs : fs.set 1 v = fs') (hd : decode cc pc = .ok (.putfield 17, 3)) (kk : qw_W p l e R s m args below meth c D A nL Q k n ad (va_up g t (some (.inr (4, fs')))) (pc + 3) lv st) : qw_W p l e R s m args below meth c D A nL Q k n ad g pc lv (v :: .ref a :: st) := qr_putF C qi_X5 tyX5 tyX5_ok nmX5 1 (by decide) fl_X5_17 rfl hin2 rfl (by decide +kernel) t hg ha hn hfit hl0 hfs hd kk
set_option maxRecDepth 20000 in
theorem fl_X6_209 : qw_tb (.fieldLinkNest RX6 209 (TX5 1).1 (TX5 1).2.1 (TX5 1).2.2.1 RX6) := qw_tbi 88 (by decide +kernel) rfl
theorem gf_X6_209 (C : qw_C p l s m args meth c D A nL cc RX6 ret) {a : Nat} {fs : List Value} {v : Value} (t : Nat) (hg : g t = some (.inr (4, fs))) (ha : ad t = a) (hv : fs[1]? = some v) (hd : decode cc pc = .ok (.getfield 209, 3)) (kk : qw_W p l e R s m args below meth c D A nL Q k n ad g (pc + 3) lv (v :: st)) : qw_W p l e R s m args below meth c D A nL Q k n ad g pc lv (.ref a :: st) := qr_getN C qi_X5 1 (by decide) fl_X6_209 t hg ha hv hd kk
set_option maxRecDepth 20000 in
theorem fl_X6_94 : qw_tb (.fieldLinkNest RX6 94 (TX5 2).1 (TX5 2).2.1 (TX5 2).2.2.1 RX6) := qw_tbi 89 (by decide +kernel) rfl
theorem gf_X6_94 (C : qw_C p l s m args meth c D A nL cc RX6 ret) {a : Nat} {fs : List Value} {v : Value} (t : Nat) (hg : g t = some (.inr (4, fs))) (ha : ad t = a) (hv : fs[2]? = some v) (hd : decode cc pc = .ok (.getfield 94, 3)) (kk : qw_W p l e R s m args below meth c D A nL Q k n ad g (pc + 3) lv (v :: st)) : qw_W p l e R s m args below meth c D A nL Q k n ad g pc lv (.ref a :: st) := qr_getN C qi_X5 2 (by decide) fl_X6_94 t hg ha hv hd kk
theorem pf_X6_94 (C : qw_C p l s m args meth c D A nL cc RX6 ret) {a : Nat} {fs fs' : List Value} {v : Value} (t : Nat) (hg : g t = some (.inr (4, fs))) (ha : ad t = a) (hn : narrow .boolean v = v) (hfit : fits .boolean v = true) (hl0 : 2 < fs.length) (hfs : fs.set 2 v = fs') (hd : decode cc pc = .ok (.putfield 94, 3)) (kk : qw_W p l e R s m args below meth c D A nL Q k n ad (va_up g t (some (.inr (4, fs')))) (pc + 3) lv st) : qw_W p l e R s m args below meth c D A nL Q k n ad g pc lv (v :: .ref a :: st) := qr_putN C qi_X5 tyX5 tyX5_ok nmX5 2 (by decide) fl_X6_94 rfl (by decide +kernel) t hg ha hn hfit hl0 hfs hd kk
set_option maxRecDepth 20000 in
theorem fl_X3_33 : qw_tb (.fieldLinkNest RX3 33 (TX5 3).1 (TX5 3).2.1 (TX5 3).2.2.1 RX6) := qw_tbi 90 (by decide +kernel) rfl
theorem gf_X3_33 (C : qw_C p l s m args meth c D A nL cc RX3 ret) {a : Nat} {fs : List Value} {v : Value} (t : Nat) (hg : g t = some (.inr (4, fs))) (ha : ad t = a) (hv : fs[3]? = some v) (hd : decode cc pc = .ok (.getfield 33, 3)) (kk : qw_W p l e R s m args below meth c D A nL Q k n ad g (pc + 3) lv (v :: st)) : qw_W p l e R s m args below meth c D A nL Q k n ad g pc lv (.ref a :: st) := qr_getN C qi_X5 3 (by decide) fl_X3_33 t hg ha hv hd kk
theorem pf_X3_33 (C : qw_C p l s m args meth c D A nL cc RX3 ret) {a : Nat} {fs fs' : List Value} {v : Value} (t : Nat) (hg : g t = some (.inr (4, fs))) (ha : ad t = a) (hn : narrow .int v = v) (hfit : fits .int v = true) (hl0 : 3 < fs.length) (hfs : fs.set 3 v = fs') (hd : decode cc pc = .ok (.putfield 33, 3)) (kk : qw_W p l e R s m args below meth c D A nL Q k n ad (va_up g t (some (.inr (4, fs')))) (pc + 3) lv st) : qw_W p l e R s m args below meth c D A nL Q k n ad g pc lv (v :: .ref a :: st) := qr_putN C qi_X5 tyX5 tyX5_ok nmX5 3 (by decide) fl_X3_33 rfl (by decide +kernel) t hg ha hn hfit hl0 hfs hd kk
set_option maxRecDepth 20000 in
theorem fl_X6_67 : qw_tb (.fieldLinkNest RX6 67 (TX5 3).1 (TX5 3).2.1 (TX5 3).2.2.1 RX6) := qw_tbi 91 (by decide +kernel) rfl
theorem gf_X6_67 (C : qw_C p l s m args meth c D A nL cc RX6 ret) {a : Nat} {fs : List Value} {v : Value} (t : Nat) (hg : g t = some (.inr (4, fs))) (ha : ad t = a) (hv : fs[3]? = some v) (hd : decode cc pc = .ok (.getfield 67, 3)) (kk : qw_W p l e R s m args below meth c D A nL Q k n ad g (pc + 3) lv (v :: st)) : qw_W p l e R s m args below meth c D A nL Q k n ad g pc lv (.ref a :: st) := qr_getN C qi_X5 3 (by decide) fl_X6_67 t hg ha hv hd kk
theorem pf_X6_67 (C : qw_C p l s m args meth c D A nL cc RX6 ret) {a : Nat} {fs fs' : List Value} {v : Value} (t : Nat) (hg : g t = some (.inr (4, fs))) (ha : ad t = a) (hn : narrow .int v = v) (hfit : fits .int v = true) (hl0 : 3 < fs.length) (hfs : fs.set 3 v = fs') (hd : decode cc pc = .ok (.putfield 67, 3)) (kk : qw_W p l e R s m args below meth c D A nL Q k n ad (va_up g t (some (.inr (4, fs')))) (pc + 3) lv st) : qw_W p l e R s m args below meth c D A nL Q k n ad g pc lv (v :: .ref a :: st) := qr_putN C qi_X5 tyX5 tyX5_ok nmX5 3 (by decide) fl_X6_67 rfl (by decide +kernel) t hg ha hn hfit hl0 hfs hd kk
set_option maxRecDepth 20000 in
theorem fl_X2_13 : qw_tb (.fieldLink RX2 13 (TX2 0).1 (TX2 0).2.1 (TX2 0).2.2.1) := qw_tbi 113 (by decide +kernel) rfl
theorem gf_X2_13 (C : qw_C p l s m args meth c D A nL cc RX2 ret) {a : Nat} {fs : List Value} {v : Value} (t : Nat) (hg : g t = some (.inr (1, fs))) (ha : ad t = a) (hv : fs[0]? = some v) (hd : decode cc pc = .ok (.getfield 13, 3)) (kk : qw_W p l e R s m args below meth c D A nL Q k n ad g (pc + 3) lv (v :: st)) : qw_W p l e R s m args below meth c D A nL Q k n ad g pc lv (.ref a :: st) := qr_get C qi_X2 0 (by decide) fl_X2_13 t hg ha hv hd kk
theorem pf_X2_13 (C : qw_C p l s m args meth c D A nL cc RX2 ret) (hin2 : meth.name = "<init>") {a : Nat} {fs fs' : List Value} {v : Value} (t : Nat) (hg : g t = some (.inr (1, fs))) (ha : ad t = a) (hn : narrow (.array (.array .int)) v = v) (hfit : fits (.array (.array .int)) v = true) (hl0 : 0 < fs.length) (hfs : fs.set 0 v = fs') (hd : decode cc pc = .ok (.putfield 13, 3)) (kk : qw_W p l e R s m args below meth c D A nL Q k n ad (va_up g t (some (.inr (1, fs')))) (pc + 3) lv st) : qw_W p l e R s m args below meth c D A nL Q k n ad g pc lv (v :: .ref a :: st) := qr_putF C qi_X2 tyX2 tyX2_ok nmX2 0 (by decide) fl_X2_13 rfl hin2 rfl (by decide +kernel) t hg ha hn hfit hl0 hfs hd kk
set_option maxRecDepth 20000 in
theorem fl_X6_11 : qw_tb (.fieldLink RX6 11 (TX6 0).1 (TX6 0).2.1 (TX6 0).2.2.1) := qw_tbi 117 (by decide +kernel) rfl
theorem gf_X6_11 (C : qw_C p l s m args meth c D A nL cc RX6 ret) {a : Nat} {fs : List Value} {v : Value} (t : Nat) (hg : g t = some (.inr (5, fs))) (ha : ad t = a) (hv : fs[0]? = some v) (hd : decode cc pc = .ok (.getfield 11, 3)) (kk : qw_W p l e R s m args below meth c D A nL Q k n ad g (pc + 3) lv (v :: st)) : qw_W p l e R s m args below meth c D A nL Q k n ad g pc lv (.ref a :: st) := qr_get C qi_X6 0 (by decide) fl_X6_11 t hg ha hv hd kk
theorem pf_X6_11 (C : qw_C p l s m args meth c D A nL cc RX6 ret) (hin2 : meth.name = "<init>") {a : Nat} {fs fs' : List Value} {v : Value} (t : Nat) (hg : g t = some (.inr (5, fs))) (ha : ad t = a) (hn : narrow (.array (.object "Pivotforge$Table")) v = v) (hfit : fits (.array (.object "Pivotforge$Table")) v = true) (hl0 : 0 < fs.length) (hfs : fs.set 0 v = fs') (hd : decode cc pc = .ok (.putfield 11, 3)) (kk : qw_W p l e R s m args below meth c D A nL Q k n ad (va_up g t (some (.inr (5, fs')))) (pc + 3) lv st) : qw_W p l e R s m args below meth c D A nL Q k n ad g pc lv (v :: .ref a :: st) := qr_putF C qi_X6 tyX6 tyX6_ok nmX6 0 (by decide) fl_X6_11 rfl hin2 rfl (by decide +kernel) t hg ha hn hfit hl0 hfs hd kk
set_option maxRecDepth 20000 in
theorem fl_X6_18 : qw_tb (.fieldLink RX6 18 (TX6 1).1 (TX6 1).2.1 (TX6 1).2.2.1) := qw_tbi 118 (by decide +kernel) rfl
theorem gf_X6_18 (C : qw_C p l s m args meth c D A nL cc RX6 ret) {a : Nat} {fs : List Value} {v : Value} (t : Nat) (hg : g t = some (.inr (5, fs))) (ha : ad t = a) (hv : fs[1]? = some v) (hd : decode cc pc = .ok (.getfield 18, 3)) (kk : qw_W p l e R s m args below meth c D A nL Q k n ad g (pc + 3) lv (v :: st)) : qw_W p l e R s m args below meth c D A nL Q k n ad g pc lv (.ref a :: st) := qr_get C qi_X6 1 (by decide) fl_X6_18 t hg ha hv hd kk
theorem pf_X6_18 (C : qw_C p l s m args meth c D A nL cc RX6 ret) (hin2 : meth.name = "<init>") {a : Nat} {fs fs' : List Value} {v : Value} (t : Nat) (hg : g t = some (.inr (5, fs))) (ha : ad t = a) (hn : narrow (.array (.object "Pivotforge$Sale")) v = v) (hfit : fits (.array (.object "Pivotforge$Sale")) v = true) (hl0 : 1 < fs.length) (hfs : fs.set 1 v = fs') (hd : decode cc pc = .ok (.putfield 18, 3)) (kk : qw_W p l e R s m args below meth c D A nL Q k n ad (va_up g t (some (.inr (5, fs')))) (pc + 3) lv st) : qw_W p l e R s m args below meth c D A nL Q k n ad g pc lv (v :: .ref a :: st) := qr_putF C qi_X6 tyX6 tyX6_ok nmX6 1 (by decide) fl_X6_18 rfl hin2 rfl (by decide +kernel) t hg ha hn hfit hl0 hfs hd kk
set_option maxRecDepth 20000 in
theorem fl_X6_24 : qw_tb (.fieldLink RX6 24 (TX6 2).1 (TX6 2).2.1 (TX6 2).2.2.1) := qw_tbi 119 (by decide +kernel) rfl
theorem gf_X6_24 (C : qw_C p l s m args meth c D A nL cc RX6 ret) {a : Nat} {fs : List Value} {v : Value} (t : Nat) (hg : g t = some (.inr (5, fs))) (ha : ad t = a) (hv : fs[2]? = some v) (hd : decode cc pc = .ok (.getfield 24, 3)) (kk : qw_W p l e R s m args below meth c D A nL Q k n ad g (pc + 3) lv (v :: st)) : qw_W p l e R s m args below meth c D A nL Q k n ad g pc lv (.ref a :: st) := qr_get C qi_X6 2 (by decide) fl_X6_24 t hg ha hv hd kk
theorem pf_X6_24 (C : qw_C p l s m args meth c D A nL cc RX6 ret) (hin2 : meth.name = "<init>") {a : Nat} {fs fs' : List Value} {v : Value} (t : Nat) (hg : g t = some (.inr (5, fs))) (ha : ad t = a) (hn : narrow (.array (.object "Pivotforge$Embargo")) v = v) (hfit : fits (.array (.object "Pivotforge$Embargo")) v = true) (hl0 : 2 < fs.length) (hfs : fs.set 2 v = fs') (hd : decode cc pc = .ok (.putfield 24, 3)) (kk : qw_W p l e R s m args below meth c D A nL Q k n ad (va_up g t (some (.inr (5, fs')))) (pc + 3) lv st) : qw_W p l e R s m args below meth c D A nL Q k n ad g pc lv (v :: .ref a :: st) := qr_putF C qi_X6 tyX6 tyX6_ok nmX6 2 (by decide) fl_X6_24 rfl hin2 rfl (by decide +kernel) t hg ha hn hfit hl0 hfs hd kk
set_option maxRecDepth 20000 in
theorem fl_X6_31 : qw_tb (.fieldLink RX6 31 (TX6 3).1 (TX6 3).2.1 (TX6 3).2.2.1) := qw_tbi 120 (by decide +kernel) rfl
theorem gf_X6_31 (C : qw_C p l s m args meth c D A nL cc RX6 ret) {a : Nat} {fs : List Value} {v : Value} (t : Nat) (hg : g t = some (.inr (5, fs))) (ha : ad t = a) (hv : fs[3]? = some v) (hd : decode cc pc = .ok (.getfield 31, 3)) (kk : qw_W p l e R s m args below meth c D A nL Q k n ad g (pc + 3) lv (v :: st)) : qw_W p l e R s m args below meth c D A nL Q k n ad g pc lv (.ref a :: st) := qr_get C qi_X6 3 (by decide) fl_X6_31 t hg ha hv hd kk
theorem pf_X6_31 (C : qw_C p l s m args meth c D A nL cc RX6 ret) (hin2 : meth.name = "<init>") {a : Nat} {fs fs' : List Value} {v : Value} (t : Nat) (hg : g t = some (.inr (5, fs))) (ha : ad t = a) (hn : narrow (.object "Pivotforge$Equations") v = v) (hfit : fits (.object "Pivotforge$Equations") v = true) (hl0 : 3 < fs.length) (hfs : fs.set 3 v = fs') (hd : decode cc pc = .ok (.putfield 31, 3)) (kk : qw_W p l e R s m args below meth c D A nL Q k n ad (va_up g t (some (.inr (5, fs')))) (pc + 3) lv st) : qw_W p l e R s m args below meth c D A nL Q k n ad g pc lv (v :: .ref a :: st) := qr_putF C qi_X6 tyX6 tyX6_ok nmX6 3 (by decide) fl_X6_31 rfl hin2 rfl (by decide +kernel) t hg ha hn hfit hl0 hfs hd kk
set_option maxRecDepth 20000 in
theorem fl_X6_51 : qw_tb (.fieldLink RX6 51 (TX6 4).1 (TX6 4).2.1 (TX6 4).2.2.1) := qw_tbi 121 (by decide +kernel) rfl
theorem gf_X6_51 (C : qw_C p l s m args meth c D A nL cc RX6 ret) {a : Nat} {fs : List Value} {v : Value} (t : Nat) (hg : g t = some (.inr (5, fs))) (ha : ad t = a) (hv : fs[4]? = some v) (hd : decode cc pc = .ok (.getfield 51, 3)) (kk : qw_W p l e R s m args below meth c D A nL Q k n ad g (pc + 3) lv (v :: st)) : qw_W p l e R s m args below meth c D A nL Q k n ad g pc lv (.ref a :: st) := qr_get C qi_X6 4 (by decide) fl_X6_51 t hg ha hv hd kk
theorem pf_X6_51 (C : qw_C p l s m args meth c D A nL cc RX6 ret) {a : Nat} {fs fs' : List Value} {v : Value} (t : Nat) (hg : g t = some (.inr (5, fs))) (ha : ad t = a) (hn : narrow .int v = v) (hfit : fits .int v = true) (hl0 : 4 < fs.length) (hfs : fs.set 4 v = fs') (hd : decode cc pc = .ok (.putfield 51, 3)) (kk : qw_W p l e R s m args below meth c D A nL Q k n ad (va_up g t (some (.inr (5, fs')))) (pc + 3) lv st) : qw_W p l e R s m args below meth c D A nL Q k n ad g pc lv (v :: .ref a :: st) := qr_put C qi_X6 tyX6 tyX6_ok nmX6 4 (by decide) fl_X6_51 rfl (by decide +kernel) t hg ha hn hfit hl0 hfs hd kk
set_option maxRecDepth 20000 in
theorem fl_X6_113 : qw_tb (.fieldLink RX6 113 (TX6 5).1 (TX6 5).2.1 (TX6 5).2.2.1) := qw_tbi 122 (by decide +kernel) rfl
theorem gf_X6_113 (C : qw_C p l s m args meth c D A nL cc RX6 ret) {a : Nat} {fs : List Value} {v : Value} (t : Nat) (hg : g t = some (.inr (5, fs))) (ha : ad t = a) (hv : fs[5]? = some v) (hd : decode cc pc = .ok (.getfield 113, 3)) (kk : qw_W p l e R s m args below meth c D A nL Q k n ad g (pc + 3) lv (v :: st)) : qw_W p l e R s m args below meth c D A nL Q k n ad g pc lv (.ref a :: st) := qr_get C qi_X6 5 (by decide) fl_X6_113 t hg ha hv hd kk
theorem pf_X6_113 (C : qw_C p l s m args meth c D A nL cc RX6 ret) {a : Nat} {fs fs' : List Value} {v : Value} (t : Nat) (hg : g t = some (.inr (5, fs))) (ha : ad t = a) (hn : narrow .int v = v) (hfit : fits .int v = true) (hl0 : 5 < fs.length) (hfs : fs.set 5 v = fs') (hd : decode cc pc = .ok (.putfield 113, 3)) (kk : qw_W p l e R s m args below meth c D A nL Q k n ad (va_up g t (some (.inr (5, fs')))) (pc + 3) lv st) : qw_W p l e R s m args below meth c D A nL Q k n ad g pc lv (v :: .ref a :: st) := qr_put C qi_X6 tyX6 tyX6_ok nmX6 5 (by decide) fl_X6_113 rfl (by decide +kernel) t hg ha hn hfit hl0 hfs hd kk
set_option maxRecDepth 20000 in
theorem fl_X6_118 : qw_tb (.fieldLink RX6 118 (TX6 6).1 (TX6 6).2.1 (TX6 6).2.2.1) := qw_tbi 123 (by decide +kernel) rfl
theorem gf_X6_118 (C : qw_C p l s m args meth c D A nL cc RX6 ret) {a : Nat} {fs : List Value} {v : Value} (t : Nat) (hg : g t = some (.inr (5, fs))) (ha : ad t = a) (hv : fs[6]? = some v) (hd : decode cc pc = .ok (.getfield 118, 3)) (kk : qw_W p l e R s m args below meth c D A nL Q k n ad g (pc + 3) lv (v :: st)) : qw_W p l e R s m args below meth c D A nL Q k n ad g pc lv (.ref a :: st) := qr_get C qi_X6 6 (by decide) fl_X6_118 t hg ha hv hd kk
theorem pf_X6_118 (C : qw_C p l s m args meth c D A nL cc RX6 ret) {a : Nat} {fs fs' : List Value} {v : Value} (t : Nat) (hg : g t = some (.inr (5, fs))) (ha : ad t = a) (hn : narrow .int v = v) (hfit : fits .int v = true) (hl0 : 6 < fs.length) (hfs : fs.set 6 v = fs') (hd : decode cc pc = .ok (.putfield 118, 3)) (kk : qw_W p l e R s m args below meth c D A nL Q k n ad (va_up g t (some (.inr (5, fs')))) (pc + 3) lv st) : qw_W p l e R s m args below meth c D A nL Q k n ad g pc lv (v :: .ref a :: st) := qr_put C qi_X6 tyX6 tyX6_ok nmX6 6 (by decide) fl_X6_118 rfl (by decide +kernel) t hg ha hn hfit hl0 hfs hd kk
set_option maxRecDepth 20000 in
theorem fl_X6_153 : qw_tb (.fieldLink RX6 153 (TX6 7).1 (TX6 7).2.1 (TX6 7).2.2.1) := qw_tbi 124 (by decide +kernel) rfl
theorem gf_X6_153 (C : qw_C p l s m args meth c D A nL cc RX6 ret) {a : Nat} {fs : List Value} {v : Value} (t : Nat) (hg : g t = some (.inr (5, fs))) (ha : ad t = a) (hv : fs[7]? = some v) (hd : decode cc pc = .ok (.getfield 153, 3)) (kk : qw_W p l e R s m args below meth c D A nL Q k n ad g (pc + 3) lv (v :: st)) : qw_W p l e R s m args below meth c D A nL Q k n ad g pc lv (.ref a :: st) := qr_get C qi_X6 7 (by decide) fl_X6_153 t hg ha hv hd kk
theorem pf_X6_153 (C : qw_C p l s m args meth c D A nL cc RX6 ret) {a : Nat} {fs fs' : List Value} {v : Value} (t : Nat) (hg : g t = some (.inr (5, fs))) (ha : ad t = a) (hn : narrow .int v = v) (hfit : fits .int v = true) (hl0 : 7 < fs.length) (hfs : fs.set 7 v = fs') (hd : decode cc pc = .ok (.putfield 153, 3)) (kk : qw_W p l e R s m args below meth c D A nL Q k n ad (va_up g t (some (.inr (5, fs')))) (pc + 3) lv st) : qw_W p l e R s m args below meth c D A nL Q k n ad g pc lv (v :: .ref a :: st) := qr_put C qi_X6 tyX6 tyX6_ok nmX6 7 (by decide) fl_X6_153 rfl (by decide +kernel) t hg ha hn hfit hl0 hfs hd kk
set_option maxRecDepth 20000 in
theorem fl_X6_198 : qw_tb (.fieldLink RX6 198 (TX6 8).1 (TX6 8).2.1 (TX6 8).2.2.1) := qw_tbi 125 (by decide +kernel) rfl
theorem gf_X6_198 (C : qw_C p l s m args meth c D A nL cc RX6 ret) {a : Nat} {fs : List Value} {v : Value} (t : Nat) (hg : g t = some (.inr (5, fs))) (ha : ad t = a) (hv : fs[8]? = some v) (hd : decode cc pc = .ok (.getfield 198, 3)) (kk : qw_W p l e R s m args below meth c D A nL Q k n ad g (pc + 3) lv (v :: st)) : qw_W p l e R s m args below meth c D A nL Q k n ad g pc lv (.ref a :: st) := qr_get C qi_X6 8 (by decide) fl_X6_198 t hg ha hv hd kk
theorem pf_X6_198 (C : qw_C p l s m args meth c D A nL cc RX6 ret) {a : Nat} {fs fs' : List Value} {v : Value} (t : Nat) (hg : g t = some (.inr (5, fs))) (ha : ad t = a) (hn : narrow .int v = v) (hfit : fits .int v = true) (hl0 : 8 < fs.length) (hfs : fs.set 8 v = fs') (hd : decode cc pc = .ok (.putfield 198, 3)) (kk : qw_W p l e R s m args below meth c D A nL Q k n ad (va_up g t (some (.inr (5, fs')))) (pc + 3) lv st) : qw_W p l e R s m args below meth c D A nL Q k n ad g pc lv (v :: .ref a :: st) := qr_put C qi_X6 tyX6 tyX6_ok nmX6 8 (by decide) fl_X6_198 rfl (by decide +kernel) t hg ha hn hfit hl0 hfs hd kk
set_option maxRecDepth 20000 in
theorem fl_X4_9 : qw_tb (.fieldLink RX4 9 (TX4 0).1 (TX4 0).2.1 (TX4 0).2.2.1) := qw_tbi 302 (by decide +kernel) rfl
theorem gf_X4_9 (C : qw_C p l s m args meth c D A nL cc RX4 ret) {a : Nat} {fs : List Value} {v : Value} (t : Nat) (hg : g t = some (.inr (3, fs))) (ha : ad t = a) (hv : fs[0]? = some v) (hd : decode cc pc = .ok (.getfield 9, 3)) (kk : qw_W p l e R s m args below meth c D A nL Q k n ad g (pc + 3) lv (v :: st)) : qw_W p l e R s m args below meth c D A nL Q k n ad g pc lv (.ref a :: st) := qr_get C qi_X4 0 (by decide) fl_X4_9 t hg ha hv hd kk
theorem pf_X4_9 (C : qw_C p l s m args meth c D A nL cc RX4 ret) (hin2 : meth.name = "<init>") {a : Nat} {fs fs' : List Value} {v : Value} (t : Nat) (hg : g t = some (.inr (3, fs))) (ha : ad t = a) (hn : narrow .int v = v) (hfit : fits .int v = true) (hl0 : 0 < fs.length) (hfs : fs.set 0 v = fs') (hd : decode cc pc = .ok (.putfield 9, 3)) (kk : qw_W p l e R s m args below meth c D A nL Q k n ad (va_up g t (some (.inr (3, fs')))) (pc + 3) lv st) : qw_W p l e R s m args below meth c D A nL Q k n ad g pc lv (v :: .ref a :: st) := qr_putF C qi_X4 tyX4 tyX4_ok nmX4 0 (by decide) fl_X4_9 rfl hin2 rfl (by decide +kernel) t hg ha hn hfit hl0 hfs hd kk
set_option maxRecDepth 20000 in
theorem fl_X6_82 : qw_tb (.fieldLinkNest RX6 82 (TX4 0).1 (TX4 0).2.1 (TX4 0).2.2.1 RX6) := qw_tbi 303 (by decide +kernel) rfl
theorem gf_X6_82 (C : qw_C p l s m args meth c D A nL cc RX6 ret) {a : Nat} {fs : List Value} {v : Value} (t : Nat) (hg : g t = some (.inr (3, fs))) (ha : ad t = a) (hv : fs[0]? = some v) (hd : decode cc pc = .ok (.getfield 82, 3)) (kk : qw_W p l e R s m args below meth c D A nL Q k n ad g (pc + 3) lv (v :: st)) : qw_W p l e R s m args below meth c D A nL Q k n ad g pc lv (.ref a :: st) := qr_getN C qi_X4 0 (by decide) fl_X6_82 t hg ha hv hd kk
set_option maxRecDepth 20000 in
theorem fl_X4_15 : qw_tb (.fieldLink RX4 15 (TX4 1).1 (TX4 1).2.1 (TX4 1).2.2.1) := qw_tbi 304 (by decide +kernel) rfl
theorem gf_X4_15 (C : qw_C p l s m args meth c D A nL cc RX4 ret) {a : Nat} {fs : List Value} {v : Value} (t : Nat) (hg : g t = some (.inr (3, fs))) (ha : ad t = a) (hv : fs[1]? = some v) (hd : decode cc pc = .ok (.getfield 15, 3)) (kk : qw_W p l e R s m args below meth c D A nL Q k n ad g (pc + 3) lv (v :: st)) : qw_W p l e R s m args below meth c D A nL Q k n ad g pc lv (.ref a :: st) := qr_get C qi_X4 1 (by decide) fl_X4_15 t hg ha hv hd kk
theorem pf_X4_15 (C : qw_C p l s m args meth c D A nL cc RX4 ret) (hin2 : meth.name = "<init>") {a : Nat} {fs fs' : List Value} {v : Value} (t : Nat) (hg : g t = some (.inr (3, fs))) (ha : ad t = a) (hn : narrow .int v = v) (hfit : fits .int v = true) (hl0 : 1 < fs.length) (hfs : fs.set 1 v = fs') (hd : decode cc pc = .ok (.putfield 15, 3)) (kk : qw_W p l e R s m args below meth c D A nL Q k n ad (va_up g t (some (.inr (3, fs')))) (pc + 3) lv st) : qw_W p l e R s m args below meth c D A nL Q k n ad g pc lv (v :: .ref a :: st) := qr_putF C qi_X4 tyX4 tyX4_ok nmX4 1 (by decide) fl_X4_15 rfl hin2 rfl (by decide +kernel) t hg ha hn hfit hl0 hfs hd kk
set_option maxRecDepth 20000 in
theorem fl_X6_85 : qw_tb (.fieldLinkNest RX6 85 (TX4 1).1 (TX4 1).2.1 (TX4 1).2.2.1 RX6) := qw_tbi 305 (by decide +kernel) rfl
theorem gf_X6_85 (C : qw_C p l s m args meth c D A nL cc RX6 ret) {a : Nat} {fs : List Value} {v : Value} (t : Nat) (hg : g t = some (.inr (3, fs))) (ha : ad t = a) (hv : fs[1]? = some v) (hd : decode cc pc = .ok (.getfield 85, 3)) (kk : qw_W p l e R s m args below meth c D A nL Q k n ad g (pc + 3) lv (v :: st)) : qw_W p l e R s m args below meth c D A nL Q k n ad g pc lv (.ref a :: st) := qr_getN C qi_X4 1 (by decide) fl_X6_85 t hg ha hv hd kk
set_option maxRecDepth 20000 in
theorem fl_X4_18 : qw_tb (.fieldLink RX4 18 (TX4 2).1 (TX4 2).2.1 (TX4 2).2.2.1) := qw_tbi 306 (by decide +kernel) rfl
theorem gf_X4_18 (C : qw_C p l s m args meth c D A nL cc RX4 ret) {a : Nat} {fs : List Value} {v : Value} (t : Nat) (hg : g t = some (.inr (3, fs))) (ha : ad t = a) (hv : fs[2]? = some v) (hd : decode cc pc = .ok (.getfield 18, 3)) (kk : qw_W p l e R s m args below meth c D A nL Q k n ad g (pc + 3) lv (v :: st)) : qw_W p l e R s m args below meth c D A nL Q k n ad g pc lv (.ref a :: st) := qr_get C qi_X4 2 (by decide) fl_X4_18 t hg ha hv hd kk
theorem pf_X4_18 (C : qw_C p l s m args meth c D A nL cc RX4 ret) (hin2 : meth.name = "<init>") {a : Nat} {fs fs' : List Value} {v : Value} (t : Nat) (hg : g t = some (.inr (3, fs))) (ha : ad t = a) (hn : narrow .int v = v) (hfit : fits .int v = true) (hl0 : 2 < fs.length) (hfs : fs.set 2 v = fs') (hd : decode cc pc = .ok (.putfield 18, 3)) (kk : qw_W p l e R s m args below meth c D A nL Q k n ad (va_up g t (some (.inr (3, fs')))) (pc + 3) lv st) : qw_W p l e R s m args below meth c D A nL Q k n ad g pc lv (v :: .ref a :: st) := qr_putF C qi_X4 tyX4 tyX4_ok nmX4 2 (by decide) fl_X4_18 rfl hin2 rfl (by decide +kernel) t hg ha hn hfit hl0 hfs hd kk
set_option maxRecDepth 20000 in
theorem fl_X6_88 : qw_tb (.fieldLinkNest RX6 88 (TX4 2).1 (TX4 2).2.1 (TX4 2).2.2.1 RX6) := qw_tbi 307 (by decide +kernel) rfl
theorem gf_X6_88 (C : qw_C p l s m args meth c D A nL cc RX6 ret) {a : Nat} {fs : List Value} {v : Value} (t : Nat) (hg : g t = some (.inr (3, fs))) (ha : ad t = a) (hv : fs[2]? = some v) (hd : decode cc pc = .ok (.getfield 88, 3)) (kk : qw_W p l e R s m args below meth c D A nL Q k n ad g (pc + 3) lv (v :: st)) : qw_W p l e R s m args below meth c D A nL Q k n ad g pc lv (.ref a :: st) := qr_getN C qi_X4 2 (by decide) fl_X6_88 t hg ha hv hd kk
set_option maxRecDepth 20000 in
theorem fl_X4_21 : qw_tb (.fieldLink RX4 21 (TX4 3).1 (TX4 3).2.1 (TX4 3).2.2.1) := qw_tbi 308 (by decide +kernel) rfl
theorem gf_X4_21 (C : qw_C p l s m args meth c D A nL cc RX4 ret) {a : Nat} {fs : List Value} {v : Value} (t : Nat) (hg : g t = some (.inr (3, fs))) (ha : ad t = a) (hv : fs[3]? = some v) (hd : decode cc pc = .ok (.getfield 21, 3)) (kk : qw_W p l e R s m args below meth c D A nL Q k n ad g (pc + 3) lv (v :: st)) : qw_W p l e R s m args below meth c D A nL Q k n ad g pc lv (.ref a :: st) := qr_get C qi_X4 3 (by decide) fl_X4_21 t hg ha hv hd kk
theorem pf_X4_21 (C : qw_C p l s m args meth c D A nL cc RX4 ret) (hin2 : meth.name = "<init>") {a : Nat} {fs fs' : List Value} {v : Value} (t : Nat) (hg : g t = some (.inr (3, fs))) (ha : ad t = a) (hn : narrow .int v = v) (hfit : fits .int v = true) (hl0 : 3 < fs.length) (hfs : fs.set 3 v = fs') (hd : decode cc pc = .ok (.putfield 21, 3)) (kk : qw_W p l e R s m args below meth c D A nL Q k n ad (va_up g t (some (.inr (3, fs')))) (pc + 3) lv st) : qw_W p l e R s m args below meth c D A nL Q k n ad g pc lv (v :: .ref a :: st) := qr_putF C qi_X4 tyX4 tyX4_ok nmX4 3 (by decide) fl_X4_21 rfl hin2 rfl (by decide +kernel) t hg ha hn hfit hl0 hfs hd kk
set_option maxRecDepth 20000 in
theorem fl_X6_91 : qw_tb (.fieldLinkNest RX6 91 (TX4 3).1 (TX4 3).2.1 (TX4 3).2.2.1 RX6) := qw_tbi 309 (by decide +kernel) rfl
theorem gf_X6_91 (C : qw_C p l s m args meth c D A nL cc RX6 ret) {a : Nat} {fs : List Value} {v : Value} (t : Nat) (hg : g t = some (.inr (3, fs))) (ha : ad t = a) (hv : fs[3]? = some v) (hd : decode cc pc = .ok (.getfield 91, 3)) (kk : qw_W p l e R s m args below meth c D A nL Q k n ad g (pc + 3) lv (v :: st)) : qw_W p l e R s m args below meth c D A nL Q k n ad g pc lv (.ref a :: st) := qr_getN C qi_X4 3 (by decide) fl_X6_91 t hg ha hv hd kk
set_option maxRecDepth 20000 in
theorem fl_X4_24 : qw_tb (.fieldLink RX4 24 (TX4 4).1 (TX4 4).2.1 (TX4 4).2.2.1) := qw_tbi 310 (by decide +kernel) rfl
theorem gf_X4_24 (C : qw_C p l s m args meth c D A nL cc RX4 ret) {a : Nat} {fs : List Value} {v : Value} (t : Nat) (hg : g t = some (.inr (3, fs))) (ha : ad t = a) (hv : fs[4]? = some v) (hd : decode cc pc = .ok (.getfield 24, 3)) (kk : qw_W p l e R s m args below meth c D A nL Q k n ad g (pc + 3) lv (v :: st)) : qw_W p l e R s m args below meth c D A nL Q k n ad g pc lv (.ref a :: st) := qr_get C qi_X4 4 (by decide) fl_X4_24 t hg ha hv hd kk
theorem pf_X4_24 (C : qw_C p l s m args meth c D A nL cc RX4 ret) {a : Nat} {fs fs' : List Value} {v : Value} (t : Nat) (hg : g t = some (.inr (3, fs))) (ha : ad t = a) (hn : narrow .boolean v = v) (hfit : fits .boolean v = true) (hl0 : 4 < fs.length) (hfs : fs.set 4 v = fs') (hd : decode cc pc = .ok (.putfield 24, 3)) (kk : qw_W p l e R s m args below meth c D A nL Q k n ad (va_up g t (some (.inr (3, fs')))) (pc + 3) lv st) : qw_W p l e R s m args below meth c D A nL Q k n ad g pc lv (v :: .ref a :: st) := qr_put C qi_X4 tyX4 tyX4_ok nmX4 4 (by decide) fl_X4_24 rfl (by decide +kernel) t hg ha hn hfit hl0 hfs hd kk
set_option maxRecDepth 20000 in
theorem fl_X6_76 : qw_tb (.fieldLinkNest RX6 76 (TX4 4).1 (TX4 4).2.1 (TX4 4).2.2.1 RX6) := qw_tbi 311 (by decide +kernel) rfl
theorem gf_X6_76 (C : qw_C p l s m args meth c D A nL cc RX6 ret) {a : Nat} {fs : List Value} {v : Value} (t : Nat) (hg : g t = some (.inr (3, fs))) (ha : ad t = a) (hv : fs[4]? = some v) (hd : decode cc pc = .ok (.getfield 76, 3)) (kk : qw_W p l e R s m args below meth c D A nL Q k n ad g (pc + 3) lv (v :: st)) : qw_W p l e R s m args below meth c D A nL Q k n ad g pc lv (.ref a :: st) := qr_getN C qi_X4 4 (by decide) fl_X6_76 t hg ha hv hd kk
theorem pf_X6_76 (C : qw_C p l s m args meth c D A nL cc RX6 ret) {a : Nat} {fs fs' : List Value} {v : Value} (t : Nat) (hg : g t = some (.inr (3, fs))) (ha : ad t = a) (hn : narrow .boolean v = v) (hfit : fits .boolean v = true) (hl0 : 4 < fs.length) (hfs : fs.set 4 v = fs') (hd : decode cc pc = .ok (.putfield 76, 3)) (kk : qw_W p l e R s m args below meth c D A nL Q k n ad (va_up g t (some (.inr (3, fs')))) (pc + 3) lv st) : qw_W p l e R s m args below meth c D A nL Q k n ad g pc lv (v :: .ref a :: st) := qr_putN C qi_X4 tyX4 tyX4_ok nmX4 4 (by decide) fl_X6_76 rfl (by decide +kernel) t hg ha hn hfit hl0 hfs hd kk
set_option maxRecDepth 20000 in
theorem fl_X1_7 : qw_tb (.fieldLink RX1 7 (TX1 0).1 (TX1 0).2.1 (TX1 0).2.2.1) := qw_tbi 388 (by decide +kernel) rfl
theorem gf_X1_7 (C : qw_C p l s m args meth c D A nL cc RX1 ret) {a : Nat} {fs : List Value} {v : Value} (t : Nat) (hg : g t = some (.inr (0, fs))) (ha : ad t = a) (hv : fs[0]? = some v) (hd : decode cc pc = .ok (.getfield 7, 3)) (kk : qw_W p l e R s m args below meth c D A nL Q k n ad g (pc + 3) lv (v :: st)) : qw_W p l e R s m args below meth c D A nL Q k n ad g pc lv (.ref a :: st) := qr_get C qi_X1 0 (by decide) fl_X1_7 t hg ha hv hd kk
theorem pf_X1_7 (C : qw_C p l s m args meth c D A nL cc RX1 ret) (hin2 : meth.name = "<init>") {a : Nat} {fs fs' : List Value} {v : Value} (t : Nat) (hg : g t = some (.inr (0, fs))) (ha : ad t = a) (hn : narrow .int v = v) (hfit : fits .int v = true) (hl0 : 0 < fs.length) (hfs : fs.set 0 v = fs') (hd : decode cc pc = .ok (.putfield 7, 3)) (kk : qw_W p l e R s m args below meth c D A nL Q k n ad (va_up g t (some (.inr (0, fs')))) (pc + 3) lv st) : qw_W p l e R s m args below meth c D A nL Q k n ad g pc lv (v :: .ref a :: st) := qr_putF C qi_X1 tyX1 tyX1_ok nmX1 0 (by decide) fl_X1_7 rfl hin2 rfl (by decide +kernel) t hg ha hn hfit hl0 hfs hd kk
set_option maxRecDepth 20000 in
theorem fl_X6_132 : qw_tb (.fieldLinkNest RX6 132 (TX1 0).1 (TX1 0).2.1 (TX1 0).2.2.1 RX6) := qw_tbi 389 (by decide +kernel) rfl
theorem gf_X6_132 (C : qw_C p l s m args meth c D A nL cc RX6 ret) {a : Nat} {fs : List Value} {v : Value} (t : Nat) (hg : g t = some (.inr (0, fs))) (ha : ad t = a) (hv : fs[0]? = some v) (hd : decode cc pc = .ok (.getfield 132, 3)) (kk : qw_W p l e R s m args below meth c D A nL Q k n ad g (pc + 3) lv (v :: st)) : qw_W p l e R s m args below meth c D A nL Q k n ad g pc lv (.ref a :: st) := qr_getN C qi_X1 0 (by decide) fl_X6_132 t hg ha hv hd kk
set_option maxRecDepth 20000 in
theorem fl_X1_13 : qw_tb (.fieldLink RX1 13 (TX1 1).1 (TX1 1).2.1 (TX1 1).2.2.1) := qw_tbi 390 (by decide +kernel) rfl
theorem gf_X1_13 (C : qw_C p l s m args meth c D A nL cc RX1 ret) {a : Nat} {fs : List Value} {v : Value} (t : Nat) (hg : g t = some (.inr (0, fs))) (ha : ad t = a) (hv : fs[1]? = some v) (hd : decode cc pc = .ok (.getfield 13, 3)) (kk : qw_W p l e R s m args below meth c D A nL Q k n ad g (pc + 3) lv (v :: st)) : qw_W p l e R s m args below meth c D A nL Q k n ad g pc lv (.ref a :: st) := qr_get C qi_X1 1 (by decide) fl_X1_13 t hg ha hv hd kk
theorem pf_X1_13 (C : qw_C p l s m args meth c D A nL cc RX1 ret) (hin2 : meth.name = "<init>") {a : Nat} {fs fs' : List Value} {v : Value} (t : Nat) (hg : g t = some (.inr (0, fs))) (ha : ad t = a) (hn : narrow .int v = v) (hfit : fits .int v = true) (hl0 : 1 < fs.length) (hfs : fs.set 1 v = fs') (hd : decode cc pc = .ok (.putfield 13, 3)) (kk : qw_W p l e R s m args below meth c D A nL Q k n ad (va_up g t (some (.inr (0, fs')))) (pc + 3) lv st) : qw_W p l e R s m args below meth c D A nL Q k n ad g pc lv (v :: .ref a :: st) := qr_putF C qi_X1 tyX1 tyX1_ok nmX1 1 (by decide) fl_X1_13 rfl hin2 rfl (by decide +kernel) t hg ha hn hfit hl0 hfs hd kk
set_option maxRecDepth 20000 in
theorem fl_X6_217 : qw_tb (.fieldLinkNest RX6 217 (TX1 1).1 (TX1 1).2.1 (TX1 1).2.2.1 RX6) := qw_tbi 391 (by decide +kernel) rfl
theorem gf_X6_217 (C : qw_C p l s m args meth c D A nL cc RX6 ret) {a : Nat} {fs : List Value} {v : Value} (t : Nat) (hg : g t = some (.inr (0, fs))) (ha : ad t = a) (hv : fs[1]? = some v) (hd : decode cc pc = .ok (.getfield 217, 3)) (kk : qw_W p l e R s m args below meth c D A nL Q k n ad g (pc + 3) lv (v :: st)) : qw_W p l e R s m args below meth c D A nL Q k n ad g pc lv (.ref a :: st) := qr_getN C qi_X1 1 (by decide) fl_X6_217 t hg ha hv hd kk
set_option maxRecDepth 20000 in
theorem fl_X1_16 : qw_tb (.fieldLink RX1 16 (TX1 2).1 (TX1 2).2.1 (TX1 2).2.2.1) := qw_tbi 392 (by decide +kernel) rfl
theorem gf_X1_16 (C : qw_C p l s m args meth c D A nL cc RX1 ret) {a : Nat} {fs : List Value} {v : Value} (t : Nat) (hg : g t = some (.inr (0, fs))) (ha : ad t = a) (hv : fs[2]? = some v) (hd : decode cc pc = .ok (.getfield 16, 3)) (kk : qw_W p l e R s m args below meth c D A nL Q k n ad g (pc + 3) lv (v :: st)) : qw_W p l e R s m args below meth c D A nL Q k n ad g pc lv (.ref a :: st) := qr_get C qi_X1 2 (by decide) fl_X1_16 t hg ha hv hd kk
theorem pf_X1_16 (C : qw_C p l s m args meth c D A nL cc RX1 ret) (hin2 : meth.name = "<init>") {a : Nat} {fs fs' : List Value} {v : Value} (t : Nat) (hg : g t = some (.inr (0, fs))) (ha : ad t = a) (hn : narrow .int v = v) (hfit : fits .int v = true) (hl0 : 2 < fs.length) (hfs : fs.set 2 v = fs') (hd : decode cc pc = .ok (.putfield 16, 3)) (kk : qw_W p l e R s m args below meth c D A nL Q k n ad (va_up g t (some (.inr (0, fs')))) (pc + 3) lv st) : qw_W p l e R s m args below meth c D A nL Q k n ad g pc lv (v :: .ref a :: st) := qr_putF C qi_X1 tyX1 tyX1_ok nmX1 2 (by decide) fl_X1_16 rfl hin2 rfl (by decide +kernel) t hg ha hn hfit hl0 hfs hd kk
set_option maxRecDepth 20000 in
theorem fl_X6_133 : qw_tb (.fieldLinkNest RX6 133 (TX1 2).1 (TX1 2).2.1 (TX1 2).2.2.1 RX6) := qw_tbi 393 (by decide +kernel) rfl
theorem gf_X6_133 (C : qw_C p l s m args meth c D A nL cc RX6 ret) {a : Nat} {fs : List Value} {v : Value} (t : Nat) (hg : g t = some (.inr (0, fs))) (ha : ad t = a) (hv : fs[2]? = some v) (hd : decode cc pc = .ok (.getfield 133, 3)) (kk : qw_W p l e R s m args below meth c D A nL Q k n ad g (pc + 3) lv (v :: st)) : qw_W p l e R s m args below meth c D A nL Q k n ad g pc lv (.ref a :: st) := qr_getN C qi_X1 2 (by decide) fl_X6_133 t hg ha hv hd kk
set_option maxRecDepth 20000 in
theorem fl_X1_19 : qw_tb (.fieldLink RX1 19 (TX1 3).1 (TX1 3).2.1 (TX1 3).2.2.1) := qw_tbi 394 (by decide +kernel) rfl
theorem gf_X1_19 (C : qw_C p l s m args meth c D A nL cc RX1 ret) {a : Nat} {fs : List Value} {v : Value} (t : Nat) (hg : g t = some (.inr (0, fs))) (ha : ad t = a) (hv : fs[3]? = some v) (hd : decode cc pc = .ok (.getfield 19, 3)) (kk : qw_W p l e R s m args below meth c D A nL Q k n ad g (pc + 3) lv (v :: st)) : qw_W p l e R s m args below meth c D A nL Q k n ad g pc lv (.ref a :: st) := qr_get C qi_X1 3 (by decide) fl_X1_19 t hg ha hv hd kk
theorem pf_X1_19 (C : qw_C p l s m args meth c D A nL cc RX1 ret) (hin2 : meth.name = "<init>") {a : Nat} {fs fs' : List Value} {v : Value} (t : Nat) (hg : g t = some (.inr (0, fs))) (ha : ad t = a) (hn : narrow .int v = v) (hfit : fits .int v = true) (hl0 : 3 < fs.length) (hfs : fs.set 3 v = fs') (hd : decode cc pc = .ok (.putfield 19, 3)) (kk : qw_W p l e R s m args below meth c D A nL Q k n ad (va_up g t (some (.inr (0, fs')))) (pc + 3) lv st) : qw_W p l e R s m args below meth c D A nL Q k n ad g pc lv (v :: .ref a :: st) := qr_putF C qi_X1 tyX1 tyX1_ok nmX1 3 (by decide) fl_X1_19 rfl hin2 rfl (by decide +kernel) t hg ha hn hfit hl0 hfs hd kk
set_option maxRecDepth 20000 in
theorem fl_X6_136 : qw_tb (.fieldLinkNest RX6 136 (TX1 3).1 (TX1 3).2.1 (TX1 3).2.2.1 RX6) := qw_tbi 395 (by decide +kernel) rfl
theorem gf_X6_136 (C : qw_C p l s m args meth c D A nL cc RX6 ret) {a : Nat} {fs : List Value} {v : Value} (t : Nat) (hg : g t = some (.inr (0, fs))) (ha : ad t = a) (hv : fs[3]? = some v) (hd : decode cc pc = .ok (.getfield 136, 3)) (kk : qw_W p l e R s m args below meth c D A nL Q k n ad g (pc + 3) lv (v :: st)) : qw_W p l e R s m args below meth c D A nL Q k n ad g pc lv (.ref a :: st) := qr_getN C qi_X1 3 (by decide) fl_X6_136 t hg ha hv hd kk
set_option maxRecDepth 20000 in
theorem fl_X1_22 : qw_tb (.fieldLink RX1 22 (TX1 4).1 (TX1 4).2.1 (TX1 4).2.2.1) := qw_tbi 396 (by decide +kernel) rfl
theorem gf_X1_22 (C : qw_C p l s m args meth c D A nL cc RX1 ret) {a : Nat} {fs : List Value} {v : Value} (t : Nat) (hg : g t = some (.inr (0, fs))) (ha : ad t = a) (hv : fs[4]? = some v) (hd : decode cc pc = .ok (.getfield 22, 3)) (kk : qw_W p l e R s m args below meth c D A nL Q k n ad g (pc + 3) lv (v :: st)) : qw_W p l e R s m args below meth c D A nL Q k n ad g pc lv (.ref a :: st) := qr_get C qi_X1 4 (by decide) fl_X1_22 t hg ha hv hd kk
theorem pf_X1_22 (C : qw_C p l s m args meth c D A nL cc RX1 ret) {a : Nat} {fs fs' : List Value} {v : Value} (t : Nat) (hg : g t = some (.inr (0, fs))) (ha : ad t = a) (hn : narrow .boolean v = v) (hfit : fits .boolean v = true) (hl0 : 4 < fs.length) (hfs : fs.set 4 v = fs') (hd : decode cc pc = .ok (.putfield 22, 3)) (kk : qw_W p l e R s m args below meth c D A nL Q k n ad (va_up g t (some (.inr (0, fs')))) (pc + 3) lv st) : qw_W p l e R s m args below meth c D A nL Q k n ad g pc lv (v :: .ref a :: st) := qr_put C qi_X1 tyX1 tyX1_ok nmX1 4 (by decide) fl_X1_22 rfl (by decide +kernel) t hg ha hn hfit hl0 hfs hd kk
set_option maxRecDepth 20000 in
theorem fl_X6_129 : qw_tb (.fieldLinkNest RX6 129 (TX1 4).1 (TX1 4).2.1 (TX1 4).2.2.1 RX6) := qw_tbi 397 (by decide +kernel) rfl
theorem gf_X6_129 (C : qw_C p l s m args meth c D A nL cc RX6 ret) {a : Nat} {fs : List Value} {v : Value} (t : Nat) (hg : g t = some (.inr (0, fs))) (ha : ad t = a) (hv : fs[4]? = some v) (hd : decode cc pc = .ok (.getfield 129, 3)) (kk : qw_W p l e R s m args below meth c D A nL Q k n ad g (pc + 3) lv (v :: st)) : qw_W p l e R s m args below meth c D A nL Q k n ad g pc lv (.ref a :: st) := qr_getN C qi_X1 4 (by decide) fl_X6_129 t hg ha hv hd kk
theorem pf_X6_129 (C : qw_C p l s m args meth c D A nL cc RX6 ret) {a : Nat} {fs fs' : List Value} {v : Value} (t : Nat) (hg : g t = some (.inr (0, fs))) (ha : ad t = a) (hn : narrow .boolean v = v) (hfit : fits .boolean v = true) (hl0 : 4 < fs.length) (hfs : fs.set 4 v = fs') (hd : decode cc pc = .ok (.putfield 129, 3)) (kk : qw_W p l e R s m args below meth c D A nL Q k n ad (va_up g t (some (.inr (0, fs')))) (pc + 3) lv st) : qw_W p l e R s m args below meth c D A nL Q k n ad g pc lv (v :: .ref a :: st) := qr_putN C qi_X1 tyX1 tyX1_ok nmX1 4 (by decide) fl_X6_129 rfl (by decide +kernel) t hg ha hn hfit hl0 hfs hd kk
set_option maxRecDepth 20000 in
theorem fl_X7_53 : qw_tb (.fieldLink RX7 53 (TX7 0).1 (TX7 0).2.1 (TX7 0).2.2.1) := qw_tbi 547 (by decide +kernel) rfl
theorem gf_X7_53 (C : qw_C p l s m args meth c D A nL cc RX7 ret) {a : Nat} {fs : List Value} {v : Value} (t : Nat) (hg : g t = some (.inr (6, fs))) (ha : ad t = a) (hv : fs[0]? = some v) (hd : decode cc pc = .ok (.getfield 53, 3)) (kk : qw_W p l e R s m args below meth c D A nL Q k n ad g (pc + 3) lv (v :: st)) : qw_W p l e R s m args below meth c D A nL Q k n ad g pc lv (.ref a :: st) := qr_get C qi_X7 0 (by decide) fl_X7_53 t hg ha hv hd kk
theorem pf_X7_53 (C : qw_C p l s m args meth c D A nL cc RX7 ret) {a : Nat} {fs fs' : List Value} {v : Value} (t : Nat) (hg : g t = some (.inr (6, fs))) (ha : ad t = a) (hn : narrow .int v = v) (hfit : fits .int v = true) (hl0 : 0 < fs.length) (hfs : fs.set 0 v = fs') (hd : decode cc pc = .ok (.putfield 53, 3)) (kk : qw_W p l e R s m args below meth c D A nL Q k n ad (va_up g t (some (.inr (6, fs')))) (pc + 3) lv st) : qw_W p l e R s m args below meth c D A nL Q k n ad g pc lv (v :: .ref a :: st) := qr_put C qi_X7 tyX7 tyX7_ok nmX7 0 (by decide) fl_X7_53 rfl (by decide +kernel) t hg ha hn hfit hl0 hfs hd kk
set_option maxRecDepth 20000 in
theorem fl_X7_92 : qw_tb (.fieldLink RX7 92 (TX7 1).1 (TX7 1).2.1 (TX7 1).2.2.1) := qw_tbi 548 (by decide +kernel) rfl
theorem gf_X7_92 (C : qw_C p l s m args meth c D A nL cc RX7 ret) {a : Nat} {fs : List Value} {v : Value} (t : Nat) (hg : g t = some (.inr (6, fs))) (ha : ad t = a) (hv : fs[1]? = some v) (hd : decode cc pc = .ok (.getfield 92, 3)) (kk : qw_W p l e R s m args below meth c D A nL Q k n ad g (pc + 3) lv (v :: st)) : qw_W p l e R s m args below meth c D A nL Q k n ad g pc lv (.ref a :: st) := qr_get C qi_X7 1 (by decide) fl_X7_92 t hg ha hv hd kk
theorem pf_X7_92 (C : qw_C p l s m args meth c D A nL cc RX7 ret) {a : Nat} {fs fs' : List Value} {v : Value} (t : Nat) (hg : g t = some (.inr (6, fs))) (ha : ad t = a) (hn : narrow .int v = v) (hfit : fits .int v = true) (hl0 : 1 < fs.length) (hfs : fs.set 1 v = fs') (hd : decode cc pc = .ok (.putfield 92, 3)) (kk : qw_W p l e R s m args below meth c D A nL Q k n ad (va_up g t (some (.inr (6, fs')))) (pc + 3) lv st) : qw_W p l e R s m args below meth c D A nL Q k n ad g pc lv (v :: .ref a :: st) := qr_put C qi_X7 tyX7 tyX7_ok nmX7 1 (by decide) fl_X7_92 rfl (by decide +kernel) t hg ha hn hfit hl0 hfs hd kk
set_option maxRecDepth 20000 in
theorem fl_X7_72 : qw_tb (.fieldLink RX7 72 (TX7 2).1 (TX7 2).2.1 (TX7 2).2.2.1) := qw_tbi 549 (by decide +kernel) rfl
theorem gf_X7_72 (C : qw_C p l s m args meth c D A nL cc RX7 ret) {a : Nat} {fs : List Value} {v : Value} (t : Nat) (hg : g t = some (.inr (6, fs))) (ha : ad t = a) (hv : fs[2]? = some v) (hd : decode cc pc = .ok (.getfield 72, 3)) (kk : qw_W p l e R s m args below meth c D A nL Q k n ad g (pc + 3) lv (v :: st)) : qw_W p l e R s m args below meth c D A nL Q k n ad g pc lv (.ref a :: st) := qr_get C qi_X7 2 (by decide) fl_X7_72 t hg ha hv hd kk
theorem pf_X7_72 (C : qw_C p l s m args meth c D A nL cc RX7 ret) {a : Nat} {fs fs' : List Value} {v : Value} (t : Nat) (hg : g t = some (.inr (6, fs))) (ha : ad t = a) (hn : narrow .int v = v) (hfit : fits .int v = true) (hl0 : 2 < fs.length) (hfs : fs.set 2 v = fs') (hd : decode cc pc = .ok (.putfield 72, 3)) (kk : qw_W p l e R s m args below meth c D A nL Q k n ad (va_up g t (some (.inr (6, fs')))) (pc + 3) lv st) : qw_W p l e R s m args below meth c D A nL Q k n ad g pc lv (v :: .ref a :: st) := qr_put C qi_X7 tyX7 tyX7_ok nmX7 2 (by decide) fl_X7_72 rfl (by decide +kernel) t hg ha hn hfit hl0 hfs hd kk
set_option maxRecDepth 20000 in
theorem fl_X7_7 : qw_tb (.fieldLink RX7 7 (TX7 3).1 (TX7 3).2.1 (TX7 3).2.2.1) := qw_tbi 550 (by decide +kernel) rfl
theorem gf_X7_7 (C : qw_C p l s m args meth c D A nL cc RX7 ret) {a : Nat} {fs : List Value} {v : Value} (t : Nat) (hg : g t = some (.inr (6, fs))) (ha : ad t = a) (hv : fs[3]? = some v) (hd : decode cc pc = .ok (.getfield 7, 3)) (kk : qw_W p l e R s m args below meth c D A nL Q k n ad g (pc + 3) lv (v :: st)) : qw_W p l e R s m args below meth c D A nL Q k n ad g pc lv (.ref a :: st) := qr_get C qi_X7 3 (by decide) fl_X7_7 t hg ha hv hd kk
theorem pf_X7_7 (C : qw_C p l s m args meth c D A nL cc RX7 ret) (hin2 : meth.name = "<init>") {a : Nat} {fs fs' : List Value} {v : Value} (t : Nat) (hg : g t = some (.inr (6, fs))) (ha : ad t = a) (hn : narrow (.array .int) v = v) (hfit : fits (.array .int) v = true) (hl0 : 3 < fs.length) (hfs : fs.set 3 v = fs') (hd : decode cc pc = .ok (.putfield 7, 3)) (kk : qw_W p l e R s m args below meth c D A nL Q k n ad (va_up g t (some (.inr (6, fs')))) (pc + 3) lv st) : qw_W p l e R s m args below meth c D A nL Q k n ad g pc lv (v :: .ref a :: st) := qr_putF C qi_X7 tyX7 tyX7_ok nmX7 3 (by decide) fl_X7_7 rfl hin2 rfl (by decide +kernel) t hg ha hn hfit hl0 hfs hd kk
set_option maxRecDepth 20000 in
theorem fl_X7_13 : qw_tb (.fieldLink RX7 13 (TX7 4).1 (TX7 4).2.1 (TX7 4).2.2.1) := qw_tbi 551 (by decide +kernel) rfl
theorem gf_X7_13 (C : qw_C p l s m args meth c D A nL cc RX7 ret) {a : Nat} {fs : List Value} {v : Value} (t : Nat) (hg : g t = some (.inr (6, fs))) (ha : ad t = a) (hv : fs[4]? = some v) (hd : decode cc pc = .ok (.getfield 13, 3)) (kk : qw_W p l e R s m args below meth c D A nL Q k n ad g (pc + 3) lv (v :: st)) : qw_W p l e R s m args below meth c D A nL Q k n ad g pc lv (.ref a :: st) := qr_get C qi_X7 4 (by decide) fl_X7_13 t hg ha hv hd kk
theorem pf_X7_13 (C : qw_C p l s m args meth c D A nL cc RX7 ret) (hin2 : meth.name = "<init>") {a : Nat} {fs fs' : List Value} {v : Value} (t : Nat) (hg : g t = some (.inr (6, fs))) (ha : ad t = a) (hn : narrow (.array .int) v = v) (hfit : fits (.array .int) v = true) (hl0 : 4 < fs.length) (hfs : fs.set 4 v = fs') (hd : decode cc pc = .ok (.putfield 13, 3)) (kk : qw_W p l e R s m args below meth c D A nL Q k n ad (va_up g t (some (.inr (6, fs')))) (pc + 3) lv st) : qw_W p l e R s m args below meth c D A nL Q k n ad g pc lv (v :: .ref a :: st) := qr_putF C qi_X7 tyX7 tyX7_ok nmX7 4 (by decide) fl_X7_13 rfl hin2 rfl (by decide +kernel) t hg ha hn hfit hl0 hfs hd kk
set_option maxRecDepth 20000 in
theorem fl_X7_16 : qw_tb (.fieldLink RX7 16 (TX7 5).1 (TX7 5).2.1 (TX7 5).2.2.1) := qw_tbi 552 (by decide +kernel) rfl
theorem gf_X7_16 (C : qw_C p l s m args meth c D A nL cc RX7 ret) {a : Nat} {fs : List Value} {v : Value} (t : Nat) (hg : g t = some (.inr (6, fs))) (ha : ad t = a) (hv : fs[5]? = some v) (hd : decode cc pc = .ok (.getfield 16, 3)) (kk : qw_W p l e R s m args below meth c D A nL Q k n ad g (pc + 3) lv (v :: st)) : qw_W p l e R s m args below meth c D A nL Q k n ad g pc lv (.ref a :: st) := qr_get C qi_X7 5 (by decide) fl_X7_16 t hg ha hv hd kk
theorem pf_X7_16 (C : qw_C p l s m args meth c D A nL cc RX7 ret) (hin2 : meth.name = "<init>") {a : Nat} {fs fs' : List Value} {v : Value} (t : Nat) (hg : g t = some (.inr (6, fs))) (ha : ad t = a) (hn : narrow (.array .int) v = v) (hfit : fits (.array .int) v = true) (hl0 : 5 < fs.length) (hfs : fs.set 5 v = fs') (hd : decode cc pc = .ok (.putfield 16, 3)) (kk : qw_W p l e R s m args below meth c D A nL Q k n ad (va_up g t (some (.inr (6, fs')))) (pc + 3) lv st) : qw_W p l e R s m args below meth c D A nL Q k n ad g pc lv (v :: .ref a :: st) := qr_putF C qi_X7 tyX7 tyX7_ok nmX7 5 (by decide) fl_X7_16 rfl hin2 rfl (by decide +kernel) t hg ha hn hfit hl0 hfs hd kk
set_option maxRecDepth 20000 in
theorem fl_X7_19 : qw_tb (.fieldLink RX7 19 (TX7 6).1 (TX7 6).2.1 (TX7 6).2.2.1) := qw_tbi 553 (by decide +kernel) rfl
theorem gf_X7_19 (C : qw_C p l s m args meth c D A nL cc RX7 ret) {a : Nat} {fs : List Value} {v : Value} (t : Nat) (hg : g t = some (.inr (6, fs))) (ha : ad t = a) (hv : fs[6]? = some v) (hd : decode cc pc = .ok (.getfield 19, 3)) (kk : qw_W p l e R s m args below meth c D A nL Q k n ad g (pc + 3) lv (v :: st)) : qw_W p l e R s m args below meth c D A nL Q k n ad g pc lv (.ref a :: st) := qr_get C qi_X7 6 (by decide) fl_X7_19 t hg ha hv hd kk
theorem pf_X7_19 (C : qw_C p l s m args meth c D A nL cc RX7 ret) (hin2 : meth.name = "<init>") {a : Nat} {fs fs' : List Value} {v : Value} (t : Nat) (hg : g t = some (.inr (6, fs))) (ha : ad t = a) (hn : narrow (.array .int) v = v) (hfit : fits (.array .int) v = true) (hl0 : 6 < fs.length) (hfs : fs.set 6 v = fs') (hd : decode cc pc = .ok (.putfield 19, 3)) (kk : qw_W p l e R s m args below meth c D A nL Q k n ad (va_up g t (some (.inr (6, fs')))) (pc + 3) lv st) : qw_W p l e R s m args below meth c D A nL Q k n ad g pc lv (v :: .ref a :: st) := qr_putF C qi_X7 tyX7 tyX7_ok nmX7 6 (by decide) fl_X7_19 rfl hin2 rfl (by decide +kernel) t hg ha hn hfit hl0 hfs hd kk
set_option maxRecDepth 20000 in
theorem fl_X7_22 : qw_tb (.fieldLink RX7 22 (TX7 7).1 (TX7 7).2.1 (TX7 7).2.2.1) := qw_tbi 554 (by decide +kernel) rfl
theorem gf_X7_22 (C : qw_C p l s m args meth c D A nL cc RX7 ret) {a : Nat} {fs : List Value} {v : Value} (t : Nat) (hg : g t = some (.inr (6, fs))) (ha : ad t = a) (hv : fs[7]? = some v) (hd : decode cc pc = .ok (.getfield 22, 3)) (kk : qw_W p l e R s m args below meth c D A nL Q k n ad g (pc + 3) lv (v :: st)) : qw_W p l e R s m args below meth c D A nL Q k n ad g pc lv (.ref a :: st) := qr_get C qi_X7 7 (by decide) fl_X7_22 t hg ha hv hd kk
theorem pf_X7_22 (C : qw_C p l s m args meth c D A nL cc RX7 ret) (hin2 : meth.name = "<init>") {a : Nat} {fs fs' : List Value} {v : Value} (t : Nat) (hg : g t = some (.inr (6, fs))) (ha : ad t = a) (hn : narrow (.array .boolean) v = v) (hfit : fits (.array .boolean) v = true) (hl0 : 7 < fs.length) (hfs : fs.set 7 v = fs') (hd : decode cc pc = .ok (.putfield 22, 3)) (kk : qw_W p l e R s m args below meth c D A nL Q k n ad (va_up g t (some (.inr (6, fs')))) (pc + 3) lv st) : qw_W p l e R s m args below meth c D A nL Q k n ad g pc lv (v :: .ref a :: st) := qr_putF C qi_X7 tyX7 tyX7_ok nmX7 7 (by decide) fl_X7_22 rfl hin2 rfl (by decide +kernel) t hg ha hn hfit hl0 hfs hd kk
set_option maxRecDepth 20000 in
theorem fl_X7_26 : qw_tb (.fieldLink RX7 26 (TX7 8).1 (TX7 8).2.1 (TX7 8).2.2.1) := qw_tbi 555 (by decide +kernel) rfl
theorem gf_X7_26 (C : qw_C p l s m args meth c D A nL cc RX7 ret) {a : Nat} {fs : List Value} {v : Value} (t : Nat) (hg : g t = some (.inr (6, fs))) (ha : ad t = a) (hv : fs[8]? = some v) (hd : decode cc pc = .ok (.getfield 26, 3)) (kk : qw_W p l e R s m args below meth c D A nL Q k n ad g (pc + 3) lv (v :: st)) : qw_W p l e R s m args below meth c D A nL Q k n ad g pc lv (.ref a :: st) := qr_get C qi_X7 8 (by decide) fl_X7_26 t hg ha hv hd kk
theorem pf_X7_26 (C : qw_C p l s m args meth c D A nL cc RX7 ret) (hin2 : meth.name = "<init>") {a : Nat} {fs fs' : List Value} {v : Value} (t : Nat) (hg : g t = some (.inr (6, fs))) (ha : ad t = a) (hn : narrow (.array .boolean) v = v) (hfit : fits (.array .boolean) v = true) (hl0 : 8 < fs.length) (hfs : fs.set 8 v = fs') (hd : decode cc pc = .ok (.putfield 26, 3)) (kk : qw_W p l e R s m args below meth c D A nL Q k n ad (va_up g t (some (.inr (6, fs')))) (pc + 3) lv st) : qw_W p l e R s m args below meth c D A nL Q k n ad g pc lv (v :: .ref a :: st) := qr_putF C qi_X7 tyX7 tyX7_ok nmX7 8 (by decide) fl_X7_26 rfl hin2 rfl (by decide +kernel) t hg ha hn hfit hl0 hfs hd kk
set_option maxRecDepth 20000 in
theorem fl_X7_95 : qw_tb (.fieldLink RX7 95 (TX7 9).1 (TX7 9).2.1 (TX7 9).2.2.1) := qw_tbi 556 (by decide +kernel) rfl
theorem gf_X7_95 (C : qw_C p l s m args meth c D A nL cc RX7 ret) {a : Nat} {fs : List Value} {v : Value} (t : Nat) (hg : g t = some (.inr (6, fs))) (ha : ad t = a) (hv : fs[9]? = some v) (hd : decode cc pc = .ok (.getfield 95, 3)) (kk : qw_W p l e R s m args below meth c D A nL Q k n ad g (pc + 3) lv (v :: st)) : qw_W p l e R s m args below meth c D A nL Q k n ad g pc lv (.ref a :: st) := qr_get C qi_X7 9 (by decide) fl_X7_95 t hg ha hv hd kk
theorem pf_X7_95 (C : qw_C p l s m args meth c D A nL cc RX7 ret) {a : Nat} {fs fs' : List Value} {v : Value} (t : Nat) (hg : g t = some (.inr (6, fs))) (ha : ad t = a) (hn : narrow .int v = v) (hfit : fits .int v = true) (hl0 : 9 < fs.length) (hfs : fs.set 9 v = fs') (hd : decode cc pc = .ok (.putfield 95, 3)) (kk : qw_W p l e R s m args below meth c D A nL Q k n ad (va_up g t (some (.inr (6, fs')))) (pc + 3) lv st) : qw_W p l e R s m args below meth c D A nL Q k n ad g pc lv (v :: .ref a :: st) := qr_put C qi_X7 tyX7 tyX7_ok nmX7 9 (by decide) fl_X7_95 rfl (by decide +kernel) t hg ha hn hfit hl0 hfs hd kk
set_option maxRecDepth 20000 in
theorem fl_X7_29 : qw_tb (.fieldLink RX7 29 (TX7 10).1 (TX7 10).2.1 (TX7 10).2.2.1) := qw_tbi 557 (by decide +kernel) rfl
theorem gf_X7_29 (C : qw_C p l s m args meth c D A nL cc RX7 ret) {a : Nat} {fs : List Value} {v : Value} (t : Nat) (hg : g t = some (.inr (6, fs))) (ha : ad t = a) (hv : fs[10]? = some v) (hd : decode cc pc = .ok (.getfield 29, 3)) (kk : qw_W p l e R s m args below meth c D A nL Q k n ad g (pc + 3) lv (v :: st)) : qw_W p l e R s m args below meth c D A nL Q k n ad g pc lv (.ref a :: st) := qr_get C qi_X7 10 (by decide) fl_X7_29 t hg ha hv hd kk
theorem pf_X7_29 (C : qw_C p l s m args meth c D A nL cc RX7 ret) (hin2 : meth.name = "<init>") {a : Nat} {fs fs' : List Value} {v : Value} (t : Nat) (hg : g t = some (.inr (6, fs))) (ha : ad t = a) (hn : narrow (.array .int) v = v) (hfit : fits (.array .int) v = true) (hl0 : 10 < fs.length) (hfs : fs.set 10 v = fs') (hd : decode cc pc = .ok (.putfield 29, 3)) (kk : qw_W p l e R s m args below meth c D A nL Q k n ad (va_up g t (some (.inr (6, fs')))) (pc + 3) lv st) : qw_W p l e R s m args below meth c D A nL Q k n ad g pc lv (v :: .ref a :: st) := qr_putF C qi_X7 tyX7 tyX7_ok nmX7 10 (by decide) fl_X7_29 rfl hin2 rfl (by decide +kernel) t hg ha hn hfit hl0 hfs hd kk
set_option maxRecDepth 20000 in
theorem fl_X7_32 : qw_tb (.fieldLink RX7 32 (TX7 11).1 (TX7 11).2.1 (TX7 11).2.2.1) := qw_tbi 558 (by decide +kernel) rfl
theorem gf_X7_32 (C : qw_C p l s m args meth c D A nL cc RX7 ret) {a : Nat} {fs : List Value} {v : Value} (t : Nat) (hg : g t = some (.inr (6, fs))) (ha : ad t = a) (hv : fs[11]? = some v) (hd : decode cc pc = .ok (.getfield 32, 3)) (kk : qw_W p l e R s m args below meth c D A nL Q k n ad g (pc + 3) lv (v :: st)) : qw_W p l e R s m args below meth c D A nL Q k n ad g pc lv (.ref a :: st) := qr_get C qi_X7 11 (by decide) fl_X7_32 t hg ha hv hd kk
theorem pf_X7_32 (C : qw_C p l s m args meth c D A nL cc RX7 ret) (hin2 : meth.name = "<init>") {a : Nat} {fs fs' : List Value} {v : Value} (t : Nat) (hg : g t = some (.inr (6, fs))) (ha : ad t = a) (hn : narrow (.array .int) v = v) (hfit : fits (.array .int) v = true) (hl0 : 11 < fs.length) (hfs : fs.set 11 v = fs') (hd : decode cc pc = .ok (.putfield 32, 3)) (kk : qw_W p l e R s m args below meth c D A nL Q k n ad (va_up g t (some (.inr (6, fs')))) (pc + 3) lv st) : qw_W p l e R s m args below meth c D A nL Q k n ad g pc lv (v :: .ref a :: st) := qr_putF C qi_X7 tyX7 tyX7_ok nmX7 11 (by decide) fl_X7_32 rfl hin2 rfl (by decide +kernel) t hg ha hn hfit hl0 hfs hd kk
set_option maxRecDepth 20000 in
theorem fl_X7_35 : qw_tb (.fieldLink RX7 35 (TX7 12).1 (TX7 12).2.1 (TX7 12).2.2.1) := qw_tbi 559 (by decide +kernel) rfl
theorem gf_X7_35 (C : qw_C p l s m args meth c D A nL cc RX7 ret) {a : Nat} {fs : List Value} {v : Value} (t : Nat) (hg : g t = some (.inr (6, fs))) (ha : ad t = a) (hv : fs[12]? = some v) (hd : decode cc pc = .ok (.getfield 35, 3)) (kk : qw_W p l e R s m args below meth c D A nL Q k n ad g (pc + 3) lv (v :: st)) : qw_W p l e R s m args below meth c D A nL Q k n ad g pc lv (.ref a :: st) := qr_get C qi_X7 12 (by decide) fl_X7_35 t hg ha hv hd kk
theorem pf_X7_35 (C : qw_C p l s m args meth c D A nL cc RX7 ret) (hin2 : meth.name = "<init>") {a : Nat} {fs fs' : List Value} {v : Value} (t : Nat) (hg : g t = some (.inr (6, fs))) (ha : ad t = a) (hn : narrow (.array .int) v = v) (hfit : fits (.array .int) v = true) (hl0 : 12 < fs.length) (hfs : fs.set 12 v = fs') (hd : decode cc pc = .ok (.putfield 35, 3)) (kk : qw_W p l e R s m args below meth c D A nL Q k n ad (va_up g t (some (.inr (6, fs')))) (pc + 3) lv st) : qw_W p l e R s m args below meth c D A nL Q k n ad g pc lv (v :: .ref a :: st) := qr_putF C qi_X7 tyX7 tyX7_ok nmX7 12 (by decide) fl_X7_35 rfl hin2 rfl (by decide +kernel) t hg ha hn hfit hl0 hfs hd kk
set_option maxRecDepth 20000 in
theorem fl_X7_38 : qw_tb (.fieldLink RX7 38 (TX7 13).1 (TX7 13).2.1 (TX7 13).2.2.1) := qw_tbi 560 (by decide +kernel) rfl
theorem gf_X7_38 (C : qw_C p l s m args meth c D A nL cc RX7 ret) {a : Nat} {fs : List Value} {v : Value} (t : Nat) (hg : g t = some (.inr (6, fs))) (ha : ad t = a) (hv : fs[13]? = some v) (hd : decode cc pc = .ok (.getfield 38, 3)) (kk : qw_W p l e R s m args below meth c D A nL Q k n ad g (pc + 3) lv (v :: st)) : qw_W p l e R s m args below meth c D A nL Q k n ad g pc lv (.ref a :: st) := qr_get C qi_X7 13 (by decide) fl_X7_38 t hg ha hv hd kk
theorem pf_X7_38 (C : qw_C p l s m args meth c D A nL cc RX7 ret) (hin2 : meth.name = "<init>") {a : Nat} {fs fs' : List Value} {v : Value} (t : Nat) (hg : g t = some (.inr (6, fs))) (ha : ad t = a) (hn : narrow (.array .int) v = v) (hfit : fits (.array .int) v = true) (hl0 : 13 < fs.length) (hfs : fs.set 13 v = fs') (hd : decode cc pc = .ok (.putfield 38, 3)) (kk : qw_W p l e R s m args below meth c D A nL Q k n ad (va_up g t (some (.inr (6, fs')))) (pc + 3) lv st) : qw_W p l e R s m args below meth c D A nL Q k n ad g pc lv (v :: .ref a :: st) := qr_putF C qi_X7 tyX7 tyX7_ok nmX7 13 (by decide) fl_X7_38 rfl hin2 rfl (by decide +kernel) t hg ha hn hfit hl0 hfs hd kk
set_option maxRecDepth 20000 in
theorem fl_X7_41 : qw_tb (.fieldLink RX7 41 (TX7 14).1 (TX7 14).2.1 (TX7 14).2.2.1) := qw_tbi 561 (by decide +kernel) rfl
theorem gf_X7_41 (C : qw_C p l s m args meth c D A nL cc RX7 ret) {a : Nat} {fs : List Value} {v : Value} (t : Nat) (hg : g t = some (.inr (6, fs))) (ha : ad t = a) (hv : fs[14]? = some v) (hd : decode cc pc = .ok (.getfield 41, 3)) (kk : qw_W p l e R s m args below meth c D A nL Q k n ad g (pc + 3) lv (v :: st)) : qw_W p l e R s m args below meth c D A nL Q k n ad g pc lv (.ref a :: st) := qr_get C qi_X7 14 (by decide) fl_X7_41 t hg ha hv hd kk
theorem pf_X7_41 (C : qw_C p l s m args meth c D A nL cc RX7 ret) (hin2 : meth.name = "<init>") {a : Nat} {fs fs' : List Value} {v : Value} (t : Nat) (hg : g t = some (.inr (6, fs))) (ha : ad t = a) (hn : narrow (.array .boolean) v = v) (hfit : fits (.array .boolean) v = true) (hl0 : 14 < fs.length) (hfs : fs.set 14 v = fs') (hd : decode cc pc = .ok (.putfield 41, 3)) (kk : qw_W p l e R s m args below meth c D A nL Q k n ad (va_up g t (some (.inr (6, fs')))) (pc + 3) lv st) : qw_W p l e R s m args below meth c D A nL Q k n ad g pc lv (v :: .ref a :: st) := qr_putF C qi_X7 tyX7 tyX7_ok nmX7 14 (by decide) fl_X7_41 rfl hin2 rfl (by decide +kernel) t hg ha hn hfit hl0 hfs hd kk
set_option maxRecDepth 20000 in
theorem fl_X7_44 : qw_tb (.fieldLink RX7 44 (TX7 15).1 (TX7 15).2.1 (TX7 15).2.2.1) := qw_tbi 562 (by decide +kernel) rfl
theorem gf_X7_44 (C : qw_C p l s m args meth c D A nL cc RX7 ret) {a : Nat} {fs : List Value} {v : Value} (t : Nat) (hg : g t = some (.inr (6, fs))) (ha : ad t = a) (hv : fs[15]? = some v) (hd : decode cc pc = .ok (.getfield 44, 3)) (kk : qw_W p l e R s m args below meth c D A nL Q k n ad g (pc + 3) lv (v :: st)) : qw_W p l e R s m args below meth c D A nL Q k n ad g pc lv (.ref a :: st) := qr_get C qi_X7 15 (by decide) fl_X7_44 t hg ha hv hd kk
theorem pf_X7_44 (C : qw_C p l s m args meth c D A nL cc RX7 ret) (hin2 : meth.name = "<init>") {a : Nat} {fs fs' : List Value} {v : Value} (t : Nat) (hg : g t = some (.inr (6, fs))) (ha : ad t = a) (hn : narrow (.array .boolean) v = v) (hfit : fits (.array .boolean) v = true) (hl0 : 15 < fs.length) (hfs : fs.set 15 v = fs') (hd : decode cc pc = .ok (.putfield 44, 3)) (kk : qw_W p l e R s m args below meth c D A nL Q k n ad (va_up g t (some (.inr (6, fs')))) (pc + 3) lv st) : qw_W p l e R s m args below meth c D A nL Q k n ad g pc lv (v :: .ref a :: st) := qr_putF C qi_X7 tyX7 tyX7_ok nmX7 15 (by decide) fl_X7_44 rfl hin2 rfl (by decide +kernel) t hg ha hn hfit hl0 hfs hd kk
set_option maxRecDepth 20000 in
theorem fl_X7_47 : qw_tb (.fieldLink RX7 47 (TX7 16).1 (TX7 16).2.1 (TX7 16).2.2.1) := qw_tbi 563 (by decide +kernel) rfl
theorem gf_X7_47 (C : qw_C p l s m args meth c D A nL cc RX7 ret) {a : Nat} {fs : List Value} {v : Value} (t : Nat) (hg : g t = some (.inr (6, fs))) (ha : ad t = a) (hv : fs[16]? = some v) (hd : decode cc pc = .ok (.getfield 47, 3)) (kk : qw_W p l e R s m args below meth c D A nL Q k n ad g (pc + 3) lv (v :: st)) : qw_W p l e R s m args below meth c D A nL Q k n ad g pc lv (.ref a :: st) := qr_get C qi_X7 16 (by decide) fl_X7_47 t hg ha hv hd kk
theorem pf_X7_47 (C : qw_C p l s m args meth c D A nL cc RX7 ret) (hin2 : meth.name = "<init>") {a : Nat} {fs fs' : List Value} {v : Value} (t : Nat) (hg : g t = some (.inr (6, fs))) (ha : ad t = a) (hn : narrow (.array .int) v = v) (hfit : fits (.array .int) v = true) (hl0 : 16 < fs.length) (hfs : fs.set 16 v = fs') (hd : decode cc pc = .ok (.putfield 47, 3)) (kk : qw_W p l e R s m args below meth c D A nL Q k n ad (va_up g t (some (.inr (6, fs')))) (pc + 3) lv st) : qw_W p l e R s m args below meth c D A nL Q k n ad g pc lv (v :: .ref a :: st) := qr_putF C qi_X7 tyX7 tyX7_ok nmX7 16 (by decide) fl_X7_47 rfl hin2 rfl (by decide +kernel) t hg ha hn hfit hl0 hfs hd kk
set_option maxRecDepth 20000 in
theorem fl_X7_50 : qw_tb (.fieldLink RX7 50 (TX7 17).1 (TX7 17).2.1 (TX7 17).2.2.1) := qw_tbi 564 (by decide +kernel) rfl
theorem gf_X7_50 (C : qw_C p l s m args meth c D A nL cc RX7 ret) {a : Nat} {fs : List Value} {v : Value} (t : Nat) (hg : g t = some (.inr (6, fs))) (ha : ad t = a) (hv : fs[17]? = some v) (hd : decode cc pc = .ok (.getfield 50, 3)) (kk : qw_W p l e R s m args below meth c D A nL Q k n ad g (pc + 3) lv (v :: st)) : qw_W p l e R s m args below meth c D A nL Q k n ad g pc lv (.ref a :: st) := qr_get C qi_X7 17 (by decide) fl_X7_50 t hg ha hv hd kk
theorem pf_X7_50 (C : qw_C p l s m args meth c D A nL cc RX7 ret) (hin2 : meth.name = "<init>") {a : Nat} {fs fs' : List Value} {v : Value} (t : Nat) (hg : g t = some (.inr (6, fs))) (ha : ad t = a) (hn : narrow (.array .int) v = v) (hfit : fits (.array .int) v = true) (hl0 : 17 < fs.length) (hfs : fs.set 17 v = fs') (hd : decode cc pc = .ok (.putfield 50, 3)) (kk : qw_W p l e R s m args below meth c D A nL Q k n ad (va_up g t (some (.inr (6, fs')))) (pc + 3) lv st) : qw_W p l e R s m args below meth c D A nL Q k n ad g pc lv (v :: .ref a :: st) := qr_putF C qi_X7 tyX7 tyX7_ok nmX7 17 (by decide) fl_X7_50 rfl hin2 rfl (by decide +kernel) t hg ha hn hfit hl0 hfs hd kk
set_option maxRecDepth 20000 in
theorem fl_X7_69 : qw_tb (.fieldLink RX7 69 (TX7 18).1 (TX7 18).2.1 (TX7 18).2.2.1) := qw_tbi 565 (by decide +kernel) rfl
theorem gf_X7_69 (C : qw_C p l s m args meth c D A nL cc RX7 ret) {a : Nat} {fs : List Value} {v : Value} (t : Nat) (hg : g t = some (.inr (6, fs))) (ha : ad t = a) (hv : fs[18]? = some v) (hd : decode cc pc = .ok (.getfield 69, 3)) (kk : qw_W p l e R s m args below meth c D A nL Q k n ad g (pc + 3) lv (v :: st)) : qw_W p l e R s m args below meth c D A nL Q k n ad g pc lv (.ref a :: st) := qr_get C qi_X7 18 (by decide) fl_X7_69 t hg ha hv hd kk
theorem pf_X7_69 (C : qw_C p l s m args meth c D A nL cc RX7 ret) {a : Nat} {fs fs' : List Value} {v : Value} (t : Nat) (hg : g t = some (.inr (6, fs))) (ha : ad t = a) (hn : narrow .int v = v) (hfit : fits .int v = true) (hl0 : 18 < fs.length) (hfs : fs.set 18 v = fs') (hd : decode cc pc = .ok (.putfield 69, 3)) (kk : qw_W p l e R s m args below meth c D A nL Q k n ad (va_up g t (some (.inr (6, fs')))) (pc + 3) lv st) : qw_W p l e R s m args below meth c D A nL Q k n ad g pc lv (v :: .ref a :: st) := qr_put C qi_X7 tyX7 tyX7_ok nmX7 18 (by decide) fl_X7_69 rfl (by decide +kernel) t hg ha hn hfit hl0 hfs hd kk
set_option maxRecDepth 20000 in
theorem fl_X7_127 : qw_tb (.fieldLink RX7 127 (TX7 19).1 (TX7 19).2.1 (TX7 19).2.2.1) := qw_tbi 566 (by decide +kernel) rfl
theorem gf_X7_127 (C : qw_C p l s m args meth c D A nL cc RX7 ret) {a : Nat} {fs : List Value} {v : Value} (t : Nat) (hg : g t = some (.inr (6, fs))) (ha : ad t = a) (hv : fs[19]? = some v) (hd : decode cc pc = .ok (.getfield 127, 3)) (kk : qw_W p l e R s m args below meth c D A nL Q k n ad g (pc + 3) lv (v :: st)) : qw_W p l e R s m args below meth c D A nL Q k n ad g pc lv (.ref a :: st) := qr_get C qi_X7 19 (by decide) fl_X7_127 t hg ha hv hd kk
theorem pf_X7_127 (C : qw_C p l s m args meth c D A nL cc RX7 ret) {a : Nat} {fs fs' : List Value} {v : Value} (t : Nat) (hg : g t = some (.inr (6, fs))) (ha : ad t = a) (hn : narrow .int v = v) (hfit : fits .int v = true) (hl0 : 19 < fs.length) (hfs : fs.set 19 v = fs') (hd : decode cc pc = .ok (.putfield 127, 3)) (kk : qw_W p l e R s m args below meth c D A nL Q k n ad (va_up g t (some (.inr (6, fs')))) (pc + 3) lv st) : qw_W p l e R s m args below meth c D A nL Q k n ad g pc lv (v :: .ref a :: st) := qr_put C qi_X7 tyX7 tyX7_ok nmX7 19 (by decide) fl_X7_127 rfl (by decide +kernel) t hg ha hn hfit hl0 hfs hd kk
end QWF
section QWG
variable {p : Program} {l : Launch} {e : Env} {R : Room} {s : State} {m : MethodId} {args : Array Value} {below : List Frame} {meth : Method} {c : Code}
variable {D : va_G} {A : Nat → Prop} {nL : Nat} {Q : State → Prop} {k n : Nat} {ad : Nat → Nat} {g : qw_G} {pc : Nat} {lv : List (Nat × Value)} {st : List Value}
variable {cc : ByteArray} {own : String} {ret : Option FieldType}

theorem qr_if_eq_t (C : qw_C p l s m args meth c D A nL cc own ret) {x : Int32} {off : Int} (tgt : Nat) (hd : decode cc pc = .ok (.ifCond .eq off, 3)) (ht : (pc : Int) + off = (tgt : Int)) (h : x = 0) (kt : qw_W p l e R s m args below meth c D A nL Q k n ad g tgt lv st) : qw_W p l e R s m args below meth c D A nL Q k n ad g pc lv (.int x :: st) := qr_if_eq C tgt hd ht (fun _ => kt) (fun z => absurd h z)
theorem qr_if_eq_f (C : qw_C p l s m args meth c D A nL cc own ret) {x : Int32} {off : Int} (tgt : Nat) (hd : decode cc pc = .ok (.ifCond .eq off, 3)) (ht : (pc : Int) + off = (tgt : Int)) (h : ¬ x = 0) (kf : qw_W p l e R s m args below meth c D A nL Q k n ad g (pc + 3) lv st) : qw_W p l e R s m args below meth c D A nL Q k n ad g pc lv (.int x :: st) := qr_if_eq C tgt hd ht (fun z => absurd z h) (fun _ => kf)
theorem qr_icmp_eq_t (C : qw_C p l s m args meth c D A nL cc own ret) {x y : Int32} {off : Int} (tgt : Nat) (hd : decode cc pc = .ok (.if_icmp .eq off, 3)) (ht : (pc : Int) + off = (tgt : Int)) (h : x = y) (kt : qw_W p l e R s m args below meth c D A nL Q k n ad g tgt lv st) : qw_W p l e R s m args below meth c D A nL Q k n ad g pc lv (.int y :: .int x :: st) := qr_icmp_eq C tgt hd ht (fun _ => kt) (fun z => absurd h z)
theorem qr_icmp_eq_f (C : qw_C p l s m args meth c D A nL cc own ret) {x y : Int32} {off : Int} (tgt : Nat) (hd : decode cc pc = .ok (.if_icmp .eq off, 3)) (ht : (pc : Int) + off = (tgt : Int)) (h : ¬ x = y) (kf : qw_W p l e R s m args below meth c D A nL Q k n ad g (pc + 3) lv st) : qw_W p l e R s m args below meth c D A nL Q k n ad g pc lv (.int y :: .int x :: st) := qr_icmp_eq C tgt hd ht (fun z => absurd z h) (fun _ => kf)
theorem qr_if_ne_t (C : qw_C p l s m args meth c D A nL cc own ret) {x : Int32} {off : Int} (tgt : Nat) (hd : decode cc pc = .ok (.ifCond .ne off, 3)) (ht : (pc : Int) + off = (tgt : Int)) (h : ¬ x = 0) (kt : qw_W p l e R s m args below meth c D A nL Q k n ad g tgt lv st) : qw_W p l e R s m args below meth c D A nL Q k n ad g pc lv (.int x :: st) := qr_if_ne C tgt hd ht (fun _ => kt) (fun z => absurd z h)
theorem qr_if_ne_f (C : qw_C p l s m args meth c D A nL cc own ret) {x : Int32} {off : Int} (tgt : Nat) (hd : decode cc pc = .ok (.ifCond .ne off, 3)) (ht : (pc : Int) + off = (tgt : Int)) (h : x = 0) (kf : qw_W p l e R s m args below meth c D A nL Q k n ad g (pc + 3) lv st) : qw_W p l e R s m args below meth c D A nL Q k n ad g pc lv (.int x :: st) := qr_if_ne C tgt hd ht (fun z => absurd h z) (fun _ => kf)
theorem qr_icmp_ne_t (C : qw_C p l s m args meth c D A nL cc own ret) {x y : Int32} {off : Int} (tgt : Nat) (hd : decode cc pc = .ok (.if_icmp .ne off, 3)) (ht : (pc : Int) + off = (tgt : Int)) (h : ¬ x = y) (kt : qw_W p l e R s m args below meth c D A nL Q k n ad g tgt lv st) : qw_W p l e R s m args below meth c D A nL Q k n ad g pc lv (.int y :: .int x :: st) := qr_icmp_ne C tgt hd ht (fun _ => kt) (fun z => absurd z h)
theorem qr_icmp_ne_f (C : qw_C p l s m args meth c D A nL cc own ret) {x y : Int32} {off : Int} (tgt : Nat) (hd : decode cc pc = .ok (.if_icmp .ne off, 3)) (ht : (pc : Int) + off = (tgt : Int)) (h : x = y) (kf : qw_W p l e R s m args below meth c D A nL Q k n ad g (pc + 3) lv st) : qw_W p l e R s m args below meth c D A nL Q k n ad g pc lv (.int y :: .int x :: st) := qr_icmp_ne C tgt hd ht (fun z => absurd h z) (fun _ => kf)
theorem qr_if_lt_t (C : qw_C p l s m args meth c D A nL cc own ret) {x : Int32} {off : Int} (tgt : Nat) (hd : decode cc pc = .ok (.ifCond .lt off, 3)) (ht : (pc : Int) + off = (tgt : Int)) (h : x < 0) (kt : qw_W p l e R s m args below meth c D A nL Q k n ad g tgt lv st) : qw_W p l e R s m args below meth c D A nL Q k n ad g pc lv (.int x :: st) := qr_if_lt C tgt hd ht (fun _ => kt) (fun z => absurd h z)
theorem qr_if_lt_f (C : qw_C p l s m args meth c D A nL cc own ret) {x : Int32} {off : Int} (tgt : Nat) (hd : decode cc pc = .ok (.ifCond .lt off, 3)) (ht : (pc : Int) + off = (tgt : Int)) (h : ¬ x < 0) (kf : qw_W p l e R s m args below meth c D A nL Q k n ad g (pc + 3) lv st) : qw_W p l e R s m args below meth c D A nL Q k n ad g pc lv (.int x :: st) := qr_if_lt C tgt hd ht (fun z => absurd z h) (fun _ => kf)
theorem qr_icmp_lt_t (C : qw_C p l s m args meth c D A nL cc own ret) {x y : Int32} {off : Int} (tgt : Nat) (hd : decode cc pc = .ok (.if_icmp .lt off, 3)) (ht : (pc : Int) + off = (tgt : Int)) (h : x < y) (kt : qw_W p l e R s m args below meth c D A nL Q k n ad g tgt lv st) : qw_W p l e R s m args below meth c D A nL Q k n ad g pc lv (.int y :: .int x :: st) := qr_icmp_lt C tgt hd ht (fun _ => kt) (fun z => absurd h z)
theorem qr_icmp_lt_f (C : qw_C p l s m args meth c D A nL cc own ret) {x y : Int32} {off : Int} (tgt : Nat) (hd : decode cc pc = .ok (.if_icmp .lt off, 3)) (ht : (pc : Int) + off = (tgt : Int)) (h : ¬ x < y) (kf : qw_W p l e R s m args below meth c D A nL Q k n ad g (pc + 3) lv st) : qw_W p l e R s m args below meth c D A nL Q k n ad g pc lv (.int y :: .int x :: st) := qr_icmp_lt C tgt hd ht (fun z => absurd z h) (fun _ => kf)
theorem qr_if_ge_t (C : qw_C p l s m args meth c D A nL cc own ret) {x : Int32} {off : Int} (tgt : Nat) (hd : decode cc pc = .ok (.ifCond .ge off, 3)) (ht : (pc : Int) + off = (tgt : Int)) (h : 0 ≤ x) (kt : qw_W p l e R s m args below meth c D A nL Q k n ad g tgt lv st) : qw_W p l e R s m args below meth c D A nL Q k n ad g pc lv (.int x :: st) := qr_if_ge C tgt hd ht (fun _ => kt) (fun z => absurd h z)
theorem qr_if_ge_f (C : qw_C p l s m args meth c D A nL cc own ret) {x : Int32} {off : Int} (tgt : Nat) (hd : decode cc pc = .ok (.ifCond .ge off, 3)) (ht : (pc : Int) + off = (tgt : Int)) (h : ¬ 0 ≤ x) (kf : qw_W p l e R s m args below meth c D A nL Q k n ad g (pc + 3) lv st) : qw_W p l e R s m args below meth c D A nL Q k n ad g pc lv (.int x :: st) := qr_if_ge C tgt hd ht (fun z => absurd z h) (fun _ => kf)
theorem qr_icmp_ge_t (C : qw_C p l s m args meth c D A nL cc own ret) {x y : Int32} {off : Int} (tgt : Nat) (hd : decode cc pc = .ok (.if_icmp .ge off, 3)) (ht : (pc : Int) + off = (tgt : Int)) (h : y ≤ x) (kt : qw_W p l e R s m args below meth c D A nL Q k n ad g tgt lv st) : qw_W p l e R s m args below meth c D A nL Q k n ad g pc lv (.int y :: .int x :: st) := qr_icmp_ge C tgt hd ht (fun _ => kt) (fun z => absurd h z)
theorem qr_icmp_ge_f (C : qw_C p l s m args meth c D A nL cc own ret) {x y : Int32} {off : Int} (tgt : Nat) (hd : decode cc pc = .ok (.if_icmp .ge off, 3)) (ht : (pc : Int) + off = (tgt : Int)) (h : ¬ y ≤ x) (kf : qw_W p l e R s m args below meth c D A nL Q k n ad g (pc + 3) lv st) : qw_W p l e R s m args below meth c D A nL Q k n ad g pc lv (.int y :: .int x :: st) := qr_icmp_ge C tgt hd ht (fun z => absurd z h) (fun _ => kf)
theorem qr_if_gt_t (C : qw_C p l s m args meth c D A nL cc own ret) {x : Int32} {off : Int} (tgt : Nat) (hd : decode cc pc = .ok (.ifCond .gt off, 3)) (ht : (pc : Int) + off = (tgt : Int)) (h : 0 < x) (kt : qw_W p l e R s m args below meth c D A nL Q k n ad g tgt lv st) : qw_W p l e R s m args below meth c D A nL Q k n ad g pc lv (.int x :: st) := qr_if_gt C tgt hd ht (fun _ => kt) (fun z => absurd h z)
theorem qr_if_gt_f (C : qw_C p l s m args meth c D A nL cc own ret) {x : Int32} {off : Int} (tgt : Nat) (hd : decode cc pc = .ok (.ifCond .gt off, 3)) (ht : (pc : Int) + off = (tgt : Int)) (h : ¬ 0 < x) (kf : qw_W p l e R s m args below meth c D A nL Q k n ad g (pc + 3) lv st) : qw_W p l e R s m args below meth c D A nL Q k n ad g pc lv (.int x :: st) := qr_if_gt C tgt hd ht (fun z => absurd z h) (fun _ => kf)
theorem qr_icmp_gt_t (C : qw_C p l s m args meth c D A nL cc own ret) {x y : Int32} {off : Int} (tgt : Nat) (hd : decode cc pc = .ok (.if_icmp .gt off, 3)) (ht : (pc : Int) + off = (tgt : Int)) (h : y < x) (kt : qw_W p l e R s m args below meth c D A nL Q k n ad g tgt lv st) : qw_W p l e R s m args below meth c D A nL Q k n ad g pc lv (.int y :: .int x :: st) := qr_icmp_gt C tgt hd ht (fun _ => kt) (fun z => absurd h z)
theorem qr_icmp_gt_f (C : qw_C p l s m args meth c D A nL cc own ret) {x y : Int32} {off : Int} (tgt : Nat) (hd : decode cc pc = .ok (.if_icmp .gt off, 3)) (ht : (pc : Int) + off = (tgt : Int)) (h : ¬ y < x) (kf : qw_W p l e R s m args below meth c D A nL Q k n ad g (pc + 3) lv st) : qw_W p l e R s m args below meth c D A nL Q k n ad g pc lv (.int y :: .int x :: st) := qr_icmp_gt C tgt hd ht (fun z => absurd z h) (fun _ => kf)
theorem qr_if_le_t (C : qw_C p l s m args meth c D A nL cc own ret) {x : Int32} {off : Int} (tgt : Nat) (hd : decode cc pc = .ok (.ifCond .le off, 3)) (ht : (pc : Int) + off = (tgt : Int)) (h : x ≤ 0) (kt : qw_W p l e R s m args below meth c D A nL Q k n ad g tgt lv st) : qw_W p l e R s m args below meth c D A nL Q k n ad g pc lv (.int x :: st) := qr_if_le C tgt hd ht (fun _ => kt) (fun z => absurd h z)
theorem qr_if_le_f (C : qw_C p l s m args meth c D A nL cc own ret) {x : Int32} {off : Int} (tgt : Nat) (hd : decode cc pc = .ok (.ifCond .le off, 3)) (ht : (pc : Int) + off = (tgt : Int)) (h : ¬ x ≤ 0) (kf : qw_W p l e R s m args below meth c D A nL Q k n ad g (pc + 3) lv st) : qw_W p l e R s m args below meth c D A nL Q k n ad g pc lv (.int x :: st) := qr_if_le C tgt hd ht (fun z => absurd z h) (fun _ => kf)
theorem qr_icmp_le_t (C : qw_C p l s m args meth c D A nL cc own ret) {x y : Int32} {off : Int} (tgt : Nat) (hd : decode cc pc = .ok (.if_icmp .le off, 3)) (ht : (pc : Int) + off = (tgt : Int)) (h : x ≤ y) (kt : qw_W p l e R s m args below meth c D A nL Q k n ad g tgt lv st) : qw_W p l e R s m args below meth c D A nL Q k n ad g pc lv (.int y :: .int x :: st) := qr_icmp_le C tgt hd ht (fun _ => kt) (fun z => absurd h z)
theorem qr_icmp_le_f (C : qw_C p l s m args meth c D A nL cc own ret) {x y : Int32} {off : Int} (tgt : Nat) (hd : decode cc pc = .ok (.if_icmp .le off, 3)) (ht : (pc : Int) + off = (tgt : Int)) (h : ¬ x ≤ y) (kf : qw_W p l e R s m args below meth c D A nL Q k n ad g (pc + 3) lv st) : qw_W p l e R s m args below meth c D A nL Q k n ad g pc lv (.int y :: .int x :: st) := qr_icmp_le C tgt hd ht (fun z => absurd z h) (fun _ => kf)
end QWG
set_option maxRecDepth 20000 in
theorem gi_X0_9 : GoodIn qw_Ts [Cond.code yX6_contains cX6_contains 2 (some .boolean)] ∧ (Cond.methodLinkNest RX0 9 yX6_contains RX6) ∈ qw_Ts ∧ (Cond.initialized RX6) ∈ qw_Ts ∧ (Cond.static yX6_contains) ∈ qw_Ts := ⟨qw_gi (by decide +kernel), by decide +kernel⟩
set_option maxRecDepth 20000 in
theorem gi_X0_13 : GoodIn qw_Ts (va_wsS RX0 13 yX0_isOnRound [Cond.code yX0_isOnRound cX0_isOnRound 7 (some .boolean)]) := qw_gi (by decide +kernel)
set_option maxRecDepth 20000 in
theorem gi_X0_18 : GoodIn qw_Ts (va_wsS RX0 18 yX0_fewestCovers [Cond.code yX0_fewestCovers cX0_fewestCovers 8 (some .int)]) := qw_gi (by decide +kernel)
set_option maxRecDepth 20000 in
theorem gi_X0_22 : GoodIn qw_Ts (va_wsS RX0 22 yX0_columnsOf [Cond.code yX0_columnsOf cX0_columnsOf 2 (some .int)]) := qw_gi (by decide +kernel)
set_option maxRecDepth 20000 in
theorem gi_X0_25 : GoodIn qw_Ts (va_wsS RX0 25 yX0_cornersOf [Cond.code yX0_cornersOf cX0_cornersOf 6 (some .int)]) := qw_gi (by decide +kernel)
set_option maxRecDepth 20000 in
theorem gi_X0_29 : GoodIn qw_Ts (va_wsS RX0 29 yJ6_bitCount_0f7a4 [Cond.code yJ6_bitCount_0f7a4 cJ6_bitCount_0f7a4 1 (some .int)]) := qw_gi (by decide +kernel)
set_option maxRecDepth 20000 in
theorem gi_X2_16 : GoodIn qw_Ts (wsV RX2 16 RX2 yX2_write [Cond.code yX2_write cX2_write 6 none]) := qw_gi (by decide +kernel)
set_option maxRecDepth 20000 in
theorem gi_X2_20 : GoodIn qw_Ts (wsV RX2 20 RX2 yX2_solve [Cond.code yX2_solve cX2_solve 4 none]) := qw_gi (by decide +kernel)
set_option maxRecDepth 20000 in
theorem gi_X2_23 : GoodIn qw_Ts (wsV RX2 23 RX2 yX2_tellsOnly [Cond.code yX2_tellsOnly cX2_tellsOnly 4 (some .boolean)]) := qw_gi (by decide +kernel)
set_option maxRecDepth 20000 in
theorem gi_X2_27 : GoodIn qw_Ts [Cond.code yX6_contains cX6_contains 2 (some .boolean)] ∧ (Cond.methodLinkNest RX2 27 yX6_contains RX6) ∈ qw_Ts ∧ (Cond.initialized RX6) ∈ qw_Ts ∧ (Cond.static yX6_contains) ∈ qw_Ts := ⟨qw_gi (by decide +kernel), by decide +kernel⟩
set_option maxRecDepth 20000 in
theorem gi_X2_30 : GoodIn qw_Ts (wsV RX2 30 RX2 yX2_unspentWith [Cond.code yX2_unspentWith cX2_unspentWith 4 (some .int)]) := qw_gi (by decide +kernel)
set_option maxRecDepth 20000 in
theorem gi_X2_34 : GoodIn qw_Ts (wsV RX2 34 RX2 yX2_removeFromOthers [Cond.code yX2_removeFromOthers cX2_removeFromOthers 7 none]) := qw_gi (by decide +kernel)
set_option maxRecDepth 20000 in
theorem gi_X5_21 : GoodIn qw_Ts [Cond.code yX3_init cX3_init 1 none] ∧ (Cond.methodLinkNest RX5 21 yX3_init RX6) ∈ qw_Ts ∧ (Cond.initialized RX3) ∈ qw_Ts ∧ (Cond.instanceMethod yX3_init) ∈ qw_Ts := ⟨qw_gi (by decide +kernel), by decide +kernel⟩
set_option maxRecDepth 20000 in
theorem gi_X6_15 : GoodIn qw_Ts [Cond.code yX5_init cX5_init 2 none] ∧ (Cond.methodLinkNest RX6 15 yX5_init RX6) ∈ qw_Ts ∧ (Cond.initialized RX5) ∈ qw_Ts ∧ (Cond.instanceMethod yX5_init) ∈ qw_Ts := ⟨qw_gi (by decide +kernel), by decide +kernel⟩
set_option maxRecDepth 20000 in
theorem gi_X6_30 : GoodIn qw_Ts [Cond.code yX2_init cX2_init 1 none] ∧ (Cond.methodLinkNest RX6 30 yX2_init RX6) ∈ qw_Ts ∧ (Cond.initialized RX2) ∈ qw_Ts ∧ (Cond.instanceMethod yX2_init) ∈ qw_Ts := ⟨qw_gi (by decide +kernel), by decide +kernel⟩
set_option maxRecDepth 20000 in
theorem gi_X6_35 : GoodIn qw_Ts (wsV RX6 35 RX6 yX6_tableAt [Cond.code yX6_tableAt cX6_tableAt 2 (some (.object "Pivotforge$Table"))]) := qw_gi (by decide +kernel)
set_option maxRecDepth 20000 in
theorem gi_X6_60 : GoodIn qw_Ts [Cond.code yX4_init cX4_init 5 none] ∧ (Cond.methodLinkNest RX6 60 yX4_init RX6) ∈ qw_Ts ∧ (Cond.initialized RX4) ∈ qw_Ts ∧ (Cond.instanceMethod yX4_init) ∈ qw_Ts := ⟨qw_gi (by decide +kernel), by decide +kernel⟩
set_option maxRecDepth 20000 in
theorem gi_X6_63 : GoodIn qw_Ts [Cond.code yX5_enter cX5_enter 4 none] ∧ (Cond.methodLinkNest RX6 63 yX5_enter RX6) ∈ qw_Ts ∧ (Cond.initialized RX5) ∈ qw_Ts ∧ (Cond.instanceMethod yX5_enter) ∈ qw_Ts ∧ (Cond.selects RX5 yX5_enter yX5_enter) ∈ qw_Ts := ⟨qw_gi (by decide +kernel), by decide +kernel⟩
set_option maxRecDepth 20000 in
theorem gi_X6_70 : GoodIn qw_Ts (wsV RX6 70 RX6 yX6_dropBelow [Cond.code yX6_dropBelow cX6_dropBelow 4 none]) := qw_gi (by decide +kernel)
set_option maxRecDepth 20000 in
theorem gi_X6_97 : GoodIn qw_Ts (wsV RX6 97 RX6 yX6_entryOfTable [Cond.code yX6_entryOfTable cX6_entryOfTable 4 (some .int)]) := qw_gi (by decide +kernel)
set_option maxRecDepth 20000 in
theorem gi_X6_105 : GoodIn qw_Ts [Cond.code yX4_countsIn cX4_countsIn 4 (some .boolean)] ∧ (Cond.methodLinkNest RX6 105 yX4_countsIn RX6) ∈ qw_Ts ∧ (Cond.initialized RX4) ∈ qw_Ts ∧ (Cond.instanceMethod yX4_countsIn) ∈ qw_Ts ∧ (Cond.selects RX4 yX4_countsIn yX4_countsIn) ∈ qw_Ts := ⟨qw_gi (by decide +kernel), by decide +kernel⟩
set_option maxRecDepth 20000 in
theorem gi_X6_121 : GoodIn qw_Ts [Cond.code yX1_init cX1_init 5 none] ∧ (Cond.methodLinkNest RX6 121 yX1_init RX6) ∈ qw_Ts ∧ (Cond.initialized RX1) ∈ qw_Ts ∧ (Cond.instanceMethod yX1_init) ∈ qw_Ts := ⟨qw_gi (by decide +kernel), by decide +kernel⟩
set_option maxRecDepth 20000 in
theorem gi_X6_124 : GoodIn qw_Ts [Cond.code yX1_lastsAt cX1_lastsAt 2 (some .boolean)] ∧ (Cond.methodLinkNest RX6 124 yX1_lastsAt RX6) ∈ qw_Ts ∧ (Cond.initialized RX1) ∈ qw_Ts ∧ (Cond.instanceMethod yX1_lastsAt) ∈ qw_Ts ∧ (Cond.selects RX1 yX1_lastsAt yX1_lastsAt) ∈ qw_Ts := ⟨qw_gi (by decide +kernel), by decide +kernel⟩
set_option maxRecDepth 20000 in
theorem gi_X6_139 : GoodIn qw_Ts (va_wsS RX6 139 yX6_refuseStrangeLevel [Cond.code yX6_refuseStrangeLevel cX6_refuseStrangeLevel 1 none]) := qw_gi (by decide +kernel)
set_option maxRecDepth 20000 in
theorem gi_X6_143 : GoodIn qw_Ts (wsV RX6 143 RX6 yX6_embargoedFor [Cond.code yX6_embargoedFor cX6_embargoedFor 6 (some .int)]) := qw_gi (by decide +kernel)
set_option maxRecDepth 20000 in
theorem gi_X6_147 : GoodIn qw_Ts (va_wsS RX6 147 yX6_contains [Cond.code yX6_contains cX6_contains 2 (some .boolean)]) := qw_gi (by decide +kernel)
set_option maxRecDepth 20000 in
theorem gi_X6_156 : GoodIn qw_Ts (wsV RX6 156 RX6 yX6_reportAt [Cond.code yX6_reportAt cX6_reportAt 4 (some (.object "Pivotforge$Report"))]) := qw_gi (by decide +kernel)
set_option maxRecDepth 20000 in
theorem gi_X6_160 : GoodIn qw_Ts [Cond.code yX0_around cX0_around 3 (some .int)] ∧ (Cond.methodLinkNest RX6 160 yX0_around RX6) ∈ qw_Ts ∧ (Cond.initialized RX0) ∈ qw_Ts ∧ (Cond.static yX0_around) ∈ qw_Ts := ⟨qw_gi (by decide +kernel), by decide +kernel⟩
set_option maxRecDepth 20000 in
theorem gi_X6_166 : GoodIn qw_Ts [Cond.code yX3_fill cX3_fill 4 none] ∧ (Cond.methodLinkNest RX6 166 yX3_fill RX6) ∈ qw_Ts ∧ (Cond.initialized RX3) ∈ qw_Ts ∧ (Cond.instanceMethod yX3_fill) ∈ qw_Ts ∧ (Cond.selects RX3 yX3_fill yX3_fill) ∈ qw_Ts := ⟨qw_gi (by decide +kernel), by decide +kernel⟩
set_option maxRecDepth 20000 in
theorem gi_X6_175 : GoodIn qw_Ts (va_wsS RX6 175 yJ6_bitCount_0f7a4 [Cond.code yJ6_bitCount_0f7a4 cJ6_bitCount_0f7a4 1 (some .int)]) := qw_gi (by decide +kernel)
set_option maxRecDepth 20000 in
theorem gi_X6_195 : GoodIn qw_Ts (va_wsS RX6 195 yX6_entryAt [Cond.code yX6_entryAt cX6_entryAt 2 (some .int)]) := qw_gi (by decide +kernel)
set_option maxRecDepth 20000 in
theorem gi_X6_201 : GoodIn qw_Ts [Cond.code yX0_isOnRound cX0_isOnRound 7 (some .boolean)] ∧ (Cond.methodLinkNest RX6 201 yX0_isOnRound RX6) ∈ qw_Ts ∧ (Cond.initialized RX0) ∈ qw_Ts ∧ (Cond.static yX0_isOnRound) ∈ qw_Ts := ⟨qw_gi (by decide +kernel), by decide +kernel⟩
set_option maxRecDepth 20000 in
theorem gi_X6_204 : GoodIn qw_Ts [Cond.code yX2_determine cX2_determine 4 (some .boolean)] ∧ (Cond.methodLinkNest RX6 204 yX2_determine RX6) ∈ qw_Ts ∧ (Cond.initialized RX2) ∈ qw_Ts ∧ (Cond.instanceMethod yX2_determine) ∈ qw_Ts ∧ (Cond.selects RX2 yX2_determine yX2_determine) ∈ qw_Ts := ⟨qw_gi (by decide +kernel), by decide +kernel⟩
set_option maxRecDepth 20000 in
theorem gi_X7_57 : GoodIn qw_Ts (va_wsS RX7 57 yX7_in [Cond.code yX7_in cX7_in 3 (some .boolean)]) := qw_gi (by decide +kernel)
set_option maxRecDepth 20000 in
theorem gi_X7_61 : GoodIn qw_Ts (va_wsS RX7 61 yX7_isTable [Cond.code yX7_isTable cX7_isTable 1 (some .boolean)]) := qw_gi (by decide +kernel)
set_option maxRecDepth 20000 in
theorem gi_X7_65 : GoodIn qw_Ts (va_wsS RX7 65 yX7_isEntry [Cond.code yX7_isEntry cX7_isEntry 2 (some .boolean)]) := qw_gi (by decide +kernel)
set_option maxRecDepth 20000 in
theorem gi_X7_75 : GoodIn qw_Ts (wsV RX7 75 RX7 yX7_refused [Cond.code yX7_refused cX7_refused 2 (some .boolean)]) := qw_gi (by decide +kernel)
set_option maxRecDepth 20000 in
theorem gi_X7_78 : GoodIn qw_Ts (wsV RX7 78 RX7 yX7_drop [Cond.code yX7_drop cX7_drop 5 (some .int)]) := qw_gi (by decide +kernel)
set_option maxRecDepth 20000 in
theorem gi_X7_82 : GoodIn qw_Ts (wsV RX7 82 RX7 yX7_entryOf [Cond.code yX7_entryOf cX7_entryOf 6 (some .int)]) := qw_gi (by decide +kernel)
set_option maxRecDepth 20000 in
theorem gi_X7_86 : GoodIn qw_Ts (wsV RX7 86 RX7 yX7_sumOf [Cond.code yX7_sumOf cX7_sumOf 8 (some .int)]) := qw_gi (by decide +kernel)
set_option maxRecDepth 20000 in
theorem gi_X7_89 : GoodIn qw_Ts (wsV RX7 89 RX7 yX7_sum [Cond.code yX7_sum cX7_sum 5 (some .int)]) := qw_gi (by decide +kernel)
set_option maxRecDepth 20000 in
theorem gi_X7_98 : GoodIn qw_Ts (wsV RX7 98 RX7 yX7_lasts [Cond.code yX7_lasts cX7_lasts 2 (some .boolean)]) := qw_gi (by decide +kernel)
set_option maxRecDepth 20000 in
theorem gi_X7_101 : GoodIn qw_Ts (va_wsS RX7 101 yX7_isLevel [Cond.code yX7_isLevel cX7_isLevel 1 (some .boolean)]) := qw_gi (by decide +kernel)
set_option maxRecDepth 20000 in
theorem gi_X7_104 : GoodIn qw_Ts (wsV RX7 104 RX7 yX7_barred [Cond.code yX7_barred cX7_barred 5 (some .int)]) := qw_gi (by decide +kernel)
set_option maxRecDepth 20000 in
theorem gi_X7_107 : GoodIn qw_Ts (va_wsS RX7 107 yX7_isFound [Cond.code yX7_isFound cX7_isFound 9 (some .boolean)]) := qw_gi (by decide +kernel)
set_option maxRecDepth 20000 in
theorem gi_X7_110 : GoodIn qw_Ts (va_wsS RX7 110 yX7_covers [Cond.code yX7_covers cX7_covers 3 (some .int)]) := qw_gi (by decide +kernel)
set_option maxRecDepth 20000 in
theorem gi_X7_113 : GoodIn qw_Ts (va_wsS RX7 113 yX7_bits [Cond.code yX7_bits cX7_bits 3 (some .int)]) := qw_gi (by decide +kernel)
set_option maxRecDepth 20000 in
theorem gi_X7_117 : GoodIn qw_Ts (va_wsS RX7 117 yX7_areBoth [Cond.code yX7_areBoth cX7_areBoth 2 (some .boolean)]) := qw_gi (by decide +kernel)
set_option maxRecDepth 20000 in
theorem gi_X7_120 : GoodIn qw_Ts (va_wsS RX7 120 yX7_hidden [Cond.code yX7_hidden cX7_hidden 9 (some .int)]) := qw_gi (by decide +kernel)
set_option maxRecDepth 20000 in
theorem gi_X7_124 : GoodIn qw_Ts (wsV RX7 124 RX7 yX7_noEntry [Cond.code yX7_noEntry cX7_noEntry 3 (some .boolean)]) := qw_gi (by decide +kernel)
set_option maxRecDepth 20000 in
theorem gi_X7_130 : GoodIn qw_Ts (wsV RX7 130 RX7 yX7_isKnown [Cond.code yX7_isKnown cX7_isKnown 4 (some .boolean)]) := qw_gi (by decide +kernel)
set_option maxRecDepth 20000 in
theorem gi_L_7 : GoodIn qw_Ts (wsV RL 7 RX6 yX6_sale [Cond.code yX6_sale cX6_sale 7 (some .int)]) := qw_gi (by decide +kernel)
set_option maxRecDepth 20000 in
theorem gi_L_19 : GoodIn qw_Ts (wsV RL 19 RX6 yX6_takeBack [Cond.code yX6_takeBack cX6_takeBack 4 (some .int)]) := qw_gi (by decide +kernel)
set_option maxRecDepth 20000 in
theorem gi_L_23 : GoodIn qw_Ts (wsV RL 23 RX6 yX6_turn [Cond.code yX6_turn cX6_turn 3 (some .boolean)]) := qw_gi (by decide +kernel)
set_option maxRecDepth 20000 in
theorem gi_L_27 : GoodIn qw_Ts (wsV RL 27 RX6 yX6_sum [Cond.code yX6_sum cX6_sum 5 (some .int)]) := qw_gi (by decide +kernel)
set_option maxRecDepth 20000 in
theorem gi_L_31 : GoodIn qw_Ts (wsV RL 31 RX6 yX6_sumFromSales [Cond.code yX6_sumFromSales cX6_sumFromSales 7 (some .int)]) := qw_gi (by decide +kernel)
set_option maxRecDepth 20000 in
theorem gi_L_34 : GoodIn qw_Ts (wsV RL 34 RX6 yX6_embargo [Cond.code yX6_embargo cX6_embargo 8 (some .int)]) := qw_gi (by decide +kernel)
set_option maxRecDepth 20000 in
theorem gi_L_38 : GoodIn qw_Ts (wsV RL 38 RX6 yX6_lift [Cond.code yX6_lift cX6_lift 3 (some .int)]) := qw_gi (by decide +kernel)
set_option maxRecDepth 20000 in
theorem gi_L_41 : GoodIn qw_Ts (wsV RL 41 RX6 yX6_isEmbargoed [Cond.code yX6_isEmbargoed cX6_isEmbargoed 6 (some .boolean)]) := qw_gi (by decide +kernel)
set_option maxRecDepth 20000 in
theorem gi_L_45 : GoodIn qw_Ts (wsV RL 45 RX6 yX6_pass [Cond.code yX6_pass cX6_pass 6 (some .int)]) := qw_gi (by decide +kernel)
set_option maxRecDepth 20000 in
theorem gi_L_48 : GoodIn qw_Ts (wsV RL 48 RX6 yX6_build [Cond.code yX6_build cX6_build 5 (some .int)]) := qw_gi (by decide +kernel)
set_option maxRecDepth 20000 in
theorem gi_L_52 : GoodIn qw_Ts (wsV RL 52 RX6 yX6_isBuilt [Cond.code yX6_isBuilt cX6_isBuilt 3 (some .boolean)]) := qw_gi (by decide +kernel)
set_option maxRecDepth 20000 in
theorem gi_L_56 : GoodIn qw_Ts (wsV RL 56 RX6 yX6_shown [Cond.code yX6_shown cX6_shown 7 (some .int)]) := qw_gi (by decide +kernel)
set_option maxRecDepth 20000 in
theorem gi_L_59 : GoodIn qw_Ts (wsV RL 59 RX6 yX6_why [Cond.code yX6_why cX6_why 7 (some .int)]) := qw_gi (by decide +kernel)
set_option maxRecDepth 20000 in
theorem gi_L_62 : GoodIn qw_Ts (wsV RL 62 RX6 yX6_read [Cond.code yX6_read cX6_read 4 (some .int)]) := qw_gi (by decide +kernel)
set_option maxRecDepth 20000 in
theorem gi_L_65 : GoodIn qw_Ts (wsV RL 65 RX6 yX6_mark [Cond.code yX6_mark cX6_mark 4 (some .boolean)]) := qw_gi (by decide +kernel)
set_option maxRecDepth 20000 in
theorem gi_L_68 : GoodIn qw_Ts (wsV RL 68 RX6 yX6_isKnown [Cond.code yX6_isKnown cX6_isKnown 4 (some .boolean)]) := qw_gi (by decide +kernel)
set_option maxRecDepth 20000 in
theorem gi_L_71 : GoodIn qw_Ts (wsV RL 71 RX6 yX6_isKnownBySolving [Cond.code yX6_isKnownBySolving cX6_isKnownBySolving 4 (some .boolean)]) := qw_gi (by decide +kernel)
set_option maxRecDepth 20000 in
theorem gi_L_74 : GoodIn qw_Ts [Cond.code yX6_init cX6_init 2 none] ∧ (Cond.methodLink RL 74 yX6_init) ∈ qw_Ts ∧ (Cond.instanceMethod yX6_init) ∈ qw_Ts ∧ (Cond.initialized RX6) ∈ qw_Ts := ⟨qw_gi (by decide +kernel), by decide +kernel⟩
set_option maxRecDepth 20000 in
theorem gi_L_77 : GoodIn qw_Ts [Cond.code yX7_init cX7_init 1 none] ∧ (Cond.methodLink RL 77 yX7_init) ∈ qw_Ts ∧ (Cond.instanceMethod yX7_init) ∈ qw_Ts ∧ (Cond.initialized RX7) ∈ qw_Ts := ⟨qw_gi (by decide +kernel), by decide +kernel⟩
set_option maxRecDepth 20000 in
theorem gi_L_78 : GoodIn qw_Ts (va_wsS RL 78 yL_sale [Cond.codeWith yL_sale cL_sale 7 (some .int) [(0, 14, 17, 13), (0, 14, 21, 15), (0, 14, 25, 17)]]) := qw_gi (by decide +kernel)
set_option maxRecDepth 20000 in
theorem gi_L_83 : GoodIn qw_Ts (wsV RL 83 RX7 yX7_sale [Cond.code yX7_sale cX7_sale 7 (some .int)]) := qw_gi (by decide +kernel)
set_option maxRecDepth 20000 in
theorem gi_L_84 : GoodIn qw_Ts (wsV RL 84 RX7 yX7_thrown [Cond.code yX7_thrown cX7_thrown 1 (some .int)]) := qw_gi (by decide +kernel)
set_option maxRecDepth 20000 in
theorem gi_L_88 : GoodIn qw_Ts (va_wsS RL 88 yL_takeBack [Cond.codeWith yL_takeBack cL_takeBack 4 (some .int) [(0, 9, 12, 13), (0, 9, 15, 17)]]) := qw_gi (by decide +kernel)
set_option maxRecDepth 20000 in
theorem gi_L_91 : GoodIn qw_Ts (wsV RL 91 RX7 yX7_takeBack [Cond.code yX7_takeBack cX7_takeBack 3 (some .int)]) := qw_gi (by decide +kernel)
set_option maxRecDepth 20000 in
theorem gi_L_92 : GoodIn qw_Ts (va_wsS RL 92 yL_turn [Cond.codeWith yL_turn cL_turn 4 (some .int) [(0, 16, 19, 13)]]) := qw_gi (by decide +kernel)
set_option maxRecDepth 20000 in
theorem gi_L_94 : GoodIn qw_Ts (wsV RL 94 RX7 yX7_turn [Cond.code yX7_turn cX7_turn 2 (some .boolean)]) := qw_gi (by decide +kernel)
set_option maxRecDepth 20000 in
theorem gi_L_95 : GoodIn qw_Ts (va_wsS RL 95 yL_sum [Cond.codeWith yL_sum cL_sum 6 (some .int) [(0, 12, 15, 13)]]) := qw_gi (by decide +kernel)
set_option maxRecDepth 20000 in
theorem gi_L_98 : GoodIn qw_Ts (wsV RL 98 RX7 yX7_sum [Cond.code yX7_sum cX7_sum 5 (some .int)]) := qw_gi (by decide +kernel)
set_option maxRecDepth 20000 in
theorem gi_L_99 : GoodIn qw_Ts (va_wsS RL 99 yL_sumFromSales [Cond.codeWith yL_sumFromSales cL_sumFromSales 6 (some .int) [(0, 12, 15, 13)]]) := qw_gi (by decide +kernel)
set_option maxRecDepth 20000 in
theorem gi_L_101 : GoodIn qw_Ts (wsV RL 101 RX7 yX7_sumFromSales [Cond.code yX7_sumFromSales cX7_sumFromSales 4 (some .int)]) := qw_gi (by decide +kernel)
set_option maxRecDepth 20000 in
theorem gi_L_102 : GoodIn qw_Ts (va_wsS RL 102 yL_embargo [Cond.codeWith yL_embargo cL_embargo 8 (some .int) [(0, 16, 19, 13), (0, 16, 23, 15), (0, 16, 27, 17)]]) := qw_gi (by decide +kernel)
set_option maxRecDepth 20000 in
theorem gi_L_105 : GoodIn qw_Ts (wsV RL 105 RX7 yX7_embargo [Cond.code yX7_embargo cX7_embargo 8 (some .int)]) := qw_gi (by decide +kernel)
set_option maxRecDepth 20000 in
theorem gi_L_106 : GoodIn qw_Ts (va_wsS RL 106 yL_lift [Cond.codeWith yL_lift cL_lift 4 (some .int) [(0, 9, 12, 13), (0, 9, 15, 17)]]) := qw_gi (by decide +kernel)
set_option maxRecDepth 20000 in
theorem gi_L_108 : GoodIn qw_Ts (wsV RL 108 RX7 yX7_lift [Cond.code yX7_lift cX7_lift 3 (some .int)]) := qw_gi (by decide +kernel)
set_option maxRecDepth 20000 in
theorem gi_L_109 : GoodIn qw_Ts (va_wsS RL 109 yL_isEmbargoed [Cond.codeWith yL_isEmbargoed cL_isEmbargoed 7 (some .int) [(0, 21, 24, 13)]]) := qw_gi (by decide +kernel)
set_option maxRecDepth 20000 in
theorem gi_L_111 : GoodIn qw_Ts (wsV RL 111 RX7 yX7_isEmbargoed [Cond.code yX7_isEmbargoed cX7_isEmbargoed 6 (some .boolean)]) := qw_gi (by decide +kernel)
set_option maxRecDepth 20000 in
theorem gi_L_112 : GoodIn qw_Ts (va_wsS RL 112 yL_pass [Cond.codeWith yL_pass cL_pass 4 (some .int) [(0, 9, 12, 15), (0, 9, 15, 17)]]) := qw_gi (by decide +kernel)
set_option maxRecDepth 20000 in
theorem gi_L_114 : GoodIn qw_Ts (wsV RL 114 RX7 yX7_pass [Cond.code yX7_pass cX7_pass 5 (some .int)]) := qw_gi (by decide +kernel)
set_option maxRecDepth 20000 in
theorem gi_L_115 : GoodIn qw_Ts (va_wsS RL 115 yL_build [Cond.codeWith yL_build cL_build 5 (some .int) [(0, 10, 13, 13)]]) := qw_gi (by decide +kernel)
set_option maxRecDepth 20000 in
theorem gi_L_118 : GoodIn qw_Ts (wsV RL 118 RX7 yX7_build [Cond.code yX7_build cX7_build 4 (some .int)]) := qw_gi (by decide +kernel)
set_option maxRecDepth 20000 in
theorem gi_L_119 : GoodIn qw_Ts (va_wsS RL 119 yL_isBuilt [Cond.codeWith yL_isBuilt cL_isBuilt 5 (some .int) [(0, 17, 20, 13)]]) := qw_gi (by decide +kernel)
set_option maxRecDepth 20000 in
theorem gi_L_121 : GoodIn qw_Ts (wsV RL 121 RX7 yX7_isBuilt [Cond.code yX7_isBuilt cX7_isBuilt 3 (some .boolean)]) := qw_gi (by decide +kernel)
set_option maxRecDepth 20000 in
theorem gi_L_122 : GoodIn qw_Ts (va_wsS RL 122 yL_shown [Cond.codeWith yL_shown cL_shown 7 (some .int) [(0, 14, 17, 13), (0, 14, 21, 17)]]) := qw_gi (by decide +kernel)
set_option maxRecDepth 20000 in
theorem gi_L_124 : GoodIn qw_Ts (wsV RL 124 RX7 yX7_shown [Cond.code yX7_shown cX7_shown 7 (some .int)]) := qw_gi (by decide +kernel)
set_option maxRecDepth 20000 in
theorem gi_L_125 : GoodIn qw_Ts (va_wsS RL 125 yL_why [Cond.codeWith yL_why cL_why 7 (some .int) [(0, 14, 17, 13)]]) := qw_gi (by decide +kernel)
set_option maxRecDepth 20000 in
theorem gi_L_127 : GoodIn qw_Ts (wsV RL 127 RX7 yX7_why [Cond.code yX7_why cX7_why 7 (some .int)]) := qw_gi (by decide +kernel)
set_option maxRecDepth 20000 in
theorem gi_L_128 : GoodIn qw_Ts (va_wsS RL 128 yL_read [Cond.codeWith yL_read cL_read 5 (some .int) [(0, 10, 13, 13), (0, 10, 17, 17)]]) := qw_gi (by decide +kernel)
set_option maxRecDepth 20000 in
theorem gi_L_130 : GoodIn qw_Ts (wsV RL 130 RX7 yX7_read [Cond.code yX7_read cX7_read 6 (some .int)]) := qw_gi (by decide +kernel)
set_option maxRecDepth 20000 in
theorem gi_L_131 : GoodIn qw_Ts (wsV RL 131 RX6 yX6_dropped [Cond.code yX6_dropped cX6_dropped 1 (some .int)]) := qw_gi (by decide +kernel)
set_option maxRecDepth 20000 in
theorem gi_L_134 : GoodIn qw_Ts (wsV RL 134 RX7 yX7_dropped [Cond.code yX7_dropped cX7_dropped 1 (some .int)]) := qw_gi (by decide +kernel)
set_option maxRecDepth 20000 in
theorem gi_L_135 : GoodIn qw_Ts (va_wsS RL 135 yL_mark [Cond.codeWith yL_mark cL_mark 5 (some .int) [(0, 17, 20, 13)]]) := qw_gi (by decide +kernel)
set_option maxRecDepth 20000 in
theorem gi_L_137 : GoodIn qw_Ts (wsV RL 137 RX7 yX7_mark [Cond.code yX7_mark cX7_mark 3 (some .boolean)]) := qw_gi (by decide +kernel)
set_option maxRecDepth 20000 in
theorem gi_L_138 : GoodIn qw_Ts (wsV RL 138 RX6 yX6_clear [Cond.code yX6_clear cX6_clear 2 (some .int)]) := qw_gi (by decide +kernel)
set_option maxRecDepth 20000 in
theorem gi_L_141 : GoodIn qw_Ts (wsV RL 141 RX7 yX7_clear [Cond.code yX7_clear cX7_clear 2 (some .int)]) := qw_gi (by decide +kernel)
set_option maxRecDepth 20000 in
theorem gi_L_142 : GoodIn qw_Ts (va_wsS RL 142 yL_isKnown [Cond.codeWith yL_isKnown cL_isKnown 5 (some .int) [(0, 17, 20, 13)]]) := qw_gi (by decide +kernel)
set_option maxRecDepth 20000 in
theorem gi_L_144 : GoodIn qw_Ts (wsV RL 144 RX7 yX7_isKnown [Cond.code yX7_isKnown cX7_isKnown 4 (some .boolean)]) := qw_gi (by decide +kernel)
set_option maxRecDepth 20000 in
theorem gi_L_145 : GoodIn qw_Ts (va_wsS RL 145 yL_isKnownBySolving [Cond.codeWith yL_isKnownBySolving cL_isKnownBySolving 5 (some .int) [(0, 17, 20, 13)]]) := qw_gi (by decide +kernel)
set_option maxRecDepth 20000 in
theorem gi_L_147 : GoodIn qw_Ts (wsV RL 147 RX7 yX7_isKnownBySolving [Cond.code yX7_isKnownBySolving cX7_isKnownBySolving 3 (some .boolean)]) := qw_gi (by decide +kernel)
set_option maxRecDepth 20000 in
theorem gi_L_148 : GoodIn qw_Ts (wsV RL 148 RX6 yX6_cover [Cond.code yX6_cover cX6_cover 2 (some .int)]) := qw_gi (by decide +kernel)
set_option maxRecDepth 20000 in
theorem gi_L_151 : GoodIn qw_Ts (wsV RL 151 RX7 yX7_cover [Cond.code yX7_cover cX7_cover 2 (some .int)]) := qw_gi (by decide +kernel)
set_option maxRecDepth 20000 in
theorem go_X1 : (Cond.methodLink RX1 1 objectInit) ∈ qw_Ts ∧ (Cond.instanceMethod objectInit) ∈ qw_Ts ∧ (Cond.code objectInit ⟨#[0xb1]⟩ 1 none) ∈ qw_Ts := by decide +kernel
set_option maxRecDepth 20000 in
theorem go_X2 : (Cond.methodLink RX2 3 objectInit) ∈ qw_Ts ∧ (Cond.instanceMethod objectInit) ∈ qw_Ts ∧ (Cond.code objectInit ⟨#[0xb1]⟩ 1 none) ∈ qw_Ts := by decide +kernel
set_option maxRecDepth 20000 in
theorem go_X3 : (Cond.methodLink RX3 3 objectInit) ∈ qw_Ts ∧ (Cond.instanceMethod objectInit) ∈ qw_Ts ∧ (Cond.code objectInit ⟨#[0xb1]⟩ 1 none) ∈ qw_Ts := by decide +kernel
set_option maxRecDepth 20000 in
theorem go_X4 : (Cond.methodLink RX4 3 objectInit) ∈ qw_Ts ∧ (Cond.instanceMethod objectInit) ∈ qw_Ts ∧ (Cond.code objectInit ⟨#[0xb1]⟩ 1 none) ∈ qw_Ts := by decide +kernel
set_option maxRecDepth 20000 in
theorem go_X5 : (Cond.methodLink RX5 3 objectInit) ∈ qw_Ts ∧ (Cond.instanceMethod objectInit) ∈ qw_Ts ∧ (Cond.code objectInit ⟨#[0xb1]⟩ 1 none) ∈ qw_Ts := by decide +kernel
set_option maxRecDepth 20000 in
theorem go_X6 : (Cond.methodLink RX6 1 objectInit) ∈ qw_Ts ∧ (Cond.instanceMethod objectInit) ∈ qw_Ts ∧ (Cond.code objectInit ⟨#[0xb1]⟩ 1 none) ∈ qw_Ts := by decide +kernel
set_option maxRecDepth 20000 in
theorem go_X7 : (Cond.methodLink RX7 1 objectInit) ∈ qw_Ts ∧ (Cond.instanceMethod objectInit) ∈ qw_Ts ∧ (Cond.code objectInit ⟨#[0xb1]⟩ 1 none) ∈ qw_Ts := by decide +kernel
set_option maxRecDepth 20000 in
theorem gA_int : (Cond.arrayClass .int) ∈ qw_Ts := by decide +kernel
set_option maxRecDepth 20000 in
theorem gA_boolean : (Cond.arrayClass .boolean) ∈ qw_Ts := by decide +kernel
set_option maxRecDepth 20000 in
theorem gA_long : (Cond.arrayClass .long) ∈ qw_Ts := by decide +kernel
set_option maxRecDepth 20000 in
theorem gc_X2_11 : (Cond.classLink RX2 11 ("[" ++ (FieldType.array .int).toString)) ∈ qw_Ts := by decide +kernel
set_option maxRecDepth 20000 in
theorem gc_X5_15 : (Cond.classLink RX5 15 RX3) ∈ qw_Ts := by decide +kernel
set_option maxRecDepth 20000 in
theorem gc_X6_9 : (Cond.classLink RX6 9 RX5) ∈ qw_Ts := by decide +kernel
set_option maxRecDepth 20000 in
theorem gc_X6_16 : (Cond.classLink RX6 16 RX4) ∈ qw_Ts := by decide +kernel
set_option maxRecDepth 20000 in
theorem gc_X6_22 : (Cond.classLink RX6 22 RX1) ∈ qw_Ts := by decide +kernel
set_option maxRecDepth 20000 in
theorem gc_X6_28 : (Cond.classLink RX6 28 RX2) ∈ qw_Ts ∧ (Cond.instantiable RX2 1) ∈ qw_Ts ∧ (Cond.initialized RX2) ∈ qw_Ts := by decide +kernel
set_option maxRecDepth 20000 in
theorem gc_L_8 : (Cond.classLink RL 8 RX6) ∈ qw_Ts ∧ (Cond.instantiable RX6 9) ∈ qw_Ts ∧ (Cond.initialized RX6) ∈ qw_Ts := by decide +kernel
set_option maxRecDepth 20000 in
theorem gc_L_75 : (Cond.classLink RL 75 RX7) ∈ qw_Ts ∧ (Cond.instantiable RX7 20) ∈ qw_Ts ∧ (Cond.initialized RX7) ∈ qw_Ts := by decide +kernel
set_option maxRecDepth 20000 in
theorem gy_copy : (Cond.methodLink RX3 20 arraycopyName) ∈ qw_Ts ∧ (Cond.native arraycopyName) ∈ qw_Ts ∧ (Cond.static arraycopyName) ∈ qw_Ts ∧ (Cond.initialized "java/lang/System") ∈ qw_Ts := by decide +kernel
set_option maxRecDepth 20000 in
theorem gk_bits : (Cond.constant RJ6 265 1431655765) ∈ qw_Ts ∧ (Cond.constant RJ6 266 858993459) ∈ qw_Ts ∧ (Cond.constant RJ6 267 252645135) ∈ qw_Ts := by decide +kernel
