/-! pure: counting bits -/
theorem bc_dig {a m : Nat} (y M : Nat) (ha : a < 256) (hm : m < 256) : (a + 256 * y) &&& (m + 256 * M) = (a &&& m) + 256 * (y &&& M) := by
  have h1 : ((a + 256 * y) &&& (m + 256 * M)) % 2 ^ 8 = ((a + 256 * y) % 2 ^ 8) &&& ((m + 256 * M) % 2 ^ 8) := Nat.and_mod_two_pow
  have h2 : ((a + 256 * y) &&& (m + 256 * M)) / 2 ^ 8 = ((a + 256 * y) / 2 ^ 8) &&& ((m + 256 * M) / 2 ^ 8) := Nat.and_div_two_pow
  rw [show (a + 256 * y) % 2 ^ 8 = a by omega, show (m + 256 * M) % 2 ^ 8 = m by omega] at h1
  rw [show (a + 256 * y) / 2 ^ 8 = y by omega, show (m + 256 * M) / 2 ^ 8 = M by omega] at h2
  rw [← Nat.mod_add_div ((a + 256 * y) &&& (m + 256 * M)) (2 ^ 8), h1, h2]
def bw (a b c d : Nat) : Nat := a + 256 * (b + 256 * (c + 256 * d))
theorem bw_and {a b c d : Nat} (m : Nat) (ha : a < 256) (hb : b < 256) (hc : c < 256) (hm : m < 256) : bw a b c d &&& bw m m m m = bw (a &&& m) (b &&& m) (c &&& m) (d &&& m) := by
  unfold bw
  rw [bc_dig _ _ ha hm, bc_dig _ _ hb hm, bc_dig _ _ hc hm]
theorem bw_of (n : Nat) (h : n < 2 ^ 32) : ∃ a b c d, a < 256 ∧ b < 256 ∧ c < 256 ∧ d < 256 ∧ n = bw a b c d := ⟨n % 256, n / 256 % 256, n / 65536 % 256, n / 16777216, by omega, by omega, by omega, by omega, by unfold bw; omega⟩
def bh1 (a : Nat) : Nat := a - ((a / 2) &&& 85)
def bh2 (a : Nat) : Nat := (a &&& 51) + ((a / 4) &&& 51)
def bh3 (a : Nat) : Nat := a % 16 + a / 16
def bp (a : Nat) : Nat := a % 2 + a / 2 % 2 + a / 4 % 2 + a / 8 % 2 + a / 16 % 2 + a / 32 % 2 + a / 64 % 2 + a / 128 % 2
theorem bd1 : ∀ (a : Fin 256) (c : Fin 2), (a.1 / 2 + 128 * c.1) &&& 85 = (a.1 / 2) &&& 85 := by decide +kernel
theorem bd1b : ∀ (a : Fin 256), (a.1 / 2) &&& 85 ≤ a.1 := by decide +kernel
theorem bd2 : ∀ (a : Fin 256) (c : Fin 4), (a.1 / 4 + 64 * c.1) &&& 51 = (a.1 / 4) &&& 51 := by decide +kernel
theorem bd2b : ∀ (a : Fin 256), bh2 (bh1 a.1) % 16 ≤ 4 ∧ bh2 (bh1 a.1) / 16 ≤ 4 ∧ bh1 a.1 < 256 ∧ (bh1 a.1 / 4 &&& 51) + (bh1 a.1 &&& 51) < 256 := by decide +kernel
theorem bd3 : ∀ (a : Fin 137), a.1 &&& 15 = a.1 % 16 := by decide +kernel
theorem bd4 : ∀ (a : Fin 256), bh3 (bh2 (bh1 a.1)) = bp a.1 := by decide +kernel
theorem bd5 : ∀ (a : Fin 256), bp a.1 ≤ 8 := by decide +kernel
def nN (x : Int32) : Nat := x.toBitVec.toNat
theorem nN_lt (x : Int32) : nN x < 2 ^ 32 := x.toBitVec.isLt
theorem nN_and (x y : Int32) : nN (x &&& y) = nN x &&& nN y := by unfold nN; rw [Int32.toBitVec_and, BitVec.toNat_and]
theorem nN_add (x y : Int32) : nN (x + y) = (nN x + nN y) % 2 ^ 32 := by unfold nN; rw [Int32.toBitVec_add, BitVec.toNat_add]
theorem nN_sub (x y : Int32) : nN (x - y) = (2 ^ 32 - nN y + nN x) % 2 ^ 32 := by unfold nN; rw [Int32.toBitVec_sub, BitVec.toNat_sub]
theorem bc_1 (x : Int32) {a b c d : Nat} (ha : a < 256) (hb : b < 256) (hc : c < 256) (hd : d < 256) (h : nN x = bw a b c d) : nN (sg_bc1 x) = bw (bh1 a) (bh1 b) (bh1 c) (bh1 d) := by
  unfold sg_bc1
  have e : nN (x.toUInt32 >>> ((1 : Int32).toUInt32 &&& Int32.toUInt32 31)).toInt32 = bw a b c d / 2 ^ 1 := by rw [← h]; exact pk_ushr x 1 1 (by decide)
  have e2 : bw a b c d / 2 ^ 1 = bw (a / 2 + 128 * (b % 2)) (b / 2 + 128 * (c % 2)) (c / 2 + 128 * (d % 2)) (d / 2) := by unfold bw; omega
  have e3 : nN 1431655765 = bw 85 85 85 85 := by decide
  rw [nN_sub, nN_and, e, e2, e3, bw_and 85 (by omega) (by omega) (by omega) (by omega), h, bd1 ⟨a, ha⟩ ⟨b % 2, by omega⟩, bd1 ⟨b, hb⟩ ⟨c % 2, by omega⟩, bd1 ⟨c, hc⟩ ⟨d % 2, by omega⟩]
  have f1 := bd1b ⟨a, ha⟩
  have f2 := bd1b ⟨b, hb⟩
  have f3 := bd1b ⟨c, hc⟩
  have f4 := bd1b ⟨d, hd⟩
  unfold bh1 bw
  simp only at f1 f2 f3 f4
  generalize (a / 2) &&& 85 = a' at *
  generalize (b / 2) &&& 85 = b' at *
  generalize (c / 2) &&& 85 = c' at *
  generalize (d / 2) &&& 85 = d' at *
  omega
theorem bc_2 (x : Int32) {a b c d : Nat} (ha : a < 256) (hb : b < 256) (hc : c < 256) (hd : d < 256) (h : nN x = bw a b c d) (ha2 : (a / 4 &&& 51) + (a &&& 51) < 256) (hb2 : (b / 4 &&& 51) + (b &&& 51) < 256) (hc2 : (c / 4 &&& 51) + (c &&& 51) < 256) (hd2 : (d / 4 &&& 51) + (d &&& 51) < 256) : nN (sg_bc2 x) = bw (bh2 a) (bh2 b) (bh2 c) (bh2 d) := by
  unfold sg_bc2
  have e : nN (x.toUInt32 >>> ((2 : Int32).toUInt32 &&& Int32.toUInt32 31)).toInt32 = bw a b c d / 2 ^ 2 := by rw [← h]; exact pk_ushr x 2 2 (by decide)
  have e2 : bw a b c d / 2 ^ 2 = bw (a / 4 + 64 * (b % 4)) (b / 4 + 64 * (c % 4)) (c / 4 + 64 * (d % 4)) (d / 4) := by unfold bw; omega
  have e3 : nN 858993459 = bw 51 51 51 51 := by decide
  rw [nN_add, nN_and, nN_and, e, e2, e3, h, bw_and 51 (by omega) (by omega) (by omega) (by omega), bw_and 51 (by omega) (by omega) (by omega) (by omega), bd2 ⟨a, ha⟩ ⟨b % 4, by omega⟩, bd2 ⟨b, hb⟩ ⟨c % 4, by omega⟩, bd2 ⟨c, hc⟩ ⟨d % 4, by omega⟩]
  unfold bh2 bw
  generalize (a / 4) &&& 51 = a' at *
  generalize (b / 4) &&& 51 = b' at *
  generalize (c / 4) &&& 51 = c' at *
  generalize (d / 4) &&& 51 = d' at *
  generalize a &&& 51 = a2 at *
  generalize b &&& 51 = b2 at *
  generalize c &&& 51 = c2 at *
  generalize d &&& 51 = d2 at *
  omega
theorem bc_3 (x : Int32) {a b c d : Nat} (h : nN x = bw a b c d) (ha : a % 16 ≤ 4) (ha2 : a / 16 ≤ 4) (hb : b % 16 ≤ 4) (hb2 : b / 16 ≤ 4) (hc : c % 16 ≤ 4) (hc2 : c / 16 ≤ 4) (hd : d % 16 ≤ 4) (hd2 : d / 16 ≤ 4) : nN (sg_bc3 x) = bw (bh3 a) (bh3 b) (bh3 c) (bh3 d) := by
  unfold sg_bc3
  have e : nN (x.toUInt32 >>> ((4 : Int32).toUInt32 &&& Int32.toUInt32 31)).toInt32 = bw a b c d / 2 ^ 4 := by rw [← h]; exact pk_ushr x 4 4 (by decide)
  have e2 : (bw a b c d + bw a b c d / 2 ^ 4) % 2 ^ 32 = bw (a + a / 16 + 16 * (b % 16)) (b + b / 16 + 16 * (c % 16)) (c + c / 16 + 16 * (d % 16)) (d + d / 16) := by unfold bw; omega
  have e3 : nN 252645135 = bw 15 15 15 15 := by decide
  rw [nN_and, nN_add, e, h, e2, e3, bw_and 15 (by omega) (by omega) (by omega) (by omega), bd3 ⟨a + a / 16 + 16 * (b % 16), by omega⟩, bd3 ⟨b + b / 16 + 16 * (c % 16), by omega⟩, bd3 ⟨c + c / 16 + 16 * (d % 16), by omega⟩, bd3 ⟨d + d / 16, by omega⟩]
  have r1 : (a + a / 16 + 16 * (b % 16)) % 16 = bh3 a := by unfold bh3; omega
  have r2 : (b + b / 16 + 16 * (c % 16)) % 16 = bh3 b := by unfold bh3; omega
  have r3 : (c + c / 16 + 16 * (d % 16)) % 16 = bh3 c := by unfold bh3; omega
  have r4 : (d + d / 16) % 16 = bh3 d := by unfold bh3; omega
  simp only
  rw [r1, r2, r3, r4]
theorem bc_45 (x : Int32) {a b c d : Nat} (ha : a ≤ 8) (hb : b ≤ 8) (hc : c ≤ 8) (hd : d ≤ 8) (h : nN x = bw a b c d) : nN (sg_bc5 (sg_bc4 x) &&& 63) = a + b + c + d := by
  have e4 : nN (sg_bc4 x) = bw (a + b) (b + c) (c + d) d := by
    unfold sg_bc4
    have e : nN (x.toUInt32 >>> ((8 : Int32).toUInt32 &&& Int32.toUInt32 31)).toInt32 = bw a b c d / 2 ^ 8 := by rw [← h]; exact pk_ushr x 8 8 (by decide)
    have e2 : bw a b c d / 2 ^ 8 = bw b c d 0 := by unfold bw; omega
    rw [nN_add, e, h, e2, Nat.mod_eq_of_lt (by unfold bw; omega)]
    unfold bw; omega
  have e5 : nN (sg_bc5 (sg_bc4 x)) = bw (a + b + (c + d)) (b + c + d) (c + d) d := by
    unfold sg_bc5
    have e : nN ((sg_bc4 x).toUInt32 >>> ((16 : Int32).toUInt32 &&& Int32.toUInt32 31)).toInt32 = bw (a + b) (b + c) (c + d) d / 2 ^ 16 := by rw [← e4]; exact pk_ushr _ 16 16 (by decide)
    have e2 : bw (a + b) (b + c) (c + d) d / 2 ^ 16 = bw (c + d) d 0 0 := by unfold bw; omega
    rw [nN_add, e, e4, e2, Nat.mod_eq_of_lt (by unfold bw; omega)]
    unfold bw; omega
  rw [nN_and, e5, show nN 63 = 2 ^ 6 - 1 from by decide, Nat.and_two_pow_sub_one_eq_mod]
  unfold bw; omega
theorem bc_all (x : Int32) {a b c d : Nat} (ha : a < 256) (hb : b < 256) (hc : c < 256) (hd : d < 256) (h : nN x = bw a b c d) : nN (sg_bc x) = bp a + bp b + bp c + bp d := by
  have fa := bd2b ⟨a, ha⟩
  have fb := bd2b ⟨b, hb⟩
  have fc := bd2b ⟨c, hc⟩
  have fd := bd2b ⟨d, hd⟩
  have h1 := bc_1 x ha hb hc hd h
  have h2 := bc_2 _ fa.2.2.1 fb.2.2.1 fc.2.2.1 fd.2.2.1 h1 fa.2.2.2 fb.2.2.2 fc.2.2.2 fd.2.2.2
  have h3 := bc_3 _ h2 fa.1 fa.2.1 fb.1 fb.2.1 fc.1 fc.2.1 fd.1 fd.2.1
  rw [bd4 ⟨a, ha⟩, bd4 ⟨b, hb⟩, bd4 ⟨c, hc⟩, bd4 ⟨d, hd⟩] at h3
  exact bc_45 _ (bd5 ⟨a, ha⟩) (bd5 ⟨b, hb⟩) (bd5 ⟨c, hc⟩) (bd5 ⟨d, hd⟩) h3
theorem qb_nat (x : Int32) (k : Nat) : qb x k = decide (nN x / 2 ^ k % 2 = 1) := by
  unfold qb nN
  rw [← BitVec.testBit_toNat, Nat.testBit_eq_decide_div_mod_eq]
theorem sm_bits_n (x : Int32) : ∀ n, n ≤ 32 → sg_it (fun k n => n + sm_bit x (nI k)) 0 n = nI (sg_it (fun k s => s + nN x / 2 ^ k % 2) 0 n)
  | 0, _ => rfl
  | n + 1, h => by
    show sg_it (fun k n => n + sm_bit x (nI k)) 0 n + sm_bit x (nI n) = nI (sg_it (fun k s => s + nN x / 2 ^ k % 2) 0 n + nN x / 2 ^ n % 2)
    rw [sm_bits_n x n (by omega), qb_bit (by omega), qb_nat, ← nI_add]
    congr 1
    rcases Nat.mod_two_eq_zero_or_one (nN x / 2 ^ n) with q | q <;> rw [q] <;> rfl
theorem qb_lt30 {x : Int32} (h : ∀ k, 30 ≤ k → qb x k = false) : nN x < 2 ^ 30 := by
  have h0 := h 30 (by omega)
  have h1 := h 31 (by omega)
  rw [qb_nat] at h0 h1
  have := nN_lt x
  simp at h0 h1
  omega
theorem bf_0 {a b c d : Nat} (ha : a < 256) (hb : b < 256) (hc : c < 256) : bw a b c d / 1 % 2 = a / 1 % 2 := by unfold bw; omega
theorem bf_1 {a b c d : Nat} (ha : a < 256) (hb : b < 256) (hc : c < 256) : bw a b c d / 2 % 2 = a / 2 % 2 := by unfold bw; omega
theorem bf_2 {a b c d : Nat} (ha : a < 256) (hb : b < 256) (hc : c < 256) : bw a b c d / 4 % 2 = a / 4 % 2 := by unfold bw; omega
theorem bf_3 {a b c d : Nat} (ha : a < 256) (hb : b < 256) (hc : c < 256) : bw a b c d / 8 % 2 = a / 8 % 2 := by unfold bw; omega
theorem bf_4 {a b c d : Nat} (ha : a < 256) (hb : b < 256) (hc : c < 256) : bw a b c d / 16 % 2 = a / 16 % 2 := by unfold bw; omega
theorem bf_5 {a b c d : Nat} (ha : a < 256) (hb : b < 256) (hc : c < 256) : bw a b c d / 32 % 2 = a / 32 % 2 := by unfold bw; omega
theorem bf_6 {a b c d : Nat} (ha : a < 256) (hb : b < 256) (hc : c < 256) : bw a b c d / 64 % 2 = a / 64 % 2 := by unfold bw; omega
theorem bf_7 {a b c d : Nat} (ha : a < 256) (hb : b < 256) (hc : c < 256) : bw a b c d / 128 % 2 = a / 128 % 2 := by unfold bw; omega
theorem bf_8 {a b c d : Nat} (ha : a < 256) (hb : b < 256) (hc : c < 256) : bw a b c d / 256 % 2 = b / 1 % 2 := by unfold bw; omega
theorem bf_9 {a b c d : Nat} (ha : a < 256) (hb : b < 256) (hc : c < 256) : bw a b c d / 512 % 2 = b / 2 % 2 := by unfold bw; omega
theorem bf_10 {a b c d : Nat} (ha : a < 256) (hb : b < 256) (hc : c < 256) : bw a b c d / 1024 % 2 = b / 4 % 2 := by unfold bw; omega
theorem bf_11 {a b c d : Nat} (ha : a < 256) (hb : b < 256) (hc : c < 256) : bw a b c d / 2048 % 2 = b / 8 % 2 := by unfold bw; omega
theorem bf_12 {a b c d : Nat} (ha : a < 256) (hb : b < 256) (hc : c < 256) : bw a b c d / 4096 % 2 = b / 16 % 2 := by unfold bw; omega
theorem bf_13 {a b c d : Nat} (ha : a < 256) (hb : b < 256) (hc : c < 256) : bw a b c d / 8192 % 2 = b / 32 % 2 := by unfold bw; omega
theorem bf_14 {a b c d : Nat} (ha : a < 256) (hb : b < 256) (hc : c < 256) : bw a b c d / 16384 % 2 = b / 64 % 2 := by unfold bw; omega
theorem bf_15 {a b c d : Nat} (ha : a < 256) (hb : b < 256) (hc : c < 256) : bw a b c d / 32768 % 2 = b / 128 % 2 := by unfold bw; omega
theorem bf_16 {a b c d : Nat} (ha : a < 256) (hb : b < 256) (hc : c < 256) : bw a b c d / 65536 % 2 = c / 1 % 2 := by unfold bw; omega
theorem bf_17 {a b c d : Nat} (ha : a < 256) (hb : b < 256) (hc : c < 256) : bw a b c d / 131072 % 2 = c / 2 % 2 := by unfold bw; omega
theorem bf_18 {a b c d : Nat} (ha : a < 256) (hb : b < 256) (hc : c < 256) : bw a b c d / 262144 % 2 = c / 4 % 2 := by unfold bw; omega
theorem bf_19 {a b c d : Nat} (ha : a < 256) (hb : b < 256) (hc : c < 256) : bw a b c d / 524288 % 2 = c / 8 % 2 := by unfold bw; omega
theorem bf_20 {a b c d : Nat} (ha : a < 256) (hb : b < 256) (hc : c < 256) : bw a b c d / 1048576 % 2 = c / 16 % 2 := by unfold bw; omega
theorem bf_21 {a b c d : Nat} (ha : a < 256) (hb : b < 256) (hc : c < 256) : bw a b c d / 2097152 % 2 = c / 32 % 2 := by unfold bw; omega
theorem bf_22 {a b c d : Nat} (ha : a < 256) (hb : b < 256) (hc : c < 256) : bw a b c d / 4194304 % 2 = c / 64 % 2 := by unfold bw; omega
theorem bf_23 {a b c d : Nat} (ha : a < 256) (hb : b < 256) (hc : c < 256) : bw a b c d / 8388608 % 2 = c / 128 % 2 := by unfold bw; omega
theorem bf_24 {a b c d : Nat} (ha : a < 256) (hb : b < 256) (hc : c < 256) : bw a b c d / 16777216 % 2 = d / 1 % 2 := by unfold bw; omega
theorem bf_25 {a b c d : Nat} (ha : a < 256) (hb : b < 256) (hc : c < 256) : bw a b c d / 33554432 % 2 = d / 2 % 2 := by unfold bw; omega
theorem bf_26 {a b c d : Nat} (ha : a < 256) (hb : b < 256) (hc : c < 256) : bw a b c d / 67108864 % 2 = d / 4 % 2 := by unfold bw; omega
theorem bf_27 {a b c d : Nat} (ha : a < 256) (hb : b < 256) (hc : c < 256) : bw a b c d / 134217728 % 2 = d / 8 % 2 := by unfold bw; omega
theorem bf_28 {a b c d : Nat} (ha : a < 256) (hb : b < 256) (hc : c < 256) : bw a b c d / 268435456 % 2 = d / 16 % 2 := by unfold bw; omega
theorem bf_29 {a b c d : Nat} (ha : a < 256) (hb : b < 256) (hc : c < 256) : bw a b c d / 536870912 % 2 = d / 32 % 2 := by unfold bw; omega
set_option maxHeartbeats 4000000 in
theorem bc_bits {x : Int32} (h : ∀ k, 30 ≤ k → qb x k = false) : sg_bc x = sm_bits x := by
  have hl := qb_lt30 h
  obtain ⟨a, b, c, d, ha, hb, hc, hd, he⟩ := bw_of (nN x) (nN_lt x)
  have hB := bc_all x ha hb hc hd he
  have e : sg_bc x = nI (bp a + bp b + bp c + bp d) := by
    apply Int32.toBitVec_inj.mp
    apply BitVec.eq_of_toNat_eq
    rw [← hB]
    show nN (sg_bc x) = nN (sg_bc x) % 2 ^ 32
    rw [Nat.mod_eq_of_lt (nN_lt _)]
  rw [e]
  unfold sm_bits
  rw [sm_bits_n x 30 (by omega), he]
  congr 1
  rw [he] at hl
  have hd2 : d < 64 := by unfold bw at hl; omega
  show _ = 0 + bw a b c d / 1 % 2 + bw a b c d / 2 % 2 + bw a b c d / 4 % 2 + bw a b c d / 8 % 2 + bw a b c d / 16 % 2 + bw a b c d / 32 % 2 + bw a b c d / 64 % 2 + bw a b c d / 128 % 2 + bw a b c d / 256 % 2 + bw a b c d / 512 % 2 + bw a b c d / 1024 % 2 + bw a b c d / 2048 % 2 + bw a b c d / 4096 % 2 + bw a b c d / 8192 % 2 + bw a b c d / 16384 % 2 + bw a b c d / 32768 % 2 + bw a b c d / 65536 % 2 + bw a b c d / 131072 % 2 + bw a b c d / 262144 % 2 + bw a b c d / 524288 % 2 + bw a b c d / 1048576 % 2 + bw a b c d / 2097152 % 2 + bw a b c d / 4194304 % 2 + bw a b c d / 8388608 % 2 + bw a b c d / 16777216 % 2 + bw a b c d / 33554432 % 2 + bw a b c d / 67108864 % 2 + bw a b c d / 134217728 % 2 + bw a b c d / 268435456 % 2 + bw a b c d / 536870912 % 2
  rw [bf_0 ha hb hc, bf_1 ha hb hc, bf_2 ha hb hc, bf_3 ha hb hc, bf_4 ha hb hc, bf_5 ha hb hc, bf_6 ha hb hc, bf_7 ha hb hc, bf_8 ha hb hc, bf_9 ha hb hc, bf_10 ha hb hc, bf_11 ha hb hc, bf_12 ha hb hc, bf_13 ha hb hc, bf_14 ha hb hc, bf_15 ha hb hc, bf_16 ha hb hc, bf_17 ha hb hc, bf_18 ha hb hc, bf_19 ha hb hc, bf_20 ha hb hc, bf_21 ha hb hc, bf_22 ha hb hc, bf_23 ha hb hc, bf_24 ha hb hc, bf_25 ha hb hc, bf_26 ha hb hc, bf_27 ha hb hc, bf_28 ha hb hc, bf_29 ha hb hc]
  unfold bp
  have g1 : d / 64 = 0 := by omega
  have g2 : d / 128 = 0 := by omega
  rw [g1, g2]
  generalize a / 2 % 2 = a1
  generalize a / 4 % 2 = a2
  generalize a / 8 % 2 = a3
  generalize a / 16 % 2 = a4
  generalize a / 32 % 2 = a5
  generalize a / 64 % 2 = a6
  generalize a / 128 % 2 = a7
  generalize b / 2 % 2 = b1
  generalize b / 4 % 2 = b2
  generalize b / 8 % 2 = b3
  generalize b / 16 % 2 = b4
  generalize b / 32 % 2 = b5
  generalize b / 64 % 2 = b6
  generalize b / 128 % 2 = b7
  generalize c / 2 % 2 = c1
  generalize c / 4 % 2 = c2
  generalize c / 8 % 2 = c3
  generalize c / 16 % 2 = c4
  generalize c / 32 % 2 = c5
  generalize c / 64 % 2 = c6
  generalize c / 128 % 2 = c7
  generalize d / 2 % 2 = d1
  generalize d / 4 % 2 = d2
  generalize d / 8 % 2 = d3
  generalize d / 16 % 2 = d4
  generalize d / 32 % 2 = d5
  simp only [Nat.div_one]
  omega
