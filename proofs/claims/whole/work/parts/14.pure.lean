/-! numbers, answers, words for what the methods of sets answer -/
def qw_kp (ad : Nat → Nat) (g : qw_G) (v : Option Value) : Option Value → (Nat → Nat) → qw_G → Prop := fun v' ad' g' => v = v' ∧ ad = ad' ∧ g = g'
theorem qw_kpi {ad : Nat → Nat} {g : qw_G} {v w : Option Value} (h : v = w) : qw_kp ad g v w ad g := ⟨h, rfl, rfl⟩
theorem qw_kpn {ad : Nat → Nat} {g : qw_G} {x y : Int32} (h : x = y) : qw_kp ad g (some (.int x)) (some (.int y)) ad g := ⟨by rw [h], rfl, rfl⟩
def sg_b (c : Prop) [Decidable c] : Int32 := if c then 1 else 0
theorem sg_b01 (c : Prop) [Decidable c] : sg_b c = 0 ∨ sg_b c = 1 := by unfold sg_b; by_cases h : c <;> simp [h]
theorem sg_bt {c : Prop} [Decidable c] (h : c) : sg_b c = 1 := if_pos h
theorem sg_bf {c : Prop} [Decidable c] (h : ¬ c) : sg_b c = 0 := if_neg h
theorem sg_b0 {c : Prop} [Decidable c] : sg_b c = 0 ↔ ¬ c := by unfold sg_b; by_cases h : c <;> simp [h]
theorem sg_le {x y : Int32} (a b : Nat) (hx : x = nI a) (hy : y = nI b) (ha : a < 2147483648) (hb : b < 2147483648) : x ≤ y ↔ a ≤ b := by subst hx; subst hy; exact nI_leI ha hb
theorem sg_lt {x y : Int32} (a b : Nat) (hx : x = nI a) (hy : y = nI b) (ha : a < 2147483648) (hb : b < 2147483648) : x < y ↔ a < b := by subst hx; subst hy; exact nI_ltI ha hb
theorem sg_eq {x y : Int32} (a b : Nat) (hx : x = nI a) (hy : y = nI b) (ha : a < 2147483648) (hb : b < 2147483648) : x = y ↔ a = b := by subst hx; subst hy; exact nI_eq ha hb
/-- f at 0, 1, .. n - 1, one after the other -/
def sg_it {α : Type} (f : Nat → α → α) (x : α) : Nat → α
  | 0 => x
  | n + 1 => f n (sg_it f x n)
def sg_sum (f : Nat → Int32) (n : Nat) : Int32 := sg_it (fun k x => x + f k) 0 n
/-- is a place in the set -/
def sg_has (s m : Int32) : Int32 := if s &&& (1 <<< (m &&& 31)) = 0 then 0 else 1
theorem sg_has01 (s m : Int32) : sg_has s m = 0 ∨ sg_has s m = 1 := by unfold sg_has; by_cases h : s &&& (1 <<< (m &&& 31)) = 0 <;> simp [h]
def sg_cols (s row : Int32) : Int32 := (s >>> ((row * 6) &&& 31)) &&& 63
def sg_corners (e row col : Int32) : Int32 := ((1 <<< ((e / 6 * 6 + col) &&& 31)) ||| (1 <<< ((row * 6 + (e - e / 6 * 6)) &&& 31))) ||| (1 <<< ((row * 6 + col) &&& 31))
/-- one row of a pass -/
def sg_rstep (others : Int32) (row : Nat) (reached : Int32) : Int32 := if sg_cols others (nI row) &&& reached = 0 then reached else reached ||| sg_cols others (nI row)
def sg_rpass (others reached : Int32) : Int32 := sg_it (sg_rstep others) reached 5
def sg_oth (h e : Int32) : Int32 := h &&& ((1 <<< (e &&& 31)) ^^^ (-1))
def sg_reach (h e : Int32) : Int32 := sg_it (fun _ x => sg_rpass (sg_oth h e) x) (sg_cols (sg_oth h e) (e / 6)) 5
def sg_round (h e : Int32) : Int32 := sg_has (sg_reach h e) (e - e / 6 * 6)
theorem sg_round01 (h e : Int32) : sg_round h e = 0 ∨ sg_round h e = 1 := sg_has01 _ _
/-- java.lang.Integer.bitCount, as its body says it -/
def sg_bc1 (x : Int32) : Int32 := x - ((x.toUInt32 >>> ((1 : Int32).toUInt32 &&& Int32.toUInt32 31)).toInt32 &&& 1431655765)
def sg_bc2 (x : Int32) : Int32 := (x &&& 858993459) + ((x.toUInt32 >>> ((2 : Int32).toUInt32 &&& Int32.toUInt32 31)).toInt32 &&& 858993459)
def sg_bc3 (x : Int32) : Int32 := (x + (x.toUInt32 >>> ((4 : Int32).toUInt32 &&& Int32.toUInt32 31)).toInt32) &&& 252645135
def sg_bc4 (x : Int32) : Int32 := x + (x.toUInt32 >>> ((8 : Int32).toUInt32 &&& Int32.toUInt32 31)).toInt32
def sg_bc5 (x : Int32) : Int32 := x + (x.toUInt32 >>> ((16 : Int32).toUInt32 &&& Int32.toUInt32 31)).toInt32
def sg_bc (x : Int32) : Int32 := sg_bc5 (sg_bc4 (sg_bc3 (sg_bc2 (sg_bc1 x)))) &&& 63
/-- fewest covers: (fewest, best) -/
def sg_fstep (h e : Int32) (row col : Nat) (s : Int32 × Int32) : Int32 × Int32 :=
  if nI row = e / 6 then s else if nI col = e - e / 6 * 6 then s else
    if s.1 ≤ sg_bc (sg_corners e (nI row) (nI col) &&& (h ^^^ (-1))) then s else (sg_bc (sg_corners e (nI row) (nI col) &&& (h ^^^ (-1))), sg_corners e (nI row) (nI col))
def sg_few (h e : Int32) : Int32 × Int32 := sg_it (fun row s => sg_it (fun col s => sg_fstep h e row col s) s 6) (4, 0) 5
def sg_astep (e0 : Int32) (e : Nat) (h : Int32) : Int32 := if sg_has e0 (nI e) = 0 then h else if sg_round h (nI e) = 0 then h ||| (sg_few h (nI e)).2 else h
def sg_around (e0 : Int32) : Int32 := sg_it (sg_astep e0) e0 30
