/-! pure: what is refused -/
theorem qr_up {x a b : Int32} (h : b.toInt = a.toInt + 1) : x < b ↔ ¬ a < x := by rw [Int32.lt_iff_toInt_lt, Int32.lt_iff_toInt_lt]; omega
theorem qr_up2 {x a b : Int32} (h : b.toInt = a.toInt + 1) : b ≤ x ↔ a < x := by rw [Int32.le_iff_toInt_le, Int32.lt_iff_toInt_lt]; omega
theorem qc_tab (x : Int32) : cx_tab x = if sm_isT x = 0 then 1 else 0 := by
  unfold cx_tab sm_isT sm_in
  by_cases h : x < 0
  · simp [h]
  · by_cases h2 : (2 : Int32) < x
    · have h3 : ¬ x < 3 := fun q => (qr_up (a := 2) (by decide)).mp q h2
      simp [h, h2, h3]
    · have h3 : x < 3 := (qr_up (a := 2) (by decide)).mpr h2
      simp [h, h2, h3]
theorem qc_lev (x : Int32) : cx_lev x = if sm_isL x = 0 then 1 else 0 := by
  unfold cx_lev sm_isL sm_in
  by_cases h : x < 0
  · simp [h]
  · by_cases h2 : (3 : Int32) < x
    · have h3 : ¬ x < 4 := fun q => (qr_up (a := 3) (by decide)).mp q h2
      simp [h, h2, h3]
    · have h3 : x < 4 := (qr_up (a := 3) (by decide)).mpr h2
      simp [h, h2, h3]
theorem qc_eat (x y : Int32) : cx_eat x y = if sm_isE x y = 0 then 1 else 0 := by
  unfold cx_eat sm_isE sm_in
  by_cases h : x < 0
  · simp [h]
  · by_cases h2 : (4 : Int32) < x
    · have h3 : (5 : Int32) ≤ x := (qr_up2 (a := 4) (by decide)).mpr h2
      simp [h, h2, h3]
    · have h3 : ¬ (5 : Int32) ≤ x := fun q => h2 ((qr_up2 (a := 4) (by decide)).mp q)
      by_cases k : y < 0
      · simp [h, h2, h3, k]
      · by_cases k2 : (5 : Int32) < y
        · have k3 : ¬ y < 6 := fun q => (qr_up (a := 5) (by decide)).mp q k2
          simp [h, h2, h3, k, k2, k3]
        · have k3 : y < 6 := (qr_up (a := 5) (by decide)).mpr k2
          simp [h, h2, h3, k, k2, k3]
theorem qb_hb {s : Int32} {k : Nat} (hk : k < 32) : sg_has s (nI k) = sm_bit s (nI k) := (qb_has hk).trans (qb_bit hk).symm
