/-! pure: bits -/
def qb (s : Int32) (k : Nat) : Bool := s.toBitVec.getLsbD k
theorem qb_sh : ∀ k : Fin 32, ((1 : Int32) <<< (nI k.1 &&& 31)).toBitVec = BitVec.twoPow 32 k.1 := by decide +kernel
theorem qb_md : ∀ k : Fin 32, ((nI k.1 &&& 31).toBitVec.smod 32).toNat = k.1 := by decide +kernel
theorem qb_has {s : Int32} {k : Nat} (hk : k < 32) : sg_has s (nI k) = if qb s k = true then 1 else 0 := by
  unfold sg_has qb
  have e : s &&& (1 <<< (nI k &&& 31)) = 0 ↔ s.toBitVec.getLsbD k = false := by
    rw [← Int32.toBitVec_inj, Int32.toBitVec_and, qb_sh ⟨k, hk⟩]
    show s.toBitVec &&& BitVec.twoPow 32 k = 0#32 ↔ _
    rw [BitVec.and_twoPow]
    cases h : s.toBitVec.getLsbD k
    · simp
    · simp only [if_pos, reduceCtorEq, iff_false]
      intro h2
      have := congrArg (fun v => BitVec.getLsbD v k) h2
      simp [BitVec.getLsbD_twoPow, hk] at this
  by_cases h : s.toBitVec.getLsbD k = true
  · rw [if_pos h, if_neg (fun q => by rw [e.mp q] at h; exact absurd h (by decide))]
  · rw [if_neg h, if_pos (e.mpr (by simpa using h))]
theorem qb_bit {s : Int32} {k : Nat} (hk : k < 32) : sm_bit s (nI k) = if qb s k = true then 1 else 0 := by
  unfold sm_bit qb
  apply Int32.toBitVec_inj.mp
  rw [Int32.toBitVec_and, Int32.toBitVec_shiftRight]
  apply BitVec.eq_of_getLsbD_eq
  intro j hj
  rw [BitVec.getLsbD_and]
  by_cases h0 : j = 0
  · subst h0
    rw [show s.toBitVec.sshiftRight' ((nI k &&& 31).toBitVec.smod 32) = s.toBitVec.sshiftRight ((nI k &&& 31).toBitVec.smod 32).toNat from rfl, BitVec.getLsbD_sshiftRight, qb_md ⟨k, hk⟩]
    cases h : s.toBitVec.getLsbD k <;> simp [hk, h] <;> decide
  · have h1 : (Int32.toBitVec 1).getLsbD j = false := by
      show (1#32).getLsbD j = false
      simp [BitVec.getLsbD_one, h0]
    rw [h1, Bool.and_false]
    cases s.toBitVec.getLsbD k
    · show false = (0#32).getLsbD j
      simp
    · exact h1.symm
