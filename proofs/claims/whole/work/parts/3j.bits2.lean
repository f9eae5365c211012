/-! ===== sets as numbers: who is free ===== -/
def zdf (a b : Nat) : Nat := a &&& (b ^^^ 4294967295)
theorem q_xor (a b : Nat) : nI a ^^^ nI b = nI (a ^^^ b) := by
  apply Int32.toBitVec_inj.mp
  show BitVec.ofNat 32 a ^^^ BitVec.ofNat 32 b = BitVec.ofNat 32 (a ^^^ b)
  apply BitVec.eq_of_getLsbD_eq
  intro i hi
  simp [hi]
theorem q_dff (a b : Nat) : nI a &&& (nI b ^^^ (-1 : Int32)) = nI (zdf a b) := by
  have e : (-1 : Int32) = nI 4294967295 := by decide +kernel
  rw [e, q_xor, q_and]; rfl
theorem zdf_bit (a b : Nat) {p : Nat} (hp : p < 32) : (zdf a b).testBit p = (a.testBit p && !b.testBit p) := by
  unfold zdf
  have e : (4294967295 : Nat) = 2 ^ 32 - 1 := by decide
  rw [Nat.testBit_and, Nat.testBit_xor, e, Nat.testBit_two_pow_sub_one, decide_eq_true hp, Bool.xor_true]
theorem q_bit0 (c : Nat) {p : Nat} (hp : p < 31) : (nI c &&& nI (2 ^ p) = nI 0) ↔ c.testBit p = false := by
  rw [q_and]
  have h2 : 2 ^ p < 2 ^ 31 := Nat.pow_lt_pow_right (by omega) hp
  have h3 : c &&& 2 ^ p ≤ 2 ^ p := Nat.and_le_right
  rw [q_eq (by omega) (by omega)]
  constructor
  · intro h
    have := congrArg (fun n => n.testBit p) h
    simp only [Nat.testBit_and, Nat.testBit_two_pow_self, Bool.and_true, Nat.zero_testBit] at this
    exact this
  · intro h
    apply Nat.eq_of_testBit_eq
    intro i
    rw [Nat.testBit_and, Nat.zero_testBit]
    by_cases e : p = i
    · subst e; rw [h, Bool.false_and]
    · rw [Nat.testBit_two_pow_of_ne e, Bool.and_false]
