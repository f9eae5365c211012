/-! ===== bits, loops, frames ===== -/
theorem q_or (a b : Nat) : nI a ||| nI b = nI (a ||| b) := by
  apply Int32.toBitVec_inj.mp
  show BitVec.ofNat 32 a ||| BitVec.ofNat 32 b = BitVec.ofNat 32 (a ||| b)
  apply BitVec.eq_of_getLsbD_eq
  intro i hi
  simp [hi]
theorem q_and (a b : Nat) : nI a &&& nI b = nI (a &&& b) := by
  apply Int32.toBitVec_inj.mp
  show BitVec.ofNat 32 a &&& BitVec.ofNat 32 b = BitVec.ofNat 32 (a &&& b)
  apply BitVec.eq_of_getLsbD_eq
  intro i hi
  simp [hi]
theorem q_shl {p : Nat} (h : p < 31) : (1 : Int32) <<< (nI p &&& 31) = nI (2 ^ p) := by
  have : p = 0 ∨ p = 1 ∨ p = 2 ∨ p = 3 ∨ p = 4 ∨ p = 5 ∨ p = 6 ∨ p = 7 ∨ p = 8 ∨ p = 9 ∨ p = 10 ∨ p = 11 ∨ p = 12 ∨ p = 13 ∨ p = 14 ∨ p = 15 ∨ p = 16 ∨ p = 17 ∨ p = 18 ∨ p = 19 ∨ p = 20 ∨ p = 21 ∨ p = 22 ∨ p = 23 ∨ p = 24 ∨ p = 25 ∨ p = 26 ∨ p = 27 ∨ p = 28 ∨ p = 29 ∨ p = 30 := by omega
  rcases this with rfl | rfl | rfl | rfl | rfl | rfl | rfl | rfl | rfl | rfl | rfl | rfl | rfl | rfl | rfl | rfl | rfl | rfl | rfl | rfl | rfl | rfl | rfl | rfl | rfl | rfl | rfl | rfl | rfl | rfl | rfl <;> decide +kernel
theorem q_shl' {p : Nat} (h : p < 31) : nI 1 <<< (nI p &&& 31) = nI (2 ^ p) := q_shl h
/-- up from i, d times -/
def zup {A : Type} (g : Nat → A → A) : Nat → Nat → A → A
  | 0, _, a => a
  | d + 1, i, a => zup g d (i + 1) (g i a)
theorem zup_z {A : Type} (g : Nat → A → A) (i : Nat) (a : A) : zup g 0 i a = a := rfl
theorem zup_s {A : Type} (g : Nat → A → A) (d i : Nat) (a : A) : zup g (d + 1) i a = zup g d (i + 1) (g i a) := rfl
theorem zup_inv {A : Type} (g : Nat → A → A) (P : Nat → A → Prop) (hs : ∀ i a, P i a → P (i + 1) (g i a)) : ∀ d i a, P i a → P (i + d) (zup g d i a)
  | 0, _, _, h => h
  | d + 1, i, a, h => by
    have h1 := zup_inv g P hs d (i + 1) (g i a) (hs i a h)
    rw [show i + (d + 1) = i + 1 + d by omega]
    exact h1
theorem zup_cg {A : Type} (g g' : Nat → A → A) : ∀ d i a, (∀ j b, i ≤ j → j < i + d → g j b = g' j b) → zup g d i a = zup g' d i a
  | 0, _, _, _ => rfl
  | d + 1, i, a, h => by
    rw [zup_s, zup_s, h i a (by omega) (by omega)]
    exact zup_cg g g' d (i + 1) _ (fun j b h1 h2 => h j b (by omega) (by omega))
theorem zup_last {A : Type} (g : Nat → A → A) : ∀ d i a, zup g (d + 1) i a = g (i + d) (zup g d i a)
  | 0, _, _ => rfl
  | d + 1, i, a => by
    rw [zup_s, zup_last g d (i + 1), zup_s]
    rw [show i + (d + 1) = i + 1 + d by omega]
theorem q_neg {i : Nat} (h : i < 2147483648) : ¬ nI i < 0 := nI_pos h
