/-! ===== soonest: the reference's outer loop ===== -/
def zdown {A : Type} (g : Nat → A → A) : Nat → A → A
  | 0, a => a
  | s + 1, a => zdown g s (g (s + 1) a)
theorem zdown_s {A : Type} (g : Nat → A → A) (s : Nat) (a : A) : zdown g (s + 1) a = zdown g s (g (s + 1) a) := rfl
def zso (T : zT) (q a s : Nat) (r : Nat × Nat) : Nat × Nat := zup (zsp T q a s) (zn T) 0 r
def zwo2 (T : zT) (q s : Nat) (f : Option Nat) : Option Nat := zup (zwm T q s) (zn T) 0 f
theorem zsp_le {T : zT} {q a s p : Nat} (hs : 1 ≤ s ∧ s ≤ 5) (r : Nat × Nat) : (zsp T q a s p r).1 ≤ r.1 + 495 := by
  unfold zsp
  split
  · have hb : zus s (a - r.1) (zla T p q) * s ≤ 99 * 5 := Nat.mul_le_mul (Nat.le_trans (Nat.min_le_right _ _) (zla_le T p q)) hs.2
    show r.1 + _ ≤ _
    omega
  · omega
theorem zso_le {T : zT} {q a s : Nat} (hs : 1 ≤ s ∧ s ≤ 5) : ∀ d i r, (zup (zsp T q a s) d i r).1 ≤ r.1 + 495 * d
  | 0, _, _ => Nat.le_refl _
  | d + 1, i, r => by
    have h1 := zso_le (T := T) (q := q) (a := a) hs d (i + 1) (zsp T q a s i r)
    have h2 := zsp_le (T := T) (q := q) (a := a) (p := i) hs r
    rw [zup_s]; omega
theorem zwo_lt {T : zT} {q s : Nat} : ∀ d i f, i + d ≤ zn T → (∀ w, f = some w → w < zn T) → ∀ w, zup (zwm T q s) d i f = some w → w < zn T
  | 0, _, _, _, h => h
  | d + 1, i, f, hi, h => by
    rw [zup_s]
    refine zwo_lt d (i + 1) _ (by omega) ?_
    intro w hw
    unfold zwm at hw
    cases f with
    | some v => exact h w hw
    | none =>
      simp only [] at hw
      split at hw
      · cases hw; omega
      · cases hw
