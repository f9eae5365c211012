/-! ===== soonest: one strength after another ===== -/
/-- a state: cards told too many or few (a fixed, b told), turnings, whom -/
def zsp (T : zT) (q a s p : Nat) (r : Nat × Nat) : Nat × Nat := if p ≠ q ∧ ztu T p = s then (r.1 + zus s (a - r.1) (zla T p q) * s, r.2 + zus s (a - r.1) (zla T p q)) else r
def zwm (T : zT) (q s p : Nat) (f : Option Nat) : Option Nat := match f with
  | some w => some w
  | none => if zmb T (zl T) p q = true ∧ ztu T p = s then some p else none
def zwI (f : Option Nat) : Int32 := match f with
  | some w => nI w
  | none => -4
section
variable {m : zzS} {T : zT}
theorem zus_e0 (s l : Nat) : zus s l 0 = 0 := Nat.min_eq_right (Nat.zero_le _)
theorem m_so_p (h : zMT m T) (k56 : Int32 → Int32 → Int32 → Int32 → Int32 → zzS → Option (Int32 × zzS)) (p1 : Int32) {q a s : Nat} (hq : q < zn T) (ha : 1 ≤ a ∧ a ≤ 9) (hs : 1 ≤ s ∧ s ≤ 5) : ∀ d n i r f, i + d = zn T → d < n → r.1 + 500 * d < 50000 → (∀ w, f = some w → w < zn T) → f_X12_soonest_64 k56 (nI q) p1 n (nI a - nI r.1) (nI r.2) (zwI f) (nI 1) (nI s) (nI i) m = k56 (nI a - nI (zup (zsp T q a s) d i r).1) (nI (zup (zsp T q a s) d i r).2) (zwI (zup (zwm T q s) d i f)) (nI 1) (nI s - nI 1) m := by
  have h7 := h.1.1
  intro d
  induction d with
  | zero =>
    intro n i r f hi hn hr hf
    obtain ⟨n, rfl⟩ : ∃ n', n = n' + 1 := ⟨n - 1, by omega⟩
    have : i = zn T := by omega
    subst this
    simp (disch := omega) only [f_X12_soonest_64, f_X12_soonest_64b, h.2.1, zup_z, q_dn, zzbd_s, zzlt_eq, zzon_n, zzon_s, q0, q1, q2, q3, q4, q5, q6, q7, q8, q9, q10, q11, q12, q20, q48, q49, q57, q59, q99, q100, q999, nI_add, pk_mul, q_lt0, q_lt, q_eq, q_cl, q_gd, if_true, if_false, q_ofNat, q_min, q_max, ite_self, Nat.not_lt_zero, q_e10, q_e01, eq_self, not_true_eq_false, not_false_eq_true, and_true, true_and, and_false, false_and, or_true, true_or, or_false, false_or, q_gdT, Nat.reduceEqDiff, Bool.false_eq_true, Nat.lt_irrefl, Nat.or_zero]
  | succ d ih =>
    intro n i r f hi hn hr hf
    obtain ⟨n, rfl⟩ : ∃ n', n = n' + 1 := ⟨n - 1, by omega⟩
    have hi2 : i < zn T := by omega
    have hk := h.1.2.2.2.1 i hi2
    have hg := q_turns T i hk.1 hk.2
    have hle := zla_le T i q
    rw [zup_s, zup_s]
    cases e1 : zmb T (zl T) i q with
    | false =>
      have w1 : zwm T q s i f = f := by
        unfold zwm
        cases f with
        | some w => rfl
        | none => rw [if_neg (by intro z; rw [e1] at z; cases z.1)]
      have w2 : zsp T q a s i r = r := by
        unfold zsp
        by_cases c : i ≠ q ∧ ztu T i = s
        · rw [if_pos c, zla_0 c.1 e1, zus_e0, Nat.zero_mul, Nat.add_zero, Nat.add_zero]
        · rw [if_neg c]
      rw [w1, w2, ← ih n (i + 1) r f (by omega) (by omega) (by omega) hf]
      simp (disch := omega) only [f_X12_soonest_64, f_X12_soonest_64b, f_X12_soonest_145, h.2.1, hi2, m_mb h, e1, zzbd_s, zzlt_eq, zzon_n, zzon_s, q0, q1, q2, q3, q4, q5, q6, q7, q8, q9, q10, q11, q12, q20, q48, q49, q57, q59, q99, q100, q999, nI_add, pk_mul, q_lt0, q_lt, q_eq, q_cl, q_gd, if_true, if_false, q_ofNat, q_min, q_max, ite_self, Nat.not_lt_zero, q_e10, q_e01, eq_self, not_true_eq_false, not_false_eq_true, and_true, true_and, and_false, false_and, or_true, true_or, or_false, false_or, q_gdT, Nat.reduceEqDiff, Bool.false_eq_true, Nat.lt_irrefl, Nat.or_zero]
    | true =>
      by_cases c : ztu T i = s
      · have w2 : zsp T q a s i r = (r.1 + zus s (a - r.1) (zla T i q) * s, r.2 + zus s (a - r.1) (zla T i q)) := by
          unfold zsp; rw [if_pos ⟨zmb_ne e1, c⟩]
        have hb : zus s (a - r.1) (zla T i q) * s ≤ 99 * 5 := Nat.mul_le_mul (Nat.le_trans (Nat.min_le_right _ _) hle) hs.2
        have g := m_so_w (m := m) k56 (f_X12_soonest_64 k56 (nI q) p1 n) (nI q) p1 (zwI (zwm T q s i f)) (nI 1) (a := a) (s := s) (p := i) ha.2 hs (zla T i q) 200 r.1 r.2 (by omega) (by omega)
        have hf' : ∀ w, zwm T q s i f = some w → w < zn T := by
          intro w hw
          unfold zwm at hw
          cases f with
          | some v => exact hf w hw
          | none =>
            simp only [] at hw
            split at hw
            · cases hw; exact hi2
            · cases hw
        have e3 := ih n (i + 1) (r.1 + zus s (a - r.1) (zla T i q) * s, r.2 + zus s (a - r.1) (zla T i q)) (zwm T q s i f) (by omega) (by omega) (by show r.1 + _ + 500 * d < 50000; omega) hf'
        rw [w2, ← e3, ← g]
        cases f with
        | some w =>
          have hw := hf w rfl
          have c2 : zwm T q s i (some w) = some w := rfl
          rw [c2]
          simp (disch := omega) only [f_X12_soonest_64, f_X12_soonest_64b, f_X12_soonest_109, f_X12_soonest_111, h.2.1, hi2, m_mb h, e1, m_turnsv h hi2, c, m_till h hi2 hq, zwI, q_e1_0, zzbd_s, zzlt_eq, zzon_n, zzon_s, q0, q1, q2, q3, q4, q5, q6, q7, q8, q9, q10, q11, q12, q20, q48, q49, q57, q59, q99, q100, q999, nI_add, pk_mul, q_lt0, q_lt, q_eq, q_cl, q_gd, if_true, if_false, q_ofNat, q_min, q_max, ite_self, Nat.not_lt_zero, q_e10, q_e01, eq_self, not_true_eq_false, not_false_eq_true, and_true, true_and, and_false, false_and, or_true, true_or, or_false, false_or, q_gdT, Nat.reduceEqDiff, Bool.false_eq_true, Nat.lt_irrefl, Nat.or_zero]
        | none =>
          have c2 : zwm T q s i none = some i := by unfold zwm; rw [if_pos ⟨e1, c⟩]
          have n4 : (-nI 4 < nI 0) = True := eq_true (by decide)
          rw [c2]
          simp (disch := omega) only [f_X12_soonest_64, f_X12_soonest_64b, f_X12_soonest_111, h.2.1, hi2, m_mb h, e1, m_turnsv h hi2, c, m_till h hi2 hq, zwI, n4, q_e1_0, zzbd_s, zzlt_eq, zzon_n, zzon_s, q0, q1, q2, q3, q4, q5, q6, q7, q8, q9, q10, q11, q12, q20, q48, q49, q57, q59, q99, q100, q999, nI_add, pk_mul, q_lt0, q_lt, q_eq, q_cl, q_gd, if_true, if_false, q_ofNat, q_min, q_max, ite_self, Nat.not_lt_zero, q_e10, q_e01, eq_self, not_true_eq_false, not_false_eq_true, and_true, true_and, and_false, false_and, or_true, true_or, or_false, false_or, q_gdT, Nat.reduceEqDiff, Bool.false_eq_true, Nat.lt_irrefl, Nat.or_zero]
      · have w1 : zwm T q s i f = f := by
          unfold zwm
          cases f with
          | some w => rfl
          | none => rw [if_neg (by intro z; exact c z.2)]
        have w2 : zsp T q a s i r = r := by
          unfold zsp; rw [if_neg (by intro z; exact c z.2)]
        rw [w1, w2, ← ih n (i + 1) r f (by omega) (by omega) (by omega) hf]
        simp (disch := omega) only [f_X12_soonest_64, f_X12_soonest_64b, f_X12_soonest_145, h.2.1, hi2, m_mb h, e1, m_turnsv h hi2, c, q_e1_0, zzbd_s, zzlt_eq, zzon_n, zzon_s, q0, q1, q2, q3, q4, q5, q6, q7, q8, q9, q10, q11, q12, q20, q48, q49, q57, q59, q99, q100, q999, nI_add, pk_mul, q_lt0, q_lt, q_eq, q_cl, q_gd, if_true, if_false, q_ofNat, q_min, q_max, ite_self, Nat.not_lt_zero, q_e10, q_e01, eq_self, not_true_eq_false, not_false_eq_true, and_true, true_and, and_false, false_and, or_true, true_or, or_false, false_or, q_gdT, Nat.reduceEqDiff, Bool.false_eq_true, Nat.lt_irrefl, Nat.or_zero]
end
