/-! ===== soonest ===== -/
theorem q_dif {a b : Nat} (ha : a < 1000000) (hb : b < 1000000) : (nI a - nI b).toInt = (a : Int) - b := by
  rw [Int32.toInt_sub, nI_toInt (by omega), nI_toInt (by omega)]
  exact Int.bmod_eq_of_le (by omega) (by omega)
theorem q_dif0 {a b : Nat} (ha : a < 1000000) (hb : b < 1000000) : (nI 0 < nI a - nI b) ↔ b < a := by
  rw [Int32.lt_iff_toInt_lt, q_dif ha hb, nI_toInt (by omega)]; omega
theorem q_difs (a b s : Nat) : nI a - nI b - nI s = nI a - nI (b + s) := by
  rw [← nI_add]
  apply Int32.toBitVec_inj.mp
  show BitVec.ofNat 32 a - BitVec.ofNat 32 b - BitVec.ofNat 32 s = BitVec.ofNat 32 a - (BitVec.ofNat 32 b + BitVec.ofNat 32 s)
  generalize BitVec.ofNat 32 a = u
  generalize BitVec.ofNat 32 b = v
  generalize BitVec.ofNat 32 s = w
  rw [BitVec.sub_eq_add_neg, BitVec.sub_eq_add_neg, BitVec.sub_eq_add_neg, BitVec.neg_add, BitVec.sub_eq_add_neg, BitVec.add_assoc]
/-- how many turnings of the strength s are taken, of e at most, when l cards are left -/
def zus (s l e : Nat) : Nat := min ((l + s - 1) / s) e
theorem zus_s {s l e : Nat} (hs : 1 ≤ s ∧ s ≤ 5) (hl : 0 < l) : zus s l (e + 1) = zus s (l - s) e + 1 := by
  unfold zus
  rcases (show s = 1 ∨ s = 2 ∨ s = 3 ∨ s = 4 ∨ s = 5 by omega) with rfl | rfl | rfl | rfl | rfl <;> omega
theorem zus_0 {s e : Nat} (hs : 1 ≤ s ∧ s ≤ 5) : zus s 0 e = 0 := by
  unfold zus
  rcases (show s = 1 ∨ s = 2 ∨ s = 3 ∨ s = 4 ∨ s = 5 by omega) with rfl | rfl | rfl | rfl | rfl <;> omega
theorem m_so_w {m : zzS} (k56 : Int32 → Int32 → Int32 → Int32 → Int32 → zzS → Option (Int32 × zzS)) (k64 : Int32 → Int32 → Int32 → Int32 → Int32 → Int32 → zzS → Option (Int32 × zzS)) (p0 p1 l5 l6 : Int32) {a s p : Nat} (ha : a ≤ 9) (hs : 1 ≤ s ∧ s ≤ 5) : ∀ e n b c, e < n → b + 5 * e < 100000 → f_X12_soonest_122 k56 k64 p0 p1 n (nI a - nI b) (nI c) l5 l6 (nI s) (nI p) (nI e) m = k64 (nI a - nI (b + zus s (a - b) e * s)) (nI (c + zus s (a - b) e)) l5 l6 (nI s) (nI (p + 1)) m := by
  intro e
  induction e with
  | zero =>
    intro n b c hn hb
    obtain ⟨n, rfl⟩ : ∃ n', n = n' + 1 := ⟨n - 1, by omega⟩
    have z : zus s (a - b) 0 = 0 := Nat.min_eq_right (Nat.zero_le _)
    rw [z]
    simp (disch := omega) only [f_X12_soonest_122, f_X12_soonest_122b, f_X12_soonest_145, Nat.zero_mul, Nat.add_zero, zzbd_s, zzlt_eq, zzon_n, zzon_s, q0, q1, q2, q3, q4, q5, q6, q7, q8, q9, q10, q11, q12, q20, q48, q49, q57, q59, q99, q100, q999, nI_add, pk_mul, q_lt0, q_lt, q_eq, q_cl, q_gd, if_true, if_false, q_ofNat, q_min, q_max, ite_self, Nat.not_lt_zero, q_e10, q_e01, eq_self, not_true_eq_false, not_false_eq_true, and_true, true_and, and_false, false_and, or_true, true_or, or_false, false_or, q_gdT, Nat.reduceEqDiff, Bool.false_eq_true, Nat.lt_irrefl, Nat.or_zero]
  | succ e ih =>
    intro n b c hn hb
    obtain ⟨n, rfl⟩ : ∃ n', n = n' + 1 := ⟨n - 1, by omega⟩
    have h0 : 0 < e + 1 := by omega
    have he : nI (e + 1) - nI 1 = nI e := by rw [q_sub (by omega)]; rfl
    by_cases h : b < a
    · have z := zus_s (e := e) hs (show 0 < a - b by omega)
      have e1 := ih n (b + s) (c + 1) (by omega) (by omega)
      have e2 : a - b - s = a - (b + s) := by omega
      rw [z, e2]
      rw [show b + (zus s (a - (b + s)) e + 1) * s = b + s + zus s (a - (b + s)) e * s by rw [Nat.succ_mul]; omega, show c + (zus s (a - (b + s)) e + 1) = c + 1 + zus s (a - (b + s)) e by omega, ← e1]
      simp (disch := omega) only [f_X12_soonest_122, f_X12_soonest_122b, h0, h, q_dif0, q_difs, q_dn, he, zzbd_s, zzlt_eq, zzon_n, zzon_s, q0, q1, q2, q3, q4, q5, q6, q7, q8, q9, q10, q11, q12, q20, q48, q49, q57, q59, q99, q100, q999, nI_add, pk_mul, q_lt0, q_lt, q_eq, q_cl, q_gd, if_true, if_false, q_ofNat, q_min, q_max, ite_self, Nat.not_lt_zero, q_e10, q_e01, eq_self, not_true_eq_false, not_false_eq_true, and_true, true_and, and_false, false_and, or_true, true_or, or_false, false_or, q_gdT, Nat.reduceEqDiff, Bool.false_eq_true, Nat.lt_irrefl, Nat.or_zero]
    · have z : zus s (a - b) (e + 1) = 0 := by rw [show a - b = 0 by omega]; exact zus_0 hs
      rw [z]
      simp (disch := omega) only [f_X12_soonest_122, f_X12_soonest_122b, f_X12_soonest_145, h0, h, q_dif0, Nat.zero_mul, Nat.add_zero, zzbd_s, zzlt_eq, zzon_n, zzon_s, q0, q1, q2, q3, q4, q5, q6, q7, q8, q9, q10, q11, q12, q20, q48, q49, q57, q59, q99, q100, q999, nI_add, pk_mul, q_lt0, q_lt, q_eq, q_cl, q_gd, if_true, if_false, q_ofNat, q_min, q_max, ite_self, Nat.not_lt_zero, q_e10, q_e01, eq_self, not_true_eq_false, not_false_eq_true, and_true, true_and, and_false, false_and, or_true, true_or, or_false, false_or, q_gdT, Nat.reduceEqDiff, Bool.false_eq_true, Nat.lt_irrefl, Nat.or_zero]
