/-! ===== arguments in range and out of it, on both sides ===== -/
abbrev zbad (N : Nat) (p : Int32) : Prop := p.toInt < 0 ∨ (N : Int) ≤ p.toInt
theorem q_cls (p : Int32) (N : Nat) (hN : N < 2147483648) : (∃ i, i < N ∧ p = nI i) ∨ zbad N p := by
  by_cases h1 : p.toInt < 0
  · exact Or.inr (Or.inl h1)
  · by_cases h2 : (N : Int) ≤ p.toInt
    · exact Or.inr (Or.inr h2)
    · refine Or.inl ⟨p.toInt.toNat, by omega, ?_⟩
      apply Int32.toInt_inj.mp
      rw [nI_toInt (by omega)]
      omega
theorem q_neg0 (p : Int32) : p < 0 ↔ p.toInt < 0 := by
  rw [Int32.lt_iff_toInt_lt]; exact Iff.rfl
theorem q_ltn (p : Int32) {N : Nat} (h : N < 2147483648) : p < nI N ↔ p.toInt < N := by
  rw [Int32.lt_iff_toInt_lt, nI_toInt h]
theorem q_nlt (p : Int32) {N : Nat} (h : N < 2147483648) : nI N < p ↔ (N : Int) < p.toInt := by
  rw [Int32.lt_iff_toInt_lt, nI_toInt h]
theorem q_badeq {N i : Nat} {p : Int32} (hb : zbad N p) (hi : i < N) (hN : N < 2147483648) : ¬ p = nI i := by
  intro e
  subst e
  rcases hb with h | h <;> rw [nI_toInt (by omega)] at h <;> omega
theorem m_in (m : zzS) (p : Int32) (a b : Int64) : f_X12_in p.toInt64 a b m = some (if a.toInt ≤ p.toInt ∧ p.toInt ≤ b.toInt then nI 1 else nI 0, m) := by
  have h1 : (lg_cmp p.toInt64 a < 0) ↔ p.toInt < a.toInt := by rw [lg_cmp_lt, Int64.lt_iff_toInt_lt, Int32.toInt_toInt64]
  have h2 : (0 < lg_cmp p.toInt64 b) ↔ b.toInt < p.toInt := by rw [lg_cmp_gt, Int64.lt_iff_toInt_lt, Int32.toInt_toInt64]
  unfold f_X12_in
  by_cases c1 : p.toInt < a.toInt
  · rw [if_pos (h1.mpr c1), if_neg (by omega)]; rfl
  · rw [if_neg (fun z => c1 (h1.mp z))]
    by_cases c2 : b.toInt < p.toInt
    · rw [if_pos (h2.mpr c2), if_neg (by omega)]; rfl
    · rw [if_neg (fun z => c2 (h2.mp z)), if_pos (by omega)]; rfl
theorem m_in1 {m : zzS} {i : Nat} (h : i < 2) : f_X12_in (nI i).toInt64 (0 : Int64) (1 : Int64) m = some (nI 1, m) := by
  have e0 : (0 : Int64).toInt = 0 := rfl
  have e1 : (1 : Int64).toInt = 1 := rfl
  rw [m_in, nI_toInt (by omega), e0, e1, if_pos (by omega)]
theorem m_in1_bad {m : zzS} {p : Int32} (h : zbad 2 p) : f_X12_in p.toInt64 (0 : Int64) (1 : Int64) m = some (nI 0, m) := by
  have e0 : (0 : Int64).toInt = 0 := rfl
  have e1 : (1 : Int64).toInt = 1 := rfl
  rw [m_in, e0, e1, if_neg (by have := h; unfold zbad at this; omega)]
theorem m_in2 {m : zzS} {i : Nat} (h : i < 3) : f_X12_in (nI i).toInt64 (0 : Int64) (2 : Int64) m = some (nI 1, m) := by
  have e0 : (0 : Int64).toInt = 0 := rfl
  have e1 : (2 : Int64).toInt = 2 := rfl
  rw [m_in, nI_toInt (by omega), e0, e1, if_pos (by omega)]
theorem m_in2_bad {m : zzS} {p : Int32} (h : zbad 3 p) : f_X12_in p.toInt64 (0 : Int64) (2 : Int64) m = some (nI 0, m) := by
  have e0 : (0 : Int64).toInt = 0 := rfl
  have e1 : (2 : Int64).toInt = 2 := rfl
  rw [m_in, e0, e1, if_neg (by have := h; unfold zbad at this; omega)]
theorem m_in7 {m : zzS} {i : Nat} (h : i < 8) : f_X12_in (nI i).toInt64 (0 : Int64) (7 : Int64) m = some (nI 1, m) := by
  have e0 : (0 : Int64).toInt = 0 := rfl
  have e1 : (7 : Int64).toInt = 7 := rfl
  rw [m_in, nI_toInt (by omega), e0, e1, if_pos (by omega)]
theorem m_in7_bad {m : zzS} {p : Int32} (h : zbad 8 p) : f_X12_in p.toInt64 (0 : Int64) (7 : Int64) m = some (nI 0, m) := by
  have e0 : (0 : Int64).toInt = 0 := rfl
  have e1 : (7 : Int64).toInt = 7 := rfl
  rw [m_in, e0, e1, if_neg (by have := h; unfold zbad at this; omega)]
theorem m_in9 {m : zzS} {i : Nat} (h : i < 10) : f_X12_in (nI i).toInt64 (0 : Int64) (9 : Int64) m = some (nI 1, m) := by
  have e0 : (0 : Int64).toInt = 0 := rfl
  have e1 : (9 : Int64).toInt = 9 := rfl
  rw [m_in, nI_toInt (by omega), e0, e1, if_pos (by omega)]
theorem m_in9_bad {m : zzS} {p : Int32} (h : zbad 10 p) : f_X12_in p.toInt64 (0 : Int64) (9 : Int64) m = some (nI 0, m) := by
  have e0 : (0 : Int64).toInt = 0 := rfl
  have e1 : (9 : Int64).toInt = 9 := rfl
  rw [m_in, e0, e1, if_neg (by have := h; unfold zbad at this; omega)]
theorem m_in10 {m : zzS} {i : Nat} (h : i < 11) : f_X12_in (nI i).toInt64 (0 : Int64) (10 : Int64) m = some (nI 1, m) := by
  have e0 : (0 : Int64).toInt = 0 := rfl
  have e1 : (10 : Int64).toInt = 10 := rfl
  rw [m_in, nI_toInt (by omega), e0, e1, if_pos (by omega)]
theorem m_in10_bad {m : zzS} {p : Int32} (h : zbad 11 p) : f_X12_in p.toInt64 (0 : Int64) (10 : Int64) m = some (nI 0, m) := by
  have e0 : (0 : Int64).toInt = 0 := rfl
  have e1 : (10 : Int64).toInt = 10 := rfl
  rw [m_in, e0, e1, if_neg (by have := h; unfold zbad at this; omega)]
theorem m_in12 {m : zzS} {i : Nat} (h : i < 13) : f_X12_in (nI i).toInt64 (0 : Int64) (12 : Int64) m = some (nI 1, m) := by
  have e0 : (0 : Int64).toInt = 0 := rfl
  have e1 : (12 : Int64).toInt = 12 := rfl
  rw [m_in, nI_toInt (by omega), e0, e1, if_pos (by omega)]
theorem m_in12_bad {m : zzS} {p : Int32} (h : zbad 13 p) : f_X12_in p.toInt64 (0 : Int64) (12 : Int64) m = some (nI 0, m) := by
  have e0 : (0 : Int64).toInt = 0 := rfl
  have e1 : (12 : Int64).toInt = 12 := rfl
  rw [m_in, e0, e1, if_neg (by have := h; unfold zbad at this; omega)]
theorem q_dec {n : Nat} (h : n ≤ 7) : (nI n - nI 1).toInt64.toInt = (n : Int) - 1 := by
  rw [Int32.toInt_toInt64]
  have : n = 0 ∨ n = 1 ∨ n = 2 ∨ n = 3 ∨ n = 4 ∨ n = 5 ∨ n = 6 ∨ n = 7 := by omega
  rcases this with rfl | rfl | rfl | rfl | rfl | rfl | rfl | rfl <;> decide +kernel
theorem q_gd01 {c : Int32} {α : Type} {x : Option α} (h : c = nI 0 ∨ c = nI 1) : zzgd (c = nI 0 ∨ c = nI 1) x = x := zzgd_t h
theorem q_gd0 {α : Type} {x : Option α} : zzgd (nI 0 = nI 0 ∨ nI 0 = nI 1) x = x := zzgd_t (Or.inl rfl)
theorem q_gd1 {α : Type} {x : Option α} : zzgd (nI 1 = nI 0 ∨ nI 1 = nI 1) x = x := zzgd_t (Or.inr rfl)
theorem q_e1_0 : (nI 1 = nI 0) = False := eq_false (by decide)
theorem q_e0_1 : (nI 0 = nI 1) = False := eq_false (by decide)
section
variable {m : zzS} {T : zT}
theorem m_one (h : zMT m T) {p : Nat} (hp : p < zn T) : f_X12_isOne (nI p) m = some (nI 1, m) := by
  have h7 := h.1.1
  have e0 : (0 : Int64).toInt = 0 := rfl
  unfold f_X12_isOne
  rw [h.2.1, q1, q0, m_in, nI_toInt (by omega), e0, q_dec h7, if_pos (by omega), zzbd_s, q_gd1]
theorem m_one_bad (h : zMT m T) {p : Int32} (hp : zbad (zn T) p) : f_X12_isOne p m = some (nI 0, m) := by
  have h7 := h.1.1
  have e0 : (0 : Int64).toInt = 0 := rfl
  unfold f_X12_isOne
  rw [h.2.1, q1, q0, m_in, e0, q_dec h7, if_neg (by have := hp; unfold zbad at this; omega), zzbd_s, q_gd0]
theorem m_two (h : zMT m T) {p q : Nat} (hp : p < zn T) (hq : q < zn T) : f_X12_areTwo (nI p) (nI q) m = some (if p = q then nI 0 else nI 1, m) := by
  have h7 := h.1.1
  by_cases e : p = q
  · simp (disch := omega) only [f_X12_areTwo, m_one h hp, m_one h hq, e, q_e1_0, zzbd_s, zzlt_eq, zzon_n, zzon_s, q0, q1, q2, q3, q4, q5, q6, q7, q8, q9, q10, q11, q12, q20, q48, q49, q57, q59, q99, q100, q999, nI_add, pk_mul, q_lt0, q_lt, q_eq, q_cl, q_gd, if_true, if_false, q_ofNat, q_min, q_max, ite_self, Nat.not_lt_zero, q_e10, q_e01, eq_self, not_true_eq_false, not_false_eq_true, and_true, true_and, and_false, false_and, or_true, true_or, or_false, false_or, q_gdT, Nat.reduceEqDiff, Bool.false_eq_true, Nat.lt_irrefl, Nat.or_zero]
  · simp (disch := omega) only [f_X12_areTwo, m_one h hp, m_one h hq, e, q_e1_0, zzbd_s, zzlt_eq, zzon_n, zzon_s, q0, q1, q2, q3, q4, q5, q6, q7, q8, q9, q10, q11, q12, q20, q48, q49, q57, q59, q99, q100, q999, nI_add, pk_mul, q_lt0, q_lt, q_eq, q_cl, q_gd, if_true, if_false, q_ofNat, q_min, q_max, ite_self, Nat.not_lt_zero, q_e10, q_e01, eq_self, not_true_eq_false, not_false_eq_true, and_true, true_and, and_false, false_and, or_true, true_or, or_false, false_or, q_gdT, Nat.reduceEqDiff, Bool.false_eq_true, Nat.lt_irrefl, Nat.or_zero]
theorem m_two_bad (h : zMT m T) {p q : Int32} (hb : zbad (zn T) p ∨ zbad (zn T) q) : f_X12_areTwo p q m = some (nI 0, m) := by
  have h7 := h.1.1
  rcases q_cls p (zn T) (by omega) with ⟨i, hi, rfl⟩ | hp
  · have hq : zbad (zn T) q := hb.resolve_left (fun z => q_badeq z hi (by omega) rfl)
    simp (disch := omega) only [f_X12_areTwo, m_one h hi, m_one_bad h hq, q_e1_0, zzbd_s, zzlt_eq, zzon_n, zzon_s, q0, q1, q2, q3, q4, q5, q6, q7, q8, q9, q10, q11, q12, q20, q48, q49, q57, q59, q99, q100, q999, nI_add, pk_mul, q_lt0, q_lt, q_eq, q_cl, q_gd, if_true, if_false, q_ofNat, q_min, q_max, ite_self, Nat.not_lt_zero, q_e10, q_e01, eq_self, not_true_eq_false, not_false_eq_true, and_true, true_and, and_false, false_and, or_true, true_or, or_false, false_or, q_gdT, Nat.reduceEqDiff, Bool.false_eq_true, Nat.lt_irrefl, Nat.or_zero]
  · simp (disch := omega) only [f_X12_areTwo, m_one_bad h hp, zzbd_s, zzlt_eq, zzon_n, zzon_s, q0, q1, q2, q3, q4, q5, q6, q7, q8, q9, q10, q11, q12, q20, q48, q49, q57, q59, q99, q100, q999, nI_add, pk_mul, q_lt0, q_lt, q_eq, q_cl, q_gd, if_true, if_false, q_ofNat, q_min, q_max, ite_self, Nat.not_lt_zero, q_e10, q_e01, eq_self, not_true_eq_false, not_false_eq_true, and_true, true_and, and_false, false_and, or_true, true_or, or_false, false_or, q_gdT, Nat.reduceEqDiff, Bool.false_eq_true, Nat.lt_irrefl, Nat.or_zero]
theorem m_grows (h : zMT m T) {p : Nat} (hp : p < zn T) : f_X12_growsOf (nI p) m = some (nI (zgr T p), m) := by
  have h7 := h.1.1
  have hk := h.1.2.2.2.1 p hp
  have e := h.2.2.2.2.1 p hp
  simp (disch := omega) only [f_X12_growsOf, e.1, e.2, q_len37, q_len38, zzbd_s, zzlt_eq, zzon_n, zzon_s, q0, q1, q2, q3, q4, q5, q6, q7, q8, q9, q10, q11, q12, q20, q48, q49, q57, q59, q99, q100, q999, nI_add, pk_mul, q_lt0, q_lt, q_eq, q_cl, q_gd, if_true, if_false, q_ofNat, q_min, q_max, ite_self, Nat.not_lt_zero, q_e10, q_e01, eq_self, not_true_eq_false, not_false_eq_true, and_true, true_and, and_false, false_and, or_true, true_or, or_false, false_or, q_gdT, Nat.reduceEqDiff, Bool.false_eq_true, Nat.lt_irrefl, Nat.or_zero]
  unfold zgr
  generalize zk T p = k at hk ⊢
  generalize zf T p = f at hk ⊢
  have hf := hk.2
  rcases q_k8 hk.1 with rfl | rfl | rfl | rfl | rfl | rfl | rfl | rfl <;> simp (disch := omega) [q0, q1, q2, q3, q4, q5, q6, q7, q8, q9, q10, q11, q12, q20, q48, q49, q57, q59, q99, q100, q999, nI_add, pk_mul, q_eq, q_div]
theorem m_turnsv (h : zMT m T) {p : Nat} (hp : p < zn T) : f_X12_turnsOf (nI p) m = some (nI (ztu T p), m) := by
  have h7 := h.1.1
  have hk := h.1.2.2.2.1 p hp
  have e := h.2.2.2.2.1 p hp
  simp (disch := omega) only [f_X12_turnsOf, e.1, e.2, q_len37, q_len38, zzbd_s, zzlt_eq, zzon_n, zzon_s, q0, q1, q2, q3, q4, q5, q6, q7, q8, q9, q10, q11, q12, q20, q48, q49, q57, q59, q99, q100, q999, nI_add, pk_mul, q_lt0, q_lt, q_eq, q_cl, q_gd, if_true, if_false, q_ofNat, q_min, q_max, ite_self, Nat.not_lt_zero, q_e10, q_e01, eq_self, not_true_eq_false, not_false_eq_true, and_true, true_and, and_false, false_and, or_true, true_or, or_false, false_or, q_gdT, Nat.reduceEqDiff, Bool.false_eq_true, Nat.lt_irrefl, Nat.or_zero]
  unfold ztu
  generalize zk T p = k at hk ⊢
  generalize zf T p = f at hk ⊢
  have hf := hk.2
  rcases q_k8 hk.1 with rfl | rfl | rfl | rfl | rfl | rfl | rfl | rfl <;> simp (disch := omega) [q0, q1, q2, q3, q4, q5, q6, q7, q8, q9, q10, q11, q12, q20, q48, q49, q57, q59, q99, q100, q999, nI_add, pk_mul, q_eq, q_div]
/-- BEARS as the reference has it -/
def zbI (T : zT) (p : Nat) : Int32 := match zk T p with
  | 1 => 1 | 3 => 9 | 4 => -1 | 5 => 2 | 7 => 3 | _ => 0
theorem m_bearsv (h : zMT m T) {p : Nat} (hp : p < zn T) : f_X12_bearsOf (nI p) m = some (zbI T p, m) := by
  have h7 := h.1.1
  have hk := h.1.2.2.2.1 p hp
  have e := h.2.2.2.2.1 p hp
  simp (disch := omega) only [f_X12_bearsOf, e.1, e.2, q_len37, q_len38, zzbd_s, zzlt_eq, zzon_n, zzon_s, q0, q1, q2, q3, q4, q5, q6, q7, q8, q9, q10, q11, q12, q20, q48, q49, q57, q59, q99, q100, q999, nI_add, pk_mul, q_lt0, q_lt, q_eq, q_cl, q_gd, if_true, if_false, q_ofNat, q_min, q_max, ite_self, Nat.not_lt_zero, q_e10, q_e01, eq_self, not_true_eq_false, not_false_eq_true, and_true, true_and, and_false, false_and, or_true, true_or, or_false, false_or, q_gdT, Nat.reduceEqDiff, Bool.false_eq_true, Nat.lt_irrefl, Nat.or_zero]
  unfold zbI
  generalize zk T p = k at hk ⊢
  rcases q_k8 hk.1 with rfl | rfl | rfl | rfl | rfl | rfl | rfl | rfl <;> simp (disch := omega) [q0, q1, q2, q3, q4, q5, q6, q7, q8, q9, q10, q11, q12, q20, q48, q49, q57, q59, q99, q100, q999, nI_add, pk_mul, q_eq, q_div]
theorem q_bI (T : zT) (p : Nat) (hk : zk T p < 8) : zzbears (zk T p, nI (zf T p)) = zbI T p := by
  unfold zzbears zbI
  generalize zk T p = k at hk ⊢
  rcases q_k8 hk with rfl | rfl | rfl | rfl | rfl | rfl | rfl | rfl <;> rfl
theorem q_bIlt (T : zT) (p : Nat) (hk : zk T p < 8) {L a : Nat} (hL : L < 100) (ha : a < 100) : (zbI T p + nI L < nI a) ↔ zbe T p + L < a + 1 := by
  rw [← q_bI T p hk]; exact q_bears T p hk hL ha
theorem m_may (h : zMT m T) {p q : Nat} (hp : p < zn T) (hq : q < zn T) [Decidable (zmay T (zl T) p q)] : f_X12_mayTurn (nI p) (nI q) m = some (if zmay T (zl T) p q then nI 1 else nI 0, m) := by
  have h7 := h.1.1
  have hL := h.1.2.1
  have hk := (h.1.2.2.2.1 p hp).1
  have ho := h.1.2.2.2.2.2.1 (7 * p + q) (by omega)
  by_cases e : p = q
  · rw [if_neg (fun z : zmay T (zl T) p q => z.1 e)]
    simp (disch := omega) only [f_X12_mayTurn, e, zzbd_s, zzlt_eq, zzon_n, zzon_s, q0, q1, q2, q3, q4, q5, q6, q7, q8, q9, q10, q11, q12, q20, q48, q49, q57, q59, q99, q100, q999, nI_add, pk_mul, q_lt0, q_lt, q_eq, q_cl, q_gd, if_true, if_false, q_ofNat, q_min, q_max, ite_self, Nat.not_lt_zero, q_e10, q_e01, eq_self, not_true_eq_false, not_false_eq_true, and_true, true_and, and_false, false_and, or_true, true_or, or_false, false_or, q_gdT, Nat.reduceEqDiff, Bool.false_eq_true, Nat.lt_irrefl, Nat.or_zero]
  · simp (disch := omega) only [f_X12_mayTurn, e, m_bearsv h hp, h.2.2.1, h.2.2.2.2.2.2, q_len40, q_bIlt T p hk, zzbd_s, zzlt_eq, zzon_n, zzon_s, q0, q1, q2, q3, q4, q5, q6, q7, q8, q9, q10, q11, q12, q20, q48, q49, q57, q59, q99, q100, q999, nI_add, pk_mul, q_lt0, q_lt, q_eq, q_cl, q_gd, if_true, if_false, q_ofNat, q_min, q_max, ite_self, Nat.not_lt_zero, q_e10, q_e01, eq_self, not_true_eq_false, not_false_eq_true, and_true, true_and, and_false, false_and, or_true, true_or, or_false, false_or, q_gdT, Nat.reduceEqDiff, Bool.false_eq_true, Nat.lt_irrefl, Nat.or_zero]
    by_cases h2 : zo T (7 * p + q) < zbe T p + zl T
    · rw [if_neg (show ¬ (zbe T p + zl T < zo T (7 * p + q) + 1) by omega), if_pos (show zmay T (zl T) p q from ⟨e, h2⟩)]
    · rw [if_pos (show zbe T p + zl T < zo T (7 * p + q) + 1 by omega), if_neg (fun z : zmay T (zl T) p q => h2 z.2)]
theorem m_lesser {a b : Nat} (ha : a < 2147483648) (hb : b < 2147483648) : f_X12_lesser (nI a) (nI b) m = some (nI (min a b), m) := by
  unfold f_X12_lesser
  by_cases c : a < b
  · rw [if_pos ((q_lt ha hb).mpr c), Nat.min_eq_left (by omega)]
  · rw [if_neg (fun z => c ((q_lt ha hb).mp z)), Nat.min_eq_right (by omega)]
theorem m_greater {a b : Nat} (ha : a < 2147483648) (hb : b < 2147483648) : f_X12_greater (nI a) (nI b) m = some (nI (max a b), m) := by
  unfold f_X12_greater
  by_cases c : b < a
  · rw [if_pos ((q_lt hb ha).mpr c), Nat.max_eq_left (by omega)]
  · rw [if_neg (fun z => c ((q_lt hb ha).mp z)), Nat.max_eq_right (by omega)]
end
section
variable {x : zzS} {t : Nat} {T : zT}
theorem x_has_bad (h : zXT x t T) {p : Int32} (hp : zbad (zn T) p) : f_X10_has t p x = some (nI 0, x) := by
  have h7 := h.1.1
  unfold f_X10_has
  by_cases c : p < 0
  · rw [if_pos c]; rfl
  · rw [if_neg c, h.2.1, if_neg (by rw [q_ltn p (by omega)]; rw [q_neg0] at c; have := hp; unfold zbad at this; omega)]; rfl
theorem x_has1 (h : zXT x t T) {p : Nat} (hp : p < zn T) : f_X10_has t (nI p) x = some (nI 1, x) := by
  rw [x_has h (by have := h.1.1; omega), if_pos hp]
theorem x_two_bad (h : zXT x t T) {p q : Int32} (hb : zbad (zn T) p ∨ zbad (zn T) q) : f_X10_areTwo t p q x = some (nI 0, x) := by
  have h7 := h.1.1
  rcases q_cls p (zn T) (by omega) with ⟨i, hi, rfl⟩ | hp
  · have hq : zbad (zn T) q := hb.resolve_left (fun z => q_badeq z hi (by omega) rfl)
    simp (disch := omega) only [f_X10_areTwo, x_has1 h hi, x_has_bad h hq, q_e1_0, zzbd_s, zzlt_eq, zzon_n, zzon_s, q0, q1, q2, q3, q4, q5, q6, q7, q8, q9, q10, q11, q12, q20, q48, q49, q57, q59, q99, q100, q999, nI_add, pk_mul, q_lt0, q_lt, q_eq, q_cl, q_gd, if_true, if_false, q_ofNat, q_min, q_max, ite_self, Nat.not_lt_zero, q_e10, q_e01, eq_self, not_true_eq_false, not_false_eq_true, and_true, true_and, and_false, false_and, or_true, true_or, or_false, false_or, q_gdT, Nat.reduceEqDiff, Bool.false_eq_true, Nat.lt_irrefl, Nat.or_zero]
  · simp (disch := omega) only [f_X10_areTwo, x_has_bad h hp, zzbd_s, zzlt_eq, zzon_n, zzon_s, q0, q1, q2, q3, q4, q5, q6, q7, q8, q9, q10, q11, q12, q20, q48, q49, q57, q59, q99, q100, q999, nI_add, pk_mul, q_lt0, q_lt, q_eq, q_cl, q_gd, if_true, if_false, q_ofNat, q_min, q_max, ite_self, Nat.not_lt_zero, q_e10, q_e01, eq_self, not_true_eq_false, not_false_eq_true, and_true, true_and, and_false, false_and, or_true, true_or, or_false, false_or, q_gdT, Nat.reduceEqDiff, Bool.false_eq_true, Nat.lt_irrefl, Nat.or_zero]
theorem x_12 {i : Nat} (hi : i < 2) : f_X11_isOneOfTwo (nI i) x = some (nI 1, x) := by
  rcases (show i = 0 ∨ i = 1 by omega) with rfl | rfl <;> rfl
theorem x_12_bad {p : Int32} (hp : zbad 2 p) : f_X11_isOneOfTwo p x = some (nI 0, x) := by
  have a := q_badeq hp (i := 0) (by omega) (by omega)
  have b := q_badeq hp (i := 1) (by omega) (by omega)
  unfold f_X11_isOneOfTwo
  rw [q0, q1, if_neg a, if_neg b]
end
