/-! ===== the class's town, method by method: reads ===== -/
theorem q_grows (T : zT) (p : Nat) (hk : zk T p < 8) (hf : zf T p ≤ 9) : zzgrows (zk T p, nI (zf T p)) = nI (zgr T p) ∧ zgr T p ≤ 5 := by
  unfold zzgrows zgr
  generalize zk T p = k at hk ⊢
  generalize zf T p = f at hf ⊢
  rcases q_k8 hk with rfl | rfl | rfl | rfl | rfl | rfl | rfl | rfl <;> refine ⟨?_, ?_⟩ <;> first | rfl | omega | (simp; done) | (simp; omega) | (simp (disch := omega) only [q0, q1, q2, q3, q4, q5, q6, q7, q8, q9, q10, q11, q12, q20, q48, q49, q57, q59, q99, q100, q999, nI_add, pk_mul, q_div, q_sub]; done)
theorem q_turns (T : zT) (p : Nat) (hk : zk T p < 8) (hf : zf T p ≤ 9) : zzturns (zk T p, nI (zf T p)) = nI (ztu T p) ∧ ztu T p ≤ 5 ∧ 1 ≤ ztu T p := by
  unfold zzturns ztu
  generalize zk T p = k at hk ⊢
  generalize zf T p = f at hf ⊢
  rcases q_k8 hk with rfl | rfl | rfl | rfl | rfl | rfl | rfl | rfl <;> refine ⟨?_, ?_, ?_⟩ <;> first | rfl | omega | (simp; done) | (simp; omega) | (simp (disch := omega) only [q0, q1, q2, q3, q4, q5, q6, q7, q8, q9, q10, q11, q12, q20, q48, q49, q57, q59, q99, q100, q999, nI_add, pk_mul, q_div, q_sub]; done)
theorem q_shows (T : zT) (p f : Nat) (hk : zk T p < 8) (hf : f ≤ 9) : zzshows (zk T p, nI (zf T p)) (nI f) = nI (zsh T p f) ∧ zsh T p f ≤ 9 := by
  unfold zzshows zsh
  generalize zk T p = k at hk ⊢
  rcases q_k8 hk with rfl | rfl | rfl | rfl | rfl | rfl | rfl | rfl <;> refine ⟨?_, ?_⟩ <;> first | rfl | omega | (simp; done) | (simp; omega) | (simp (disch := omega) only [q0, q1, q2, q3, q4, q5, q6, q7, q8, q9, q10, q11, q12, q20, q48, q49, q57, q59, q99, q100, q999, nI_add, pk_mul, q_div, q_sub]; done)
theorem q_number (T : zT) (p : Nat) : zznumber (zk T p, nI (zf T p)) = nI (zk T p) := rfl
theorem q_m1lt {a L : Nat} (ha : a < 1000) (hL : L < 1000) : (-1 + nI L < nI a) ↔ L < a + 1 := by
  have h1 : ((-1 : Int32) + nI L) = nI (L + 4294967295) := by
    have : (-1 : Int32) = nI 4294967295 := by decide +kernel
    rw [this, nI_add, Nat.add_comm]
  rcases Nat.eq_zero_or_pos L with h | h
  · subst h
    have h2 : ((-1 : Int32) + nI 0) = -1 := by decide +kernel
    rw [h2, Int32.lt_iff_toInt_lt, nI_toInt (by omega)]
    have h3 : (-1 : Int32).toInt = -1 := by decide +kernel
    rw [h3]
    omega
  · have h2 : nI (L + 4294967295) = nI (L - 1) := by
      have h4 : L + 4294967295 = (L - 1) + 4294967296 := by omega
      have h3 : nI 4294967296 = nI 0 := by decide +kernel
      rw [h4, ← nI_add, h3, nI_add, Nat.add_zero]
    rw [h1, h2, nI_ltI (by omega) (by omega)]
    omega
/-- BEARS and a limit against how fond one is -/
theorem q_bears (T : zT) (p : Nat) (hk : zk T p < 8) {L a : Nat} (hL : L < 100) (ha : a < 100) : (zzbears (zk T p, nI (zf T p)) + nI L < nI a) ↔ zbe T p + L < a + 1 := by
  unfold zzbears zbe
  generalize zk T p = k at hk ⊢
  rcases q_k8 hk with rfl | rfl | rfl | rfl | rfl | rfl | rfl | rfl <;> first | (simp (disch := omega) only [q0, q1, q2, q3, q4, q5, q6, q7, q8, q9, q10, q11, q12, q20, q48, q49, q57, q59, q99, q100, q999, nI_add, pk_mul, q_lt]; omega) | (simp only []; rw [q_m1lt (by omega) (by omega)]; omega)
section
variable {x : zzS} {t : Nat} {T : zT}
theorem x_has (h : zXT x t T) {p : Nat} (hp : p < 2147483648) : f_X10_has t (nI p) x = some (if p < zn T then nI 1 else nI 0, x) := by
  have h7 := h.1.1
  by_cases e : p < zn T <;> simp (disch := omega) only [f_X10_has, h.2.1, e, zzbd_s, zzlt_eq, zzon_n, zzon_s, q0, q1, q2, q3, q4, q5, q6, q7, q8, q9, q10, q11, q12, q20, q48, q49, q57, q59, q99, q100, q999, nI_add, pk_mul, q_lt0, q_lt, q_eq, q_cl, q_gd, if_true, if_false, q_ofNat, q_min, q_max, ite_self, Nat.not_lt_zero, q_e10, q_e01, eq_self, not_true_eq_false, not_false_eq_true, and_true, true_and, and_false, false_and, or_true, true_or, or_false, false_or, q_gdT, Nat.reduceEqDiff, Bool.false_eq_true, Nat.lt_irrefl, Nat.or_zero]
theorem x_two (h : zXT x t T) {p q : Nat} (hp : p < zn T) (hq : q < zn T) : f_X10_areTwo t (nI p) (nI q) x = some (if p = q then nI 0 else nI 1, x) := by
  have h7 := h.1.1
  by_cases e : p = q <;> simp (disch := omega) only [f_X10_areTwo, x_has h, hp, hq, e, zzbd_s, zzlt_eq, zzon_n, zzon_s, q0, q1, q2, q3, q4, q5, q6, q7, q8, q9, q10, q11, q12, q20, q48, q49, q57, q59, q99, q100, q999, nI_add, pk_mul, q_lt0, q_lt, q_eq, q_cl, q_gd, if_true, if_false, q_ofNat, q_min, q_max, ite_self, Nat.not_lt_zero, q_e10, q_e01, eq_self, not_true_eq_false, not_false_eq_true, and_true, true_and, and_false, false_and, or_true, true_or, or_false, false_or, q_gdT, Nat.reduceEqDiff, Bool.false_eq_true, Nat.lt_irrefl, Nat.or_zero]
theorem x_read {k : Nat} {i : Nat} (hi : i < zzlen k) (hk : zzlen k < 2147483648) : f_X11_read k (nI i) x = some (zza x k i, x) := by
  simp (disch := omega) only [f_X11_read, hi, zzbd_s, zzlt_eq, zzon_n, zzon_s, q0, q1, q2, q3, q4, q5, q6, q7, q8, q9, q10, q11, q12, q20, q48, q49, q57, q59, q99, q100, q999, nI_add, pk_mul, q_lt0, q_lt, q_eq, q_cl, q_gd, if_true, if_false, q_ofNat, q_min, q_max, ite_self, Nat.not_lt_zero, q_e10, q_e01, eq_self, not_true_eq_false, not_false_eq_true, and_true, true_and, and_false, false_and, or_true, true_or, or_false, false_or, q_gdT, Nat.reduceEqDiff, Bool.false_eq_true, Nat.lt_irrefl, Nat.or_zero]
theorem x_fondOf (h : zXT x t T) (ht : zztown t) {p q : Nat} (hp : p < zn T) (hq : q < zn T) : f_X10_fondOf t (nI p) (nI q) x = some (if p = q then nI 0 else nI (zo T (7 * p + q)), x) := by
  have h7 := h.1.1
  have h3 := q_len3 ht
  simp only [f_X10_fondOf, x_two h hp hq, zzbd_s, zzlt_eq, zzon_n, zzon_s, q0, q1, q2, q3, q4, q5, q6, q7, q8, q9, q10, q11, q12, q20, q48, q49, q57, q59, q99, q100, q999, nI_add, pk_mul, q_lt0, q_lt, q_eq, q_cl, q_gd, if_true, if_false, q_ofNat, q_min, q_max, ite_self, Nat.not_lt_zero, q_e10, q_e01, eq_self, not_true_eq_false, not_false_eq_true, and_true, true_and, and_false, false_and, or_true, true_or, or_false, false_or, q_gdT, Nat.reduceEqDiff, Bool.false_eq_true, Nat.lt_irrefl, Nat.or_zero]
  by_cases e : p = q
  · simp (disch := omega) only [e, zzbd_s, zzlt_eq, zzon_n, zzon_s, q0, q1, q2, q3, q4, q5, q6, q7, q8, q9, q10, q11, q12, q20, q48, q49, q57, q59, q99, q100, q999, nI_add, pk_mul, q_lt0, q_lt, q_eq, q_cl, q_gd, if_true, if_false, q_ofNat, q_min, q_max, ite_self, Nat.not_lt_zero, q_e10, q_e01, eq_self, not_true_eq_false, not_false_eq_true, and_true, true_and, and_false, false_and, or_true, true_or, or_false, false_or, q_gdT, Nat.reduceEqDiff, Bool.false_eq_true, Nat.lt_irrefl, Nat.or_zero]
  · simp (disch := omega) only [e, x_read, h.2.2.2.2.2.2, zzbd_s, zzlt_eq, zzon_n, zzon_s, q0, q1, q2, q3, q4, q5, q6, q7, q8, q9, q10, q11, q12, q20, q48, q49, q57, q59, q99, q100, q999, nI_add, pk_mul, q_lt0, q_lt, q_eq, q_cl, q_gd, if_true, if_false, q_ofNat, q_min, q_max, ite_self, Nat.not_lt_zero, q_e10, q_e01, eq_self, not_true_eq_false, not_false_eq_true, and_true, true_and, and_false, false_and, or_true, true_or, or_false, false_or, q_gdT, Nat.reduceEqDiff, Bool.false_eq_true, Nat.lt_irrefl, Nat.or_zero]
    rw [Nat.mul_comm p 7]
theorem x_at (h : zXT x t T) (ht : zztown t) {p : Nat} (hp : p < zn T) : f_X10_at t (nI p) x = some (some (zk T p, nI (zf T p)), x) := by
  have h7 := h.1.1
  have h8 : p < 7 := by omega
  simp (disch := omega) only [f_X10_at, q_plen ht, h.2.2.2.2.1 p hp, f_X10_at_23, h8, zzbd_s, zzlt_eq, zzon_n, zzon_s, q0, q1, q2, q3, q4, q5, q6, q7, q8, q9, q10, q11, q12, q20, q48, q49, q57, q59, q99, q100, q999, nI_add, pk_mul, q_lt0, q_lt, q_eq, q_cl, q_gd, if_true, if_false, q_ofNat, q_min, q_max, ite_self, Nat.not_lt_zero, q_e10, q_e01, eq_self, not_true_eq_false, not_false_eq_true, and_true, true_and, and_false, false_and, or_true, true_or, or_false, false_or, q_gdT, Nat.reduceEqDiff, Bool.false_eq_true, Nat.lt_irrefl, Nat.or_zero]
theorem x_turnedOf (h : zXT x t T) (ht : zztown t) {p : Nat} (hp : p < zn T) : f_X10_turnedOf t (nI p) x = some (nI (zt T p), x) := by
  have h7 := h.1.1
  have h3 := q_len2 ht
  simp (disch := omega) only [f_X10_turnedOf, x_has h, hp, x_read, h.2.2.2.2.2.1, zzbd_s, zzlt_eq, zzon_n, zzon_s, q0, q1, q2, q3, q4, q5, q6, q7, q8, q9, q10, q11, q12, q20, q48, q49, q57, q59, q99, q100, q999, nI_add, pk_mul, q_lt0, q_lt, q_eq, q_cl, q_gd, if_true, if_false, q_ofNat, q_min, q_max, ite_self, Nat.not_lt_zero, q_e10, q_e01, eq_self, not_true_eq_false, not_false_eq_true, and_true, true_and, and_false, false_and, or_true, true_or, or_false, false_or, q_gdT, Nat.reduceEqDiff, Bool.false_eq_true, Nat.lt_irrefl, Nat.or_zero]
theorem x_may (h : zXT x t T) (ht : zztown t) {p q L : Nat} (hp : p < zn T) (hq : q < zn T) (hL : L < 100) [Decidable (zmay T L p q)] : f_X10_may t (nI p) (nI q) (nI L) x = some (if zmay T L p q then nI 1 else nI 0, x) := by
  have h7 := h.1.1
  have hk := (h.1.2.2.2.1 p hp).1
  have ho := h.1.2.2.2.2.2.1 (7 * p + q) (by omega)
  simp (disch := omega) only [f_X10_may, x_two h hp hq, x_fondOf h ht hp hq, x_at h ht hp, zzbd_s, zzlt_eq, zzon_n, zzon_s, q0, q1, q2, q3, q4, q5, q6, q7, q8, q9, q10, q11, q12, q20, q48, q49, q57, q59, q99, q100, q999, nI_add, pk_mul, q_lt0, q_lt, q_eq, q_cl, q_gd, if_true, if_false, q_ofNat, q_min, q_max, ite_self, Nat.not_lt_zero, q_e10, q_e01, eq_self, not_true_eq_false, not_false_eq_true, and_true, true_and, and_false, false_and, or_true, true_or, or_false, false_or, q_gdT, Nat.reduceEqDiff, Bool.false_eq_true, Nat.lt_irrefl, Nat.or_zero]
  by_cases e : p = q
  · rw [if_neg (fun z : zmay T L p q => z.1 e)]
    simp (disch := omega) only [e, zzbd_s, zzlt_eq, zzon_n, zzon_s, q0, q1, q2, q3, q4, q5, q6, q7, q8, q9, q10, q11, q12, q20, q48, q49, q57, q59, q99, q100, q999, nI_add, pk_mul, q_lt0, q_lt, q_eq, q_cl, q_gd, if_true, if_false, q_ofNat, q_min, q_max, ite_self, Nat.not_lt_zero, q_e10, q_e01, eq_self, not_true_eq_false, not_false_eq_true, and_true, true_and, and_false, false_and, or_true, true_or, or_false, false_or, q_gdT, Nat.reduceEqDiff, Bool.false_eq_true, Nat.lt_irrefl, Nat.or_zero]
  · simp (disch := omega) only [e, zzbd_s, zzlt_eq, zzon_n, zzon_s, q0, q1, q2, q3, q4, q5, q6, q7, q8, q9, q10, q11, q12, q20, q48, q49, q57, q59, q99, q100, q999, nI_add, pk_mul, q_lt0, q_lt, q_eq, q_cl, q_gd, if_true, if_false, q_ofNat, q_min, q_max, ite_self, Nat.not_lt_zero, q_e10, q_e01, eq_self, not_true_eq_false, not_false_eq_true, and_true, true_and, and_false, false_and, or_true, true_or, or_false, false_or, q_gdT, Nat.reduceEqDiff, Bool.false_eq_true, Nat.lt_irrefl, Nat.or_zero, q_bears T p hk]
    by_cases h2 : zo T (7 * p + q) < zbe T p + L
    · rw [if_neg (show ¬ (zbe T p + L < zo T (7 * p + q) + 1) by omega), if_pos (show zmay T L p q from ⟨e, h2⟩)]
    · rw [if_pos (show zbe T p + L < zo T (7 * p + q) + 1 by omega), if_neg (fun z : zmay T L p q => h2 z.2)]
end
