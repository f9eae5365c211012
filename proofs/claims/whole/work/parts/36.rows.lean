/-! ===== rows ===== -/
section
variable {x m : zzS} {t : Nat} {T : zT}
theorem zXT_hi {x' : zzS} (ht : zztown t) (h : zXT x t T) (h1 : ∀ k f, 20 ≤ k → zzi x' k f = zzi x k f) (h2 : ∀ k f, 20 ≤ k → zza x' k f = zza x k f) (h3 : ∀ k f, 20 ≤ k → zzr x' k f = zzr x k f) : zXT x' t T := by
  have g : 20 ≤ t := by rcases ht with rfl | rfl | rfl <;> omega
  refine ⟨h.1, ?_, ?_, ?_, ?_, ?_, ?_⟩
  · rw [h1 _ _ g]; exact h.2.1
  · rw [h1 _ _ g]; exact h.2.2.1
  · rw [h1 _ _ g]; exact h.2.2.2.1
  · intro p hp; rw [h3 _ _ (by omega)]; exact h.2.2.2.2.1 p hp
  · intro p hp; rw [h2 _ _ (by omega)]; exact h.2.2.2.2.2.1 p hp
  · intro p hp; rw [h2 _ _ (by omega)]; exact h.2.2.2.2.2.2 p hp
theorem q_lenr {d : Nat} (h : d < 8) : zzlen (4 + 2 * d + 1) = 100 := by
  rcases q_k8 h with rfl | rfl | rfl | rfl | rfl | rfl | rfl | rfl <;> rfl
theorem q_dec1 {n : Nat} (h : n ≤ 100) : (nI n - nI 1).toInt = (n : Int) - 1 := by
  rcases Nat.eq_zero_or_pos n with e | e
  · subst e; decide +kernel
  · rw [q_sub (by omega), nI_toInt (by omega)]; omega
theorem x7_has {r n i : Nat} (h : zzi x r 2 = nI n) (hn : n ≤ 100) (hi : i < n) : f_X7_has r (nI i) (nI 1) x = some (nI 1, x) := by
  have c1 : ¬ n < 1 := by omega
  have c2 : ¬ n - 1 < i := by omega
  simp (disch := omega) only [f_X7_has, h, c1, c2, q_sub, zzbd_s, zzlt_eq, zzon_n, zzon_s, q0, q1, q2, q3, q4, q5, q6, q7, q8, q9, q10, q11, q12, q20, q48, q49, q57, q59, q99, q100, q999, nI_add, pk_mul, q_lt0, q_lt, q_eq, q_cl, q_gd, if_true, if_false, q_ofNat, q_min, q_max, ite_self, Nat.not_lt_zero, q_e10, q_e01, eq_self, not_true_eq_false, not_false_eq_true, and_true, true_and, and_false, false_and, or_true, true_or, or_false, false_or, q_gdT, Nat.reduceEqDiff, Bool.false_eq_true, Nat.lt_irrefl, Nat.or_zero]
theorem x7_has_bad {r n : Nat} {p : Int32} (h : zzi x r 2 = nI n) (hn : n ≤ 100) (hp : zbad n p) : f_X7_has r p (nI 1) x = some (nI 0, x) := by
  by_cases c0 : p < nI 0
  · simp (disch := omega) only [f_X7_has, c0, zzbd_s, zzlt_eq, zzon_n, zzon_s, q0, q1, q2, q3, q4, q5, q6, q7, q8, q9, q10, q11, q12, q20, q48, q49, q57, q59, q99, q100, q999, nI_add, pk_mul, q_lt0, q_lt, q_eq, q_cl, q_gd, if_true, if_false, q_ofNat, q_min, q_max, ite_self, Nat.not_lt_zero, q_e10, q_e01, eq_self, not_true_eq_false, not_false_eq_true, and_true, true_and, and_false, false_and, or_true, true_or, or_false, false_or, q_gdT, Nat.reduceEqDiff, Bool.false_eq_true, Nat.lt_irrefl, Nat.or_zero]
  · by_cases c1 : n < 1
    · simp (disch := omega) only [f_X7_has, c0, h, c1, zzbd_s, zzlt_eq, zzon_n, zzon_s, q0, q1, q2, q3, q4, q5, q6, q7, q8, q9, q10, q11, q12, q20, q48, q49, q57, q59, q99, q100, q999, nI_add, pk_mul, q_lt0, q_lt, q_eq, q_cl, q_gd, if_true, if_false, q_ofNat, q_min, q_max, ite_self, Nat.not_lt_zero, q_e10, q_e01, eq_self, not_true_eq_false, not_false_eq_true, and_true, true_and, and_false, false_and, or_true, true_or, or_false, false_or, q_gdT, Nat.reduceEqDiff, Bool.false_eq_true, Nat.lt_irrefl, Nat.or_zero]
    · have c2 : nI (n - 1) < p := by
        rw [q_nlt _ (by omega)]
        rw [← q0, q_neg0] at c0
        have := hp; unfold zbad at this; omega
      simp (disch := omega) only [f_X7_has, c0, h, c1, c2, q_sub, zzbd_s, zzlt_eq, zzon_n, zzon_s, q0, q1, q2, q3, q4, q5, q6, q7, q8, q9, q10, q11, q12, q20, q48, q49, q57, q59, q99, q100, q999, nI_add, pk_mul, q_lt0, q_lt, q_eq, q_cl, q_gd, if_true, if_false, q_ofNat, q_min, q_max, ite_self, Nat.not_lt_zero, q_e10, q_e01, eq_self, not_true_eq_false, not_false_eq_true, and_true, true_and, and_false, false_and, or_true, true_or, or_false, false_or, q_gdT, Nat.reduceEqDiff, Bool.false_eq_true, Nat.lt_irrefl, Nat.or_zero]
theorem x7_at {d n i : Nat} (hd : d < 8) (h : zzi x (4 + 2 * d) 2 = nI n) (hn : n ≤ 100) (hi : i < n) : f_X7_at (4 + 2 * d) (nI i) x = some (zza x (5 + 2 * d) i, x) := by
  have hl := q_lenr hd
  have e : 4 + 2 * d + 1 = 5 + 2 * d := by omega
  rw [e] at hl
  simp (disch := omega) only [f_X7_at, x7_has h hn hi, q_e1_0, e, x_read, zzbd_s, zzlt_eq, zzon_n, zzon_s, q0, q1, q2, q3, q4, q5, q6, q7, q8, q9, q10, q11, q12, q20, q48, q49, q57, q59, q99, q100, q999, nI_add, pk_mul, q_lt0, q_lt, q_eq, q_cl, q_gd, if_true, if_false, q_ofNat, q_min, q_max, ite_self, Nat.not_lt_zero, q_e10, q_e01, eq_self, not_true_eq_false, not_false_eq_true, and_true, true_and, and_false, false_and, or_true, true_or, or_false, false_or, q_gdT, Nat.reduceEqDiff, Bool.false_eq_true, Nat.lt_irrefl, Nat.or_zero]
theorem x7_at_bad {d n : Nat} {p : Int32} (h : zzi x (4 + 2 * d) 2 = nI n) (hn : n ≤ 100) (hp : zbad n p) : f_X7_at (4 + 2 * d) p x = some (nI 0, x) := by
  simp (disch := omega) only [f_X7_at, x7_has_bad h hn hp, zzbd_s, zzlt_eq, zzon_n, zzon_s, q0, q1, q2, q3, q4, q5, q6, q7, q8, q9, q10, q11, q12, q20, q48, q49, q57, q59, q99, q100, q999, nI_add, pk_mul, q_lt0, q_lt, q_eq, q_cl, q_gd, if_true, if_false, q_ofNat, q_min, q_max, ite_self, Nat.not_lt_zero, q_e10, q_e01, eq_self, not_true_eq_false, not_false_eq_true, and_true, true_and, and_false, false_and, or_true, true_or, or_false, false_or, q_gdT, Nat.reduceEqDiff, Bool.false_eq_true, Nat.lt_irrefl, Nat.or_zero]
/-- what a sort makes of an int -/
def znar (s : Nat) (v : Int32) : Int32 := if s = 0 then v.toInt8.toInt32 else if s = 1 then v.toInt16.toInt32 else v
theorem m_narrowed {s : Nat} (hs : s < 3) (v : Int32) : f_X12_narrowed v (nI s) m = some ((znar s v).toInt64, m) := by
  rcases (show s = 0 ∨ s = 1 ∨ s = 2 by omega) with rfl | rfl | rfl <;> rfl
theorem x7_set {d s n i : Nat} (hd : d < 8) (hs : s < 3) (h1 : zzi x (4 + 2 * d) 1 = nI s) (h : zzi x (4 + 2 * d) 2 = nI n) (hn : n ≤ 100) (hi : i < n) (v : Int32) : f_X7_set (4 + 2 * d) (nI i) v x = some (nI 1, zzsa x (5 + 2 * d) i (znar s v)) := by
  have hl := q_lenr hd
  have e : 4 + 2 * d + 1 = 5 + 2 * d := by omega
  rw [e] at hl
  unfold znar
  rcases (show s = 0 ∨ s = 1 ∨ s = 2 by omega) with rfl | rfl | rfl <;> simp (disch := omega) only [f_X7_set, f_X7_set_42, x7_has h hn hi, h1, q_e1_0, e, x_write, zzbd_s, zzlt_eq, zzon_n, zzon_s, q0, q1, q2, q3, q4, q5, q6, q7, q8, q9, q10, q11, q12, q20, q48, q49, q57, q59, q99, q100, q999, nI_add, pk_mul, q_lt0, q_lt, q_eq, q_cl, q_gd, if_true, if_false, q_ofNat, q_min, q_max, ite_self, Nat.not_lt_zero, q_e10, q_e01, eq_self, not_true_eq_false, not_false_eq_true, and_true, true_and, and_false, false_and, or_true, true_or, or_false, false_or, q_gdT, Nat.reduceEqDiff, Bool.false_eq_true, Nat.lt_irrefl, Nat.or_zero]
theorem x7_set_bad {d n : Nat} {p : Int32} (h : zzi x (4 + 2 * d) 2 = nI n) (hn : n ≤ 100) (hp : zbad n p) (v : Int32) : f_X7_set (4 + 2 * d) p v x = some (nI 0, x) := by
  simp (disch := omega) only [f_X7_set, x7_has_bad h hn hp, zzbd_s, zzlt_eq, zzon_n, zzon_s, q0, q1, q2, q3, q4, q5, q6, q7, q8, q9, q10, q11, q12, q20, q48, q49, q57, q59, q99, q100, q999, nI_add, pk_mul, q_lt0, q_lt, q_eq, q_cl, q_gd, if_true, if_false, q_ofNat, q_min, q_max, ite_self, Nat.not_lt_zero, q_e10, q_e01, eq_self, not_true_eq_false, not_false_eq_true, and_true, true_and, and_false, false_and, or_true, true_or, or_false, false_or, q_gdT, Nat.reduceEqDiff, Bool.false_eq_true, Nat.lt_irrefl, Nat.or_zero]
theorem m_inr {n i : Nat} (hn : n ≤ 100) (hi : i < n) : f_X12_in (nI i).toInt64 (0 : Int64) (nI n - nI 1).toInt64 m = some (nI 1, m) := by
  have e0 : (0 : Int64).toInt = 0 := rfl
  rw [m_in, Int32.toInt_toInt64, q_dec1 hn, nI_toInt (by omega), e0, if_pos (by omega)]
theorem m_inr_bad {n : Nat} {p : Int32} (hn : n ≤ 100) (hp : zbad n p) : f_X12_in p.toInt64 (0 : Int64) (nI n - nI 1).toInt64 m = some (nI 0, m) := by
  have e0 : (0 : Int64).toInt = 0 := rfl
  rw [m_in, Int32.toInt_toInt64, q_dec1 hn, e0, if_neg (by have := hp; unfold zbad at this; omega)]
end
theorem s_put (d i v : Int32) : zSim (f_X11_put d i v) (f_X12_put d i v) := by
  intro x m ⟨⟨T, hx, hm⟩, hs, hi⟩
  have p1 := zPM_13 m (nI 0)
  have hm1 : zMT (zzsi m 36 13 (nI 0)) T := hm
  have hs1 := zSh_13 hs (nI 0)
  have hi1 := zIm_p hi (zPX_refl x) p1
  rcases q_rowd hs1 d with ⟨e, s, n, he, rfl, hs3, hn, a1, a2, a3, a4, a5, a6, a7⟩ | ⟨a1, r, hr, a2, a3⟩
  · have hrow := q_row8 he
    rcases q_cls i n (by omega) with ⟨j, hj, rfl⟩ | hb
    · refine ⟨nI 0, zzsa x (5 + 2 * e) j (znar s v), zzsl (zzsi m 36 13 (nI 0)) 53 (100 * e + j) (znar s v).toInt64, ?_, ?_, ⟨T, ?_, hm⟩, ?_, ?_⟩
      · simp (disch := omega) only [f_X11_put, a1, zzgd_t hrow, x7_set he hs3 a4 a5 hn hj, q_e1_0, zzbd_s, zzlt_eq, zzon_n, zzon_s, q0, q1, q2, q3, q4, q5, q6, q7, q8, q9, q10, q11, q12, q20, q48, q49, q57, q59, q99, q100, q999, nI_add, pk_mul, q_lt0, q_lt, q_eq, q_cl, q_gd, if_true, if_false, q_ofNat, q_min, q_max, ite_self, Nat.not_lt_zero, q_e10, q_e01, eq_self, not_true_eq_false, not_false_eq_true, and_true, true_and, and_false, false_and, or_true, true_or, or_false, false_or, q_gdT, Nat.reduceEqDiff, Bool.false_eq_true, Nat.lt_irrefl, Nat.or_zero]
      · simp (disch := omega) only [f_X12_put, a7, a2, a3, q_len44, q_len45, m_inr hn hj, m_narrowed hs3, q_e1_0, zzbd_s, zzlt_eq, zzon_n, zzon_s, q0, q1, q2, q3, q4, q5, q6, q7, q8, q9, q10, q11, q12, q20, q48, q49, q57, q59, q99, q100, q999, nI_add, pk_mul, q_lt0, q_lt, q_eq, q_cl, q_gd, if_true, if_false, q_ofNat, q_min, q_max, ite_self, Nat.not_lt_zero, q_e10, q_e01, eq_self, not_true_eq_false, not_false_eq_true, and_true, true_and, and_false, false_and, or_true, true_or, or_false, false_or, q_gdT, Nat.reduceEqDiff, Bool.false_eq_true, Nat.lt_irrefl, Nat.or_zero]
      · exact zXT_hi (Or.inl rfl) hx (fun _ _ _ => rfl) (fun k f c => by rw [q_aa, if_neg (by omega)]) (fun _ _ _ => rfl)
      · intro d hd
        rcases hs1 d hd with h | h | ⟨h1, h2, h3, s', n', h4, h5, h6, h7, h8, h9, h10⟩
        · exact Or.inl h
        · exact Or.inr (Or.inl h)
        · refine Or.inr (Or.inr ⟨h1, h2, h3, s', n', h4, h5, h6, h7, h8, h9, fun k hk => ?_⟩)
          rw [q_ll, q_aa]
          by_cases c : d = e ∧ k = j
          · rw [if_pos (by omega), if_pos (by omega)]
          · rw [if_neg (by omega), if_neg (by omega)]; exact h10 k hk
      · rcases hi1 with h | ⟨h1, h2, U, h3, h4⟩
        · exact Or.inl h
        · exact Or.inr ⟨h1, h2, U, zXT_hi (Or.inr (Or.inr rfl)) h3 (fun _ _ _ => rfl) (fun k f c => by rw [q_aa, if_neg (by omega)]) (fun _ _ _ => rfl), h4⟩
    · refine ⟨-13, x, _, ?_, ?_, ⟨T, hx, hm1⟩, hs1, hi1⟩
      · simp (disch := omega) only [f_X11_put, a1, zzgd_t hrow, x7_set_bad a5 hn hb, zzbd_s, zzlt_eq, zzon_n, zzon_s, q0, q1, q2, q3, q4, q5, q6, q7, q8, q9, q10, q11, q12, q20, q48, q49, q57, q59, q99, q100, q999, nI_add, pk_mul, q_lt0, q_lt, q_eq, q_cl, q_gd, if_true, if_false, q_ofNat, q_min, q_max, ite_self, Nat.not_lt_zero, q_e10, q_e01, eq_self, not_true_eq_false, not_false_eq_true, and_true, true_and, and_false, false_and, or_true, true_or, or_false, false_or, q_gdT, Nat.reduceEqDiff, Bool.false_eq_true, Nat.lt_irrefl, Nat.or_zero]
      · simp (disch := omega) only [f_X12_put, a7, a3, q_len45, m_inr_bad hn hb, zzbd_s, zzlt_eq, zzon_n, zzon_s, q0, q1, q2, q3, q4, q5, q6, q7, q8, q9, q10, q11, q12, q20, q48, q49, q57, q59, q99, q100, q999, nI_add, pk_mul, q_lt0, q_lt, q_eq, q_cl, q_gd, if_true, if_false, q_ofNat, q_min, q_max, ite_self, Nat.not_lt_zero, q_e10, q_e01, eq_self, not_true_eq_false, not_false_eq_true, and_true, true_and, and_false, false_and, or_true, true_or, or_false, false_or, q_gdT, Nat.reduceEqDiff, Bool.false_eq_true, Nat.lt_irrefl, Nat.or_zero]
  · have hr' : r < nI 0 := hr
    refine ⟨r, x, _, ?_, ?_, ⟨T, hx, hm1⟩, hs1, hi1⟩
    · simp (disch := omega) only [f_X11_put, a1, a2, zzbd_s, zzlt_eq, zzon_n, zzon_s, q0, q1, q2, q3, q4, q5, q6, q7, q8, q9, q10, q11, q12, q20, q48, q49, q57, q59, q99, q100, q999, nI_add, pk_mul, q_lt0, q_lt, q_eq, q_cl, q_gd, if_true, if_false, q_ofNat, q_min, q_max, ite_self, Nat.not_lt_zero, q_e10, q_e01, eq_self, not_true_eq_false, not_false_eq_true, and_true, true_and, and_false, false_and, or_true, true_or, or_false, false_or, q_gdT, Nat.reduceEqDiff, Bool.false_eq_true, Nat.lt_irrefl, Nat.or_zero]
    · simp (disch := omega) only [f_X12_put, a3, hr', zzbd_s, zzlt_eq, zzon_n, zzon_s, q0, q1, q2, q3, q4, q5, q6, q7, q8, q9, q10, q11, q12, q20, q48, q49, q57, q59, q99, q100, q999, nI_add, pk_mul, q_lt0, q_lt, q_eq, q_cl, q_gd, if_true, if_false, q_ofNat, q_min, q_max, ite_self, Nat.not_lt_zero, q_e10, q_e01, eq_self, not_true_eq_false, not_false_eq_true, and_true, true_and, and_false, false_and, or_true, true_or, or_false, false_or, q_gdT, Nat.reduceEqDiff, Bool.false_eq_true, Nat.lt_irrefl, Nat.or_zero]
-- a row made anew
theorem x_new_l {d : Nat} (hd : d < 8) (u v : Int32) : ∀ e n i y, i + e = 100 → e < n → (∀ j, j < i → zza y (5 + 2 * d) j = nI 0) → ∃ y', f_X7_beginAnew_12 (4 + 2 * d) u v n (nI i) y = some ((), y') ∧ (∀ j, j < 100 → zza y' (5 + 2 * d) j = nI 0) ∧ (∀ k f, zzi y' k f = zzi y k f) ∧ (∀ k f, ¬ k = 5 + 2 * d → zza y' k f = zza y k f) ∧ (∀ k f, zzr y' k f = zzr y k f) ∧ ∀ f, zzq y' f = zzq y f := by
  have hl := q_lenr hd
  have e0 : 4 + 2 * d + 1 = 5 + 2 * d := by omega
  rw [e0] at hl
  intro e
  induction e with
  | zero =>
    intro n i y hi hn h
    obtain ⟨n, rfl⟩ : ∃ n', n = n' + 1 := ⟨n - 1, by omega⟩
    have : i = 100 := by omega
    subst this
    exact ⟨y, by simp (disch := omega) only [f_X7_beginAnew_12, f_X7_beginAnew_12b, e0, hl, zzbd_s, zzlt_eq, zzon_n, zzon_s, q0, q1, q2, q3, q4, q5, q6, q7, q8, q9, q10, q11, q12, q20, q48, q49, q57, q59, q99, q100, q999, nI_add, pk_mul, q_lt0, q_lt, q_eq, q_cl, q_gd, if_true, if_false, q_ofNat, q_min, q_max, ite_self, Nat.not_lt_zero, q_e10, q_e01, eq_self, not_true_eq_false, not_false_eq_true, and_true, true_and, and_false, false_and, or_true, true_or, or_false, false_or, q_gdT, Nat.reduceEqDiff, Bool.false_eq_true, Nat.lt_irrefl, Nat.or_zero], h, fun _ _ => rfl, fun _ _ _ => rfl, fun _ _ => rfl, fun _ => rfl⟩
  | succ e ih =>
    intro n i y hi hn h
    obtain ⟨n, rfl⟩ : ∃ n', n = n' + 1 := ⟨n - 1, by omega⟩
    have hi2 : i < 100 := by omega
    obtain ⟨y', g, g1, g2, g3, g4, g5⟩ := ih n (i + 1) (zzsa y (5 + 2 * d) i (nI 0)) (by omega) (by omega) (by
      intro j hj
      rw [q_aa]
      by_cases c : j = i
      · rw [if_pos ⟨rfl, c⟩]
      · rw [if_neg (fun z => c z.2)]; exact h j (by omega))
    refine ⟨y', ?_, g1, fun k f => g2 k f, ?_, fun k f => g4 k f, fun f => g5 f⟩
    · rw [← g]
      simp (disch := omega) only [f_X7_beginAnew_12, f_X7_beginAnew_12b, e0, hl, hi2, zzbd_s, zzlt_eq, zzon_n, zzon_s, q0, q1, q2, q3, q4, q5, q6, q7, q8, q9, q10, q11, q12, q20, q48, q49, q57, q59, q99, q100, q999, nI_add, pk_mul, q_lt0, q_lt, q_eq, q_cl, q_gd, if_true, if_false, q_ofNat, q_min, q_max, ite_self, Nat.not_lt_zero, q_e10, q_e01, eq_self, not_true_eq_false, not_false_eq_true, and_true, true_and, and_false, false_and, or_true, true_or, or_false, false_or, q_gdT, Nat.reduceEqDiff, Bool.false_eq_true, Nat.lt_irrefl, Nat.or_zero]
    · intro k f c; rw [g3 k f c, q_aa, if_neg (fun z => c z.1)]
theorem m_new_l {d : Nat} (hd : d < 8) (u v : Int32) : ∀ e n i y, i + e = 100 → e < n → (∀ j, j < i → zzl y 53 (100 * d + j) = 0) → ∃ y', f_X12_row_68 (nI d) u v n (nI i) y = some (nI 0, y') ∧ (∀ j, j < 100 → zzl y' 53 (100 * d + j) = 0) ∧ (∀ k f, zzi y' k f = zzi y k f) ∧ (∀ k f, zza y' k f = zza y k f) ∧ (∀ k f, ¬ (100 * d ≤ f ∧ f < 100 * d + 100) → zzl y' k f = zzl y k f) := by
  intro e
  induction e with
  | zero =>
    intro n i y hi hn h
    obtain ⟨n, rfl⟩ : ∃ n', n = n' + 1 := ⟨n - 1, by omega⟩
    have : i = 100 := by omega
    subst this
    exact ⟨y, by simp (disch := omega) only [f_X12_row_68, f_X12_row_68b, zzbd_s, zzlt_eq, zzon_n, zzon_s, q0, q1, q2, q3, q4, q5, q6, q7, q8, q9, q10, q11, q12, q20, q48, q49, q57, q59, q99, q100, q999, nI_add, pk_mul, q_lt0, q_lt, q_eq, q_cl, q_gd, if_true, if_false, q_ofNat, q_min, q_max, ite_self, Nat.not_lt_zero, q_e10, q_e01, eq_self, not_true_eq_false, not_false_eq_true, and_true, true_and, and_false, false_and, or_true, true_or, or_false, false_or, q_gdT, Nat.reduceEqDiff, Bool.false_eq_true, Nat.lt_irrefl, Nat.or_zero], h, fun _ _ => rfl, fun _ _ => rfl, fun _ _ _ => rfl⟩
  | succ e ih =>
    intro n i y hi hn h
    obtain ⟨n, rfl⟩ : ∃ n', n = n' + 1 := ⟨n - 1, by omega⟩
    have hi2 : i < 100 := by omega
    obtain ⟨y', g, g1, g2, g3, g4⟩ := ih n (i + 1) (zzsl y 53 (100 * d + i) 0) (by omega) (by omega) (by
      intro j hj
      rw [q_ll]
      by_cases c : j = i
      · rw [if_pos ⟨rfl, by omega⟩]
      · rw [if_neg (by omega)]; exact h j (by omega))
    refine ⟨y', ?_, g1, fun k f => g2 k f, fun k f => g3 k f, ?_⟩
    · rw [← g]
      simp (disch := omega) only [f_X12_row_68, f_X12_row_68b, hi2, zzbd_s, zzlt_eq, zzon_n, zzon_s, q0, q1, q2, q3, q4, q5, q6, q7, q8, q9, q10, q11, q12, q20, q48, q49, q57, q59, q99, q100, q999, nI_add, pk_mul, q_lt0, q_lt, q_eq, q_cl, q_gd, if_true, if_false, q_ofNat, q_min, q_max, ite_self, Nat.not_lt_zero, q_e10, q_e01, eq_self, not_true_eq_false, not_false_eq_true, and_true, true_and, and_false, false_and, or_true, true_or, or_false, false_or, q_gdT, Nat.reduceEqDiff, Bool.false_eq_true, Nat.lt_irrefl, Nat.or_zero]
    · intro k f c; rw [g4 k f c, q_ll, if_neg (by omega)]
theorem s_row (d s n : Int32) : zSim (f_X11_row d s n) (f_X12_row d s n) := by
  intro x m ⟨⟨T, hx, hm⟩, hs, hi⟩
  have p1 := zPM_13 m (nI 0)
  have hm1 : zMT (zzsi m 36 13 (nI 0)) T := hm
  have hs1 := zSh_13 hs (nI 0)
  have hi1 := zIm_p hi (zPX_refl x) p1
  rcases q_cls d 8 (by omega) with ⟨e, he, rfl⟩ | hd
  · rcases q_cls s 3 (by omega) with ⟨s, hs3, rfl⟩ | hsb
    · have c0 : ¬ 2 < s := by omega
      rcases q_cls n 101 (by omega) with ⟨n, hn, rfl⟩ | hnb
      · have c1 : ¬ 100 < n := by omega
        obtain ⟨x', g, g1, g2, g3, g4, g5⟩ := x_new_l he (nI s) (nI n) 100 200 0 (zzsi (zzsi x (4 + 2 * e) 1 (nI s)) (4 + 2 * e) 2 (nI n)) (by omega) (by omega) (by intro j hj; omega)
        obtain ⟨m', f, f1, f2, f3, f4⟩ := m_new_l he (nI s) (nI n) 100 200 0 (zzsa (zzsa (zzsa (zzsi m 36 13 (nI 0)) 41 e (nI 2)) 44 e (nI s)) 45 e (nI n)) (by omega) (by omega) (by intro j hj; omega)
        have hrow := q_row8 he
        have hro : zzrowo (some (4 + 2 * e)) = true := by unfold zzrowo; exact decide_eq_true hrow
        refine ⟨nI 0, zzsq (zzsr x' 1 e none) e (some (4 + 2 * e)), m', ?_, ?_, ⟨T, ?_, ?_⟩, ?_, ?_⟩
        · simp (disch := omega) only [f_X11_row, f_X11_row_50, f_X11_row_64, f_X11_lay, f_X7_beginAnew, x_shelf he, he, hs3, c0, c1, zzgd_t hrow, hro, g, q_pl1, q_e1_0, zzbd_s, zzlt_eq, zzon_n, zzon_s, q0, q1, q2, q3, q4, q5, q6, q7, q8, q9, q10, q11, q12, q20, q48, q49, q57, q59, q99, q100, q999, nI_add, pk_mul, q_lt0, q_lt, q_eq, q_cl, q_gd, if_true, if_false, q_ofNat, q_min, q_max, ite_self, Nat.not_lt_zero, q_e10, q_e01, eq_self, not_true_eq_false, not_false_eq_true, and_true, true_and, and_false, false_and, or_true, true_or, or_false, false_or, q_gdT, Nat.reduceEqDiff, Bool.false_eq_true, Nat.lt_irrefl, Nat.or_zero]
        · simp (disch := omega) only [f_X12_row, m_in7 he, m_in2 hs3, c1, q_len41, q_len44, q_len45, f, q_e1_0, zzbd_s, zzlt_eq, zzon_n, zzon_s, q0, q1, q2, q3, q4, q5, q6, q7, q8, q9, q10, q11, q12, q20, q48, q49, q57, q59, q99, q100, q999, nI_add, pk_mul, q_lt0, q_lt, q_eq, q_cl, q_gd, if_true, if_false, q_ofNat, q_min, q_max, ite_self, Nat.not_lt_zero, q_e10, q_e01, eq_self, not_true_eq_false, not_false_eq_true, and_true, true_and, and_false, false_and, or_true, true_or, or_false, false_or, q_gdT, Nat.reduceEqDiff, Bool.false_eq_true, Nat.lt_irrefl, Nat.or_zero]
        · refine zXT_hi (Or.inl rfl) hx ?_ ?_ ?_
          · intro k f c; rw [q_i_sq, q_i_sr, g2, q_ii, if_neg (by omega), q_ii, if_neg (by omega)]
          · intro k f c; rw [q_a_sq, q_a_sr, g3 k f (by omega)]; rfl
          · intro k f c; rw [q_r_sq, q_rr, if_neg (by omega), g4]; rfl
        · refine ⟨hm.1, ?_, ?_, ?_, ?_, ?_, ?_⟩
          · rw [f2]; exact hm1.2.1
          · rw [f2]; exact hm1.2.2.1
          · rw [f2]; exact hm1.2.2.2.1
          · intro p hp; rw [f3, f3]; exact hm1.2.2.2.2.1 p hp
          · intro p hp; rw [f3]; exact hm1.2.2.2.2.2.1 p hp
          · intro p hp; rw [f3]; exact hm1.2.2.2.2.2.2 p hp
        · intro d hd
          by_cases c : d = e
          · subst c
            refine Or.inr (Or.inr ⟨?_, ?_, ?_, s, n, hs3, by omega, ?_, ?_, ?_, ?_, ?_⟩)
            · rw [f3, q_aa, if_neg (by omega), q_aa, if_neg (by omega), q_aa, if_pos ⟨rfl, rfl⟩]
            · rw [q_r_sq, q_rr, if_pos ⟨rfl, rfl⟩]
            · rw [q_qq, if_pos rfl]
            · rw [f3, q_aa, if_neg (by omega), q_aa, if_pos ⟨rfl, rfl⟩]
            · rw [f3, q_aa, if_pos ⟨rfl, rfl⟩]
            · rw [q_i_sq, q_i_sr, g2, q_ii, if_neg (by omega), q_ii, if_pos ⟨rfl, rfl⟩]
            · rw [q_i_sq, q_i_sr, g2, q_ii, if_pos ⟨rfl, rfl⟩]
            · intro k hk; rw [f1 k hk, q_a_sq, q_a_sr, g1 k hk]; rfl
          · have b1 : ∀ k, zza m' k d = zza (zzsi m 36 13 (nI 0)) k d := fun k => by rw [f3, q_aa, if_neg (by omega), q_aa, if_neg (by omega), q_aa, if_neg (by omega)]
            rw [b1, b1, b1, b1, b1, q_r_sq, q_rr, if_neg (by omega), g4, q_qq, if_neg c, q_q_sr, g5, q_i_sq, q_i_sr, g2, q_i_sq, q_i_sr, g2, q_ii, if_neg (by omega), q_ii, if_neg (by omega), q_ii, if_neg (by omega), q_ii, if_neg (by omega)]
            rcases hs1 d hd with h | h | ⟨h1, h2, h3, s', n', h4, h5, h6, h7, h8, h9, h10⟩
            · exact Or.inl h
            · exact Or.inr (Or.inl h)
            · refine Or.inr (Or.inr ⟨h1, h2, h3, s', n', h4, h5, h6, h7, h8, h9, fun k hk => ?_⟩)
              rw [f4 53 _ (by omega), q_a_sq, q_a_sr, g3 _ _ (by omega)]; exact h10 k hk
        · have b1 : ∀ j, zza m' 50 j = zza (zzsi m 36 13 (nI 0)) 50 j := fun j => by rw [f3]; rfl
          have b2 : zzi m' 36 23 = zzi (zzsi m 36 13 (nI 0)) 36 23 := by rw [f2]; rfl
          have b3 : zzi (zzsq (zzsr x' 1 e none) e (some (4 + 2 * e))) 0 7 = zzi x 0 7 := by rw [q_i_sq, q_i_sr, g2, q_ii, if_neg (by omega), q_ii, if_neg (by omega)]
          rcases hi1 with h | ⟨h1, h2, U, h3, h4⟩
          · exact Or.inl ⟨b3.trans h.1, b2.trans h.2⟩
          · refine Or.inr ⟨b3.trans h1, b2.trans h2, U, ?_, ⟨h4.1, ?_, ?_, ?_, ?_, ?_, ?_⟩⟩
            · refine zXT_hi (Or.inr (Or.inr rfl)) h3 ?_ ?_ ?_
              · intro k f c; rw [q_i_sq, q_i_sr, g2, q_ii, if_neg (by omega), q_ii, if_neg (by omega)]
              · intro k f c; rw [q_a_sq, q_a_sr, g3 k f (by omega)]; rfl
              · intro k f c; rw [q_r_sq, q_rr, if_neg (by omega), g4]; rfl
            · rw [b1]; exact h4.2.1
            · rw [b1]; exact h4.2.2.1
            · rw [b1]; exact h4.2.2.2.1
            · intro p hp; rw [b1, b1]; exact h4.2.2.2.2.1 p hp
            · intro p hp; rw [b1]; exact h4.2.2.2.2.2.1 p hp
            · intro p hp; rw [b1]; exact h4.2.2.2.2.2.2 p hp
      · by_cases c1 : nI 100 < n
        · refine ⟨-1, x, _, ?_, ?_, ⟨T, hx, hm1⟩, hs1, hi1⟩
          · simp (disch := omega) only [f_X11_row, x_shelf he, hs3, c0, c1, q_e1_0, zzbd_s, zzlt_eq, zzon_n, zzon_s, q0, q1, q2, q3, q4, q5, q6, q7, q8, q9, q10, q11, q12, q20, q48, q49, q57, q59, q99, q100, q999, nI_add, pk_mul, q_lt0, q_lt, q_eq, q_cl, q_gd, if_true, if_false, q_ofNat, q_min, q_max, ite_self, Nat.not_lt_zero, q_e10, q_e01, eq_self, not_true_eq_false, not_false_eq_true, and_true, true_and, and_false, false_and, or_true, true_or, or_false, false_or, q_gdT, Nat.reduceEqDiff, Bool.false_eq_true, Nat.lt_irrefl, Nat.or_zero]
          · simp (disch := omega) only [f_X12_row, m_in7 he, m_in2 hs3, c1, q_e1_0, zzbd_s, zzlt_eq, zzon_n, zzon_s, q0, q1, q2, q3, q4, q5, q6, q7, q8, q9, q10, q11, q12, q20, q48, q49, q57, q59, q99, q100, q999, nI_add, pk_mul, q_lt0, q_lt, q_eq, q_cl, q_gd, if_true, if_false, q_ofNat, q_min, q_max, ite_self, Nat.not_lt_zero, q_e10, q_e01, eq_self, not_true_eq_false, not_false_eq_true, and_true, true_and, and_false, false_and, or_true, true_or, or_false, false_or, q_gdT, Nat.reduceEqDiff, Bool.false_eq_true, Nat.lt_irrefl, Nat.or_zero]
        · have c2 : n < nI 0 := by
            rw [← q0, q_neg0]; rw [q_nlt _ (by omega)] at c1; have := hnb; unfold zbad at this; omega
          refine ⟨-14, x, _, ?_, ?_, ⟨T, hx, hm1⟩, hs1, hi1⟩
          · simp (disch := omega) only [f_X11_row, x_shelf he, hs3, c0, c1, c2, q_e1_0, zzbd_s, zzlt_eq, zzon_n, zzon_s, q0, q1, q2, q3, q4, q5, q6, q7, q8, q9, q10, q11, q12, q20, q48, q49, q57, q59, q99, q100, q999, nI_add, pk_mul, q_lt0, q_lt, q_eq, q_cl, q_gd, if_true, if_false, q_ofNat, q_min, q_max, ite_self, Nat.not_lt_zero, q_e10, q_e01, eq_self, not_true_eq_false, not_false_eq_true, and_true, true_and, and_false, false_and, or_true, true_or, or_false, false_or, q_gdT, Nat.reduceEqDiff, Bool.false_eq_true, Nat.lt_irrefl, Nat.or_zero]
          · simp (disch := omega) only [f_X12_row, m_in7 he, m_in2 hs3, c1, c2, q_e1_0, zzbd_s, zzlt_eq, zzon_n, zzon_s, q0, q1, q2, q3, q4, q5, q6, q7, q8, q9, q10, q11, q12, q20, q48, q49, q57, q59, q99, q100, q999, nI_add, pk_mul, q_lt0, q_lt, q_eq, q_cl, q_gd, if_true, if_false, q_ofNat, q_min, q_max, ite_self, Nat.not_lt_zero, q_e10, q_e01, eq_self, not_true_eq_false, not_false_eq_true, and_true, true_and, and_false, false_and, or_true, true_or, or_false, false_or, q_gdT, Nat.reduceEqDiff, Bool.false_eq_true, Nat.lt_irrefl, Nat.or_zero]
    · refine ⟨-1, x, _, ?_, ?_, ⟨T, hx, hm1⟩, hs1, hi1⟩
      · by_cases c1 : s < nI 0
        · simp (disch := omega) only [f_X11_row, x_shelf he, c1, q_e1_0, zzbd_s, zzlt_eq, zzon_n, zzon_s, q0, q1, q2, q3, q4, q5, q6, q7, q8, q9, q10, q11, q12, q20, q48, q49, q57, q59, q99, q100, q999, nI_add, pk_mul, q_lt0, q_lt, q_eq, q_cl, q_gd, if_true, if_false, q_ofNat, q_min, q_max, ite_self, Nat.not_lt_zero, q_e10, q_e01, eq_self, not_true_eq_false, not_false_eq_true, and_true, true_and, and_false, false_and, or_true, true_or, or_false, false_or, q_gdT, Nat.reduceEqDiff, Bool.false_eq_true, Nat.lt_irrefl, Nat.or_zero]
        · have c2 : nI 2 < s := by
            rw [q_nlt _ (by omega)]; rw [← q0, q_neg0] at c1; have := hsb; unfold zbad at this; omega
          simp (disch := omega) only [f_X11_row, x_shelf he, c1, c2, q_e1_0, zzbd_s, zzlt_eq, zzon_n, zzon_s, q0, q1, q2, q3, q4, q5, q6, q7, q8, q9, q10, q11, q12, q20, q48, q49, q57, q59, q99, q100, q999, nI_add, pk_mul, q_lt0, q_lt, q_eq, q_cl, q_gd, if_true, if_false, q_ofNat, q_min, q_max, ite_self, Nat.not_lt_zero, q_e10, q_e01, eq_self, not_true_eq_false, not_false_eq_true, and_true, true_and, and_false, false_and, or_true, true_or, or_false, false_or, q_gdT, Nat.reduceEqDiff, Bool.false_eq_true, Nat.lt_irrefl, Nat.or_zero]
      · simp (disch := omega) only [f_X12_row, m_in7 he, m_in2_bad hsb, q_e1_0, zzbd_s, zzlt_eq, zzon_n, zzon_s, q0, q1, q2, q3, q4, q5, q6, q7, q8, q9, q10, q11, q12, q20, q48, q49, q57, q59, q99, q100, q999, nI_add, pk_mul, q_lt0, q_lt, q_eq, q_cl, q_gd, if_true, if_false, q_ofNat, q_min, q_max, ite_self, Nat.not_lt_zero, q_e10, q_e01, eq_self, not_true_eq_false, not_false_eq_true, and_true, true_and, and_false, false_and, or_true, true_or, or_false, false_or, q_gdT, Nat.reduceEqDiff, Bool.false_eq_true, Nat.lt_irrefl, Nat.or_zero]
  · refine ⟨-1, x, _, ?_, ?_, ⟨T, hx, hm1⟩, hs1, hi1⟩
    · simp (disch := omega) only [f_X11_row, x_shelf_bad hd, zzbd_s, zzlt_eq, zzon_n, zzon_s, q0, q1, q2, q3, q4, q5, q6, q7, q8, q9, q10, q11, q12, q20, q48, q49, q57, q59, q99, q100, q999, nI_add, pk_mul, q_lt0, q_lt, q_eq, q_cl, q_gd, if_true, if_false, q_ofNat, q_min, q_max, ite_self, Nat.not_lt_zero, q_e10, q_e01, eq_self, not_true_eq_false, not_false_eq_true, and_true, true_and, and_false, false_and, or_true, true_or, or_false, false_or, q_gdT, Nat.reduceEqDiff, Bool.false_eq_true, Nat.lt_irrefl, Nat.or_zero]
    · simp (disch := omega) only [f_X12_row, m_in7_bad hd, zzbd_s, zzlt_eq, zzon_n, zzon_s, q0, q1, q2, q3, q4, q5, q6, q7, q8, q9, q10, q11, q12, q20, q48, q49, q57, q59, q99, q100, q999, nI_add, pk_mul, q_lt0, q_lt, q_eq, q_cl, q_gd, if_true, if_false, q_ofNat, q_min, q_max, ite_self, Nat.not_lt_zero, q_e10, q_e01, eq_self, not_true_eq_false, not_false_eq_true, and_true, true_and, and_false, false_and, or_true, true_or, or_false, false_or, q_gdT, Nat.reduceEqDiff, Bool.false_eq_true, Nat.lt_irrefl, Nat.or_zero]
