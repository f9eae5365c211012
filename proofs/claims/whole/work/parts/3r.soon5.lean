/-! ===== soonest: the class ===== -/
theorem q_max0 {l w : Nat} (hl : l < 100000) (hw : w < 100000) : zzmax (nI 0) (nI l - nI w) = nI (l - w) := by
  unfold zzmax
  by_cases c : w < l
  · rw [if_pos ((q_dif0 (by omega) (by omega)).mpr c), q_sub (by omega)]
  · rw [if_neg (fun z => c ((q_dif0 (by omega) (by omega)).mp z)), show l - w = 0 by omega]
section
variable {x : zzS} {T : zT}
theorem x_so_1 (h : zXT x 20 T) (k18 : Int32 → Int32 → Int32 → zzS → Option (Int32 × zzS)) (F : Int32 → Int32 → Int32 → Int32 → zzS → Option (Int32 × zzS)) {q l c0 s i : Nat} (hq : q < zn T) (hl : l ≤ 9) (hs : 1 ≤ s ∧ s ≤ 9) (hi2 : i < zn T) (hn : ¬ i = q) (c : ztu T i = s) : f_X11_fewestTurnings_26b k18 F (nI q) (nI l) (nI c0) (nI s) (nI i) x = F (nI (l - zus s l (zla T i q) * s)) (nI (c0 + zus s l (zla T i q))) (nI s) (nI (i + 1)) x := by
  have h7 := h.1.1
  have ht : zztown 20 := Or.inl rfl
  have hk := h.1.2.2.2.1 i hi2
  have hg := q_turns T i hk.1 hk.2
  have hle := zla_le T i q
  have hb : zus s l (zla T i q) * s ≤ 99 * 9 := Nat.mul_le_mul (Nat.le_trans (Nat.min_le_right _ _) hle) hs.2
  have hd : (nI l + nI s - nI 1) / nI s = nI ((l + s - 1) / s) := by rw [nI_add, q_sub (by omega), q_div (by omega) (by omega) (by omega)]
  have hq2 : (l + s - 1) / s < 100 := Nat.lt_of_le_of_lt (Nat.div_le_self _ _) (by omega)
  have hmin : zzmin (nI ((l + s - 1) / s)) (nI (zla T i q)) = nI (zus s l (zla T i q)) := q_min (by omega) (by omega)
  generalize zus s l (zla T i q) = u at hb hmin ⊢
  have g0 : ¬ nI s = nI 0 := by rw [q_eq (by omega) (by omega)]; omega
  unfold f_X11_fewestTurnings_26b
  rw [h.2.1, if_pos ((q_lt (by omega) (by omega)).mpr hi2), if_neg (by rw [q_eq (by omega) (by omega)]; exact hn), x_at h ht hi2, zzbd_s, zzon_s, hg.1, zzbd_s, c, if_pos rfl, zzgd_t (show ¬ nI s = 0 from g0), zzlt_eq, x_till h ht hi2 hq hn, zzbd_s, q1, hd, hmin, zzlt_eq, q0, pk_mul, q_max0 (by omega) (by omega), zzlt_eq, nI_add, zzlt_eq]
  unfold f_X11_fewestTurnings_106
  rw [q1, nI_add, zzlt_eq]
theorem x_so_p (h : zXT x 20 T) (k18 : Int32 → Int32 → Int32 → zzS → Option (Int32 × zzS)) {q a s : Nat} (hq : q < zn T) (ha : a ≤ 9) (hs : 1 ≤ s ∧ s ≤ 9) : ∀ d n i r, i + d = zn T → d < n → f_X11_fewestTurnings_26 k18 (nI q) n (nI (a - r.1)) (nI r.2) (nI s) (nI i) x = k18 (nI (a - (zup (zsp T q a s) d i r).1)) (nI (zup (zsp T q a s) d i r).2) (nI s - nI 1) x := by
  have h7 := h.1.1
  have ht : zztown 20 := Or.inl rfl
  intro d
  induction d with
  | zero =>
    intro n i r hi hn
    obtain ⟨n, rfl⟩ : ∃ n', n = n' + 1 := ⟨n - 1, by omega⟩
    have : i = zn T := by omega
    subst this
    show f_X11_fewestTurnings_26b k18 _ (nI q) (nI (a - r.1)) (nI r.2) (nI s) (nI (zn T)) x = k18 (nI (a - r.1)) (nI r.2) (nI s - nI 1) x
    have n1 : ¬ nI (zn T) < nI (zn T) := fun z => Nat.lt_irrefl _ ((q_lt (by omega) (by omega)).mp z)
    unfold f_X11_fewestTurnings_26b
    rw [h.2.1, if_neg n1, q1, q_dn, zzlt_eq]
  | succ d ih =>
    intro n i r hi hn
    obtain ⟨n, rfl⟩ : ∃ n', n = n' + 1 := ⟨n - 1, by omega⟩
    have hi2 : i < zn T := by omega
    have hk := h.1.2.2.2.1 i hi2
    have hg := q_turns T i hk.1 hk.2
    have hle := zla_le T i q
    rw [zup_s, ← ih n (i + 1) _ (by omega) (by omega)]
    by_cases c0 : i = q
    · have w : zsp T q a s i r = r := by unfold zsp; rw [if_neg (fun z => z.1 c0)]
      rw [w]
      subst c0
      simp (disch := omega) only [f_X11_fewestTurnings_26, f_X11_fewestTurnings_26b, f_X11_fewestTurnings_106, h.2.1, hi2, zzbd_s, zzlt_eq, zzon_n, zzon_s, q0, q1, q2, q3, q4, q5, q6, q7, q8, q9, q10, q11, q12, q20, q48, q49, q57, q59, q99, q100, q999, nI_add, pk_mul, q_lt0, q_lt, q_eq, q_cl, q_gd, if_true, if_false, q_ofNat, q_min, q_max, ite_self, Nat.not_lt_zero, q_e10, q_e01, eq_self, not_true_eq_false, not_false_eq_true, and_true, true_and, and_false, false_and, or_true, true_or, or_false, false_or, q_gdT, Nat.reduceEqDiff, Bool.false_eq_true, Nat.lt_irrefl, Nat.or_zero]
    · by_cases c : ztu T i = s
      · have w : zsp T q a s i r = (r.1 + zus s (a - r.1) (zla T i q) * s, r.2 + zus s (a - r.1) (zla T i q)) := by unfold zsp; rw [if_pos ⟨c0, c⟩]
        have g := x_so_1 h k18 (f_X11_fewestTurnings_26 k18 (nI q) n) (l := a - r.1) (c0 := r.2) hq (by omega) hs hi2 c0 c
        rw [w]
        clear w
        show f_X11_fewestTurnings_26b k18 (f_X11_fewestTurnings_26 k18 (nI q) n) (nI q) (nI (a - r.1)) (nI r.2) (nI s) (nI i) x = f_X11_fewestTurnings_26 k18 (nI q) n (nI (a - (r.1 + zus s (a - r.1) (zla T i q) * s))) (nI (r.2 + zus s (a - r.1) (zla T i q))) (nI s) (nI (i + 1)) x
        generalize zus s (a - r.1) (zla T i q) = u at g ⊢
        have e : a - (r.1 + u * s) = a - r.1 - u * s := by omega
        rw [e]
        exact g
      · have w : zsp T q a s i r = r := by unfold zsp; rw [if_neg (fun z => c z.2)]
        rw [w]
        simp (disch := omega) only [f_X11_fewestTurnings_26, f_X11_fewestTurnings_26b, f_X11_fewestTurnings_106, h.2.1, hi2, c0, x_at h ht hi2, hg.1, c, zzbd_s, zzlt_eq, zzon_n, zzon_s, q0, q1, q2, q3, q4, q5, q6, q7, q8, q9, q10, q11, q12, q20, q48, q49, q57, q59, q99, q100, q999, nI_add, pk_mul, q_lt0, q_lt, q_eq, q_cl, q_gd, if_true, if_false, q_ofNat, q_min, q_max, ite_self, Nat.not_lt_zero, q_e10, q_e01, eq_self, not_true_eq_false, not_false_eq_true, and_true, true_and, and_false, false_and, or_true, true_or, or_false, false_or, q_gdT, Nat.reduceEqDiff, Bool.false_eq_true, Nat.lt_irrefl, Nat.or_zero]
end
