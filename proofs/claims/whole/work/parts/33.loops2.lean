/-! ===== more loops ===== -/
theorem zla_0 {T : zT} {p q : Nat} (hn : p ≠ q) (h : zmb T (zl T) p q = false) : zla T p q = 0 := by
  have c : ¬ zmay T (zl T) p q := fun z => by rw [(zmb_iff ..).mpr z] at h; cases h
  have c2 : zbe T p + zl T < zo T (7 * p + q) + 1 := by
    rcases Nat.lt_or_ge (zo T (7 * p + q)) (zbe T p + zl T) with z | z
    · exact absurd ⟨hn, z⟩ c
    · omega
  unfold zla
  rw [zlast_s, if_pos c2]
theorem zmb_ne {T : zT} {L p q : Nat} (h : zmb T L p q = true) : p ≠ q := ((zmb_iff ..).mp h).1
theorem zmb_pp (T : zT) (L p : Nat) : zmb T L p p = false := by
  cases e : zmb T L p p with
  | false => rfl
  | true => exact absurd rfl (zmb_ne e)
def zhd (T : zT) (q : Nat) : Nat → Nat → Nat → Int32
  | 0, _, a => nI a
  | d + 1, i, a => if i = q then zhd T q d (i + 1) a else if zla T i q = 99 then -4 else zhd T q d (i + 1) (a + zla T i q)
theorem zhd_z (T : zT) (q i a : Nat) : zhd T q 0 i a = nI a := rfl
theorem zhd_s (T : zT) (q d i a : Nat) : zhd T q (d + 1) i a = if i = q then zhd T q d (i + 1) a else if zla T i q = 99 then -4 else zhd T q d (i + 1) (a + zla T i q) := rfl
section
variable {x m : zzS} {t : Nat} {T : zT}
theorem x_hide_l (h : zXT x 20 T) {q : Nat} (hq : q < zn T) : ∀ d n i a, i + d = zn T → d < n → f_X11_hide_17 (nI q) n (nI a) (nI i) x = some (zhd T q d i a, x) := by
  have h7 := h.1.1
  have ht : zztown 20 := Or.inl rfl
  intro d
  induction d with
  | zero =>
    intro n i a hi hn
    obtain ⟨n, rfl⟩ : ∃ n', n = n' + 1 := ⟨n - 1, by omega⟩
    have : i = zn T := by omega
    subst this
    simp (disch := omega) only [f_X11_hide_17, f_X11_hide_17b, h.2.1, zhd_z, zzbd_s, zzlt_eq, zzon_n, zzon_s, q0, q1, q2, q3, q4, q5, q6, q7, q8, q9, q10, q11, q12, q20, q48, q49, q57, q59, q99, q100, q999, nI_add, pk_mul, q_lt0, q_lt, q_eq, q_cl, q_gd, if_true, if_false, q_ofNat, q_min, q_max, ite_self, Nat.not_lt_zero, q_e10, q_e01, eq_self, not_true_eq_false, not_false_eq_true, and_true, true_and, and_false, false_and, or_true, true_or, or_false, false_or, q_gdT, Nat.reduceEqDiff, Bool.false_eq_true, Nat.lt_irrefl, Nat.or_zero]
  | succ d ih =>
    intro n i a hi hn
    obtain ⟨n, rfl⟩ : ∃ n', n = n' + 1 := ⟨n - 1, by omega⟩
    have hi2 : i < zn T := by omega
    have hz := zla_le T i q
    by_cases e : i = q
    · subst e
      simp (disch := omega) only [f_X11_hide_17, f_X11_hide_17b, f_X11_hide_46, h.2.1, hi2, zhd_s, Nat.add_zero, ih, Nat.reduceLT, zzbd_s, zzlt_eq, zzon_n, zzon_s, q0, q1, q2, q3, q4, q5, q6, q7, q8, q9, q10, q11, q12, q20, q48, q49, q57, q59, q99, q100, q999, nI_add, pk_mul, q_lt0, q_lt, q_eq, q_cl, q_gd, if_true, if_false, q_ofNat, q_min, q_max, ite_self, Nat.not_lt_zero, q_e10, q_e01, eq_self, not_true_eq_false, not_false_eq_true, and_true, true_and, and_false, false_and, or_true, true_or, or_false, false_or, q_gdT, Nat.reduceEqDiff, Bool.false_eq_true, Nat.lt_irrefl, Nat.or_zero]
    · by_cases e2 : zla T i q = 99
      · simp (disch := omega) only [f_X11_hide_17, f_X11_hide_17b, f_X11_hide_46, h.2.1, hi2, e, x_till h ht hi2 hq e, e2, zhd_s, zzbd_s, zzlt_eq, zzon_n, zzon_s, q0, q1, q2, q3, q4, q5, q6, q7, q8, q9, q10, q11, q12, q20, q48, q49, q57, q59, q99, q100, q999, nI_add, pk_mul, q_lt0, q_lt, q_eq, q_cl, q_gd, if_true, if_false, q_ofNat, q_min, q_max, ite_self, Nat.not_lt_zero, q_e10, q_e01, eq_self, not_true_eq_false, not_false_eq_true, and_true, true_and, and_false, false_and, or_true, true_or, or_false, false_or, q_gdT, Nat.reduceEqDiff, Bool.false_eq_true, Nat.lt_irrefl, Nat.or_zero]
      · have e3 : zla T i q < 99 := by omega
        simp (disch := omega) only [f_X11_hide_17, f_X11_hide_17b, f_X11_hide_46, h.2.1, hi2, e, x_till h ht hi2 hq e, e2, e3, zhd_s, ih, zzbd_s, zzlt_eq, zzon_n, zzon_s, q0, q1, q2, q3, q4, q5, q6, q7, q8, q9, q10, q11, q12, q20, q48, q49, q57, q59, q99, q100, q999, nI_add, pk_mul, q_lt0, q_lt, q_eq, q_cl, q_gd, if_true, if_false, q_ofNat, q_min, q_max, ite_self, Nat.not_lt_zero, q_e10, q_e01, eq_self, not_true_eq_false, not_false_eq_true, and_true, true_and, and_false, false_and, or_true, true_or, or_false, false_or, q_gdT, Nat.reduceEqDiff, Bool.false_eq_true, Nat.lt_irrefl, Nat.or_zero]
theorem m_hide_l (h : zMT m T) {q : Nat} (hq : q < zn T) : ∀ d n i a, i + d = zn T → d < n → f_X12_hide_19 (nI q) n (nI a) (nI i) m = some (zhd T q d i a, m) := by
  have h7 := h.1.1
  intro d
  induction d with
  | zero =>
    intro n i a hi hn
    obtain ⟨n, rfl⟩ : ∃ n', n = n' + 1 := ⟨n - 1, by omega⟩
    have : i = zn T := by omega
    subst this
    simp (disch := omega) only [f_X12_hide_19, f_X12_hide_19b, h.2.1, zhd_z, zzbd_s, zzlt_eq, zzon_n, zzon_s, q0, q1, q2, q3, q4, q5, q6, q7, q8, q9, q10, q11, q12, q20, q48, q49, q57, q59, q99, q100, q999, nI_add, pk_mul, q_lt0, q_lt, q_eq, q_cl, q_gd, if_true, if_false, q_ofNat, q_min, q_max, ite_self, Nat.not_lt_zero, q_e10, q_e01, eq_self, not_true_eq_false, not_false_eq_true, and_true, true_and, and_false, false_and, or_true, true_or, or_false, false_or, q_gdT, Nat.reduceEqDiff, Bool.false_eq_true, Nat.lt_irrefl, Nat.or_zero]
  | succ d ih =>
    intro n i a hi hn
    obtain ⟨n, rfl⟩ : ∃ n', n = n' + 1 := ⟨n - 1, by omega⟩
    have hi2 : i < zn T := by omega
    have hz := zla_le T i q
    by_cases e : i = q
    · subst e
      simp (disch := omega) only [f_X12_hide_19, f_X12_hide_19b, f_X12_hide_59, h.2.1, hi2, m_mb h, zmb_pp, zhd_s, ih, zzbd_s, zzlt_eq, zzon_n, zzon_s, q0, q1, q2, q3, q4, q5, q6, q7, q8, q9, q10, q11, q12, q20, q48, q49, q57, q59, q99, q100, q999, nI_add, pk_mul, q_lt0, q_lt, q_eq, q_cl, q_gd, if_true, if_false, q_ofNat, q_min, q_max, ite_self, Nat.not_lt_zero, q_e10, q_e01, eq_self, not_true_eq_false, not_false_eq_true, and_true, true_and, and_false, false_and, or_true, true_or, or_false, false_or, q_gdT, Nat.reduceEqDiff, Bool.false_eq_true, Nat.lt_irrefl, Nat.or_zero]
    · cases e1 : zmb T (zl T) i q with
      | false => simp (disch := omega) only [f_X12_hide_19, f_X12_hide_19b, f_X12_hide_59, h.2.1, hi2, m_mb h, e1, e, zla_0 e e1, Nat.add_zero, zhd_s, ih, zzbd_s, zzlt_eq, zzon_n, zzon_s, q0, q1, q2, q3, q4, q5, q6, q7, q8, q9, q10, q11, q12, q20, q48, q49, q57, q59, q99, q100, q999, nI_add, pk_mul, q_lt0, q_lt, q_eq, q_cl, q_gd, if_true, if_false, q_ofNat, q_min, q_max, ite_self, Nat.not_lt_zero, q_e10, q_e01, eq_self, not_true_eq_false, not_false_eq_true, and_true, true_and, and_false, false_and, or_true, true_or, or_false, false_or, q_gdT, Nat.reduceEqDiff, Bool.false_eq_true, Nat.lt_irrefl, Nat.or_zero]
      | true =>
        by_cases e2 : zla T i q = 99
        · simp (disch := omega) only [f_X12_hide_19, f_X12_hide_19b, f_X12_hide_59, h.2.1, hi2, m_mb h, e1, e, m_till h, e2, q_e1_0, zhd_s, zzbd_s, zzlt_eq, zzon_n, zzon_s, q0, q1, q2, q3, q4, q5, q6, q7, q8, q9, q10, q11, q12, q20, q48, q49, q57, q59, q99, q100, q999, nI_add, pk_mul, q_lt0, q_lt, q_eq, q_cl, q_gd, if_true, if_false, q_ofNat, q_min, q_max, ite_self, Nat.not_lt_zero, q_e10, q_e01, eq_self, not_true_eq_false, not_false_eq_true, and_true, true_and, and_false, false_and, or_true, true_or, or_false, false_or, q_gdT, Nat.reduceEqDiff, Bool.false_eq_true, Nat.lt_irrefl, Nat.or_zero]
        · simp (disch := omega) only [f_X12_hide_19, f_X12_hide_19b, f_X12_hide_59, h.2.1, hi2, m_mb h, e1, e, m_till h, e2, q_e1_0, zhd_s, ih, zzbd_s, zzlt_eq, zzon_n, zzon_s, q0, q1, q2, q3, q4, q5, q6, q7, q8, q9, q10, q11, q12, q20, q48, q49, q57, q59, q99, q100, q999, nI_add, pk_mul, q_lt0, q_lt, q_eq, q_cl, q_gd, if_true, if_false, q_ofNat, q_min, q_max, ite_self, Nat.not_lt_zero, q_e10, q_e01, eq_self, not_true_eq_false, not_false_eq_true, and_true, true_and, and_false, false_and, or_true, true_or, or_false, false_or, q_gdT, Nat.reduceEqDiff, Bool.false_eq_true, Nat.lt_irrefl, Nat.or_zero]
theorem s_hide (q : Int32) : zSim (f_X11_hide q) (f_X12_hide q) := by
  refine zSim_rd (fun x m T hx hm hs hi => ?_)
  have h7 := hx.1.1
  have hm1 : zMT (zzsi m 36 13 (nI 0)) T := hm
  rcases q_cls q (zn T) (by omega) with ⟨i, hi, rfl⟩ | hq
  · exact ⟨zhd T i (zn T) 0 0, by simp (disch := omega) only [f_X11_hide, x_has1 hx hi, x_hide_l hx hi (zn T) 200 0 0, q_e1_0, zzbd_s, zzlt_eq, zzon_n, zzon_s, q0, q1, q2, q3, q4, q5, q6, q7, q8, q9, q10, q11, q12, q20, q48, q49, q57, q59, q99, q100, q999, nI_add, pk_mul, q_lt0, q_lt, q_eq, q_cl, q_gd, if_true, if_false, q_ofNat, q_min, q_max, ite_self, Nat.not_lt_zero, q_e10, q_e01, eq_self, not_true_eq_false, not_false_eq_true, and_true, true_and, and_false, false_and, or_true, true_or, or_false, false_or, q_gdT, Nat.reduceEqDiff, Bool.false_eq_true, Nat.lt_irrefl, Nat.or_zero], by simp (disch := omega) only [f_X12_hide, m_one hm1 hi, m_hide_l hm1 hi (zn T) 200 0 0, q_e1_0, zzbd_s, zzlt_eq, zzon_n, zzon_s, q0, q1, q2, q3, q4, q5, q6, q7, q8, q9, q10, q11, q12, q20, q48, q49, q57, q59, q99, q100, q999, nI_add, pk_mul, q_lt0, q_lt, q_eq, q_cl, q_gd, if_true, if_false, q_ofNat, q_min, q_max, ite_self, Nat.not_lt_zero, q_e10, q_e01, eq_self, not_true_eq_false, not_false_eq_true, and_true, true_and, and_false, false_and, or_true, true_or, or_false, false_or, q_gdT, Nat.reduceEqDiff, Bool.false_eq_true, Nat.lt_irrefl, Nat.or_zero]⟩
  · exact ⟨-1, by simp (disch := omega) only [f_X11_hide, x_has_bad hx hq, zzbd_s, zzlt_eq, zzon_n, zzon_s, q0, q1, q2, q3, q4, q5, q6, q7, q8, q9, q10, q11, q12, q20, q48, q49, q57, q59, q99, q100, q999, nI_add, pk_mul, q_lt0, q_lt, q_eq, q_cl, q_gd, if_true, if_false, q_ofNat, q_min, q_max, ite_self, Nat.not_lt_zero, q_e10, q_e01, eq_self, not_true_eq_false, not_false_eq_true, and_true, true_and, and_false, false_and, or_true, true_or, or_false, false_or, q_gdT, Nat.reduceEqDiff, Bool.false_eq_true, Nat.lt_irrefl, Nat.or_zero], by simp (disch := omega) only [f_X12_hide, m_one_bad hm1 hq, zzbd_s, zzlt_eq, zzon_n, zzon_s, q0, q1, q2, q3, q4, q5, q6, q7, q8, q9, q10, q11, q12, q20, q48, q49, q57, q59, q99, q100, q999, nI_add, pk_mul, q_lt0, q_lt, q_eq, q_cl, q_gd, if_true, if_false, q_ofNat, q_min, q_max, ite_self, Nat.not_lt_zero, q_e10, q_e01, eq_self, not_true_eq_false, not_false_eq_true, and_true, true_and, and_false, false_and, or_true, true_or, or_false, false_or, q_gdT, Nat.reduceEqDiff, Bool.false_eq_true, Nat.lt_irrefl, Nat.or_zero]⟩
-- the warmest
def zwg (T : zT) (p q : Nat) (a : Int32 × Int32) : Int32 × Int32 := if p = q then a else if a.2 < nI (zo T (7 * p + q)) then (nI (10 * p + q), nI (zo T (7 * p + q))) else a
def zwo (T : zT) (p : Nat) (a : Int32 × Int32) : Int32 × Int32 := zup (zwg T p) (zn T) 0 a
theorem x_warm_i (h : zXT x 20 T) (k7 : Int32 → Int32 → Int32 → zzS → Option (Int32 × zzS)) {p : Nat} (hp : p < zn T) : ∀ d n i a, i + d = zn T → d < n → f_X11_warmest_21 k7 n a.1 a.2 (nI p) (nI i) x = k7 (zup (zwg T p) d i a).1 (zup (zwg T p) d i a).2 (nI (p + 1)) x := by
  have h7 := h.1.1
  have ht : zztown 20 := Or.inl rfl
  intro d
  induction d with
  | zero =>
    intro n i a hi hn
    obtain ⟨n, rfl⟩ : ∃ n', n = n' + 1 := ⟨n - 1, by omega⟩
    have : i = zn T := by omega
    subst this
    simp (disch := omega) only [f_X11_warmest_21, f_X11_warmest_21b, h.2.1, zup_z, zzbd_s, zzlt_eq, zzon_n, zzon_s, q0, q1, q2, q3, q4, q5, q6, q7, q8, q9, q10, q11, q12, q20, q48, q49, q57, q59, q99, q100, q999, nI_add, pk_mul, q_lt0, q_lt, q_eq, q_cl, q_gd, if_true, if_false, q_ofNat, q_min, q_max, ite_self, Nat.not_lt_zero, q_e10, q_e01, eq_self, not_true_eq_false, not_false_eq_true, and_true, true_and, and_false, false_and, or_true, true_or, or_false, false_or, q_gdT, Nat.reduceEqDiff, Bool.false_eq_true, Nat.lt_irrefl, Nat.or_zero]
  | succ d ih =>
    intro n i a hi hn
    obtain ⟨n, rfl⟩ : ∃ n', n = n' + 1 := ⟨n - 1, by omega⟩
    have hi2 : i < zn T := by omega
    have := ih n (i + 1) (zwg T p i a) (by omega) (by omega)
    rw [zup_s, ← this]
    unfold zwg
    by_cases e : p = i
    · subst e
      simp (disch := omega) only [f_X11_warmest_21, f_X11_warmest_21b, f_X11_warmest_72, h.2.1, hi2, zzbd_s, zzlt_eq, zzon_n, zzon_s, q0, q1, q2, q3, q4, q5, q6, q7, q8, q9, q10, q11, q12, q20, q48, q49, q57, q59, q99, q100, q999, nI_add, pk_mul, q_lt0, q_lt, q_eq, q_cl, q_gd, if_true, if_false, q_ofNat, q_min, q_max, ite_self, Nat.not_lt_zero, q_e10, q_e01, eq_self, not_true_eq_false, not_false_eq_true, and_true, true_and, and_false, false_and, or_true, true_or, or_false, false_or, q_gdT, Nat.reduceEqDiff, Bool.false_eq_true, Nat.lt_irrefl, Nat.or_zero]
    · by_cases e2 : a.2 < nI (zo T (7 * p + i))
      · simp (disch := omega) only [f_X11_warmest_21, f_X11_warmest_21b, f_X11_warmest_72, h.2.1, hi2, e, e2, x_fondOf h ht hp hi2, zzbd_s, zzlt_eq, zzon_n, zzon_s, q0, q1, q2, q3, q4, q5, q6, q7, q8, q9, q10, q11, q12, q20, q48, q49, q57, q59, q99, q100, q999, nI_add, pk_mul, q_lt0, q_lt, q_eq, q_cl, q_gd, if_true, if_false, q_ofNat, q_min, q_max, ite_self, Nat.not_lt_zero, q_e10, q_e01, eq_self, not_true_eq_false, not_false_eq_true, and_true, true_and, and_false, false_and, or_true, true_or, or_false, false_or, q_gdT, Nat.reduceEqDiff, Bool.false_eq_true, Nat.lt_irrefl, Nat.or_zero]
      · simp (disch := omega) only [f_X11_warmest_21, f_X11_warmest_21b, f_X11_warmest_72, h.2.1, hi2, e, e2, x_fondOf h ht hp hi2, zzbd_s, zzlt_eq, zzon_n, zzon_s, q0, q1, q2, q3, q4, q5, q6, q7, q8, q9, q10, q11, q12, q20, q48, q49, q57, q59, q99, q100, q999, nI_add, pk_mul, q_lt0, q_lt, q_eq, q_cl, q_gd, if_true, if_false, q_ofNat, q_min, q_max, ite_self, Nat.not_lt_zero, q_e10, q_e01, eq_self, not_true_eq_false, not_false_eq_true, and_true, true_and, and_false, false_and, or_true, true_or, or_false, false_or, q_gdT, Nat.reduceEqDiff, Bool.false_eq_true, Nat.lt_irrefl, Nat.or_zero]
theorem x_warm_o (h : zXT x 20 T) : ∀ d n i a, i + d = zn T → d < n → f_X11_warmest_7 n a.1 a.2 (nI i) x = some ((zup (zwo T) d i a).1, x) := by
  have h7 := h.1.1
  intro d
  induction d with
  | zero =>
    intro n i a hi hn
    obtain ⟨n, rfl⟩ : ∃ n', n = n' + 1 := ⟨n - 1, by omega⟩
    have : i = zn T := by omega
    subst this
    simp (disch := omega) only [f_X11_warmest_7, f_X11_warmest_7b, h.2.1, zup_z, zzbd_s, zzlt_eq, zzon_n, zzon_s, q0, q1, q2, q3, q4, q5, q6, q7, q8, q9, q10, q11, q12, q20, q48, q49, q57, q59, q99, q100, q999, nI_add, pk_mul, q_lt0, q_lt, q_eq, q_cl, q_gd, if_true, if_false, q_ofNat, q_min, q_max, ite_self, Nat.not_lt_zero, q_e10, q_e01, eq_self, not_true_eq_false, not_false_eq_true, and_true, true_and, and_false, false_and, or_true, true_or, or_false, false_or, q_gdT, Nat.reduceEqDiff, Bool.false_eq_true, Nat.lt_irrefl, Nat.or_zero]
  | succ d ih =>
    intro n i a hi hn
    obtain ⟨n, rfl⟩ : ∃ n', n = n' + 1 := ⟨n - 1, by omega⟩
    have hi2 : i < zn T := by omega
    have e := x_warm_i h (f_X11_warmest_7 n) hi2 (zn T) 200 0 a (by omega) (by omega)
    have e2 := ih n (i + 1) (zwo T i a) (by omega) (by omega)
    rw [zup_s, ← e2]
    unfold zwo
    simp (disch := omega) only [f_X11_warmest_7, f_X11_warmest_7b, h.2.1, hi2, zzbd_s, zzlt_eq, zzon_n, zzon_s, q0, q1, q2, q3, q4, q5, q6, q7, q8, q9, q10, q11, q12, q20, q48, q49, q57, q59, q99, q100, q999, nI_add, pk_mul, q_lt0, q_lt, q_eq, q_cl, q_gd, if_true, if_false, q_ofNat, q_min, q_max, ite_self, Nat.not_lt_zero, q_e10, q_e01, eq_self, not_true_eq_false, not_false_eq_true, and_true, true_and, and_false, false_and, or_true, true_or, or_false, false_or, q_gdT, Nat.reduceEqDiff, Bool.false_eq_true, Nat.lt_irrefl, Nat.or_zero]
    exact e
theorem m_warm_i (h : zMT m T) (k12 : Int32 → Int32 → Int32 → zzS → Option (Int32 × zzS)) {p : Nat} (hp : p < zn T) : ∀ d n i a, i + d = zn T → d < n → f_X12_warmest_23 k12 n a.1 a.2 (nI p) (nI i) m = k12 (zup (zwg T p) d i a).1 (zup (zwg T p) d i a).2 (nI (p + 1)) m := by
  have h7 := h.1.1
  intro d
  induction d with
  | zero =>
    intro n i a hi hn
    obtain ⟨n, rfl⟩ : ∃ n', n = n' + 1 := ⟨n - 1, by omega⟩
    have : i = zn T := by omega
    subst this
    simp (disch := omega) only [f_X12_warmest_23, f_X12_warmest_23b, h.2.1, zup_z, zzbd_s, zzlt_eq, zzon_n, zzon_s, q0, q1, q2, q3, q4, q5, q6, q7, q8, q9, q10, q11, q12, q20, q48, q49, q57, q59, q99, q100, q999, nI_add, pk_mul, q_lt0, q_lt, q_eq, q_cl, q_gd, if_true, if_false, q_ofNat, q_min, q_max, ite_self, Nat.not_lt_zero, q_e10, q_e01, eq_self, not_true_eq_false, not_false_eq_true, and_true, true_and, and_false, false_and, or_true, true_or, or_false, false_or, q_gdT, Nat.reduceEqDiff, Bool.false_eq_true, Nat.lt_irrefl, Nat.or_zero]
  | succ d ih =>
    intro n i a hi hn
    obtain ⟨n, rfl⟩ : ∃ n', n = n' + 1 := ⟨n - 1, by omega⟩
    have hi2 : i < zn T := by omega
    have := ih n (i + 1) (zwg T p i a) (by omega) (by omega)
    rw [zup_s, ← this]
    unfold zwg
    by_cases e : p = i
    · subst e
      simp (disch := omega) only [f_X12_warmest_23, f_X12_warmest_23b, f_X12_warmest_58, f_X12_warmest_59, f_X12_warmest_77, f_X12_warmest_99, h.2.1, hi2, zzbd_s, zzlt_eq, zzon_n, zzon_s, q0, q1, q2, q3, q4, q5, q6, q7, q8, q9, q10, q11, q12, q20, q48, q49, q57, q59, q99, q100, q999, nI_add, pk_mul, q_lt0, q_lt, q_eq, q_cl, q_gd, if_true, if_false, q_ofNat, q_min, q_max, ite_self, Nat.not_lt_zero, q_e10, q_e01, eq_self, not_true_eq_false, not_false_eq_true, and_true, true_and, and_false, false_and, or_true, true_or, or_false, false_or, q_gdT, Nat.reduceEqDiff, Bool.false_eq_true, Nat.lt_irrefl, Nat.or_zero]
    · by_cases e2 : a.2 < nI (zo T (7 * p + i))
      · simp (disch := omega) only [f_X12_warmest_23, f_X12_warmest_23b, f_X12_warmest_58, f_X12_warmest_59, f_X12_warmest_77, f_X12_warmest_99, h.2.1, hi2, e, e2, h.2.2.2.2.2.2, q_len40, q_e1_0, zzbd_s, zzlt_eq, zzon_n, zzon_s, q0, q1, q2, q3, q4, q5, q6, q7, q8, q9, q10, q11, q12, q20, q48, q49, q57, q59, q99, q100, q999, nI_add, pk_mul, q_lt0, q_lt, q_eq, q_cl, q_gd, if_true, if_false, q_ofNat, q_min, q_max, ite_self, Nat.not_lt_zero, q_e10, q_e01, eq_self, not_true_eq_false, not_false_eq_true, and_true, true_and, and_false, false_and, or_true, true_or, or_false, false_or, q_gdT, Nat.reduceEqDiff, Bool.false_eq_true, Nat.lt_irrefl, Nat.or_zero]
      · simp (disch := omega) only [f_X12_warmest_23, f_X12_warmest_23b, f_X12_warmest_58, f_X12_warmest_59, f_X12_warmest_77, f_X12_warmest_99, h.2.1, hi2, e, e2, h.2.2.2.2.2.2, q_len40, zzbd_s, zzlt_eq, zzon_n, zzon_s, q0, q1, q2, q3, q4, q5, q6, q7, q8, q9, q10, q11, q12, q20, q48, q49, q57, q59, q99, q100, q999, nI_add, pk_mul, q_lt0, q_lt, q_eq, q_cl, q_gd, if_true, if_false, q_ofNat, q_min, q_max, ite_self, Nat.not_lt_zero, q_e10, q_e01, eq_self, not_true_eq_false, not_false_eq_true, and_true, true_and, and_false, false_and, or_true, true_or, or_false, false_or, q_gdT, Nat.reduceEqDiff, Bool.false_eq_true, Nat.lt_irrefl, Nat.or_zero]
theorem m_warm_o (h : zMT m T) : ∀ d n i a, i + d = zn T → d < n → f_X12_warmest_12 n a.1 a.2 (nI i) m = some ((zup (zwo T) d i a).1, m) := by
  have h7 := h.1.1
  intro d
  induction d with
  | zero =>
    intro n i a hi hn
    obtain ⟨n, rfl⟩ : ∃ n', n = n' + 1 := ⟨n - 1, by omega⟩
    have : i = zn T := by omega
    subst this
    simp (disch := omega) only [f_X12_warmest_12, f_X12_warmest_12b, h.2.1, zup_z, zzbd_s, zzlt_eq, zzon_n, zzon_s, q0, q1, q2, q3, q4, q5, q6, q7, q8, q9, q10, q11, q12, q20, q48, q49, q57, q59, q99, q100, q999, nI_add, pk_mul, q_lt0, q_lt, q_eq, q_cl, q_gd, if_true, if_false, q_ofNat, q_min, q_max, ite_self, Nat.not_lt_zero, q_e10, q_e01, eq_self, not_true_eq_false, not_false_eq_true, and_true, true_and, and_false, false_and, or_true, true_or, or_false, false_or, q_gdT, Nat.reduceEqDiff, Bool.false_eq_true, Nat.lt_irrefl, Nat.or_zero]
  | succ d ih =>
    intro n i a hi hn
    obtain ⟨n, rfl⟩ : ∃ n', n = n' + 1 := ⟨n - 1, by omega⟩
    have hi2 : i < zn T := by omega
    have e := m_warm_i h (f_X12_warmest_12 n) hi2 (zn T) 200 0 a (by omega) (by omega)
    have e2 := ih n (i + 1) (zwo T i a) (by omega) (by omega)
    rw [zup_s, ← e2]
    unfold zwo
    simp (disch := omega) only [f_X12_warmest_12, f_X12_warmest_12b, h.2.1, hi2, zzbd_s, zzlt_eq, zzon_n, zzon_s, q0, q1, q2, q3, q4, q5, q6, q7, q8, q9, q10, q11, q12, q20, q48, q49, q57, q59, q99, q100, q999, nI_add, pk_mul, q_lt0, q_lt, q_eq, q_cl, q_gd, if_true, if_false, q_ofNat, q_min, q_max, ite_self, Nat.not_lt_zero, q_e10, q_e01, eq_self, not_true_eq_false, not_false_eq_true, and_true, true_and, and_false, false_and, or_true, true_or, or_false, false_or, q_gdT, Nat.reduceEqDiff, Bool.false_eq_true, Nat.lt_irrefl, Nat.or_zero]
    exact e
theorem s_warmest : zSim f_X11_warmest f_X12_warmest := by
  refine zSim_rd (fun x m T hx hm hs hi => ?_)
  have h7 := hx.1.1
  have hm1 : zMT (zzsi m 36 13 (nI 0)) T := hm
  exact ⟨_, x_warm_o hx (zn T) 200 0 (-4, -1) (by omega) (by omega), m_warm_o hm1 (zn T) 200 0 (-4, -1) (by omega) (by omega)⟩
end
-- sums
def zsm (f : Nat → Nat) : Nat → Nat → Nat
  | 0, _ => 0
  | d + 1, i => f i + zsm f d (i + 1)
theorem zsm_z (f : Nat → Nat) (i : Nat) : zsm f 0 i = 0 := rfl
theorem zsm_s (f : Nat → Nat) (d i : Nat) : zsm f (d + 1) i = f i + zsm f d (i + 1) := rfl
theorem zsm_le (f : Nat → Nat) (B : Nat) : ∀ d i, (∀ j, i ≤ j → j < i + d → f j ≤ B) → zsm f d i ≤ B * d
  | 0, _, _ => Nat.zero_le _
  | d + 1, i, h => by
    have h1 := zsm_le f B d (i + 1) (fun j h1 h2 => h j (by omega) (by omega))
    have h2 := h i (by omega) (by omega)
    rw [zsm_s, Nat.mul_succ]; omega
theorem zsm_add (f g : Nat → Nat) : ∀ d i, zsm (fun j => f j + g j) d i = zsm f d i + zsm g d i
  | 0, _ => rfl
  | d + 1, i => by rw [zsm_s, zsm_s, zsm_s, zsm_add f g d (i + 1)]; omega
theorem zsm_0 : ∀ d i, zsm (fun _ => 0) d i = 0
  | 0, _ => rfl
  | d + 1, i => by rw [zsm_s, zsm_0 d (i + 1)]
theorem zsm_swap (f : Nat → Nat → Nat) (e j : Nat) : ∀ d i, zsm (fun a => zsm (fun b => f a b) e j) d i = zsm (fun b => zsm (fun a => f a b) d i) e j
  | 0, i => by rw [zsm_z]; exact (zsm_0 e j).symm
  | d + 1, i => by
    rw [zsm_s, zsm_swap f e j d (i + 1)]
    rw [← zsm_add]
    rfl
