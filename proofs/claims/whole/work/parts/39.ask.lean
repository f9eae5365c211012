/-! ===== ones of a set; whom to ask ===== -/
def zpop (a : Nat) : Nat := zcnt (fun i => a.testBit i) 10 0
theorem q_bc : ∀ a < 128, zzbitCount (nI a) = nI (zpop a) := by decide +kernel
theorem x_bc (x : zzS) {a : Nat} (h : a < 128) : f_J6_bitCount_0f7a4 (nI a) x = some (nI (zpop a), x) := by
  rw [← q_bc a h]; rfl
def zon1 : Nat → Int32 → Int32 → Option Int32
  | 0, _, _ => none
  | n + 1, a, b => if b = 0 then some a else zon1 n (a + 1) (b &&& (b - 1))
theorem m_on_l (m : zzS) (u : Int32) : ∀ n a b, f_X12_onesOf_4 u n a b m = (zon1 n a b).map (fun r => (r, m))
  | 0, _, _ => rfl
  | n + 1, a, b => by
    have ih := m_on_l m u n (a + 1) (b &&& (b - 1))
    unfold f_X12_onesOf_4 f_X12_onesOf_4b zon1
    by_cases c : b = 0
    · rw [if_pos c, if_pos c]; rfl
    · rw [if_neg c, if_neg c, zzlt_eq, zzlt_eq, ih]
theorem q_on : ∀ a < 1024, zon1 200 (nI 0) (nI a) = some (nI (zpop a)) := by decide +kernel
theorem m_on (m : zzS) {a : Nat} (h : a < 1024) : f_X12_onesOf (nI a) m = some (nI (zpop a), m) := by
  unfold f_X12_onesOf
  rw [m_on_l, q0, q_on a h]; rfl
def zfall (T : zT) : Nat := zsm (fun q => zpop (zfit T (zl T) q)) (zn T) 0
section
variable {x m : zzS} {t : Nat} {T : zT}
theorem x_fall_l (h : zXT x t T) (ht : zztown t) : ∀ d n i a, i + d = zn T → d < n → f_X10_fitForAll_4 t n (nI a) (nI i) x = some (nI (a + zsm (fun q => zpop (zfit T (zl T) q)) d i), x) := by
  have h7 := h.1.1
  have hL := h.1.2.1
  intro d
  induction d with
  | zero =>
    intro n i a hi hn
    obtain ⟨n, rfl⟩ : ∃ n', n = n' + 1 := ⟨n - 1, by omega⟩
    have : i = zn T := by omega
    subst this
    simp (disch := omega) only [f_X10_fitForAll_4, f_X10_fitForAll_4b, h.2.1, zsm_z, Nat.add_zero, zzbd_s, zzlt_eq, zzon_n, zzon_s, q0, q1, q2, q3, q4, q5, q6, q7, q8, q9, q10, q11, q12, q20, q48, q49, q57, q59, q99, q100, q999, nI_add, pk_mul, q_lt0, q_lt, q_eq, q_cl, q_gd, if_true, if_false, q_ofNat, q_min, q_max, ite_self, Nat.not_lt_zero, q_e10, q_e01, eq_self, not_true_eq_false, not_false_eq_true, and_true, true_and, and_false, false_and, or_true, true_or, or_false, false_or, q_gdT, Nat.reduceEqDiff, Bool.false_eq_true, Nat.lt_irrefl, Nat.or_zero]
  | succ d ih =>
    intro n i a hi hn
    obtain ⟨n, rfl⟩ : ∃ n', n = n' + 1 := ⟨n - 1, by omega⟩
    have hi2 : i < zn T := by omega
    have hf : zfit T (zl T) i < 128 := zfit_lt h.1 _ _
    rw [zsm_s, ← Nat.add_assoc]
    simp (disch := omega) only [f_X10_fitForAll_4, f_X10_fitForAll_4b, h.2.1, h.2.2.1, hi2, x_fit h ht, x_bc, ih, zzbd_s, zzlt_eq, zzon_n, zzon_s, q0, q1, q2, q3, q4, q5, q6, q7, q8, q9, q10, q11, q12, q20, q48, q49, q57, q59, q99, q100, q999, nI_add, pk_mul, q_lt0, q_lt, q_eq, q_cl, q_gd, if_true, if_false, q_ofNat, q_min, q_max, ite_self, Nat.not_lt_zero, q_e10, q_e01, eq_self, not_true_eq_false, not_false_eq_true, and_true, true_and, and_false, false_and, or_true, true_or, or_false, false_or, q_gdT, Nat.reduceEqDiff, Bool.false_eq_true, Nat.lt_irrefl, Nat.or_zero]
theorem x_fall (h : zXT x t T) (ht : zztown t) : f_X10_fitForAll t x = some (nI (zfall T), x) := by
  have h7 := h.1.1
  have := x_fall_l h ht (zn T) 200 0 0 (by omega) (by omega)
  rw [Nat.zero_add] at this
  exact this
theorem m_fall_l (h : zMT m T) : ∀ d n i a, i + d = zn T → d < n → f_X12_fitInAll_4 n (nI a) (nI i) m = some (nI (a + zsm (fun q => zpop (zfit T (zl T) q)) d i), m) := by
  have h7 := h.1.1
  intro d
  induction d with
  | zero =>
    intro n i a hi hn
    obtain ⟨n, rfl⟩ : ∃ n', n = n' + 1 := ⟨n - 1, by omega⟩
    have : i = zn T := by omega
    subst this
    simp (disch := omega) only [f_X12_fitInAll_4, f_X12_fitInAll_4b, h.2.1, zsm_z, Nat.add_zero, zzbd_s, zzlt_eq, zzon_n, zzon_s, q0, q1, q2, q3, q4, q5, q6, q7, q8, q9, q10, q11, q12, q20, q48, q49, q57, q59, q99, q100, q999, nI_add, pk_mul, q_lt0, q_lt, q_eq, q_cl, q_gd, if_true, if_false, q_ofNat, q_min, q_max, ite_self, Nat.not_lt_zero, q_e10, q_e01, eq_self, not_true_eq_false, not_false_eq_true, and_true, true_and, and_false, false_and, or_true, true_or, or_false, false_or, q_gdT, Nat.reduceEqDiff, Bool.false_eq_true, Nat.lt_irrefl, Nat.or_zero]
  | succ d ih =>
    intro n i a hi hn
    obtain ⟨n, rfl⟩ : ∃ n', n = n' + 1 := ⟨n - 1, by omega⟩
    have hi2 : i < zn T := by omega
    have hf : zfit T (zl T) i < 128 := zfit_lt h.1 _ _
    rw [zsm_s, ← Nat.add_assoc]
    simp (disch := omega) only [f_X12_fitInAll_4, f_X12_fitInAll_4b, h.2.1, hi2, m_fit h, m_on, ih, zzbd_s, zzlt_eq, zzon_n, zzon_s, q0, q1, q2, q3, q4, q5, q6, q7, q8, q9, q10, q11, q12, q20, q48, q49, q57, q59, q99, q100, q999, nI_add, pk_mul, q_lt0, q_lt, q_eq, q_cl, q_gd, if_true, if_false, q_ofNat, q_min, q_max, ite_self, Nat.not_lt_zero, q_e10, q_e01, eq_self, not_true_eq_false, not_false_eq_true, and_true, true_and, and_false, false_and, or_true, true_or, or_false, false_or, q_gdT, Nat.reduceEqDiff, Bool.false_eq_true, Nat.lt_irrefl, Nat.or_zero]
theorem m_fall (h : zMT m T) : f_X12_fitInAll m = some (nI (zfall T), m) := by
  have h7 := h.1.1
  have := m_fall_l h (zn T) 200 0 0 (by omega) (by omega)
  rw [Nat.zero_add] at this
  exact this
theorem zfall_turn (T : zT) (p q : Nat) : zfall (zturn T p q) = zfall (zgrow T p q) := rfl
theorem zto_back (T : zT) (p q : Nat) : zto (zgrow T p q) (7 * p + q) (zo T (7 * p + q)) = T := by
  obtain ⟨a, b, c, d, e, f, g⟩ := T
  unfold zgrow zto zo
  have : va_up (va_up g (7 * p + q) (min 9 (g (7 * p + q) + zgr (a, b, c, d, e, f, g) p))) (7 * p + q) (g (7 * p + q)) = g := by
    funext j
    unfold va_up
    split
    next h => rw [h]
    next => rfl
  show (a, b, c, d, e, f, va_up (va_up g (7 * p + q) (min 9 (g (7 * p + q) + zgr (a, b, c, d, e, f, g) p))) (7 * p + q) (g (7 * p + q))) = _
  rw [this]
def zaf (T : zT) (q p : Nat) (a : Int32 × Int32) : Int32 × Int32 := if zmb T (zl T) p q = true then (if a.2 < nI (zfall (zgrow T p q)) then (nI p, nI (zfall (zgrow T p q))) else a) else a
theorem x_ask_l {q : Nat} (hq : q < zn T) : ∀ d n i a x, i + d = zn T → d < n → zXT x 20 T → ∃ x', f_X11_ask_37 (nI q) n a.1 a.2 (nI i) x = some ((zup (zaf T q) d i a).1, x') ∧ zXT x' 20 T ∧ zFR 24 x x' := by
  have ht : zztown 20 := Or.inl rfl
  have ht2 : zztown 24 := Or.inr (Or.inl rfl)
  intro d
  induction d with
  | zero =>
    intro n i a x hi hn h
    have h7 := h.1.1
    obtain ⟨n, rfl⟩ : ∃ n', n = n' + 1 := ⟨n - 1, by omega⟩
    have : i = zn T := by omega
    subst this
    exact ⟨x, by simp (disch := omega) only [f_X11_ask_37, f_X11_ask_37b, h.2.1, zup_z, zzbd_s, zzlt_eq, zzon_n, zzon_s, q0, q1, q2, q3, q4, q5, q6, q7, q8, q9, q10, q11, q12, q20, q48, q49, q57, q59, q99, q100, q999, nI_add, pk_mul, q_lt0, q_lt, q_eq, q_cl, q_gd, if_true, if_false, q_ofNat, q_min, q_max, ite_self, Nat.not_lt_zero, q_e10, q_e01, eq_self, not_true_eq_false, not_false_eq_true, and_true, true_and, and_false, false_and, or_true, true_or, or_false, false_or, q_gdT, Nat.reduceEqDiff, Bool.false_eq_true, Nat.lt_irrefl, Nat.or_zero], h, zFR_refl _ _⟩
  | succ d ih =>
    intro n i a x hi hn h
    have h7 := h.1.1
    have hL := h.1.2.1
    obtain ⟨n, rfl⟩ : ∃ n', n = n' + 1 := ⟨n - 1, by omega⟩
    have hi2 : i < zn T := by omega
    rw [zup_s]
    cases e1 : zmb T (zl T) i q with
    | false =>
      obtain ⟨x', g1, g2, g3⟩ := ih n (i + 1) (zaf T q i a) x (by omega) (by omega) h
      refine ⟨x', ?_, g2, g3⟩
      rw [← g1]
      simp (disch := omega) only [f_X11_ask_37, f_X11_ask_37b, f_X11_ask_111, h.2.1, h.2.2.1, hi2, x_mb h ht, e1, zaf, zzbd_s, zzlt_eq, zzon_n, zzon_s, q0, q1, q2, q3, q4, q5, q6, q7, q8, q9, q10, q11, q12, q20, q48, q49, q57, q59, q99, q100, q999, nI_add, pk_mul, q_lt0, q_lt, q_eq, q_cl, q_gd, if_true, if_false, q_ofNat, q_min, q_max, ite_self, Nat.not_lt_zero, q_e10, q_e01, eq_self, not_true_eq_false, not_false_eq_true, and_true, true_and, and_false, false_and, or_true, true_or, or_false, false_or, q_gdT, Nat.reduceEqDiff, Bool.false_eq_true, Nat.lt_irrefl, Nat.or_zero]
    | true =>
      obtain ⟨x1, b1, b2, b3⟩ := x_become h ht2 ht (by omega)
      obtain ⟨x2, c1, c2, c3⟩ := x_turnT b2 ht2 hi2 hq (zmb_ne e1)
      have f3 := zFR_tr b3 c3
      have c4 := x_fall c2 ht2
      rw [zfall_turn] at c4
      obtain ⟨x', g1, g2, g3⟩ := ih n (i + 1) (zaf T q i a) x2 (by omega) (by omega) (zXT_fr ht2 ht (by omega) h f3)
      refine ⟨x', ?_, g2, zFR_tr f3 g3⟩
      rw [← g1]
      by_cases c : a.2 < nI (zfall (zgrow T i q))
      · simp (disch := omega) only [f_X11_ask_37, f_X11_ask_37b, f_X11_ask_111, h.2.1, h.2.2.1, hi2, x_mb h ht, e1, zaf, b1, c1, c4, c, q_e1_0, zzbd_s, zzlt_eq, zzon_n, zzon_s, q0, q1, q2, q3, q4, q5, q6, q7, q8, q9, q10, q11, q12, q20, q48, q49, q57, q59, q99, q100, q999, nI_add, pk_mul, q_lt0, q_lt, q_eq, q_cl, q_gd, if_true, if_false, q_ofNat, q_min, q_max, ite_self, Nat.not_lt_zero, q_e10, q_e01, eq_self, not_true_eq_false, not_false_eq_true, and_true, true_and, and_false, false_and, or_true, true_or, or_false, false_or, q_gdT, Nat.reduceEqDiff, Bool.false_eq_true, Nat.lt_irrefl, Nat.or_zero]
      · simp (disch := omega) only [f_X11_ask_37, f_X11_ask_37b, f_X11_ask_111, h.2.1, h.2.2.1, hi2, x_mb h ht, e1, zaf, b1, c1, c4, c, q_e1_0, zzbd_s, zzlt_eq, zzon_n, zzon_s, q0, q1, q2, q3, q4, q5, q6, q7, q8, q9, q10, q11, q12, q20, q48, q49, q57, q59, q99, q100, q999, nI_add, pk_mul, q_lt0, q_lt, q_eq, q_cl, q_gd, if_true, if_false, q_ofNat, q_min, q_max, ite_self, Nat.not_lt_zero, q_e10, q_e01, eq_self, not_true_eq_false, not_false_eq_true, and_true, true_and, and_false, false_and, or_true, true_or, or_false, false_or, q_gdT, Nat.reduceEqDiff, Bool.false_eq_true, Nat.lt_irrefl, Nat.or_zero]
theorem q_anti {a b : Int32} (h1 : ¬ a < b) (h2 : ¬ b < a) : a = b := by
  rw [Int32.lt_iff_toInt_lt] at h1 h2
  apply Int32.toInt_inj.mp
  omega
theorem m_ask_l {q : Nat} (hq : q < zn T) : ∀ d n i a m, i + d = zn T → d < n → zMT m T → ∃ m', f_X12_ask_37 (nI q) n a.1 a.2 (nI i) m = some ((zup (zaf T q) d i a).1, m') ∧ zMT m' T ∧ zMF m m' := by
  intro d
  induction d with
  | zero =>
    intro n i a m hi hn h
    have h7 := h.1.1
    obtain ⟨n, rfl⟩ : ∃ n', n = n' + 1 := ⟨n - 1, by omega⟩
    have : i = zn T := by omega
    subst this
    exact ⟨m, by simp (disch := omega) only [f_X12_ask_37, f_X12_ask_37b, h.2.1, zup_z, zzbd_s, zzlt_eq, zzon_n, zzon_s, q0, q1, q2, q3, q4, q5, q6, q7, q8, q9, q10, q11, q12, q20, q48, q49, q57, q59, q99, q100, q999, nI_add, pk_mul, q_lt0, q_lt, q_eq, q_cl, q_gd, if_true, if_false, q_ofNat, q_min, q_max, ite_self, Nat.not_lt_zero, q_e10, q_e01, eq_self, not_true_eq_false, not_false_eq_true, and_true, true_and, and_false, false_and, or_true, true_or, or_false, false_or, q_gdT, Nat.reduceEqDiff, Bool.false_eq_true, Nat.lt_irrefl, Nat.or_zero], h, zMF_refl _⟩
  | succ d ih =>
    intro n i a m hi hn h
    have h7 := h.1.1
    obtain ⟨n, rfl⟩ : ∃ n', n = n' + 1 := ⟨n - 1, by omega⟩
    have hi2 : i < zn T := by omega
    rw [zup_s]
    cases e1 : zmb T (zl T) i q with
    | false =>
      obtain ⟨m', g1, g2, g3⟩ := ih n (i + 1) (zaf T q i a) m (by omega) (by omega) h
      refine ⟨m', ?_, g2, g3⟩
      rw [← g1]
      simp (disch := omega) only [f_X12_ask_37, f_X12_ask_37b, f_X12_ask_117, h.2.1, hi2, m_mb h, e1, zaf, zzbd_s, zzlt_eq, zzon_n, zzon_s, q0, q1, q2, q3, q4, q5, q6, q7, q8, q9, q10, q11, q12, q20, q48, q49, q57, q59, q99, q100, q999, nI_add, pk_mul, q_lt0, q_lt, q_eq, q_cl, q_gd, if_true, if_false, q_ofNat, q_min, q_max, ite_self, Nat.not_lt_zero, q_e10, q_e01, eq_self, not_true_eq_false, not_false_eq_true, and_true, true_and, and_false, false_and, or_true, true_or, or_false, false_or, q_gdT, Nat.reduceEqDiff, Bool.false_eq_true, Nat.lt_irrefl, Nat.or_zero]
    | true =>
      obtain ⟨m1, b1, b2, b3⟩ := m_growT h hi2 hq
      have c4 := m_fall b2
      have o0 := h.2.2.2.2.2.2 (7 * i + q) (by omega)
      have oh := h.1.2.2.2.2.2.1 (7 * i + q) (by omega)
      have c5 := ms_o b2 (p := i) (q := q) hi2 hq (v := zo T (7 * i + q)) oh
      rw [zto_back] at c5
      have f3 := zMF_tr b3 (zMF_a m1 (7 * i + q) (nI (zo T (7 * i + q))) (k := 40) (by omega))
      obtain ⟨m', g1, g2, g3⟩ := ih n (i + 1) (zaf T q i a) _ (by omega) (by omega) c5
      refine ⟨m', ?_, g2, zMF_tr f3 g3⟩
      rw [← g1]
      by_cases c : a.2 < nI (zfall (zgrow T i q))
      · have c2 : ¬ nI (zfall (zgrow T i q)) < a.2 := by
          rw [Int32.lt_iff_toInt_lt] at c ⊢; omega
        simp (disch := omega) only [f_X12_ask_37, f_X12_ask_37b, f_X12_ask_117, f_X12_ask_109, f_X12_greater, h.2.1, hi2, m_mb h, e1, zaf, b1, c4, o0, q_len40, c, c2, q_e1_0, zzbd_s, zzlt_eq, zzon_n, zzon_s, q0, q1, q2, q3, q4, q5, q6, q7, q8, q9, q10, q11, q12, q20, q48, q49, q57, q59, q99, q100, q999, nI_add, pk_mul, q_lt0, q_lt, q_eq, q_cl, q_gd, if_true, if_false, q_ofNat, q_min, q_max, ite_self, Nat.not_lt_zero, q_e10, q_e01, eq_self, not_true_eq_false, not_false_eq_true, and_true, true_and, and_false, false_and, or_true, true_or, or_false, false_or, q_gdT, Nat.reduceEqDiff, Bool.false_eq_true, Nat.lt_irrefl, Nat.or_zero]
      · by_cases c2 : nI (zfall (zgrow T i q)) < a.2
        · simp (disch := omega) only [f_X12_ask_37, f_X12_ask_37b, f_X12_ask_117, f_X12_ask_109, f_X12_greater, h.2.1, hi2, m_mb h, e1, zaf, b1, c4, o0, q_len40, c, c2, q_e1_0, zzbd_s, zzlt_eq, zzon_n, zzon_s, q0, q1, q2, q3, q4, q5, q6, q7, q8, q9, q10, q11, q12, q20, q48, q49, q57, q59, q99, q100, q999, nI_add, pk_mul, q_lt0, q_lt, q_eq, q_cl, q_gd, if_true, if_false, q_ofNat, q_min, q_max, ite_self, Nat.not_lt_zero, q_e10, q_e01, eq_self, not_true_eq_false, not_false_eq_true, and_true, true_and, and_false, false_and, or_true, true_or, or_false, false_or, q_gdT, Nat.reduceEqDiff, Bool.false_eq_true, Nat.lt_irrefl, Nat.or_zero]
        · have c3 := q_anti c c2
          simp (disch := omega) only [f_X12_ask_37, f_X12_ask_37b, f_X12_ask_117, f_X12_ask_109, f_X12_greater, h.2.1, hi2, m_mb h, e1, zaf, b1, c4, o0, q_len40, c, c2, q_e1_0, zzbd_s, zzlt_eq, zzon_n, zzon_s, q0, q1, q2, q3, q4, q5, q6, q7, q8, q9, q10, q11, q12, q20, q48, q49, q57, q59, q99, q100, q999, nI_add, pk_mul, q_lt0, q_lt, q_eq, q_cl, q_gd, if_true, if_false, q_ofNat, q_min, q_max, ite_self, Nat.not_lt_zero, q_e10, q_e01, eq_self, not_true_eq_false, not_false_eq_true, and_true, true_and, and_false, false_and, or_true, true_or, or_false, false_or, q_gdT, Nat.reduceEqDiff, Bool.false_eq_true, Nat.lt_irrefl, Nat.or_zero]
          rw [← c3]
theorem s_ask (q : Int32) : zSim (f_X11_ask q) (f_X12_ask q) := by
  refine zSim_T (fun x m T hx hm hs hi => ?_)
  have h7 := hx.1.1
  have hm1 : zMT (zzsi m 36 13 (nI 0)) T := hm
  have ht : zztown 20 := Or.inl rfl
  rcases q_cls q (zn T) (by omega) with ⟨i, hi, rfl⟩ | hq
  · have ho := hx.1.2.2.2.2.1 i (by omega)
    by_cases c : zt T i < 9
    · have c2 : ¬ zt T i = 9 := by omega
      obtain ⟨x', a1, a2, a3⟩ := x_ask_l hi (zn T) 200 0 (-4, -1) x (by omega) (by omega) hx
      obtain ⟨m', b1, b2, b3⟩ := m_ask_l hi (zn T) 200 0 (-4, -1) _ (by omega) (by omega) hm1
      have e1 : f_X11_ask (nI i) x = f_X11_ask_37 (nI i) 200 (-4) (-1) (nI 0) x := by
        simp (disch := omega) only [f_X11_ask, x_has1 hx hi, x_turnedOf hx ht hi, c, q_e1_0, zzbd_s, zzlt_eq, zzon_n, zzon_s, q0, q1, q2, q3, q4, q5, q6, q7, q8, q9, q10, q11, q12, q20, q48, q49, q57, q59, q99, q100, q999, nI_add, pk_mul, q_lt0, q_lt, q_eq, q_cl, q_gd, if_true, if_false, q_ofNat, q_min, q_max, ite_self, Nat.not_lt_zero, q_e10, q_e01, eq_self, not_true_eq_false, not_false_eq_true, and_true, true_and, and_false, false_and, or_true, true_or, or_false, false_or, q_gdT, Nat.reduceEqDiff, Bool.false_eq_true, Nat.lt_irrefl, Nat.or_zero]
      have e2 : f_X12_ask (nI i) m = f_X12_ask_37 (nI i) 200 (-4) (-1) (nI 0) (zzsi m 36 13 (nI 0)) := by
        simp (disch := omega) only [f_X12_ask, m_one hm1 hi, hm1.2.2.2.2.2.1, q_len39, c2, q_e1_0, zzbd_s, zzlt_eq, zzon_n, zzon_s, q0, q1, q2, q3, q4, q5, q6, q7, q8, q9, q10, q11, q12, q20, q48, q49, q57, q59, q99, q100, q999, nI_add, pk_mul, q_lt0, q_lt, q_eq, q_cl, q_gd, if_true, if_false, q_ofNat, q_min, q_max, ite_self, Nat.not_lt_zero, q_e10, q_e01, eq_self, not_true_eq_false, not_false_eq_true, and_true, true_and, and_false, false_and, or_true, true_or, or_false, false_or, q_gdT, Nat.reduceEqDiff, Bool.false_eq_true, Nat.lt_irrefl, Nat.or_zero]
      exact ⟨_, x', m', T, e1.trans a1, e2.trans b1, a2, b2, zPX_fr (Or.inr rfl) a3, zPM_tr (zPM_13 m _) (zPM_fr b3)⟩
    · have c2 : zt T i = 9 := by omega
      refine ⟨-3, x, _, T, ?_, ?_, hx, hm1, zPX_refl _, zPM_13 m _⟩
      · simp (disch := omega) only [f_X11_ask, x_has1 hx hi, x_turnedOf hx ht hi, c, q_e1_0, zzbd_s, zzlt_eq, zzon_n, zzon_s, q0, q1, q2, q3, q4, q5, q6, q7, q8, q9, q10, q11, q12, q20, q48, q49, q57, q59, q99, q100, q999, nI_add, pk_mul, q_lt0, q_lt, q_eq, q_cl, q_gd, if_true, if_false, q_ofNat, q_min, q_max, ite_self, Nat.not_lt_zero, q_e10, q_e01, eq_self, not_true_eq_false, not_false_eq_true, and_true, true_and, and_false, false_and, or_true, true_or, or_false, false_or, q_gdT, Nat.reduceEqDiff, Bool.false_eq_true, Nat.lt_irrefl, Nat.or_zero]
      · simp (disch := omega) only [f_X12_ask, m_one hm1 hi, hm1.2.2.2.2.2.1, q_len39, c2, q_e1_0, zzbd_s, zzlt_eq, zzon_n, zzon_s, q0, q1, q2, q3, q4, q5, q6, q7, q8, q9, q10, q11, q12, q20, q48, q49, q57, q59, q99, q100, q999, nI_add, pk_mul, q_lt0, q_lt, q_eq, q_cl, q_gd, if_true, if_false, q_ofNat, q_min, q_max, ite_self, Nat.not_lt_zero, q_e10, q_e01, eq_self, not_true_eq_false, not_false_eq_true, and_true, true_and, and_false, false_and, or_true, true_or, or_false, false_or, q_gdT, Nat.reduceEqDiff, Bool.false_eq_true, Nat.lt_irrefl, Nat.or_zero]
  · refine ⟨-1, x, _, T, ?_, ?_, hx, hm1, zPX_refl _, zPM_13 m _⟩
    · simp (disch := omega) only [f_X11_ask, x_has_bad hx hq, zzbd_s, zzlt_eq, zzon_n, zzon_s, q0, q1, q2, q3, q4, q5, q6, q7, q8, q9, q10, q11, q12, q20, q48, q49, q57, q59, q99, q100, q999, nI_add, pk_mul, q_lt0, q_lt, q_eq, q_cl, q_gd, if_true, if_false, q_ofNat, q_min, q_max, ite_self, Nat.not_lt_zero, q_e10, q_e01, eq_self, not_true_eq_false, not_false_eq_true, and_true, true_and, and_false, false_and, or_true, true_or, or_false, false_or, q_gdT, Nat.reduceEqDiff, Bool.false_eq_true, Nat.lt_irrefl, Nat.or_zero]
    · simp (disch := omega) only [f_X12_ask, m_one_bad hm1 hq, zzbd_s, zzlt_eq, zzon_n, zzon_s, q0, q1, q2, q3, q4, q5, q6, q7, q8, q9, q10, q11, q12, q20, q48, q49, q57, q59, q99, q100, q999, nI_add, pk_mul, q_lt0, q_lt, q_eq, q_cl, q_gd, if_true, if_false, q_ofNat, q_min, q_max, ite_self, Nat.not_lt_zero, q_e10, q_e01, eq_self, not_true_eq_false, not_false_eq_true, and_true, true_and, and_false, false_and, or_true, true_or, or_false, false_or, q_gdT, Nat.reduceEqDiff, Bool.false_eq_true, Nat.lt_irrefl, Nat.or_zero]
end
