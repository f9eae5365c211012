/-! ===== loops that both sides go ===== -/
def zmb (T : zT) (L p q : Nat) : Bool := decide (p ≠ q ∧ zo T (7 * p + q) < zbe T p + L)
theorem zmb_iff (T : zT) (L p q : Nat) : zmb T L p q = true ↔ zmay T L p q := by
  unfold zmb zmay; exact decide_eq_true_iff
theorem zup_P {A : Type} (g : Nat → A → A) (P : A → Prop) : ∀ d i a, (∀ j b, i ≤ j → j < i + d → P b → P (g j b)) → P a → P (zup g d i a)
  | 0, _, _, _, h => h
  | d + 1, i, a, hs, h => zup_P g P d (i + 1) _ (fun j b h1 h2 h3 => hs j b (by omega) (by omega) h3) (hs i a (by omega) (by omega) h)
def zfg (T : zT) (L q : Nat) (p a : Nat) : Nat := if zmb T L p q then a ||| 2 ^ p else a
def zfit (T : zT) (L q : Nat) : Nat := zup (zfg T L q) (zn T) 0 0
theorem zfit_lt {T : zT} (h : zV T) (L q : Nat) : zfit T L q < 2 ^ 7 := by
  have h7 := h.1
  unfold zfit
  refine zup_P _ (fun a => a < 2 ^ 7) _ _ _ (fun j b h1 h2 h3 => ?_) (by decide)
  unfold zfg
  split
  · exact Nat.or_lt_two_pow h3 (Nat.pow_lt_pow_right (by omega) (by omega))
  · exact h3
section
variable {x m : zzS} {t : Nat} {T : zT}
theorem x_mb (h : zXT x t T) (ht : zztown t) {p q L : Nat} (hp : p < zn T) (hq : q < zn T) (hL : L < 100) : f_X10_may t (nI p) (nI q) (nI L) x = some (if zmb T L p q = true then nI 1 else nI 0, x) := by
  haveI : Decidable (zmay T L p q) := Classical.propDecidable _
  rw [x_may h ht hp hq hL]
  by_cases c : zmay T L p q
  · rw [if_pos c, if_pos ((zmb_iff ..).mpr c)]
  · rw [if_neg c, if_neg (fun z => c ((zmb_iff ..).mp z))]
theorem m_mb (h : zMT m T) {p q : Nat} (hp : p < zn T) (hq : q < zn T) : f_X12_mayTurn (nI p) (nI q) m = some (if zmb T (zl T) p q = true then nI 1 else nI 0, m) := by
  haveI : Decidable (zmay T (zl T) p q) := Classical.propDecidable _
  rw [m_may h hp hq]
  by_cases c : zmay T (zl T) p q
  · rw [if_pos c, if_pos ((zmb_iff ..).mpr c)]
  · rw [if_neg c, if_neg (fun z => c ((zmb_iff ..).mp z))]
theorem x_fit_l (h : zXT x t T) (ht : zztown t) {q L : Nat} (hq : q < zn T) (hL : L < 100) : ∀ d n i a, i + d = zn T → d < n → f_X10_fitFor_5 t (nI q) (nI L) n (nI a) (nI i) x = some (nI (zup (zfg T L q) d i a), x) := by
  have h7 := h.1.1
  intro d
  induction d with
  | zero =>
    intro n i a hi hn
    obtain ⟨n, rfl⟩ : ∃ n', n = n' + 1 := ⟨n - 1, by omega⟩
    have : i = zn T := by omega
    subst this
    simp (disch := omega) only [f_X10_fitFor_5, f_X10_fitFor_5b, h.2.1, zup_z, zzbd_s, zzlt_eq, zzon_n, zzon_s, q0, q1, q2, q3, q4, q5, q6, q7, q8, q9, q10, q11, q12, q20, q48, q49, q57, q59, q99, q100, q999, nI_add, pk_mul, q_lt0, q_lt, q_eq, q_cl, q_gd, if_true, if_false, q_ofNat, q_min, q_max, ite_self, Nat.not_lt_zero, q_e10, q_e01, eq_self, not_true_eq_false, not_false_eq_true, and_true, true_and, and_false, false_and, or_true, true_or, or_false, false_or, q_gdT, Nat.reduceEqDiff, Bool.false_eq_true, Nat.lt_irrefl, Nat.or_zero]
  | succ d ih =>
    intro n i a hi hn
    obtain ⟨n, rfl⟩ : ∃ n', n = n' + 1 := ⟨n - 1, by omega⟩
    have hi2 : i < zn T := by omega
    cases e : zmb T L i q with
    | true => simp (disch := omega) only [f_X10_fitFor_5, f_X10_fitFor_5b, f_X10_fitFor_32, h.2.1, hi2, x_mb h ht, e, q_e1_0, q_shl', q_or, zup_s, zfg, ih, zzbd_s, zzlt_eq, zzon_n, zzon_s, q0, q1, q2, q3, q4, q5, q6, q7, q8, q9, q10, q11, q12, q20, q48, q49, q57, q59, q99, q100, q999, nI_add, pk_mul, q_lt0, q_lt, q_eq, q_cl, q_gd, if_true, if_false, q_ofNat, q_min, q_max, ite_self, Nat.not_lt_zero, q_e10, q_e01, eq_self, not_true_eq_false, not_false_eq_true, and_true, true_and, and_false, false_and, or_true, true_or, or_false, false_or, q_gdT, Nat.reduceEqDiff, Bool.false_eq_true, Nat.lt_irrefl, Nat.or_zero]
    | false => simp (disch := omega) only [f_X10_fitFor_5, f_X10_fitFor_5b, f_X10_fitFor_32, h.2.1, hi2, x_mb h ht, e, zup_s, zfg, ih, zzbd_s, zzlt_eq, zzon_n, zzon_s, q0, q1, q2, q3, q4, q5, q6, q7, q8, q9, q10, q11, q12, q20, q48, q49, q57, q59, q99, q100, q999, nI_add, pk_mul, q_lt0, q_lt, q_eq, q_cl, q_gd, if_true, if_false, q_ofNat, q_min, q_max, ite_self, Nat.not_lt_zero, q_e10, q_e01, eq_self, not_true_eq_false, not_false_eq_true, and_true, true_and, and_false, false_and, or_true, true_or, or_false, false_or, q_gdT, Nat.reduceEqDiff, Bool.false_eq_true, Nat.lt_irrefl, Nat.or_zero]
theorem x_fit (h : zXT x t T) (ht : zztown t) {q L : Nat} (hq : q < zn T) (hL : L < 100) : f_X10_fitFor t (nI q) (nI L) x = some (nI (zfit T L q), x) := by
  have h7 := h.1.1
  exact x_fit_l h ht hq hL (zn T) 200 0 0 (by omega) (by omega)
theorem m_fit_l (h : zMT m T) {q : Nat} (hq : q < zn T) : ∀ d n i a, i + d = zn T → d < n → f_X12_fitFor_4 (nI q) n (nI a) (nI i) m = some (nI (zup (zfg T (zl T) q) d i a), m) := by
  have h7 := h.1.1
  intro d
  induction d with
  | zero =>
    intro n i a hi hn
    obtain ⟨n, rfl⟩ : ∃ n', n = n' + 1 := ⟨n - 1, by omega⟩
    have : i = zn T := by omega
    subst this
    simp (disch := omega) only [f_X12_fitFor_4, f_X12_fitFor_4b, h.2.1, zup_z, zzbd_s, zzlt_eq, zzon_n, zzon_s, q0, q1, q2, q3, q4, q5, q6, q7, q8, q9, q10, q11, q12, q20, q48, q49, q57, q59, q99, q100, q999, nI_add, pk_mul, q_lt0, q_lt, q_eq, q_cl, q_gd, if_true, if_false, q_ofNat, q_min, q_max, ite_self, Nat.not_lt_zero, q_e10, q_e01, eq_self, not_true_eq_false, not_false_eq_true, and_true, true_and, and_false, false_and, or_true, true_or, or_false, false_or, q_gdT, Nat.reduceEqDiff, Bool.false_eq_true, Nat.lt_irrefl, Nat.or_zero]
  | succ d ih =>
    intro n i a hi hn
    obtain ⟨n, rfl⟩ : ∃ n', n = n' + 1 := ⟨n - 1, by omega⟩
    have hi2 : i < zn T := by omega
    cases e : zmb T (zl T) i q with
    | true => simp (disch := omega) only [f_X12_fitFor_4, f_X12_fitFor_4b, f_X12_fitFor_29, h.2.1, hi2, m_mb h, e, q_e1_0, q_shl', q_or, zup_s, zfg, ih, zzbd_s, zzlt_eq, zzon_n, zzon_s, q0, q1, q2, q3, q4, q5, q6, q7, q8, q9, q10, q11, q12, q20, q48, q49, q57, q59, q99, q100, q999, nI_add, pk_mul, q_lt0, q_lt, q_eq, q_cl, q_gd, if_true, if_false, q_ofNat, q_min, q_max, ite_self, Nat.not_lt_zero, q_e10, q_e01, eq_self, not_true_eq_false, not_false_eq_true, and_true, true_and, and_false, false_and, or_true, true_or, or_false, false_or, q_gdT, Nat.reduceEqDiff, Bool.false_eq_true, Nat.lt_irrefl, Nat.or_zero]
    | false => simp (disch := omega) only [f_X12_fitFor_4, f_X12_fitFor_4b, f_X12_fitFor_29, h.2.1, hi2, m_mb h, e, q_or, zup_s, zfg, ih, zzbd_s, zzlt_eq, zzon_n, zzon_s, q0, q1, q2, q3, q4, q5, q6, q7, q8, q9, q10, q11, q12, q20, q48, q49, q57, q59, q99, q100, q999, nI_add, pk_mul, q_lt0, q_lt, q_eq, q_cl, q_gd, if_true, if_false, q_ofNat, q_min, q_max, ite_self, Nat.not_lt_zero, q_e10, q_e01, eq_self, not_true_eq_false, not_false_eq_true, and_true, true_and, and_false, false_and, or_true, true_or, or_false, false_or, q_gdT, Nat.reduceEqDiff, Bool.false_eq_true, Nat.lt_irrefl, Nat.or_zero]
theorem m_fit (h : zMT m T) {q : Nat} (hq : q < zn T) : f_X12_fitFor (nI q) m = some (nI (zfit T (zl T) q), m) := by
  have h7 := h.1.1
  exact m_fit_l h hq (zn T) 200 0 0 (by omega) (by omega)
/-- who has nobody -/
def zng (T : zT) (L : Nat) (q a : Nat) : Nat := if zfit T L q = 0 then a ||| 2 ^ q else a
theorem m_nob_l (h : zMT m T) : ∀ d n i a, i + d = zn T → d < n → f_X12_nobodyBits_4 n (nI a) (nI i) m = some (nI (zup (zng T (zl T)) d i a), m) := by
  have h7 := h.1.1
  intro d
  induction d with
  | zero =>
    intro n i a hi hn
    obtain ⟨n, rfl⟩ : ∃ n', n = n' + 1 := ⟨n - 1, by omega⟩
    have : i = zn T := by omega
    subst this
    simp (disch := omega) only [f_X12_nobodyBits_4, f_X12_nobodyBits_4b, h.2.1, zup_z, zzbd_s, zzlt_eq, zzon_n, zzon_s, q0, q1, q2, q3, q4, q5, q6, q7, q8, q9, q10, q11, q12, q20, q48, q49, q57, q59, q99, q100, q999, nI_add, pk_mul, q_lt0, q_lt, q_eq, q_cl, q_gd, if_true, if_false, q_ofNat, q_min, q_max, ite_self, Nat.not_lt_zero, q_e10, q_e01, eq_self, not_true_eq_false, not_false_eq_true, and_true, true_and, and_false, false_and, or_true, true_or, or_false, false_or, q_gdT, Nat.reduceEqDiff, Bool.false_eq_true, Nat.lt_irrefl, Nat.or_zero]
  | succ d ih =>
    intro n i a hi hn
    obtain ⟨n, rfl⟩ : ∃ n', n = n' + 1 := ⟨n - 1, by omega⟩
    have hi2 : i < zn T := by omega
    have hf := zfit_lt h.1 (zl T) i
    by_cases e : zfit T (zl T) i = 0
    · simp (disch := omega) only [f_X12_nobodyBits_4, f_X12_nobodyBits_4b, f_X12_nobodyBits_28, h.2.1, hi2, m_fit h, e, q_shl', q_or, zup_s, zng, ih, zzbd_s, zzlt_eq, zzon_n, zzon_s, q0, q1, q2, q3, q4, q5, q6, q7, q8, q9, q10, q11, q12, q20, q48, q49, q57, q59, q99, q100, q999, nI_add, pk_mul, q_lt0, q_lt, q_eq, q_cl, q_gd, if_true, if_false, q_ofNat, q_min, q_max, ite_self, Nat.not_lt_zero, q_e10, q_e01, eq_self, not_true_eq_false, not_false_eq_true, and_true, true_and, and_false, false_and, or_true, true_or, or_false, false_or, q_gdT, Nat.reduceEqDiff, Bool.false_eq_true, Nat.lt_irrefl, Nat.or_zero]
    · simp (disch := omega) only [f_X12_nobodyBits_4, f_X12_nobodyBits_4b, f_X12_nobodyBits_28, h.2.1, hi2, m_fit h, e, q_or, zup_s, zng, ih, zzbd_s, zzlt_eq, zzon_n, zzon_s, q0, q1, q2, q3, q4, q5, q6, q7, q8, q9, q10, q11, q12, q20, q48, q49, q57, q59, q99, q100, q999, nI_add, pk_mul, q_lt0, q_lt, q_eq, q_cl, q_gd, if_true, if_false, q_ofNat, q_min, q_max, ite_self, Nat.not_lt_zero, q_e10, q_e01, eq_self, not_true_eq_false, not_false_eq_true, and_true, true_and, and_false, false_and, or_true, true_or, or_false, false_or, q_gdT, Nat.reduceEqDiff, Bool.false_eq_true, Nat.lt_irrefl, Nat.or_zero]
theorem m_nob (h : zMT m T) : f_X12_nobodyBits m = some (nI (zup (zng T (zl T)) (zn T) 0 0), m) := by
  have h7 := h.1.1
  exact m_nob_l h (zn T) 200 0 0 (by omega) (by omega)
theorem x_nob_l (h : zXT x 20 T) : ∀ d n i a, i + d = zn T → d < n → f_X11_nobody_4 n (nI a) (nI i) x = some (nI (zup (zng T (zl T)) d i a), x) := by
  have h7 := h.1.1
  have hL := h.1.2.1
  have ht : zztown 20 := Or.inl rfl
  intro d
  induction d with
  | zero =>
    intro n i a hi hn
    obtain ⟨n, rfl⟩ : ∃ n', n = n' + 1 := ⟨n - 1, by omega⟩
    have : i = zn T := by omega
    subst this
    simp (disch := omega) only [f_X11_nobody_4, f_X11_nobody_4b, h.2.1, zup_z, zzbd_s, zzlt_eq, zzon_n, zzon_s, q0, q1, q2, q3, q4, q5, q6, q7, q8, q9, q10, q11, q12, q20, q48, q49, q57, q59, q99, q100, q999, nI_add, pk_mul, q_lt0, q_lt, q_eq, q_cl, q_gd, if_true, if_false, q_ofNat, q_min, q_max, ite_self, Nat.not_lt_zero, q_e10, q_e01, eq_self, not_true_eq_false, not_false_eq_true, and_true, true_and, and_false, false_and, or_true, true_or, or_false, false_or, q_gdT, Nat.reduceEqDiff, Bool.false_eq_true, Nat.lt_irrefl, Nat.or_zero]
  | succ d ih =>
    intro n i a hi hn
    obtain ⟨n, rfl⟩ : ∃ n', n = n' + 1 := ⟨n - 1, by omega⟩
    have hi2 : i < zn T := by omega
    have hf := zfit_lt h.1 (zl T) i
    by_cases e : zfit T (zl T) i = 0
    · simp (disch := omega) only [f_X11_nobody_4, f_X11_nobody_4b, f_X11_nobody_39, h.2.1, h.2.2.1, hi2, x_fit h ht, e, q_shl', q_or, zup_s, zng, ih, zzbd_s, zzlt_eq, zzon_n, zzon_s, q0, q1, q2, q3, q4, q5, q6, q7, q8, q9, q10, q11, q12, q20, q48, q49, q57, q59, q99, q100, q999, nI_add, pk_mul, q_lt0, q_lt, q_eq, q_cl, q_gd, if_true, if_false, q_ofNat, q_min, q_max, ite_self, Nat.not_lt_zero, q_e10, q_e01, eq_self, not_true_eq_false, not_false_eq_true, and_true, true_and, and_false, false_and, or_true, true_or, or_false, false_or, q_gdT, Nat.reduceEqDiff, Bool.false_eq_true, Nat.lt_irrefl, Nat.or_zero]
    · simp (disch := omega) only [f_X11_nobody_4, f_X11_nobody_4b, f_X11_nobody_39, h.2.1, h.2.2.1, hi2, x_fit h ht, e, q_or, zup_s, zng, ih, zzbd_s, zzlt_eq, zzon_n, zzon_s, q0, q1, q2, q3, q4, q5, q6, q7, q8, q9, q10, q11, q12, q20, q48, q49, q57, q59, q99, q100, q999, nI_add, pk_mul, q_lt0, q_lt, q_eq, q_cl, q_gd, if_true, if_false, q_ofNat, q_min, q_max, ite_self, Nat.not_lt_zero, q_e10, q_e01, eq_self, not_true_eq_false, not_false_eq_true, and_true, true_and, and_false, false_and, or_true, true_or, or_false, false_or, q_gdT, Nat.reduceEqDiff, Bool.false_eq_true, Nat.lt_irrefl, Nat.or_zero]
theorem s_fit (q : Int32) : zSim (f_X11_fit q) (f_X12_fit q) := by
  refine zSim_rd (fun x m T hx hm hs hi => ?_)
  have h7 := hx.1.1
  have hL := hx.1.2.1
  have hm1 : zMT (zzsi m 36 13 (nI 0)) T := hm
  have ht : zztown 20 := Or.inl rfl
  rcases q_cls q (zn T) (by omega) with ⟨i, hi, rfl⟩ | hq
  · exact ⟨nI (zfit T (zl T) i), by simp (disch := omega) only [f_X11_fit, x_has1 hx hi, hx.2.2.1, x_fit hx ht, q_e1_0, zzbd_s, zzlt_eq, zzon_n, zzon_s, q0, q1, q2, q3, q4, q5, q6, q7, q8, q9, q10, q11, q12, q20, q48, q49, q57, q59, q99, q100, q999, nI_add, pk_mul, q_lt0, q_lt, q_eq, q_cl, q_gd, if_true, if_false, q_ofNat, q_min, q_max, ite_self, Nat.not_lt_zero, q_e10, q_e01, eq_self, not_true_eq_false, not_false_eq_true, and_true, true_and, and_false, false_and, or_true, true_or, or_false, false_or, q_gdT, Nat.reduceEqDiff, Bool.false_eq_true, Nat.lt_irrefl, Nat.or_zero], by simp (disch := omega) only [f_X12_fit, m_one hm1 hi, m_fit hm1 hi, q_e1_0, zzbd_s, zzlt_eq, zzon_n, zzon_s, q0, q1, q2, q3, q4, q5, q6, q7, q8, q9, q10, q11, q12, q20, q48, q49, q57, q59, q99, q100, q999, nI_add, pk_mul, q_lt0, q_lt, q_eq, q_cl, q_gd, if_true, if_false, q_ofNat, q_min, q_max, ite_self, Nat.not_lt_zero, q_e10, q_e01, eq_self, not_true_eq_false, not_false_eq_true, and_true, true_and, and_false, false_and, or_true, true_or, or_false, false_or, q_gdT, Nat.reduceEqDiff, Bool.false_eq_true, Nat.lt_irrefl, Nat.or_zero]⟩
  · exact ⟨-1, by simp (disch := omega) only [f_X11_fit, x_has_bad hx hq, zzbd_s, zzlt_eq, zzon_n, zzon_s, q0, q1, q2, q3, q4, q5, q6, q7, q8, q9, q10, q11, q12, q20, q48, q49, q57, q59, q99, q100, q999, nI_add, pk_mul, q_lt0, q_lt, q_eq, q_cl, q_gd, if_true, if_false, q_ofNat, q_min, q_max, ite_self, Nat.not_lt_zero, q_e10, q_e01, eq_self, not_true_eq_false, not_false_eq_true, and_true, true_and, and_false, false_and, or_true, true_or, or_false, false_or, q_gdT, Nat.reduceEqDiff, Bool.false_eq_true, Nat.lt_irrefl, Nat.or_zero], by simp (disch := omega) only [f_X12_fit, m_one_bad hm1 hq, zzbd_s, zzlt_eq, zzon_n, zzon_s, q0, q1, q2, q3, q4, q5, q6, q7, q8, q9, q10, q11, q12, q20, q48, q49, q57, q59, q99, q100, q999, nI_add, pk_mul, q_lt0, q_lt, q_eq, q_cl, q_gd, if_true, if_false, q_ofNat, q_min, q_max, ite_self, Nat.not_lt_zero, q_e10, q_e01, eq_self, not_true_eq_false, not_false_eq_true, and_true, true_and, and_false, false_and, or_true, true_or, or_false, false_or, q_gdT, Nat.reduceEqDiff, Bool.false_eq_true, Nat.lt_irrefl, Nat.or_zero]⟩
theorem s_nobody : zSim f_X11_nobody f_X12_nobody := by
  refine zSim_rd (fun x m T hx hm hs hi => ?_)
  have h7 := hx.1.1
  have hm1 : zMT (zzsi m 36 13 (nI 0)) T := hm
  exact ⟨_, x_nob_l hx (zn T) 200 0 0 (by omega) (by omega), by simp (disch := omega) only [f_X12_nobody, m_nob hm1, zzbd_s, zzlt_eq, zzon_n, zzon_s, q0, q1, q2, q3, q4, q5, q6, q7, q8, q9, q10, q11, q12, q20, q48, q49, q57, q59, q99, q100, q999, nI_add, pk_mul, q_lt0, q_lt, q_eq, q_cl, q_gd, if_true, if_false, q_ofNat, q_min, q_max, ite_self, Nat.not_lt_zero, q_e10, q_e01, eq_self, not_true_eq_false, not_false_eq_true, and_true, true_and, and_false, false_and, or_true, true_or, or_false, false_or, q_gdT, Nat.reduceEqDiff, Bool.false_eq_true, Nat.lt_irrefl, Nat.or_zero]⟩
-- how long one lasts
def zlast (b g : Nat) : Nat → Nat → Nat → Nat
  | 0, _, i => i
  | d + 1, f, i => if b < f + 1 then i else zlast b g d (min 9 (f + g)) (i + 1)
theorem zlast_z (b g f i : Nat) : zlast b g 0 f i = i := rfl
theorem zlast_s (b g d f i : Nat) : zlast b g (d + 1) f i = if b < f + 1 then i else zlast b g d (min 9 (f + g)) (i + 1) := rfl
theorem zlast_sh (b g : Nat) : ∀ d f i, zlast b g d f (i + 1) = zlast b g d f i + 1
  | 0, _, _ => rfl
  | d + 1, f, i => by
    rw [zlast_s, zlast_s]
    by_cases c : b < f + 1
    · rw [if_pos c, if_pos c]
    · rw [if_neg c, if_neg c, zlast_sh b g d]
theorem zlast_le (b g : Nat) : ∀ d f i, zlast b g d f i ≤ i + d
  | 0, _, _ => by rw [zlast_z]; omega
  | d + 1, f, i => by
    rw [zlast_s]
    split
    · omega
    · have := zlast_le b g d (min 9 (f + g)) (i + 1); omega
theorem zlast_98 : ∀ b < 20, ∀ g < 6, ∀ f < 10, zlast b g 99 f 0 = if zlast b g 98 f 0 < 98 then zlast b g 98 f 0 else 99 := by decide +kernel
def zla (T : zT) (p q : Nat) : Nat := zlast (zbe T p + zl T) (zgr T p) 99 (zo T (7 * p + q)) 0
theorem x_last_l (h : zXT x t T) {p : Nat} (hp : p < zn T) (u v : Int32) : ∀ d n f i, i + d = 99 → d < n → f ≤ 9 → f_X10_turningsTillUnfit_35 t u v n (zzbears (zk T p, nI (zf T p)) + nI (zl T)) (nI (zgr T p)) (nI f) (nI i) x = some (nI (zlast (zbe T p + zl T) (zgr T p) d f i), x) := by
  have hL := h.1.2.1
  have hk := h.1.2.2.2.1 p hp
  have hg := q_grows T p hk.1 hk.2
  intro d
  induction d with
  | zero =>
    intro n f i hi hn hf
    obtain ⟨n, rfl⟩ : ∃ n', n = n' + 1 := ⟨n - 1, by omega⟩
    have : i = 99 := by omega
    subst this
    simp (disch := omega) only [f_X10_turningsTillUnfit_35, f_X10_turningsTillUnfit_35b, zlast_z, zzbd_s, zzlt_eq, zzon_n, zzon_s, q0, q1, q2, q3, q4, q5, q6, q7, q8, q9, q10, q11, q12, q20, q48, q49, q57, q59, q99, q100, q999, nI_add, pk_mul, q_lt0, q_lt, q_eq, q_cl, q_gd, if_true, if_false, q_ofNat, q_min, q_max, ite_self, Nat.not_lt_zero, q_e10, q_e01, eq_self, not_true_eq_false, not_false_eq_true, and_true, true_and, and_false, false_and, or_true, true_or, or_false, false_or, q_gdT, Nat.reduceEqDiff, Bool.false_eq_true, Nat.lt_irrefl, Nat.or_zero]
  | succ d ih =>
    intro n f i hi hn hf
    obtain ⟨n, rfl⟩ : ∃ n', n = n' + 1 := ⟨n - 1, by omega⟩
    have hi2 : i < 99 := by omega
    by_cases e : zbe T p + zl T < f + 1
    · simp (disch := omega) only [f_X10_turningsTillUnfit_35, f_X10_turningsTillUnfit_35b, hi2, q_bears T p hk.1, e, zlast_s, zzbd_s, zzlt_eq, zzon_n, zzon_s, q0, q1, q2, q3, q4, q5, q6, q7, q8, q9, q10, q11, q12, q20, q48, q49, q57, q59, q99, q100, q999, nI_add, pk_mul, q_lt0, q_lt, q_eq, q_cl, q_gd, if_true, if_false, q_ofNat, q_min, q_max, ite_self, Nat.not_lt_zero, q_e10, q_e01, eq_self, not_true_eq_false, not_false_eq_true, and_true, true_and, and_false, false_and, or_true, true_or, or_false, false_or, q_gdT, Nat.reduceEqDiff, Bool.false_eq_true, Nat.lt_irrefl, Nat.or_zero]
    · simp (disch := omega) only [f_X10_turningsTillUnfit_35, f_X10_turningsTillUnfit_35b, hi2, q_bears T p hk.1, e, zlast_s, ih, zzbd_s, zzlt_eq, zzon_n, zzon_s, q0, q1, q2, q3, q4, q5, q6, q7, q8, q9, q10, q11, q12, q20, q48, q49, q57, q59, q99, q100, q999, nI_add, pk_mul, q_lt0, q_lt, q_eq, q_cl, q_gd, if_true, if_false, q_ofNat, q_min, q_max, ite_self, Nat.not_lt_zero, q_e10, q_e01, eq_self, not_true_eq_false, not_false_eq_true, and_true, true_and, and_false, false_and, or_true, true_or, or_false, false_or, q_gdT, Nat.reduceEqDiff, Bool.false_eq_true, Nat.lt_irrefl, Nat.or_zero]
theorem x_till (h : zXT x t T) (ht : zztown t) {p q : Nat} (hp : p < zn T) (hq : q < zn T) (hn : p ≠ q) : f_X10_turningsTillUnfit t (nI p) (nI q) x = some (nI (zla T p q), x) := by
  have h7 := h.1.1
  have hk := h.1.2.2.2.1 p hp
  have hg := q_grows T p hk.1 hk.2
  have ho := h.1.2.2.2.2.2.1 (7 * p + q) (by omega)
  simp (disch := omega) only [f_X10_turningsTillUnfit, x_at h ht hp, hg.1, h.2.2.1, x_fondOf h ht hp hq, hn, x_last_l h hp _ _ 99 200, zla, zzbd_s, zzlt_eq, zzon_n, zzon_s, q0, q1, q2, q3, q4, q5, q6, q7, q8, q9, q10, q11, q12, q20, q48, q49, q57, q59, q99, q100, q999, nI_add, pk_mul, q_lt0, q_lt, q_eq, q_cl, q_gd, if_true, if_false, q_ofNat, q_min, q_max, ite_self, Nat.not_lt_zero, q_e10, q_e01, eq_self, not_true_eq_false, not_false_eq_true, and_true, true_and, and_false, false_and, or_true, true_or, or_false, false_or, q_gdT, Nat.reduceEqDiff, Bool.false_eq_true, Nat.lt_irrefl, Nat.or_zero]
theorem m_last_l (h : zMT m T) {p : Nat} (hp : p < zn T) (v : Int32) : ∀ d n f i, i + d = 99 → d < n → f ≤ 9 → f_X12_lastsFor_15 (nI p) v n (nI f) (nI i) m = some (nI (zlast (zbe T p + zl T) (zgr T p) d f i), m) := by
  have h7 := h.1.1
  have hL := h.1.2.1
  have hk := h.1.2.2.2.1 p hp
  have hg := q_grows T p hk.1 hk.2
  intro d
  induction d with
  | zero =>
    intro n f i hi hn hf
    obtain ⟨n, rfl⟩ : ∃ n', n = n' + 1 := ⟨n - 1, by omega⟩
    have : i = 99 := by omega
    subst this
    simp (disch := omega) only [f_X12_lastsFor_15, f_X12_lastsFor_15b, zlast_z, zzbd_s, zzlt_eq, zzon_n, zzon_s, q0, q1, q2, q3, q4, q5, q6, q7, q8, q9, q10, q11, q12, q20, q48, q49, q57, q59, q99, q100, q999, nI_add, pk_mul, q_lt0, q_lt, q_eq, q_cl, q_gd, if_true, if_false, q_ofNat, q_min, q_max, ite_self, Nat.not_lt_zero, q_e10, q_e01, eq_self, not_true_eq_false, not_false_eq_true, and_true, true_and, and_false, false_and, or_true, true_or, or_false, false_or, q_gdT, Nat.reduceEqDiff, Bool.false_eq_true, Nat.lt_irrefl, Nat.or_zero]
  | succ d ih =>
    intro n f i hi hn hf
    obtain ⟨n, rfl⟩ : ∃ n', n = n' + 1 := ⟨n - 1, by omega⟩
    have hi2 : i < 99 := by omega
    by_cases e : zbe T p + zl T < f + 1
    · simp (disch := omega) only [f_X12_lastsFor_15, f_X12_lastsFor_15b, hi2, m_bearsv h hp, h.2.2.1, q_bIlt T p hk.1, e, zlast_s, zzbd_s, zzlt_eq, zzon_n, zzon_s, q0, q1, q2, q3, q4, q5, q6, q7, q8, q9, q10, q11, q12, q20, q48, q49, q57, q59, q99, q100, q999, nI_add, pk_mul, q_lt0, q_lt, q_eq, q_cl, q_gd, if_true, if_false, q_ofNat, q_min, q_max, ite_self, Nat.not_lt_zero, q_e10, q_e01, eq_self, not_true_eq_false, not_false_eq_true, and_true, true_and, and_false, false_and, or_true, true_or, or_false, false_or, q_gdT, Nat.reduceEqDiff, Bool.false_eq_true, Nat.lt_irrefl, Nat.or_zero]
    · simp (disch := omega) only [f_X12_lastsFor_15, f_X12_lastsFor_15b, hi2, m_bearsv h hp, h.2.2.1, m_grows h hp, m_lesser, q_bIlt T p hk.1, e, zlast_s, ih, zzbd_s, zzlt_eq, zzon_n, zzon_s, q0, q1, q2, q3, q4, q5, q6, q7, q8, q9, q10, q11, q12, q20, q48, q49, q57, q59, q99, q100, q999, nI_add, pk_mul, q_lt0, q_lt, q_eq, q_cl, q_gd, if_true, if_false, q_ofNat, q_min, q_max, ite_self, Nat.not_lt_zero, q_e10, q_e01, eq_self, not_true_eq_false, not_false_eq_true, and_true, true_and, and_false, false_and, or_true, true_or, or_false, false_or, q_gdT, Nat.reduceEqDiff, Bool.false_eq_true, Nat.lt_irrefl, Nat.or_zero]
theorem m_till (h : zMT m T) {p q : Nat} (hp : p < zn T) (hq : q < zn T) : f_X12_lastsFor (nI p) (nI q) m = some (nI (zla T p q), m) := by
  have h7 := h.1.1
  have ho := h.1.2.2.2.2.2.1 (7 * p + q) (by omega)
  simp (disch := omega) only [f_X12_lastsFor, h.2.2.2.2.2.2, q_len40, m_last_l h hp _ 99 200, zla, zzbd_s, zzlt_eq, zzon_n, zzon_s, q0, q1, q2, q3, q4, q5, q6, q7, q8, q9, q10, q11, q12, q20, q48, q49, q57, q59, q99, q100, q999, nI_add, pk_mul, q_lt0, q_lt, q_eq, q_cl, q_gd, if_true, if_false, q_ofNat, q_min, q_max, ite_self, Nat.not_lt_zero, q_e10, q_e01, eq_self, not_true_eq_false, not_false_eq_true, and_true, true_and, and_false, false_and, or_true, true_or, or_false, false_or, q_gdT, Nat.reduceEqDiff, Bool.false_eq_true, Nat.lt_irrefl, Nat.or_zero]
theorem m_keep_l (h : zMT m T) {p : Nat} (hp : p < zn T) (v : Int32) : ∀ d n f i, i + d = 99 → d < n → f ≤ 9 → f_X12_keeps_54 (nI p) v n (nI f) (nI i) m = some (nI (zlast (zbe T p + zl T) (zgr T p) d f i), m) := by
  have h7 := h.1.1
  have hL := h.1.2.1
  have hk := h.1.2.2.2.1 p hp
  have hg := q_grows T p hk.1 hk.2
  intro d
  induction d with
  | zero =>
    intro n f i hi hn hf
    obtain ⟨n, rfl⟩ : ∃ n', n = n' + 1 := ⟨n - 1, by omega⟩
    have : i = 99 := by omega
    subst this
    simp (disch := omega) only [f_X12_keeps_54, f_X12_keeps_54b, zlast_z, zzbd_s, zzlt_eq, zzon_n, zzon_s, q0, q1, q2, q3, q4, q5, q6, q7, q8, q9, q10, q11, q12, q20, q48, q49, q57, q59, q99, q100, q999, nI_add, pk_mul, q_lt0, q_lt, q_eq, q_cl, q_gd, if_true, if_false, q_ofNat, q_min, q_max, ite_self, Nat.not_lt_zero, q_e10, q_e01, eq_self, not_true_eq_false, not_false_eq_true, and_true, true_and, and_false, false_and, or_true, true_or, or_false, false_or, q_gdT, Nat.reduceEqDiff, Bool.false_eq_true, Nat.lt_irrefl, Nat.or_zero]
  | succ d ih =>
    intro n f i hi hn hf
    obtain ⟨n, rfl⟩ : ∃ n', n = n' + 1 := ⟨n - 1, by omega⟩
    have hi2 : i < 99 := by omega
    by_cases e : zbe T p + zl T < f + 1
    · simp (disch := omega) only [f_X12_keeps_54, f_X12_keeps_54b, hi2, m_bearsv h hp, h.2.2.1, q_bIlt T p hk.1, e, zlast_s, zzbd_s, zzlt_eq, zzon_n, zzon_s, q0, q1, q2, q3, q4, q5, q6, q7, q8, q9, q10, q11, q12, q20, q48, q49, q57, q59, q99, q100, q999, nI_add, pk_mul, q_lt0, q_lt, q_eq, q_cl, q_gd, if_true, if_false, q_ofNat, q_min, q_max, ite_self, Nat.not_lt_zero, q_e10, q_e01, eq_self, not_true_eq_false, not_false_eq_true, and_true, true_and, and_false, false_and, or_true, true_or, or_false, false_or, q_gdT, Nat.reduceEqDiff, Bool.false_eq_true, Nat.lt_irrefl, Nat.or_zero]
    · simp (disch := omega) only [f_X12_keeps_54, f_X12_keeps_54b, hi2, m_bearsv h hp, h.2.2.1, m_grows h hp, m_lesser, q_bIlt T p hk.1, e, zlast_s, ih, zzbd_s, zzlt_eq, zzon_n, zzon_s, q0, q1, q2, q3, q4, q5, q6, q7, q8, q9, q10, q11, q12, q20, q48, q49, q57, q59, q99, q100, q999, nI_add, pk_mul, q_lt0, q_lt, q_eq, q_cl, q_gd, if_true, if_false, q_ofNat, q_min, q_max, ite_self, Nat.not_lt_zero, q_e10, q_e01, eq_self, not_true_eq_false, not_false_eq_true, and_true, true_and, and_false, false_and, or_true, true_or, or_false, false_or, q_gdT, Nat.reduceEqDiff, Bool.false_eq_true, Nat.lt_irrefl, Nat.or_zero]
theorem zbe_lt (T : zT) (p : Nat) : zbe T p ≤ 10 := by
  unfold zbe
  split <;> omega
theorem zla_le (T : zT) (p q : Nat) : zla T p q ≤ 99 := by
  have := zlast_le (zbe T p + zl T) (zgr T p) 99 (zo T (7 * p + q)) 0
  unfold zla; omega
theorem s_lasts (p q : Int32) : zSim (f_X11_lasts p q) (f_X12_lasts p q) := by
  refine zSim_rd (fun x m T hx hm hs hi => ?_)
  have hm1 : zMT (zzsi m 36 13 (nI 0)) T := hm
  have ht : zztown 20 := Or.inl rfl
  rcases q_twoT hx hm1 p q with ⟨i, j, hi, hj, hn, rfl, rfl, a1, a2⟩ | ⟨a1, a2, -⟩
  · exact ⟨nI (zla T i j), by simp (disch := omega) only [f_X11_lasts, a1, x_till hx ht hi hj hn, q_e1_0, zzbd_s, zzlt_eq, zzon_n, zzon_s, q0, q1, q2, q3, q4, q5, q6, q7, q8, q9, q10, q11, q12, q20, q48, q49, q57, q59, q99, q100, q999, nI_add, pk_mul, q_lt0, q_lt, q_eq, q_cl, q_gd, if_true, if_false, q_ofNat, q_min, q_max, ite_self, Nat.not_lt_zero, q_e10, q_e01, eq_self, not_true_eq_false, not_false_eq_true, and_true, true_and, and_false, false_and, or_true, true_or, or_false, false_or, q_gdT, Nat.reduceEqDiff, Bool.false_eq_true, Nat.lt_irrefl, Nat.or_zero], by simp (disch := omega) only [f_X12_lasts, a2, m_till hm1 hi hj, q_e1_0, zzbd_s, zzlt_eq, zzon_n, zzon_s, q0, q1, q2, q3, q4, q5, q6, q7, q8, q9, q10, q11, q12, q20, q48, q49, q57, q59, q99, q100, q999, nI_add, pk_mul, q_lt0, q_lt, q_eq, q_cl, q_gd, if_true, if_false, q_ofNat, q_min, q_max, ite_self, Nat.not_lt_zero, q_e10, q_e01, eq_self, not_true_eq_false, not_false_eq_true, and_true, true_and, and_false, false_and, or_true, true_or, or_false, false_or, q_gdT, Nat.reduceEqDiff, Bool.false_eq_true, Nat.lt_irrefl, Nat.or_zero]⟩
  · exact ⟨-1, by simp (disch := omega) only [f_X11_lasts, a1, zzbd_s, zzlt_eq, zzon_n, zzon_s, q0, q1, q2, q3, q4, q5, q6, q7, q8, q9, q10, q11, q12, q20, q48, q49, q57, q59, q99, q100, q999, nI_add, pk_mul, q_lt0, q_lt, q_eq, q_cl, q_gd, if_true, if_false, q_ofNat, q_min, q_max, ite_self, Nat.not_lt_zero, q_e10, q_e01, eq_self, not_true_eq_false, not_false_eq_true, and_true, true_and, and_false, false_and, or_true, true_or, or_false, false_or, q_gdT, Nat.reduceEqDiff, Bool.false_eq_true, Nat.lt_irrefl, Nat.or_zero], by simp (disch := omega) only [f_X12_lasts, a2, zzbd_s, zzlt_eq, zzon_n, zzon_s, q0, q1, q2, q3, q4, q5, q6, q7, q8, q9, q10, q11, q12, q20, q48, q49, q57, q59, q99, q100, q999, nI_add, pk_mul, q_lt0, q_lt, q_eq, q_cl, q_gd, if_true, if_false, q_ofNat, q_min, q_max, ite_self, Nat.not_lt_zero, q_e10, q_e01, eq_self, not_true_eq_false, not_false_eq_true, and_true, true_and, and_false, false_and, or_true, true_or, or_false, false_or, q_gdT, Nat.reduceEqDiff, Bool.false_eq_true, Nat.lt_irrefl, Nat.or_zero]⟩
theorem s_keeps (p q : Int32) : zSim (f_X11_keeps p q) (f_X12_keeps p q) := by
  refine zSim_rd (fun x m T hx hm hs hi => ?_)
  have h7 := hx.1.1
  have hL := hx.1.2.1
  have hm1 : zMT (zzsi m 36 13 (nI 0)) T := hm
  have ht : zztown 20 := Or.inl rfl
  rcases q_twoT hx hm1 p q with ⟨i, j, hi, hj, hn, rfl, rfl, a1, a2⟩ | ⟨a1, a2, -⟩
  · have ho := hx.1.2.2.2.2.2.1 (7 * i + j) (by omega)
    have hk := hx.1.2.2.2.1 i hi
    have hg := q_grows T i hk.1 hk.2
    have hb := zbe_lt T i
    have e1 : zla T i j = if zbe T i + zl T < zo T (7 * i + j) + 1 then 0 else zlast (zbe T i + zl T) (zgr T i) 98 (min 9 (zo T (7 * i + j) + zgr T i)) 0 + 1 := by
      unfold zla; rw [zlast_s, zlast_sh]
    have hle := zla_le T i j
    cases e : zmb T (zl T) i j with
    | false =>
      have c : ¬ zmay T (zl T) i j := fun z => by rw [(zmb_iff ..).mpr z] at e; cases e
      have c2 : zbe T i + zl T < zo T (7 * i + j) + 1 := by
        rcases Nat.lt_or_ge (zo T (7 * i + j)) (zbe T i + zl T) with z | z
        · exact absurd ⟨hn, z⟩ c
        · omega
      rw [if_pos c2] at e1
      exact ⟨-3, by simp (disch := omega) only [f_X11_keeps, a1, x_till hx ht hi hj hn, e1, q_e1_0, zzbd_s, zzlt_eq, zzon_n, zzon_s, q0, q1, q2, q3, q4, q5, q6, q7, q8, q9, q10, q11, q12, q20, q48, q49, q57, q59, q99, q100, q999, nI_add, pk_mul, q_lt0, q_lt, q_eq, q_cl, q_gd, if_true, if_false, q_ofNat, q_min, q_max, ite_self, Nat.not_lt_zero, q_e10, q_e01, eq_self, not_true_eq_false, not_false_eq_true, and_true, true_and, and_false, false_and, or_true, true_or, or_false, false_or, q_gdT, Nat.reduceEqDiff, Bool.false_eq_true, Nat.lt_irrefl, Nat.or_zero], by simp (disch := omega) only [f_X12_keeps, a2, m_mb hm1 hi hj, e, q_e1_0, zzbd_s, zzlt_eq, zzon_n, zzon_s, q0, q1, q2, q3, q4, q5, q6, q7, q8, q9, q10, q11, q12, q20, q48, q49, q57, q59, q99, q100, q999, nI_add, pk_mul, q_lt0, q_lt, q_eq, q_cl, q_gd, if_true, if_false, q_ofNat, q_min, q_max, ite_self, Nat.not_lt_zero, q_e10, q_e01, eq_self, not_true_eq_false, not_false_eq_true, and_true, true_and, and_false, false_and, or_true, true_or, or_false, false_or, q_gdT, Nat.reduceEqDiff, Bool.false_eq_true, Nat.lt_irrefl, Nat.or_zero]⟩
    | true =>
      have c : zmay T (zl T) i j := (zmb_iff ..).mp e
      have c2 : ¬ zbe T i + zl T < zo T (7 * i + j) + 1 := by have := c.2; omega
      rw [if_neg c2] at e1
      have e2 := zlast_98 (zbe T i + zl T) (by omega) (zgr T i) (by omega) (min 9 (zo T (7 * i + j) + zgr T i)) (by omega)
      have e3 := zlast_le (zbe T i + zl T) (zgr T i) 98 (min 9 (zo T (7 * i + j) + zgr T i)) 0
      generalize zlast (zbe T i + zl T) (zgr T i) 98 (min 9 (zo T (7 * i + j) + zgr T i)) 0 = w at e1 e2 e3
      have c3 : ¬ zla T i j = 0 := by omega
      refine ⟨nI (if w < 98 then w else 99), ?_, ?_⟩
      · by_cases c4 : w < 98
        · have c5 : w + 1 < 99 := by omega
          simp (disch := omega) only [f_X11_keeps, a1, x_till hx ht hi hj hn, e1, c5, c4, q_sub, Nat.add_sub_cancel, Nat.succ_ne_zero, q_e1_0, zzbd_s, zzlt_eq, zzon_n, zzon_s, q0, q1, q2, q3, q4, q5, q6, q7, q8, q9, q10, q11, q12, q20, q48, q49, q57, q59, q99, q100, q999, nI_add, pk_mul, q_lt0, q_lt, q_eq, q_cl, q_gd, if_true, if_false, q_ofNat, q_min, q_max, ite_self, Nat.not_lt_zero, q_e10, q_e01, eq_self, not_true_eq_false, not_false_eq_true, and_true, true_and, and_false, false_and, or_true, true_or, or_false, false_or, q_gdT, Nat.reduceEqDiff, Bool.false_eq_true, Nat.lt_irrefl, Nat.or_zero]
        · have c5 : ¬ w + 1 < 99 := by omega
          simp (disch := omega) only [f_X11_keeps, a1, x_till hx ht hi hj hn, e1, c5, c4, Nat.succ_ne_zero, q_e1_0, zzbd_s, zzlt_eq, zzon_n, zzon_s, q0, q1, q2, q3, q4, q5, q6, q7, q8, q9, q10, q11, q12, q20, q48, q49, q57, q59, q99, q100, q999, nI_add, pk_mul, q_lt0, q_lt, q_eq, q_cl, q_gd, if_true, if_false, q_ofNat, q_min, q_max, ite_self, Nat.not_lt_zero, q_e10, q_e01, eq_self, not_true_eq_false, not_false_eq_true, and_true, true_and, and_false, false_and, or_true, true_or, or_false, false_or, q_gdT, Nat.reduceEqDiff, Bool.false_eq_true, Nat.lt_irrefl, Nat.or_zero]
      · simp (disch := omega) only [f_X12_keeps, a2, m_mb hm1 hi hj, e, hm1.2.2.2.2.2.2, q_len40, m_grows hm1 hi, m_lesser, m_keep_l hm1 hi _ 99 200, e2, q_e1_0, zzbd_s, zzlt_eq, zzon_n, zzon_s, q0, q1, q2, q3, q4, q5, q6, q7, q8, q9, q10, q11, q12, q20, q48, q49, q57, q59, q99, q100, q999, nI_add, pk_mul, q_lt0, q_lt, q_eq, q_cl, q_gd, if_true, if_false, q_ofNat, q_min, q_max, ite_self, Nat.not_lt_zero, q_e10, q_e01, eq_self, not_true_eq_false, not_false_eq_true, and_true, true_and, and_false, false_and, or_true, true_or, or_false, false_or, q_gdT, Nat.reduceEqDiff, Bool.false_eq_true, Nat.lt_irrefl, Nat.or_zero]
  · exact ⟨-1, by simp (disch := omega) only [f_X11_keeps, a1, zzbd_s, zzlt_eq, zzon_n, zzon_s, q0, q1, q2, q3, q4, q5, q6, q7, q8, q9, q10, q11, q12, q20, q48, q49, q57, q59, q99, q100, q999, nI_add, pk_mul, q_lt0, q_lt, q_eq, q_cl, q_gd, if_true, if_false, q_ofNat, q_min, q_max, ite_self, Nat.not_lt_zero, q_e10, q_e01, eq_self, not_true_eq_false, not_false_eq_true, and_true, true_and, and_false, false_and, or_true, true_or, or_false, false_or, q_gdT, Nat.reduceEqDiff, Bool.false_eq_true, Nat.lt_irrefl, Nat.or_zero], by simp (disch := omega) only [f_X12_keeps, a2, zzbd_s, zzlt_eq, zzon_n, zzon_s, q0, q1, q2, q3, q4, q5, q6, q7, q8, q9, q10, q11, q12, q20, q48, q49, q57, q59, q99, q100, q999, nI_add, pk_mul, q_lt0, q_lt, q_eq, q_cl, q_gd, if_true, if_false, q_ofNat, q_min, q_max, ite_self, Nat.not_lt_zero, q_e10, q_e01, eq_self, not_true_eq_false, not_false_eq_true, and_true, true_and, and_false, false_and, or_true, true_or, or_false, false_or, q_gdT, Nat.reduceEqDiff, Bool.false_eq_true, Nat.lt_irrefl, Nat.or_zero]⟩
end
