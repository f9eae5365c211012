/-! ===== told turnings judged ===== -/
def zfind (U : zT) (q : Nat) : Nat → Nat → Option Nat
  | 0, _ => none
  | d + 1, i => if zmb U (zl U) i q = true ∧ zt U q < 9 then some i else zfind U q d (i + 1)
theorem zfind_z (U : zT) (q i : Nat) : zfind U q 0 i = none := rfl
theorem zfind_s (U : zT) (q d i : Nat) : zfind U q (d + 1) i = if zmb U (zl U) i q = true ∧ zt U q < 9 then some i else zfind U q d (i + 1) := rfl
def zturnO (U : zT) (q : Nat) (o : Option Nat) : zT := match o with
  | none => U
  | some p => zturn U p q
theorem zturnO_n (U : zT) (q : Nat) (o : Option Nat) : zn (zturnO U q o) = zn U := by cases o <;> rfl
def zisS (o : Option Nat) : Bool := o.isSome
def zlvl (s : Nat) : Int32 := if s = 0 then -128 else if s = 1 then -32768 else -2147483648
def zjd (el : Nat → Int32) (lv : Int32) (q : Nat) : Nat → Nat → Bool → zT → Int32
  | 0, _, _, _ => -4
  | d + 1, i, c, U =>
    if 0 < i ∧ c = true then
      (if el i = lv then zjd el lv q d (i + 1) (zisS (zfind U q (zn U) 0)) (zturnO U q (zfind U q (zn U) 0))
       else if zisS (zfind U q (zn U) 0) = true ∧ el i = nI (zt (zturnO U q (zfind U q (zn U) 0)) q) then zjd el lv q d (i + 1) (zisS (zfind U q (zn U) 0)) (zturnO U q (zfind U q (zn U) 0)) else nI i)
    else if el i = lv then zjd el lv q d (i + 1) c U else if c = true ∧ el i = nI (zt U q) then zjd el lv q d (i + 1) c U else nI i
theorem zjd_z (el : Nat → Int32) (lv : Int32) (q i : Nat) (c : Bool) (U : zT) : zjd el lv q 0 i c U = -4 := rfl
theorem zjd_s (el : Nat → Int32) (lv : Int32) (q d i : Nat) (c : Bool) (U : zT) : zjd el lv q (d + 1) i c U = if 0 < i ∧ c = true then
      (if el i = lv then zjd el lv q d (i + 1) (zisS (zfind U q (zn U) 0)) (zturnO U q (zfind U q (zn U) 0))
       else if zisS (zfind U q (zn U) 0) = true ∧ el i = nI (zt (zturnO U q (zfind U q (zn U) 0)) q) then zjd el lv q d (i + 1) (zisS (zfind U q (zn U) 0)) (zturnO U q (zfind U q (zn U) 0)) else nI i)
    else if el i = lv then zjd el lv q d (i + 1) c U else if c = true ∧ el i = nI (zt U q) then zjd el lv q d (i + 1) c U else nI i := rfl
def zbn (c : Bool) : Int32 := if c = true then nI 1 else nI 0
theorem zbn_t : zbn true = nI 1 := rfl
theorem zbn_f : zbn false = nI 0 := rfl
theorem q_l64 (a b : Int32) : (lg_cmp a.toInt64 b.toInt64 = 0) ↔ a = b := by
  rw [lg_cmp_eq]
  constructor
  · intro h
    rw [← lg_l2i_i2l a, h, lg_l2i_i2l]
  · intro h; rw [h]
section
variable {x m : zzS} {t : Nat} {T U : zT}
theorem x_least_l (h : zXT x t U) (ht : zztown t) {q : Nat} (hq : q < zn U) : ∀ d n i, i + d = zn U → d < n → ∃ x', f_X10_turnByTheLeast_2 t (nI q) n (nI i) x = some (zbn (zisS (zfind U q d i)), x') ∧ zXT x' t (zturnO U q (zfind U q d i)) ∧ zFR t x x' := by
  have h7 := h.1.1
  have hL := h.1.2.1
  have ho := h.1.2.2.2.2.1 q (by omega)
  intro d
  induction d with
  | zero =>
    intro n i hi hn
    obtain ⟨n, rfl⟩ : ∃ n', n = n' + 1 := ⟨n - 1, by omega⟩
    have : i = zn U := by omega
    subst this
    exact ⟨x, by simp (disch := omega) only [f_X10_turnByTheLeast_2, f_X10_turnByTheLeast_2b, h.2.1, zfind_z, zisS, Option.isSome_none, zbn_f, zzbd_s, zzlt_eq, zzon_n, zzon_s, q0, q1, q2, q3, q4, q5, q6, q7, q8, q9, q10, q11, q12, q20, q48, q49, q57, q59, q99, q100, q999, nI_add, pk_mul, q_lt0, q_lt, q_eq, q_cl, q_gd, if_true, if_false, q_ofNat, q_min, q_max, ite_self, Nat.not_lt_zero, q_e10, q_e01, eq_self, not_true_eq_false, not_false_eq_true, and_true, true_and, and_false, false_and, or_true, true_or, or_false, false_or, q_gdT, Nat.reduceEqDiff, Bool.false_eq_true, Nat.lt_irrefl, Nat.or_zero], h, zFR_refl _ _⟩
  | succ d ih =>
    intro n i hi hn
    obtain ⟨n, rfl⟩ : ∃ n', n = n' + 1 := ⟨n - 1, by omega⟩
    have hi2 : i < zn U := by omega
    rw [zfind_s]
    cases e1 : zmb U (zl U) i q with
    | false =>
      rw [if_neg (by intro z; cases z.1)]
      obtain ⟨x', g1, g2⟩ := ih n (i + 1) (by omega) (by omega)
      refine ⟨x', ?_, g2⟩
      rw [← g1]
      simp (disch := omega) only [f_X10_turnByTheLeast_2, f_X10_turnByTheLeast_2b, f_X10_turnByTheLeast_41, h.2.1, h.2.2.1, hi2, x_mb h ht, e1, zzbd_s, zzlt_eq, zzon_n, zzon_s, q0, q1, q2, q3, q4, q5, q6, q7, q8, q9, q10, q11, q12, q20, q48, q49, q57, q59, q99, q100, q999, nI_add, pk_mul, q_lt0, q_lt, q_eq, q_cl, q_gd, if_true, if_false, q_ofNat, q_min, q_max, ite_self, Nat.not_lt_zero, q_e10, q_e01, eq_self, not_true_eq_false, not_false_eq_true, and_true, true_and, and_false, false_and, or_true, true_or, or_false, false_or, q_gdT, Nat.reduceEqDiff, Bool.false_eq_true, Nat.lt_irrefl, Nat.or_zero]
    | true =>
      by_cases c : zt U q < 9
      · rw [if_pos ⟨rfl, c⟩]
        obtain ⟨x', g1, g2, g3⟩ := x_turnT h ht hi2 hq (zmb_ne e1)
        refine ⟨x', ?_, g2, g3⟩
        simp (disch := omega) only [f_X10_turnByTheLeast_2, f_X10_turnByTheLeast_2b, h.2.1, h.2.2.1, hi2, x_mb h ht, e1, x_turnedOf h ht hq, c, g1, zisS, Option.isSome_some, zbn_t, q_e1_0, zzbd_s, zzlt_eq, zzon_n, zzon_s, q0, q1, q2, q3, q4, q5, q6, q7, q8, q9, q10, q11, q12, q20, q48, q49, q57, q59, q99, q100, q999, nI_add, pk_mul, q_lt0, q_lt, q_eq, q_cl, q_gd, if_true, if_false, q_ofNat, q_min, q_max, ite_self, Nat.not_lt_zero, q_e10, q_e01, eq_self, not_true_eq_false, not_false_eq_true, and_true, true_and, and_false, false_and, or_true, true_or, or_false, false_or, q_gdT, Nat.reduceEqDiff, Bool.false_eq_true, Nat.lt_irrefl, Nat.or_zero]
      · rw [if_neg (by intro z; exact c z.2)]
        obtain ⟨x', g1, g2⟩ := ih n (i + 1) (by omega) (by omega)
        refine ⟨x', ?_, g2⟩
        rw [← g1]
        simp (disch := omega) only [f_X10_turnByTheLeast_2, f_X10_turnByTheLeast_2b, f_X10_turnByTheLeast_41, h.2.1, h.2.2.1, hi2, x_mb h ht, e1, x_turnedOf h ht hq, c, q_e1_0, zzbd_s, zzlt_eq, zzon_n, zzon_s, q0, q1, q2, q3, q4, q5, q6, q7, q8, q9, q10, q11, q12, q20, q48, q49, q57, q59, q99, q100, q999, nI_add, pk_mul, q_lt0, q_lt, q_eq, q_cl, q_gd, if_true, if_false, q_ofNat, q_min, q_max, ite_self, Nat.not_lt_zero, q_e10, q_e01, eq_self, not_true_eq_false, not_false_eq_true, and_true, true_and, and_false, false_and, or_true, true_or, or_false, false_or, q_gdT, Nat.reduceEqDiff, Bool.false_eq_true, Nat.lt_irrefl, Nat.or_zero]
theorem x_least (h : zXT x t U) (ht : zztown t) {q : Nat} (hq : q < zn U) : ∃ x', f_X10_turnByTheLeast t (nI q) x = some (zbn (zisS (zfind U q (zn U) 0)), x') ∧ zXT x' t (zturnO U q (zfind U q (zn U) 0)) ∧ zFR t x x' := by
  have h7 := h.1.1
  exact x_least_l h ht hq (zn U) 200 0 (by omega) (by omega)
theorem m_least_l (h : zMT m U) {q : Nat} (hq : q < zn U) : ∀ d n i, i + d = zn U → d < n → ∃ m', f_X12_leastTurns_2 (nI q) n (nI i) m = some (zbn (zisS (zfind U q d i)), m') ∧ zMT m' (zturnO U q (zfind U q d i)) ∧ zMF m m' := by
  have h7 := h.1.1
  intro d
  induction d with
  | zero =>
    intro n i hi hn
    obtain ⟨n, rfl⟩ : ∃ n', n = n' + 1 := ⟨n - 1, by omega⟩
    have : i = zn U := by omega
    subst this
    exact ⟨m, by simp (disch := omega) only [f_X12_leastTurns_2, f_X12_leastTurns_2b, h.2.1, zfind_z, zisS, Option.isSome_none, zbn_f, zzbd_s, zzlt_eq, zzon_n, zzon_s, q0, q1, q2, q3, q4, q5, q6, q7, q8, q9, q10, q11, q12, q20, q48, q49, q57, q59, q99, q100, q999, nI_add, pk_mul, q_lt0, q_lt, q_eq, q_cl, q_gd, if_true, if_false, q_ofNat, q_min, q_max, ite_self, Nat.not_lt_zero, q_e10, q_e01, eq_self, not_true_eq_false, not_false_eq_true, and_true, true_and, and_false, false_and, or_true, true_or, or_false, false_or, q_gdT, Nat.reduceEqDiff, Bool.false_eq_true, Nat.lt_irrefl, Nat.or_zero], h, zMF_refl _⟩
  | succ d ih =>
    intro n i hi hn
    obtain ⟨n, rfl⟩ : ∃ n', n = n' + 1 := ⟨n - 1, by omega⟩
    have hi2 : i < zn U := by omega
    haveI : Decidable (zmay U (zl U) i q ∧ zt U q < 9) := Classical.propDecidable _
    rw [zfind_s]
    by_cases c : zmb U (zl U) i q = true ∧ zt U q < 9
    · rw [if_pos c]
      have c2 : zmay U (zl U) i q ∧ zt U q < 9 := ⟨(zmb_iff ..).mp c.1, c.2⟩
      obtain ⟨m', g1, g2, g3⟩ := m_turnT h hi2 hq
      refine ⟨m', ?_, g2, g3⟩
      simp (disch := omega) only [f_X12_leastTurns_2, f_X12_leastTurns_2b, h.2.1, hi2, m_can h hi2 hq, if_pos c2, g1, zisS, Option.isSome_some, zbn_t, q_e1_0, zzbd_s, zzlt_eq, zzon_n, zzon_s, q0, q1, q2, q3, q4, q5, q6, q7, q8, q9, q10, q11, q12, q20, q48, q49, q57, q59, q99, q100, q999, nI_add, pk_mul, q_lt0, q_lt, q_eq, q_cl, q_gd, if_true, if_false, q_ofNat, q_min, q_max, ite_self, Nat.not_lt_zero, q_e10, q_e01, eq_self, not_true_eq_false, not_false_eq_true, and_true, true_and, and_false, false_and, or_true, true_or, or_false, false_or, q_gdT, Nat.reduceEqDiff, Bool.false_eq_true, Nat.lt_irrefl, Nat.or_zero]
    · rw [if_neg c]
      have c2 : ¬ (zmay U (zl U) i q ∧ zt U q < 9) := fun z => c ⟨(zmb_iff ..).mpr z.1, z.2⟩
      obtain ⟨m', g1, g2⟩ := ih n (i + 1) (by omega) (by omega)
      refine ⟨m', ?_, g2⟩
      rw [← g1]
      simp (disch := omega) only [f_X12_leastTurns_2, f_X12_leastTurns_2b, h.2.1, hi2, m_can h hi2 hq, if_neg c2, zzbd_s, zzlt_eq, zzon_n, zzon_s, q0, q1, q2, q3, q4, q5, q6, q7, q8, q9, q10, q11, q12, q20, q48, q49, q57, q59, q99, q100, q999, nI_add, pk_mul, q_lt0, q_lt, q_eq, q_cl, q_gd, if_true, if_false, q_ofNat, q_min, q_max, ite_self, Nat.not_lt_zero, q_e10, q_e01, eq_self, not_true_eq_false, not_false_eq_true, and_true, true_and, and_false, false_and, or_true, true_or, or_false, false_or, q_gdT, Nat.reduceEqDiff, Bool.false_eq_true, Nat.lt_irrefl, Nat.or_zero]
theorem m_least (h : zMT m U) {q : Nat} (hq : q < zn U) : ∃ m', f_X12_leastTurns (nI q) m = some (zbn (zisS (zfind U q (zn U) 0)), m') ∧ zMT m' (zturnO U q (zfind U q (zn U) 0)) ∧ zMF m m' := by
  have h7 := h.1.1
  exact m_least_l h hq (zn U) 200 0 (by omega) (by omega)
theorem x7_lv {r s : Nat} (hs : s < 3) (h : zzi x r 1 = nI s) : f_X7_leastNumber r x = some (zlvl s, x) := by
  unfold f_X7_leastNumber zlvl
  rw [h]
  rcases (show s = 0 ∨ s = 1 ∨ s = 2 by omega) with rfl | rfl | rfl <;> rfl
theorem m_skip {e s : Nat} (he : e < 8) (hs : s < 3) (h : zza m 44 e = nI s) : f_X12_skipped (nI e) m = some ((zlvl s).toInt64, m) := by
  have h3 : (zlvl 0).toInt64 = -128 := by decide +kernel
  have h4 : (zlvl 1).toInt64 = -32768 := by decide +kernel
  have h5 : (zlvl 2).toInt64 = -2147483648 := by decide +kernel
  have e1 : f_X12_skipped (nI e) m = (if zza m 44 e = nI 0 then some (-128, m) else if zza m 44 e = nI 1 then some (-32768, m) else some (-2147483648, m)) := by
    simp (disch := omega) only [f_X12_skipped, q_len44, he, zzbd_s, zzlt_eq, zzon_n, zzon_s, q0, q1, q2, q3, q4, q5, q6, q7, q8, q9, q10, q11, q12, q20, q48, q49, q57, q59, q99, q100, q999, nI_add, pk_mul, q_lt0, q_lt, q_eq, q_cl, q_gd, if_true, if_false, q_ofNat, q_min, q_max, ite_self, Nat.not_lt_zero, q_e10, q_e01, eq_self, not_true_eq_false, not_false_eq_true, and_true, true_and, and_false, false_and, or_true, true_or, or_false, false_or, q_gdT, Nat.reduceEqDiff, Bool.false_eq_true, Nat.lt_irrefl, Nat.or_zero]
  rw [e1, h]
  rcases (show s = 0 ∨ s = 1 ∨ s = 2 by omega) with rfl | rfl | rfl
  · rw [if_pos (by decide), h3]
  · rw [if_neg (by decide), if_pos (by decide), h4]
  · rw [if_neg (by decide), if_neg (by decide), h5]
theorem x_judge_l (w : Int32) {q e s sz : Nat} (he : e < 8) (hs : s < 3) (hz : sz ≤ 100) (el : Nat → Int32) : ∀ d n i c U y, i + d = sz → d < n → zXT y 24 U → q < zn U → zzi y (4 + 2 * e) 1 = nI s → zzi y (4 + 2 * e) 2 = nI sz → (∀ j, j < 100 → zza y (5 + 2 * e) j = el j) → ∃ y', f_X11_judge_46 (nI q) w n (4 + 2 * e) (zbn c) (nI i) y = some (zjd el (zlvl s) q d i c U, y') ∧ zFR 24 y y' := by
  have ht : zztown 24 := Or.inr (Or.inl rfl)
  intro d
  induction d with
  | zero =>
    intro n i c U y hi hn hx hq h1 h2 h3
    obtain ⟨n, rfl⟩ : ∃ n', n = n' + 1 := ⟨n - 1, by omega⟩
    have : i = sz := by omega
    subst this
    exact ⟨y, by simp (disch := omega) only [f_X11_judge_46, f_X11_judge_46b, h2, zjd_z, zzbd_s, zzlt_eq, zzon_n, zzon_s, q0, q1, q2, q3, q4, q5, q6, q7, q8, q9, q10, q11, q12, q20, q48, q49, q57, q59, q99, q100, q999, nI_add, pk_mul, q_lt0, q_lt, q_eq, q_cl, q_gd, if_true, if_false, q_ofNat, q_min, q_max, ite_self, Nat.not_lt_zero, q_e10, q_e01, eq_self, not_true_eq_false, not_false_eq_true, and_true, true_and, and_false, false_and, or_true, true_or, or_false, false_or, q_gdT, Nat.reduceEqDiff, Bool.false_eq_true, Nat.lt_irrefl, Nat.or_zero], zFR_refl _ _⟩
  | succ d ih =>
    intro n i c U y hi hn hx hq h1 h2 h3
    have h7 := hx.1.1
    obtain ⟨n, rfl⟩ : ∃ n', n = n' + 1 := ⟨n - 1, by omega⟩
    have hi2 : i < sz := by omega
    rw [zjd_s]
    -- what follows a turning
    have tail : ∀ (c' : Bool) (U' : zT) (y1 : zzS), zXT y1 24 U' → q < zn U' → zFR 24 y y1 → ∃ y', f_X11_judge_83 (f_X11_judge_46 (nI q) w n) (nI q) w (4 + 2 * e) (zbn c') (nI i) y1 = some (if el i = zlvl s then zjd el (zlvl s) q d (i + 1) c' U' else if c' = true ∧ el i = nI (zt U' q) then zjd el (zlvl s) q d (i + 1) c' U' else nI i, y') ∧ zFR 24 y y' := by
      intro c' U' y1 g1 g2 g3
      have k1 : zzi y1 (4 + 2 * e) 1 = nI s := by rw [g3.1 _ _ (by omega)]; exact h1
      have k2 : zzi y1 (4 + 2 * e) 2 = nI sz := by rw [g3.1 _ _ (by omega)]; exact h2
      have k3 : ∀ j, j < 100 → zza y1 (5 + 2 * e) j = el j := fun j hj => by rw [g3.2.1 _ _ (by omega)]; exact h3 j hj
      have h7' := g1.1.1
      obtain ⟨y', r1, r2⟩ := ih n (i + 1) c' U' y1 (by omega) (by omega) g1 g2 k1 k2 k3
      have k4 := k3 i (by omega)
      by_cases a : el i = zlvl s
      · refine ⟨y', ?_, zFR_tr g3 r2⟩
        rw [if_pos a, ← r1]
        simp (disch := omega) only [f_X11_judge_83, f_X11_judge_121, x7_at he k2 hz hi2, x7_lv hs k1, k4, a, zzbd_s, zzlt_eq, zzon_n, zzon_s, q0, q1, q2, q3, q4, q5, q6, q7, q8, q9, q10, q11, q12, q20, q48, q49, q57, q59, q99, q100, q999, nI_add, pk_mul, q_lt0, q_lt, q_eq, q_cl, q_gd, if_true, if_false, q_ofNat, q_min, q_max, ite_self, Nat.not_lt_zero, q_e10, q_e01, eq_self, not_true_eq_false, not_false_eq_true, and_true, true_and, and_false, false_and, or_true, true_or, or_false, false_or, q_gdT, Nat.reduceEqDiff, Bool.false_eq_true, Nat.lt_irrefl, Nat.or_zero]
      · rw [if_neg a]
        cases c' with
        | false =>
          refine ⟨y1, ?_, g3⟩
          rw [if_neg (by intro z; cases z.1)]
          simp (disch := omega) only [f_X11_judge_83, f_X11_judge_121, x7_at he k2 hz hi2, x7_lv hs k1, k4, a, zbn_f, zzbd_s, zzlt_eq, zzon_n, zzon_s, q0, q1, q2, q3, q4, q5, q6, q7, q8, q9, q10, q11, q12, q20, q48, q49, q57, q59, q99, q100, q999, nI_add, pk_mul, q_lt0, q_lt, q_eq, q_cl, q_gd, if_true, if_false, q_ofNat, q_min, q_max, ite_self, Nat.not_lt_zero, q_e10, q_e01, eq_self, not_true_eq_false, not_false_eq_true, and_true, true_and, and_false, false_and, or_true, true_or, or_false, false_or, q_gdT, Nat.reduceEqDiff, Bool.false_eq_true, Nat.lt_irrefl, Nat.or_zero]
        | true =>
          by_cases b : el i = nI (zt U' q)
          · refine ⟨y', ?_, zFR_tr g3 r2⟩
            rw [if_pos ⟨rfl, b⟩, ← r1]
            have a' : ¬ nI (zt U' q) = zlvl s := fun z => a (b.trans z)
            simp (disch := omega) only [f_X11_judge_83, f_X11_judge_121, x7_at he k2 hz hi2, x7_lv hs k1, k4, b, a', zbn_t, x_turnedOf g1 ht g2, q_e1_0, zzbd_s, zzlt_eq, zzon_n, zzon_s, q0, q1, q2, q3, q4, q5, q6, q7, q8, q9, q10, q11, q12, q20, q48, q49, q57, q59, q99, q100, q999, nI_add, pk_mul, q_lt0, q_lt, q_eq, q_cl, q_gd, if_true, if_false, q_ofNat, q_min, q_max, ite_self, Nat.not_lt_zero, q_e10, q_e01, eq_self, not_true_eq_false, not_false_eq_true, and_true, true_and, and_false, false_and, or_true, true_or, or_false, false_or, q_gdT, Nat.reduceEqDiff, Bool.false_eq_true, Nat.lt_irrefl, Nat.or_zero]
          · refine ⟨y1, ?_, g3⟩
            rw [if_neg (by intro z; exact b z.2)]
            simp (disch := omega) only [f_X11_judge_83, f_X11_judge_121, x7_at he k2 hz hi2, x7_lv hs k1, k4, a, b, zbn_t, x_turnedOf g1 ht g2, q_e1_0, zzbd_s, zzlt_eq, zzon_n, zzon_s, q0, q1, q2, q3, q4, q5, q6, q7, q8, q9, q10, q11, q12, q20, q48, q49, q57, q59, q99, q100, q999, nI_add, pk_mul, q_lt0, q_lt, q_eq, q_cl, q_gd, if_true, if_false, q_ofNat, q_min, q_max, ite_self, Nat.not_lt_zero, q_e10, q_e01, eq_self, not_true_eq_false, not_false_eq_true, and_true, true_and, and_false, false_and, or_true, true_or, or_false, false_or, q_gdT, Nat.reduceEqDiff, Bool.false_eq_true, Nat.lt_irrefl, Nat.or_zero]
    by_cases i0 : 0 < i
    · cases c with
      | false =>
        obtain ⟨y', r1, r2⟩ := tail false U y hx hq (zFR_refl _ _)
        refine ⟨y', ?_, r2⟩
        rw [if_neg (by intro z; cases z.2), ← r1]
        simp (disch := omega) only [f_X11_judge_46, f_X11_judge_46b, f_X11_judge_80, f_X11_judge_81, h2, hi2, i0, zbn_f, zzbd_s, zzlt_eq, zzon_n, zzon_s, q0, q1, q2, q3, q4, q5, q6, q7, q8, q9, q10, q11, q12, q20, q48, q49, q57, q59, q99, q100, q999, nI_add, pk_mul, q_lt0, q_lt, q_eq, q_cl, q_gd, if_true, if_false, q_ofNat, q_min, q_max, ite_self, Nat.not_lt_zero, q_e10, q_e01, eq_self, not_true_eq_false, not_false_eq_true, and_true, true_and, and_false, false_and, or_true, true_or, or_false, false_or, q_gdT, Nat.reduceEqDiff, Bool.false_eq_true, Nat.lt_irrefl, Nat.or_zero]
      | true =>
        obtain ⟨y1, l1, l2, l3⟩ := x_least hx ht hq
        obtain ⟨y', r1, r2⟩ := tail (zisS (zfind U q (zn U) 0)) _ y1 l2 (by rw [zturnO_n]; exact hq) l3
        refine ⟨y', ?_, r2⟩
        rw [if_pos ⟨i0, rfl⟩, ← r1]
        cases g : zisS (zfind U q (zn U) 0) with
        | false => rw [g] at l1; simp (disch := omega) only [f_X11_judge_46, f_X11_judge_46b, f_X11_judge_80, f_X11_judge_81, h2, hi2, i0, zbn_t, zbn_f, l1, q_e1_0, zzbd_s, zzlt_eq, zzon_n, zzon_s, q0, q1, q2, q3, q4, q5, q6, q7, q8, q9, q10, q11, q12, q20, q48, q49, q57, q59, q99, q100, q999, nI_add, pk_mul, q_lt0, q_lt, q_eq, q_cl, q_gd, if_true, if_false, q_ofNat, q_min, q_max, ite_self, Nat.not_lt_zero, q_e10, q_e01, eq_self, not_true_eq_false, not_false_eq_true, and_true, true_and, and_false, false_and, or_true, true_or, or_false, false_or, q_gdT, Nat.reduceEqDiff, Bool.false_eq_true, Nat.lt_irrefl, Nat.or_zero]
        | true => rw [g] at l1; simp (disch := omega) only [f_X11_judge_46, f_X11_judge_46b, f_X11_judge_80, f_X11_judge_81, h2, hi2, i0, zbn_t, l1, q_e1_0, zzbd_s, zzlt_eq, zzon_n, zzon_s, q0, q1, q2, q3, q4, q5, q6, q7, q8, q9, q10, q11, q12, q20, q48, q49, q57, q59, q99, q100, q999, nI_add, pk_mul, q_lt0, q_lt, q_eq, q_cl, q_gd, if_true, if_false, q_ofNat, q_min, q_max, ite_self, Nat.not_lt_zero, q_e10, q_e01, eq_self, not_true_eq_false, not_false_eq_true, and_true, true_and, and_false, false_and, or_true, true_or, or_false, false_or, q_gdT, Nat.reduceEqDiff, Bool.false_eq_true, Nat.lt_irrefl, Nat.or_zero]
    · obtain ⟨y', r1, r2⟩ := tail c U y hx hq (zFR_refl _ _)
      refine ⟨y', ?_, r2⟩
      rw [if_neg (by intro z; exact i0 z.1), ← r1]
      simp (disch := omega) only [f_X11_judge_46, f_X11_judge_46b, h2, hi2, i0, zzbd_s, zzlt_eq, zzon_n, zzon_s, q0, q1, q2, q3, q4, q5, q6, q7, q8, q9, q10, q11, q12, q20, q48, q49, q57, q59, q99, q100, q999, nI_add, pk_mul, q_lt0, q_lt, q_eq, q_cl, q_gd, if_true, if_false, q_ofNat, q_min, q_max, ite_self, Nat.not_lt_zero, q_e10, q_e01, eq_self, not_true_eq_false, not_false_eq_true, and_true, true_and, and_false, false_and, or_true, true_or, or_false, false_or, q_gdT, Nat.reduceEqDiff, Bool.false_eq_true, Nat.lt_irrefl, Nat.or_zero]
theorem zAT_fr {a : Nat} {m m' : zzS} (ha : a = 49 ∨ a = 50) (h : zAT m a T) (g : zMF m m') : zAT m' a T := by
  have e : ∀ j, zza m' a j = zza m a j := fun j => g.2.1 a j (by omega)
  refine ⟨h.1, ?_, ?_, ?_, ?_, ?_, ?_⟩
  · rw [e]; exact h.2.1
  · rw [e]; exact h.2.2.1
  · rw [e]; exact h.2.2.2.1
  · intro p hp; rw [e, e]; exact h.2.2.2.2.1 p hp
  · intro p hp; rw [e]; exact h.2.2.2.2.2.1 p hp
  · intro p hp; rw [e]; exact h.2.2.2.2.2.2 p hp
theorem m_close (h : zAT m 49 T) : ∃ m', f_X12_close m = some ((), m') ∧ zMT m' T ∧ zAT m' 49 T ∧ zKF 49 m m' := by
  obtain ⟨m', e, g⟩ := m_load (Or.inl rfl) h
  exact ⟨m', by simp (disch := omega) only [f_X12_close, e, zzbd_s, zzlt_eq, zzon_n, zzon_s, q0, q1, q2, q3, q4, q5, q6, q7, q8, q9, q10, q11, q12, q20, q48, q49, q57, q59, q99, q100, q999, nI_add, pk_mul, q_lt0, q_lt, q_eq, q_cl, q_gd, if_true, if_false, q_ofNat, q_min, q_max, ite_self, Nat.not_lt_zero, q_e10, q_e01, eq_self, not_true_eq_false, not_false_eq_true, and_true, true_and, and_false, false_and, or_true, true_or, or_false, false_or, q_gdT, Nat.reduceEqDiff, Bool.false_eq_true, Nat.lt_irrefl, Nat.or_zero], g⟩
theorem m_open (h : zMT m T) : ∃ m', f_X12_open m = some ((), m') ∧ zMT m' T ∧ zAT m' 49 T ∧ zKF 49 m m' := by
  obtain ⟨m', e, g⟩ := m_store (a := 49) (Or.inl rfl) h
  exact ⟨m', by simp (disch := omega) only [f_X12_open, e, zzbd_s, zzlt_eq, zzon_n, zzon_s, q0, q1, q2, q3, q4, q5, q6, q7, q8, q9, q10, q11, q12, q20, q48, q49, q57, q59, q99, q100, q999, nI_add, pk_mul, q_lt0, q_lt, q_eq, q_cl, q_gd, if_true, if_false, q_ofNat, q_min, q_max, ite_self, Nat.not_lt_zero, q_e10, q_e01, eq_self, not_true_eq_false, not_false_eq_true, and_true, true_and, and_false, false_and, or_true, true_or, or_false, false_or, q_gdT, Nat.reduceEqDiff, Bool.false_eq_true, Nat.lt_irrefl, Nat.or_zero], g⟩
theorem m_judge_l {q e s sz : Nat} (he : e < 8) (hs : s < 3) (hz : sz ≤ 100) (el : Nat → Int32) : ∀ d n i c U y, i + d = sz → d + 1 < n → zMT y U → zAT y 49 T → q < zn U → zza y 44 e = nI s → zza y 45 e = nI sz → (∀ j, j < 100 → zzl y 53 (100 * e + j) = (el j).toInt64) → ∃ y', f_X12_judge_43 (nI q) (nI e) n (-4) (zbn c) (nI i) y = some (zjd el (zlvl s) q d i c U, y') ∧ zMT y' T ∧ zPM y y' := by
  have n4 : (-nI 4 < nI 0) = True := eq_true (by decide)
  intro d
  induction d with
  | zero =>
    intro n i c U y hi hn hx ha hq h1 h2 h3
    obtain ⟨n, rfl⟩ : ∃ n', n = n' + 1 := ⟨n - 1, by omega⟩
    have : i = sz := by omega
    subst this
    obtain ⟨y', g1, g2, g3, g4⟩ := m_close ha
    refine ⟨y', ?_, g2, zPM_k g4⟩
    simp (disch := omega) only [f_X12_judge_43, f_X12_judge_43b, f_X12_judge_142, h2, q_len45, g1, zjd_z, zzbd_s, zzlt_eq, zzon_n, zzon_s, q0, q1, q2, q3, q4, q5, q6, q7, q8, q9, q10, q11, q12, q20, q48, q49, q57, q59, q99, q100, q999, nI_add, pk_mul, q_lt0, q_lt, q_eq, q_cl, q_gd, if_true, if_false, q_ofNat, q_min, q_max, ite_self, Nat.not_lt_zero, q_e10, q_e01, eq_self, not_true_eq_false, not_false_eq_true, and_true, true_and, and_false, false_and, or_true, true_or, or_false, false_or, q_gdT, Nat.reduceEqDiff, Bool.false_eq_true, Nat.lt_irrefl, Nat.or_zero]
  | succ d ih =>
    intro n i c U y hi hn hx ha hq h1 h2 h3
    have h7 := hx.1.1
    obtain ⟨n, rfl⟩ : ∃ n', n = n' + 1 + 1 := ⟨n - 2, by omega⟩
    have hi2 : i < sz := by omega
    rw [zjd_s]
    have tail : ∀ (c' : Bool) (U' : zT) (y1 : zzS), zMT y1 U' → q < zn U' → zMF y y1 → ∃ y', f_X12_judge_82 (f_X12_judge_43 (nI q) (nI e) (n + 1)) (nI q) (nI e) (nI i) (zbn c') y1 = some (if el i = zlvl s then zjd el (zlvl s) q d (i + 1) c' U' else if c' = true ∧ el i = nI (zt U' q) then zjd el (zlvl s) q d (i + 1) c' U' else nI i, y') ∧ zMT y' T ∧ zPM y y' := by
      intro c' U' y1 g1 g2 g3
      have k0 := zAT_fr (Or.inl rfl) ha g3
      have k1 : zza y1 44 e = nI s := by rw [g3.2.1 _ _ (by omega)]; exact h1
      have k2 : zza y1 45 e = nI sz := by rw [g3.2.1 _ _ (by omega)]; exact h2
      have k3 : ∀ j, j < 100 → zzl y1 53 (100 * e + j) = (el j).toInt64 := fun j hj => by rw [g3.2.2.2.1]; exact h3 j hj
      have h7' := g1.1.1
      obtain ⟨y', r1, r2, r3⟩ := ih (n + 1) (i + 1) c' U' y1 (by omega) (by omega) g1 k0 g2 k1 k2 k3
      have k4 := k3 i (by omega)
      obtain ⟨yc, c1, c2, c3, c4⟩ := m_close k0
      have stop : f_X12_judge_43 (nI q) (nI e) (n + 1) (nI i) (zbn c') (nI (i + 1)) y1 = some (nI i, yc) := by
        by_cases z : i + 1 < sz
        · simp (disch := omega) only [f_X12_judge_43, f_X12_judge_43b, f_X12_judge_142, k2, q_len45, z, c1, zzbd_s, zzlt_eq, zzon_n, zzon_s, q0, q1, q2, q3, q4, q5, q6, q7, q8, q9, q10, q11, q12, q20, q48, q49, q57, q59, q99, q100, q999, nI_add, pk_mul, q_lt0, q_lt, q_eq, q_cl, q_gd, if_true, if_false, q_ofNat, q_min, q_max, ite_self, Nat.not_lt_zero, q_e10, q_e01, eq_self, not_true_eq_false, not_false_eq_true, and_true, true_and, and_false, false_and, or_true, true_or, or_false, false_or, q_gdT, Nat.reduceEqDiff, Bool.false_eq_true, Nat.lt_irrefl, Nat.or_zero]
        · simp (disch := omega) only [f_X12_judge_43, f_X12_judge_43b, f_X12_judge_142, k2, q_len45, z, c1, zzbd_s, zzlt_eq, zzon_n, zzon_s, q0, q1, q2, q3, q4, q5, q6, q7, q8, q9, q10, q11, q12, q20, q48, q49, q57, q59, q99, q100, q999, nI_add, pk_mul, q_lt0, q_lt, q_eq, q_cl, q_gd, if_true, if_false, q_ofNat, q_min, q_max, ite_self, Nat.not_lt_zero, q_e10, q_e01, eq_self, not_true_eq_false, not_false_eq_true, and_true, true_and, and_false, false_and, or_true, true_or, or_false, false_or, q_gdT, Nat.reduceEqDiff, Bool.false_eq_true, Nat.lt_irrefl, Nat.or_zero]
      by_cases a : el i = zlvl s
      · refine ⟨y', ?_, r2, zPM_tr (zPM_fr g3) r3⟩
        rw [if_pos a, ← r1]
        have z := (q_l64 (el i) (zlvl s)).mpr a
        rw [q0] at z
        simp (disch := omega) only [f_X12_judge_82, f_X12_judge_127, f_X12_judge_134, k4, m_skip he hs k1, z, zzbd_s, zzlt_eq, zzon_n, zzon_s, q0, q1, q2, q3, q4, q5, q6, q7, q8, q9, q10, q11, q12, q20, q48, q49, q57, q59, q99, q100, q999, nI_add, pk_mul, q_lt0, q_lt, q_eq, q_cl, q_gd, if_true, if_false, q_ofNat, q_min, q_max, ite_self, Nat.not_lt_zero, q_e10, q_e01, eq_self, not_true_eq_false, not_false_eq_true, and_true, true_and, and_false, false_and, or_true, true_or, or_false, false_or, q_gdT, Nat.reduceEqDiff, Bool.false_eq_true, Nat.lt_irrefl, Nat.or_zero]
      · rw [if_neg a]
        have z : ¬ lg_cmp (el i).toInt64 (zlvl s).toInt64 = nI 0 := fun w => a ((q_l64 _ _).mp w)
        cases c' with
        | false =>
          refine ⟨yc, ?_, c2, zPM_tr (zPM_fr g3) (zPM_k c4)⟩
          rw [if_neg (by intro z; cases z.1), ← stop]
          simp (disch := omega) only [f_X12_judge_82, f_X12_judge_132, f_X12_judge_134, k4, m_skip he hs k1, z, zbn_f, zzbd_s, zzlt_eq, zzon_n, zzon_s, q0, q1, q2, q3, q4, q5, q6, q7, q8, q9, q10, q11, q12, q20, q48, q49, q57, q59, q99, q100, q999, nI_add, pk_mul, q_lt0, q_lt, q_eq, q_cl, q_gd, if_true, if_false, q_ofNat, q_min, q_max, ite_self, Nat.not_lt_zero, q_e10, q_e01, eq_self, not_true_eq_false, not_false_eq_true, and_true, true_and, and_false, false_and, or_true, true_or, or_false, false_or, q_gdT, Nat.reduceEqDiff, Bool.false_eq_true, Nat.lt_irrefl, Nat.or_zero]
        | true =>
          by_cases b : el i = nI (zt U' q)
          · refine ⟨y', ?_, r2, zPM_tr (zPM_fr g3) r3⟩
            rw [if_pos ⟨rfl, b⟩, ← r1]
            have w := (q_l64 (el i) (nI (zt U' q))).mpr b
            rw [q0] at w
            simp (disch := omega) only [f_X12_judge_82, f_X12_judge_127, f_X12_judge_134, k4, m_skip he hs k1, z, zbn_t, g1.2.2.2.2.2.1, q_len39, w, q_e1_0, zzbd_s, zzlt_eq, zzon_n, zzon_s, q0, q1, q2, q3, q4, q5, q6, q7, q8, q9, q10, q11, q12, q20, q48, q49, q57, q59, q99, q100, q999, nI_add, pk_mul, q_lt0, q_lt, q_eq, q_cl, q_gd, if_true, if_false, q_ofNat, q_min, q_max, ite_self, Nat.not_lt_zero, q_e10, q_e01, eq_self, not_true_eq_false, not_false_eq_true, and_true, true_and, and_false, false_and, or_true, true_or, or_false, false_or, q_gdT, Nat.reduceEqDiff, Bool.false_eq_true, Nat.lt_irrefl, Nat.or_zero]
          · refine ⟨yc, ?_, c2, zPM_tr (zPM_fr g3) (zPM_k c4)⟩
            rw [if_neg (by intro z; exact b z.2), ← stop]
            have w : ¬ lg_cmp (el i).toInt64 (nI (zt U' q)).toInt64 = nI 0 := fun w => b ((q_l64 _ _).mp w)
            simp (disch := omega) only [f_X12_judge_82, f_X12_judge_132, f_X12_judge_134, k4, m_skip he hs k1, z, zbn_t, g1.2.2.2.2.2.1, q_len39, w, q_e1_0, zzbd_s, zzlt_eq, zzon_n, zzon_s, q0, q1, q2, q3, q4, q5, q6, q7, q8, q9, q10, q11, q12, q20, q48, q49, q57, q59, q99, q100, q999, nI_add, pk_mul, q_lt0, q_lt, q_eq, q_cl, q_gd, if_true, if_false, q_ofNat, q_min, q_max, ite_self, Nat.not_lt_zero, q_e10, q_e01, eq_self, not_true_eq_false, not_false_eq_true, and_true, true_and, and_false, false_and, or_true, true_or, or_false, false_or, q_gdT, Nat.reduceEqDiff, Bool.false_eq_true, Nat.lt_irrefl, Nat.or_zero]
    cases c with
    | false =>
      obtain ⟨y', r1, r2⟩ := tail false U y hx hq (zMF_refl _)
      refine ⟨y', ?_, r2⟩
      rw [if_neg (by intro z; cases z.2), ← r1]
      simp (disch := omega) only [f_X12_judge_43, f_X12_judge_43b, f_X12_judge_81, h2, q_len45, hi2, n4, zbn_f, zzbd_s, zzlt_eq, zzon_n, zzon_s, q0, q1, q2, q3, q4, q5, q6, q7, q8, q9, q10, q11, q12, q20, q48, q49, q57, q59, q99, q100, q999, nI_add, pk_mul, q_lt0, q_lt, q_eq, q_cl, q_gd, if_true, if_false, q_ofNat, q_min, q_max, ite_self, Nat.not_lt_zero, q_e10, q_e01, eq_self, not_true_eq_false, not_false_eq_true, and_true, true_and, and_false, false_and, or_true, true_or, or_false, false_or, q_gdT, Nat.reduceEqDiff, Bool.false_eq_true, Nat.lt_irrefl, Nat.or_zero]
    | true =>
      by_cases i0 : i = 0
      · obtain ⟨y', r1, r2⟩ := tail true U y hx hq (zMF_refl _)
        refine ⟨y', ?_, r2⟩
        rw [if_neg (by intro z; have := z.1; omega), ← r1]
        subst i0
        simp (disch := omega) only [f_X12_judge_43, f_X12_judge_43b, f_X12_judge_77, h2, q_len45, hi2, n4, zbn_t, q_e1_0, zzbd_s, zzlt_eq, zzon_n, zzon_s, q0, q1, q2, q3, q4, q5, q6, q7, q8, q9, q10, q11, q12, q20, q48, q49, q57, q59, q99, q100, q999, nI_add, pk_mul, q_lt0, q_lt, q_eq, q_cl, q_gd, if_true, if_false, q_ofNat, q_min, q_max, ite_self, Nat.not_lt_zero, q_e10, q_e01, eq_self, not_true_eq_false, not_false_eq_true, and_true, true_and, and_false, false_and, or_true, true_or, or_false, false_or, q_gdT, Nat.reduceEqDiff, Bool.false_eq_true, Nat.lt_irrefl, Nat.or_zero]
      · obtain ⟨y1, l1, l2, l3⟩ := m_least hx hq
        obtain ⟨y', r1, r2⟩ := tail (zisS (zfind U q (zn U) 0)) _ y1 l2 (by rw [zturnO_n]; exact hq) l3
        refine ⟨y', ?_, r2⟩
        rw [if_pos ⟨by omega, rfl⟩, ← r1]
        cases g : zisS (zfind U q (zn U) 0) with
        | false => rw [g] at l1; simp (disch := omega) only [f_X12_judge_43, f_X12_judge_43b, f_X12_judge_81, h2, q_len45, hi2, i0, n4, zbn_t, zbn_f, l1, q_e1_0, zzbd_s, zzlt_eq, zzon_n, zzon_s, q0, q1, q2, q3, q4, q5, q6, q7, q8, q9, q10, q11, q12, q20, q48, q49, q57, q59, q99, q100, q999, nI_add, pk_mul, q_lt0, q_lt, q_eq, q_cl, q_gd, if_true, if_false, q_ofNat, q_min, q_max, ite_self, Nat.not_lt_zero, q_e10, q_e01, eq_self, not_true_eq_false, not_false_eq_true, and_true, true_and, and_false, false_and, or_true, true_or, or_false, false_or, q_gdT, Nat.reduceEqDiff, Bool.false_eq_true, Nat.lt_irrefl, Nat.or_zero]
        | true => rw [g] at l1; simp (disch := omega) only [f_X12_judge_43, f_X12_judge_43b, f_X12_judge_77, h2, q_len45, hi2, i0, n4, zbn_t, l1, q_e1_0, zzbd_s, zzlt_eq, zzon_n, zzon_s, q0, q1, q2, q3, q4, q5, q6, q7, q8, q9, q10, q11, q12, q20, q48, q49, q57, q59, q99, q100, q999, nI_add, pk_mul, q_lt0, q_lt, q_eq, q_cl, q_gd, if_true, if_false, q_ofNat, q_min, q_max, ite_self, Nat.not_lt_zero, q_e10, q_e01, eq_self, not_true_eq_false, not_false_eq_true, and_true, true_and, and_false, false_and, or_true, true_or, or_false, false_or, q_gdT, Nat.reduceEqDiff, Bool.false_eq_true, Nat.lt_irrefl, Nat.or_zero]
theorem s_judge (q d : Int32) : zSim (f_X11_judge q d) (f_X12_judge q d) := by
  refine zSim_T (fun x m T hx hm hs hi => ?_)
  have h7 := hx.1.1
  have hm1 : zMT (zzsi m 36 13 (nI 0)) T := hm
  have ht : zztown 20 := Or.inl rfl
  have ht2 : zztown 24 := Or.inr (Or.inl rfl)
  rcases q_cls q (zn T) (by omega) with ⟨i, hi, rfl⟩ | hq
  · rcases q_rowd (zSh_13 hs (nI 0)) d with ⟨e, s, n, he, rfl, hs3, hn, a1, a2, a3, a4, a5, a6, a7⟩ | ⟨a1, r, hr, a2, a3⟩
    · have hrow := q_row8 he
      obtain ⟨x1, b1, b2, b3⟩ := x_become hx ht2 ht (by omega)
      have w1 : zzi x1 (4 + 2 * e) 1 = nI s := by rw [b3.1 _ _ (by omega)]; exact a4
      have w2 : zzi x1 (4 + 2 * e) 2 = nI n := by rw [b3.1 _ _ (by omega)]; exact a5
      obtain ⟨x', c1, c2⟩ := x_judge_l (nI e) he hs3 hn (fun j => zza x (5 + 2 * e) j) n 200 0 true T x1 (by omega) (by omega) b2 hi w1 w2 (fun j hj => b3.2.1 _ _ (by omega))
      obtain ⟨m1, d1, d2, d3, d4⟩ := m_open hm1
      have v1 : zza m1 44 e = nI s := by rw [d4.2.1 _ _ (by omega) (by omega)]; exact a2
      have v2 : zza m1 45 e = nI n := by rw [d4.2.1 _ _ (by omega) (by omega)]; exact a3
      obtain ⟨m', f1, f2, f3⟩ := m_judge_l he hs3 hn (fun j => zza x (5 + 2 * e) j) n 200 0 true T m1 (by omega) (by omega) d2 d3 hi v1 v2 (fun j hj => by rw [d4.2.2]; exact a6 j hj)
      have f := zFR_tr b3 c2
      refine ⟨zjd (fun j => zza x (5 + 2 * e) j) (zlvl s) i n 0 true T, x', m', T, ?_, ?_, zXT_fr ht2 ht (by omega) hx f, f2, zPX_fr (Or.inr rfl) f, zPM_tr (zPM_13 m _) (zPM_tr (zPM_k d4) f3)⟩
      · rw [← c1]
        simp (disch := omega) only [f_X11_judge, x_has1 hx hi, a1, zzgd_t hrow, b1, zbn_t, q_e1_0, zzbd_s, zzlt_eq, zzon_n, zzon_s, q0, q1, q2, q3, q4, q5, q6, q7, q8, q9, q10, q11, q12, q20, q48, q49, q57, q59, q99, q100, q999, nI_add, pk_mul, q_lt0, q_lt, q_eq, q_cl, q_gd, if_true, if_false, q_ofNat, q_min, q_max, ite_self, Nat.not_lt_zero, q_e10, q_e01, eq_self, not_true_eq_false, not_false_eq_true, and_true, true_and, and_false, false_and, or_true, true_or, or_false, false_or, q_gdT, Nat.reduceEqDiff, Bool.false_eq_true, Nat.lt_irrefl, Nat.or_zero]
      · rw [← f1]
        simp (disch := omega) only [f_X12_judge, f_X12_judge_22, m_one hm1 hi, a7, d1, zbn_t, q_e1_0, zzbd_s, zzlt_eq, zzon_n, zzon_s, q0, q1, q2, q3, q4, q5, q6, q7, q8, q9, q10, q11, q12, q20, q48, q49, q57, q59, q99, q100, q999, nI_add, pk_mul, q_lt0, q_lt, q_eq, q_cl, q_gd, if_true, if_false, q_ofNat, q_min, q_max, ite_self, Nat.not_lt_zero, q_e10, q_e01, eq_self, not_true_eq_false, not_false_eq_true, and_true, true_and, and_false, false_and, or_true, true_or, or_false, false_or, q_gdT, Nat.reduceEqDiff, Bool.false_eq_true, Nat.lt_irrefl, Nat.or_zero]
    · have hr' : r < nI 0 := hr
      refine ⟨r, x, _, T, ?_, ?_, hx, hm1, zPX_refl _, zPM_13 m _⟩
      · simp (disch := omega) only [f_X11_judge, x_has1 hx hi, a1, a2, q_e1_0, zzbd_s, zzlt_eq, zzon_n, zzon_s, q0, q1, q2, q3, q4, q5, q6, q7, q8, q9, q10, q11, q12, q20, q48, q49, q57, q59, q99, q100, q999, nI_add, pk_mul, q_lt0, q_lt, q_eq, q_cl, q_gd, if_true, if_false, q_ofNat, q_min, q_max, ite_self, Nat.not_lt_zero, q_e10, q_e01, eq_self, not_true_eq_false, not_false_eq_true, and_true, true_and, and_false, false_and, or_true, true_or, or_false, false_or, q_gdT, Nat.reduceEqDiff, Bool.false_eq_true, Nat.lt_irrefl, Nat.or_zero]
      · simp (disch := omega) only [f_X12_judge, f_X12_judge_22, m_one hm1 hi, a3, hr', q_e1_0, zzbd_s, zzlt_eq, zzon_n, zzon_s, q0, q1, q2, q3, q4, q5, q6, q7, q8, q9, q10, q11, q12, q20, q48, q49, q57, q59, q99, q100, q999, nI_add, pk_mul, q_lt0, q_lt, q_eq, q_cl, q_gd, if_true, if_false, q_ofNat, q_min, q_max, ite_self, Nat.not_lt_zero, q_e10, q_e01, eq_self, not_true_eq_false, not_false_eq_true, and_true, true_and, and_false, false_and, or_true, true_or, or_false, false_or, q_gdT, Nat.reduceEqDiff, Bool.false_eq_true, Nat.lt_irrefl, Nat.or_zero]
  · have n1 : (-nI 1 < nI 0) = True := eq_true (by decide)
    refine ⟨-1, x, _, T, ?_, ?_, hx, hm1, zPX_refl _, zPM_13 m _⟩
    · simp (disch := omega) only [f_X11_judge, x_has_bad hx hq, zzbd_s, zzlt_eq, zzon_n, zzon_s, q0, q1, q2, q3, q4, q5, q6, q7, q8, q9, q10, q11, q12, q20, q48, q49, q57, q59, q99, q100, q999, nI_add, pk_mul, q_lt0, q_lt, q_eq, q_cl, q_gd, if_true, if_false, q_ofNat, q_min, q_max, ite_self, Nat.not_lt_zero, q_e10, q_e01, eq_self, not_true_eq_false, not_false_eq_true, and_true, true_and, and_false, false_and, or_true, true_or, or_false, false_or, q_gdT, Nat.reduceEqDiff, Bool.false_eq_true, Nat.lt_irrefl, Nat.or_zero]
    · simp (disch := omega) only [f_X12_judge, f_X12_judge_22, m_one_bad hm1 hq, n1, zzbd_s, zzlt_eq, zzon_n, zzon_s, q0, q1, q2, q3, q4, q5, q6, q7, q8, q9, q10, q11, q12, q20, q48, q49, q57, q59, q99, q100, q999, nI_add, pk_mul, q_lt0, q_lt, q_eq, q_cl, q_gd, if_true, if_false, q_ofNat, q_min, q_max, ite_self, Nat.not_lt_zero, q_e10, q_e01, eq_self, not_true_eq_false, not_false_eq_true, and_true, true_and, and_false, false_and, or_true, true_or, or_false, false_or, q_gdT, Nat.reduceEqDiff, Bool.false_eq_true, Nat.lt_irrefl, Nat.or_zero]
end
