/-! ===== swaps ===== -/
def zcnt (b : Nat → Bool) : Nat → Nat → Nat
  | 0, _ => 0
  | d + 1, i => (if b i = true then 1 else 0) + zcnt b d (i + 1)
def zfst (b : Nat → Bool) (v : Nat → Int32) : Nat → Nat → Int32 → Int32
  | 0, _, f => f
  | d + 1, i, f => if b i = true then v i else zfst b v d (i + 1) f
theorem zcnt_z (b : Nat → Bool) (i : Nat) : zcnt b 0 i = 0 := rfl
theorem zcnt_s (b : Nat → Bool) (d i : Nat) : zcnt b (d + 1) i = (if b i = true then 1 else 0) + zcnt b d (i + 1) := rfl
theorem zfst_z (b : Nat → Bool) (v : Nat → Int32) (i : Nat) (f : Int32) : zfst b v 0 i f = f := rfl
theorem zfst_s (b : Nat → Bool) (v : Nat → Int32) (d i : Nat) (f : Int32) : zfst b v (d + 1) i f = if b i = true then v i else zfst b v d (i + 1) f := rfl
theorem zcnt_last (b : Nat → Bool) : ∀ d i, zcnt b (d + 1) i = zcnt b d i + (if b (i + d) = true then 1 else 0)
  | 0, i => by rw [zcnt_s, zcnt_z, zcnt_z, Nat.add_zero, Nat.zero_add, Nat.add_zero]
  | d + 1, i => by
    rw [zcnt_s, zcnt_last b d (i + 1), zcnt_s b d i, show i + 1 + d = i + (d + 1) by omega]; omega
theorem zfst_last (b : Nat → Bool) (v : Nat → Int32) : ∀ d i f, zfst b v (d + 1) i f = zfst b v d i (if b (i + d) = true then v (i + d) else f)
  | 0, i, f => by rw [zfst_s, zfst_z, zfst_z, Nat.add_zero]
  | d + 1, i, f => by
    rw [zfst_s, zfst_last b v d (i + 1), zfst_s b v d i, show i + 1 + d = i + (d + 1) by omega]
theorem zcnt_le (b : Nat → Bool) : ∀ d i, zcnt b d i ≤ d
  | 0, _ => Nat.le_refl _
  | d + 1, i => by
    have := zcnt_le b d (i + 1)
    rw [zcnt_s]
    split <;> omega
theorem zfst_0 (b : Nat → Bool) (v : Nat → Int32) : ∀ d i f, zcnt b d i = 0 → zfst b v d i f = f
  | 0, _, _, _ => rfl
  | d + 1, i, f, h => by
    rw [zcnt_s] at h
    by_cases c : b i = true
    · rw [if_pos c] at h; omega
    · rw [if_neg c, Nat.zero_add] at h
      rw [zfst_s, if_neg c]; exact zfst_0 b v d (i + 1) f h
theorem zfst_1 (b : Nat → Bool) (v : Nat → Int32) : ∀ d i f g, ¬ zcnt b d i = 0 → zfst b v d i f = zfst b v d i g
  | 0, _, _, _, h => absurd rfl h
  | d + 1, i, f, g, h => by
    rw [zcnt_s] at h
    by_cases c : b i = true
    · rw [zfst_s, zfst_s, if_pos c, if_pos c]
    · rw [if_neg c, Nat.zero_add] at h
      rw [zfst_s, zfst_s, if_neg c, if_neg c]; exact zfst_1 b v d (i + 1) f g h
def zsb (T : zT) (p q : Nat) : Bool := zmb T (zl T) p q && zmb T (zl T) q p
def zsv (p q : Nat) : Int32 := nI (10 * p + q)
def zcc (T : zT) : Nat → Nat → Nat
  | 0, _ => 0
  | d + 1, p => zcnt (zsb T p) (zn T - (p + 1)) (p + 1) + zcc T d (p + 1)
def zff (T : zT) : Nat → Nat → Int32 → Int32
  | 0, _, f => f
  | d + 1, p, f => zfst (zsb T p) (zsv p) (zn T - (p + 1)) (p + 1) (zff T d (p + 1) f)
theorem zcc_z (T : zT) (p : Nat) : zcc T 0 p = 0 := rfl
theorem zcc_s (T : zT) (d p : Nat) : zcc T (d + 1) p = zcnt (zsb T p) (zn T - (p + 1)) (p + 1) + zcc T d (p + 1) := rfl
theorem zff_z (T : zT) (p : Nat) (f : Int32) : zff T 0 p f = f := rfl
theorem zff_s (T : zT) (d p : Nat) (f : Int32) : zff T (d + 1) p f = zfst (zsb T p) (zsv p) (zn T - (p + 1)) (p + 1) (zff T d (p + 1) f) := rfl
theorem zcc_last (T : zT) : ∀ d i, zcc T (d + 1) i = zcc T d i + zcnt (zsb T (i + d)) (zn T - (i + d + 1)) (i + d + 1)
  | 0, i => by rw [zcc_s, zcc_z, zcc_z, Nat.add_zero, Nat.zero_add]; rfl
  | d + 1, i => by
    rw [zcc_s, zcc_last T d (i + 1), zcc_s T d i, show i + 1 + d = i + (d + 1) by omega]; omega
theorem zff_last (T : zT) : ∀ d i f, zff T (d + 1) i f = zff T d i (zfst (zsb T (i + d)) (zsv (i + d)) (zn T - (i + d + 1)) (i + d + 1) f)
  | 0, i, f => by rw [zff_s, zff_z, zff_z]; rfl
  | d + 1, i, f => by
    rw [zff_s, zff_last T d (i + 1), zff_s T d i, show i + 1 + d = i + (d + 1) by omega]
theorem q_dn (k : Nat) : nI k + -nI 1 = nI k - nI 1 := (Int32.sub_eq_add_neg ..).symm
theorem q_dlt {e : Nat} (h : e ≤ 100) : (nI e - nI 1 < nI 0) ↔ e = 0 := by
  rw [← q0, q_neg0, q_dec1 h]; omega
section
variable {x m : zzS} {T : zT}
theorem x_sw_i (h : zXT x 20 T) (k17 : Int32 → Int32 → Int32 → zzS → Option (Int32 × zzS)) (p0 : Int32) {p : Nat} (hp : p < zn T) : ∀ d n i c f, i + d = zn T → d < n → c + d < 1000 → f_X11_swaps_35 k17 p0 n (nI c) f (nI p) (nI i) x = k17 (nI (c + zcnt (zsb T p) d i)) (if c = 0 then zfst (zsb T p) (zsv p) d i f else f) (nI (p + 1)) x := by
  have h7 := h.1.1
  have hL := h.1.2.1
  have ht : zztown 20 := Or.inl rfl
  intro d
  induction d with
  | zero =>
    intro n i c f hi hn hc
    obtain ⟨n, rfl⟩ : ∃ n', n = n' + 1 := ⟨n - 1, by omega⟩
    have : i = zn T := by omega
    subst this
    simp (disch := omega) only [f_X11_swaps_35, f_X11_swaps_35b, h.2.1, zcnt_z, zfst_z, Nat.add_zero, zzbd_s, zzlt_eq, zzon_n, zzon_s, q0, q1, q2, q3, q4, q5, q6, q7, q8, q9, q10, q11, q12, q20, q48, q49, q57, q59, q99, q100, q999, nI_add, pk_mul, q_lt0, q_lt, q_eq, q_cl, q_gd, if_true, if_false, q_ofNat, q_min, q_max, ite_self, Nat.not_lt_zero, q_e10, q_e01, eq_self, not_true_eq_false, not_false_eq_true, and_true, true_and, and_false, false_and, or_true, true_or, or_false, false_or, q_gdT, Nat.reduceEqDiff, Bool.false_eq_true, Nat.lt_irrefl, Nat.or_zero]
  | succ d ih =>
    intro n i c f hi hn hc
    obtain ⟨n, rfl⟩ : ∃ n', n = n' + 1 := ⟨n - 1, by omega⟩
    have hi2 : i < zn T := by omega
    rw [zcnt_s, zfst_s]
    cases e1 : zmb T (zl T) p i with
    | false =>
      have e : zsb T p i = false := by unfold zsb; rw [e1]; rfl
      simp (disch := omega) only [f_X11_swaps_35, f_X11_swaps_35b, f_X11_swaps_109, h.2.1, h.2.2.1, hi2, x_mb h ht, e1, e, ih, Nat.zero_add, zzbd_s, zzlt_eq, zzon_n, zzon_s, q0, q1, q2, q3, q4, q5, q6, q7, q8, q9, q10, q11, q12, q20, q48, q49, q57, q59, q99, q100, q999, nI_add, pk_mul, q_lt0, q_lt, q_eq, q_cl, q_gd, if_true, if_false, q_ofNat, q_min, q_max, ite_self, Nat.not_lt_zero, q_e10, q_e01, eq_self, not_true_eq_false, not_false_eq_true, and_true, true_and, and_false, false_and, or_true, true_or, or_false, false_or, q_gdT, Nat.reduceEqDiff, Bool.false_eq_true, Nat.lt_irrefl, Nat.or_zero]
    | true =>
      cases e2 : zmb T (zl T) i p with
      | false =>
        have e : zsb T p i = false := by unfold zsb; rw [e1, e2]; rfl
        simp (disch := omega) only [f_X11_swaps_35, f_X11_swaps_35b, f_X11_swaps_109, h.2.1, h.2.2.1, hi2, x_mb h ht, e1, e2, e, ih, Nat.zero_add, q_e1_0, zzbd_s, zzlt_eq, zzon_n, zzon_s, q0, q1, q2, q3, q4, q5, q6, q7, q8, q9, q10, q11, q12, q20, q48, q49, q57, q59, q99, q100, q999, nI_add, pk_mul, q_lt0, q_lt, q_eq, q_cl, q_gd, if_true, if_false, q_ofNat, q_min, q_max, ite_self, Nat.not_lt_zero, q_e10, q_e01, eq_self, not_true_eq_false, not_false_eq_true, and_true, true_and, and_false, false_and, or_true, true_or, or_false, false_or, q_gdT, Nat.reduceEqDiff, Bool.false_eq_true, Nat.lt_irrefl, Nat.or_zero]
      | true =>
        have e : zsb T p i = true := by unfold zsb; rw [e1, e2]; rfl
        by_cases c0 : c = 0
        · subst c0
          simp (disch := omega) only [f_X11_swaps_35, f_X11_swaps_35b, f_X11_swaps_109, f_X11_swaps_105, h.2.1, h.2.2.1, hi2, x_mb h ht, e1, e2, e, ih, zsv, Nat.zero_add, q_e1_0, zzbd_s, zzlt_eq, zzon_n, zzon_s, q0, q1, q2, q3, q4, q5, q6, q7, q8, q9, q10, q11, q12, q20, q48, q49, q57, q59, q99, q100, q999, nI_add, pk_mul, q_lt0, q_lt, q_eq, q_cl, q_gd, if_true, if_false, q_ofNat, q_min, q_max, ite_self, Nat.not_lt_zero, q_e10, q_e01, eq_self, not_true_eq_false, not_false_eq_true, and_true, true_and, and_false, false_and, or_true, true_or, or_false, false_or, q_gdT, Nat.reduceEqDiff, Bool.false_eq_true, Nat.lt_irrefl, Nat.or_zero]
        · have c1 : ¬ c + 1 = 0 := by omega
          have c2 : c + 1 + zcnt (zsb T p) d (i + 1) = c + (1 + zcnt (zsb T p) d (i + 1)) := by omega
          simp (disch := omega) only [f_X11_swaps_35, f_X11_swaps_35b, f_X11_swaps_109, f_X11_swaps_105, h.2.1, h.2.2.1, hi2, x_mb h ht, e1, e2, e, c0, c1, c2, ih, q_e1_0, zzbd_s, zzlt_eq, zzon_n, zzon_s, q0, q1, q2, q3, q4, q5, q6, q7, q8, q9, q10, q11, q12, q20, q48, q49, q57, q59, q99, q100, q999, nI_add, pk_mul, q_lt0, q_lt, q_eq, q_cl, q_gd, if_true, if_false, q_ofNat, q_min, q_max, ite_self, Nat.not_lt_zero, q_e10, q_e01, eq_self, not_true_eq_false, not_false_eq_true, and_true, true_and, and_false, false_and, or_true, true_or, or_false, false_or, q_gdT, Nat.reduceEqDiff, Bool.false_eq_true, Nat.lt_irrefl, Nat.or_zero]
theorem x_sw_o (h : zXT x 20 T) (p0 : Int32) : ∀ d n i c f, i + d = zn T → d < n → c + 10 * d < 900 → f_X11_swaps_17 p0 n (nI c) f (nI i) x = some (if p0 = nI 0 then nI (c + zcc T d i) else if c = 0 then zff T d i f else f, x) := by
  have h7 := h.1.1
  intro d
  induction d with
  | zero =>
    intro n i c f hi hn hc
    obtain ⟨n, rfl⟩ : ∃ n', n = n' + 1 := ⟨n - 1, by omega⟩
    have : i = zn T := by omega
    subst this
    by_cases c1 : p0 = nI 0
    · simp (disch := omega) only [f_X11_swaps_17, f_X11_swaps_17b, h.2.1, zcc_z, zff_z, Nat.add_zero, c1, zzbd_s, zzlt_eq, zzon_n, zzon_s, q0, q1, q2, q3, q4, q5, q6, q7, q8, q9, q10, q11, q12, q20, q48, q49, q57, q59, q99, q100, q999, nI_add, pk_mul, q_lt0, q_lt, q_eq, q_cl, q_gd, if_true, if_false, q_ofNat, q_min, q_max, ite_self, Nat.not_lt_zero, q_e10, q_e01, eq_self, not_true_eq_false, not_false_eq_true, and_true, true_and, and_false, false_and, or_true, true_or, or_false, false_or, q_gdT, Nat.reduceEqDiff, Bool.false_eq_true, Nat.lt_irrefl, Nat.or_zero]
    · simp (disch := omega) only [f_X11_swaps_17, f_X11_swaps_17b, h.2.1, zcc_z, zff_z, Nat.add_zero, c1, zzbd_s, zzlt_eq, zzon_n, zzon_s, q0, q1, q2, q3, q4, q5, q6, q7, q8, q9, q10, q11, q12, q20, q48, q49, q57, q59, q99, q100, q999, nI_add, pk_mul, q_lt0, q_lt, q_eq, q_cl, q_gd, if_true, if_false, q_ofNat, q_min, q_max, ite_self, Nat.not_lt_zero, q_e10, q_e01, eq_self, not_true_eq_false, not_false_eq_true, and_true, true_and, and_false, false_and, or_true, true_or, or_false, false_or, q_gdT, Nat.reduceEqDiff, Bool.false_eq_true, Nat.lt_irrefl, Nat.or_zero]
  | succ d ih =>
    intro n i c f hi hn hc
    obtain ⟨n, rfl⟩ : ∃ n', n = n' + 1 := ⟨n - 1, by omega⟩
    have hi2 : i < zn T := by omega
    have hle := zcnt_le (zsb T i) (zn T - (i + 1)) (i + 1)
    have e := x_sw_i h (f_X11_swaps_17 p0 n) p0 hi2 (zn T - (i + 1)) 200 (i + 1) c f (by omega) (by omega) (by omega)
    have e2 := ih n (i + 1) (c + zcnt (zsb T i) (zn T - (i + 1)) (i + 1)) (if c = 0 then zfst (zsb T i) (zsv i) (zn T - (i + 1)) (i + 1) f else f) (by omega) (by omega) (by omega)
    have e3 : f_X11_swaps_17 p0 (n + 1) (nI c) f (nI i) x = f_X11_swaps_35 (f_X11_swaps_17 p0 n) p0 200 (nI c) f (nI i) (nI (i + 1)) x := by
      simp (disch := omega) only [f_X11_swaps_17, f_X11_swaps_17b, h.2.1, hi2, zzbd_s, zzlt_eq, zzon_n, zzon_s, q0, q1, q2, q3, q4, q5, q6, q7, q8, q9, q10, q11, q12, q20, q48, q49, q57, q59, q99, q100, q999, nI_add, pk_mul, q_lt0, q_lt, q_eq, q_cl, q_gd, if_true, if_false, q_ofNat, q_min, q_max, ite_self, Nat.not_lt_zero, q_e10, q_e01, eq_self, not_true_eq_false, not_false_eq_true, and_true, true_and, and_false, false_and, or_true, true_or, or_false, false_or, q_gdT, Nat.reduceEqDiff, Bool.false_eq_true, Nat.lt_irrefl, Nat.or_zero]
    rw [e3, e, e2, zcc_s, zff_s, ← Nat.add_assoc]
    by_cases c0 : c = 0
    · rw [if_pos c0, if_pos c0]
      by_cases c1 : zcnt (zsb T i) (zn T - (i + 1)) (i + 1) = 0
      · rw [zfst_0 _ _ _ _ f c1, zfst_0 _ _ _ _ _ c1, if_pos (show c + zcnt (zsb T i) (zn T - (i + 1)) (i + 1) = 0 by omega)]
      · rw [if_neg (show ¬ c + zcnt (zsb T i) (zn T - (i + 1)) (i + 1) = 0 by omega), zfst_1 _ _ _ _ f (zff T d (i + 1) f) c1]
    · rw [if_neg c0, if_neg c0, if_neg (show ¬ c + zcnt (zsb T i) (zn T - (i + 1)) (i + 1) = 0 by omega)]
theorem m_sw_i (h : zMT m T) (k30 : Int32 → Int32 → Int32 → zzS → Option (Int32 × zzS)) (p0 : Int32) {p : Nat} (hp : p < zn T) : ∀ e n c f, p + e < zn T → e < n → f_X12_swaps_43 k30 p0 n (nI c) f (nI p) (nI (p + e)) m = k30 (nI (c + zcnt (zsb T p) e (p + 1))) (zfst (zsb T p) (zsv p) e (p + 1) f) (nI p - nI 1) m := by
  have h7 := h.1.1
  intro e
  induction e with
  | zero =>
    intro n c f hi hn
    obtain ⟨n, rfl⟩ : ∃ n', n = n' + 1 := ⟨n - 1, by omega⟩
    simp (disch := omega) only [f_X12_swaps_43, f_X12_swaps_43b, zcnt_z, zfst_z, Nat.add_zero, q_dn, zzbd_s, zzlt_eq, zzon_n, zzon_s, q0, q1, q2, q3, q4, q5, q6, q7, q8, q9, q10, q11, q12, q20, q48, q49, q57, q59, q99, q100, q999, nI_add, pk_mul, q_lt0, q_lt, q_eq, q_cl, q_gd, if_true, if_false, q_ofNat, q_min, q_max, ite_self, Nat.not_lt_zero, q_e10, q_e01, eq_self, not_true_eq_false, not_false_eq_true, and_true, true_and, and_false, false_and, or_true, true_or, or_false, false_or, q_gdT, Nat.reduceEqDiff, Bool.false_eq_true, Nat.lt_irrefl, Nat.or_zero]
  | succ e ih =>
    intro n c f hi hn
    obtain ⟨n, rfl⟩ : ∃ n', n = n' + 1 := ⟨n - 1, by omega⟩
    have hi2 : p < p + (e + 1) := by omega
    have hq : nI (p + (e + 1)) - nI 1 = nI (p + e) := by rw [q_sub (by omega)]; rfl
    rw [zcnt_last, zfst_last, show p + 1 + e = p + (e + 1) by omega]
    cases e1 : zmb T (zl T) p (p + (e + 1)) with
    | false =>
      have e0 : zsb T p (p + (e + 1)) = false := by unfold zsb; rw [e1]; rfl
      simp (disch := omega) only [f_X12_swaps_43, f_X12_swaps_43b, f_X12_swaps_76, f_X12_swaps_77, f_X12_swaps_90, f_X12_swaps_109, hi2, m_mb h, e1, e0, q_dn, hq, ih, Nat.add_zero, zzbd_s, zzlt_eq, zzon_n, zzon_s, q0, q1, q2, q3, q4, q5, q6, q7, q8, q9, q10, q11, q12, q20, q48, q49, q57, q59, q99, q100, q999, nI_add, pk_mul, q_lt0, q_lt, q_eq, q_cl, q_gd, if_true, if_false, q_ofNat, q_min, q_max, ite_self, Nat.not_lt_zero, q_e10, q_e01, eq_self, not_true_eq_false, not_false_eq_true, and_true, true_and, and_false, false_and, or_true, true_or, or_false, false_or, q_gdT, Nat.reduceEqDiff, Bool.false_eq_true, Nat.lt_irrefl, Nat.or_zero]
    | true =>
      cases e2 : zmb T (zl T) (p + (e + 1)) p with
      | false =>
        have e0 : zsb T p (p + (e + 1)) = false := by unfold zsb; rw [e1, e2]; rfl
        simp (disch := omega) only [f_X12_swaps_43, f_X12_swaps_43b, f_X12_swaps_76, f_X12_swaps_77, f_X12_swaps_90, f_X12_swaps_109, hi2, m_mb h, e1, e2, e0, q_dn, hq, ih, Nat.add_zero, q_e1_0, zzbd_s, zzlt_eq, zzon_n, zzon_s, q0, q1, q2, q3, q4, q5, q6, q7, q8, q9, q10, q11, q12, q20, q48, q49, q57, q59, q99, q100, q999, nI_add, pk_mul, q_lt0, q_lt, q_eq, q_cl, q_gd, if_true, if_false, q_ofNat, q_min, q_max, ite_self, Nat.not_lt_zero, q_e10, q_e01, eq_self, not_true_eq_false, not_false_eq_true, and_true, true_and, and_false, false_and, or_true, true_or, or_false, false_or, q_gdT, Nat.reduceEqDiff, Bool.false_eq_true, Nat.lt_irrefl, Nat.or_zero]
      | true =>
        have e0 : zsb T p (p + (e + 1)) = true := by unfold zsb; rw [e1, e2]; rfl
        have c2 : c + 1 + zcnt (zsb T p) e (p + 1) = c + (zcnt (zsb T p) e (p + 1) + 1) := by omega
        simp (disch := omega) only [f_X12_swaps_43, f_X12_swaps_43b, f_X12_swaps_76, f_X12_swaps_77, f_X12_swaps_90, f_X12_swaps_109, hi2, m_mb h, e1, e2, e0, q_dn, hq, ih, c2, zsv, q_e1_0, zzbd_s, zzlt_eq, zzon_n, zzon_s, q0, q1, q2, q3, q4, q5, q6, q7, q8, q9, q10, q11, q12, q20, q48, q49, q57, q59, q99, q100, q999, nI_add, pk_mul, q_lt0, q_lt, q_eq, q_cl, q_gd, if_true, if_false, q_ofNat, q_min, q_max, ite_self, Nat.not_lt_zero, q_e10, q_e01, eq_self, not_true_eq_false, not_false_eq_true, and_true, true_and, and_false, false_and, or_true, true_or, or_false, false_or, q_gdT, Nat.reduceEqDiff, Bool.false_eq_true, Nat.lt_irrefl, Nat.or_zero]
theorem m_sw_o (h : zMT m T) (p0 : Int32) : ∀ e n c f, e ≤ zn T → e < n → f_X12_swaps_30 p0 n (nI c) f (nI e - nI 1) m = some (if p0 = nI 0 then nI (c + zcc T e 0) else zff T e 0 f, m) := by
  have h7 := h.1.1
  intro e
  induction e with
  | zero =>
    intro n c f hi hn
    obtain ⟨n, rfl⟩ : ∃ n', n = n' + 1 := ⟨n - 1, by omega⟩
    have z : (nI 0 - nI 1 < nI 0) = True := eq_true (by decide)
    by_cases c1 : p0 = nI 0
    · simp (disch := omega) only [f_X12_swaps_30, f_X12_swaps_30b, z, zcc_z, zff_z, Nat.add_zero, c1, zzbd_s, zzlt_eq, zzon_n, zzon_s, q0, q1, q2, q3, q4, q5, q6, q7, q8, q9, q10, q11, q12, q20, q48, q49, q57, q59, q99, q100, q999, nI_add, pk_mul, q_lt0, q_lt, q_eq, q_cl, q_gd, if_true, if_false, q_ofNat, q_min, q_max, ite_self, Nat.not_lt_zero, q_e10, q_e01, eq_self, not_true_eq_false, not_false_eq_true, and_true, true_and, and_false, false_and, or_true, true_or, or_false, false_or, q_gdT, Nat.reduceEqDiff, Bool.false_eq_true, Nat.lt_irrefl, Nat.or_zero]
    · simp (disch := omega) only [f_X12_swaps_30, f_X12_swaps_30b, z, zcc_z, zff_z, Nat.add_zero, c1, zzbd_s, zzlt_eq, zzon_n, zzon_s, q0, q1, q2, q3, q4, q5, q6, q7, q8, q9, q10, q11, q12, q20, q48, q49, q57, q59, q99, q100, q999, nI_add, pk_mul, q_lt0, q_lt, q_eq, q_cl, q_gd, if_true, if_false, q_ofNat, q_min, q_max, ite_self, Nat.not_lt_zero, q_e10, q_e01, eq_self, not_true_eq_false, not_false_eq_true, and_true, true_and, and_false, false_and, or_true, true_or, or_false, false_or, q_gdT, Nat.reduceEqDiff, Bool.false_eq_true, Nat.lt_irrefl, Nat.or_zero]
  | succ e ih =>
    intro n c f hi hn
    obtain ⟨n, rfl⟩ : ∃ n', n = n' + 1 := ⟨n - 1, by omega⟩
    have hq : nI (e + 1) - nI 1 = nI e := by rw [q_sub (by omega)]; rfl
    have hq2 : nI (zn T) - nI 1 = nI (e + (zn T - (e + 1))) := by rw [q_sub (by omega)]; congr 1; omega
    have e1 := m_sw_i h (f_X12_swaps_30 p0 n) p0 (p := e) (by omega) (zn T - (e + 1)) 200 c f (by omega) (by omega)
    have e3 : f_X12_swaps_30 p0 (n + 1) (nI c) f (nI e) m = f_X12_swaps_43 (f_X12_swaps_30 p0 n) p0 200 (nI c) f (nI e) (nI (e + (zn T - (e + 1)))) m := by
      simp (disch := omega) only [f_X12_swaps_30, f_X12_swaps_30b, h.2.1, hq2, zzbd_s, zzlt_eq, zzon_n, zzon_s, q0, q1, q2, q3, q4, q5, q6, q7, q8, q9, q10, q11, q12, q20, q48, q49, q57, q59, q99, q100, q999, nI_add, pk_mul, q_lt0, q_lt, q_eq, q_cl, q_gd, if_true, if_false, q_ofNat, q_min, q_max, ite_self, Nat.not_lt_zero, q_e10, q_e01, eq_self, not_true_eq_false, not_false_eq_true, and_true, true_and, and_false, false_and, or_true, true_or, or_false, false_or, q_gdT, Nat.reduceEqDiff, Bool.false_eq_true, Nat.lt_irrefl, Nat.or_zero]
    rw [hq, e3, e1, ih n _ _ (by omega) (by omega), zcc_last, zff_last, Nat.zero_add]
    rw [show c + zcnt (zsb T e) (zn T - (e + 1)) (e + 1) + zcc T e 0 = c + (zcc T e 0 + zcnt (zsb T e) (zn T - (e + 1)) (e + 1)) by omega]
theorem s_swaps (w : Int32) : zSim (f_X11_swaps w) (f_X12_swaps w) := by
  refine zSim_rd (fun x m T hx hm hs hi => ?_)
  have h7 := hx.1.1
  have hm1 : zMT (zzsi m 36 13 (nI 0)) T := hm
  rcases q_cls w 2 (by omega) with ⟨i, hi, rfl⟩ | hw
  · have e1 := x_sw_o hx (nI i) (zn T) 200 0 0 (-4) (by omega) (by omega) (by omega)
    have e2 := m_sw_o hm1 (nI i) (zn T) 200 0 (-4) (by omega) (by omega)
    rw [if_pos rfl] at e1
    have a1 : f_X11_swaps (nI i) x = f_X11_swaps_17 (nI i) 200 (nI 0) (-4) (nI 0) x := by simp (disch := omega) only [f_X11_swaps, x_12 hi, q_e1_0, zzbd_s, zzlt_eq, zzon_n, zzon_s, q0, q1, q2, q3, q4, q5, q6, q7, q8, q9, q10, q11, q12, q20, q48, q49, q57, q59, q99, q100, q999, nI_add, pk_mul, q_lt0, q_lt, q_eq, q_cl, q_gd, if_true, if_false, q_ofNat, q_min, q_max, ite_self, Nat.not_lt_zero, q_e10, q_e01, eq_self, not_true_eq_false, not_false_eq_true, and_true, true_and, and_false, false_and, or_true, true_or, or_false, false_or, q_gdT, Nat.reduceEqDiff, Bool.false_eq_true, Nat.lt_irrefl, Nat.or_zero]
    have a2 : f_X12_swaps (nI i) m = f_X12_swaps_30 (nI i) 200 (nI 0) (-4) (nI (zn T) - nI 1) (zzsi m 36 13 (nI 0)) := by simp (disch := omega) only [f_X12_swaps, m_in1 hi, hm1.2.1, q_e1_0, zzbd_s, zzlt_eq, zzon_n, zzon_s, q0, q1, q2, q3, q4, q5, q6, q7, q8, q9, q10, q11, q12, q20, q48, q49, q57, q59, q99, q100, q999, nI_add, pk_mul, q_lt0, q_lt, q_eq, q_cl, q_gd, if_true, if_false, q_ofNat, q_min, q_max, ite_self, Nat.not_lt_zero, q_e10, q_e01, eq_self, not_true_eq_false, not_false_eq_true, and_true, true_and, and_false, false_and, or_true, true_or, or_false, false_or, q_gdT, Nat.reduceEqDiff, Bool.false_eq_true, Nat.lt_irrefl, Nat.or_zero]
    exact ⟨_, a1.trans e1, a2.trans e2⟩
  · exact ⟨-1, by simp (disch := omega) only [f_X11_swaps, x_12_bad hw, zzbd_s, zzlt_eq, zzon_n, zzon_s, q0, q1, q2, q3, q4, q5, q6, q7, q8, q9, q10, q11, q12, q20, q48, q49, q57, q59, q99, q100, q999, nI_add, pk_mul, q_lt0, q_lt, q_eq, q_cl, q_gd, if_true, if_false, q_ofNat, q_min, q_max, ite_self, Nat.not_lt_zero, q_e10, q_e01, eq_self, not_true_eq_false, not_false_eq_true, and_true, true_and, and_false, false_and, or_true, true_or, or_false, false_or, q_gdT, Nat.reduceEqDiff, Bool.false_eq_true, Nat.lt_irrefl, Nat.or_zero], by simp (disch := omega) only [f_X12_swaps, m_in1_bad hw, zzbd_s, zzlt_eq, zzon_n, zzon_s, q0, q1, q2, q3, q4, q5, q6, q7, q8, q9, q10, q11, q12, q20, q48, q49, q57, q59, q99, q100, q999, nI_add, pk_mul, q_lt0, q_lt, q_eq, q_cl, q_gd, if_true, if_false, q_ofNat, q_min, q_max, ite_self, Nat.not_lt_zero, q_e10, q_e01, eq_self, not_true_eq_false, not_false_eq_true, and_true, true_and, and_false, false_and, or_true, true_or, or_false, false_or, q_gdT, Nat.reduceEqDiff, Bool.false_eq_true, Nat.lt_irrefl, Nat.or_zero]⟩
end
