/-! ===== sums and tables of the town ===== -/
def zlf (T : zT) (q p : Nat) : Nat := if p = q then 0 else zo T (7 * p + q)
def zlv (T : zT) (q : Nat) : Nat := zsm (zlf T q) (zn T) 0
theorem zlv_le {T : zT} (h : zV T) {q : Nat} (hq : q < zn T) : zlv T q ≤ 63 := by
  have h7 := h.1
  have := zsm_le (zlf T q) 9 (zn T) 0 (fun j h1 h2 => by unfold zlf; split; omega; exact h.2.2.2.2.2.1 _ (by omega))
  unfold zlv; omega
def zwho (s : Option Nat) : Int32 := match s with
  | none => -4
  | some w => nI w
def zmost (T : zT) (s : Option Nat) : Int32 := match s with
  | none => -4
  | some w => nI (zlv T w)
def zlg (T : zT) (q : Nat) (s : Option Nat) : Option Nat := match s with
  | none => some q
  | some w => if zlv T w < zlv T q then some q else some w
theorem zlg_lt (T : zT) (n q : Nat) (hq : q < n) (s : Option Nat) (h : ∀ w, s = some w → w < n) : ∀ w, zlg T q s = some w → w < n := by
  intro w hw
  unfold zlg at hw
  split at hw
  · cases hw; exact hq
  next w' =>
    split at hw
    · cases hw; exact hq
    · exact h w hw
theorem q_m4 {v : Nat} (h : v < 2147483648) : ((-4 : Int32) < nI v) = True := by
  apply eq_true
  rw [Int32.lt_iff_toInt_lt, nI_toInt h]
  have : (-4 : Int32).toInt = -4 := rfl
  omega
theorem q_m4n : ((-4 : Int32) < nI 0) = True := q_m4 (by omega)
section
variable {x m : zzS} {t : Nat} {T : zT}
theorem x_lov_i (h : zXT x 20 T) (k18 : Int32 → Int32 → Int32 → zzS → Option (Int32 × zzS)) (p0 l2 l3 : Int32) {q : Nat} (hq : q < zn T) : ∀ d n i a, i + d = zn T → d < n → f_X11_loved_36 k18 p0 n l2 l3 (nI q) (nI a) (nI i) x = if l3 < nI (a + zsm (zlf T q) d i) then k18 (nI q) (nI (a + zsm (zlf T q) d i)) (nI (q + 1)) x else k18 l2 l3 (nI (q + 1)) x := by
  have h7 := h.1.1
  have ht : zztown 20 := Or.inl rfl
  intro d
  induction d with
  | zero =>
    intro n i a hi hn
    obtain ⟨n, rfl⟩ : ∃ n', n = n' + 1 := ⟨n - 1, by omega⟩
    have : i = zn T := by omega
    subst this
    simp (disch := omega) only [f_X11_loved_36, f_X11_loved_36b, f_X11_loved_82, h.2.1, zsm_z, Nat.add_zero, zzbd_s, zzlt_eq, zzon_n, zzon_s, q0, q1, q2, q3, q4, q5, q6, q7, q8, q9, q10, q11, q12, q20, q48, q49, q57, q59, q99, q100, q999, nI_add, pk_mul, q_lt0, q_lt, q_eq, q_cl, q_gd, if_true, if_false, q_ofNat, q_min, q_max, ite_self, Nat.not_lt_zero, q_e10, q_e01, eq_self, not_true_eq_false, not_false_eq_true, and_true, true_and, and_false, false_and, or_true, true_or, or_false, false_or, q_gdT, Nat.reduceEqDiff, Bool.false_eq_true, Nat.lt_irrefl, Nat.or_zero]
    rfl
  | succ d ih =>
    intro n i a hi hn
    obtain ⟨n, rfl⟩ : ∃ n', n = n' + 1 := ⟨n - 1, by omega⟩
    have hi2 : i < zn T := by omega
    have e := ih n (i + 1) (a + zlf T q i) (by omega) (by omega)
    rw [zsm_s, ← Nat.add_assoc, ← e]
    unfold zlf
    by_cases c : i = q
    · subst c
      simp (disch := omega) only [f_X11_loved_36, f_X11_loved_36b, h.2.1, hi2, x_fondOf h ht hi2 hq, zzbd_s, zzlt_eq, zzon_n, zzon_s, q0, q1, q2, q3, q4, q5, q6, q7, q8, q9, q10, q11, q12, q20, q48, q49, q57, q59, q99, q100, q999, nI_add, pk_mul, q_lt0, q_lt, q_eq, q_cl, q_gd, if_true, if_false, q_ofNat, q_min, q_max, ite_self, Nat.not_lt_zero, q_e10, q_e01, eq_self, not_true_eq_false, not_false_eq_true, and_true, true_and, and_false, false_and, or_true, true_or, or_false, false_or, q_gdT, Nat.reduceEqDiff, Bool.false_eq_true, Nat.lt_irrefl, Nat.or_zero]
    · simp (disch := omega) only [f_X11_loved_36, f_X11_loved_36b, h.2.1, hi2, x_fondOf h ht hi2 hq, c, zzbd_s, zzlt_eq, zzon_n, zzon_s, q0, q1, q2, q3, q4, q5, q6, q7, q8, q9, q10, q11, q12, q20, q48, q49, q57, q59, q99, q100, q999, nI_add, pk_mul, q_lt0, q_lt, q_eq, q_cl, q_gd, if_true, if_false, q_ofNat, q_min, q_max, ite_self, Nat.not_lt_zero, q_e10, q_e01, eq_self, not_true_eq_false, not_false_eq_true, and_true, true_and, and_false, false_and, or_true, true_or, or_false, false_or, q_gdT, Nat.reduceEqDiff, Bool.false_eq_true, Nat.lt_irrefl, Nat.or_zero]
theorem x_lov_o (h : zXT x 20 T) (p0 : Int32) : ∀ d n i s, i + d = zn T → d < n → (∀ w, s = some w → w < zn T) → f_X11_loved_18 p0 n (zwho s) (zmost T s) (nI i) x = some (if p0 = nI 0 then zwho (zup (zlg T) d i s) else zmost T (zup (zlg T) d i s), x) := by
  have h7 := h.1.1
  intro d
  induction d with
  | zero =>
    intro n i s hi hn hs
    obtain ⟨n, rfl⟩ : ∃ n', n = n' + 1 := ⟨n - 1, by omega⟩
    have : i = zn T := by omega
    subst this
    by_cases c : p0 = nI 0
    · simp (disch := omega) only [f_X11_loved_18, f_X11_loved_18b, h.2.1, zup_z, c, zzbd_s, zzlt_eq, zzon_n, zzon_s, q0, q1, q2, q3, q4, q5, q6, q7, q8, q9, q10, q11, q12, q20, q48, q49, q57, q59, q99, q100, q999, nI_add, pk_mul, q_lt0, q_lt, q_eq, q_cl, q_gd, if_true, if_false, q_ofNat, q_min, q_max, ite_self, Nat.not_lt_zero, q_e10, q_e01, eq_self, not_true_eq_false, not_false_eq_true, and_true, true_and, and_false, false_and, or_true, true_or, or_false, false_or, q_gdT, Nat.reduceEqDiff, Bool.false_eq_true, Nat.lt_irrefl, Nat.or_zero]
    · simp (disch := omega) only [f_X11_loved_18, f_X11_loved_18b, h.2.1, zup_z, c, zzbd_s, zzlt_eq, zzon_n, zzon_s, q0, q1, q2, q3, q4, q5, q6, q7, q8, q9, q10, q11, q12, q20, q48, q49, q57, q59, q99, q100, q999, nI_add, pk_mul, q_lt0, q_lt, q_eq, q_cl, q_gd, if_true, if_false, q_ofNat, q_min, q_max, ite_self, Nat.not_lt_zero, q_e10, q_e01, eq_self, not_true_eq_false, not_false_eq_true, and_true, true_and, and_false, false_and, or_true, true_or, or_false, false_or, q_gdT, Nat.reduceEqDiff, Bool.false_eq_true, Nat.lt_irrefl, Nat.or_zero]
  | succ d ih =>
    intro n i s hi hn hs
    obtain ⟨n, rfl⟩ : ∃ n', n = n' + 1 := ⟨n - 1, by omega⟩
    have hi2 : i < zn T := by omega
    have e := x_lov_i h (f_X11_loved_18 p0 n) p0 (zwho s) (zmost T s) hi2 (zn T) 200 0 0 (by omega) (by omega)
    have e2 := ih n (i + 1) (zlg T i s) (by omega) (by omega) (zlg_lt T _ i hi2 s hs)
    rw [zup_s, ← e2]
    have b := zlv_le h.1 hi2
    simp (disch := omega) only [f_X11_loved_18, f_X11_loved_18b, h.2.1, hi2, zzbd_s, zzlt_eq, zzon_n, zzon_s, q0, q1, q2, q3, q4, q5, q6, q7, q8, q9, q10, q11, q12, q20, q48, q49, q57, q59, q99, q100, q999, nI_add, pk_mul, q_lt0, q_lt, q_eq, q_cl, q_gd, if_true, if_false, q_ofNat, q_min, q_max, ite_self, Nat.not_lt_zero, q_e10, q_e01, eq_self, not_true_eq_false, not_false_eq_true, and_true, true_and, and_false, false_and, or_true, true_or, or_false, false_or, q_gdT, Nat.reduceEqDiff, Bool.false_eq_true, Nat.lt_irrefl, Nat.or_zero]
    rw [e, Nat.zero_add]
    cases s with
    | none =>
      have c : ((-4 : Int32) < nI (zlv T i)) = True := q_m4 (by omega)
      unfold zlv at c
      simp only [zmost, zwho, zlg, c, if_true]
      rfl
    | some w =>
      have hw := hs w rfl
      have b2 := zlv_le h.1 hw
      unfold zlv at b b2
      by_cases c : zlv T w < zlv T i
      · simp (disch := omega) only [zmost, zwho, zlg, c, zzbd_s, zzlt_eq, zzon_n, zzon_s, q0, q1, q2, q3, q4, q5, q6, q7, q8, q9, q10, q11, q12, q20, q48, q49, q57, q59, q99, q100, q999, nI_add, pk_mul, q_lt0, q_lt, q_eq, q_cl, q_gd, if_true, if_false, q_ofNat, q_min, q_max, ite_self, Nat.not_lt_zero, q_e10, q_e01, eq_self, not_true_eq_false, not_false_eq_true, and_true, true_and, and_false, false_and, or_true, true_or, or_false, false_or, q_gdT, Nat.reduceEqDiff, Bool.false_eq_true, Nat.lt_irrefl, Nat.or_zero]
        unfold zlv at c ⊢
        simp (disch := omega) only [c, zzbd_s, zzlt_eq, zzon_n, zzon_s, q0, q1, q2, q3, q4, q5, q6, q7, q8, q9, q10, q11, q12, q20, q48, q49, q57, q59, q99, q100, q999, nI_add, pk_mul, q_lt0, q_lt, q_eq, q_cl, q_gd, if_true, if_false, q_ofNat, q_min, q_max, ite_self, Nat.not_lt_zero, q_e10, q_e01, eq_self, not_true_eq_false, not_false_eq_true, and_true, true_and, and_false, false_and, or_true, true_or, or_false, false_or, q_gdT, Nat.reduceEqDiff, Bool.false_eq_true, Nat.lt_irrefl, Nat.or_zero]
      · simp (disch := omega) only [zmost, zwho, zlg, c, zzbd_s, zzlt_eq, zzon_n, zzon_s, q0, q1, q2, q3, q4, q5, q6, q7, q8, q9, q10, q11, q12, q20, q48, q49, q57, q59, q99, q100, q999, nI_add, pk_mul, q_lt0, q_lt, q_eq, q_cl, q_gd, if_true, if_false, q_ofNat, q_min, q_max, ite_self, Nat.not_lt_zero, q_e10, q_e01, eq_self, not_true_eq_false, not_false_eq_true, and_true, true_and, and_false, false_and, or_true, true_or, or_false, false_or, q_gdT, Nat.reduceEqDiff, Bool.false_eq_true, Nat.lt_irrefl, Nat.or_zero]
        unfold zlv at c ⊢
        simp (disch := omega) only [c, zzbd_s, zzlt_eq, zzon_n, zzon_s, q0, q1, q2, q3, q4, q5, q6, q7, q8, q9, q10, q11, q12, q20, q48, q49, q57, q59, q99, q100, q999, nI_add, pk_mul, q_lt0, q_lt, q_eq, q_cl, q_gd, if_true, if_false, q_ofNat, q_min, q_max, ite_self, Nat.not_lt_zero, q_e10, q_e01, eq_self, not_true_eq_false, not_false_eq_true, and_true, true_and, and_false, false_and, or_true, true_or, or_false, false_or, q_gdT, Nat.reduceEqDiff, Bool.false_eq_true, Nat.lt_irrefl, Nat.or_zero]
theorem m_lov_i (h : zMT m T) {q : Nat} (hq : q < zn T) : ∀ d n i a, i + d = zn T → d < n → f_X12_lovedBy_4 (nI q) n (nI a) (nI i) m = some (nI (a + zsm (zlf T q) d i), m) := by
  have h7 := h.1.1
  intro d
  induction d with
  | zero =>
    intro n i a hi hn
    obtain ⟨n, rfl⟩ : ∃ n', n = n' + 1 := ⟨n - 1, by omega⟩
    have : i = zn T := by omega
    subst this
    simp (disch := omega) only [f_X12_lovedBy_4, f_X12_lovedBy_4b, h.2.1, zsm_z, Nat.add_zero, zzbd_s, zzlt_eq, zzon_n, zzon_s, q0, q1, q2, q3, q4, q5, q6, q7, q8, q9, q10, q11, q12, q20, q48, q49, q57, q59, q99, q100, q999, nI_add, pk_mul, q_lt0, q_lt, q_eq, q_cl, q_gd, if_true, if_false, q_ofNat, q_min, q_max, ite_self, Nat.not_lt_zero, q_e10, q_e01, eq_self, not_true_eq_false, not_false_eq_true, and_true, true_and, and_false, false_and, or_true, true_or, or_false, false_or, q_gdT, Nat.reduceEqDiff, Bool.false_eq_true, Nat.lt_irrefl, Nat.or_zero]
  | succ d ih =>
    intro n i a hi hn
    obtain ⟨n, rfl⟩ : ∃ n', n = n' + 1 := ⟨n - 1, by omega⟩
    have hi2 : i < zn T := by omega
    have e := ih n (i + 1) (a + zlf T q i) (by omega) (by omega)
    rw [zsm_s, ← Nat.add_assoc, ← e]
    unfold zlf
    by_cases c : i = q
    · subst c
      simp (disch := omega) only [f_X12_lovedBy_4, f_X12_lovedBy_4b, f_X12_lovedBy_33, h.2.1, hi2, zzbd_s, zzlt_eq, zzon_n, zzon_s, q0, q1, q2, q3, q4, q5, q6, q7, q8, q9, q10, q11, q12, q20, q48, q49, q57, q59, q99, q100, q999, nI_add, pk_mul, q_lt0, q_lt, q_eq, q_cl, q_gd, if_true, if_false, q_ofNat, q_min, q_max, ite_self, Nat.not_lt_zero, q_e10, q_e01, eq_self, not_true_eq_false, not_false_eq_true, and_true, true_and, and_false, false_and, or_true, true_or, or_false, false_or, q_gdT, Nat.reduceEqDiff, Bool.false_eq_true, Nat.lt_irrefl, Nat.or_zero]
    · simp (disch := omega) only [f_X12_lovedBy_4, f_X12_lovedBy_4b, f_X12_lovedBy_33, h.2.1, hi2, h.2.2.2.2.2.2, q_len40, c, zzbd_s, zzlt_eq, zzon_n, zzon_s, q0, q1, q2, q3, q4, q5, q6, q7, q8, q9, q10, q11, q12, q20, q48, q49, q57, q59, q99, q100, q999, nI_add, pk_mul, q_lt0, q_lt, q_eq, q_cl, q_gd, if_true, if_false, q_ofNat, q_min, q_max, ite_self, Nat.not_lt_zero, q_e10, q_e01, eq_self, not_true_eq_false, not_false_eq_true, and_true, true_and, and_false, false_and, or_true, true_or, or_false, false_or, q_gdT, Nat.reduceEqDiff, Bool.false_eq_true, Nat.lt_irrefl, Nat.or_zero]
theorem m_lov (h : zMT m T) {q : Nat} (hq : q < zn T) : f_X12_lovedBy (nI q) m = some (nI (zlv T q), m) := by
  have h7 := h.1.1
  have := m_lov_i h hq (zn T) 200 0 0 (by omega) (by omega)
  rw [Nat.zero_add] at this
  exact this
theorem m_lov_o (h : zMT m T) (p0 : Int32) : ∀ d n i s, i + d = zn T → d < n → (∀ w, s = some w → w < zn T) → f_X12_loved_22 p0 n (zwho s) (nI i) m = some (if p0 = nI 0 then zwho (zup (zlg T) d i s) else zmost T (zup (zlg T) d i s), m) := by
  have h7 := h.1.1
  intro d
  induction d with
  | zero =>
    intro n i s hi hn hs
    obtain ⟨n, rfl⟩ : ∃ n', n = n' + 1 := ⟨n - 1, by omega⟩
    have : i = zn T := by omega
    subst this
    cases s with
    | none =>
      have c : (-nI 4 < nI 0) = True := eq_true (by decide)
      simp (disch := omega) only [f_X12_loved_22, f_X12_loved_22b, f_X12_loved_67, h.2.1, zup_z, zwho, zmost, c, zzbd_s, zzlt_eq, zzon_n, zzon_s, q0, q1, q2, q3, q4, q5, q6, q7, q8, q9, q10, q11, q12, q20, q48, q49, q57, q59, q99, q100, q999, nI_add, pk_mul, q_lt0, q_lt, q_eq, q_cl, q_gd, if_true, if_false, q_ofNat, q_min, q_max, ite_self, Nat.not_lt_zero, q_e10, q_e01, eq_self, not_true_eq_false, not_false_eq_true, and_true, true_and, and_false, false_and, or_true, true_or, or_false, false_or, q_gdT, Nat.reduceEqDiff, Bool.false_eq_true, Nat.lt_irrefl, Nat.or_zero]
    | some w =>
      have hw := hs w rfl
      by_cases c : p0 = nI 0
      · simp (disch := omega) only [f_X12_loved_22, f_X12_loved_22b, f_X12_loved_67, h.2.1, zup_z, zwho, zmost, c, zzbd_s, zzlt_eq, zzon_n, zzon_s, q0, q1, q2, q3, q4, q5, q6, q7, q8, q9, q10, q11, q12, q20, q48, q49, q57, q59, q99, q100, q999, nI_add, pk_mul, q_lt0, q_lt, q_eq, q_cl, q_gd, if_true, if_false, q_ofNat, q_min, q_max, ite_self, Nat.not_lt_zero, q_e10, q_e01, eq_self, not_true_eq_false, not_false_eq_true, and_true, true_and, and_false, false_and, or_true, true_or, or_false, false_or, q_gdT, Nat.reduceEqDiff, Bool.false_eq_true, Nat.lt_irrefl, Nat.or_zero]
      · simp (disch := omega) only [f_X12_loved_22, f_X12_loved_22b, f_X12_loved_67, h.2.1, zup_z, zwho, zmost, c, m_lov h hw, zzbd_s, zzlt_eq, zzon_n, zzon_s, q0, q1, q2, q3, q4, q5, q6, q7, q8, q9, q10, q11, q12, q20, q48, q49, q57, q59, q99, q100, q999, nI_add, pk_mul, q_lt0, q_lt, q_eq, q_cl, q_gd, if_true, if_false, q_ofNat, q_min, q_max, ite_self, Nat.not_lt_zero, q_e10, q_e01, eq_self, not_true_eq_false, not_false_eq_true, and_true, true_and, and_false, false_and, or_true, true_or, or_false, false_or, q_gdT, Nat.reduceEqDiff, Bool.false_eq_true, Nat.lt_irrefl, Nat.or_zero]
  | succ d ih =>
    intro n i s hi hn hs
    obtain ⟨n, rfl⟩ : ∃ n', n = n' + 1 := ⟨n - 1, by omega⟩
    have hi2 : i < zn T := by omega
    have e2 := ih n (i + 1) (zlg T i s) (by omega) (by omega) (zlg_lt T _ i hi2 s hs)
    rw [zup_s, ← e2]
    have b := zlv_le h.1 hi2
    cases s with
    | none =>
      have c : (-nI 4 < nI 0) = True := eq_true (by decide)
      simp (disch := omega) only [f_X12_loved_22, f_X12_loved_22b, f_X12_loved_47, f_X12_loved_52, h.2.1, hi2, zwho, zlg, c, zzbd_s, zzlt_eq, zzon_n, zzon_s, q0, q1, q2, q3, q4, q5, q6, q7, q8, q9, q10, q11, q12, q20, q48, q49, q57, q59, q99, q100, q999, nI_add, pk_mul, q_lt0, q_lt, q_eq, q_cl, q_gd, if_true, if_false, q_ofNat, q_min, q_max, ite_self, Nat.not_lt_zero, q_e10, q_e01, eq_self, not_true_eq_false, not_false_eq_true, and_true, true_and, and_false, false_and, or_true, true_or, or_false, false_or, q_gdT, Nat.reduceEqDiff, Bool.false_eq_true, Nat.lt_irrefl, Nat.or_zero]
    | some w =>
      have hw := hs w rfl
      have b2 := zlv_le h.1 hw
      by_cases c : zlv T w < zlv T i
      · simp (disch := omega) only [f_X12_loved_22, f_X12_loved_22b, f_X12_loved_47, f_X12_loved_52, h.2.1, hi2, zwho, zlg, c, m_lov h, zzbd_s, zzlt_eq, zzon_n, zzon_s, q0, q1, q2, q3, q4, q5, q6, q7, q8, q9, q10, q11, q12, q20, q48, q49, q57, q59, q99, q100, q999, nI_add, pk_mul, q_lt0, q_lt, q_eq, q_cl, q_gd, if_true, if_false, q_ofNat, q_min, q_max, ite_self, Nat.not_lt_zero, q_e10, q_e01, eq_self, not_true_eq_false, not_false_eq_true, and_true, true_and, and_false, false_and, or_true, true_or, or_false, false_or, q_gdT, Nat.reduceEqDiff, Bool.false_eq_true, Nat.lt_irrefl, Nat.or_zero]
      · simp (disch := omega) only [f_X12_loved_22, f_X12_loved_22b, f_X12_loved_47, f_X12_loved_52, h.2.1, hi2, zwho, zlg, c, m_lov h, zzbd_s, zzlt_eq, zzon_n, zzon_s, q0, q1, q2, q3, q4, q5, q6, q7, q8, q9, q10, q11, q12, q20, q48, q49, q57, q59, q99, q100, q999, nI_add, pk_mul, q_lt0, q_lt, q_eq, q_cl, q_gd, if_true, if_false, q_ofNat, q_min, q_max, ite_self, Nat.not_lt_zero, q_e10, q_e01, eq_self, not_true_eq_false, not_false_eq_true, and_true, true_and, and_false, false_and, or_true, true_or, or_false, false_or, q_gdT, Nat.reduceEqDiff, Bool.false_eq_true, Nat.lt_irrefl, Nat.or_zero]
theorem s_loved (w : Int32) : zSim (f_X11_loved w) (f_X12_loved w) := by
  refine zSim_rd (fun x m T hx hm hs hi => ?_)
  have h7 := hx.1.1
  have hm1 : zMT (zzsi m 36 13 (nI 0)) T := hm
  rcases q_cls w 2 (by omega) with ⟨i, hi, rfl⟩ | hw
  · have e1 := x_lov_o hx (nI i) (zn T) 200 0 none (by omega) (by omega) (by intro w hw; cases hw)
    have e2 := m_lov_o hm1 (nI i) (zn T) 200 0 none (by omega) (by omega) (by intro w hw; cases hw)
    have a1 : f_X11_loved (nI i) x = f_X11_loved_18 (nI i) 200 (-4) (-4) (nI 0) x := by simp (disch := omega) only [f_X11_loved, x_12 hi, q_e1_0, zzbd_s, zzlt_eq, zzon_n, zzon_s, q0, q1, q2, q3, q4, q5, q6, q7, q8, q9, q10, q11, q12, q20, q48, q49, q57, q59, q99, q100, q999, nI_add, pk_mul, q_lt0, q_lt, q_eq, q_cl, q_gd, if_true, if_false, q_ofNat, q_min, q_max, ite_self, Nat.not_lt_zero, q_e10, q_e01, eq_self, not_true_eq_false, not_false_eq_true, and_true, true_and, and_false, false_and, or_true, true_or, or_false, false_or, q_gdT, Nat.reduceEqDiff, Bool.false_eq_true, Nat.lt_irrefl, Nat.or_zero]
    have a2 : f_X12_loved (nI i) m = f_X12_loved_22 (nI i) 200 (-4) (nI 0) (zzsi m 36 13 (nI 0)) := by simp (disch := omega) only [f_X12_loved, m_in1 hi, q_e1_0, zzbd_s, zzlt_eq, zzon_n, zzon_s, q0, q1, q2, q3, q4, q5, q6, q7, q8, q9, q10, q11, q12, q20, q48, q49, q57, q59, q99, q100, q999, nI_add, pk_mul, q_lt0, q_lt, q_eq, q_cl, q_gd, if_true, if_false, q_ofNat, q_min, q_max, ite_self, Nat.not_lt_zero, q_e10, q_e01, eq_self, not_true_eq_false, not_false_eq_true, and_true, true_and, and_false, false_and, or_true, true_or, or_false, false_or, q_gdT, Nat.reduceEqDiff, Bool.false_eq_true, Nat.lt_irrefl, Nat.or_zero]
    exact ⟨_, a1.trans e1, a2.trans e2⟩
  · exact ⟨-1, by simp (disch := omega) only [f_X11_loved, x_12_bad hw, zzbd_s, zzlt_eq, zzon_n, zzon_s, q0, q1, q2, q3, q4, q5, q6, q7, q8, q9, q10, q11, q12, q20, q48, q49, q57, q59, q99, q100, q999, nI_add, pk_mul, q_lt0, q_lt, q_eq, q_cl, q_gd, if_true, if_false, q_ofNat, q_min, q_max, ite_self, Nat.not_lt_zero, q_e10, q_e01, eq_self, not_true_eq_false, not_false_eq_true, and_true, true_and, and_false, false_and, or_true, true_or, or_false, false_or, q_gdT, Nat.reduceEqDiff, Bool.false_eq_true, Nat.lt_irrefl, Nat.or_zero], by simp (disch := omega) only [f_X12_loved, m_in1_bad hw, zzbd_s, zzlt_eq, zzon_n, zzon_s, q0, q1, q2, q3, q4, q5, q6, q7, q8, q9, q10, q11, q12, q20, q48, q49, q57, q59, q99, q100, q999, nI_add, pk_mul, q_lt0, q_lt, q_eq, q_cl, q_gd, if_true, if_false, q_ofNat, q_min, q_max, ite_self, Nat.not_lt_zero, q_e10, q_e01, eq_self, not_true_eq_false, not_false_eq_true, and_true, true_and, and_false, false_and, or_true, true_or, or_false, false_or, q_gdT, Nat.reduceEqDiff, Bool.false_eq_true, Nat.lt_irrefl, Nat.or_zero]⟩
-- counts
theorem x_allT_l (h : zXT x t T) (ht : zztown t) : ∀ d n i a, i + d = zn T → d < n → f_X10_allTurned_4 t n (nI a) (nI i) x = some (nI (a + zsm (zt T) d i), x) := by
  have h7 := h.1.1
  intro d
  induction d with
  | zero =>
    intro n i a hi hn
    obtain ⟨n, rfl⟩ : ∃ n', n = n' + 1 := ⟨n - 1, by omega⟩
    have : i = zn T := by omega
    subst this
    simp (disch := omega) only [f_X10_allTurned_4, f_X10_allTurned_4b, h.2.1, zsm_z, Nat.add_zero, zzbd_s, zzlt_eq, zzon_n, zzon_s, q0, q1, q2, q3, q4, q5, q6, q7, q8, q9, q10, q11, q12, q20, q48, q49, q57, q59, q99, q100, q999, nI_add, pk_mul, q_lt0, q_lt, q_eq, q_cl, q_gd, if_true, if_false, q_ofNat, q_min, q_max, ite_self, Nat.not_lt_zero, q_e10, q_e01, eq_self, not_true_eq_false, not_false_eq_true, and_true, true_and, and_false, false_and, or_true, true_or, or_false, false_or, q_gdT, Nat.reduceEqDiff, Bool.false_eq_true, Nat.lt_irrefl, Nat.or_zero]
  | succ d ih =>
    intro n i a hi hn
    obtain ⟨n, rfl⟩ : ∃ n', n = n' + 1 := ⟨n - 1, by omega⟩
    have hi2 : i < zn T := by omega
    rw [zsm_s, ← Nat.add_assoc]
    simp (disch := omega) only [f_X10_allTurned_4, f_X10_allTurned_4b, h.2.1, hi2, x_turnedOf h ht, ih, zzbd_s, zzlt_eq, zzon_n, zzon_s, q0, q1, q2, q3, q4, q5, q6, q7, q8, q9, q10, q11, q12, q20, q48, q49, q57, q59, q99, q100, q999, nI_add, pk_mul, q_lt0, q_lt, q_eq, q_cl, q_gd, if_true, if_false, q_ofNat, q_min, q_max, ite_self, Nat.not_lt_zero, q_e10, q_e01, eq_self, not_true_eq_false, not_false_eq_true, and_true, true_and, and_false, false_and, or_true, true_or, or_false, false_or, q_gdT, Nat.reduceEqDiff, Bool.false_eq_true, Nat.lt_irrefl, Nat.or_zero]
theorem x_allT (h : zXT x t T) (ht : zztown t) : f_X10_allTurned t x = some (nI (zsm (zt T) (zn T) 0), x) := by
  have h7 := h.1.1
  have := x_allT_l h ht (zn T) 200 0 0 (by omega) (by omega)
  rw [Nat.zero_add] at this
  exact this
theorem m_allT_l (h : zMT m T) : ∀ d n i a, i + d = zn T → d < n → f_X12_allTurned_4 n (nI a) (nI i) m = some (nI (a + zsm (zt T) d i), m) := by
  have h7 := h.1.1
  intro d
  induction d with
  | zero =>
    intro n i a hi hn
    obtain ⟨n, rfl⟩ : ∃ n', n = n' + 1 := ⟨n - 1, by omega⟩
    have : i = zn T := by omega
    subst this
    simp (disch := omega) only [f_X12_allTurned_4, f_X12_allTurned_4b, h.2.1, zsm_z, Nat.add_zero, zzbd_s, zzlt_eq, zzon_n, zzon_s, q0, q1, q2, q3, q4, q5, q6, q7, q8, q9, q10, q11, q12, q20, q48, q49, q57, q59, q99, q100, q999, nI_add, pk_mul, q_lt0, q_lt, q_eq, q_cl, q_gd, if_true, if_false, q_ofNat, q_min, q_max, ite_self, Nat.not_lt_zero, q_e10, q_e01, eq_self, not_true_eq_false, not_false_eq_true, and_true, true_and, and_false, false_and, or_true, true_or, or_false, false_or, q_gdT, Nat.reduceEqDiff, Bool.false_eq_true, Nat.lt_irrefl, Nat.or_zero]
  | succ d ih =>
    intro n i a hi hn
    obtain ⟨n, rfl⟩ : ∃ n', n = n' + 1 := ⟨n - 1, by omega⟩
    have hi2 : i < zn T := by omega
    rw [zsm_s, ← Nat.add_assoc]
    simp (disch := omega) only [f_X12_allTurned_4, f_X12_allTurned_4b, h.2.1, hi2, h.2.2.2.2.2.1, q_len39, ih, zzbd_s, zzlt_eq, zzon_n, zzon_s, q0, q1, q2, q3, q4, q5, q6, q7, q8, q9, q10, q11, q12, q20, q48, q49, q57, q59, q99, q100, q999, nI_add, pk_mul, q_lt0, q_lt, q_eq, q_cl, q_gd, if_true, if_false, q_ofNat, q_min, q_max, ite_self, Nat.not_lt_zero, q_e10, q_e01, eq_self, not_true_eq_false, not_false_eq_true, and_true, true_and, and_false, false_and, or_true, true_or, or_false, false_or, q_gdT, Nat.reduceEqDiff, Bool.false_eq_true, Nat.lt_irrefl, Nat.or_zero]
theorem m_allT (h : zMT m T) : f_X12_allTurned m = some (nI (zsm (zt T) (zn T) 0), m) := by
  have h7 := h.1.1
  have := m_allT_l h (zn T) 200 0 0 (by omega) (by omega)
  rw [Nat.zero_add] at this
  exact this
theorem x_allF_i (h : zXT x t T) (ht : zztown t) (k4 : Int32 → Int32 → zzS → Option (Int32 × zzS)) {p : Nat} (hp : p < zn T) : ∀ d n i a, i + d = zn T → d < n → f_X10_allFond_14 k4 t n (nI a) (nI p) (nI i) x = k4 (nI (a + zsm (fun q => zlf T q p) d i)) (nI (p + 1)) x := by
  have h7 := h.1.1
  intro d
  induction d with
  | zero =>
    intro n i a hi hn
    obtain ⟨n, rfl⟩ : ∃ n', n = n' + 1 := ⟨n - 1, by omega⟩
    have : i = zn T := by omega
    subst this
    simp (disch := omega) only [f_X10_allFond_14, f_X10_allFond_14b, h.2.1, zsm_z, Nat.add_zero, zzbd_s, zzlt_eq, zzon_n, zzon_s, q0, q1, q2, q3, q4, q5, q6, q7, q8, q9, q10, q11, q12, q20, q48, q49, q57, q59, q99, q100, q999, nI_add, pk_mul, q_lt0, q_lt, q_eq, q_cl, q_gd, if_true, if_false, q_ofNat, q_min, q_max, ite_self, Nat.not_lt_zero, q_e10, q_e01, eq_self, not_true_eq_false, not_false_eq_true, and_true, true_and, and_false, false_and, or_true, true_or, or_false, false_or, q_gdT, Nat.reduceEqDiff, Bool.false_eq_true, Nat.lt_irrefl, Nat.or_zero]
  | succ d ih =>
    intro n i a hi hn
    obtain ⟨n, rfl⟩ : ∃ n', n = n' + 1 := ⟨n - 1, by omega⟩
    have hi2 : i < zn T := by omega
    have e := ih n (i + 1) (a + zlf T i p) (by omega) (by omega)
    rw [zsm_s, ← Nat.add_assoc, ← e]
    unfold zlf
    by_cases c : p = i
    · subst c
      simp (disch := omega) only [f_X10_allFond_14, f_X10_allFond_14b, h.2.1, hi2, x_fondOf h ht hp hi2, zzbd_s, zzlt_eq, zzon_n, zzon_s, q0, q1, q2, q3, q4, q5, q6, q7, q8, q9, q10, q11, q12, q20, q48, q49, q57, q59, q99, q100, q999, nI_add, pk_mul, q_lt0, q_lt, q_eq, q_cl, q_gd, if_true, if_false, q_ofNat, q_min, q_max, ite_self, Nat.not_lt_zero, q_e10, q_e01, eq_self, not_true_eq_false, not_false_eq_true, and_true, true_and, and_false, false_and, or_true, true_or, or_false, false_or, q_gdT, Nat.reduceEqDiff, Bool.false_eq_true, Nat.lt_irrefl, Nat.or_zero]
    · simp (disch := omega) only [f_X10_allFond_14, f_X10_allFond_14b, h.2.1, hi2, x_fondOf h ht hp hi2, c, zzbd_s, zzlt_eq, zzon_n, zzon_s, q0, q1, q2, q3, q4, q5, q6, q7, q8, q9, q10, q11, q12, q20, q48, q49, q57, q59, q99, q100, q999, nI_add, pk_mul, q_lt0, q_lt, q_eq, q_cl, q_gd, if_true, if_false, q_ofNat, q_min, q_max, ite_self, Nat.not_lt_zero, q_e10, q_e01, eq_self, not_true_eq_false, not_false_eq_true, and_true, true_and, and_false, false_and, or_true, true_or, or_false, false_or, q_gdT, Nat.reduceEqDiff, Bool.false_eq_true, Nat.lt_irrefl, Nat.or_zero]
theorem x_allF_o (h : zXT x t T) (ht : zztown t) : ∀ d n i a, i + d = zn T → d < n → f_X10_allFond_4 t n (nI a) (nI i) x = some (nI (a + zsm (fun p => zsm (fun q => zlf T q p) (zn T) 0) d i), x) := by
  have h7 := h.1.1
  intro d
  induction d with
  | zero =>
    intro n i a hi hn
    obtain ⟨n, rfl⟩ : ∃ n', n = n' + 1 := ⟨n - 1, by omega⟩
    have : i = zn T := by omega
    subst this
    simp (disch := omega) only [f_X10_allFond_4, f_X10_allFond_4b, h.2.1, zsm_z, Nat.add_zero, zzbd_s, zzlt_eq, zzon_n, zzon_s, q0, q1, q2, q3, q4, q5, q6, q7, q8, q9, q10, q11, q12, q20, q48, q49, q57, q59, q99, q100, q999, nI_add, pk_mul, q_lt0, q_lt, q_eq, q_cl, q_gd, if_true, if_false, q_ofNat, q_min, q_max, ite_self, Nat.not_lt_zero, q_e10, q_e01, eq_self, not_true_eq_false, not_false_eq_true, and_true, true_and, and_false, false_and, or_true, true_or, or_false, false_or, q_gdT, Nat.reduceEqDiff, Bool.false_eq_true, Nat.lt_irrefl, Nat.or_zero]
  | succ d ih =>
    intro n i a hi hn
    obtain ⟨n, rfl⟩ : ∃ n', n = n' + 1 := ⟨n - 1, by omega⟩
    have hi2 : i < zn T := by omega
    have e := x_allF_i h ht (f_X10_allFond_4 t n) hi2 (zn T) 200 0 a (by omega) (by omega)
    rw [zsm_s, ← Nat.add_assoc, ← ih n (i + 1) _ (by omega) (by omega), ← e]
    simp (disch := omega) only [f_X10_allFond_4, f_X10_allFond_4b, h.2.1, hi2, zzbd_s, zzlt_eq, zzon_n, zzon_s, q0, q1, q2, q3, q4, q5, q6, q7, q8, q9, q10, q11, q12, q20, q48, q49, q57, q59, q99, q100, q999, nI_add, pk_mul, q_lt0, q_lt, q_eq, q_cl, q_gd, if_true, if_false, q_ofNat, q_min, q_max, ite_self, Nat.not_lt_zero, q_e10, q_e01, eq_self, not_true_eq_false, not_false_eq_true, and_true, true_and, and_false, false_and, or_true, true_or, or_false, false_or, q_gdT, Nat.reduceEqDiff, Bool.false_eq_true, Nat.lt_irrefl, Nat.or_zero]
theorem m_allF_l (h : zMT m T) (p0 : Int32) : ∀ d n i a, i + d = zn T → d < n → f_X12_count_70 p0 n (nI a) (nI i) m = some (nI (a + zsm (zlv T) d i), m) := by
  have h7 := h.1.1
  intro d
  induction d with
  | zero =>
    intro n i a hi hn
    obtain ⟨n, rfl⟩ : ∃ n', n = n' + 1 := ⟨n - 1, by omega⟩
    have : i = zn T := by omega
    subst this
    simp (disch := omega) only [f_X12_count_70, f_X12_count_70b, h.2.1, zsm_z, Nat.add_zero, zzbd_s, zzlt_eq, zzon_n, zzon_s, q0, q1, q2, q3, q4, q5, q6, q7, q8, q9, q10, q11, q12, q20, q48, q49, q57, q59, q99, q100, q999, nI_add, pk_mul, q_lt0, q_lt, q_eq, q_cl, q_gd, if_true, if_false, q_ofNat, q_min, q_max, ite_self, Nat.not_lt_zero, q_e10, q_e01, eq_self, not_true_eq_false, not_false_eq_true, and_true, true_and, and_false, false_and, or_true, true_or, or_false, false_or, q_gdT, Nat.reduceEqDiff, Bool.false_eq_true, Nat.lt_irrefl, Nat.or_zero]
  | succ d ih =>
    intro n i a hi hn
    obtain ⟨n, rfl⟩ : ∃ n', n = n' + 1 := ⟨n - 1, by omega⟩
    have hi2 : i < zn T := by omega
    rw [zsm_s, ← Nat.add_assoc]
    simp (disch := omega) only [f_X12_count_70, f_X12_count_70b, h.2.1, hi2, m_lov h, ih, zzbd_s, zzlt_eq, zzon_n, zzon_s, q0, q1, q2, q3, q4, q5, q6, q7, q8, q9, q10, q11, q12, q20, q48, q49, q57, q59, q99, q100, q999, nI_add, pk_mul, q_lt0, q_lt, q_eq, q_cl, q_gd, if_true, if_false, q_ofNat, q_min, q_max, ite_self, Nat.not_lt_zero, q_e10, q_e01, eq_self, not_true_eq_false, not_false_eq_true, and_true, true_and, and_false, false_and, or_true, true_or, or_false, false_or, q_gdT, Nat.reduceEqDiff, Bool.false_eq_true, Nat.lt_irrefl, Nat.or_zero]
def zwg9 (T : zT) (q a : Nat) : Nat := if zt T q < 9 then a else a ||| 2 ^ q
theorem x_whole_l (h : zXT x t T) (ht : zztown t) : ∀ d n i a, i + d = zn T → d < n → f_X10_toldWhole_4 t n (nI a) (nI i) x = some (nI (zup (zwg9 T) d i a), x) := by
  have h7 := h.1.1
  intro d
  induction d with
  | zero =>
    intro n i a hi hn
    obtain ⟨n, rfl⟩ : ∃ n', n = n' + 1 := ⟨n - 1, by omega⟩
    have : i = zn T := by omega
    subst this
    simp (disch := omega) only [f_X10_toldWhole_4, f_X10_toldWhole_4b, h.2.1, zup_z, zzbd_s, zzlt_eq, zzon_n, zzon_s, q0, q1, q2, q3, q4, q5, q6, q7, q8, q9, q10, q11, q12, q20, q48, q49, q57, q59, q99, q100, q999, nI_add, pk_mul, q_lt0, q_lt, q_eq, q_cl, q_gd, if_true, if_false, q_ofNat, q_min, q_max, ite_self, Nat.not_lt_zero, q_e10, q_e01, eq_self, not_true_eq_false, not_false_eq_true, and_true, true_and, and_false, false_and, or_true, true_or, or_false, false_or, q_gdT, Nat.reduceEqDiff, Bool.false_eq_true, Nat.lt_irrefl, Nat.or_zero]
  | succ d ih =>
    intro n i a hi hn
    obtain ⟨n, rfl⟩ : ∃ n', n = n' + 1 := ⟨n - 1, by omega⟩
    have hi2 : i < zn T := by omega
    have ho := h.1.2.2.2.2.1 i (by omega)
    by_cases c : zt T i < 9
    · simp (disch := omega) only [f_X10_toldWhole_4, f_X10_toldWhole_4b, f_X10_toldWhole_28, h.2.1, hi2, x_turnedOf h ht, c, zup_s, zwg9, ih, zzbd_s, zzlt_eq, zzon_n, zzon_s, q0, q1, q2, q3, q4, q5, q6, q7, q8, q9, q10, q11, q12, q20, q48, q49, q57, q59, q99, q100, q999, nI_add, pk_mul, q_lt0, q_lt, q_eq, q_cl, q_gd, if_true, if_false, q_ofNat, q_min, q_max, ite_self, Nat.not_lt_zero, q_e10, q_e01, eq_self, not_true_eq_false, not_false_eq_true, and_true, true_and, and_false, false_and, or_true, true_or, or_false, false_or, q_gdT, Nat.reduceEqDiff, Bool.false_eq_true, Nat.lt_irrefl, Nat.or_zero]
    · simp (disch := omega) only [f_X10_toldWhole_4, f_X10_toldWhole_4b, f_X10_toldWhole_28, h.2.1, hi2, x_turnedOf h ht, c, zup_s, zwg9, q_shl', q_or, ih, zzbd_s, zzlt_eq, zzon_n, zzon_s, q0, q1, q2, q3, q4, q5, q6, q7, q8, q9, q10, q11, q12, q20, q48, q49, q57, q59, q99, q100, q999, nI_add, pk_mul, q_lt0, q_lt, q_eq, q_cl, q_gd, if_true, if_false, q_ofNat, q_min, q_max, ite_self, Nat.not_lt_zero, q_e10, q_e01, eq_self, not_true_eq_false, not_false_eq_true, and_true, true_and, and_false, false_and, or_true, true_or, or_false, false_or, q_gdT, Nat.reduceEqDiff, Bool.false_eq_true, Nat.lt_irrefl, Nat.or_zero]
theorem m_whole_l (h : zMT m T) (p0 : Int32) : ∀ d n i a, i + d = zn T → d < n → f_X12_count_96 p0 n (nI a) (nI i) m = some (nI (zup (zwg9 T) d i a), m) := by
  have h7 := h.1.1
  intro d
  induction d with
  | zero =>
    intro n i a hi hn
    obtain ⟨n, rfl⟩ : ∃ n', n = n' + 1 := ⟨n - 1, by omega⟩
    have : i = zn T := by omega
    subst this
    simp (disch := omega) only [f_X12_count_96, f_X12_count_96b, h.2.1, zup_z, zzbd_s, zzlt_eq, zzon_n, zzon_s, q0, q1, q2, q3, q4, q5, q6, q7, q8, q9, q10, q11, q12, q20, q48, q49, q57, q59, q99, q100, q999, nI_add, pk_mul, q_lt0, q_lt, q_eq, q_cl, q_gd, if_true, if_false, q_ofNat, q_min, q_max, ite_self, Nat.not_lt_zero, q_e10, q_e01, eq_self, not_true_eq_false, not_false_eq_true, and_true, true_and, and_false, false_and, or_true, true_or, or_false, false_or, q_gdT, Nat.reduceEqDiff, Bool.false_eq_true, Nat.lt_irrefl, Nat.or_zero]
  | succ d ih =>
    intro n i a hi hn
    obtain ⟨n, rfl⟩ : ∃ n', n = n' + 1 := ⟨n - 1, by omega⟩
    have hi2 : i < zn T := by omega
    have ho := h.1.2.2.2.2.1 i (by omega)
    by_cases c : zt T i < 9
    · have c2 : ¬ zt T i = 9 := by omega
      simp (disch := omega) only [f_X12_count_96, f_X12_count_96b, f_X12_count_123, h.2.1, hi2, h.2.2.2.2.2.1, q_len39, c, c2, zup_s, zwg9, q_or, ih, zzbd_s, zzlt_eq, zzon_n, zzon_s, q0, q1, q2, q3, q4, q5, q6, q7, q8, q9, q10, q11, q12, q20, q48, q49, q57, q59, q99, q100, q999, nI_add, pk_mul, q_lt0, q_lt, q_eq, q_cl, q_gd, if_true, if_false, q_ofNat, q_min, q_max, ite_self, Nat.not_lt_zero, q_e10, q_e01, eq_self, not_true_eq_false, not_false_eq_true, and_true, true_and, and_false, false_and, or_true, true_or, or_false, false_or, q_gdT, Nat.reduceEqDiff, Bool.false_eq_true, Nat.lt_irrefl, Nat.or_zero]
    · have c2 : zt T i = 9 := by omega
      simp (disch := omega) only [f_X12_count_96, f_X12_count_96b, f_X12_count_123, h.2.1, hi2, h.2.2.2.2.2.1, q_len39, c2, zup_s, zwg9, q_shl', q_or, ih, zzbd_s, zzlt_eq, zzon_n, zzon_s, q0, q1, q2, q3, q4, q5, q6, q7, q8, q9, q10, q11, q12, q20, q48, q49, q57, q59, q99, q100, q999, nI_add, pk_mul, q_lt0, q_lt, q_eq, q_cl, q_gd, if_true, if_false, q_ofNat, q_min, q_max, ite_self, Nat.not_lt_zero, q_e10, q_e01, eq_self, not_true_eq_false, not_false_eq_true, and_true, true_and, and_false, false_and, or_true, true_or, or_false, false_or, q_gdT, Nat.reduceEqDiff, Bool.false_eq_true, Nat.lt_irrefl, Nat.or_zero]
theorem s_count (w : Int32) : zSim (f_X11_count w) (f_X12_count w) := by
  refine zSim_rd (fun x m T hx hm hs hi => ?_)
  have h7 := hx.1.1
  have hm1 : zMT (zzsi m 36 13 (nI 0)) T := hm
  have ht : zztown 20 := Or.inl rfl
  by_cases c0 : w = nI 0
  · subst c0
    exact ⟨nI (zn T), by simp (disch := omega) only [f_X11_count, hx.2.1, zzbd_s, zzlt_eq, zzon_n, zzon_s, q0, q1, q2, q3, q4, q5, q6, q7, q8, q9, q10, q11, q12, q20, q48, q49, q57, q59, q99, q100, q999, nI_add, pk_mul, q_lt0, q_lt, q_eq, q_cl, q_gd, if_true, if_false, q_ofNat, q_min, q_max, ite_self, Nat.not_lt_zero, q_e10, q_e01, eq_self, not_true_eq_false, not_false_eq_true, and_true, true_and, and_false, false_and, or_true, true_or, or_false, false_or, q_gdT, Nat.reduceEqDiff, Bool.false_eq_true, Nat.lt_irrefl, Nat.or_zero], by simp (disch := omega) only [f_X12_count, hm1.2.1, zzbd_s, zzlt_eq, zzon_n, zzon_s, q0, q1, q2, q3, q4, q5, q6, q7, q8, q9, q10, q11, q12, q20, q48, q49, q57, q59, q99, q100, q999, nI_add, pk_mul, q_lt0, q_lt, q_eq, q_cl, q_gd, if_true, if_false, q_ofNat, q_min, q_max, ite_self, Nat.not_lt_zero, q_e10, q_e01, eq_self, not_true_eq_false, not_false_eq_true, and_true, true_and, and_false, false_and, or_true, true_or, or_false, false_or, q_gdT, Nat.reduceEqDiff, Bool.false_eq_true, Nat.lt_irrefl, Nat.or_zero]⟩
  by_cases c1 : w = nI 1
  · subst c1
    exact ⟨nI (zd T), by simp (disch := omega) only [f_X11_count, hx.2.2.2.1, zzbd_s, zzlt_eq, zzon_n, zzon_s, q0, q1, q2, q3, q4, q5, q6, q7, q8, q9, q10, q11, q12, q20, q48, q49, q57, q59, q99, q100, q999, nI_add, pk_mul, q_lt0, q_lt, q_eq, q_cl, q_gd, if_true, if_false, q_ofNat, q_min, q_max, ite_self, Nat.not_lt_zero, q_e10, q_e01, eq_self, not_true_eq_false, not_false_eq_true, and_true, true_and, and_false, false_and, or_true, true_or, or_false, false_or, q_gdT, Nat.reduceEqDiff, Bool.false_eq_true, Nat.lt_irrefl, Nat.or_zero], by simp (disch := omega) only [f_X12_count, hm1.2.2.2.1, zzbd_s, zzlt_eq, zzon_n, zzon_s, q0, q1, q2, q3, q4, q5, q6, q7, q8, q9, q10, q11, q12, q20, q48, q49, q57, q59, q99, q100, q999, nI_add, pk_mul, q_lt0, q_lt, q_eq, q_cl, q_gd, if_true, if_false, q_ofNat, q_min, q_max, ite_self, Nat.not_lt_zero, q_e10, q_e01, eq_self, not_true_eq_false, not_false_eq_true, and_true, true_and, and_false, false_and, or_true, true_or, or_false, false_or, q_gdT, Nat.reduceEqDiff, Bool.false_eq_true, Nat.lt_irrefl, Nat.or_zero]⟩
  by_cases c2 : w = nI 2
  · subst c2
    exact ⟨nI (zl T), by simp (disch := omega) only [f_X11_count, hx.2.2.1, zzbd_s, zzlt_eq, zzon_n, zzon_s, q0, q1, q2, q3, q4, q5, q6, q7, q8, q9, q10, q11, q12, q20, q48, q49, q57, q59, q99, q100, q999, nI_add, pk_mul, q_lt0, q_lt, q_eq, q_cl, q_gd, if_true, if_false, q_ofNat, q_min, q_max, ite_self, Nat.not_lt_zero, q_e10, q_e01, eq_self, not_true_eq_false, not_false_eq_true, and_true, true_and, and_false, false_and, or_true, true_or, or_false, false_or, q_gdT, Nat.reduceEqDiff, Bool.false_eq_true, Nat.lt_irrefl, Nat.or_zero], by simp (disch := omega) only [f_X12_count, hm1.2.2.1, zzbd_s, zzlt_eq, zzon_n, zzon_s, q0, q1, q2, q3, q4, q5, q6, q7, q8, q9, q10, q11, q12, q20, q48, q49, q57, q59, q99, q100, q999, nI_add, pk_mul, q_lt0, q_lt, q_eq, q_cl, q_gd, if_true, if_false, q_ofNat, q_min, q_max, ite_self, Nat.not_lt_zero, q_e10, q_e01, eq_self, not_true_eq_false, not_false_eq_true, and_true, true_and, and_false, false_and, or_true, true_or, or_false, false_or, q_gdT, Nat.reduceEqDiff, Bool.false_eq_true, Nat.lt_irrefl, Nat.or_zero]⟩
  by_cases c3 : w = nI 3
  · subst c3
    exact ⟨nI (zsm (zt T) (zn T) 0), by simp (disch := omega) only [f_X11_count, x_allT hx ht, zzbd_s, zzlt_eq, zzon_n, zzon_s, q0, q1, q2, q3, q4, q5, q6, q7, q8, q9, q10, q11, q12, q20, q48, q49, q57, q59, q99, q100, q999, nI_add, pk_mul, q_lt0, q_lt, q_eq, q_cl, q_gd, if_true, if_false, q_ofNat, q_min, q_max, ite_self, Nat.not_lt_zero, q_e10, q_e01, eq_self, not_true_eq_false, not_false_eq_true, and_true, true_and, and_false, false_and, or_true, true_or, or_false, false_or, q_gdT, Nat.reduceEqDiff, Bool.false_eq_true, Nat.lt_irrefl, Nat.or_zero], by simp (disch := omega) only [f_X12_count, m_allT hm1, zzbd_s, zzlt_eq, zzon_n, zzon_s, q0, q1, q2, q3, q4, q5, q6, q7, q8, q9, q10, q11, q12, q20, q48, q49, q57, q59, q99, q100, q999, nI_add, pk_mul, q_lt0, q_lt, q_eq, q_cl, q_gd, if_true, if_false, q_ofNat, q_min, q_max, ite_self, Nat.not_lt_zero, q_e10, q_e01, eq_self, not_true_eq_false, not_false_eq_true, and_true, true_and, and_false, false_and, or_true, true_or, or_false, false_or, q_gdT, Nat.reduceEqDiff, Bool.false_eq_true, Nat.lt_irrefl, Nat.or_zero]⟩
  by_cases c4 : w = nI 4
  · subst c4
    have e1 := x_allF_o hx ht (zn T) 200 0 0 (by omega) (by omega)
    have e2 := m_allF_l hm1 (nI 4) (zn T) 200 0 0 (by omega) (by omega)
    rw [zsm_swap (fun p q => zlf T q p)] at e1
    exact ⟨_, by simp (disch := omega) only [f_X11_count, f_X10_allFond, zzbd_s, zzlt_eq, zzon_n, zzon_s, q0, q1, q2, q3, q4, q5, q6, q7, q8, q9, q10, q11, q12, q20, q48, q49, q57, q59, q99, q100, q999, nI_add, pk_mul, q_lt0, q_lt, q_eq, q_cl, q_gd, if_true, if_false, q_ofNat, q_min, q_max, ite_self, Nat.not_lt_zero, q_e10, q_e01, eq_self, not_true_eq_false, not_false_eq_true, and_true, true_and, and_false, false_and, or_true, true_or, or_false, false_or, q_gdT, Nat.reduceEqDiff, Bool.false_eq_true, Nat.lt_irrefl, Nat.or_zero]; rw [e1]; rfl, by simp (disch := omega) only [f_X12_count, zzbd_s, zzlt_eq, zzon_n, zzon_s, q0, q1, q2, q3, q4, q5, q6, q7, q8, q9, q10, q11, q12, q20, q48, q49, q57, q59, q99, q100, q999, nI_add, pk_mul, q_lt0, q_lt, q_eq, q_cl, q_gd, if_true, if_false, q_ofNat, q_min, q_max, ite_self, Nat.not_lt_zero, q_e10, q_e01, eq_self, not_true_eq_false, not_false_eq_true, and_true, true_and, and_false, false_and, or_true, true_or, or_false, false_or, q_gdT, Nat.reduceEqDiff, Bool.false_eq_true, Nat.lt_irrefl, Nat.or_zero]; exact e2⟩
  by_cases c5 : w = nI 5
  · subst c5
    have e1 := x_whole_l hx ht (zn T) 200 0 0 (by omega) (by omega)
    have e2 := m_whole_l hm1 (nI 5) (zn T) 200 0 0 (by omega) (by omega)
    exact ⟨_, by simp (disch := omega) only [f_X11_count, f_X10_toldWhole, zzbd_s, zzlt_eq, zzon_n, zzon_s, q0, q1, q2, q3, q4, q5, q6, q7, q8, q9, q10, q11, q12, q20, q48, q49, q57, q59, q99, q100, q999, nI_add, pk_mul, q_lt0, q_lt, q_eq, q_cl, q_gd, if_true, if_false, q_ofNat, q_min, q_max, ite_self, Nat.not_lt_zero, q_e10, q_e01, eq_self, not_true_eq_false, not_false_eq_true, and_true, true_and, and_false, false_and, or_true, true_or, or_false, false_or, q_gdT, Nat.reduceEqDiff, Bool.false_eq_true, Nat.lt_irrefl, Nat.or_zero]; rw [e1]; rfl, by simp (disch := omega) only [f_X12_count, zzbd_s, zzlt_eq, zzon_n, zzon_s, q0, q1, q2, q3, q4, q5, q6, q7, q8, q9, q10, q11, q12, q20, q48, q49, q57, q59, q99, q100, q999, nI_add, pk_mul, q_lt0, q_lt, q_eq, q_cl, q_gd, if_true, if_false, q_ofNat, q_min, q_max, ite_self, Nat.not_lt_zero, q_e10, q_e01, eq_self, not_true_eq_false, not_false_eq_true, and_true, true_and, and_false, false_and, or_true, true_or, or_false, false_or, q_gdT, Nat.reduceEqDiff, Bool.false_eq_true, Nat.lt_irrefl, Nat.or_zero]; exact e2⟩
  exact ⟨-1, by simp (disch := omega) only [f_X11_count, c0, c1, c2, c3, c4, c5, zzbd_s, zzlt_eq, zzon_n, zzon_s, q0, q1, q2, q3, q4, q5, q6, q7, q8, q9, q10, q11, q12, q20, q48, q49, q57, q59, q99, q100, q999, nI_add, pk_mul, q_lt0, q_lt, q_eq, q_cl, q_gd, if_true, if_false, q_ofNat, q_min, q_max, ite_self, Nat.not_lt_zero, q_e10, q_e01, eq_self, not_true_eq_false, not_false_eq_true, and_true, true_and, and_false, false_and, or_true, true_or, or_false, false_or, q_gdT, Nat.reduceEqDiff, Bool.false_eq_true, Nat.lt_irrefl, Nat.or_zero], by simp (disch := omega) only [f_X12_count, c0, c1, c2, c3, c4, c5, zzbd_s, zzlt_eq, zzon_n, zzon_s, q0, q1, q2, q3, q4, q5, q6, q7, q8, q9, q10, q11, q12, q20, q48, q49, q57, q59, q99, q100, q999, nI_add, pk_mul, q_lt0, q_lt, q_eq, q_cl, q_gd, if_true, if_false, q_ofNat, q_min, q_max, ite_self, Nat.not_lt_zero, q_e10, q_e01, eq_self, not_true_eq_false, not_false_eq_true, and_true, true_and, and_false, false_and, or_true, true_or, or_false, false_or, q_gdT, Nat.reduceEqDiff, Bool.false_eq_true, Nat.lt_irrefl, Nat.or_zero]⟩
-- orders
def zog (j : Nat) (a : Int64) : Int64 := a * (nI j).toInt64
theorem x_ord_l (p0 : Int32) {c : Nat} (hc : c < 100) : ∀ d n i a, i + d = c + 1 → d < n → f_X11_orders_32 p0 n (nI c) a (nI i) x = some (zup zog d i a, x) := by
  intro d
  induction d with
  | zero =>
    intro n i a hi hn
    obtain ⟨n, rfl⟩ : ∃ n', n = n' + 1 := ⟨n - 1, by omega⟩
    have h1 : c < i := by omega
    simp (disch := omega) only [f_X11_orders_32, f_X11_orders_32b, h1, zup_z, zzbd_s, zzlt_eq, zzon_n, zzon_s, q0, q1, q2, q3, q4, q5, q6, q7, q8, q9, q10, q11, q12, q20, q48, q49, q57, q59, q99, q100, q999, nI_add, pk_mul, q_lt0, q_lt, q_eq, q_cl, q_gd, if_true, if_false, q_ofNat, q_min, q_max, ite_self, Nat.not_lt_zero, q_e10, q_e01, eq_self, not_true_eq_false, not_false_eq_true, and_true, true_and, and_false, false_and, or_true, true_or, or_false, false_or, q_gdT, Nat.reduceEqDiff, Bool.false_eq_true, Nat.lt_irrefl, Nat.or_zero]
  | succ d ih =>
    intro n i a hi hn
    obtain ⟨n, rfl⟩ : ∃ n', n = n' + 1 := ⟨n - 1, by omega⟩
    have h1 : ¬ c < i := by omega
    simp (disch := omega) only [f_X11_orders_32, f_X11_orders_32b, h1, zup_s, zog, ih, zzbd_s, zzlt_eq, zzon_n, zzon_s, q0, q1, q2, q3, q4, q5, q6, q7, q8, q9, q10, q11, q12, q20, q48, q49, q57, q59, q99, q100, q999, nI_add, pk_mul, q_lt0, q_lt, q_eq, q_cl, q_gd, if_true, if_false, q_ofNat, q_min, q_max, ite_self, Nat.not_lt_zero, q_e10, q_e01, eq_self, not_true_eq_false, not_false_eq_true, and_true, true_and, and_false, false_and, or_true, true_or, or_false, false_or, q_gdT, Nat.reduceEqDiff, Bool.false_eq_true, Nat.lt_irrefl, Nat.or_zero]
theorem m_ord_l (h : zMT m T) {q : Nat} (hq : q < zn T) : ∀ d n i a, i + d = 9 - zt T q + 1 → d < n → f_X12_orders_22 (nI q) n a (nI i) m = some (zup zog d i a, m) := by
  have h7 := h.1.1
  have ho := h.1.2.2.2.2.1 q (by omega)
  intro d
  induction d with
  | zero =>
    intro n i a hi hn
    obtain ⟨n, rfl⟩ : ∃ n', n = n' + 1 := ⟨n - 1, by omega⟩
    have h1 : 9 - zt T q < i := by omega
    simp (disch := omega) only [f_X12_orders_22, f_X12_orders_22b, h.2.2.2.2.2.1, q_len39, q_sub, h1, zup_z, zzbd_s, zzlt_eq, zzon_n, zzon_s, q0, q1, q2, q3, q4, q5, q6, q7, q8, q9, q10, q11, q12, q20, q48, q49, q57, q59, q99, q100, q999, nI_add, pk_mul, q_lt0, q_lt, q_eq, q_cl, q_gd, if_true, if_false, q_ofNat, q_min, q_max, ite_self, Nat.not_lt_zero, q_e10, q_e01, eq_self, not_true_eq_false, not_false_eq_true, and_true, true_and, and_false, false_and, or_true, true_or, or_false, false_or, q_gdT, Nat.reduceEqDiff, Bool.false_eq_true, Nat.lt_irrefl, Nat.or_zero]
  | succ d ih =>
    intro n i a hi hn
    obtain ⟨n, rfl⟩ : ∃ n', n = n' + 1 := ⟨n - 1, by omega⟩
    have h1 : ¬ 9 - zt T q < i := by omega
    simp (disch := omega) only [f_X12_orders_22, f_X12_orders_22b, h.2.2.2.2.2.1, q_len39, q_sub, h1, zup_s, zog, ih, zzbd_s, zzlt_eq, zzon_n, zzon_s, q0, q1, q2, q3, q4, q5, q6, q7, q8, q9, q10, q11, q12, q20, q48, q49, q57, q59, q99, q100, q999, nI_add, pk_mul, q_lt0, q_lt, q_eq, q_cl, q_gd, if_true, if_false, q_ofNat, q_min, q_max, ite_self, Nat.not_lt_zero, q_e10, q_e01, eq_self, not_true_eq_false, not_false_eq_true, and_true, true_and, and_false, false_and, or_true, true_or, or_false, false_or, q_gdT, Nat.reduceEqDiff, Bool.false_eq_true, Nat.lt_irrefl, Nat.or_zero]
theorem m_ord0 (h : zMT m T) {q : Nat} (hq : q < zn T) (hc : 9 - zt T q < 1) (n : Nat) (a : Int64) : f_X12_orders_22 (nI q) (n + 1) a (nI 2) m = some (a, m) := by
  have h7 := h.1.1
  have ho := h.1.2.2.2.2.1 q (by omega)
  have h1 : 9 - zt T q < 2 := by omega
  simp (disch := omega) only [f_X12_orders_22, f_X12_orders_22b, h.2.2.2.2.2.1, q_len39, q_sub, h1, zzbd_s, zzlt_eq, zzon_n, zzon_s, q0, q1, q2, q3, q4, q5, q6, q7, q8, q9, q10, q11, q12, q20, q48, q49, q57, q59, q99, q100, q999, nI_add, pk_mul, q_lt0, q_lt, q_eq, q_cl, q_gd, if_true, if_false, q_ofNat, q_min, q_max, ite_self, Nat.not_lt_zero, q_e10, q_e01, eq_self, not_true_eq_false, not_false_eq_true, and_true, true_and, and_false, false_and, or_true, true_or, or_false, false_or, q_gdT, Nat.reduceEqDiff, Bool.false_eq_true, Nat.lt_irrefl, Nat.or_zero]
theorem x_ord0 (p0 : Int32) {c : Nat} (hc : c < 1) (n : Nat) (a : Int64) : f_X11_orders_32 p0 (n + 1) (nI c) a (nI 2) x = some (a, x) := by
  have h1 : c < 2 := by omega
  simp (disch := omega) only [f_X11_orders_32, f_X11_orders_32b, h1, zzbd_s, zzlt_eq, zzon_n, zzon_s, q0, q1, q2, q3, q4, q5, q6, q7, q8, q9, q10, q11, q12, q20, q48, q49, q57, q59, q99, q100, q999, nI_add, pk_mul, q_lt0, q_lt, q_eq, q_cl, q_gd, if_true, if_false, q_ofNat, q_min, q_max, ite_self, Nat.not_lt_zero, q_e10, q_e01, eq_self, not_true_eq_false, not_false_eq_true, and_true, true_and, and_false, false_and, or_true, true_or, or_false, false_or, q_gdT, Nat.reduceEqDiff, Bool.false_eq_true, Nat.lt_irrefl, Nat.or_zero]
theorem s_orders (q : Int32) : zSim (f_X11_orders q) (f_X12_orders q) := by
  refine zSim_rd (fun x m T hx hm hs hi => ?_)
  have h7 := hx.1.1
  have hm1 : zMT (zzsi m 36 13 (nI 0)) T := hm
  have ht : zztown 20 := Or.inl rfl
  rcases q_cls q (zn T) (by omega) with ⟨i, hi, rfl⟩ | hq
  · have ho := hx.1.2.2.2.2.1 i (by omega)
    by_cases c : 9 - zt T i < 1
    · exact ⟨1, by simp (disch := omega) only [f_X11_orders, x_has1 hx hi, x_turnedOf hx ht hi, q_sub, x_ord0 _ c 199, q_e1_0, zzbd_s, zzlt_eq, zzon_n, zzon_s, q0, q1, q2, q3, q4, q5, q6, q7, q8, q9, q10, q11, q12, q20, q48, q49, q57, q59, q99, q100, q999, nI_add, pk_mul, q_lt0, q_lt, q_eq, q_cl, q_gd, if_true, if_false, q_ofNat, q_min, q_max, ite_self, Nat.not_lt_zero, q_e10, q_e01, eq_self, not_true_eq_false, not_false_eq_true, and_true, true_and, and_false, false_and, or_true, true_or, or_false, false_or, q_gdT, Nat.reduceEqDiff, Bool.false_eq_true, Nat.lt_irrefl, Nat.or_zero], by simp (disch := omega) only [f_X12_orders, m_one hm1 hi, m_ord0 hm1 hi c 199, q_e1_0, zzbd_s, zzlt_eq, zzon_n, zzon_s, q0, q1, q2, q3, q4, q5, q6, q7, q8, q9, q10, q11, q12, q20, q48, q49, q57, q59, q99, q100, q999, nI_add, pk_mul, q_lt0, q_lt, q_eq, q_cl, q_gd, if_true, if_false, q_ofNat, q_min, q_max, ite_self, Nat.not_lt_zero, q_e10, q_e01, eq_self, not_true_eq_false, not_false_eq_true, and_true, true_and, and_false, false_and, or_true, true_or, or_false, false_or, q_gdT, Nat.reduceEqDiff, Bool.false_eq_true, Nat.lt_irrefl, Nat.or_zero]⟩
    · exact ⟨zup zog (9 - zt T i - 1) 2 1, by simp (disch := omega) only [f_X11_orders, x_has1 hx hi, x_turnedOf hx ht hi, q_sub, x_ord_l _ (show 9 - zt T i < 100 by omega) (9 - zt T i - 1) 200 2, q_e1_0, zzbd_s, zzlt_eq, zzon_n, zzon_s, q0, q1, q2, q3, q4, q5, q6, q7, q8, q9, q10, q11, q12, q20, q48, q49, q57, q59, q99, q100, q999, nI_add, pk_mul, q_lt0, q_lt, q_eq, q_cl, q_gd, if_true, if_false, q_ofNat, q_min, q_max, ite_self, Nat.not_lt_zero, q_e10, q_e01, eq_self, not_true_eq_false, not_false_eq_true, and_true, true_and, and_false, false_and, or_true, true_or, or_false, false_or, q_gdT, Nat.reduceEqDiff, Bool.false_eq_true, Nat.lt_irrefl, Nat.or_zero], by simp (disch := omega) only [f_X12_orders, m_one hm1 hi, m_ord_l hm1 hi (9 - zt T i - 1) 200 2, q_e1_0, zzbd_s, zzlt_eq, zzon_n, zzon_s, q0, q1, q2, q3, q4, q5, q6, q7, q8, q9, q10, q11, q12, q20, q48, q49, q57, q59, q99, q100, q999, nI_add, pk_mul, q_lt0, q_lt, q_eq, q_cl, q_gd, if_true, if_false, q_ofNat, q_min, q_max, ite_self, Nat.not_lt_zero, q_e10, q_e01, eq_self, not_true_eq_false, not_false_eq_true, and_true, true_and, and_false, false_and, or_true, true_or, or_false, false_or, q_gdT, Nat.reduceEqDiff, Bool.false_eq_true, Nat.lt_irrefl, Nat.or_zero]⟩
  · exact ⟨1000000001, by simp (disch := omega) only [f_X11_orders, x_has_bad hx hq, zzbd_s, zzlt_eq, zzon_n, zzon_s, q0, q1, q2, q3, q4, q5, q6, q7, q8, q9, q10, q11, q12, q20, q48, q49, q57, q59, q99, q100, q999, nI_add, pk_mul, q_lt0, q_lt, q_eq, q_cl, q_gd, if_true, if_false, q_ofNat, q_min, q_max, ite_self, Nat.not_lt_zero, q_e10, q_e01, eq_self, not_true_eq_false, not_false_eq_true, and_true, true_and, and_false, false_and, or_true, true_or, or_false, false_or, q_gdT, Nat.reduceEqDiff, Bool.false_eq_true, Nat.lt_irrefl, Nat.or_zero], by simp (disch := omega) only [f_X12_orders, m_one_bad hm1 hq, zzbd_s, zzlt_eq, zzon_n, zzon_s, q0, q1, q2, q3, q4, q5, q6, q7, q8, q9, q10, q11, q12, q20, q48, q49, q57, q59, q99, q100, q999, nI_add, pk_mul, q_lt0, q_lt, q_eq, q_cl, q_gd, if_true, if_false, q_ofNat, q_min, q_max, ite_self, Nat.not_lt_zero, q_e10, q_e01, eq_self, not_true_eq_false, not_false_eq_true, and_true, true_and, and_false, false_and, or_true, true_or, or_false, false_or, q_gdT, Nat.reduceEqDiff, Bool.false_eq_true, Nat.lt_irrefl, Nat.or_zero]⟩
end
