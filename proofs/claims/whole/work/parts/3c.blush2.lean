/-! ===== blushes and forged, the calls ===== -/
theorem zlb_fn (T : zT) (el : Nat → Int32) (lv : Int32) (q up l : Nat) : zlb T el lv q up l = true ↔ zfn (zok T el lv q l) up 0 = none := by
  unfold zlb
  rw [zall_iff, zfn_none]
theorem zbg_lt10 (b : Nat → Bool) : zup (zbg b) 10 0 0 < 1024 := by
  have h := zbg_lt b 10 10 0 0 (by decide) (by decide)
  have e : 2 ^ 10 = 1024 := by decide
  rw [e] at h
  exact h
section
variable {x m : zzS} {t : Nat} {T : zT}
theorem x_bl_l (h : zXT x 20 T) (p1 p2 : Int32) {q e s sz : Nat} (hqq : q < zn T) (he : e < 8) (hs : s < 3) (hz : sz ≤ zn T) (h1 : zzi x (4 + 2 * e) 1 = nI s) (h2 : zzi x (4 + 2 * e) 2 = nI sz) : ∀ d n i c f, i + d = 10 → d < n → c + d < 100 → f_X11_blushes_66 (nI q) p1 p2 n (4 + 2 * e) (nI c) f (nI i) x = some (if p2 = nI 0 then nI (c + zcnt (zlb T (fun j => zza x (5 + 2 * e) j) (zlvl s) q sz) d i) else if c = 0 then zfst (zlb T (fun j => zza x (5 + 2 * e) j) (zlvl s) q sz) nI d i f else f, x) := by
  have h7 := h.1.1
  intro d
  induction d with
  | zero =>
    intro n i c f hi hn hc
    obtain ⟨n, rfl⟩ : ∃ n', n = n' + 1 := ⟨n - 1, by omega⟩
    have : i = 10 := by omega
    subst this
    by_cases c1 : p2 = nI 0
    · simp (disch := omega) only [f_X11_blushes_66, f_X11_blushes_66b, zcnt_z, zfst_z, Nat.add_zero, c1, zzbd_s, zzlt_eq, zzon_n, zzon_s, q0, q1, q2, q3, q4, q5, q6, q7, q8, q9, q10, q11, q12, q20, q48, q49, q57, q59, q99, q100, q999, nI_add, pk_mul, q_lt0, q_lt, q_eq, q_cl, q_gd, if_true, if_false, q_ofNat, q_min, q_max, ite_self, Nat.not_lt_zero, q_e10, q_e01, eq_self, not_true_eq_false, not_false_eq_true, and_true, true_and, and_false, false_and, or_true, true_or, or_false, false_or, q_gdT, Nat.reduceEqDiff, Bool.false_eq_true, Nat.lt_irrefl, Nat.or_zero]
    · simp (disch := omega) only [f_X11_blushes_66, f_X11_blushes_66b, zcnt_z, zfst_z, Nat.add_zero, c1, zzbd_s, zzlt_eq, zzon_n, zzon_s, q0, q1, q2, q3, q4, q5, q6, q7, q8, q9, q10, q11, q12, q20, q48, q49, q57, q59, q99, q100, q999, nI_add, pk_mul, q_lt0, q_lt, q_eq, q_cl, q_gd, if_true, if_false, q_ofNat, q_min, q_max, ite_self, Nat.not_lt_zero, q_e10, q_e01, eq_self, not_true_eq_false, not_false_eq_true, and_true, true_and, and_false, false_and, or_true, true_or, or_false, false_or, q_gdT, Nat.reduceEqDiff, Bool.false_eq_true, Nat.lt_irrefl, Nat.or_zero]
  | succ d ih =>
    intro n i c f hi hn hc
    obtain ⟨n, rfl⟩ : ∃ n', n = n' + 1 := ⟨n - 1, by omega⟩
    have hi2 : i < 10 := by omega
    have g : f_X11_firstNotAtLevel (nI q) (4 + 2 * e) (nI i) x = some (zfnI (zfn (zok T (fun j => zza x (5 + 2 * e) j) (zlvl s) q i) sz 0), x) := x_fn_l h (by omega) hqq he hs hz h1 h2 sz 200 0 (by omega) (by omega)
    rw [zcnt_s, zfst_s]
    cases o : zfn (zok T (fun j => zza x (5 + 2 * e) j) (zlvl s) q i) sz 0 with
    | none =>
      have b := (zlb_fn T (fun j => zza x (5 + 2 * e) j) (zlvl s) q sz i).mpr o
      rw [o] at g
      by_cases c0 : c = 0
      · subst c0
        rw [if_pos b, if_pos b]
        simp (disch := omega) only [f_X11_blushes_66, f_X11_blushes_66b, f_X11_blushes_99, f_X11_blushes_104, hi2, g, zfnI, ih, Nat.zero_add, q_e10, zzbd_s, zzlt_eq, zzon_n, zzon_s, q0, q1, q2, q3, q4, q5, q6, q7, q8, q9, q10, q11, q12, q20, q48, q49, q57, q59, q99, q100, q999, nI_add, pk_mul, q_lt0, q_lt, q_eq, q_cl, q_gd, if_true, if_false, q_ofNat, q_min, q_max, ite_self, Nat.not_lt_zero, q_e10, q_e01, eq_self, not_true_eq_false, not_false_eq_true, and_true, true_and, and_false, false_and, or_true, true_or, or_false, false_or, q_gdT, Nat.reduceEqDiff, Bool.false_eq_true, Nat.lt_irrefl, Nat.or_zero]
      · have c1 : ¬ c + 1 = 0 := by omega
        have c2 : c + 1 + zcnt (zlb T (fun j => zza x (5 + 2 * e) j) (zlvl s) q sz) d (i + 1) = c + (1 + zcnt (zlb T (fun j => zza x (5 + 2 * e) j) (zlvl s) q sz) d (i + 1)) := by omega
        rw [if_pos b, if_pos b]
        simp (disch := omega) only [f_X11_blushes_66, f_X11_blushes_66b, f_X11_blushes_99, f_X11_blushes_104, hi2, g, zfnI, ih, c0, c1, c2, zzbd_s, zzlt_eq, zzon_n, zzon_s, q0, q1, q2, q3, q4, q5, q6, q7, q8, q9, q10, q11, q12, q20, q48, q49, q57, q59, q99, q100, q999, nI_add, pk_mul, q_lt0, q_lt, q_eq, q_cl, q_gd, if_true, if_false, q_ofNat, q_min, q_max, ite_self, Nat.not_lt_zero, q_e10, q_e01, eq_self, not_true_eq_false, not_false_eq_true, and_true, true_and, and_false, false_and, or_true, true_or, or_false, false_or, q_gdT, Nat.reduceEqDiff, Bool.false_eq_true, Nat.lt_irrefl, Nat.or_zero]
    | some p =>
      have b : ¬ zlb T (fun j => zza x (5 + 2 * e) j) (zlvl s) q sz i = true := fun z => by
        rw [(zlb_fn T (fun j => zza x (5 + 2 * e) j) (zlvl s) q sz i).mp z] at o; cases o
      rw [o] at g
      have hp := zfn_some _ _ _ _ o
      have n4 : ¬ nI p = -nI 4 := q_m4ne (by omega)
      rw [if_neg b, if_neg b, Nat.zero_add]
      simp (disch := omega) only [f_X11_blushes_66, f_X11_blushes_66b, f_X11_blushes_104, hi2, g, zfnI, n4, ih, zzbd_s, zzlt_eq, zzon_n, zzon_s, q0, q1, q2, q3, q4, q5, q6, q7, q8, q9, q10, q11, q12, q20, q48, q49, q57, q59, q99, q100, q999, nI_add, pk_mul, q_lt0, q_lt, q_eq, q_cl, q_gd, if_true, if_false, q_ofNat, q_min, q_max, ite_self, Nat.not_lt_zero, q_e10, q_e01, eq_self, not_true_eq_false, not_false_eq_true, and_true, true_and, and_false, false_and, or_true, true_or, or_false, false_or, q_gdT, Nat.reduceEqDiff, Bool.false_eq_true, Nat.lt_irrefl, Nat.or_zero]
theorem m_bl_l (u v w : Int32) {a : Nat} (ha : a < 1024) : ∀ e n f, e ≤ 10 → e < n → f_X12_blushes_57 u v w n (nI a) f (nI e - nI 1) m = some (if w = nI 0 then nI (zpop a) else zfst (fun i => a.testBit i) nI e 0 f, m) := by
  intro e
  induction e with
  | zero =>
    intro n f hi hn
    obtain ⟨n, rfl⟩ : ∃ n', n = n' + 1 := ⟨n - 1, by omega⟩
    have z : (nI 0 - nI 1 < nI 0) = True := eq_true (by decide)
    by_cases c1 : w = nI 0
    · simp (disch := omega) only [f_X12_blushes_57, f_X12_blushes_57b, z, zfst_z, m_on, c1, zzbd_s, zzlt_eq, zzon_n, zzon_s, q0, q1, q2, q3, q4, q5, q6, q7, q8, q9, q10, q11, q12, q20, q48, q49, q57, q59, q99, q100, q999, nI_add, pk_mul, q_lt0, q_lt, q_eq, q_cl, q_gd, if_true, if_false, q_ofNat, q_min, q_max, ite_self, Nat.not_lt_zero, q_e10, q_e01, eq_self, not_true_eq_false, not_false_eq_true, and_true, true_and, and_false, false_and, or_true, true_or, or_false, false_or, q_gdT, Nat.reduceEqDiff, Bool.false_eq_true, Nat.lt_irrefl, Nat.or_zero]
    · simp (disch := omega) only [f_X12_blushes_57, f_X12_blushes_57b, z, zfst_z, c1, zzbd_s, zzlt_eq, zzon_n, zzon_s, q0, q1, q2, q3, q4, q5, q6, q7, q8, q9, q10, q11, q12, q20, q48, q49, q57, q59, q99, q100, q999, nI_add, pk_mul, q_lt0, q_lt, q_eq, q_cl, q_gd, if_true, if_false, q_ofNat, q_min, q_max, ite_self, Nat.not_lt_zero, q_e10, q_e01, eq_self, not_true_eq_false, not_false_eq_true, and_true, true_and, and_false, false_and, or_true, true_or, or_false, false_or, q_gdT, Nat.reduceEqDiff, Bool.false_eq_true, Nat.lt_irrefl, Nat.or_zero]
  | succ e ih =>
    intro n f hi hn
    obtain ⟨n, rfl⟩ : ∃ n', n = n' + 1 := ⟨n - 1, by omega⟩
    have hq : nI (e + 1) - nI 1 = nI e := by rw [q_sub (by omega)]; rfl
    rw [hq, zfst_last, ← ih n _ (by omega) (by omega), Nat.zero_add]
    cases b : a.testBit e with
    | false => simp (disch := omega) only [f_X12_blushes_57, f_X12_blushes_57b, f_X12_blushes_79, m_hb _ ha (show e < 10 by omega), b, zbn_f, q_dn, zzbd_s, zzlt_eq, zzon_n, zzon_s, q0, q1, q2, q3, q4, q5, q6, q7, q8, q9, q10, q11, q12, q20, q48, q49, q57, q59, q99, q100, q999, nI_add, pk_mul, q_lt0, q_lt, q_eq, q_cl, q_gd, if_true, if_false, q_ofNat, q_min, q_max, ite_self, Nat.not_lt_zero, q_e10, q_e01, eq_self, not_true_eq_false, not_false_eq_true, and_true, true_and, and_false, false_and, or_true, true_or, or_false, false_or, q_gdT, Nat.reduceEqDiff, Bool.false_eq_true, Nat.lt_irrefl, Nat.or_zero]
    | true => simp (disch := omega) only [f_X12_blushes_57, f_X12_blushes_57b, f_X12_blushes_79, m_hb _ ha (show e < 10 by omega), b, zbn_t, q_dn, q_e1_0, zzbd_s, zzlt_eq, zzon_n, zzon_s, q0, q1, q2, q3, q4, q5, q6, q7, q8, q9, q10, q11, q12, q20, q48, q49, q57, q59, q99, q100, q999, nI_add, pk_mul, q_lt0, q_lt, q_eq, q_cl, q_gd, if_true, if_false, q_ofNat, q_min, q_max, ite_self, Nat.not_lt_zero, q_e10, q_e01, eq_self, not_true_eq_false, not_false_eq_true, and_true, true_and, and_false, false_and, or_true, true_or, or_false, false_or, q_gdT, Nat.reduceEqDiff, Bool.false_eq_true, Nat.lt_irrefl, Nat.or_zero]
theorem m_wb_ok (h : zMT m T) {q e sz : Nat} (hq : q < zn T) (he : e < 8) (a7 : f_X12_wrongRow (nI e) m = some (nI 0, m)) (h2 : zza m 45 e = nI sz) (hz : sz ≤ 100) : f_X12_wrongBlushes (nI q) (nI e) m = some (if zn T < sz then -nI 13 else nI 0, m) := by
  have h7 := h.1.1
  by_cases c : zn T < sz
  · simp (disch := omega) only [f_X12_wrongBlushes, f_X12_wrongBlushes_17, m_one h hq, a7, h2, h.2.1, q_len45, c, q_e1_0, q13, zzbd_s, zzlt_eq, zzon_n, zzon_s, q0, q1, q2, q3, q4, q5, q6, q7, q8, q9, q10, q11, q12, q20, q48, q49, q57, q59, q99, q100, q999, nI_add, pk_mul, q_lt0, q_lt, q_eq, q_cl, q_gd, if_true, if_false, q_ofNat, q_min, q_max, ite_self, Nat.not_lt_zero, q_e10, q_e01, eq_self, not_true_eq_false, not_false_eq_true, and_true, true_and, and_false, false_and, or_true, true_or, or_false, false_or, q_gdT, Nat.reduceEqDiff, Bool.false_eq_true, Nat.lt_irrefl, Nat.or_zero]
  · simp (disch := omega) only [f_X12_wrongBlushes, f_X12_wrongBlushes_17, m_one h hq, a7, h2, h.2.1, q_len45, c, q_e1_0, zzbd_s, zzlt_eq, zzon_n, zzon_s, q0, q1, q2, q3, q4, q5, q6, q7, q8, q9, q10, q11, q12, q20, q48, q49, q57, q59, q99, q100, q999, nI_add, pk_mul, q_lt0, q_lt, q_eq, q_cl, q_gd, if_true, if_false, q_ofNat, q_min, q_max, ite_self, Nat.not_lt_zero, q_e10, q_e01, eq_self, not_true_eq_false, not_false_eq_true, and_true, true_and, and_false, false_and, or_true, true_or, or_false, false_or, q_gdT, Nat.reduceEqDiff, Bool.false_eq_true, Nat.lt_irrefl, Nat.or_zero]
theorem m_wb_row (h : zMT m T) {q : Nat} {d r : Int32} (hq : q < zn T) (hr : r < 0) (a7 : f_X12_wrongRow d m = some (r, m)) : f_X12_wrongBlushes (nI q) d m = some (r, m) := by
  have h7 := h.1.1
  have c : ¬ r = nI 0 := by intro z; subst z; exact absurd hr (by decide)
  simp (disch := omega) only [f_X12_wrongBlushes, f_X12_wrongBlushes_17, m_one h hq, a7, c, q_e1_0, zzbd_s, zzlt_eq, zzon_n, zzon_s, q0, q1, q2, q3, q4, q5, q6, q7, q8, q9, q10, q11, q12, q20, q48, q49, q57, q59, q99, q100, q999, nI_add, pk_mul, q_lt0, q_lt, q_eq, q_cl, q_gd, if_true, if_false, q_ofNat, q_min, q_max, ite_self, Nat.not_lt_zero, q_e10, q_e01, eq_self, not_true_eq_false, not_false_eq_true, and_true, true_and, and_false, false_and, or_true, true_or, or_false, false_or, q_gdT, Nat.reduceEqDiff, Bool.false_eq_true, Nat.lt_irrefl, Nat.or_zero]
theorem m_wb_bad (h : zMT m T) {q d : Int32} (hq : zbad (zn T) q) : f_X12_wrongBlushes q d m = some (-nI 1, m) := by
  have h7 := h.1.1
  have c : (-nI 1 = nI 0) = False := eq_false (by decide)
  simp (disch := omega) only [f_X12_wrongBlushes, f_X12_wrongBlushes_17, m_one_bad h hq, c, zzbd_s, zzlt_eq, zzon_n, zzon_s, q0, q1, q2, q3, q4, q5, q6, q7, q8, q9, q10, q11, q12, q20, q48, q49, q57, q59, q99, q100, q999, nI_add, pk_mul, q_lt0, q_lt, q_eq, q_cl, q_gd, if_true, if_false, q_ofNat, q_min, q_max, ite_self, Nat.not_lt_zero, q_e10, q_e01, eq_self, not_true_eq_false, not_false_eq_true, and_true, true_and, and_false, false_and, or_true, true_or, or_false, false_or, q_gdT, Nat.reduceEqDiff, Bool.false_eq_true, Nat.lt_irrefl, Nat.or_zero]
-- forged
def zfor (F : Nat → Option Nat) : Nat → Nat → Nat → Int32
  | 0, _, a => nI a
  | d + 1, l, a => match F l with
    | none => -4
    | some p => zfor F d (l + 1) (max a p)
theorem zfor_z (F : Nat → Option Nat) (l a : Nat) : zfor F 0 l a = nI a := rfl
theorem zfor_n (F : Nat → Option Nat) (d l a : Nat) (h : F l = none) : zfor F (d + 1) l a = -4 := by
  unfold zfor; rw [h]
theorem zfor_p (F : Nat → Option Nat) (d l a p : Nat) (h : F l = some p) : zfor F (d + 1) l a = zfor F d (l + 1) (max a p) := by
  rw [zfor, h]
def zrf (B : Nat → Nat) : Nat → Nat → Int32
  | 0, _ => -4
  | d + 1, i => if B (i + 1) = 0 then nI i else zrf B d (i + 1)
theorem zrf_z (B : Nat → Nat) (i : Nat) : zrf B 0 i = -4 := rfl
theorem zrf_s (B : Nat → Nat) (d i : Nat) : zrf B (d + 1) i = if B (i + 1) = 0 then nI i else zrf B d (i + 1) := rfl
theorem zfor_some (F : Nat → Option Nat) (sz : Nat) : ∀ d l a, (∃ j, l ≤ j ∧ j < l + d ∧ F j = none) → zfor F d l a = -4
  | 0, l, a, ⟨j, h1, h2, _⟩ => by omega
  | d + 1, l, a, ⟨j, h1, h2, h3⟩ => by
    cases o : F l with
    | none => exact zfor_n F d l a o
    | some p =>
      rw [zfor_p F d l a p o]
      refine zfor_some F sz d (l + 1) _ ⟨j, ?_, by omega, h3⟩
      have : ¬ j = l := by intro e; subst e; rw [o] at h3; cases h3
      omega
theorem zfor_all (F : Nat → Option Nat) : ∀ d l a, (∀ j, l ≤ j → j < l + d → ∃ p, F j = some p) → ∃ M, zfor F d l a = nI M ∧ a ≤ M ∧ (∀ j p, l ≤ j → j < l + d → F j = some p → p ≤ M) ∧ (M = a ∨ ∃ j, l ≤ j ∧ j < l + d ∧ F j = some M)
  | 0, l, a, _ => ⟨a, rfl, Nat.le_refl _, fun j p h1 h2 => by omega, Or.inl rfl⟩
  | d + 1, l, a, h => by
    obtain ⟨p, hp⟩ := h l (by omega) (by omega)
    obtain ⟨M, e, h1, h2, h3⟩ := zfor_all F d (l + 1) (max a p) (fun j h1 h2 => h j (by omega) (by omega))
    refine ⟨M, (zfor_p F d l a p hp).trans e, by omega, ?_, ?_⟩
    · intro j r h4 h5 h6
      by_cases c : j = l
      · subst c; rw [hp] at h6; cases h6; omega
      · exact h2 j r (by omega) (by omega) h6
    · rcases h3 with h3 | ⟨j, h4, h5, h6⟩
      · by_cases c : a < p
        · exact Or.inr ⟨l, by omega, by omega, by rw [hp, h3, Nat.max_eq_right (by omega)]⟩
        · exact Or.inl (by omega)
      · exact Or.inr ⟨j, by omega, by omega, h6⟩
theorem zrf_none (B : Nat → Nat) : ∀ d i, (∀ j, i ≤ j → j < i + d → ¬ B (j + 1) = 0) → zrf B d i = -4
  | 0, _, _ => rfl
  | d + 1, i, h => by
    rw [zrf_s, if_neg (h i (by omega) (by omega))]
    exact zrf_none B d (i + 1) (fun j h1 h2 => h j (by omega) (by omega))
theorem zrf_at (B : Nat → Nat) (M : Nat) (hM : B (M + 1) = 0) : ∀ d i, i ≤ M → M < i + d → (∀ j, i ≤ j → j < M → ¬ B (j + 1) = 0) → zrf B d i = nI M
  | 0, i, h1, h2, _ => by omega
  | d + 1, i, h1, h2, h3 => by
    rw [zrf_s]
    by_cases c : i = M
    · subst c; rw [if_pos hM]
    · rw [if_neg (h3 i (by omega) (by omega))]
      exact zrf_at B M hM d (i + 1) (by omega) (by omega) (fun j h4 h5 => h3 j (by omega) h5)
theorem zbits0 (T : zT) (el : Nat → Int32) (lv : Int32) (q k : Nat) : zup (zbg (zlb T el lv q k)) 10 0 0 = 0 ↔ ∀ l, l < 10 → ¬ zlb T el lv q k l = true := by
  have hb : ∀ j, j < 10 → (zup (zbg (zlb T el lv q k)) 10 0 0).testBit j = zlb T el lv q k j := by
    intro j h2
    rw [zbg_bit, Nat.zero_testBit, Bool.false_or, decide_eq_true (show 0 ≤ j ∧ j < 0 + 10 by omega), Bool.true_and]
  constructor
  · intro h l hl z
    rw [← hb l hl, h, Nat.zero_testBit] at z
    cases z
  · intro h
    apply Nat.eq_of_testBit_eq
    intro j
    rw [Nat.zero_testBit]
    by_cases c : j < 10
    · rw [hb j c]
      cases z : zlb T el lv q k j with
      | false => rfl
      | true => exact absurd z (h j c)
    · rw [zbg_bit, Nat.zero_testBit, Bool.false_or, decide_eq_false (show ¬ (0 ≤ j ∧ j < 0 + 10) by omega), Bool.false_and]
theorem zforged (T : zT) (el : Nat → Int32) (lv : Int32) (q sz : Nat) : zfor (fun l => zfn (zok T el lv q l) sz 0) 10 0 0 = zrf (fun k => zup (zbg (zlb T el lv q k)) 10 0 0) sz 0 := by
  by_cases c : ∃ j, 0 ≤ j ∧ j < 0 + 10 ∧ zfn (zok T el lv q j) sz 0 = none
  · rw [zfor_some _ sz 10 0 0 c]
    obtain ⟨l, -, h2, h3⟩ := c
    symm
    apply zrf_none
    intro j h4 h5 h6
    have h7 := (zfn_none _ _ _).mp h3
    refine (zbits0 T el lv q (j + 1)).mp h6 l (by omega) ?_
    unfold zlb
    rw [zall_iff]
    intro i h8 h9
    exact h7 i (by omega) (by omega)
  · have h : ∀ j, 0 ≤ j → j < 0 + 10 → ∃ p, zfn (zok T el lv q j) sz 0 = some p := by
      intro j h1 h2
      cases o : zfn (zok T el lv q j) sz 0 with
      | none => exact absurd ⟨j, h1, h2, o⟩ c
      | some p => exact ⟨p, rfl⟩
    obtain ⟨M, e, h1, h2, h3⟩ := zfor_all (fun l => zfn (zok T el lv q l) sz 0) 10 0 0 h
    rw [e]
    have h3' : ∃ j, j < 10 ∧ zfn (zok T el lv q j) sz 0 = some M := by
      rcases h3 with h3 | ⟨j, h4, h5, h6⟩
      · obtain ⟨p, hp⟩ := h 0 (by omega) (by omega)
        have := h2 0 p (by omega) (by omega) hp
        exact ⟨0, by omega, by rw [hp, show p = M by omega]⟩
      · exact ⟨j, by omega, h6⟩
    obtain ⟨j0, hj0, hj1⟩ := h3'
    have s0 := zfn_some _ _ _ _ hj1
    symm
    refine zrf_at _ M ?_ sz 0 (by omega) (by omega) ?_
    · apply (zbits0 T el lv q (M + 1)).mpr
      intro l hl z
      obtain ⟨p, hp⟩ := h l (by omega) (by omega)
      have hpm := h2 l p (by omega) (by omega) hp
      have s1 := zfn_some _ _ _ _ hp
      unfold zlb at z
      rw [zall_iff] at z
      exact s1.2.2.1 (z p (by omega) (by omega))
    · intro j h4 h5 h6
      refine (zbits0 T el lv q (j + 1)).mp h6 j0 hj0 ?_
      unfold zlb
      rw [zall_iff]
      intro i h8 h9
      exact s0.2.2.2 i (by omega) (by omega)
theorem x_for_l (h : zXT x 20 T) (p1 : Int32) {q e s sz : Nat} (hqq : q < zn T) (he : e < 8) (hs : s < 3) (hz : sz ≤ zn T) (h1 : zzi x (4 + 2 * e) 1 = nI s) (h2 : zzi x (4 + 2 * e) 2 = nI sz) : ∀ d n i a, i + d = 10 → d < n → a < 100 → f_X11_forged_52 (nI q) p1 n (4 + 2 * e) (nI a) (nI i) x = some (zfor (fun l => zfn (zok T (fun j => zza x (5 + 2 * e) j) (zlvl s) q l) sz 0) d i a, x) := by
  have h7 := h.1.1
  intro d
  induction d with
  | zero =>
    intro n i a hi hn ha
    obtain ⟨n, rfl⟩ : ∃ n', n = n' + 1 := ⟨n - 1, by omega⟩
    have : i = 10 := by omega
    subst this
    simp (disch := omega) only [f_X11_forged_52, f_X11_forged_52b, zfor_z, zzbd_s, zzlt_eq, zzon_n, zzon_s, q0, q1, q2, q3, q4, q5, q6, q7, q8, q9, q10, q11, q12, q20, q48, q49, q57, q59, q99, q100, q999, nI_add, pk_mul, q_lt0, q_lt, q_eq, q_cl, q_gd, if_true, if_false, q_ofNat, q_min, q_max, ite_self, Nat.not_lt_zero, q_e10, q_e01, eq_self, not_true_eq_false, not_false_eq_true, and_true, true_and, and_false, false_and, or_true, true_or, or_false, false_or, q_gdT, Nat.reduceEqDiff, Bool.false_eq_true, Nat.lt_irrefl, Nat.or_zero]
  | succ d ih =>
    intro n i a hi hn ha
    obtain ⟨n, rfl⟩ : ∃ n', n = n' + 1 := ⟨n - 1, by omega⟩
    have hi2 : i < 10 := by omega
    have g : f_X11_firstNotAtLevel (nI q) (4 + 2 * e) (nI i) x = some (zfnI (zfn (zok T (fun j => zza x (5 + 2 * e) j) (zlvl s) q i) sz 0), x) := x_fn_l h (by omega) hqq he hs hz h1 h2 sz 200 0 (by omega) (by omega)
    cases o : zfn (zok T (fun j => zza x (5 + 2 * e) j) (zlvl s) q i) sz 0 with
    | none =>
      rw [o] at g
      rw [zfor_n (fun l => zfn (zok T (fun j => zza x (5 + 2 * e) j) (zlvl s) q l) sz 0) d i a o]
      simp (disch := omega) only [f_X11_forged_52, f_X11_forged_52b, hi2, g, zfnI, zzbd_s, zzlt_eq, zzon_n, zzon_s, q0, q1, q2, q3, q4, q5, q6, q7, q8, q9, q10, q11, q12, q20, q48, q49, q57, q59, q99, q100, q999, nI_add, pk_mul, q_lt0, q_lt, q_eq, q_cl, q_gd, if_true, if_false, q_ofNat, q_min, q_max, ite_self, Nat.not_lt_zero, q_e10, q_e01, eq_self, not_true_eq_false, not_false_eq_true, and_true, true_and, and_false, false_and, or_true, true_or, or_false, false_or, q_gdT, Nat.reduceEqDiff, Bool.false_eq_true, Nat.lt_irrefl, Nat.or_zero]
    | some p =>
      rw [o] at g
      have hp := zfn_some _ _ _ _ o
      have n4 : ¬ nI p = -nI 4 := q_m4ne (by omega)
      rw [zfor_p (fun l => zfn (zok T (fun j => zza x (5 + 2 * e) j) (zlvl s) q l) sz 0) d i a p o, ← ih n (i + 1) _ (by omega) (by omega) (by omega)]
      simp (disch := omega) only [f_X11_forged_52, f_X11_forged_52b, hi2, g, zfnI, n4, zzbd_s, zzlt_eq, zzon_n, zzon_s, q0, q1, q2, q3, q4, q5, q6, q7, q8, q9, q10, q11, q12, q20, q48, q49, q57, q59, q99, q100, q999, nI_add, pk_mul, q_lt0, q_lt, q_eq, q_cl, q_gd, if_true, if_false, q_ofNat, q_min, q_max, ite_self, Nat.not_lt_zero, q_e10, q_e01, eq_self, not_true_eq_false, not_false_eq_true, and_true, true_and, and_false, false_and, or_true, true_or, or_false, false_or, q_gdT, Nat.reduceEqDiff, Bool.false_eq_true, Nat.lt_irrefl, Nat.or_zero]
theorem m_for_l (h : zMT m T) {q e s sz : Nat} (hqq : q < zn T) (he : e < 8) (hs : s < 3) (hz : sz ≤ zn T) (h1 : zza m 44 e = nI s) (h2 : zza m 45 e = nI sz) (el : Nat → Int32) (h3 : ∀ j, j < 100 → zzl m 53 (100 * e + j) = (el j).toInt64) : ∀ d n i, i + d = sz → d < n → f_X12_forged_21 (nI q) (nI e) n (nI i) m = some (zrf (fun k => zup (zbg (zlb T el (zlvl s) q k)) 10 0 0) d i, m) := by
  have h7 := h.1.1
  intro d
  induction d with
  | zero =>
    intro n i hi hn
    obtain ⟨n, rfl⟩ : ∃ n', n = n' + 1 := ⟨n - 1, by omega⟩
    have : i = sz := by omega
    subst this
    simp (disch := omega) only [f_X12_forged_21, f_X12_forged_21b, h2, q_len45, zrf_z, zzbd_s, zzlt_eq, zzon_n, zzon_s, q0, q1, q2, q3, q4, q5, q6, q7, q8, q9, q10, q11, q12, q20, q48, q49, q57, q59, q99, q100, q999, nI_add, pk_mul, q_lt0, q_lt, q_eq, q_cl, q_gd, if_true, if_false, q_ofNat, q_min, q_max, ite_self, Nat.not_lt_zero, q_e10, q_e01, eq_self, not_true_eq_false, not_false_eq_true, and_true, true_and, and_false, false_and, or_true, true_or, or_false, false_or, q_gdT, Nat.reduceEqDiff, Bool.false_eq_true, Nat.lt_irrefl, Nat.or_zero]
  | succ d ih =>
    intro n i hi hn
    obtain ⟨n, rfl⟩ : ∃ n', n = n' + 1 := ⟨n - 1, by omega⟩
    have hi2 : i < sz := by omega
    have lv := m_lv h hqq he hs (up := i + 1) (by omega) h1 el h3
    have hlt : zup (zbg (zlb T el (zlvl s) q (i + 1))) 10 0 0 < 1024 := zbg_lt10 _
    rw [zrf_s]
    by_cases c : zup (zbg (zlb T el (zlvl s) q (i + 1))) 10 0 0 = 0
    · simp (disch := omega) only [f_X12_forged_21, f_X12_forged_21b, h2, q_len45, hi2, lv, c, zzbd_s, zzlt_eq, zzon_n, zzon_s, q0, q1, q2, q3, q4, q5, q6, q7, q8, q9, q10, q11, q12, q20, q48, q49, q57, q59, q99, q100, q999, nI_add, pk_mul, q_lt0, q_lt, q_eq, q_cl, q_gd, if_true, if_false, q_ofNat, q_min, q_max, ite_self, Nat.not_lt_zero, q_e10, q_e01, eq_self, not_true_eq_false, not_false_eq_true, and_true, true_and, and_false, false_and, or_true, true_or, or_false, false_or, q_gdT, Nat.reduceEqDiff, Bool.false_eq_true, Nat.lt_irrefl, Nat.or_zero]
    · simp (disch := omega) only [f_X12_forged_21, f_X12_forged_21b, h2, q_len45, hi2, lv, c, ih, zzbd_s, zzlt_eq, zzon_n, zzon_s, q0, q1, q2, q3, q4, q5, q6, q7, q8, q9, q10, q11, q12, q20, q48, q49, q57, q59, q99, q100, q999, nI_add, pk_mul, q_lt0, q_lt, q_eq, q_cl, q_gd, if_true, if_false, q_ofNat, q_min, q_max, ite_self, Nat.not_lt_zero, q_e10, q_e01, eq_self, not_true_eq_false, not_false_eq_true, and_true, true_and, and_false, false_and, or_true, true_or, or_false, false_or, q_gdT, Nat.reduceEqDiff, Bool.false_eq_true, Nat.lt_irrefl, Nat.or_zero]
theorem s_forged (q d : Int32) : zSim (f_X11_forged q d) (f_X12_forged q d) := by
  refine zSim_rd (fun x m T hx hm hs hi => ?_)
  have h7 := hx.1.1
  have hm1 : zMT (zzsi m 36 13 (nI 0)) T := hm
  have n1 : (-nI 1 < nI 0) = True := eq_true (by decide)
  have n13 : (-nI 13 < nI 0) = True := eq_true (by decide)
  rcases q_cls q (zn T) (by omega) with ⟨i, hi, rfl⟩ | hq
  · rcases q_rowd (zSh_13 hs (nI 0)) d with ⟨e, s, n, he, rfl, hs3, hn, a1, a2, a3, a4, a5, a6, a7⟩ | ⟨a1, r, hr, a2, a3⟩
    · have hrow := q_row8 he
      have wb := m_wb_ok hm1 hi he a7 a3 hn
      by_cases c : zn T < n
      · refine ⟨-13, ?_, ?_⟩
        · simp (disch := omega) only [f_X11_forged, x_has1 hx hi, a1, zzgd_t hrow, hx.2.1, a5, c, q_e1_0, zzbd_s, zzlt_eq, zzon_n, zzon_s, q0, q1, q2, q3, q4, q5, q6, q7, q8, q9, q10, q11, q12, q20, q48, q49, q57, q59, q99, q100, q999, nI_add, pk_mul, q_lt0, q_lt, q_eq, q_cl, q_gd, if_true, if_false, q_ofNat, q_min, q_max, ite_self, Nat.not_lt_zero, q_e10, q_e01, eq_self, not_true_eq_false, not_false_eq_true, and_true, true_and, and_false, false_and, or_true, true_or, or_false, false_or, q_gdT, Nat.reduceEqDiff, Bool.false_eq_true, Nat.lt_irrefl, Nat.or_zero]
        · rw [if_pos c] at wb
          simp (disch := omega) only [f_X12_forged, wb, n13, q_e1_0, q13, zzbd_s, zzlt_eq, zzon_n, zzon_s, q0, q1, q2, q3, q4, q5, q6, q7, q8, q9, q10, q11, q12, q20, q48, q49, q57, q59, q99, q100, q999, nI_add, pk_mul, q_lt0, q_lt, q_eq, q_cl, q_gd, if_true, if_false, q_ofNat, q_min, q_max, ite_self, Nat.not_lt_zero, q_e10, q_e01, eq_self, not_true_eq_false, not_false_eq_true, and_true, true_and, and_false, false_and, or_true, true_or, or_false, false_or, q_gdT, Nat.reduceEqDiff, Bool.false_eq_true, Nat.lt_irrefl, Nat.or_zero]
      · rw [if_neg c] at wb
        have g := x_for_l hx (nI e) hi he hs3 (show n ≤ zn T by omega) a4 a5 10 200 0 0 (by omega) (by omega) (by omega)
        have k := m_for_l hm1 hi he hs3 (show n ≤ zn T by omega) a2 a3 (fun j => zza x (5 + 2 * e) j) a6 n 200 0 (by omega) (by omega)
        rw [zforged] at g
        have e1 : f_X11_forged (nI i) (nI e) x = f_X11_forged_52 (nI i) (nI e) 200 (4 + 2 * e) (nI 0) (nI 0) x := by
          simp (disch := omega) only [f_X11_forged, x_has1 hx hi, a1, zzgd_t hrow, hx.2.1, a5, c, q_e1_0, zzbd_s, zzlt_eq, zzon_n, zzon_s, q0, q1, q2, q3, q4, q5, q6, q7, q8, q9, q10, q11, q12, q20, q48, q49, q57, q59, q99, q100, q999, nI_add, pk_mul, q_lt0, q_lt, q_eq, q_cl, q_gd, if_true, if_false, q_ofNat, q_min, q_max, ite_self, Nat.not_lt_zero, q_e10, q_e01, eq_self, not_true_eq_false, not_false_eq_true, and_true, true_and, and_false, false_and, or_true, true_or, or_false, false_or, q_gdT, Nat.reduceEqDiff, Bool.false_eq_true, Nat.lt_irrefl, Nat.or_zero]
        have e2 : f_X12_forged (nI i) (nI e) m = f_X12_forged_21 (nI i) (nI e) 200 (nI 0) (zzsi m 36 13 (nI 0)) := by
          simp (disch := omega) only [f_X12_forged, wb, q_e1_0, zzbd_s, zzlt_eq, zzon_n, zzon_s, q0, q1, q2, q3, q4, q5, q6, q7, q8, q9, q10, q11, q12, q20, q48, q49, q57, q59, q99, q100, q999, nI_add, pk_mul, q_lt0, q_lt, q_eq, q_cl, q_gd, if_true, if_false, q_ofNat, q_min, q_max, ite_self, Nat.not_lt_zero, q_e10, q_e01, eq_self, not_true_eq_false, not_false_eq_true, and_true, true_and, and_false, false_and, or_true, true_or, or_false, false_or, q_gdT, Nat.reduceEqDiff, Bool.false_eq_true, Nat.lt_irrefl, Nat.or_zero]
        exact ⟨_, e1.trans g, e2.trans k⟩
    · have hr' : r < nI 0 := hr
      have wb := m_wb_row hm1 hi hr a3
      refine ⟨r, ?_, ?_⟩
      · simp (disch := omega) only [f_X11_forged, x_has1 hx hi, a1, a2, q_e1_0, zzbd_s, zzlt_eq, zzon_n, zzon_s, q0, q1, q2, q3, q4, q5, q6, q7, q8, q9, q10, q11, q12, q20, q48, q49, q57, q59, q99, q100, q999, nI_add, pk_mul, q_lt0, q_lt, q_eq, q_cl, q_gd, if_true, if_false, q_ofNat, q_min, q_max, ite_self, Nat.not_lt_zero, q_e10, q_e01, eq_self, not_true_eq_false, not_false_eq_true, and_true, true_and, and_false, false_and, or_true, true_or, or_false, false_or, q_gdT, Nat.reduceEqDiff, Bool.false_eq_true, Nat.lt_irrefl, Nat.or_zero]
      · simp (disch := omega) only [f_X12_forged, wb, hr', zzbd_s, zzlt_eq, zzon_n, zzon_s, q0, q1, q2, q3, q4, q5, q6, q7, q8, q9, q10, q11, q12, q20, q48, q49, q57, q59, q99, q100, q999, nI_add, pk_mul, q_lt0, q_lt, q_eq, q_cl, q_gd, if_true, if_false, q_ofNat, q_min, q_max, ite_self, Nat.not_lt_zero, q_e10, q_e01, eq_self, not_true_eq_false, not_false_eq_true, and_true, true_and, and_false, false_and, or_true, true_or, or_false, false_or, q_gdT, Nat.reduceEqDiff, Bool.false_eq_true, Nat.lt_irrefl, Nat.or_zero]
  · have wb := m_wb_bad (d := d) hm1 hq
    refine ⟨-1, ?_, ?_⟩
    · simp (disch := omega) only [f_X11_forged, x_has_bad hx hq, zzbd_s, zzlt_eq, zzon_n, zzon_s, q0, q1, q2, q3, q4, q5, q6, q7, q8, q9, q10, q11, q12, q20, q48, q49, q57, q59, q99, q100, q999, nI_add, pk_mul, q_lt0, q_lt, q_eq, q_cl, q_gd, if_true, if_false, q_ofNat, q_min, q_max, ite_self, Nat.not_lt_zero, q_e10, q_e01, eq_self, not_true_eq_false, not_false_eq_true, and_true, true_and, and_false, false_and, or_true, true_or, or_false, false_or, q_gdT, Nat.reduceEqDiff, Bool.false_eq_true, Nat.lt_irrefl, Nat.or_zero]
    · simp (disch := omega) only [f_X12_forged, wb, n1, zzbd_s, zzlt_eq, zzon_n, zzon_s, q0, q1, q2, q3, q4, q5, q6, q7, q8, q9, q10, q11, q12, q20, q48, q49, q57, q59, q99, q100, q999, nI_add, pk_mul, q_lt0, q_lt, q_eq, q_cl, q_gd, if_true, if_false, q_ofNat, q_min, q_max, ite_self, Nat.not_lt_zero, q_e10, q_e01, eq_self, not_true_eq_false, not_false_eq_true, and_true, true_and, and_false, false_and, or_true, true_or, or_false, false_or, q_gdT, Nat.reduceEqDiff, Bool.false_eq_true, Nat.lt_irrefl, Nat.or_zero]
end
