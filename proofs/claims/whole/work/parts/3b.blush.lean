/-! ===== blushes told true, and forged ===== -/
def zok (T : zT) (el : Nat → Int32) (lv : Int32) (q l i : Nat) : Bool := decide (i = q ∨ el i = lv ∨ el i = nI (zsh T i l))
def zfn (b : Nat → Bool) : Nat → Nat → Option Nat
  | 0, _ => none
  | d + 1, i => if b i = true then zfn b d (i + 1) else some i
theorem zfn_z (b : Nat → Bool) (i : Nat) : zfn b 0 i = none := rfl
theorem zfn_s (b : Nat → Bool) (d i : Nat) : zfn b (d + 1) i = if b i = true then zfn b d (i + 1) else some i := rfl
def zfnI (o : Option Nat) : Int32 := match o with
  | none => -4
  | some i => nI i
def zall (b : Nat → Bool) : Nat → Nat → Bool
  | 0, _ => true
  | d + 1, i => b i && zall b d (i + 1)
theorem zall_z (b : Nat → Bool) (i : Nat) : zall b 0 i = true := rfl
theorem zall_s (b : Nat → Bool) (d i : Nat) : zall b (d + 1) i = (b i && zall b d (i + 1)) := rfl
theorem zall_iff (b : Nat → Bool) : ∀ d i, zall b d i = true ↔ ∀ j, i ≤ j → j < i + d → b j = true
  | 0, i => ⟨fun _ j h1 h2 => by omega, fun _ => rfl⟩
  | d + 1, i => by
    rw [zall_s, Bool.and_eq_true, zall_iff b d (i + 1)]
    constructor
    · intro ⟨h1, h2⟩ j h3 h4
      by_cases c : j = i
      · rw [c]; exact h1
      · exact h2 j (by omega) (by omega)
    · intro h
      exact ⟨h i (by omega) (by omega), fun j h1 h2 => h j (by omega) (by omega)⟩
theorem zfn_none (b : Nat → Bool) : ∀ d i, zfn b d i = none ↔ ∀ j, i ≤ j → j < i + d → b j = true
  | 0, i => ⟨fun _ j h1 h2 => by omega, fun _ => rfl⟩
  | d + 1, i => by
    rw [zfn_s]
    by_cases c : b i = true
    · rw [if_pos c, zfn_none b d (i + 1)]
      constructor
      · intro h j h1 h2
        by_cases e : j = i
        · rw [e]; exact c
        · exact h j (by omega) (by omega)
      · intro h j h1 h2; exact h j (by omega) (by omega)
    · rw [if_neg c]
      constructor
      · intro h; cases h
      · intro h; exact absurd (h i (by omega) (by omega)) c
theorem zfn_some (b : Nat → Bool) : ∀ d i p, zfn b d i = some p → i ≤ p ∧ p < i + d ∧ ¬ b p = true ∧ ∀ j, i ≤ j → j < p → b j = true
  | 0, _, _, h => by cases h
  | d + 1, i, p, h => by
    rw [zfn_s] at h
    by_cases c : b i = true
    · rw [if_pos c] at h
      obtain ⟨h1, h2, h3, h4⟩ := zfn_some b d (i + 1) p h
      refine ⟨by omega, by omega, h3, fun j h5 h6 => ?_⟩
      by_cases e : j = i
      · rw [e]; exact c
      · exact h4 j (by omega) h6
    · rw [if_neg c] at h
      cases h
      exact ⟨by omega, by omega, c, fun j h5 h6 => by omega⟩
def zbg (b : Nat → Bool) (l a : Nat) : Nat := if b l = true then a ||| 2 ^ l else a
theorem zbg_bit (b : Nat → Bool) (j : Nat) : ∀ d i a, (zup (zbg b) d i a).testBit j = (a.testBit j || (decide (i ≤ j ∧ j < i + d) && b j))
  | 0, i, a => by
    rw [zup_z, decide_eq_false (by omega), Bool.false_and, Bool.or_false]
  | d + 1, i, a => by
    rw [zup_s, zbg_bit b j d (i + 1)]
    unfold zbg
    by_cases e : j = i
    · subst e
      rw [decide_eq_false (show ¬ (j + 1 ≤ j ∧ j < j + 1 + d) by omega), decide_eq_true (show j ≤ j ∧ j < j + (d + 1) by omega), Bool.false_and, Bool.or_false, Bool.true_and]
      by_cases c : b j = true
      · rw [if_pos c, Nat.testBit_or, Nat.testBit_two_pow_self, c]
      · rw [if_neg c]
        cases h : b j with
        | false => rw [Bool.or_false]
        | true => exact absurd h c
    · have e2 : decide (i + 1 ≤ j ∧ j < i + 1 + d) = decide (i ≤ j ∧ j < i + (d + 1)) := by
        apply decide_eq_decide.mpr; omega
      rw [e2]
      by_cases c : b i = true
      · rw [if_pos c, Nat.testBit_or, Nat.testBit_two_pow_of_ne (fun z => e z.symm), Bool.or_false]
      · rw [if_neg c]
theorem zbg_lt (b : Nat → Bool) (N : Nat) : ∀ d i a, a < 2 ^ N → i + d ≤ N → zup (zbg b) d i a < 2 ^ N := by
  intro d i a h1 h2
  refine zup_P _ (fun a => a < 2 ^ N) _ _ _ (fun j c h3 h4 h5 => ?_) h1
  unfold zbg
  split
  · exact Nat.or_lt_two_pow h5 (Nat.pow_lt_pow_right (by omega) (by omega))
  · exact h5
theorem zcnt_cg (b b' : Nat → Bool) : ∀ d i, (∀ j, i ≤ j → j < i + d → b j = b' j) → zcnt b d i = zcnt b' d i
  | 0, _, _ => rfl
  | d + 1, i, h => by
    rw [zcnt_s, zcnt_s, h i (by omega) (by omega), zcnt_cg b b' d (i + 1) (fun j h1 h2 => h j (by omega) (by omega))]
theorem zfst_cg (b b' : Nat → Bool) (v : Nat → Int32) : ∀ d i f, (∀ j, i ≤ j → j < i + d → b j = b' j) → zfst b v d i f = zfst b' v d i f
  | 0, _, _, _ => rfl
  | d + 1, i, f, h => by
    rw [zfst_s, zfst_s, h i (by omega) (by omega), zfst_cg b b' v d (i + 1) f (fun j h1 h2 => h j (by omega) (by omega))]
theorem q_hb : ∀ a < 1024, ∀ j < 10, (if ((nI a >>> (nI j &&& 31)) &&& (1 : Int32)) = (1 : Int32) then nI 1 else nI 0) = zbn (a.testBit j) := by decide +kernel
theorem m_hb (m : zzS) {a j : Nat} (ha : a < 1024) (hj : j < 10) : f_X12_hasBit (nI a) (nI j) m = some (zbn (a.testBit j), m) := by
  rw [← q_hb a ha j hj]
  unfold f_X12_hasBit
  split <;> rfl
section
variable {x m : zzS} {t : Nat} {T : zT}
theorem q_m4ne {p : Nat} (h : p < 2147483648) : ¬ nI p = -4 := by
  intro e
  have : (nI p).toInt = (-4 : Int32).toInt := by rw [e]
  rw [nI_toInt h] at this
  have h2 : (-4 : Int32).toInt = -4 := rfl
  omega
theorem x_fn_l (h : zXT x 20 T) {q l e s sz : Nat} (hl : l ≤ 9) (hqq : q < zn T) (he : e < 8) (hs : s < 3) (hz : sz ≤ zn T) (h1 : zzi x (4 + 2 * e) 1 = nI s) (h2 : zzi x (4 + 2 * e) 2 = nI sz) : ∀ d n i, i + d = sz → d < n → f_X11_firstNotAtLevel_3 (nI q) (4 + 2 * e) (nI l) n (nI i) x = some (zfnI (zfn (zok T (fun j => zza x (5 + 2 * e) j) (zlvl s) q l) d i), x) := by
  have h7 := h.1.1
  have ht : zztown 20 := Or.inl rfl
  intro d
  induction d with
  | zero =>
    intro n i hi hn
    obtain ⟨n, rfl⟩ : ∃ n', n = n' + 1 := ⟨n - 1, by omega⟩
    have : i = sz := by omega
    subst this
    simp (disch := omega) only [f_X11_firstNotAtLevel_3, f_X11_firstNotAtLevel_3b, h2, zfn_z, zfnI, zzbd_s, zzlt_eq, zzon_n, zzon_s, q0, q1, q2, q3, q4, q5, q6, q7, q8, q9, q10, q11, q12, q20, q48, q49, q57, q59, q99, q100, q999, nI_add, pk_mul, q_lt0, q_lt, q_eq, q_cl, q_gd, if_true, if_false, q_ofNat, q_min, q_max, ite_self, Nat.not_lt_zero, q_e10, q_e01, eq_self, not_true_eq_false, not_false_eq_true, and_true, true_and, and_false, false_and, or_true, true_or, or_false, false_or, q_gdT, Nat.reduceEqDiff, Bool.false_eq_true, Nat.lt_irrefl, Nat.or_zero]
  | succ d ih =>
    intro n i hi hn
    obtain ⟨n, rfl⟩ : ∃ n', n = n' + 1 := ⟨n - 1, by omega⟩
    have hi2 : i < sz := by omega
    have hi3 : i < zn T := by omega
    have hk := h.1.2.2.2.1 i hi3
    have hsh := q_shows T i l hk.1 hl
    rw [zfn_s]
    by_cases c1 : i = q
    · have o : zok T (fun j => zza x (5 + 2 * e) j) (zlvl s) q l i = true := decide_eq_true (Or.inl c1)
      rw [if_pos o, ← ih n (i + 1) (by omega) (by omega)]
      subst c1
      simp (disch := omega) only [f_X11_firstNotAtLevel_3, f_X11_firstNotAtLevel_3b, f_X11_firstNotAtLevel_35, f_X11_firstNotAtLevel_40, f_X11_firstNotAtLevel_68, h2, hi2, x7_at he h2, q_e1_0, zzbd_s, zzlt_eq, zzon_n, zzon_s, q0, q1, q2, q3, q4, q5, q6, q7, q8, q9, q10, q11, q12, q20, q48, q49, q57, q59, q99, q100, q999, nI_add, pk_mul, q_lt0, q_lt, q_eq, q_cl, q_gd, if_true, if_false, q_ofNat, q_min, q_max, ite_self, Nat.not_lt_zero, q_e10, q_e01, eq_self, not_true_eq_false, not_false_eq_true, and_true, true_and, and_false, false_and, or_true, true_or, or_false, false_or, q_gdT, Nat.reduceEqDiff, Bool.false_eq_true, Nat.lt_irrefl, Nat.or_zero]
    · by_cases c2 : zza x (5 + 2 * e) i = zlvl s
      · have o : zok T (fun j => zza x (5 + 2 * e) j) (zlvl s) q l i = true := decide_eq_true (Or.inr (Or.inl c2))
        rw [if_pos o, ← ih n (i + 1) (by omega) (by omega)]
        simp (disch := omega) only [f_X11_firstNotAtLevel_3, f_X11_firstNotAtLevel_3b, f_X11_firstNotAtLevel_35, f_X11_firstNotAtLevel_40, f_X11_firstNotAtLevel_68, h2, hi2, x7_at he h2, x7_lv hs h1, c1, c2, q_e1_0, zzbd_s, zzlt_eq, zzon_n, zzon_s, q0, q1, q2, q3, q4, q5, q6, q7, q8, q9, q10, q11, q12, q20, q48, q49, q57, q59, q99, q100, q999, nI_add, pk_mul, q_lt0, q_lt, q_eq, q_cl, q_gd, if_true, if_false, q_ofNat, q_min, q_max, ite_self, Nat.not_lt_zero, q_e10, q_e01, eq_self, not_true_eq_false, not_false_eq_true, and_true, true_and, and_false, false_and, or_true, true_or, or_false, false_or, q_gdT, Nat.reduceEqDiff, Bool.false_eq_true, Nat.lt_irrefl, Nat.or_zero]
      · by_cases c3 : zza x (5 + 2 * e) i = nI (zsh T i l)
        · have o : zok T (fun j => zza x (5 + 2 * e) j) (zlvl s) q l i = true := decide_eq_true (Or.inr (Or.inr c3))
          have c2' : ¬ nI (zsh T i l) = zlvl s := fun z => c2 (c3.trans z)
          rw [if_pos o, ← ih n (i + 1) (by omega) (by omega)]
          simp (disch := omega) only [f_X11_firstNotAtLevel_3, f_X11_firstNotAtLevel_3b, f_X11_firstNotAtLevel_35, f_X11_firstNotAtLevel_40, f_X11_firstNotAtLevel_68, h2, hi2, x7_at he h2, x7_lv hs h1, c1, c2', c3, x_at h ht hi3, hsh.1, q_e1_0, zzbd_s, zzlt_eq, zzon_n, zzon_s, q0, q1, q2, q3, q4, q5, q6, q7, q8, q9, q10, q11, q12, q20, q48, q49, q57, q59, q99, q100, q999, nI_add, pk_mul, q_lt0, q_lt, q_eq, q_cl, q_gd, if_true, if_false, q_ofNat, q_min, q_max, ite_self, Nat.not_lt_zero, q_e10, q_e01, eq_self, not_true_eq_false, not_false_eq_true, and_true, true_and, and_false, false_and, or_true, true_or, or_false, false_or, q_gdT, Nat.reduceEqDiff, Bool.false_eq_true, Nat.lt_irrefl, Nat.or_zero]
        · have o : ¬ zok T (fun j => zza x (5 + 2 * e) j) (zlvl s) q l i = true := fun z => by
            rcases of_decide_eq_true z with z | z | z
            · exact c1 z
            · exact c2 z
            · exact c3 z
          have c3' : ¬ nI (zsh T i l) = zza x (5 + 2 * e) i := fun z => c3 z.symm
          rw [if_neg o]
          simp (disch := omega) only [f_X11_firstNotAtLevel_3, f_X11_firstNotAtLevel_3b, f_X11_firstNotAtLevel_35, f_X11_firstNotAtLevel_40, f_X11_firstNotAtLevel_68, h2, hi2, x7_at he h2, x7_lv hs h1, c1, c2, c3', x_at h ht hi3, hsh.1, zfnI, q_e1_0, zzbd_s, zzlt_eq, zzon_n, zzon_s, q0, q1, q2, q3, q4, q5, q6, q7, q8, q9, q10, q11, q12, q20, q48, q49, q57, q59, q99, q100, q999, nI_add, pk_mul, q_lt0, q_lt, q_eq, q_cl, q_gd, if_true, if_false, q_ofNat, q_min, q_max, ite_self, Nat.not_lt_zero, q_e10, q_e01, eq_self, not_true_eq_false, not_false_eq_true, and_true, true_and, and_false, false_and, or_true, true_or, or_false, false_or, q_gdT, Nat.reduceEqDiff, Bool.false_eq_true, Nat.lt_irrefl, Nat.or_zero]
theorem m_shows (h : zMT m T) {p l : Nat} (hp : p < zn T) (hl : l ≤ 9) : f_X12_showsOf (nI p) (nI l) m = some (nI (zsh T p l), m) := by
  have h7 := h.1.1
  have hk := h.1.2.2.2.1 p hp
  have e := h.2.2.2.2.1 p hp
  simp (disch := omega) only [f_X12_showsOf, e.1, q_len37, zzbd_s, zzlt_eq, zzon_n, zzon_s, q0, q1, q2, q3, q4, q5, q6, q7, q8, q9, q10, q11, q12, q20, q48, q49, q57, q59, q99, q100, q999, nI_add, pk_mul, q_lt0, q_lt, q_eq, q_cl, q_gd, if_true, if_false, q_ofNat, q_min, q_max, ite_self, Nat.not_lt_zero, q_e10, q_e01, eq_self, not_true_eq_false, not_false_eq_true, and_true, true_and, and_false, false_and, or_true, true_or, or_false, false_or, q_gdT, Nat.reduceEqDiff, Bool.false_eq_true, Nat.lt_irrefl, Nat.or_zero]
  unfold zsh
  generalize zk T p = k at hk ⊢
  rcases q_k8 hk.1 with rfl | rfl | rfl | rfl | rfl | rfl | rfl | rfl <;> simp (disch := omega) [q0, q1, q2, q3, q4, q5, q6, q7, q8, q9, q10, q11, q12, q20, q48, q49, q57, q59, q99, q100, q999, nI_add, pk_mul, q_eq, q_div]
theorem m_lv_i (h : zMT m T) (k6 : Int32 → Int32 → zzS → Option (Int32 × zzS)) {q l e s up : Nat} (hl : l ≤ 9) (hqq : q < zn T) (he : e < 8) (hs : s < 3) (hu : up ≤ zn T) (h1 : zza m 44 e = nI s) (el : Nat → Int32) (h3 : ∀ j, j < 100 → zzl m 53 (100 * e + j) = (el j).toInt64) (a : Nat) : ∀ d n i c, i + d = up → d < n → f_X12_levelsUpTo_19 k6 (nI q) (nI e) (nI up) n (nI a) (nI l) (zbn c) (nI i) m = k6 (nI (if (c && zall (zok T el (zlvl s) q l) d i) = true then a ||| 2 ^ l else a)) (nI (l + 1)) m := by
  have h7 := h.1.1
  intro d
  induction d with
  | zero =>
    intro n i c hi hn
    obtain ⟨n, rfl⟩ : ∃ n', n = n' + 1 := ⟨n - 1, by omega⟩
    have : i = up := by omega
    subst this
    cases c with
    | false => simp (disch := omega) only [f_X12_levelsUpTo_19, f_X12_levelsUpTo_19b, f_X12_levelsUpTo_104, zbn_f, q_or, Bool.false_and, zzbd_s, zzlt_eq, zzon_n, zzon_s, q0, q1, q2, q3, q4, q5, q6, q7, q8, q9, q10, q11, q12, q20, q48, q49, q57, q59, q99, q100, q999, nI_add, pk_mul, q_lt0, q_lt, q_eq, q_cl, q_gd, if_true, if_false, q_ofNat, q_min, q_max, ite_self, Nat.not_lt_zero, q_e10, q_e01, eq_self, not_true_eq_false, not_false_eq_true, and_true, true_and, and_false, false_and, or_true, true_or, or_false, false_or, q_gdT, Nat.reduceEqDiff, Bool.false_eq_true, Nat.lt_irrefl, Nat.or_zero]
    | true => simp (disch := omega) only [f_X12_levelsUpTo_19, f_X12_levelsUpTo_19b, f_X12_levelsUpTo_104, zbn_t, q_or, q_shl', zall_z, Bool.and_self, q_e1_0, zzbd_s, zzlt_eq, zzon_n, zzon_s, q0, q1, q2, q3, q4, q5, q6, q7, q8, q9, q10, q11, q12, q20, q48, q49, q57, q59, q99, q100, q999, nI_add, pk_mul, q_lt0, q_lt, q_eq, q_cl, q_gd, if_true, if_false, q_ofNat, q_min, q_max, ite_self, Nat.not_lt_zero, q_e10, q_e01, eq_self, not_true_eq_false, not_false_eq_true, and_true, true_and, and_false, false_and, or_true, true_or, or_false, false_or, q_gdT, Nat.reduceEqDiff, Bool.false_eq_true, Nat.lt_irrefl, Nat.or_zero]
  | succ d ih =>
    intro n i c hi hn
    obtain ⟨n, rfl⟩ : ∃ n', n = n' + 1 := ⟨n - 1, by omega⟩
    have hi2 : i < up := by omega
    have hi3 : i < zn T := by omega
    have g := h3 i (by omega)
    rw [zall_s, ← Bool.and_assoc, ← ih n (i + 1) (c && zok T el (zlvl s) q l i) (by omega) (by omega)]
    cases c with
    | false =>
      simp (disch := omega) only [f_X12_levelsUpTo_19, f_X12_levelsUpTo_19b, f_X12_levelsUpTo_80, f_X12_levelsUpTo_81, hi2, zbn_f, Bool.false_and, zzbd_s, zzlt_eq, zzon_n, zzon_s, q0, q1, q2, q3, q4, q5, q6, q7, q8, q9, q10, q11, q12, q20, q48, q49, q57, q59, q99, q100, q999, nI_add, pk_mul, q_lt0, q_lt, q_eq, q_cl, q_gd, if_true, if_false, q_ofNat, q_min, q_max, ite_self, Nat.not_lt_zero, q_e10, q_e01, eq_self, not_true_eq_false, not_false_eq_true, and_true, true_and, and_false, false_and, or_true, true_or, or_false, false_or, q_gdT, Nat.reduceEqDiff, Bool.false_eq_true, Nat.lt_irrefl, Nat.or_zero]
    | true =>
      rw [Bool.true_and]
      by_cases c1 : i = q
      · have o : zok T el (zlvl s) q l i = true := decide_eq_true (Or.inl c1)
        rw [o]
        subst c1
        simp (disch := omega) only [f_X12_levelsUpTo_19, f_X12_levelsUpTo_19b, f_X12_levelsUpTo_76, f_X12_levelsUpTo_81, hi2, zbn_t, q_e1_0, zzbd_s, zzlt_eq, zzon_n, zzon_s, q0, q1, q2, q3, q4, q5, q6, q7, q8, q9, q10, q11, q12, q20, q48, q49, q57, q59, q99, q100, q999, nI_add, pk_mul, q_lt0, q_lt, q_eq, q_cl, q_gd, if_true, if_false, q_ofNat, q_min, q_max, ite_self, Nat.not_lt_zero, q_e10, q_e01, eq_self, not_true_eq_false, not_false_eq_true, and_true, true_and, and_false, false_and, or_true, true_or, or_false, false_or, q_gdT, Nat.reduceEqDiff, Bool.false_eq_true, Nat.lt_irrefl, Nat.or_zero]
      · by_cases c2 : el i = zlvl s
        · have o : zok T el (zlvl s) q l i = true := decide_eq_true (Or.inr (Or.inl c2))
          have z := (q_l64 (el i) (zlvl s)).mpr c2
          rw [q0] at z
          rw [o]
          simp (disch := omega) only [f_X12_levelsUpTo_19, f_X12_levelsUpTo_19b, f_X12_levelsUpTo_76, f_X12_levelsUpTo_81, hi2, c1, g, m_skip he hs h1, z, zbn_t, q_e1_0, zzbd_s, zzlt_eq, zzon_n, zzon_s, q0, q1, q2, q3, q4, q5, q6, q7, q8, q9, q10, q11, q12, q20, q48, q49, q57, q59, q99, q100, q999, nI_add, pk_mul, q_lt0, q_lt, q_eq, q_cl, q_gd, if_true, if_false, q_ofNat, q_min, q_max, ite_self, Nat.not_lt_zero, q_e10, q_e01, eq_self, not_true_eq_false, not_false_eq_true, and_true, true_and, and_false, false_and, or_true, true_or, or_false, false_or, q_gdT, Nat.reduceEqDiff, Bool.false_eq_true, Nat.lt_irrefl, Nat.or_zero]
        · have z : ¬ lg_cmp (el i).toInt64 (zlvl s).toInt64 = nI 0 := fun w => c2 ((q_l64 _ _).mp w)
          by_cases c3 : el i = nI (zsh T i l)
          · have o : zok T el (zlvl s) q l i = true := decide_eq_true (Or.inr (Or.inr c3))
            have z2 := (q_l64 (el i) (nI (zsh T i l))).mpr c3
            rw [q0] at z2
            rw [o]
            simp (disch := omega) only [f_X12_levelsUpTo_19, f_X12_levelsUpTo_19b, f_X12_levelsUpTo_76, f_X12_levelsUpTo_81, hi2, c1, g, m_skip he hs h1, m_shows h hi3 hl, z, z2, zbn_t, q_e1_0, zzbd_s, zzlt_eq, zzon_n, zzon_s, q0, q1, q2, q3, q4, q5, q6, q7, q8, q9, q10, q11, q12, q20, q48, q49, q57, q59, q99, q100, q999, nI_add, pk_mul, q_lt0, q_lt, q_eq, q_cl, q_gd, if_true, if_false, q_ofNat, q_min, q_max, ite_self, Nat.not_lt_zero, q_e10, q_e01, eq_self, not_true_eq_false, not_false_eq_true, and_true, true_and, and_false, false_and, or_true, true_or, or_false, false_or, q_gdT, Nat.reduceEqDiff, Bool.false_eq_true, Nat.lt_irrefl, Nat.or_zero]
          · have z2 : ¬ lg_cmp (el i).toInt64 (nI (zsh T i l)).toInt64 = nI 0 := fun w => c3 ((q_l64 _ _).mp w)
            have o : zok T el (zlvl s) q l i = false := decide_eq_false (fun z => by
              rcases z with z | z | z
              · exact c1 z
              · exact c2 z
              · exact c3 z)
            rw [o]
            simp (disch := omega) only [f_X12_levelsUpTo_19, f_X12_levelsUpTo_19b, f_X12_levelsUpTo_80, f_X12_levelsUpTo_81, hi2, c1, g, m_skip he hs h1, m_shows h hi3 hl, z, z2, zbn_t, zbn_f, q_e1_0, zzbd_s, zzlt_eq, zzon_n, zzon_s, q0, q1, q2, q3, q4, q5, q6, q7, q8, q9, q10, q11, q12, q20, q48, q49, q57, q59, q99, q100, q999, nI_add, pk_mul, q_lt0, q_lt, q_eq, q_cl, q_gd, if_true, if_false, q_ofNat, q_min, q_max, ite_self, Nat.not_lt_zero, q_e10, q_e01, eq_self, not_true_eq_false, not_false_eq_true, and_true, true_and, and_false, false_and, or_true, true_or, or_false, false_or, q_gdT, Nat.reduceEqDiff, Bool.false_eq_true, Nat.lt_irrefl, Nat.or_zero]
/-- the levels that agree up to a place -/
def zlb (T : zT) (el : Nat → Int32) (lv : Int32) (q up l : Nat) : Bool := zall (zok T el lv q l) up 0
theorem m_lv (h : zMT m T) {q e s up : Nat} (hqq : q < zn T) (he : e < 8) (hs : s < 3) (hu : up ≤ zn T) (h1 : zza m 44 e = nI s) (el : Nat → Int32) (h3 : ∀ j, j < 100 → zzl m 53 (100 * e + j) = (el j).toInt64) : f_X12_levelsUpTo (nI q) (nI e) (nI up) m = some (nI (zup (zbg (zlb T el (zlvl s) q up)) 10 0 0), m) := by
  have h7 := h.1.1
  have loop : ∀ d n i a, i + d = 10 → d < n → f_X12_levelsUpTo_6 (nI q) (nI e) (nI up) n (nI a) (nI i) m = some (nI (zup (zbg (zlb T el (zlvl s) q up)) d i a), m) := by
    intro d
    induction d with
    | zero =>
      intro n i a hi hn
      obtain ⟨n, rfl⟩ : ∃ n', n = n' + 1 := ⟨n - 1, by omega⟩
      have : i = 10 := by omega
      subst this
      simp (disch := omega) only [f_X12_levelsUpTo_6, f_X12_levelsUpTo_6b, zup_z, zzbd_s, zzlt_eq, zzon_n, zzon_s, q0, q1, q2, q3, q4, q5, q6, q7, q8, q9, q10, q11, q12, q20, q48, q49, q57, q59, q99, q100, q999, nI_add, pk_mul, q_lt0, q_lt, q_eq, q_cl, q_gd, if_true, if_false, q_ofNat, q_min, q_max, ite_self, Nat.not_lt_zero, q_e10, q_e01, eq_self, not_true_eq_false, not_false_eq_true, and_true, true_and, and_false, false_and, or_true, true_or, or_false, false_or, q_gdT, Nat.reduceEqDiff, Bool.false_eq_true, Nat.lt_irrefl, Nat.or_zero]
    | succ d ih =>
      intro n i a hi hn
      obtain ⟨n, rfl⟩ : ∃ n', n = n' + 1 := ⟨n - 1, by omega⟩
      have hi2 : i < 10 := by omega
      have g := m_lv_i h (f_X12_levelsUpTo_6 (nI q) (nI e) (nI up) n) (l := i) (by omega) hqq he hs hu h1 el h3 a up 200 0 true (by omega) (by omega)
      rw [Bool.true_and, zbn_t] at g
      rw [zup_s, ← ih n (i + 1) _ (by omega) (by omega)]
      unfold zbg zlb
      rw [← g]
      simp (disch := omega) only [f_X12_levelsUpTo_6, f_X12_levelsUpTo_6b, hi2, zzbd_s, zzlt_eq, zzon_n, zzon_s, q0, q1, q2, q3, q4, q5, q6, q7, q8, q9, q10, q11, q12, q20, q48, q49, q57, q59, q99, q100, q999, nI_add, pk_mul, q_lt0, q_lt, q_eq, q_cl, q_gd, if_true, if_false, q_ofNat, q_min, q_max, ite_self, Nat.not_lt_zero, q_e10, q_e01, eq_self, not_true_eq_false, not_false_eq_true, and_true, true_and, and_false, false_and, or_true, true_or, or_false, false_or, q_gdT, Nat.reduceEqDiff, Bool.false_eq_true, Nat.lt_irrefl, Nat.or_zero]
  exact loop 10 200 0 0 (by omega) (by omega)
end
