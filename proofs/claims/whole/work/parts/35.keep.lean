/-! ===== towns laid aside and taken back ===== -/
section
variable {x m : zzS} {t p : Nat} {T : zT}
theorem x_at_any (ht : zztown t) {i : Nat} (hi : i < 7) : f_X10_at t (nI i) x = some (some ((zzr x (t + 1) i).getD (0, nI 0)), x) := by
  cases e : zzr x (t + 1) i with
  | none => simp (disch := omega) only [f_X10_at, f_X10_at_23, q_plen ht, hi, e, Option.getD_none, zzbd_s, zzlt_eq, zzon_n, zzon_s, q0, q1, q2, q3, q4, q5, q6, q7, q8, q9, q10, q11, q12, q20, q48, q49, q57, q59, q99, q100, q999, nI_add, pk_mul, q_lt0, q_lt, q_eq, q_cl, q_gd, if_true, if_false, q_ofNat, q_min, q_max, ite_self, Nat.not_lt_zero, q_e10, q_e01, eq_self, not_true_eq_false, not_false_eq_true, and_true, true_and, and_false, false_and, or_true, true_or, or_false, false_or, q_gdT, Nat.reduceEqDiff, Bool.false_eq_true, Nat.lt_irrefl, Nat.or_zero]
  | some kf => simp (disch := omega) only [f_X10_at, f_X10_at_23, q_plen ht, hi, e, Option.getD_some, zzbd_s, zzlt_eq, zzon_n, zzon_s, q0, q1, q2, q3, q4, q5, q6, q7, q8, q9, q10, q11, q12, q20, q48, q49, q57, q59, q99, q100, q999, nI_add, pk_mul, q_lt0, q_lt, q_eq, q_cl, q_gd, if_true, if_false, q_ofNat, q_min, q_max, ite_self, Nat.not_lt_zero, q_e10, q_e01, eq_self, not_true_eq_false, not_false_eq_true, and_true, true_and, and_false, false_and, or_true, true_or, or_false, false_or, q_gdT, Nat.reduceEqDiff, Bool.false_eq_true, Nat.lt_irrefl, Nat.or_zero]
theorem q_tdis (ht : zztown t) (hp : zztown p) (hn : p ≠ t) (j : Nat) (hj : j < 4) : ¬ (t ≤ p + j ∧ p + j < t + 4) := by
  rcases ht with rfl | rfl | rfl <;> rcases hp with rfl | rfl | rfl <;> omega
theorem x_bec_a (ht : zztown t) (hp : zztown p) (hn : p ≠ t) : ∀ d n i y, i + d = 49 → d < n → zFR t x y → (∀ j, j < i → zza y (t + 3) j = zza x (p + 3) j) → ∃ x', f_X10_become_46 t p n (nI i) y = some ((), x') ∧ zFR t x x' ∧ (∀ j, j < 49 → zza x' (t + 3) j = zza x (p + 3) j) ∧ (∀ j, zzr x' (t + 1) j = zzr y (t + 1) j) ∧ (∀ j, zza x' (t + 2) j = zza y (t + 2) j) ∧ zzi x' t 4 = zzi x p 4 ∧ zzi x' t 5 = zzi x p 5 ∧ zzi x' t 6 = zzi x p 6 := by
  have hl := q_len3 ht
  have hl2 := q_len3 hp
  have hd := q_tdis ht hp hn
  intro d
  induction d with
  | zero =>
    intro n i y hi hn2 hf ha
    obtain ⟨n, rfl⟩ : ∃ n', n = n' + 1 := ⟨n - 1, by omega⟩
    have : i = 49 := by omega
    subst this
    have d0 := hd 0 (by omega)
    rw [Nat.add_zero] at d0
    refine ⟨zzsi (zzsi (zzsi y t 4 (zzi y p 4)) t 5 (zzi y p 5)) t 6 (zzi y p 6), ?_, zFR_tr hf (zFR_tr (zFR_tr (zFR_i _ _ _ (by omega)) (zFR_i _ _ _ (by omega))) (zFR_i _ _ _ (by omega))), ha, fun _ => rfl, fun _ => rfl, ?_, ?_, ?_⟩
    · have n1 : ¬ (p = t ∧ 5 = 4) := by omega
      have n2 : ¬ (p = t ∧ 6 = 5) := by omega
      have n3 : ¬ (p = t ∧ 6 = 4) := by omega
      simp (disch := omega) only [f_X10_become_46, f_X10_become_46b, hl, q_ii, n1, n2, n3, zzbd_s, zzlt_eq, zzon_n, zzon_s, q0, q1, q2, q3, q4, q5, q6, q7, q8, q9, q10, q11, q12, q20, q48, q49, q57, q59, q99, q100, q999, nI_add, pk_mul, q_lt0, q_lt, q_eq, q_cl, q_gd, if_true, if_false, q_ofNat, q_min, q_max, ite_self, Nat.not_lt_zero, q_e10, q_e01, eq_self, not_true_eq_false, not_false_eq_true, and_true, true_and, and_false, false_and, or_true, true_or, or_false, false_or, q_gdT, Nat.reduceEqDiff, Bool.false_eq_true, Nat.lt_irrefl, Nat.or_zero]
    · rw [q_ii, if_neg (by omega), q_ii, if_neg (by omega), q_ii, if_pos ⟨rfl, rfl⟩]; exact hf.1 p 4 d0
    · rw [q_ii, if_neg (by omega), q_ii, if_pos ⟨rfl, rfl⟩]; exact hf.1 p 5 d0
    · rw [q_ii, if_pos ⟨rfl, rfl⟩]; exact hf.1 p 6 d0
  | succ d ih =>
    intro n i y hi hn2 hf ha
    obtain ⟨n, rfl⟩ : ∃ n', n = n' + 1 := ⟨n - 1, by omega⟩
    have hi2 : i < 49 := by omega
    have ha' : ∀ j, j < i + 1 → zza (zzsa y (t + 3) i (zza y (p + 3) i)) (t + 3) j = zza x (p + 3) j := by
      intro j hj
      rw [q_aa]
      by_cases c : j = i
      · subst c
        rw [if_pos ⟨rfl, rfl⟩]; exact hf.2.1 _ _ (hd 3 (by omega))
      · rw [if_neg (fun z => c z.2)]; exact ha j (by omega)
    obtain ⟨x', e, e1, e2, e3, e4, e5⟩ := ih n (i + 1) _ (by omega) (by omega) (zFR_tr hf (zFR_a y i (zza y (p + 3) i) (show t ≤ t + 3 ∧ t + 3 < t + 4 by omega))) ha'
    refine ⟨x', ?_, e1, e2, e3, ?_, e5⟩
    · rw [← e]
      simp (disch := omega) only [f_X10_become_46, f_X10_become_46b, hl, hl2, hi2, x_read, zzbd_s, zzlt_eq, zzon_n, zzon_s, q0, q1, q2, q3, q4, q5, q6, q7, q8, q9, q10, q11, q12, q20, q48, q49, q57, q59, q99, q100, q999, nI_add, pk_mul, q_lt0, q_lt, q_eq, q_cl, q_gd, if_true, if_false, q_ofNat, q_min, q_max, ite_self, Nat.not_lt_zero, q_e10, q_e01, eq_self, not_true_eq_false, not_false_eq_true, and_true, true_and, and_false, false_and, or_true, true_or, or_false, false_or, q_gdT, Nat.reduceEqDiff, Bool.false_eq_true, Nat.lt_irrefl, Nat.or_zero]
    · intro j; rw [e4, q_aa, if_neg (by omega)]
theorem x_bec_o (ht : zztown t) (hp : zztown p) (hn : p ≠ t) : ∀ d n i y, i + d = 7 → d < n → zFR t x y → (∀ j, j < i → zzr y (t + 1) j = some ((zzr x (p + 1) j).getD (0, nI 0)) ∧ zza y (t + 2) j = zza x (p + 2) j) → ∃ x', f_X10_become_2 t p n (nI i) y = some ((), x') ∧ zFR t x x' ∧ (∀ j, j < 49 → zza x' (t + 3) j = zza x (p + 3) j) ∧ (∀ j, j < 7 → zzr x' (t + 1) j = some ((zzr x (p + 1) j).getD (0, nI 0)) ∧ zza x' (t + 2) j = zza x (p + 2) j) ∧ zzi x' t 4 = zzi x p 4 ∧ zzi x' t 5 = zzi x p 5 ∧ zzi x' t 6 = zzi x p 6 := by
  have hl := q_len2 ht
  have hl2 := q_len2 hp
  have hl3 := q_plen ht
  have hd := q_tdis ht hp hn
  intro d
  induction d with
  | zero =>
    intro n i y hi hn2 hf ha
    obtain ⟨n, rfl⟩ : ∃ n', n = n' + 1 := ⟨n - 1, by omega⟩
    have : i = 7 := by omega
    subst this
    obtain ⟨x', e, e1, e2, e3, e4, e5⟩ := x_bec_a ht hp hn 49 200 0 y (by omega) (by omega) hf (by intro j hj; omega)
    refine ⟨x', ?_, e1, e2, ?_, e5⟩
    · rw [← e]
      simp (disch := omega) only [f_X10_become_2, f_X10_become_2b, hl3, zzbd_s, zzlt_eq, zzon_n, zzon_s, q0, q1, q2, q3, q4, q5, q6, q7, q8, q9, q10, q11, q12, q20, q48, q49, q57, q59, q99, q100, q999, nI_add, pk_mul, q_lt0, q_lt, q_eq, q_cl, q_gd, if_true, if_false, q_ofNat, q_min, q_max, ite_self, Nat.not_lt_zero, q_e10, q_e01, eq_self, not_true_eq_false, not_false_eq_true, and_true, true_and, and_false, false_and, or_true, true_or, or_false, false_or, q_gdT, Nat.reduceEqDiff, Bool.false_eq_true, Nat.lt_irrefl, Nat.or_zero]
    · intro j hj; rw [e3, e4]; exact ha j hj
  | succ d ih =>
    intro n i y hi hn2 hf ha
    obtain ⟨n, rfl⟩ : ∃ n', n = n' + 1 := ⟨n - 1, by omega⟩
    have hi2 : i < 7 := by omega
    have r1 : zzr y (p + 1) i = zzr x (p + 1) i := hf.2.2.1 _ _ (hd 1 (by omega))
    have r2 : zza y (p + 2) i = zza x (p + 2) i := hf.2.1 _ _ (hd 2 (by omega))
    have ha' : ∀ j, j < i + 1 → zzr (zzsa (zzsr y (t + 1) i (some ((zzr y (p + 1) i).getD (0, nI 0)))) (t + 2) i (zza y (p + 2) i)) (t + 1) j = some ((zzr x (p + 1) j).getD (0, nI 0)) ∧ zza (zzsa (zzsr y (t + 1) i (some ((zzr y (p + 1) i).getD (0, nI 0)))) (t + 2) i (zza y (p + 2) i)) (t + 2) j = zza x (p + 2) j := by
      intro j hj
      rw [q_r_sa, q_rr, q_aa]
      by_cases c : j = i
      · subst c
        rw [if_pos ⟨rfl, rfl⟩, if_pos ⟨rfl, rfl⟩, r1, r2]; exact ⟨rfl, rfl⟩
      · rw [if_neg (fun z => c z.2), if_neg (fun z => c z.2)]; exact ha j (by omega)
    obtain ⟨x', e, e1⟩ := ih n (i + 1) _ (by omega) (by omega) (zFR_tr hf (zFR_tr (zFR_r y i _ (show t ≤ t + 1 ∧ t + 1 < t + 4 by omega)) (zFR_a _ i (zza y (p + 2) i) (show t ≤ t + 2 ∧ t + 2 < t + 4 by omega)))) ha'
    refine ⟨x', ?_, e1⟩
    rw [← e]
    simp (disch := omega) only [f_X10_become_2, f_X10_become_2b, hl, hl2, hl3, hi2, x_at_any hp, x_read, x_write, q_a_sr, zzbd_s, zzlt_eq, zzon_n, zzon_s, q0, q1, q2, q3, q4, q5, q6, q7, q8, q9, q10, q11, q12, q20, q48, q49, q57, q59, q99, q100, q999, nI_add, pk_mul, q_lt0, q_lt, q_eq, q_cl, q_gd, if_true, if_false, q_ofNat, q_min, q_max, ite_self, Nat.not_lt_zero, q_e10, q_e01, eq_self, not_true_eq_false, not_false_eq_true, and_true, true_and, and_false, false_and, or_true, true_or, or_false, false_or, q_gdT, Nat.reduceEqDiff, Bool.false_eq_true, Nat.lt_irrefl, Nat.or_zero]
theorem x_become (h : zXT x p T) (ht : zztown t) (hp : zztown p) (hn : p ≠ t) : ∃ x', f_X10_become t p x = some ((), x') ∧ zXT x' t T ∧ zFR t x x' := by
  have h7 := h.1.1
  obtain ⟨x', e, e1, e2, e3, e4, e5, e6⟩ := x_bec_o ht hp hn 7 200 0 x (by omega) (by omega) (zFR_refl t x) (by intro j hj; omega)
  refine ⟨x', e, ⟨h.1, by rw [e4]; exact h.2.1, by rw [e5]; exact h.2.2.1, by rw [e6]; exact h.2.2.2.1, ?_, ?_, ?_⟩, e1⟩
  · intro j hj
    rw [(e3 j (by omega)).1, h.2.2.2.2.1 j hj]; rfl
  · intro j hj
    rw [(e3 j hj).2]; exact h.2.2.2.2.2.1 j hj
  · intro j hj
    rw [e2 j hj]; exact h.2.2.2.2.2.2 j hj
-- the reference's
def zenc (m : zzS) (j : Nat) : Int32 := if j = 0 then zzi m 36 0 else if j = 1 then zzi m 36 5 else if j = 2 then zzi m 36 6 else if j < 24 then zza m (37 + j % 3) ((j - 3) / 3) else zza m 40 (j - 24)
theorem q_carS {y : zzS} {a c : Nat} (ha : a = 49 ∨ a = 50) (v : Int32) (h1 : zzi y 36 25 = nI 1) (h2 : zzq y 0 = some a) (h3 : zzi y 36 24 = nI c) (hc : c < 73) : f_X12_carry v y = some (v, zzsi (zzsa y a c v) 36 24 (nI (c + 1))) := by
  have hm : zzMarr a := by rcases ha with rfl | rfl <;> decide
  have hl : zzlen a = 73 := by rcases ha with rfl | rfl <;> rfl
  have g : zzi (zzsi (zzsa y a c v) 36 24 (nI (c + 1))) 36 24 = nI (c + 1) := by rw [q_ii, if_pos ⟨rfl, rfl⟩]
  have g2 : zza (zzsa y a c v) a c = v := by rw [q_aa, if_pos ⟨rfl, rfl⟩]
  simp (disch := omega) only [f_X12_carry, f_X12_carry_17, h1, h2, h3, hl, hc, zzgd_t hm, q_e1_0, q_i_sa, q_q_si, q_q_sa, q_a_si, g, g2, q_sub, Nat.add_sub_cancel, zzbd_s, zzlt_eq, zzon_n, zzon_s, q0, q1, q2, q3, q4, q5, q6, q7, q8, q9, q10, q11, q12, q20, q48, q49, q57, q59, q99, q100, q999, nI_add, pk_mul, q_lt0, q_lt, q_eq, q_cl, q_gd, if_true, if_false, q_ofNat, q_min, q_max, ite_self, Nat.not_lt_zero, q_e10, q_e01, eq_self, not_true_eq_false, not_false_eq_true, and_true, true_and, and_false, false_and, or_true, true_or, or_false, false_or, q_gdT, Nat.reduceEqDiff, Bool.false_eq_true, Nat.lt_irrefl, Nat.or_zero]
theorem q_carL {y : zzS} {a c : Nat} (ha : a = 49 ∨ a = 50) (v : Int32) (h1 : zzi y 36 25 = nI 0) (h2 : zzq y 0 = some a) (h3 : zzi y 36 24 = nI c) (hc : c < 73) : f_X12_carry v y = some (zza y a c, zzsi y 36 24 (nI (c + 1))) := by
  have hm : zzMarr a := by rcases ha with rfl | rfl <;> decide
  have hl : zzlen a = 73 := by rcases ha with rfl | rfl <;> rfl
  have g : zzi (zzsi y 36 24 (nI (c + 1))) 36 24 = nI (c + 1) := by rw [q_ii, if_pos ⟨rfl, rfl⟩]
  simp (disch := omega) only [f_X12_carry, f_X12_carry_17, h1, h2, h3, hl, hc, zzgd_t hm, q_q_si, q_a_si, g, q_sub, Nat.add_sub_cancel, zzbd_s, zzlt_eq, zzon_n, zzon_s, q0, q1, q2, q3, q4, q5, q6, q7, q8, q9, q10, q11, q12, q20, q48, q49, q57, q59, q99, q100, q999, nI_add, pk_mul, q_lt0, q_lt, q_eq, q_cl, q_gd, if_true, if_false, q_ofNat, q_min, q_max, ite_self, Nat.not_lt_zero, q_e10, q_e01, eq_self, not_true_eq_false, not_false_eq_true, and_true, true_and, and_false, false_and, or_true, true_or, or_false, false_or, q_gdT, Nat.reduceEqDiff, Bool.false_eq_true, Nat.lt_irrefl, Nat.or_zero]
abbrev zSI (m : zzS) (a c : Nat) (y : zzS) : Prop := zzi y 36 25 = nI 1 ∧ zzq y 0 = some a ∧ zzi y 36 24 = nI c ∧ (∀ j, j < c → zza y a j = zenc m j) ∧ (∀ k f, ¬ (k = 36 ∧ (f = 24 ∨ f = 25)) → zzi y k f = zzi m k f) ∧ (∀ k f, ¬ k = a → zza y k f = zza m k f) ∧ (∀ k f, zzr y k f = zzr m k f) ∧ (∀ k f, zzl y k f = zzl m k f) ∧ ∀ f, ¬ f = 0 → zzq y f = zzq m f
theorem zSI_a {m y : zzS} {a c k l : Nat} (ha : a = 49 ∨ a = 50) (h : zSI m a c y) (hk : 37 ≤ k ∧ k < 41) (he : zenc m c = zza m k l) : zSI m a (c + 1) (zzsa (zzsi (zzsa y a c (zza y k l)) 36 24 (nI (c + 1))) k l (zza y k l)) := by
  have hka : ¬ k = a := by omega
  refine ⟨?_, ?_, ?_, ?_, ?_, ?_, ?_, ?_, ?_⟩
  · rw [q_i_sa, q_ii, if_neg (by omega), q_i_sa]; exact h.1
  · rw [q_q_sa, q_q_si, q_q_sa]; exact h.2.1
  · rw [q_i_sa, q_ii, if_pos ⟨rfl, rfl⟩]
  · intro j hj
    rw [q_aa, if_neg (fun z => hka z.1.symm), q_a_si, q_aa]
    by_cases e : j = c
    · rw [if_pos ⟨rfl, e⟩, e, he]; exact h.2.2.2.2.2.1 k l hka
    · rw [if_neg (fun z => e z.2)]; exact h.2.2.2.1 j (by omega)
  · intro k' f' hc
    rw [q_i_sa, q_ii, if_neg (by omega), q_i_sa]; exact h.2.2.2.2.1 k' f' hc
  · intro k' f' hc
    rw [q_aa, q_a_si, q_aa, if_neg (show ¬ (k' = a ∧ f' = c) from fun z => hc z.1)]
    by_cases e : k' = k ∧ f' = l
    · rw [if_pos e, e.1, e.2]; exact h.2.2.2.2.2.1 k l hka
    · rw [if_neg e]; exact h.2.2.2.2.2.1 k' f' hc
  · intro k' f'; exact h.2.2.2.2.2.2.1 k' f'
  · intro k' f'; exact h.2.2.2.2.2.2.2.1 k' f'
  · intro f' hc; exact h.2.2.2.2.2.2.2.2 f' hc
theorem zSI_i {m y : zzS} {a c f : Nat} (ha : a = 49 ∨ a = 50) (h : zSI m a c y) (hf : f = 0 ∨ f = 5 ∨ f = 6) (he : zenc m c = zzi m 36 f) : zSI m a (c + 1) (zzsi (zzsi (zzsa y a c (zzi y 36 f)) 36 24 (nI (c + 1))) 36 f (zzi y 36 f)) := by
  refine ⟨?_, ?_, ?_, ?_, ?_, ?_, ?_, ?_, ?_⟩
  · rw [q_ii, if_neg (by omega), q_ii, if_neg (by omega), q_i_sa]; exact h.1
  · rw [q_q_si, q_q_si, q_q_sa]; exact h.2.1
  · rw [q_ii, if_neg (by omega), q_ii, if_pos ⟨rfl, rfl⟩]
  · intro j hj
    rw [q_a_si, q_a_si, q_aa]
    by_cases e : j = c
    · rw [if_pos ⟨rfl, e⟩, e, he]; exact h.2.2.2.2.1 36 f (by omega)
    · rw [if_neg (fun z => e z.2)]; exact h.2.2.2.1 j (by omega)
  · intro k' f' hc
    rw [q_ii]
    by_cases e : k' = 36 ∧ f' = f
    · rw [if_pos e, e.1, e.2]; exact h.2.2.2.2.1 36 f (by omega)
    · rw [if_neg e, q_ii, if_neg (by omega), q_i_sa]; exact h.2.2.2.2.1 k' f' hc
  · intro k' f' hc
    rw [q_a_si, q_a_si, q_aa, if_neg (fun z => hc z.1)]; exact h.2.2.2.2.2.1 k' f' hc
  · intro k' f'; exact h.2.2.2.2.2.2.1 k' f'
  · intro k' f'; exact h.2.2.2.2.2.2.2.1 k' f'
  · intro f' hc; exact h.2.2.2.2.2.2.2.2 f' hc
theorem zenc_a (m : zzS) (p : Nat) (hp : p < 7) : zenc m (3 + 3 * p) = zza m 37 p ∧ zenc m (3 + 3 * p + 1) = zza m 38 p ∧ zenc m (3 + 3 * p + 2) = zza m 39 p := by
  unfold zenc
  refine ⟨?_, ?_, ?_⟩
  · rw [if_neg (by omega), if_neg (by omega), if_neg (by omega), if_pos (by omega), show (3 + 3 * p) % 3 = 0 by omega, show (3 + 3 * p - 3) / 3 = p by omega]
  · rw [if_neg (by omega), if_neg (by omega), if_neg (by omega), if_pos (by omega), show (3 + 3 * p + 1) % 3 = 1 by omega, show (3 + 3 * p + 1 - 3) / 3 = p by omega]
  · rw [if_neg (by omega), if_neg (by omega), if_neg (by omega), if_pos (by omega), show (3 + 3 * p + 2) % 3 = 2 by omega, show (3 + 3 * p + 2 - 3) / 3 = p by omega]
theorem zenc_012 (m : zzS) : zenc m 0 = zzi m 36 0 ∧ zenc m 1 = zzi m 36 5 ∧ zenc m 2 = zzi m 36 6 := by
  unfold zenc
  refine ⟨if_pos rfl, ?_, ?_⟩
  · rw [if_neg (by omega), if_pos rfl]
  · rw [if_neg (by omega), if_neg (by omega), if_pos rfl]
theorem zenc_o (m : zzS) (i : Nat) : zenc m (24 + i) = zza m 40 i := by
  unfold zenc
  rw [if_neg (by omega), if_neg (by omega), if_neg (by omega), if_neg (by omega), show 24 + i - 24 = i by omega]
theorem m_st_o {a : Nat} (ha : a = 49 ∨ a = 50) (p1 : Int32) : ∀ d n i y, i + d = 49 → d < n → zSI m a (24 + i) y → ∃ y', f_X12_carryAll_115 a p1 n (nI i) y = some ((), y') ∧ zSI m a 73 y' := by
  intro d
  induction d with
  | zero =>
    intro n i y hi hn h
    obtain ⟨n, rfl⟩ : ∃ n', n = n' + 1 := ⟨n - 1, by omega⟩
    have : i = 49 := by omega
    subst this
    exact ⟨y, by simp (disch := omega) only [f_X12_carryAll_115, f_X12_carryAll_115b, zzbd_s, zzlt_eq, zzon_n, zzon_s, q0, q1, q2, q3, q4, q5, q6, q7, q8, q9, q10, q11, q12, q20, q48, q49, q57, q59, q99, q100, q999, nI_add, pk_mul, q_lt0, q_lt, q_eq, q_cl, q_gd, if_true, if_false, q_ofNat, q_min, q_max, ite_self, Nat.not_lt_zero, q_e10, q_e01, eq_self, not_true_eq_false, not_false_eq_true, and_true, true_and, and_false, false_and, or_true, true_or, or_false, false_or, q_gdT, Nat.reduceEqDiff, Bool.false_eq_true, Nat.lt_irrefl, Nat.or_zero], h⟩
  | succ d ih =>
    intro n i y hi hn h
    obtain ⟨n, rfl⟩ : ∃ n', n = n' + 1 := ⟨n - 1, by omega⟩
    have hi2 : i < 49 := by omega
    obtain ⟨y', e, e1⟩ := ih n (i + 1) _ (by omega) (by omega) (zSI_a ha (c := 24 + i) h (k := 40) (l := i) (by omega) (zenc_o m i))
    refine ⟨y', ?_, e1⟩
    rw [← e]
    simp (disch := omega) only [f_X12_carryAll_115, f_X12_carryAll_115b, hi2, q_len40, q_carS ha _ h.1 h.2.1 h.2.2.1, zzbd_s, zzlt_eq, zzon_n, zzon_s, q0, q1, q2, q3, q4, q5, q6, q7, q8, q9, q10, q11, q12, q20, q48, q49, q57, q59, q99, q100, q999, nI_add, pk_mul, q_lt0, q_lt, q_eq, q_cl, q_gd, if_true, if_false, q_ofNat, q_min, q_max, ite_self, Nat.not_lt_zero, q_e10, q_e01, eq_self, not_true_eq_false, not_false_eq_true, and_true, true_and, and_false, false_and, or_true, true_or, or_false, false_or, q_gdT, Nat.reduceEqDiff, Bool.false_eq_true, Nat.lt_irrefl, Nat.or_zero]
theorem m_st_p {a : Nat} (ha : a = 49 ∨ a = 50) (p1 : Int32) : ∀ d n i y, i + d = 7 → d < n → zSI m a (3 + 3 * i) y → ∃ y', f_X12_carryAll_53 a p1 n (nI i) y = some ((), y') ∧ zSI m a 73 y' := by
  intro d
  induction d with
  | zero =>
    intro n i y hi hn h
    obtain ⟨n, rfl⟩ : ∃ n', n = n' + 1 := ⟨n - 1, by omega⟩
    have : i = 7 := by omega
    subst this
    obtain ⟨y', e, e1⟩ := m_st_o ha p1 49 200 0 y (by omega) (by omega) h
    exact ⟨y', by rw [← e]; simp (disch := omega) only [f_X12_carryAll_53, f_X12_carryAll_53b, zzbd_s, zzlt_eq, zzon_n, zzon_s, q0, q1, q2, q3, q4, q5, q6, q7, q8, q9, q10, q11, q12, q20, q48, q49, q57, q59, q99, q100, q999, nI_add, pk_mul, q_lt0, q_lt, q_eq, q_cl, q_gd, if_true, if_false, q_ofNat, q_min, q_max, ite_self, Nat.not_lt_zero, q_e10, q_e01, eq_self, not_true_eq_false, not_false_eq_true, and_true, true_and, and_false, false_and, or_true, true_or, or_false, false_or, q_gdT, Nat.reduceEqDiff, Bool.false_eq_true, Nat.lt_irrefl, Nat.or_zero], e1⟩
  | succ d ih =>
    intro n i y hi hn h
    obtain ⟨n, rfl⟩ : ∃ n', n = n' + 1 := ⟨n - 1, by omega⟩
    have hi2 : i < 7 := by omega
    have z := zenc_a m i hi2
    have h1 := zSI_a ha h (k := 37) (l := i) (by omega) z.1
    have h2 := zSI_a ha h1 (k := 38) (l := i) (by omega) z.2.1
    have h3 := zSI_a ha h2 (k := 39) (l := i) (by omega) z.2.2
    have e0 : 3 + 3 * (i + 1) = 3 + 3 * i + 1 + 1 + 1 := by omega
    obtain ⟨y', e, e1⟩ := ih n (i + 1) _ (by omega) (by omega) (e0 ▸ h3)
    refine ⟨y', ?_, e1⟩
    rw [← e]
    simp (disch := omega) only [f_X12_carryAll_53, f_X12_carryAll_53b, hi2, q_len37, q_len38, q_len39, q_carS ha _ h.1 h.2.1 h.2.2.1, q_carS ha _ h1.1 h1.2.1 h1.2.2.1, q_carS ha _ h2.1 h2.2.1 h2.2.2.1, zzbd_s, zzlt_eq, zzon_n, zzon_s, q0, q1, q2, q3, q4, q5, q6, q7, q8, q9, q10, q11, q12, q20, q48, q49, q57, q59, q99, q100, q999, nI_add, pk_mul, q_lt0, q_lt, q_eq, q_cl, q_gd, if_true, if_false, q_ofNat, q_min, q_max, ite_self, Nat.not_lt_zero, q_e10, q_e01, eq_self, not_true_eq_false, not_false_eq_true, and_true, true_and, and_false, false_and, or_true, true_or, or_false, false_or, q_gdT, Nat.reduceEqDiff, Bool.false_eq_true, Nat.lt_irrefl, Nat.or_zero]
theorem m_st_f {m y : zzS} {a c f : Nat} (ha : a = 49 ∨ a = 50) (h : zSI m a c y) (hf : f = 0 ∨ f = 5 ∨ f = 6) (hc : c < 73) (he : zenc m c = zzi m 36 f) : ∃ y', (∀ G : zzS → Option (Unit × zzS), zzbd (f_X12_carry (zzi y 36 f) y) (fun r s => zzlt (zzsi s 36 f r) G) = G y') ∧ zSI m a (c + 1) y' := by
  refine ⟨_, ?_, zSI_i ha h hf he⟩
  intro G
  rw [q_carS ha _ h.1 h.2.1 h.2.2.1 hc, zzbd_s, zzlt_eq]
theorem m_st_0 {a : Nat} (m : zzS) : zSI m a 0 (zzsi (zzsi (zzsq m 0 (some a)) 36 25 (nI 1)) 36 24 (nI 0)) := by
  refine ⟨?_, ?_, ?_, by intro j hj; omega, ?_, ?_, ?_, ?_, ?_⟩
  · rw [q_ii, if_neg (by omega), q_ii, if_pos ⟨rfl, rfl⟩]
  · rw [q_q_si, q_q_si, q_qq, if_pos rfl]
  · rw [q_ii, if_pos ⟨rfl, rfl⟩]
  · intro k f hc
    rw [q_ii, if_neg (by omega), q_ii, if_neg (by omega), q_i_sq]
  · intro k f _
    rw [q_a_si, q_a_si, q_a_sq]
  · intro k f
    rw [q_r_si, q_r_si, q_r_sq]
  · intro k f
    rw [q_l_si, q_l_si, q_l_sq]
  · intro f hc
    rw [q_q_si, q_q_si, q_qq, if_neg hc]
theorem m_st {a : Nat} (ha : a = 49 ∨ a = 50) (m : zzS) : ∃ y', f_X12_carryAll a (nI 1) m = some ((), y') ∧ zSI m a 73 y' := by
  have h0 := m_st_0 (a := a) m
  have e0 : f_X12_carryAll a (nI 1) m = zzgd (nI 1 = 0 ∨ nI 1 = 1) (zzbd (f_X12_carry (zzi (zzsi (zzsi (zzsq m 0 (some a)) 36 25 (nI 1)) 36 24 (nI 0)) 36 0) (zzsi (zzsi (zzsq m 0 (some a)) 36 25 (nI 1)) 36 24 (nI 0))) (fun r s => zzlt (zzsi s 36 0 r) (fun s1 => zzbd (f_X12_carry (zzi s1 36 5) s1) (fun r s => zzlt (zzsi s 36 5 r) (fun s2 => zzbd (f_X12_carry (zzi s2 36 6) s2) (fun r s => zzlt (zzsi s 36 6 r) (fun s3 => f_X12_carryAll_53 a (nI 1) 200 0 s3))))))) := by
    unfold f_X12_carryAll
    simp only [zzlt_eq, q0]
  rw [e0]
  clear e0
  generalize zzsi (zzsi (zzsq m 0 (some a)) 36 25 (nI 1)) 36 24 (nI 0) = y0 at h0 ⊢
  generalize hF : f_X12_carryAll_53 a (nI 1) 200 = F
  obtain ⟨y1, g1, h1⟩ := m_st_f ha h0 (f := 0) (by omega) (by omega) (zenc_012 m).1
  obtain ⟨y2, g2, h2⟩ := m_st_f ha h1 (f := 5) (by omega) (by omega) (zenc_012 m).2.1
  obtain ⟨y3, g3, h3⟩ := m_st_f ha h2 (f := 6) (by omega) (by omega) (zenc_012 m).2.2
  obtain ⟨y', e, e1⟩ := m_st_p ha (nI 1) 7 200 0 y3 (by omega) (by omega) h3
  refine ⟨y', ?_, e1⟩
  rw [hF] at e
  rw [zzgd_t (show nI 1 = 0 ∨ nI 1 = 1 from Or.inr rfl), g1, g2, g3]
  exact e
-- and back
theorem zenc_sa (y : zzS) {c k l : Nat} (v : Int32) (hc : 3 ≤ c ∧ c < 24 ∧ k = 37 + c % 3 ∧ l = (c - 3) / 3 ∨ 24 ≤ c ∧ k = 40 ∧ l = c - 24) (j : Nat) : zenc (zzsa y k l v) j = if j = c then v else zenc y j := by
  rcases (show j = 0 ∨ j = 1 ∨ j = 2 ∨ (3 ≤ j ∧ j < 24) ∨ 24 ≤ j by omega) with e | e | e | e | e
  · subst e; rw [if_neg (by omega), (zenc_012 _).1, (zenc_012 _).1, q_i_sa]
  · subst e; rw [if_neg (by omega), (zenc_012 _).2.1, (zenc_012 _).2.1, q_i_sa]
  · subst e; rw [if_neg (by omega), (zenc_012 _).2.2, (zenc_012 _).2.2, q_i_sa]
  · have z : ∀ w : zzS, zenc w j = zza w (37 + j % 3) ((j - 3) / 3) := by
      intro w; unfold zenc; rw [if_neg (by omega), if_neg (by omega), if_neg (by omega), if_pos (by omega)]
    rw [z, z, q_aa]
    by_cases g : j = c
    · rw [if_pos (by omega), if_pos g]
    · rw [if_neg (by omega), if_neg g]
  · have z : ∀ w : zzS, zenc w j = zza w 40 (j - 24) := by
      intro w; unfold zenc; rw [if_neg (by omega), if_neg (by omega), if_neg (by omega), if_neg (by omega)]
    rw [z, z, q_aa]
    by_cases g : j = c
    · rw [if_pos (by omega), if_pos g]
    · rw [if_neg (by omega), if_neg g]
theorem zenc_si (y : zzS) {c f : Nat} (v : Int32) (hc : c = 0 ∧ f = 0 ∨ c = 1 ∧ f = 5 ∨ c = 2 ∧ f = 6 ∨ c = 100 ∧ f = 24) {j : Nat} (hj : j < 73) : zenc (zzsi y 36 f v) j = if j = c then v else zenc y j := by
  rcases (show j = 0 ∨ j = 1 ∨ j = 2 ∨ (3 ≤ j ∧ j < 24) ∨ 24 ≤ j by omega) with e | e | e | e | e
  · subst e
    rw [(zenc_012 _).1, (zenc_012 _).1, q_ii]
    by_cases g : 0 = c
    · rw [if_pos (by omega), if_pos g]
    · rw [if_neg (by omega), if_neg g]
  · subst e
    rw [(zenc_012 _).2.1, (zenc_012 _).2.1, q_ii]
    by_cases g : 1 = c
    · rw [if_pos (by omega), if_pos g]
    · rw [if_neg (by omega), if_neg g]
  · subst e
    rw [(zenc_012 _).2.2, (zenc_012 _).2.2, q_ii]
    by_cases g : 2 = c
    · rw [if_pos (by omega), if_pos g]
    · rw [if_neg (by omega), if_neg g]
  · have z : ∀ w : zzS, zenc w j = zza w (37 + j % 3) ((j - 3) / 3) := by
      intro w; unfold zenc; rw [if_neg (by omega), if_neg (by omega), if_neg (by omega), if_pos (by omega)]
    rw [z, z, q_a_si, if_neg (by omega)]
  · have z : ∀ w : zzS, zenc w j = zza w 40 (j - 24) := by
      intro w; unfold zenc; rw [if_neg (by omega), if_neg (by omega), if_neg (by omega), if_neg (by omega)]
    rw [z, z, q_a_si, if_neg (by omega)]
abbrev zLI (m : zzS) (a c : Nat) (y : zzS) : Prop := zzi y 36 25 = nI 0 ∧ zzq y 0 = some a ∧ zzi y 36 24 = nI c ∧ (∀ j, j < c → zenc y j = zza m a j) ∧ (∀ k f, ¬ (k = 36 ∧ (f = 0 ∨ f = 5 ∨ f = 6 ∨ f = 24 ∨ f = 25)) → zzi y k f = zzi m k f) ∧ (∀ k f, ¬ (37 ≤ k ∧ k < 41) → zza y k f = zza m k f) ∧ (∀ k f, zzr y k f = zzr m k f) ∧ (∀ k f, zzl y k f = zzl m k f) ∧ ∀ f, ¬ f = 0 → zzq y f = zzq m f
theorem zLI_a {m y : zzS} {a c k l : Nat} (ha : a = 49 ∨ a = 50) (h : zLI m a c y) (hc7 : c < 73) (hk : 3 ≤ c ∧ c < 24 ∧ k = 37 + c % 3 ∧ l = (c - 3) / 3 ∨ 24 ≤ c ∧ k = 40 ∧ l = c - 24) : zLI m a (c + 1) (zzsa (zzsi y 36 24 (nI (c + 1))) k l (zza y a c)) := by
  refine ⟨?_, ?_, ?_, ?_, ?_, ?_, ?_, ?_, ?_⟩
  · rw [q_i_sa, q_ii, if_neg (by omega)]; exact h.1
  · rw [q_q_sa, q_q_si]; exact h.2.1
  · rw [q_i_sa, q_ii, if_pos ⟨rfl, rfl⟩]
  · intro j hj
    rw [zenc_sa _ _ hk]
    by_cases e : j = c
    · rw [if_pos e, e]; exact h.2.2.2.2.2.1 a c (by omega)
    · rw [if_neg e, zenc_si _ _ (c := 100) (Or.inr (Or.inr (Or.inr ⟨rfl, rfl⟩))) (by omega), if_neg (by omega)]; exact h.2.2.2.1 j (by omega)
  · intro k' f' hc
    rw [q_i_sa, q_ii, if_neg (by omega)]; exact h.2.2.2.2.1 k' f' hc
  · intro k' f' hc
    rw [q_aa, if_neg (by omega), q_a_si]; exact h.2.2.2.2.2.1 k' f' hc
  · intro k' f'; exact h.2.2.2.2.2.2.1 k' f'
  · intro k' f'; exact h.2.2.2.2.2.2.2.1 k' f'
  · intro f' hc; exact h.2.2.2.2.2.2.2.2 f' hc
theorem zLI_i {m y : zzS} {a c f : Nat} (ha : a = 49 ∨ a = 50) (h : zLI m a c y) (hf : c = 0 ∧ f = 0 ∨ c = 1 ∧ f = 5 ∨ c = 2 ∧ f = 6) : zLI m a (c + 1) (zzsi (zzsi y 36 24 (nI (c + 1))) 36 f (zza y a c)) := by
  refine ⟨?_, ?_, ?_, ?_, ?_, ?_, ?_, ?_, ?_⟩
  · rw [q_ii, if_neg (by omega), q_ii, if_neg (by omega)]; exact h.1
  · rw [q_q_si, q_q_si]; exact h.2.1
  · rw [q_ii, if_neg (by omega), q_ii, if_pos ⟨rfl, rfl⟩]
  · intro j hj
    rw [zenc_si _ _ (c := c) (by omega) (by omega)]
    by_cases e : j = c
    · rw [if_pos e, e]; exact h.2.2.2.2.2.1 a c (by omega)
    · rw [if_neg e, zenc_si _ _ (c := 100) (Or.inr (Or.inr (Or.inr ⟨rfl, rfl⟩))) (by omega), if_neg (by omega)]; exact h.2.2.2.1 j (by omega)
  · intro k' f' hc
    rw [q_ii, if_neg (by omega), q_ii, if_neg (by omega)]; exact h.2.2.2.2.1 k' f' hc
  · intro k' f' hc
    rw [q_a_si, q_a_si]; exact h.2.2.2.2.2.1 k' f' hc
  · intro k' f'; exact h.2.2.2.2.2.2.1 k' f'
  · intro k' f'; exact h.2.2.2.2.2.2.2.1 k' f'
  · intro f' hc; exact h.2.2.2.2.2.2.2.2 f' hc
theorem m_ld_o {a : Nat} (ha : a = 49 ∨ a = 50) (p1 : Int32) : ∀ d n i y, i + d = 49 → d < n → zLI m a (24 + i) y → ∃ y', f_X12_carryAll_115 a p1 n (nI i) y = some ((), y') ∧ zLI m a 73 y' := by
  intro d
  induction d with
  | zero =>
    intro n i y hi hn h
    obtain ⟨n, rfl⟩ : ∃ n', n = n' + 1 := ⟨n - 1, by omega⟩
    have : i = 49 := by omega
    subst this
    exact ⟨y, by simp (disch := omega) only [f_X12_carryAll_115, f_X12_carryAll_115b, zzbd_s, zzlt_eq, zzon_n, zzon_s, q0, q1, q2, q3, q4, q5, q6, q7, q8, q9, q10, q11, q12, q20, q48, q49, q57, q59, q99, q100, q999, nI_add, pk_mul, q_lt0, q_lt, q_eq, q_cl, q_gd, if_true, if_false, q_ofNat, q_min, q_max, ite_self, Nat.not_lt_zero, q_e10, q_e01, eq_self, not_true_eq_false, not_false_eq_true, and_true, true_and, and_false, false_and, or_true, true_or, or_false, false_or, q_gdT, Nat.reduceEqDiff, Bool.false_eq_true, Nat.lt_irrefl, Nat.or_zero], h⟩
  | succ d ih =>
    intro n i y hi hn h
    obtain ⟨n, rfl⟩ : ∃ n', n = n' + 1 := ⟨n - 1, by omega⟩
    have hi2 : i < 49 := by omega
    obtain ⟨y', e, e1⟩ := ih n (i + 1) _ (by omega) (by omega) (zLI_a ha (c := 24 + i) h (by omega) (k := 40) (l := i) (by omega))
    refine ⟨y', ?_, e1⟩
    rw [← e]
    simp (disch := omega) only [f_X12_carryAll_115, f_X12_carryAll_115b, hi2, q_len40, q_carL ha _ h.1 h.2.1 h.2.2.1, zzbd_s, zzlt_eq, zzon_n, zzon_s, q0, q1, q2, q3, q4, q5, q6, q7, q8, q9, q10, q11, q12, q20, q48, q49, q57, q59, q99, q100, q999, nI_add, pk_mul, q_lt0, q_lt, q_eq, q_cl, q_gd, if_true, if_false, q_ofNat, q_min, q_max, ite_self, Nat.not_lt_zero, q_e10, q_e01, eq_self, not_true_eq_false, not_false_eq_true, and_true, true_and, and_false, false_and, or_true, true_or, or_false, false_or, q_gdT, Nat.reduceEqDiff, Bool.false_eq_true, Nat.lt_irrefl, Nat.or_zero]
theorem m_ld_p {a : Nat} (ha : a = 49 ∨ a = 50) (p1 : Int32) : ∀ d n i y, i + d = 7 → d < n → zLI m a (3 + 3 * i) y → ∃ y', f_X12_carryAll_53 a p1 n (nI i) y = some ((), y') ∧ zLI m a 73 y' := by
  intro d
  induction d with
  | zero =>
    intro n i y hi hn h
    obtain ⟨n, rfl⟩ : ∃ n', n = n' + 1 := ⟨n - 1, by omega⟩
    have : i = 7 := by omega
    subst this
    obtain ⟨y', e, e1⟩ := m_ld_o ha p1 49 200 0 y (by omega) (by omega) h
    exact ⟨y', by rw [← e]; simp (disch := omega) only [f_X12_carryAll_53, f_X12_carryAll_53b, zzbd_s, zzlt_eq, zzon_n, zzon_s, q0, q1, q2, q3, q4, q5, q6, q7, q8, q9, q10, q11, q12, q20, q48, q49, q57, q59, q99, q100, q999, nI_add, pk_mul, q_lt0, q_lt, q_eq, q_cl, q_gd, if_true, if_false, q_ofNat, q_min, q_max, ite_self, Nat.not_lt_zero, q_e10, q_e01, eq_self, not_true_eq_false, not_false_eq_true, and_true, true_and, and_false, false_and, or_true, true_or, or_false, false_or, q_gdT, Nat.reduceEqDiff, Bool.false_eq_true, Nat.lt_irrefl, Nat.or_zero], e1⟩
  | succ d ih =>
    intro n i y hi hn h
    obtain ⟨n, rfl⟩ : ∃ n', n = n' + 1 := ⟨n - 1, by omega⟩
    have hi2 : i < 7 := by omega
    have h1 := zLI_a ha h (by omega) (k := 37) (l := i) (by omega)
    have h2 := zLI_a ha h1 (by omega) (k := 38) (l := i) (by omega)
    have h3 := zLI_a ha h2 (by omega) (k := 39) (l := i) (by omega)
    have e0 : 3 + 3 * (i + 1) = 3 + 3 * i + 1 + 1 + 1 := by omega
    obtain ⟨y', e, e1⟩ := ih n (i + 1) _ (by omega) (by omega) (e0 ▸ h3)
    refine ⟨y', ?_, e1⟩
    rw [← e]
    simp (disch := omega) only [f_X12_carryAll_53, f_X12_carryAll_53b, hi2, q_len37, q_len38, q_len39, q_carL ha _ h.1 h.2.1 h.2.2.1, q_carL ha _ h1.1 h1.2.1 h1.2.2.1, q_carL ha _ h2.1 h2.2.1 h2.2.2.1, zzbd_s, zzlt_eq, zzon_n, zzon_s, q0, q1, q2, q3, q4, q5, q6, q7, q8, q9, q10, q11, q12, q20, q48, q49, q57, q59, q99, q100, q999, nI_add, pk_mul, q_lt0, q_lt, q_eq, q_cl, q_gd, if_true, if_false, q_ofNat, q_min, q_max, ite_self, Nat.not_lt_zero, q_e10, q_e01, eq_self, not_true_eq_false, not_false_eq_true, and_true, true_and, and_false, false_and, or_true, true_or, or_false, false_or, q_gdT, Nat.reduceEqDiff, Bool.false_eq_true, Nat.lt_irrefl, Nat.or_zero]
theorem m_ld_f {m y : zzS} {a c f : Nat} (ha : a = 49 ∨ a = 50) (h : zLI m a c y) (hf : c = 0 ∧ f = 0 ∨ c = 1 ∧ f = 5 ∨ c = 2 ∧ f = 6) : ∃ y', (∀ G : zzS → Option (Unit × zzS), zzbd (f_X12_carry (zzi y 36 f) y) (fun r s => zzlt (zzsi s 36 f r) G) = G y') ∧ zLI m a (c + 1) y' := by
  refine ⟨_, ?_, zLI_i ha h hf⟩
  intro G
  rw [q_carL ha _ h.1 h.2.1 h.2.2.1 (by omega), zzbd_s, zzlt_eq]
theorem m_ld_0 {a : Nat} (m : zzS) : zLI m a 0 (zzsi (zzsi (zzsq m 0 (some a)) 36 25 (nI 0)) 36 24 (nI 0)) := by
  refine ⟨?_, ?_, ?_, by intro j hj; omega, ?_, ?_, ?_, ?_, ?_⟩
  · rw [q_ii, if_neg (by omega), q_ii, if_pos ⟨rfl, rfl⟩]
  · rw [q_q_si, q_q_si, q_qq, if_pos rfl]
  · rw [q_ii, if_pos ⟨rfl, rfl⟩]
  · intro k f hc
    rw [q_ii, if_neg (by omega), q_ii, if_neg (by omega), q_i_sq]
  · intro k f _
    rw [q_a_si, q_a_si, q_a_sq]
  · intro k f
    rw [q_r_si, q_r_si, q_r_sq]
  · intro k f
    rw [q_l_si, q_l_si, q_l_sq]
  · intro f hc
    rw [q_q_si, q_q_si, q_qq, if_neg hc]
theorem m_ld {a : Nat} (ha : a = 49 ∨ a = 50) (m : zzS) : ∃ y', f_X12_carryAll a (nI 0) m = some ((), y') ∧ zLI m a 73 y' := by
  have h0 := m_ld_0 (a := a) m
  have e0 : f_X12_carryAll a (nI 0) m = zzgd (nI 0 = 0 ∨ nI 0 = 1) (zzbd (f_X12_carry (zzi (zzsi (zzsi (zzsq m 0 (some a)) 36 25 (nI 0)) 36 24 (nI 0)) 36 0) (zzsi (zzsi (zzsq m 0 (some a)) 36 25 (nI 0)) 36 24 (nI 0))) (fun r s => zzlt (zzsi s 36 0 r) (fun s1 => zzbd (f_X12_carry (zzi s1 36 5) s1) (fun r s => zzlt (zzsi s 36 5 r) (fun s2 => zzbd (f_X12_carry (zzi s2 36 6) s2) (fun r s => zzlt (zzsi s 36 6 r) (fun s3 => f_X12_carryAll_53 a (nI 0) 200 0 s3))))))) := by
    unfold f_X12_carryAll
    simp only [zzlt_eq, q0]
  rw [e0]
  clear e0
  generalize zzsi (zzsi (zzsq m 0 (some a)) 36 25 (nI 0)) 36 24 (nI 0) = y0 at h0 ⊢
  generalize hF : f_X12_carryAll_53 a (nI 0) 200 = F
  obtain ⟨y1, g1, h1⟩ := m_ld_f ha h0 (f := 0) (by omega)
  obtain ⟨y2, g2, h2⟩ := m_ld_f ha h1 (f := 5) (by omega)
  obtain ⟨y3, g3, h3⟩ := m_ld_f ha h2 (f := 6) (by omega)
  obtain ⟨y', e, e1⟩ := m_ld_p ha (nI 0) 7 200 0 y3 (by omega) (by omega) h3
  refine ⟨y', ?_, e1⟩
  rw [hF] at e
  rw [zzgd_t (show nI 0 = 0 ∨ nI 0 = 1 from Or.inl rfl), g1, g2, g3]
  exact e
/-- a store keeps the town and lays it aside; a load takes it back -/
abbrev zKF (a : Nat) (m m' : zzS) : Prop := (∀ k f, ¬ (k = 36 ∧ (f = 0 ∨ f = 5 ∨ f = 6 ∨ f = 24 ∨ f = 25)) → zzi m' k f = zzi m k f) ∧ (∀ k f, ¬ (37 ≤ k ∧ k < 41) → ¬ k = a → zza m' k f = zza m k f) ∧ (∀ k f, zzl m' k f = zzl m k f)
theorem m_store {a : Nat} (ha : a = 49 ∨ a = 50) (h : zMT m T) : ∃ m', f_X12_carryAll a (nI 1) m = some ((), m') ∧ zMT m' T ∧ zAT m' a T ∧ zKF a m m' := by
  have h7 := h.1.1
  obtain ⟨y, e, g⟩ := m_st ha m
  have g4 := g.2.2.2.1
  have g5 := g.2.2.2.2.1
  have g6 := g.2.2.2.2.2.1
  refine ⟨y, e, ⟨h.1, ?_, ?_, ?_, ?_, ?_, ?_⟩, ⟨h.1, ?_, ?_, ?_, ?_, ?_, ?_⟩, ?_, ?_, ?_⟩
  · rw [g5 36 0 (by omega)]; exact h.2.1
  · rw [g5 36 5 (by omega)]; exact h.2.2.1
  · rw [g5 36 6 (by omega)]; exact h.2.2.2.1
  · intro p hp; rw [g6 37 p (by omega), g6 38 p (by omega)]; exact h.2.2.2.2.1 p hp
  · intro p hp; rw [g6 39 p (by omega)]; exact h.2.2.2.2.2.1 p hp
  · intro p hp; rw [g6 40 p (by omega)]; exact h.2.2.2.2.2.2 p hp
  · rw [g4 0 (by omega), (zenc_012 m).1]; exact h.2.1
  · rw [g4 1 (by omega), (zenc_012 m).2.1]; exact h.2.2.1
  · rw [g4 2 (by omega), (zenc_012 m).2.2]; exact h.2.2.2.1
  · intro p hp
    have z := zenc_a m p (by omega)
    rw [g4 (3 + 3 * p) (by omega), z.1, show 4 + 3 * p = 3 + 3 * p + 1 by omega, g4 (3 + 3 * p + 1) (by omega), z.2.1]; exact h.2.2.2.2.1 p hp
  · intro p hp
    have z := zenc_a m p (by omega)
    rw [show 5 + 3 * p = 3 + 3 * p + 2 by omega, g4 (3 + 3 * p + 2) (by omega), z.2.2]; exact h.2.2.2.2.2.1 p hp
  · intro i hi; rw [g4 (24 + i) (by omega), zenc_o]; exact h.2.2.2.2.2.2 i hi
  · intro k f c; exact g5 k f (by omega)
  · intro k f c c2; exact g6 k f c2
  · exact g.2.2.2.2.2.2.2.1
theorem m_load {a : Nat} (ha : a = 49 ∨ a = 50) (h : zAT m a T) : ∃ m', f_X12_carryAll a (nI 0) m = some ((), m') ∧ zMT m' T ∧ zAT m' a T ∧ zKF a m m' := by
  have h7 := h.1.1
  obtain ⟨y, e, g⟩ := m_ld ha m
  have g4 := g.2.2.2.1
  have g5 := g.2.2.2.2.1
  have g6 := g.2.2.2.2.2.1
  have ga : ∀ j, zza y a j = zza m a j := fun j => g6 a j (by omega)
  refine ⟨y, e, ⟨h.1, ?_, ?_, ?_, ?_, ?_, ?_⟩, ⟨h.1, ?_, ?_, ?_, ?_, ?_, ?_⟩, ?_, ?_, ?_⟩
  · rw [← (zenc_012 y).1, g4 0 (by omega)]; exact h.2.1
  · rw [← (zenc_012 y).2.1, g4 1 (by omega)]; exact h.2.2.1
  · rw [← (zenc_012 y).2.2, g4 2 (by omega)]; exact h.2.2.2.1
  · intro p hp
    have z := zenc_a y p (by omega)
    rw [← z.1, ← z.2.1, g4 _ (by omega), g4 _ (by omega), show 3 + 3 * p + 1 = 4 + 3 * p by omega]; exact h.2.2.2.2.1 p hp
  · intro p hp
    have z := zenc_a y p (by omega)
    rw [← z.2.2, g4 _ (by omega), show 3 + 3 * p + 2 = 5 + 3 * p by omega]; exact h.2.2.2.2.2.1 p hp
  · intro i hi; rw [← zenc_o y, g4 _ (by omega)]; exact h.2.2.2.2.2.2 i hi
  · rw [ga]; exact h.2.1
  · rw [ga]; exact h.2.2.1
  · rw [ga]; exact h.2.2.2.1
  · intro p hp; rw [ga, ga]; exact h.2.2.2.2.1 p hp
  · intro p hp; rw [ga]; exact h.2.2.2.2.2.1 p hp
  · intro i hi; rw [ga]; exact h.2.2.2.2.2.2 i hi
  · intro k f c; exact g5 k f (by omega)
  · intro k f c c2; exact g6 k f c
  · exact g.2.2.2.2.2.2.2.1
theorem s_image : zSim f_X11_image f_X12_image := by
  intro x m ⟨⟨T, hx, hm⟩, hs, hi⟩
  have ht : zztown 20 := Or.inl rfl
  have ht2 : zztown 28 := Or.inr (Or.inr rfl)
  have hm2 : zMT (zzsi (zzsi m 36 13 (nI 0)) 36 23 (nI 1)) T := hm
  obtain ⟨x', e1, e2, e3⟩ := x_become hx ht2 ht (by omega)
  obtain ⟨m', e4, e5, e6, e7⟩ := m_store (a := 50) (Or.inr rfl) hm2
  have hx' := zXT_fr ht2 ht (by omega) hx e3
  have r1 : zzi x' 20 6 = nI (zd T) := hx'.2.2.2.1
  have r2 : zzi m' 36 6 = nI (zd T) := e5.2.2.2.1
  refine ⟨nI (zd T), zzsi x' 0 7 (nI 1), m', ?_, ?_, ⟨T, hx', e5⟩, ?_, Or.inr ⟨?_, ?_, T, e2, e6⟩⟩
  · simp (disch := omega) only [f_X11_image, e1, q_ii, r1, zzbd_s, zzlt_eq, zzon_n, zzon_s, q0, q1, q2, q3, q4, q5, q6, q7, q8, q9, q10, q11, q12, q20, q48, q49, q57, q59, q99, q100, q999, nI_add, pk_mul, q_lt0, q_lt, q_eq, q_cl, q_gd, if_true, if_false, q_ofNat, q_min, q_max, ite_self, Nat.not_lt_zero, q_e10, q_e01, eq_self, not_true_eq_false, not_false_eq_true, and_true, true_and, and_false, false_and, or_true, true_or, or_false, false_or, q_gdT, Nat.reduceEqDiff, Bool.false_eq_true, Nat.lt_irrefl, Nat.or_zero]
  · simp (disch := omega) only [f_X12_image, e4, r2, zzbd_s, zzlt_eq, zzon_n, zzon_s, q0, q1, q2, q3, q4, q5, q6, q7, q8, q9, q10, q11, q12, q20, q48, q49, q57, q59, q99, q100, q999, nI_add, pk_mul, q_lt0, q_lt, q_eq, q_cl, q_gd, if_true, if_false, q_ofNat, q_min, q_max, ite_self, Nat.not_lt_zero, q_e10, q_e01, eq_self, not_true_eq_false, not_false_eq_true, and_true, true_and, and_false, false_and, or_true, true_or, or_false, false_or, q_gdT, Nat.reduceEqDiff, Bool.false_eq_true, Nat.lt_irrefl, Nat.or_zero]
  · intro d hd
    have a1 : ∀ k, 41 ≤ k → k < 46 → zza m' k d = zza m k d := fun k h1 h2 => e7.2.1 k d (by omega) (by omega)
    have a2 : ∀ j, zzl m' 53 j = zzl m 53 j := fun j => e7.2.2 53 j
    have b1 : ∀ k f, k < 20 → ¬ (k = 0 ∧ f = 7) → zzi (zzsi x' 0 7 (nI 1)) k f = zzi x k f := fun k f h1 h2 => by rw [q_ii, if_neg h2]; exact e3.1 k f (by omega)
    rw [a1 41 (by omega) (by omega), a1 42 (by omega) (by omega), a1 43 (by omega) (by omega), a1 44 (by omega) (by omega), a1 45 (by omega) (by omega), q_r_si, e3.2.2.1 1 d (by omega), q_q_si, e3.2.2.2.2 d, b1 (4 + 2 * d) 1 (by omega) (by omega), b1 (4 + 2 * d) 2 (by omega) (by omega)]
    rcases hs d hd with h | h | ⟨h1, h2, h3, s, n, h4, h5, h6, h7, h8, h9, h10⟩
    · exact Or.inl h
    · exact Or.inr (Or.inl h)
    · exact Or.inr (Or.inr ⟨h1, h2, h3, s, n, h4, h5, h6, h7, h8, h9, fun i hi => by rw [a2, q_a_si, e3.2.1 (5 + 2 * d) i (by omega)]; exact h10 i hi⟩)
  · rw [q_ii, if_pos ⟨rfl, rfl⟩]
  · rw [e7.1 36 23 (by omega), q_ii, if_pos ⟨rfl, rfl⟩]
theorem zPM_k {m m' : zzS} (h : zKF 49 m m') : zPM m m' := ⟨h.1 _ _ (by omega), fun k f c => h.2.1 k f (by omega) (by omega), fun f => h.2.2 _ f⟩
theorem s_restore : zSim f_X11_restore f_X12_restore := by
  intro x m ⟨⟨T, hx, hm⟩, hs, hi⟩
  have ht : zztown 20 := Or.inl rfl
  have ht2 : zztown 28 := Or.inr (Or.inr rfl)
  have hm1 : zMT (zzsi m 36 13 (nI 0)) T := hm
  have p1 := zPM_13 m (nI 0)
  rcases hi with ⟨h1, h2⟩ | ⟨h1, h2, U, h3, h4⟩
  · have h2' : zzi (zzsi m 36 13 (nI 0)) 36 23 = nI 0 := h2
    refine ⟨-3, x, _, ?_, ?_, ⟨T, hx, hm1⟩, zSh_p hs (zPX_refl x) p1, Or.inl ⟨h1, h2'⟩⟩
    · simp (disch := omega) only [f_X11_restore, h1, zzbd_s, zzlt_eq, zzon_n, zzon_s, q0, q1, q2, q3, q4, q5, q6, q7, q8, q9, q10, q11, q12, q20, q48, q49, q57, q59, q99, q100, q999, nI_add, pk_mul, q_lt0, q_lt, q_eq, q_cl, q_gd, if_true, if_false, q_ofNat, q_min, q_max, ite_self, Nat.not_lt_zero, q_e10, q_e01, eq_self, not_true_eq_false, not_false_eq_true, and_true, true_and, and_false, false_and, or_true, true_or, or_false, false_or, q_gdT, Nat.reduceEqDiff, Bool.false_eq_true, Nat.lt_irrefl, Nat.or_zero]
    · simp (disch := omega) only [f_X12_restore, h2', zzbd_s, zzlt_eq, zzon_n, zzon_s, q0, q1, q2, q3, q4, q5, q6, q7, q8, q9, q10, q11, q12, q20, q48, q49, q57, q59, q99, q100, q999, nI_add, pk_mul, q_lt0, q_lt, q_eq, q_cl, q_gd, if_true, if_false, q_ofNat, q_min, q_max, ite_self, Nat.not_lt_zero, q_e10, q_e01, eq_self, not_true_eq_false, not_false_eq_true, and_true, true_and, and_false, false_and, or_true, true_or, or_false, false_or, q_gdT, Nat.reduceEqDiff, Bool.false_eq_true, Nat.lt_irrefl, Nat.or_zero]
  · have h2' : zzi (zzsi m 36 13 (nI 0)) 36 23 = nI 1 := h2
    have h4' : zAT (zzsi m 36 13 (nI 0)) 50 U := h4
    obtain ⟨x', e1, e2, e3⟩ := x_become h3 ht ht2 (by omega)
    obtain ⟨m', e4, e5, e6, e7⟩ := m_load (a := 50) (Or.inr rfl) h4'
    have hx' := zXT_fr ht ht2 (by omega) h3 e3
    have r1 : zzi x' 20 6 = nI (zd U) := e2.2.2.2.1
    have r2 : zzi m' 36 6 = nI (zd U) := e5.2.2.2.1
    have px := zPX_fr (Or.inl rfl) e3
    have z1 : zzi x' 0 7 = nI 1 := by rw [px.1 0 7 (by omega) (by omega)]; exact h1
    have z2 : zzi m' 36 23 = nI 1 := by rw [e7.1 36 23 (by omega)]; exact h2'
    refine ⟨nI (zd U), x', m', ?_, ?_, ⟨U, e2, e5⟩, ?_, Or.inr ⟨z1, z2, U, hx', e6⟩⟩
    · simp (disch := omega) only [f_X11_restore, h1, q_e1_0, e1, r1, zzbd_s, zzlt_eq, zzon_n, zzon_s, q0, q1, q2, q3, q4, q5, q6, q7, q8, q9, q10, q11, q12, q20, q48, q49, q57, q59, q99, q100, q999, nI_add, pk_mul, q_lt0, q_lt, q_eq, q_cl, q_gd, if_true, if_false, q_ofNat, q_min, q_max, ite_self, Nat.not_lt_zero, q_e10, q_e01, eq_self, not_true_eq_false, not_false_eq_true, and_true, true_and, and_false, false_and, or_true, true_or, or_false, false_or, q_gdT, Nat.reduceEqDiff, Bool.false_eq_true, Nat.lt_irrefl, Nat.or_zero]
    · simp (disch := omega) only [f_X12_restore, h2', q_e1_0, e4, r2, zzbd_s, zzlt_eq, zzon_n, zzon_s, q0, q1, q2, q3, q4, q5, q6, q7, q8, q9, q10, q11, q12, q20, q48, q49, q57, q59, q99, q100, q999, nI_add, pk_mul, q_lt0, q_lt, q_eq, q_cl, q_gd, if_true, if_false, q_ofNat, q_min, q_max, ite_self, Nat.not_lt_zero, q_e10, q_e01, eq_self, not_true_eq_false, not_false_eq_true, and_true, true_and, and_false, false_and, or_true, true_or, or_false, false_or, q_gdT, Nat.reduceEqDiff, Bool.false_eq_true, Nat.lt_irrefl, Nat.or_zero]
    · intro d hd
      have hs1 := zSh_p hs px p1 d hd
      have a1 : ∀ k, 41 ≤ k → k < 46 → zza m' k d = zza (zzsi m 36 13 (nI 0)) k d := fun k h1 h2 => e7.2.1 k d (by omega) (by omega)
      have a2 : ∀ j, zzl m' 53 j = zzl (zzsi m 36 13 (nI 0)) 53 j := fun j => e7.2.2 53 j
      rw [a1 41 (by omega) (by omega), a1 42 (by omega) (by omega), a1 43 (by omega) (by omega), a1 44 (by omega) (by omega), a1 45 (by omega) (by omega)]
      rcases hs1 with h | h | ⟨h1, h2, h3, s, n, h4, h5, h6, h7, h8, h9, h10⟩
      · exact Or.inl h
      · exact Or.inr (Or.inl h)
      · exact Or.inr (Or.inr ⟨h1, h2, h3, s, n, h4, h5, h6, h7, h8, h9, fun i hi => by rw [a2]; exact h10 i hi⟩)
end
