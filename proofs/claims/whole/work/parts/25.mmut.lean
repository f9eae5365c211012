/-! ===== the reference's town: writes ===== -/
abbrev zMF (m m' : zzS) : Prop := (∀ k f, ¬ (k = 36 ∧ (f = 0 ∨ f = 5 ∨ f = 6)) → zzi m' k f = zzi m k f) ∧ (∀ k f, ¬ (37 ≤ k ∧ k < 41) → zza m' k f = zza m k f) ∧ (∀ k f, zzr m' k f = zzr m k f) ∧ (∀ k f, zzl m' k f = zzl m k f) ∧ ∀ f, zzq m' f = zzq m f
theorem zMF_refl (x : zzS) : zMF x x := ⟨fun _ _ _ => rfl, fun _ _ _ => rfl, fun _ _ => rfl, fun _ _ => rfl, fun _ => rfl⟩
theorem zMF_tr {x y z : zzS} (h : zMF x y) (g : zMF y z) : zMF x z :=
  ⟨fun k f c => (g.1 k f c).trans (h.1 k f c), fun k f c => (g.2.1 k f c).trans (h.2.1 k f c), fun k f => (g.2.2.1 k f).trans (h.2.2.1 k f), fun k f => (g.2.2.2.1 k f).trans (h.2.2.2.1 k f), fun f => (g.2.2.2.2 f).trans (h.2.2.2.2 f)⟩
theorem zMF_i {f : Nat} (x : zzS) (v : Int32) (h : f = 0 ∨ f = 5 ∨ f = 6) : zMF x (zzsi x 36 f v) :=
  ⟨fun k' f' c => (q_ii ..).trans (if_neg (fun z : k' = 36 ∧ f' = f => c ⟨z.1, z.2.symm ▸ h⟩)), fun _ _ _ => rfl, fun _ _ => rfl, fun _ _ => rfl, fun _ => rfl⟩
theorem zMF_a {k : Nat} (x : zzS) (f : Nat) (v : Int32) (h : 37 ≤ k ∧ k < 41) : zMF x (zzsa x k f v) :=
  ⟨fun _ _ _ => rfl, fun k' f' c => (q_aa ..).trans (if_neg (fun z : k' = k ∧ f' = f => c (z.1.symm ▸ h))), fun _ _ => rfl, fun _ _ => rfl, fun _ => rfl⟩
section
variable {m : zzS} {T : zT}
theorem ms_l (h : zMT m T) {v : Nat} (hv : v ≤ 9) : zMT (zzsi m 36 5 (nI v)) (ztl T v) := by
  refine ⟨zV_l h.1 hv, ?_, ?_, ?_, h.2.2.2.2⟩
  · rw [q_ii, if_neg (by omega)]; exact h.2.1
  · rw [q_ii, if_pos ⟨rfl, rfl⟩]; rfl
  · rw [q_ii, if_neg (by omega)]; exact h.2.2.2.1
theorem ms_d (h : zMT m T) {v : Nat} (hv : v ≤ 999) : zMT (zzsi m 36 6 (nI v)) (ztd T v) := by
  refine ⟨zV_d h.1 hv, ?_, ?_, ?_, h.2.2.2.2⟩
  · rw [q_ii, if_neg (by omega)]; exact h.2.1
  · rw [q_ii, if_neg (by omega)]; exact h.2.2.1
  · rw [q_ii, if_pos ⟨rfl, rfl⟩]; rfl
theorem ms_t (h : zMT m T) {p v : Nat} (hp : p < zn T) (hv : v ≤ 9) : zMT (zzsa m 39 p (nI v)) (ztt T p v) := by
  refine ⟨zV_t h.1 hp hv, h.2.1, h.2.2.1, h.2.2.2.1, ?_, ?_, ?_⟩
  · intro q hq
    rw [q_aa, q_aa, if_neg (by omega), if_neg (by omega)]; exact h.2.2.2.2.1 q hq
  · intro q hq
    rw [q_aa, zt_t]
    by_cases e : q = p
    · rw [if_pos ⟨rfl, e⟩, if_pos e]
    · rw [if_neg (fun z => e z.2), if_neg e]; exact h.2.2.2.2.2.1 q hq
  · intro i hi
    rw [q_aa, if_neg (by omega)]; exact h.2.2.2.2.2.2 i hi
theorem ms_o (h : zMT m T) {p q v : Nat} (hp : p < zn T) (hq : q < zn T) (hv : v ≤ 9) : zMT (zzsa m 40 (7 * p + q) (nI v)) (zto T (7 * p + q) v) := by
  refine ⟨zV_o h.1 hp hq hv, h.2.1, h.2.2.1, h.2.2.2.1, ?_, ?_, ?_⟩
  · intro q hq
    rw [q_aa, q_aa, if_neg (by omega), if_neg (by omega)]; exact h.2.2.2.2.1 q hq
  · intro i hi
    rw [q_aa, if_neg (by omega)]; exact h.2.2.2.2.2.1 i hi
  · intro j hj
    rw [q_aa, zo_o]
    by_cases e : j = 7 * p + q
    · rw [if_pos ⟨rfl, e⟩, if_pos e]
    · rw [if_neg (fun z => e z.2), if_neg e]; exact h.2.2.2.2.2.2 j hj
theorem m_growX (h : zMT m T) {p q : Nat} (hp : p < zn T) (hq : q < zn T) : f_X12_grow (nI p) (nI q) m = some ((), zzsa m 40 (7 * p + q) (nI (min 9 (zo T (7 * p + q) + zgr T p)))) := by
  have h7 := h.1.1
  have hk := h.1.2.2.2.1 p hp
  have ho := h.1.2.2.2.2.2.1 (7 * p + q) (by omega)
  have hg := q_grows T p hk.1 hk.2
  simp (disch := omega) only [f_X12_grow, m_grows h hp, h.2.2.2.2.2.2, q_len40, m_lesser, zzbd_s, zzlt_eq, zzon_n, zzon_s, q0, q1, q2, q3, q4, q5, q6, q7, q8, q9, q10, q11, q12, q20, q48, q49, q57, q59, q99, q100, q999, nI_add, pk_mul, q_lt0, q_lt, q_eq, q_cl, q_gd, if_true, if_false, q_ofNat, q_min, q_max, ite_self, Nat.not_lt_zero, q_e10, q_e01, eq_self, not_true_eq_false, not_false_eq_true, and_true, true_and, and_false, false_and, or_true, true_or, or_false, false_or, q_gdT, Nat.reduceEqDiff, Bool.false_eq_true, Nat.lt_irrefl, Nat.or_zero]
theorem m_growT (h : zMT m T) {p q : Nat} (hp : p < zn T) (hq : q < zn T) : ∃ m', f_X12_grow (nI p) (nI q) m = some ((), m') ∧ zMT m' (zgrow T p q) ∧ zMF m m' :=
  ⟨_, m_growX h hp hq, ms_o h hp hq (Nat.min_le_left _ _), zMF_a _ _ _ (by omega)⟩
theorem m_turnT (h : zMT m T) {p q : Nat} (hp : p < zn T) (hq : q < zn T) : ∃ m', f_X12_turnCards (nI p) (nI q) m = some ((), m') ∧ zMT m' (zturn T p q) ∧ zMF m m' := by
  have h7 := h.1.1
  have hk := h.1.2.2.2.1 p hp
  have ho := h.1.2.2.2.2.1 q (by omega)
  have hg := q_turns T p hk.1 hk.2
  have h1 := ms_t h hq (Nat.min_le_left 9 (zt T q + ztu T p))
  obtain ⟨m', e, e1, e2⟩ := m_growT h1 (p := p) (q := q) hp hq
  refine ⟨m', ?_, e1, zMF_tr (zMF_a _ _ _ (by omega)) e2⟩
  simp (disch := omega) only [f_X12_turnCards, m_turnsv h hp, h.2.2.2.2.2.1, q_len39, m_lesser, e, zzbd_s, zzlt_eq, zzon_n, zzon_s, q0, q1, q2, q3, q4, q5, q6, q7, q8, q9, q10, q11, q12, q20, q48, q49, q57, q59, q99, q100, q999, nI_add, pk_mul, q_lt0, q_lt, q_eq, q_cl, q_gd, if_true, if_false, q_ofNat, q_min, q_max, ite_self, Nat.not_lt_zero, q_e10, q_e01, eq_self, not_true_eq_false, not_false_eq_true, and_true, true_and, and_false, false_and, or_true, true_or, or_false, false_or, q_gdT, Nat.reduceEqDiff, Bool.false_eq_true, Nat.lt_irrefl, Nat.or_zero]
theorem m_can (h : zMT m T) {p q : Nat} (hp : p < zn T) (hq : q < zn T) [Decidable (zmay T (zl T) p q ∧ zt T q < 9)] : f_X12_canTurn (nI p) (nI q) m = some (if zmay T (zl T) p q ∧ zt T q < 9 then nI 1 else nI 0, m) := by
  have h7 := h.1.1
  have ho := h.1.2.2.2.2.1 q (by omega)
  haveI : Decidable (zmay T (zl T) p q) := Classical.propDecidable _
  by_cases c : zmay T (zl T) p q
  · by_cases c2 : zt T q < 9
    · simp (disch := omega) only [f_X12_canTurn, m_may h hp hq, h.2.2.2.2.2.1, q_len39, c, c2, q_e1_0, zzbd_s, zzlt_eq, zzon_n, zzon_s, q0, q1, q2, q3, q4, q5, q6, q7, q8, q9, q10, q11, q12, q20, q48, q49, q57, q59, q99, q100, q999, nI_add, pk_mul, q_lt0, q_lt, q_eq, q_cl, q_gd, if_true, if_false, q_ofNat, q_min, q_max, ite_self, Nat.not_lt_zero, q_e10, q_e01, eq_self, not_true_eq_false, not_false_eq_true, and_true, true_and, and_false, false_and, or_true, true_or, or_false, false_or, q_gdT, Nat.reduceEqDiff, Bool.false_eq_true, Nat.lt_irrefl, Nat.or_zero]
    · simp (disch := omega) only [f_X12_canTurn, m_may h hp hq, h.2.2.2.2.2.1, q_len39, c, c2, q_e1_0, zzbd_s, zzlt_eq, zzon_n, zzon_s, q0, q1, q2, q3, q4, q5, q6, q7, q8, q9, q10, q11, q12, q20, q48, q49, q57, q59, q99, q100, q999, nI_add, pk_mul, q_lt0, q_lt, q_eq, q_cl, q_gd, if_true, if_false, q_ofNat, q_min, q_max, ite_self, Nat.not_lt_zero, q_e10, q_e01, eq_self, not_true_eq_false, not_false_eq_true, and_true, true_and, and_false, false_and, or_true, true_or, or_false, false_or, q_gdT, Nat.reduceEqDiff, Bool.false_eq_true, Nat.lt_irrefl, Nat.or_zero]
  · simp (disch := omega) only [f_X12_canTurn, m_may h hp hq, c, zzbd_s, zzlt_eq, zzon_n, zzon_s, q0, q1, q2, q3, q4, q5, q6, q7, q8, q9, q10, q11, q12, q20, q48, q49, q57, q59, q99, q100, q999, nI_add, pk_mul, q_lt0, q_lt, q_eq, q_cl, q_gd, if_true, if_false, q_ofNat, q_min, q_max, ite_self, Nat.not_lt_zero, q_e10, q_e01, eq_self, not_true_eq_false, not_false_eq_true, and_true, true_and, and_false, false_and, or_true, true_or, or_false, false_or, q_gdT, Nat.reduceEqDiff, Bool.false_eq_true, Nat.lt_irrefl, Nat.or_zero]
theorem m_daysT (h : zMT m T) {v : Nat} (h1 : 0 < v) (h2 : zd T + v ≤ 999) : f_X12_daysPass (nI v) m = some (nI 1, zzsi m 36 6 (nI (zd T + v))) := by
  have h9 := h.1.2.2.1
  have c : ¬ 999 < zd T + v := by omega
  simp (disch := omega) only [f_X12_daysPass, f_X12_daysPass_21, f_X12_daysPass_36, h1, h.2.2.2.1, c, q_gd1, q_e1_0, zzbd_s, zzlt_eq, zzon_n, zzon_s, q0, q1, q2, q3, q4, q5, q6, q7, q8, q9, q10, q11, q12, q20, q48, q49, q57, q59, q99, q100, q999, nI_add, pk_mul, q_lt0, q_lt, q_eq, q_cl, q_gd, if_true, if_false, q_ofNat, q_min, q_max, ite_self, Nat.not_lt_zero, q_e10, q_e01, eq_self, not_true_eq_false, not_false_eq_true, and_true, true_and, and_false, false_and, or_true, true_or, or_false, false_or, q_gdT, Nat.reduceEqDiff, Bool.false_eq_true, Nat.lt_irrefl, Nat.or_zero]
theorem m_daysN (h : zMT m T) {v : Nat} (hv : v < 2000000) (h1 : v = 0 ∨ 999 < zd T + v) : f_X12_daysPass (nI v) m = some (nI 0, m) := by
  have h9 := h.1.2.2.1
  have e0 : zzsi m 36 6 (nI (zd T)) = m := by
    have : zzi m 36 6 = nI (zd T) := h.2.2.2.1
    rw [← this]
    unfold zzsi zzi
    have : zzu m.1 36 6 (m.1 36 6) = m.1 := by
      funext k f
      unfold zzu
      split
      next c => rw [c.1, c.2]
      next => rfl
    rw [this]
  rcases Nat.eq_zero_or_pos v with e | e
  · subst e
    simp (disch := omega) only [f_X12_daysPass, f_X12_daysPass_20, f_X12_daysPass_21, f_X12_daysPass_36, h.2.2.2.1, q_gd0, Nat.lt_irrefl, Nat.add_zero, e0, zzbd_s, zzlt_eq, zzon_n, zzon_s, q0, q1, q2, q3, q4, q5, q6, q7, q8, q9, q10, q11, q12, q20, q48, q49, q57, q59, q99, q100, q999, nI_add, pk_mul, q_lt0, q_lt, q_eq, q_cl, q_gd, if_true, if_false, q_ofNat, q_min, q_max, ite_self, Nat.not_lt_zero, q_e10, q_e01, eq_self, not_true_eq_false, not_false_eq_true, and_true, true_and, and_false, false_and, or_true, true_or, or_false, false_or, q_gdT, Nat.reduceEqDiff, Bool.false_eq_true, Nat.lt_irrefl, Nat.or_zero]
  · have c : 999 < zd T + v := by omega
    simp (disch := omega) only [f_X12_daysPass, f_X12_daysPass_20, f_X12_daysPass_21, f_X12_daysPass_36, e, h.2.2.2.1, c, q_gd0, Nat.add_zero, e0, zzbd_s, zzlt_eq, zzon_n, zzon_s, q0, q1, q2, q3, q4, q5, q6, q7, q8, q9, q10, q11, q12, q20, q48, q49, q57, q59, q99, q100, q999, nI_add, pk_mul, q_lt0, q_lt, q_eq, q_cl, q_gd, if_true, if_false, q_ofNat, q_min, q_max, ite_self, Nat.not_lt_zero, q_e10, q_e01, eq_self, not_true_eq_false, not_false_eq_true, and_true, true_and, and_false, false_and, or_true, true_or, or_false, false_or, q_gdT, Nat.reduceEqDiff, Bool.false_eq_true, Nat.lt_irrefl, Nat.or_zero]
theorem m_canT (h : zMT m T) {p q : Nat} (hp : p < zn T) (hq : q < zn T) (hm : zmay T (zl T) p q) (hc : zt T q < 9) (hd : zd T < 999) : ∃ m', f_X12_turning (nI p) (nI q) m = some (nI 1, m') ∧ zMT m' (ztd (zturn T p q) (zd T + 1)) ∧ zMF m m' := by
  have h7 := h.1.1
  haveI : Decidable (zmay T (zl T) p q ∧ zt T q < 9) := isTrue ⟨hm, hc⟩
  have h1 : zMT (zzsi m 36 6 (nI (zd T + 1))) (ztd T (zd T + 1)) := ms_d h (by omega)
  obtain ⟨m', e, e1, e2⟩ := m_turnT h1 (p := p) (q := q) hp hq
  refine ⟨m', ?_, e1, zMF_tr (zMF_i _ _ (by omega)) e2⟩
  have hn := hm.1
  simp (disch := omega) only [f_X12_turning, f_X12_turning_31, m_two h hp hq, hn, m_can h hp hq, hm, hc, m_daysT h, e, q_gd1, q_e1_0, zzbd_s, zzlt_eq, zzon_n, zzon_s, q0, q1, q2, q3, q4, q5, q6, q7, q8, q9, q10, q11, q12, q20, q48, q49, q57, q59, q99, q100, q999, nI_add, pk_mul, q_lt0, q_lt, q_eq, q_cl, q_gd, if_true, if_false, q_ofNat, q_min, q_max, ite_self, Nat.not_lt_zero, q_e10, q_e01, eq_self, not_true_eq_false, not_false_eq_true, and_true, true_and, and_false, false_and, or_true, true_or, or_false, false_or, q_gdT, Nat.reduceEqDiff, Bool.false_eq_true, Nat.lt_irrefl, Nat.or_zero]
theorem m_canN (h : zMT m T) {p q : Nat} (hp : p < zn T) (hq : q < zn T) (hc : ¬ (zmay T (zl T) p q ∧ zt T q < 9 ∧ zd T < 999)) : f_X12_turning (nI p) (nI q) m = some (nI 0, m) := by
  have h7 := h.1.1
  have h9 := h.1.2.2.1
  haveI : Decidable (zmay T (zl T) p q ∧ zt T q < 9) := Classical.propDecidable _
  by_cases e : p = q
  · subst e
    simp (disch := omega) only [f_X12_turning, f_X12_turning_30, f_X12_turning_31, m_two h hp hp, q_gd0, zzbd_s, zzlt_eq, zzon_n, zzon_s, q0, q1, q2, q3, q4, q5, q6, q7, q8, q9, q10, q11, q12, q20, q48, q49, q57, q59, q99, q100, q999, nI_add, pk_mul, q_lt0, q_lt, q_eq, q_cl, q_gd, if_true, if_false, q_ofNat, q_min, q_max, ite_self, Nat.not_lt_zero, q_e10, q_e01, eq_self, not_true_eq_false, not_false_eq_true, and_true, true_and, and_false, false_and, or_true, true_or, or_false, false_or, q_gdT, Nat.reduceEqDiff, Bool.false_eq_true, Nat.lt_irrefl, Nat.or_zero]
  · by_cases c : zmay T (zl T) p q ∧ zt T q < 9
    · have hd : 999 < zd T + 1 := by
        have : ¬ zd T < 999 := fun z => hc ⟨c.1, c.2, z⟩
        omega
      simp (disch := omega) only [f_X12_turning, f_X12_turning_30, f_X12_turning_31, m_two h hp hq, e, m_can h hp hq, c.1, c.2, m_daysN h (v := 1) (by omega) (Or.inr hd), q_gd0, q_e1_0, zzbd_s, zzlt_eq, zzon_n, zzon_s, q0, q1, q2, q3, q4, q5, q6, q7, q8, q9, q10, q11, q12, q20, q48, q49, q57, q59, q99, q100, q999, nI_add, pk_mul, q_lt0, q_lt, q_eq, q_cl, q_gd, if_true, if_false, q_ofNat, q_min, q_max, ite_self, Nat.not_lt_zero, q_e10, q_e01, eq_self, not_true_eq_false, not_false_eq_true, and_true, true_and, and_false, false_and, or_true, true_or, or_false, false_or, q_gdT, Nat.reduceEqDiff, Bool.false_eq_true, Nat.lt_irrefl, Nat.or_zero]
    · simp (disch := omega) only [f_X12_turning, f_X12_turning_30, f_X12_turning_31, m_two h hp hq, e, m_can h hp hq, c, q_gd0, q_e1_0, zzbd_s, zzlt_eq, zzon_n, zzon_s, q0, q1, q2, q3, q4, q5, q6, q7, q8, q9, q10, q11, q12, q20, q48, q49, q57, q59, q99, q100, q999, nI_add, pk_mul, q_lt0, q_lt, q_eq, q_cl, q_gd, if_true, if_false, q_ofNat, q_min, q_max, ite_self, Nat.not_lt_zero, q_e10, q_e01, eq_self, not_true_eq_false, not_false_eq_true, and_true, true_and, and_false, false_and, or_true, true_or, or_false, false_or, q_gdT, Nat.reduceEqDiff, Bool.false_eq_true, Nat.lt_irrefl, Nat.or_zero]
-- someone comes: the zeros are laid anew
theorem m_come_loop (hn : zn T < 7) (p0 p1 : Int32) : ∀ d n i m, d + i = 7 → d < n → (∀ p q, p < 7 → q < 7 → zza m 40 (7 * p + q) = nI (zo T (7 * p + q))) → zzi m 36 0 = nI (zn T) → zV T → ∃ m', f_X12_personComes_58 p0 p1 n (nI 1) (nI i) m = some (nI 1, m') ∧ zzi m' 36 0 = nI (zn T + 1) ∧ (∀ p q, p < 7 → q < 7 → zza m' 40 (7 * p + q) = nI (zo T (7 * p + q))) ∧ (∀ k f, ¬ (k = 36 ∧ f = 0) → zzi m' k f = zzi m k f) ∧ (∀ k f, ¬ k = 40 → zza m' k f = zza m k f) ∧ (∀ k f, zzr m' k f = zzr m k f) ∧ (∀ k f, zzl m' k f = zzl m k f) ∧ ∀ f, zzq m' f = zzq m f := by
  intro d
  induction d with
  | zero =>
    intro n i m hi hn1 ho h0 hv
    obtain ⟨n, rfl⟩ : ∃ n', n = n' + 1 := ⟨n - 1, by omega⟩
    have hi7 : i = 7 := by omega
    subst hi7
    refine ⟨zzsi m 36 0 (nI (zn T + 1)), ?_, ?_, ho, ?_, fun _ _ _ => rfl, fun _ _ => rfl, fun _ _ => rfl, fun _ => rfl⟩
    · simp (disch := omega) only [f_X12_personComes_58, f_X12_personComes_58b, h0, Nat.lt_irrefl, q_gd1, zzbd_s, zzlt_eq, zzon_n, zzon_s, q0, q1, q2, q3, q4, q5, q6, q7, q8, q9, q10, q11, q12, q20, q48, q49, q57, q59, q99, q100, q999, nI_add, pk_mul, q_lt0, q_lt, q_eq, q_cl, q_gd, if_true, if_false, q_ofNat, q_min, q_max, ite_self, Nat.not_lt_zero, q_e10, q_e01, eq_self, not_true_eq_false, not_false_eq_true, and_true, true_and, and_false, false_and, or_true, true_or, or_false, false_or, q_gdT, Nat.reduceEqDiff, Bool.false_eq_true, Nat.lt_irrefl, Nat.or_zero]
    · rw [q_ii, if_pos ⟨rfl, rfl⟩]
    · intro k f c; rw [q_ii, if_neg c]
  | succ d ih =>
    intro n i m hi hn1 ho h0 hv
    obtain ⟨n, rfl⟩ : ∃ n', n = n' + 1 := ⟨n - 1, by omega⟩
    have hi7 : i < 7 := by omega
    have ho' : ∀ p q, p < 7 → q < 7 → zza (zzsa (zzsa m 40 (7 * zn T + i) (nI 0)) 40 (7 * i + zn T) (nI 0)) 40 (7 * p + q) = nI (zo T (7 * p + q)) := by
      intro p q hp hq
      rw [q_aa, q_aa]
      by_cases c1 : 7 * p + q = 7 * i + zn T
      · rw [if_pos ⟨rfl, c1⟩, hv.2.2.2.2.2.2.2 p q hp hq (by omega)]
      · rw [if_neg (fun z => c1 z.2)]
        by_cases c2 : 7 * p + q = 7 * zn T + i
        · rw [if_pos ⟨rfl, c2⟩, hv.2.2.2.2.2.2.2 p q hp hq (by omega)]
        · rw [if_neg (fun z => c2 z.2)]; exact ho p q hp hq
    obtain ⟨m', e, e0, e1, e2, e3, e4⟩ := ih n (i + 1) _ (by omega) (by omega) ho' h0 hv
    refine ⟨m', ?_, e0, e1, e2, ?_, e4⟩
    · rw [← e]
      simp (disch := omega) only [f_X12_personComes_58, f_X12_personComes_58b, h0, hi7, q_len40, q_i_sa, zzbd_s, zzlt_eq, zzon_n, zzon_s, q0, q1, q2, q3, q4, q5, q6, q7, q8, q9, q10, q11, q12, q20, q48, q49, q57, q59, q99, q100, q999, nI_add, pk_mul, q_lt0, q_lt, q_eq, q_cl, q_gd, if_true, if_false, q_ofNat, q_min, q_max, ite_self, Nat.not_lt_zero, q_e10, q_e01, eq_self, not_true_eq_false, not_false_eq_true, and_true, true_and, and_false, false_and, or_true, true_or, or_false, false_or, q_gdT, Nat.reduceEqDiff, Bool.false_eq_true, Nat.lt_irrefl, Nat.or_zero]
    · intro k f c; rw [e3 k f c, q_aa, q_aa, if_neg (fun z => c z.1), if_neg (fun z => c z.1)]
theorem m_comeT (h : zMT m T) (hn : zn T < 7) {k f : Nat} (hk : k < 8) (hf : f ≤ 9) : ∃ m', f_X12_personComes (nI k) (nI f) m = some (nI 1, m') ∧ zMT m' (zta T k f) ∧ zMF m m' := by
  have h1 : ∀ p q, p < 7 → q < 7 → zza (zzsa (zzsa (zzsa m 37 (zn T) (nI k)) 38 (zn T) (nI f)) 39 (zn T) (nI 0)) 40 (7 * p + q) = nI (zo T (7 * p + q)) := by
    intro p q hp hq
    rw [q_aa, q_aa, q_aa, if_neg (by omega), if_neg (by omega), if_neg (by omega)]
    exact h.2.2.2.2.2.2 _ (by omega)
  obtain ⟨m', e, e0, e1, e2, e3, e4, e5, e6⟩ := m_come_loop hn (nI k) (nI f) 7 200 0 _ (by omega) (by omega) h1 h.2.1 h.1
  have en : zn (zta T k f) = zn T + 1 := rfl
  refine ⟨m', ?_, ⟨zV_a h.1 hn hk hf, e0, ?_, ?_, ?_, ?_, ?_⟩, ?_, ?_, ?_, ?_, ?_⟩
  · rw [← e]
    simp (disch := omega) only [f_X12_personComes, f_X12_personComes_20, h.2.1, hk, hn, q_i_sa, q_len37, q_len38, q_len39, q_e1_0, zzbd_s, zzlt_eq, zzon_n, zzon_s, q0, q1, q2, q3, q4, q5, q6, q7, q8, q9, q10, q11, q12, q20, q48, q49, q57, q59, q99, q100, q999, nI_add, pk_mul, q_lt0, q_lt, q_eq, q_cl, q_gd, if_true, if_false, q_ofNat, q_min, q_max, ite_self, Nat.not_lt_zero, q_e10, q_e01, eq_self, not_true_eq_false, not_false_eq_true, and_true, true_and, and_false, false_and, or_true, true_or, or_false, false_or, q_gdT, Nat.reduceEqDiff, Bool.false_eq_true, Nat.lt_irrefl, Nat.or_zero]
  · rw [e2 _ _ (by omega), q_i_sa, q_i_sa, q_i_sa]; exact h.2.2.1
  · rw [e2 _ _ (by omega), q_i_sa, q_i_sa, q_i_sa]; exact h.2.2.2.1
  · intro p hp
    have g1 : zk (zta T k f) p = if p = zn T then k else zk T p := rfl
    have g2 : zf (zta T k f) p = if p = zn T then f else zf T p := rfl
    rw [e3 37 _ (by omega), e3 38 _ (by omega), g1, g2]
    by_cases c : p = zn T
    · subst c
      rw [if_pos rfl, if_pos rfl]
      exact ⟨by rw [q_aa, q_aa, q_aa, if_neg (by omega), if_neg (by omega), if_pos ⟨rfl, rfl⟩], by rw [q_aa, q_aa, if_neg (by omega), if_pos ⟨rfl, rfl⟩]⟩
    · rw [if_neg c, if_neg c]
      have := h.2.2.2.2.1 p (by omega)
      exact ⟨by rw [q_aa, q_aa, q_aa, if_neg (by omega), if_neg (by omega), if_neg (by omega)]; exact this.1, by rw [q_aa, q_aa, q_aa, if_neg (by omega), if_neg (by omega), if_neg (by omega)]; exact this.2⟩
  · intro p hp
    have g1 : zt (zta T k f) p = zt T p := rfl
    rw [e3 39 _ (by omega), g1, q_aa]
    by_cases c : p = zn T
    · subst c
      rw [if_pos ⟨rfl, rfl⟩, h.1.2.2.2.2.2.2.1 _ hp (Nat.le_refl _)]
    · rw [if_neg (by omega), q_aa, q_aa, if_neg (by omega), if_neg (by omega)]
      exact h.2.2.2.2.2.1 p hp
  · intro i hi
    have g1 : zo (zta T k f) i = zo T i := rfl
    have := e1 (i / 7) (i % 7) (by omega) (by omega)
    rw [show 7 * (i / 7) + i % 7 = i by omega] at this
    rw [this, g1]
  · intro k f c; rw [e2 k f (by omega)]; rfl
  · intro k f c
    rw [e3 k f (by omega), q_aa, q_aa, q_aa, if_neg (by omega), if_neg (by omega), if_neg (by omega)]
  · intro k f; rw [e4]; rfl
  · intro k f; rw [e5]; rfl
  · intro f; rw [e6]; rfl
theorem m_comeN (h : zMT m T) {k f : Nat} (hk : k < 10) (hn : ¬ (k < 8 ∧ zn T < 7)) : f_X12_personComes (nI k) (nI f) m = some (nI 0, m) := by
  have h7 := h.1.1
  by_cases c : k < 8
  · have c2 : ¬ zn T < 7 := fun z => hn ⟨c, z⟩
    simp (disch := omega) only [f_X12_personComes, f_X12_personComes_19, f_X12_personComes_20, c, c2, h.2.1, q_gd0, zzbd_s, zzlt_eq, zzon_n, zzon_s, q0, q1, q2, q3, q4, q5, q6, q7, q8, q9, q10, q11, q12, q20, q48, q49, q57, q59, q99, q100, q999, nI_add, pk_mul, q_lt0, q_lt, q_eq, q_cl, q_gd, if_true, if_false, q_ofNat, q_min, q_max, ite_self, Nat.not_lt_zero, q_e10, q_e01, eq_self, not_true_eq_false, not_false_eq_true, and_true, true_and, and_false, false_and, or_true, true_or, or_false, false_or, q_gdT, Nat.reduceEqDiff, Bool.false_eq_true, Nat.lt_irrefl, Nat.or_zero]
  · simp (disch := omega) only [f_X12_personComes, f_X12_personComes_19, f_X12_personComes_20, c, q_gd0, zzbd_s, zzlt_eq, zzon_n, zzon_s, q0, q1, q2, q3, q4, q5, q6, q7, q8, q9, q10, q11, q12, q20, q48, q49, q57, q59, q99, q100, q999, nI_add, pk_mul, q_lt0, q_lt, q_eq, q_cl, q_gd, if_true, if_false, q_ofNat, q_min, q_max, ite_self, Nat.not_lt_zero, q_e10, q_e01, eq_self, not_true_eq_false, not_false_eq_true, and_true, true_and, and_false, false_and, or_true, true_or, or_false, false_or, q_gdT, Nat.reduceEqDiff, Bool.false_eq_true, Nat.lt_irrefl, Nat.or_zero]
end
