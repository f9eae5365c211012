/-! ===== the class's town: writes ===== -/
def zgrow (T : zT) (p q : Nat) : zT := zto T (7 * p + q) (min 9 (zo T (7 * p + q) + zgr T p))
def zturn (T : zT) (p q : Nat) : zT := zgrow (ztt T q (min 9 (zt T q + ztu T p))) p q
abbrev zFR (t : Nat) (x x' : zzS) : Prop := (∀ k f, ¬ (t ≤ k ∧ k < t + 4) → zzi x' k f = zzi x k f) ∧ (∀ k f, ¬ (t ≤ k ∧ k < t + 4) → zza x' k f = zza x k f) ∧ (∀ k f, ¬ (t ≤ k ∧ k < t + 4) → zzr x' k f = zzr x k f) ∧ (∀ k f, zzl x' k f = zzl x k f) ∧ ∀ f, zzq x' f = zzq x f
theorem zFR_refl (t : Nat) (x : zzS) : zFR t x x := ⟨fun _ _ _ => rfl, fun _ _ _ => rfl, fun _ _ _ => rfl, fun _ _ => rfl, fun _ => rfl⟩
theorem zFR_tr {t : Nat} {x y z : zzS} (h : zFR t x y) (g : zFR t y z) : zFR t x z :=
  ⟨fun k f c => (g.1 k f c).trans (h.1 k f c), fun k f c => (g.2.1 k f c).trans (h.2.1 k f c), fun k f c => (g.2.2.1 k f c).trans (h.2.2.1 k f c), fun k f => (g.2.2.2.1 k f).trans (h.2.2.2.1 k f), fun f => (g.2.2.2.2 f).trans (h.2.2.2.2 f)⟩
theorem zFR_i {t k : Nat} (x : zzS) (f : Nat) (v : Int32) (h : t ≤ k ∧ k < t + 4) : zFR t x (zzsi x k f v) :=
  ⟨fun k' f' c => (q_ii ..).trans (if_neg (fun z : k' = k ∧ f' = f => c (z.1.symm ▸ h))), fun _ _ _ => rfl, fun _ _ _ => rfl, fun _ _ => rfl, fun _ => rfl⟩
theorem zFR_a {t k : Nat} (x : zzS) (f : Nat) (v : Int32) (h : t ≤ k ∧ k < t + 4) : zFR t x (zzsa x k f v) :=
  ⟨fun _ _ _ => rfl, fun k' f' c => (q_aa ..).trans (if_neg (fun z : k' = k ∧ f' = f => c (z.1.symm ▸ h))), fun _ _ _ => rfl, fun _ _ => rfl, fun _ => rfl⟩
theorem zFR_r {t k : Nat} (x : zzS) (f : Nat) (v : Option (Nat × Int32)) (h : t ≤ k ∧ k < t + 4) : zFR t x (zzsr x k f v) :=
  ⟨fun _ _ _ => rfl, fun _ _ _ => rfl, fun k' f' c => (q_rr ..).trans (if_neg (fun z : k' = k ∧ f' = f => c (z.1.symm ▸ h))), fun _ _ => rfl, fun _ => rfl⟩
/-- a town elsewhere stays -/
theorem zXT_fr {t u : Nat} {x x' : zzS} {T : zT} (ht : zztown t) (hu : zztown u) (hn : u ≠ t) (h : zXT x u T) (g : zFR t x x') : zXT x' u T := by
  have c : ∀ j, j < 4 → ¬ (t ≤ u + j ∧ u + j < t + 4) := by
    intro j hj
    rcases ht with rfl | rfl | rfl <;> rcases hu with rfl | rfl | rfl <;> omega
  refine ⟨h.1, ?_, ?_, ?_, ?_, ?_, ?_⟩
  · rw [g.1 u 4 (c 0 (by omega))]; exact h.2.1
  · rw [g.1 u 5 (c 0 (by omega))]; exact h.2.2.1
  · rw [g.1 u 6 (c 0 (by omega))]; exact h.2.2.2.1
  · intro p hp; rw [g.2.2.1 (u + 1) p (c 1 (by omega))]; exact h.2.2.2.2.1 p hp
  · intro p hp; rw [g.2.1 (u + 2) p (c 2 (by omega))]; exact h.2.2.2.2.2.1 p hp
  · intro p hp; rw [g.2.1 (u + 3) p (c 3 (by omega))]; exact h.2.2.2.2.2.2 p hp
theorem zV_l {T : zT} (h : zV T) {v : Nat} (hv : v ≤ 9) : zV (ztl T v) := ⟨h.1, hv, h.2.2⟩
theorem zV_d {T : zT} (h : zV T) {v : Nat} (hv : v ≤ 999) : zV (ztd T v) := ⟨h.1, h.2.1, hv, h.2.2.2⟩
theorem zt_t (T : zT) (p v q : Nat) : zt (ztt T p v) q = if q = p then v else zt T q := rfl
theorem zo_o (T : zT) (i v j : Nat) : zo (zto T i v) j = if j = i then v else zo T j := rfl
theorem zV_t {T : zT} (h : zV T) {p v : Nat} (hp : p < zn T) (hv : v ≤ 9) : zV (ztt T p v) := by
  refine ⟨h.1, h.2.1, h.2.2.1, h.2.2.2.1, ?_, h.2.2.2.2.2.1, ?_, h.2.2.2.2.2.2.2⟩
  · intro q hq
    rw [zt_t]
    split
    · exact hv
    · exact h.2.2.2.2.1 q hq
  · intro q hq hn
    rw [zt_t, if_neg (by intro z; subst z; exact absurd hp (by have : zn (ztt T q v) = zn T := rfl; omega))]
    exact h.2.2.2.2.2.2.1 q hq hn
theorem zV_o {T : zT} (h : zV T) {p q v : Nat} (hp : p < zn T) (hq : q < zn T) (hv : v ≤ 9) : zV (zto T (7 * p + q) v) := by
  have h7 := h.1
  refine ⟨h.1, h.2.1, h.2.2.1, h.2.2.2.1, h.2.2.2.2.1, ?_, h.2.2.2.2.2.2.1, ?_⟩
  · intro j hj
    rw [zo_o]
    split
    · exact hv
    · exact h.2.2.2.2.2.1 j hj
  · intro a b ha hb hn
    have hn' : zn T ≤ a ∨ zn T ≤ b := hn
    rw [zo_o, if_neg (by intro z; omega)]
    exact h.2.2.2.2.2.2.2 a b ha hb hn
theorem zV_a {T : zT} (h : zV T) {k f : Nat} (hn : zn T < 7) (hk : k < 8) (hf : f ≤ 9) : zV (zta T k f) := by
  have e : zn (zta T k f) = zn T + 1 := rfl
  refine ⟨by omega, h.2.1, h.2.2.1, ?_, h.2.2.2.2.1, h.2.2.2.2.2.1, ?_, ?_⟩
  · intro p hp
    have e1 : zk (zta T k f) p = if p = zn T then k else zk T p := rfl
    have e2 : zf (zta T k f) p = if p = zn T then f else zf T p := rfl
    rw [e1, e2]
    split
    · exact ⟨hk, hf⟩
    · exact h.2.2.2.1 p (by omega)
  · intro p hp hp2
    exact h.2.2.2.2.2.2.1 p hp (by omega)
  · intro a b ha hb hab
    exact h.2.2.2.2.2.2.2 a b ha hb (by omega)
theorem zV_grow {T : zT} (h : zV T) {p q : Nat} (hp : p < zn T) (hq : q < zn T) : zV (zgrow T p q) := zV_o h hp hq (Nat.min_le_left _ _)
theorem zV_turn {T : zT} (h : zV T) {p q : Nat} (hp : p < zn T) (hq : q < zn T) : zV (zturn T p q) := zV_grow (zV_t h hq (Nat.min_le_left _ _)) hp hq
section
variable {x : zzS} {t : Nat} {T : zT}
theorem xs_l (h : zXT x t T) {v : Nat} (hv : v ≤ 9) : zXT (zzsi x t 5 (nI v)) t (ztl T v) := by
  refine ⟨zV_l h.1 hv, ?_, ?_, ?_, h.2.2.2.2⟩
  · rw [q_ii, if_neg (by omega)]; exact h.2.1
  · rw [q_ii, if_pos ⟨rfl, rfl⟩]; rfl
  · rw [q_ii, if_neg (by omega)]; exact h.2.2.2.1
theorem xs_d (h : zXT x t T) {v : Nat} (hv : v ≤ 999) : zXT (zzsi x t 6 (nI v)) t (ztd T v) := by
  refine ⟨zV_d h.1 hv, ?_, ?_, ?_, h.2.2.2.2⟩
  · rw [q_ii, if_neg (by omega)]; exact h.2.1
  · rw [q_ii, if_neg (by omega)]; exact h.2.2.1
  · rw [q_ii, if_pos ⟨rfl, rfl⟩]; rfl
theorem xs_t (h : zXT x t T) {p v : Nat} (hp : p < zn T) (hv : v ≤ 9) : zXT (zzsa x (t + 2) p (nI v)) t (ztt T p v) := by
  refine ⟨zV_t h.1 hp hv, h.2.1, h.2.2.1, h.2.2.2.1, h.2.2.2.2.1, ?_, ?_⟩
  · intro q hq
    rw [q_aa, zt_t]
    by_cases e : q = p
    · rw [if_pos ⟨rfl, e⟩, if_pos e]
    · rw [if_neg (fun z => e z.2), if_neg e]; exact h.2.2.2.2.2.1 q hq
  · intro i hi
    rw [q_aa, if_neg (by omega)]; exact h.2.2.2.2.2.2 i hi
theorem xs_o (h : zXT x t T) {p q v : Nat} (hp : p < zn T) (hq : q < zn T) (hv : v ≤ 9) : zXT (zzsa x (t + 3) (7 * p + q) (nI v)) t (zto T (7 * p + q) v) := by
  refine ⟨zV_o h.1 hp hq hv, h.2.1, h.2.2.1, h.2.2.2.1, h.2.2.2.2.1, ?_, ?_⟩
  · intro i hi
    rw [q_aa, if_neg (by omega)]; exact h.2.2.2.2.2.1 i hi
  · intro j hj
    rw [q_aa, zo_o]
    by_cases e : j = 7 * p + q
    · rw [if_pos ⟨rfl, e⟩, if_pos e]
    · rw [if_neg (fun z => e z.2), if_neg e]; exact h.2.2.2.2.2.2 j hj
theorem xs_a (h : zXT x t T) (hn : zn T < 7) {k f : Nat} (hk : k < 8) (hf : f ≤ 9) : zXT (zzsi (zzsr x (t + 1) (zn T) (some (k, nI f))) t 4 (nI (zn T + 1))) t (zta T k f) := by
  refine ⟨zV_a h.1 hn hk hf, ?_, ?_, ?_, ?_, h.2.2.2.2.2.1, h.2.2.2.2.2.2⟩
  · rw [q_ii, if_pos ⟨rfl, rfl⟩]; rfl
  · rw [q_ii, if_neg (by omega)]; exact h.2.2.1
  · rw [q_ii, if_neg (by omega)]; exact h.2.2.2.1
  · intro p hp
    have e0 : zn (zta T k f) = zn T + 1 := rfl
    have e1 : zk (zta T k f) p = if p = zn T then k else zk T p := rfl
    have e2 : zf (zta T k f) p = if p = zn T then f else zf T p := rfl
    rw [q_r_si, q_rr, e1, e2]
    by_cases e : p = zn T
    · rw [if_pos ⟨rfl, e⟩, if_pos e, if_pos e]
    · rw [if_neg (fun z => e z.2), if_neg e, if_neg e]; exact h.2.2.2.2.1 p (by omega)
theorem x_write {k : Nat} {i : Nat} (v : Int32) (hi : i < zzlen k) (hk : zzlen k < 2147483648) : f_X11_write k (nI i) v x = some ((), zzsa x k i v) := by
  simp (disch := omega) only [f_X11_write, hi, zzbd_s, zzlt_eq, zzon_n, zzon_s, q0, q1, q2, q3, q4, q5, q6, q7, q8, q9, q10, q11, q12, q20, q48, q49, q57, q59, q99, q100, q999, nI_add, pk_mul, q_lt0, q_lt, q_eq, q_cl, q_gd, if_true, if_false, q_ofNat, q_min, q_max, ite_self, Nat.not_lt_zero, q_e10, q_e01, eq_self, not_true_eq_false, not_false_eq_true, and_true, true_and, and_false, false_and, or_true, true_or, or_false, false_or, q_gdT, Nat.reduceEqDiff, Bool.false_eq_true, Nat.lt_irrefl, Nat.or_zero]
theorem x_setFond (h : zXT x t T) (ht : zztown t) {p q v : Nat} (hp : p < zn T) (hq : q < zn T) (hn : p ≠ q) (hv : v ≤ 9) : f_X10_setFond t (nI p) (nI q) (nI v) x = some (nI 1, zzsa x (t + 3) (7 * p + q) (nI v)) := by
  have h7 := h.1.1
  have h3 := q_len3 ht
  have h9 : ¬ 9 < v := by omega
  simp (disch := omega) only [f_X10_setFond, x_two h, hn, h9, x_write, zzbd_s, zzlt_eq, zzon_n, zzon_s, q0, q1, q2, q3, q4, q5, q6, q7, q8, q9, q10, q11, q12, q20, q48, q49, q57, q59, q99, q100, q999, nI_add, pk_mul, q_lt0, q_lt, q_eq, q_cl, q_gd, if_true, if_false, q_ofNat, q_min, q_max, ite_self, Nat.not_lt_zero, q_e10, q_e01, eq_self, not_true_eq_false, not_false_eq_true, and_true, true_and, and_false, false_and, or_true, true_or, or_false, false_or, q_gdT, Nat.reduceEqDiff, Bool.false_eq_true, Nat.lt_irrefl, Nat.or_zero]
  rw [Nat.mul_comm p 7]
theorem x_grow (h : zXT x t T) (ht : zztown t) {p q : Nat} (hp : p < zn T) (hq : q < zn T) (hn : p ≠ q) : f_X10_becomeFonder t (nI p) (nI q) x = some ((), zzsa x (t + 3) (7 * p + q) (nI (min 9 (zo T (7 * p + q) + zgr T p)))) := by
  have h7 := h.1.1
  have hk := h.1.2.2.2.1 p hp
  have ho := h.1.2.2.2.2.2.1 (7 * p + q) (by omega)
  have hg := q_grows T p hk.1 hk.2
  have hm : min 9 (zo T (7 * p + q) + zgr T p) ≤ 9 := Nat.min_le_left _ _
  simp (disch := omega) only [f_X10_becomeFonder, x_fondOf h ht hp hq, x_at h ht hp, hn, hg.1, x_setFond h ht hp hq hn, zzbd_s, zzlt_eq, zzon_n, zzon_s, q0, q1, q2, q3, q4, q5, q6, q7, q8, q9, q10, q11, q12, q20, q48, q49, q57, q59, q99, q100, q999, nI_add, pk_mul, q_lt0, q_lt, q_eq, q_cl, q_gd, if_true, if_false, q_ofNat, q_min, q_max, ite_self, Nat.not_lt_zero, q_e10, q_e01, eq_self, not_true_eq_false, not_false_eq_true, and_true, true_and, and_false, false_and, or_true, true_or, or_false, false_or, q_gdT, Nat.reduceEqDiff, Bool.false_eq_true, Nat.lt_irrefl, Nat.or_zero]
theorem x_growT (h : zXT x t T) (ht : zztown t) {p q : Nat} (hp : p < zn T) (hq : q < zn T) (hn : p ≠ q) : ∃ x', f_X10_becomeFonder t (nI p) (nI q) x = some ((), x') ∧ zXT x' t (zgrow T p q) ∧ zFR t x x' :=
  ⟨_, x_grow h ht hp hq hn, xs_o h hp hq (Nat.min_le_left _ _), zFR_a _ _ _ (by omega)⟩
theorem x_turnT (h : zXT x t T) (ht : zztown t) {p q : Nat} (hp : p < zn T) (hq : q < zn T) (hn : p ≠ q) : ∃ x', f_X10_turnCards t (nI p) (nI q) x = some ((), x') ∧ zXT x' t (zturn T p q) ∧ zFR t x x' := by
  have h7 := h.1.1
  have hk := h.1.2.2.2.1 p hp
  have ho := h.1.2.2.2.2.1 q (by omega)
  have hg := q_turns T p hk.1 hk.2
  have h2 := q_len2 ht
  have h1 := xs_t h hq (Nat.min_le_left 9 (zt T q + ztu T p))
  obtain ⟨x', e, e1, e2⟩ := x_growT h1 ht (p := p) (q := q) hp hq hn
  refine ⟨x', ?_, e1, zFR_tr (zFR_a _ _ _ (by omega)) e2⟩
  simp (disch := omega) only [f_X10_turnCards, x_turnedOf h ht hq, x_at h ht hp, hg.1, x_write, e, zzbd_s, zzlt_eq, zzon_n, zzon_s, q0, q1, q2, q3, q4, q5, q6, q7, q8, q9, q10, q11, q12, q20, q48, q49, q57, q59, q99, q100, q999, nI_add, pk_mul, q_lt0, q_lt, q_eq, q_cl, q_gd, if_true, if_false, q_ofNat, q_min, q_max, ite_self, Nat.not_lt_zero, q_e10, q_e01, eq_self, not_true_eq_false, not_false_eq_true, and_true, true_and, and_false, false_and, or_true, true_or, or_false, false_or, q_gdT, Nat.reduceEqDiff, Bool.false_eq_true, Nat.lt_irrefl, Nat.or_zero]
theorem x_seeT (h : zXT x t T) (ht : zztown t) {p q : Nat} (hp : p < zn T) (hq : q < zn T) (hn : p ≠ q) (hd : zd T < 999) : ∃ x', f_X10_see t (nI p) (nI q) x = some (nI 1, x') ∧ zXT x' t (ztd (zgrow T p q) (zd T + 1)) ∧ zFR t x x' := by
  have h7 := h.1.1
  obtain ⟨x', e, e1, e2⟩ := x_growT h ht (p := p) (q := q) hp hq hn
  have e3 : zzi x' t 6 = nI (zd T) := e1.2.2.2.1
  refine ⟨_, ?_, xs_d e1 (show zd T + 1 ≤ 999 by omega), zFR_tr e2 (zFR_i _ _ _ (by omega))⟩
  simp (disch := omega) only [f_X10_see, x_two h hp hq, hn, h.2.2.2.1, hd, e, e3, zzbd_s, zzlt_eq, zzon_n, zzon_s, q0, q1, q2, q3, q4, q5, q6, q7, q8, q9, q10, q11, q12, q20, q48, q49, q57, q59, q99, q100, q999, nI_add, pk_mul, q_lt0, q_lt, q_eq, q_cl, q_gd, if_true, if_false, q_ofNat, q_min, q_max, ite_self, Nat.not_lt_zero, q_e10, q_e01, eq_self, not_true_eq_false, not_false_eq_true, and_true, true_and, and_false, false_and, or_true, true_or, or_false, false_or, q_gdT, Nat.reduceEqDiff, Bool.false_eq_true, Nat.lt_irrefl, Nat.or_zero]
theorem x_seeN (h : zXT x t T) {p q : Nat} (hp : p < zn T) (hq : q < zn T) (hd : p = q ∨ ¬ zd T < 999) : f_X10_see t (nI p) (nI q) x = some (nI 0, x) := by
  have h7 := h.1.1
  have h9 := h.1.2.2.1
  by_cases e : p = q
  · simp (disch := omega) only [f_X10_see, x_two h, e, zzbd_s, zzlt_eq, zzon_n, zzon_s, q0, q1, q2, q3, q4, q5, q6, q7, q8, q9, q10, q11, q12, q20, q48, q49, q57, q59, q99, q100, q999, nI_add, pk_mul, q_lt0, q_lt, q_eq, q_cl, q_gd, if_true, if_false, q_ofNat, q_min, q_max, ite_self, Nat.not_lt_zero, q_e10, q_e01, eq_self, not_true_eq_false, not_false_eq_true, and_true, true_and, and_false, false_and, or_true, true_or, or_false, false_or, q_gdT, Nat.reduceEqDiff, Bool.false_eq_true, Nat.lt_irrefl, Nat.or_zero]
  · have : ¬ zd T < 999 := hd.resolve_left e
    simp (disch := omega) only [f_X10_see, x_two h, e, h.2.2.2.1, this, zzbd_s, zzlt_eq, zzon_n, zzon_s, q0, q1, q2, q3, q4, q5, q6, q7, q8, q9, q10, q11, q12, q20, q48, q49, q57, q59, q99, q100, q999, nI_add, pk_mul, q_lt0, q_lt, q_eq, q_cl, q_gd, if_true, if_false, q_ofNat, q_min, q_max, ite_self, Nat.not_lt_zero, q_e10, q_e01, eq_self, not_true_eq_false, not_false_eq_true, and_true, true_and, and_false, false_and, or_true, true_or, or_false, false_or, q_gdT, Nat.reduceEqDiff, Bool.false_eq_true, Nat.lt_irrefl, Nat.or_zero]
theorem x_canT (h : zXT x t T) (ht : zztown t) {p q : Nat} (hp : p < zn T) (hq : q < zn T) (hm : zmay T (zl T) p q) (hc : zt T q < 9) (hd : zd T < 999) : ∃ x', f_X10_turn t (nI p) (nI q) x = some (nI 1, x') ∧ zXT x' t (ztd (zturn T p q) (zd T + 1)) ∧ zFR t x x' := by
  have h7 := h.1.1
  have h8 := h.1.2.1
  obtain ⟨x', e, e1, e2⟩ := x_turnT h ht (p := p) (q := q) hp hq hm.1
  have e3 : zzi x' t 6 = nI (zd T) := e1.2.2.2.1
  haveI : Decidable (zmay T (zl T) p q) := isTrue hm
  refine ⟨_, ?_, xs_d e1 (show zd T + 1 ≤ 999 by omega), zFR_tr e2 (zFR_i _ _ _ (by omega))⟩
  simp (disch := omega) only [f_X10_turn, h.2.2.1, x_may h ht, hm, x_turnedOf h ht hq, hc, h.2.2.2.1, hd, e, e3, zzbd_s, zzlt_eq, zzon_n, zzon_s, q0, q1, q2, q3, q4, q5, q6, q7, q8, q9, q10, q11, q12, q20, q48, q49, q57, q59, q99, q100, q999, nI_add, pk_mul, q_lt0, q_lt, q_eq, q_cl, q_gd, if_true, if_false, q_ofNat, q_min, q_max, ite_self, Nat.not_lt_zero, q_e10, q_e01, eq_self, not_true_eq_false, not_false_eq_true, and_true, true_and, and_false, false_and, or_true, true_or, or_false, false_or, q_gdT, Nat.reduceEqDiff, Bool.false_eq_true, Nat.lt_irrefl, Nat.or_zero]
theorem x_canN (h : zXT x t T) (ht : zztown t) {p q : Nat} (hp : p < zn T) (hq : q < zn T) (hc : ¬ (zmay T (zl T) p q ∧ zt T q < 9 ∧ zd T < 999)) : f_X10_turn t (nI p) (nI q) x = some (nI 0, x) := by
  have h7 := h.1.1
  have h8 := h.1.2.1
  have h9 := h.1.2.2.1
  have h10 := h.1.2.2.2.2.1 q (by omega)
  haveI : Decidable (zmay T (zl T) p q) := Classical.propDecidable _
  by_cases hm : zmay T (zl T) p q
  · by_cases hc2 : zt T q < 9
    · have hd : ¬ zd T < 999 := fun z => hc ⟨hm, hc2, z⟩
      simp (disch := omega) only [f_X10_turn, h.2.2.1, x_may h ht, hm, x_turnedOf h ht hq, hc2, h.2.2.2.1, hd, zzbd_s, zzlt_eq, zzon_n, zzon_s, q0, q1, q2, q3, q4, q5, q6, q7, q8, q9, q10, q11, q12, q20, q48, q49, q57, q59, q99, q100, q999, nI_add, pk_mul, q_lt0, q_lt, q_eq, q_cl, q_gd, if_true, if_false, q_ofNat, q_min, q_max, ite_self, Nat.not_lt_zero, q_e10, q_e01, eq_self, not_true_eq_false, not_false_eq_true, and_true, true_and, and_false, false_and, or_true, true_or, or_false, false_or, q_gdT, Nat.reduceEqDiff, Bool.false_eq_true, Nat.lt_irrefl, Nat.or_zero]
    · simp (disch := omega) only [f_X10_turn, h.2.2.1, x_may h ht, hm, x_turnedOf h ht hq, hc2, zzbd_s, zzlt_eq, zzon_n, zzon_s, q0, q1, q2, q3, q4, q5, q6, q7, q8, q9, q10, q11, q12, q20, q48, q49, q57, q59, q99, q100, q999, nI_add, pk_mul, q_lt0, q_lt, q_eq, q_cl, q_gd, if_true, if_false, q_ofNat, q_min, q_max, ite_self, Nat.not_lt_zero, q_e10, q_e01, eq_self, not_true_eq_false, not_false_eq_true, and_true, true_and, and_false, false_and, or_true, true_or, or_false, false_or, q_gdT, Nat.reduceEqDiff, Bool.false_eq_true, Nat.lt_irrefl, Nat.or_zero]
  · simp (disch := omega) only [f_X10_turn, h.2.2.1, x_may h ht, hm, zzbd_s, zzlt_eq, zzon_n, zzon_s, q0, q1, q2, q3, q4, q5, q6, q7, q8, q9, q10, q11, q12, q20, q48, q49, q57, q59, q99, q100, q999, nI_add, pk_mul, q_lt0, q_lt, q_eq, q_cl, q_gd, if_true, if_false, q_ofNat, q_min, q_max, ite_self, Nat.not_lt_zero, q_e10, q_e01, eq_self, not_true_eq_false, not_false_eq_true, and_true, true_and, and_false, false_and, or_true, true_or, or_false, false_or, q_gdT, Nat.reduceEqDiff, Bool.false_eq_true, Nat.lt_irrefl, Nat.or_zero]
end
