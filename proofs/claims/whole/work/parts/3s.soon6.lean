/-! ===== soonest: the class's outer loop, and the strongest ===== -/
section
variable {x m : zzS} {T : zT}
theorem x_so_o (h : zXT x 20 T) {q a : Nat} (hq : q < zn T) (ha : a ≤ 9) : ∀ s n r, s ≤ 9 → s < n → f_X11_fewestTurnings_18 (nI q) n (nI (a - r.1)) (nI r.2) (nI s) x = some (if (zdown (zso T q a) s r).1 < a then -4 else nI (zdown (zso T q a) s r).2, x) := by
  have h7 := h.1.1
  intro s
  induction s with
  | zero =>
    intro n r h1 h2
    obtain ⟨n, rfl⟩ : ∃ n', n = n' + 1 := ⟨n - 1, by omega⟩
    show f_X11_fewestTurnings_18b _ (nI q) (nI (a - r.1)) (nI r.2) (nI 0) x = some (if r.1 < a then -4 else nI r.2, x)
    unfold f_X11_fewestTurnings_18b
    rw [q0, if_neg (show ¬ nI 0 < nI 0 by decide)]
    by_cases c : r.1 < a
    · rw [if_pos ((q_lt (by omega) (by omega)).mpr (by omega)), if_pos c]
    · rw [if_neg (fun z => c (by have := (q_lt (by omega) (by omega)).mp z; omega)), if_neg c]
  | succ s ih =>
    intro n r h1 h2
    obtain ⟨n, rfl⟩ : ∃ n', n = n' + 1 := ⟨n - 1, by omega⟩
    have g := x_so_p h (f_X11_fewestTurnings_18 (nI q) n) hq ha (s := s + 1) (by omega) (zn T) 200 0 r (by omega) (by omega)
    have e := ih n (zso T q a (s + 1) r) (by omega) (by omega)
    have hs1 : nI (s + 1) - nI 1 = nI s := by rw [q_sub (by omega)]; rfl
    rw [hs1] at g
    rw [zdown_s, ← e]
    unfold zso
    rw [← g]
    show f_X11_fewestTurnings_18b _ (nI q) (nI (a - r.1)) (nI r.2) (nI (s + 1)) x = _
    unfold f_X11_fewestTurnings_18b
    rw [q0, if_pos ((q_lt (by omega) (by omega)).mpr (by omega))]
theorem zso_id {q a s : Nat} (hv : zV T) (hs : 6 ≤ s) (r : Nat × Nat) : zso T q a s r = r := by
  unfold zso
  refine (zup_cg (zsp T q a s) (fun _ r => r) (zn T) 0 r (fun j b _ hj => ?_)).trans ?_
  · have hk := hv.2.2.2.1 j (by omega)
    have hg := q_turns T j hk.1 hk.2
    unfold zsp
    rw [if_neg (fun z => by omega)]
  · exact zup_P (fun _ r => r) (fun b => b = r) (zn T) 0 r (fun _ _ _ _ z => z) rfl
theorem zso_95 {q a : Nat} (hv : zV T) (r : Nat × Nat) : zdown (zso T q a) 9 r = zdown (zso T q a) 5 r := by
  rw [zdown_s, zdown_s, zdown_s, zdown_s, zso_id hv (by omega), zso_id hv (by omega), zso_id hv (by omega), zso_id hv (by omega)]
/-- no turning, no card -/
theorem zso_0 {q a s : Nat} (r : Nat × Nat) (h : r.2 = 0 → r.1 = 0) : (zso T q a s r).2 = 0 → (zso T q a s r).1 = 0 := by
  unfold zso
  refine zup_P _ (fun r : Nat × Nat => r.2 = 0 → r.1 = 0) (zn T) 0 r (fun j b _ _ g => ?_) h
  unfold zsp
  split
  · intro z
    have z1 : b.2 = 0 := by have : b.2 + zus s (a - b.1) (zla T j q) = 0 := z; omega
    have z2 : zus s (a - b.1) (zla T j q) = 0 := by have : b.2 + zus s (a - b.1) (zla T j q) = 0 := z; omega
    show b.1 + zus s (a - b.1) (zla T j q) * s = 0
    rw [z2, g z1, Nat.zero_mul]
  · exact g
theorem zdo_0 {q a : Nat} : ∀ s r, (r.2 = 0 → r.1 = 0) → ((zdown (zso T q a) s r).2 = 0 → (zdown (zso T q a) s r).1 = 0)
  | 0, _, h => h
  | s + 1, r, h => by rw [zdown_s]; exact zdo_0 s _ (zso_0 r h)
-- whom: the class's way
def zsf (T : zT) (q p : Nat) (r : Option Nat × Nat) : Option Nat × Nat := if zmb T (zl T) p q = true ∧ r.2 < ztu T p then (some p, ztu T p) else r
theorem x_sf_l (h : zXT x 20 T) {q : Nat} (hq : q < zn T) : ∀ d n i r, i + d = zn T → d < n → r.2 < 1000 → f_X11_strongestFit_8 (nI q) n (zwI r.1) (nI r.2) (nI i) x = some (zwI (zup (zsf T q) d i r).1, x) := by
  have h7 := h.1.1
  have hL := h.1.2.1
  have ht : zztown 20 := Or.inl rfl
  intro d
  induction d with
  | zero =>
    intro n i r hi hn hr
    obtain ⟨n, rfl⟩ : ∃ n', n = n' + 1 := ⟨n - 1, by omega⟩
    have : i = zn T := by omega
    subst this
    simp (disch := omega) only [f_X11_strongestFit_8, f_X11_strongestFit_8b, h.2.1, zup_z, zzbd_s, zzlt_eq, zzon_n, zzon_s, q0, q1, q2, q3, q4, q5, q6, q7, q8, q9, q10, q11, q12, q20, q48, q49, q57, q59, q99, q100, q999, nI_add, pk_mul, q_lt0, q_lt, q_eq, q_cl, q_gd, if_true, if_false, q_ofNat, q_min, q_max, ite_self, Nat.not_lt_zero, q_e10, q_e01, eq_self, not_true_eq_false, not_false_eq_true, and_true, true_and, and_false, false_and, or_true, true_or, or_false, false_or, q_gdT, Nat.reduceEqDiff, Bool.false_eq_true, Nat.lt_irrefl, Nat.or_zero]
  | succ d ih =>
    intro n i r hi hn hr
    obtain ⟨n, rfl⟩ : ∃ n', n = n' + 1 := ⟨n - 1, by omega⟩
    have hi2 : i < zn T := by omega
    have hk := h.1.2.2.2.1 i hi2
    have hg := q_turns T i hk.1 hk.2
    rw [zup_s]
    cases e : zmb T (zl T) i q with
    | false =>
      have w : zsf T q i r = r := by unfold zsf; rw [if_neg (by intro z; rw [e] at z; cases z.1)]
      rw [w, ← ih n (i + 1) r (by omega) (by omega) hr]
      simp (disch := omega) only [f_X11_strongestFit_8, f_X11_strongestFit_8b, f_X11_strongestFit_72, h.2.1, h.2.2.1, hi2, x_mb h ht, e, zzbd_s, zzlt_eq, zzon_n, zzon_s, q0, q1, q2, q3, q4, q5, q6, q7, q8, q9, q10, q11, q12, q20, q48, q49, q57, q59, q99, q100, q999, nI_add, pk_mul, q_lt0, q_lt, q_eq, q_cl, q_gd, if_true, if_false, q_ofNat, q_min, q_max, ite_self, Nat.not_lt_zero, q_e10, q_e01, eq_self, not_true_eq_false, not_false_eq_true, and_true, true_and, and_false, false_and, or_true, true_or, or_false, false_or, q_gdT, Nat.reduceEqDiff, Bool.false_eq_true, Nat.lt_irrefl, Nat.or_zero]
    | true =>
      by_cases c : r.2 < ztu T i
      · have w : zsf T q i r = (some i, ztu T i) := by unfold zsf; rw [if_pos ⟨e, c⟩]
        rw [w, ← ih n (i + 1) (some i, ztu T i) (by omega) (by omega) (by show ztu T i < 1000; omega)]
        simp (disch := omega) only [f_X11_strongestFit_8, f_X11_strongestFit_8b, f_X11_strongestFit_72, h.2.1, h.2.2.1, hi2, x_mb h ht, e, x_at h ht hi2, hg.1, c, q_e1_0, zwI, zzbd_s, zzlt_eq, zzon_n, zzon_s, q0, q1, q2, q3, q4, q5, q6, q7, q8, q9, q10, q11, q12, q20, q48, q49, q57, q59, q99, q100, q999, nI_add, pk_mul, q_lt0, q_lt, q_eq, q_cl, q_gd, if_true, if_false, q_ofNat, q_min, q_max, ite_self, Nat.not_lt_zero, q_e10, q_e01, eq_self, not_true_eq_false, not_false_eq_true, and_true, true_and, and_false, false_and, or_true, true_or, or_false, false_or, q_gdT, Nat.reduceEqDiff, Bool.false_eq_true, Nat.lt_irrefl, Nat.or_zero]
      · have w : zsf T q i r = r := by unfold zsf; rw [if_neg (fun z => c z.2)]
        rw [w, ← ih n (i + 1) r (by omega) (by omega) hr]
        simp (disch := omega) only [f_X11_strongestFit_8, f_X11_strongestFit_8b, f_X11_strongestFit_72, h.2.1, h.2.2.1, hi2, x_mb h ht, e, x_at h ht hi2, hg.1, c, q_e1_0, zzbd_s, zzlt_eq, zzon_n, zzon_s, q0, q1, q2, q3, q4, q5, q6, q7, q8, q9, q10, q11, q12, q20, q48, q49, q57, q59, q99, q100, q999, nI_add, pk_mul, q_lt0, q_lt, q_eq, q_cl, q_gd, if_true, if_false, q_ofNat, q_min, q_max, ite_self, Nat.not_lt_zero, q_e10, q_e01, eq_self, not_true_eq_false, not_false_eq_true, and_true, true_and, and_false, false_and, or_true, true_or, or_false, false_or, q_gdT, Nat.reduceEqDiff, Bool.false_eq_true, Nat.lt_irrefl, Nat.or_zero]
theorem zwm_some {q s : Nat} (w : Nat) : ∀ d i, zup (zwm T q s) d i (some w) = some w
  | 0, _ => rfl
  | d + 1, i => by rw [zup_s]; exact zwm_some w d (i + 1)
theorem zwo2_some {q s : Nat} (w : Nat) : zwo2 T q s (some w) = some w := zwm_some w (zn T) 0
theorem zwd_some {q : Nat} (w : Nat) : ∀ s, zdown (zwo2 T q) s (some w) = some w
  | 0 => rfl
  | s + 1 => by rw [zdown_s, zwo2_some]; exact zwd_some w s
/-- what holds of the class's two behind d of the people -/
theorem zsf_inv (hv : zV T) {q : Nat} : ∀ d, d ≤ zn T → (zup (zsf T q) d 0 (none, 0)).2 ≤ 5 ∧ (∀ s, (zup (zsf T q) d 0 (none, 0)).2 < s → zup (zwm T q s) d 0 none = none) ∧ ((zup (zsf T q) d 0 (none, 0)).2 = 0 → (zup (zsf T q) d 0 (none, 0)).1 = none) ∧ (0 < (zup (zsf T q) d 0 (none, 0)).2 → ∃ w, (zup (zsf T q) d 0 (none, 0)).1 = some w ∧ zup (zwm T q (zup (zsf T q) d 0 (none, 0)).2) d 0 none = some w) := by
  intro d
  induction d with
  | zero => intro _; exact ⟨Nat.zero_le _, fun _ _ => rfl, fun _ => rfl, fun z => absurd z (Nat.lt_irrefl 0)⟩
  | succ d ih =>
    intro hd
    obtain ⟨i1, i2, i3, i4⟩ := ih (by omega)
    have hk := hv.2.2.2.1 d (by omega)
    have hg := q_turns T d hk.1 hk.2
    rw [zup_last, Nat.zero_add]
    have hz : ∀ s, zup (zwm T q s) (d + 1) 0 none = zwm T q s d (zup (zwm T q s) d 0 none) := fun s => by rw [zup_last, Nat.zero_add]
    generalize zup (zsf T q) d 0 (none, 0) = r at i1 i2 i3 i4 ⊢
    unfold zsf
    by_cases c : zmb T (zl T) d q = true ∧ r.2 < ztu T d
    · rw [if_pos c]
      refine ⟨hg.2.1, fun s hs => ?_, fun z => by have : ztu T d = 0 := z; omega, fun _ => ⟨d, rfl, ?_⟩⟩
      · have hs' : ztu T d < s := hs
        rw [hz, i2 s (by omega)]
        unfold zwm
        exact if_neg (fun z => by omega)
      · show zup (zwm T q (ztu T d)) (d + 1) 0 none = some d
        rw [hz, i2 _ c.2]
        unfold zwm
        exact if_pos ⟨c.1, rfl⟩
    · rw [if_neg c]
      refine ⟨i1, fun s hs => ?_, i3, fun z => ?_⟩
      · rw [hz, i2 s hs]
        unfold zwm
        exact if_neg (fun z => c ⟨z.1, by omega⟩)
      · obtain ⟨w, w1, w2⟩ := i4 z
        refine ⟨w, w1, ?_⟩
        rw [hz, w2]
        rfl
theorem zwd_ge {q s : Nat} : ∀ k, (∀ s', s < s' → zwo2 T q s' none = none) → zdown (zwo2 T q) (s + k) none = zdown (zwo2 T q) s none
  | 0, _ => rfl
  | k + 1, h => by
    rw [show s + (k + 1) = (s + k) + 1 by omega, zdown_s, h _ (by omega)]
    exact zwd_ge k h
theorem zsf_eq (hv : zV T) {q : Nat} : (zup (zsf T q) (zn T) 0 (none, 0)).1 = zdown (zwo2 T q) 5 none := by
  obtain ⟨i1, i2, i3, i4⟩ := zsf_inv (q := q) hv (zn T) (Nat.le_refl _)
  generalize zup (zsf T q) (zn T) 0 (none, 0) = r at i1 i2 i3 i4 ⊢
  have g := zwd_ge (T := T) (q := q) (s := r.2) (5 - r.2) i2
  rw [show r.2 + (5 - r.2) = 5 by omega] at g
  rw [g]
  rcases Nat.eq_zero_or_pos r.2 with z | z
  · rw [i3 z, z]; rfl
  · obtain ⟨w, w1, w2⟩ := i4 z
    obtain ⟨t, ht⟩ : ∃ t, r.2 = t + 1 := ⟨r.2 - 1, by omega⟩
    rw [w1, ht, zdown_s]
    have : zwo2 T q (t + 1) none = some w := by rw [← ht]; exact w2
    rw [this, zwd_some]
end
