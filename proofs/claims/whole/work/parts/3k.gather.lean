/-! ===== the circle gathered ===== -/
abbrev zCF (x x' : zzS) : Prop := (∀ k f, ¬ k = 32 → zzi x' k f = zzi x k f) ∧ (∀ k f, ¬ (33 ≤ k ∧ k < 36) → zza x' k f = zza x k f) ∧ (∀ k f, zzr x' k f = zzr x k f) ∧ (∀ k f, zzl x' k f = zzl x k f) ∧ ∀ f, zzq x' f = zzq x f
theorem zCF_refl (x : zzS) : zCF x x := ⟨fun _ _ _ => rfl, fun _ _ _ => rfl, fun _ _ => rfl, fun _ _ => rfl, fun _ => rfl⟩
theorem zCF_tr {x y z : zzS} (h : zCF x y) (g : zCF y z) : zCF x z :=
  ⟨fun k f c => (g.1 k f c).trans (h.1 k f c), fun k f c => (g.2.1 k f c).trans (h.2.1 k f c), fun k f => (g.2.2.1 k f).trans (h.2.2.1 k f), fun k f => (g.2.2.2.1 k f).trans (h.2.2.2.1 k f), fun f => (g.2.2.2.2 f).trans (h.2.2.2.2 f)⟩
theorem zCF_a {k : Nat} (x : zzS) (f : Nat) (v : Int32) (h : 33 ≤ k ∧ k < 36) : zCF x (zzsa x k f v) :=
  ⟨fun _ _ _ => rfl, fun k' f' c => (q_aa ..).trans (if_neg (fun z : k' = k ∧ f' = f => c (z.1.symm ▸ h))), fun _ _ => rfl, fun _ _ => rfl, fun _ => rfl⟩
theorem zCF_i (x : zzS) (f : Nat) (v : Int32) : zCF x (zzsi x 32 f v) :=
  ⟨fun k' f' c => (q_ii ..).trans (if_neg (fun z : k' = 32 ∧ f' = f => c z.1)), fun _ _ _ => rfl, fun _ _ => rfl, fun _ _ => rfl, fun _ => rfl⟩
theorem zXT_cf {x x' : zzS} {t : Nat} {T : zT} (ht : zztown t) (h : zXT x t T) (g : zCF x x') : zXT x' t T := by
  have g1 : t ≤ 28 := by rcases ht with rfl | rfl | rfl <;> omega
  refine ⟨h.1, ?_, ?_, ?_, ?_, ?_, ?_⟩
  · rw [g.1 _ _ (by omega)]; exact h.2.1
  · rw [g.1 _ _ (by omega)]; exact h.2.2.1
  · rw [g.1 _ _ (by omega)]; exact h.2.2.2.1
  · intro p hp; rw [g.2.2.1]; exact h.2.2.2.2.1 p hp
  · intro p hp; rw [g.2.1 _ _ (by omega)]; exact h.2.2.2.2.2.1 p hp
  · intro p hp; rw [g.2.1 _ _ (by omega)]; exact h.2.2.2.2.2.2 p hp
theorem zPX_cf {x x' : zzS} (g : zCF x x') : zPX x x' := ⟨fun k f c _ => g.1 k f (by omega), fun k f c => g.2.1 k f (by omega), fun k f _ => g.2.2.1 k f, g.2.2.2.2⟩
section
variable {x : zzS} {T : zT}
theorem x_gat_l {L : Nat} (hL : L < 100) : ∀ d n i y, i + d = zn T → d < n → zXT y 20 T → zzi y 32 3 = nI (zn T) → (∀ q, q < i → zza y 33 q = nI (zfit T L q)) → ∃ y', f_X2_gather_15 20 (nI L) n (nI i) y = some ((), y') ∧ zzi y' 32 3 = nI (zn T) ∧ (∀ q, q < zn T → zza y' 33 q = nI (zfit T L q)) ∧ zCF y y' := by
  have ht : zztown 20 := Or.inl rfl
  intro d
  induction d with
  | zero =>
    intro n i y hi hn h h1 h2
    have h7 := h.1.1
    obtain ⟨n, rfl⟩ : ∃ n', n = n' + 1 := ⟨n - 1, by omega⟩
    have : i = zn T := by omega
    subst this
    exact ⟨y, by simp (disch := omega) only [f_X2_gather_15, f_X2_gather_15b, h1, zzbd_s, zzlt_eq, zzon_n, zzon_s, q0, q1, q2, q3, q4, q5, q6, q7, q8, q9, q10, q11, q12, q20, q48, q49, q57, q59, q99, q100, q999, nI_add, pk_mul, q_lt0, q_lt, q_eq, q_cl, q_gd, if_true, if_false, q_ofNat, q_min, q_max, ite_self, Nat.not_lt_zero, q_e10, q_e01, eq_self, not_true_eq_false, not_false_eq_true, and_true, true_and, and_false, false_and, or_true, true_or, or_false, false_or, q_gdT, Nat.reduceEqDiff, Bool.false_eq_true, Nat.lt_irrefl, Nat.or_zero], h1, h2, zCF_refl _⟩
  | succ d ih =>
    intro n i y hi hn h h1 h2
    have h7 := h.1.1
    obtain ⟨n, rfl⟩ : ∃ n', n = n' + 1 := ⟨n - 1, by omega⟩
    have hi2 : i < zn T := by omega
    have cf := zCF_a y i (nI (zfit T L i)) (k := 33) (by omega)
    obtain ⟨y', g1, g2, g3, g4⟩ := ih n (i + 1) (zzsa y 33 i (nI (zfit T L i))) (by omega) (by omega) (zXT_cf ht h cf) h1 (by
      intro q hq
      rw [q_aa]
      by_cases c : q = i
      · rw [if_pos ⟨rfl, c⟩, c]
      · rw [if_neg (fun z => c z.2)]; exact h2 q (by omega))
    refine ⟨y', ?_, g2, g3, zCF_tr cf g4⟩
    have w := x_write (x := y) (k := 33) (i := i) (nI (zfit T L i)) (by rw [q_len33]; omega) (by rw [q_len33]; omega)
    rw [← g1]
    simp (disch := omega) only [f_X2_gather_15, f_X2_gather_15b, h1, hi2, x_fit h ht, w, zzbd_s, zzlt_eq, zzon_n, zzon_s, q0, q1, q2, q3, q4, q5, q6, q7, q8, q9, q10, q11, q12, q20, q48, q49, q57, q59, q99, q100, q999, nI_add, pk_mul, q_lt0, q_lt, q_eq, q_cl, q_gd, if_true, if_false, q_ofNat, q_min, q_max, ite_self, Nat.not_lt_zero, q_e10, q_e01, eq_self, not_true_eq_false, not_false_eq_true, and_true, true_and, and_false, false_and, or_true, true_or, or_false, false_or, q_gdT, Nat.reduceEqDiff, Bool.false_eq_true, Nat.lt_irrefl, Nat.or_zero]
theorem x_gather (h : zXT x 20 T) {L : Nat} (hL : L < 100) : ∃ x', f_X2_gather 20 (nI L) x = some ((), x') ∧ zzi x' 32 3 = nI (zn T) ∧ (∀ q, q < zn T → zza x' 33 q = nI (zfit T L q)) ∧ zCF x x' := by
  have h7 := h.1.1
  have ht : zztown 20 := Or.inl rfl
  have cf := zCF_i x 3 (nI (zn T))
  obtain ⟨y', g1, g2, g3, g4⟩ := x_gat_l hL (zn T) 200 0 (zzsi x 32 3 (nI (zn T))) (by omega) (by omega) (zXT_cf ht h cf) (by rw [q_ii, if_pos ⟨rfl, rfl⟩]) (by intro q hq; omega)
  refine ⟨y', ?_, g2, g3, zCF_tr cf g4⟩
  unfold f_X2_gather
  rw [h.2.1, q7, q_min (by omega) (by omega), Nat.min_eq_right h7, zzlt_eq]
  exact g1
end
