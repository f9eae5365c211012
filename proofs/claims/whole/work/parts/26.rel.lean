/-! ===== the two sides together ===== -/
abbrev zSh (x m : zzS) : Prop := ∀ d, d < 8 → (zza m 41 d = nI 0 ∧ zzr x 1 d = none ∧ zzq x d = none) ∨ (zza m 41 d = nI 1 ∧ zzq x d = none ∧ ∃ k f, k < 8 ∧ f ≤ 9 ∧ zzr x 1 d = some (k, nI f) ∧ zza m 42 d = nI k ∧ zza m 43 d = nI f) ∨ (zza m 41 d = nI 2 ∧ zzr x 1 d = none ∧ zzq x d = some (4 + 2 * d) ∧ ∃ s n, s < 3 ∧ n ≤ 100 ∧ zza m 44 d = nI s ∧ zza m 45 d = nI n ∧ zzi x (4 + 2 * d) 1 = nI s ∧ zzi x (4 + 2 * d) 2 = nI n ∧ ∀ i, i < 100 → zzl m 53 (100 * d + i) = (zza x (5 + 2 * d) i).toInt64)
/-- the town as the array at the cell a keeps it -/
abbrev zAT (m : zzS) (a : Nat) (T : zT) : Prop := zV T ∧ zza m a 0 = nI (zn T) ∧ zza m a 1 = nI (zl T) ∧ zza m a 2 = nI (zd T) ∧ (∀ p, p < zn T → zza m a (3 + 3 * p) = nI (zk T p) ∧ zza m a (4 + 3 * p) = nI (zf T p)) ∧ (∀ p, p < 7 → zza m a (5 + 3 * p) = nI (zt T p)) ∧ ∀ i, i < 49 → zza m a (24 + i) = nI (zo T i)
abbrev zIm (x m : zzS) : Prop := (zzi x 0 7 = nI 0 ∧ zzi m 36 23 = nI 0) ∨ (zzi x 0 7 = nI 1 ∧ zzi m 36 23 = nI 1 ∧ ∃ T, zXT x 28 T ∧ zAT m 50 T)
abbrev zRel (x m : zzS) : Prop := (∃ T, zXT x 20 T ∧ zMT m T) ∧ zSh x m ∧ zIm x m
abbrev zPX (x x' : zzS) : Prop := (∀ k f, (k < 20 ∨ 28 ≤ k ∧ k < 32) → ¬ (k = 0 ∧ f = 8) → zzi x' k f = zzi x k f) ∧ (∀ k f, (k < 20 ∨ 28 ≤ k ∧ k < 32) → zza x' k f = zza x k f) ∧ (∀ k f, (k < 20 ∨ 28 ≤ k ∧ k < 32) → zzr x' k f = zzr x k f) ∧ ∀ f, zzq x' f = zzq x f
abbrev zPM (m m' : zzS) : Prop := zzi m' 36 23 = zzi m 36 23 ∧ (∀ k f, (41 ≤ k ∧ k ≤ 45 ∨ k = 50) → zza m' k f = zza m k f) ∧ ∀ f, zzl m' 53 f = zzl m 53 f
theorem zPX_refl (x : zzS) : zPX x x := ⟨fun _ _ _ _ => rfl, fun _ _ _ => rfl, fun _ _ _ => rfl, fun _ => rfl⟩
theorem zPX_tr {x y z : zzS} (h : zPX x y) (g : zPX y z) : zPX x z :=
  ⟨fun k f c d => (g.1 k f c d).trans (h.1 k f c d), fun k f c => (g.2.1 k f c).trans (h.2.1 k f c), fun k f c => (g.2.2.1 k f c).trans (h.2.2.1 k f c), fun f => (g.2.2.2 f).trans (h.2.2.2 f)⟩
theorem zPM_refl (x : zzS) : zPM x x := ⟨rfl, fun _ _ _ => rfl, fun _ => rfl⟩
theorem zPM_tr {x y z : zzS} (h : zPM x y) (g : zPM y z) : zPM x z :=
  ⟨g.1.trans h.1, fun k f c => (g.2.1 k f c).trans (h.2.1 k f c), fun f => (g.2.2 f).trans (h.2.2 f)⟩
theorem zPX_fr {t : Nat} {x x' : zzS} (ht : t = 20 ∨ t = 24) (h : zFR t x x') : zPX x x' :=
  ⟨fun k f c _ => h.1 k f (by omega), fun k f c => h.2.1 k f (by omega), fun k f c => h.2.2.1 k f (by omega), h.2.2.2.2⟩
theorem zPM_fr {m m' : zzS} (h : zMF m m') : zPM m m' := ⟨h.1 _ _ (by omega), fun k f c => h.2.1 k f (by omega), fun f => h.2.2.2.1 _ f⟩
theorem zPM_13 (m : zzS) (v : Int32) : zPM m (zzsi m 36 13 v) := ⟨rfl, fun _ _ _ => rfl, fun _ => rfl⟩
theorem zSh_p {x m x' m' : zzS} (h : zSh x m) (hx : zPX x x') (hm : zPM m m') : zSh x' m' := by
  intro d hd
  rw [hm.2.1 41 d (by omega), hm.2.1 42 d (by omega), hm.2.1 43 d (by omega), hm.2.1 44 d (by omega), hm.2.1 45 d (by omega), hx.2.2.1 1 d (by omega), hx.2.2.2 d, hx.1 (4 + 2 * d) 1 (by omega) (by omega), hx.1 (4 + 2 * d) 2 (by omega) (by omega)]
  rcases h d hd with h | h | ⟨h1, h2, h3, s, n, h4, h5, h6, h7, h8, h9, h10⟩
  · exact Or.inl h
  · exact Or.inr (Or.inl h)
  · exact Or.inr (Or.inr ⟨h1, h2, h3, s, n, h4, h5, h6, h7, h8, h9, fun i hi => by rw [hm.2.2, hx.2.1 (5 + 2 * d) i (by omega)]; exact h10 i hi⟩)
theorem zIm_p {x m x' m' : zzS} (h : zIm x m) (hx : zPX x x') (hm : zPM m m') : zIm x' m' := by
  rcases h with ⟨h1, h2⟩ | ⟨h1, h2, T, h3, h4⟩
  · exact Or.inl ⟨by rw [hx.1 0 7 (by omega) (by omega)]; exact h1, by rw [hm.1]; exact h2⟩
  · refine Or.inr ⟨by rw [hx.1 0 7 (by omega) (by omega)]; exact h1, by rw [hm.1]; exact h2, T, ⟨h3.1, ?_, ?_, ?_, ?_, ?_, ?_⟩, ⟨h4.1, ?_, ?_, ?_, ?_, ?_, ?_⟩⟩
    · rw [hx.1 28 4 (by omega) (by omega)]; exact h3.2.1
    · rw [hx.1 28 5 (by omega) (by omega)]; exact h3.2.2.1
    · rw [hx.1 28 6 (by omega) (by omega)]; exact h3.2.2.2.1
    · intro p hp; rw [hx.2.2.1 (28 + 1) p (by omega)]; exact h3.2.2.2.2.1 p hp
    · intro p hp; rw [hx.2.1 (28 + 2) p (by omega)]; exact h3.2.2.2.2.2.1 p hp
    · intro p hp; rw [hx.2.1 (28 + 3) p (by omega)]; exact h3.2.2.2.2.2.2 p hp
    · rw [hm.2.1 50 _ (by omega)]; exact h4.2.1
    · rw [hm.2.1 50 _ (by omega)]; exact h4.2.2.1
    · rw [hm.2.1 50 _ (by omega)]; exact h4.2.2.2.1
    · intro p hp; rw [hm.2.1 50 _ (by omega), hm.2.1 50 _ (by omega)]; exact h4.2.2.2.2.1 p hp
    · intro p hp; rw [hm.2.1 50 _ (by omega)]; exact h4.2.2.2.2.2.1 p hp
    · intro p hp; rw [hm.2.1 50 _ (by omega)]; exact h4.2.2.2.2.2.2 p hp
abbrev zSim {α : Type} (fx fm : zzS → Option (α × zzS)) : Prop := ∀ x m, zRel x m → ∃ r x' m', fx x = some (r, x') ∧ fm m = some (r, m') ∧ zRel x' m'
theorem zSim_T {α : Type} {fx fm : zzS → Option (α × zzS)} (h : ∀ x m T, zXT x 20 T → zMT m T → zSh x m → zIm x m → ∃ r x' m' T', fx x = some (r, x') ∧ fm m = some (r, m') ∧ zXT x' 20 T' ∧ zMT m' T' ∧ zPX x x' ∧ zPM m m') : zSim fx fm := by
  intro x m ⟨⟨T, hx, hm⟩, hs, hi⟩
  obtain ⟨r, x', m', T', e1, e2, e3, e4, e5, e6⟩ := h x m T hx hm hs hi
  exact ⟨r, x', m', e1, e2, ⟨T', e3, e4⟩, zSh_p hs e5 e6, zIm_p hi e5 e6⟩
/-- a call that only reads: the reference's one write is THROWN -/
theorem zSim_rd {α : Type} {fx fm : zzS → Option (α × zzS)} (h : ∀ x m T, zXT x 20 T → zMT m T → zSh x m → zIm x m → ∃ r, fx x = some (r, x) ∧ fm m = some (r, zzsi m 36 13 (nI 0))) : zSim fx fm :=
  zSim_T (fun x m T hx hm hs hi => by
    obtain ⟨r, e1, e2⟩ := h x m T hx hm hs hi
    exact ⟨r, x, _, T, e1, e2, hx, hm, zPX_refl x, zPM_13 m _⟩)
