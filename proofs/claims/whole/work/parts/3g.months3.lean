/-! ===== months, the class's loops ===== -/
section
variable {x m : zzS} {t : Nat} {T U : zT}
theorem x_mon_i (k47 : Int32 → Int32 → Int32 → zzS → Option (Int32 × zzS)) (p0 p1 p2 : Int32) {N : Nat} (h0 : 0 < N) {c mo : Nat} : ∀ d n i a y, i + d = 10 → d < n → zXT y 24 a.2.1 → zn a.2.1 = N → zXT y 20 T → zzi y 0 8 = a.1 → ∃ y', f_X11_months_67 k47 p0 p1 p2 n (nI c) (nI a.2.2) (nI mo) (nI i) y = k47 (nI (c + zsm (zt (zup (fun _ => zmt N) d i a).2.1) N 0)) (nI (zup (fun _ => zmt N) d i a).2.2) (nI (mo + 1)) y' ∧ zXT y' 20 T ∧ zPX y y' ∧ zzi y' 0 8 = (zup (fun _ => zmt N) d i a).1 := by
  have ht2 : zztown 24 := Or.inr (Or.inl rfl)
  intro d
  induction d with
  | zero =>
    intro n i a y hi hn h1 h2 h3 h4
    obtain ⟨n, rfl⟩ : ∃ n', n = n' + 1 := ⟨n - 1, by omega⟩
    have : i = 10 := by omega
    subst this
    have g := x_allT h1 ht2
    rw [h2] at g
    rw [zup_z]
    refine ⟨y, ?_, h3, zPX_refl _, h4⟩
    unfold f_X11_months_67 f_X11_months_67b
    rw [q10, if_neg (by rw [q_lt (by omega) (by omega)]; omega), g, zzbd_s, nI_add, zzlt_eq, q1, nI_add, zzlt_eq]
  | succ d ih =>
    intro n i a y hi hn h1 h2 h3 h4
    obtain ⟨n, rfl⟩ : ∃ n', n = n' + 1 := ⟨n - 1, by omega⟩
    obtain ⟨s, U, tu⟩ := a
    obtain ⟨y1, g1, g2, g3, g4, g5⟩ := x_mon_1 k47 (f_X11_months_67 k47 p0 p1 p2 n) p0 p1 p2 h0 (c := c) (mo := mo) (i := i) (tu := tu) (by omega) h1 h2 h3 h4
    have hn' : zn (zmt N (s, U, tu)).2.1 = N := (zcT_n _ _ _).trans h2
    rw [zup_s]
    generalize zmt N (s, U, tu) = a' at g1 g2 g5 hn' ⊢
    obtain ⟨y', f1, f2, f3, f4⟩ := ih n (i + 1) a' y1 (by omega) (by omega) g2 hn' g3 g5
    refine ⟨y', ?_, f2, zPX_tr g4 f3, f4⟩
    rw [← f1, ← g1]
    rfl
theorem x_mon_o (p1 p2 : Int32) {P : Nat} (hP : P < 100) (h0 : 0 < zn T) : ∀ d n i a y, i + d = P → d < n → zXT y 20 T → zzi y 0 8 = a.1 → ∃ y', f_X11_months_47 (nI P) p1 p2 n (nI a.2.1) (nI a.2.2) (nI i) y = some (if p2 = nI 0 then nI (zup (fun _ => zmo T) d i a).2.1 else nI (zup (fun _ => zmo T) d i a).2.2, y') ∧ zXT y' 20 T ∧ zPX y y' := by
  have ht : zztown 20 := Or.inl rfl
  have ht2 : zztown 24 := Or.inr (Or.inl rfl)
  intro d
  induction d with
  | zero =>
    intro n i a y hi hn h3 h4
    obtain ⟨n, rfl⟩ : ∃ n', n = n' + 1 := ⟨n - 1, by omega⟩
    have : i = P := by omega
    subst this
    rw [zup_z]
    refine ⟨y, ?_, h3, zPX_refl _⟩
    unfold f_X11_months_47 f_X11_months_47b
    rw [if_neg (by rw [q_lt (by omega) (by omega)]; omega), q0]
    split <;> rfl
  | succ d ih =>
    intro n i a y hi hn h3 h4
    obtain ⟨n, rfl⟩ : ∃ n', n = n' + 1 := ⟨n - 1, by omega⟩
    obtain ⟨s, c, tu⟩ := a
    obtain ⟨y1, b1, b2, b3⟩ := x_become h3 ht2 ht (by omega)
    have k3 := zXT_fr ht2 ht (by omega) h3 b3
    have k4 : zzi y1 0 8 = s := by rw [b3.1 0 8 (by omega)]; exact h4
    obtain ⟨y2, g1, g2, g3, g4⟩ := x_mon_i (f_X11_months_47 (nI P) p1 p2 n) (nI P) p1 p2 h0 (c := c) (mo := i) 10 200 0 (s, T, tu) y1 (by omega) (by omega) b2 rfl k3 k4
    have ez : zmo T (s, c, tu) = ((zup (fun _ => zmt (zn T)) 10 0 (s, T, tu)).1, c + zsm (zt (zup (fun _ => zmt (zn T)) 10 0 (s, T, tu)).2.1) (zn T) 0, (zup (fun _ => zmt (zn T)) 10 0 (s, T, tu)).2.2) := rfl
    rw [zup_s, ez]
    generalize zup (fun _ => zmt (zn T)) 10 0 (s, T, tu) = w at g1 g4 ⊢
    obtain ⟨y', f1, f2, f3⟩ := ih n (i + 1) (w.1, c + zsm (zt w.2.1) (zn T) 0, w.2.2) y2 (by omega) (by omega) g2 g4
    refine ⟨y', ?_, f2, zPX_tr (zPX_tr (zPX_fr (Or.inr rfl) b3) g3) f3⟩
    rw [← f1, ← g1]
    show f_X11_months_47b (f_X11_months_47 (nI P) p1 p2 n) (nI P) p1 p2 (nI c) (nI tu) (nI i) y = _
    unfold f_X11_months_47b
    generalize f_X11_months_67 (f_X11_months_47 (nI P) p1 p2 n) (nI P) p1 p2 200 = F
    rw [if_pos ((q_lt (by omega) (by omega)).mpr (by omega)), b1, zzbd_s, q0]
end
