/-! ===== town ===== -/
def f_X11_town_131 (k60 : Nat → Int32 → Int32 → zzS → Option (Int32 × zzS)) (p0 : Int32) (l2 : Nat) (l4 : Int32) (l5 : Int32) (σ : zzS) : Option (Int32 × zzS) :=
  zzlt (l5 + (1 : Int32)) (fun x1 => k60 l2 l4 x1 σ)
def f_X11_town_60b  (k60 : Nat → Int32 → Int32 → zzS → Option (Int32 × zzS)) (p0 : Int32) (l2 : Nat) (l4 : Int32) (l5 : Int32) (σ : zzS) : Option (Int32 × zzS) :=
  (if l5 < (zzi σ l2 2) then (zzbd (f_X7_at l2 l5 σ) (fun r4 σ5 => zzbd (f_X11_digitsBehind r4 σ5) (fun r6 σ7 => (if 0 < r6 then (zzbd (f_X7_digitAt l2 (l5 + (1 : Int32)) σ7) (fun r9 σ10 => zzbd (f_X7_digitAt l2 (l5 + (2 : Int32)) σ10) (fun r11 σ12 => zzbd (f_X7_digitAt l2 (l5 + (3 : Int32)) σ12) (fun r13 σ14 => zzbd (f_X10_perform 24 r4 r9 r11 r13 σ14) (fun r15 σ16 => (if r15 = 0 then (some (((-2000 : Int32) - l5), σ16)) else (zzlt (l4 + (1 : Int32)) (fun x18 => f_X11_town_131 k60 p0 l2 x18 l5 σ16)))))))) else (f_X11_town_131 k60 p0 l2 l4 l5 σ7))))) else (zzbd (f_X10_become 20 24 σ) (fun r2 σ3 => some (l4, σ3))))
def f_X11_town_60  (p0 : Int32) : Nat → Nat → Int32 → Int32 → zzS → Option (Int32 × zzS)
  | 0 => fun _ _ _ _ => none
  | n + 1 => f_X11_town_60b (f_X11_town_60 p0 n) p0
def f_X11_town (p0 : Int32) (σ : zzS) : Option (Int32 × zzS) :=
  zzbd (f_X11_rowOn p0 σ) (fun r1 σ2 => (zzon r1 (zzbd (f_X11_refusalWithoutRow p0 σ2) (fun r6 σ7 => some (r6, σ7))) (fun j3 => zzgd (zzrow j3) (if (zzi σ2 j3 1) = 0 then (zzbd (f_X7_firstWrongByte j3 σ2) (fun r9 σ10 => (if r9 = (-4 : Int32) then (zzbd (f_X10_become 24 20 σ10) (fun r12 σ13 => f_X11_town_60 p0 200 j3 (0 : Int32) (0 : Int32) σ13)) else (some (((-1000 : Int32) - r9), σ10))))) else (some ((-12 : Int32), σ2))))))
/-- what the reference has read: k statements -/
abbrev zRS (m : zzS) (g : Nat → Int32) (k : Nat) : Prop := ∀ j, j < k → zza m 46 j = nI (zP g j) ∧ zza m 47 j = g (zP g j) ∧ ∀ i, i < zmd (g (zP g j)) → zza m 48 (3 * j + i) = g (zP g j + 1 + i) - 48
section
variable {x m : zzS} {e n : Nat} {el : Nat → Int32}
/-- the reference's reading, statement by statement -/
theorem m_rd_k (he : e < 8) (hn : n ≤ 100) {K : Nat} (hK : K < 40) (hg : ∀ j, j < K → zon (zH el n) (zP (zH el n) j) = none) (hP : zP (zH el n) K ≤ n) : ∀ d k N m, k + d = K → d + 40 < N → zRD m e n el → zzi m 36 15 = nI (zP (zH el n) k) → zzi m 36 16 = nI 0 → zzi m 36 17 = nI k → zRS m (zH el n) k → ∃ m' N', 40 < N' ∧ f_X12_town_57 (nI e) N m = f_X12_town_57 (nI e) N' m' ∧ zRF m m' ∧ zzi m' 36 15 = nI (zP (zH el n) K) ∧ zzi m' 36 16 = nI 0 ∧ zzi m' 36 17 = nI K ∧ zRS m' (zH el n) K := by
  intro d
  induction d with
  | zero =>
    intro k N m hk hN hr h1 h2 h3 hs
    have : k = K := by omega
    subst this
    exact ⟨m, N, by omega, rfl, zRF_refl m, h1, h2, h3, hs⟩
  | succ d ih =>
    intro k N m hk hN hr h1 h2 h3 hs
    obtain ⟨N, rfl⟩ : ∃ n', N = n' + 1 := ⟨N - 1, by omega⟩
    have hgk := hg k (by omega)
    obtain ⟨a1, a2, a3⟩ := zon_none hgk
    have hlt := zH_m a1
    have hs2 := zP_s (zH el n) k
    obtain ⟨m1, b1, b2, b3, b4, b5, b6, b7, b8, b9⟩ := m_rs hr he hn (p := zP (zH el n) k) (k := k) (by omega) (by omega) h1 h2 h3
    obtain ⟨c1, c2, c3⟩ := b8 hgk
    obtain ⟨m2, N2, d1, d2, d3, d4⟩ := ih (k + 1) N m1 (by omega) (by omega) (zRD_f hr b2) (by rw [c2, hs2]) c1 b3 (by
      intro j hj
      by_cases c : j = k
      · subst c
        exact ⟨b4, b5, c3⟩
      · obtain ⟨e1, e2, e3⟩ := hs j (by omega)
        have hm3 := zmd_le (zH el n (zP (zH el n) j))
        refine ⟨(b6 j c).1.trans e1, (b6 j c).2.trans e2, fun i hi => (b7 (3 * j + i) (by omega)).trans (e3 i hi)⟩)
    refine ⟨m2, N2, d1, ?_, zRF_tr b2 d3, d4⟩
    rw [← d2]
    show f_X12_town_57b (f_X12_town_57 (nI e) N) (nI e) m = _
    unfold f_X12_town_57b
    rw [h2, if_pos (show nI 0 = 0 from rfl), h3]
    have e84 : f_X12_town_84 (f_X12_town_57 (nI e) N) (nI e) m = f_X12_town_57 (nI e) N m1 := by
      unfold f_X12_town_84
      rw [b1, zzbd_s]
    by_cases c : k = 0
    · rw [if_pos (show nI k = 0 by rw [c]; rfl)]; exact e84
    · rw [if_neg (q_ne0 (by omega) c), zzgd_t (show zzin (nI e) (zzlen 45) by rw [q_len45]; exact q_in he (by omega)), h1, q_cl (by omega), hr.2.1, if_pos ((q_lt (by omega) (by omega)).mpr hlt)]
      exact e84
/-- a good text: the reference's second loop comes next -/
theorem m_rd_good (he : e < 8) (hn : n ≤ 100) {K N : Nat} (hr : zRD m e n el) (h1 : zzi m 36 15 = nI n) (h2 : zzi m 36 16 = nI 0) (h3 : zzi m 36 17 = nI K) (hK : 0 < K ∧ K < 40) : f_X12_town_57 (nI e) (N + 1) m = zzbd (f_X12_open m) (fun r2 σ3 => f_X12_town_113 (nI e) 200 (0 : Int32) σ3) := by
  show f_X12_town_57b (f_X12_town_57 (nI e) N) (nI e) m = _
  unfold f_X12_town_57b
  rw [h2, if_pos (show nI 0 = 0 from rfl), h3, if_neg (q_ne0 (by omega) (by omega)), zzgd_t (show zzin (nI e) (zzlen 45) by rw [q_len45]; exact q_in he (by omega)), h1, q_cl (by omega), hr.2.1, if_neg (fun z => Nat.lt_irrefl n ((q_lt (by omega) (by omega)).mp z))]
  unfold f_X12_town_91
  rw [h2, if_pos (show nI 0 = 0 from rfl)]
/-- a bad one -/
theorem m_rd_bad (he : e < 8) (hn : n ≤ 100) {K N w : Nat} (hr : zRD m e n el) (hP : zP (zH el n) K < n ∨ K = 0) (hPn : zP (zH el n) K ≤ 100) (h1 : zzi m 36 15 = nI (zP (zH el n) K)) (h2 : zzi m 36 16 = nI 0) (h3 : zzi m 36 17 = nI K) (hK : K < 40) (hw : zon (zH el n) (zP (zH el n) K) = some w) : ∃ m', f_X12_town_57 (nI e) (N + 2) m = some ((-1000 : Int32) - nI w, m') ∧ zRF m m' := by
  obtain ⟨m1, b1, b2, b3, b4, b5, b6, b7, b8, b9⟩ := m_rs hr he hn (p := zP (zH el n) K) (k := K) (by omega) hPn h1 h2 h3
  obtain ⟨c1, c2⟩ := b9 w hw
  refine ⟨m1, ?_, b2⟩
  have e84 : f_X12_town_84 (f_X12_town_57 (nI e) (N + 1)) (nI e) m = f_X12_town_57 (nI e) (N + 1) m1 := by
    unfold f_X12_town_84
    rw [b1, zzbd_s]
  have e91 : f_X12_town_57 (nI e) (N + 1) m1 = some ((-1000 : Int32) - nI w, m1) := by
    show f_X12_town_57b (f_X12_town_57 (nI e) N) (nI e) m1 = _
    unfold f_X12_town_57b f_X12_town_91
    rw [c1, if_neg (show ¬ nI 1 = 0 by decide), if_neg (show ¬ nI 1 = 0 by decide), c2]
  have e0 : f_X12_town_57 (nI e) (N + 2) m = f_X12_town_84 (f_X12_town_57 (nI e) (N + 1)) (nI e) m := by
    show f_X12_town_57b (f_X12_town_57 (nI e) (N + 1)) (nI e) m = _
    unfold f_X12_town_57b
    rw [h2, if_pos (show nI 0 = 0 from rfl), h3]
    by_cases c : K = 0
    · rw [if_pos (show nI K = 0 by rw [c]; rfl)]
    · rw [if_neg (q_ne0 (by omega) c), zzgd_t (show zzin (nI e) (zzlen 45) by rw [q_len45]; exact q_in he (by omega)), h1, q_cl (by omega), hr.2.1, if_pos ((q_lt (by omega) (by omega)).mpr (by omega))]
  rw [e0, e84, e91]
/-! the class goes through the text -/
/-- the digit at a place, as the class reads it -/
def zDg (el : Nat → Int32) (n i : Nat) : Int32 := (if i < n then el i else 0) - 48
theorem x_dig (he : e < 8) (hn : n ≤ 100) (h2 : zzi x (4 + 2 * e) 2 = nI n) {i : Nat} (hi : i < 1000) : f_X7_digitAt (4 + 2 * e) (nI i) x = some (zDg (fun j => zza x (5 + 2 * e) j) n i, x) := by
  unfold f_X7_digitAt zDg
  by_cases c : i < n
  · rw [x7_at he h2 hn c, zzbd_s, if_pos c]
  · rw [x7_at_bad h2 hn (q_badn c (by omega)), zzbd_s, if_neg c]; rfl
theorem x_tw_skip (he : e < 8) (hn : n ≤ 100) (h2 : zzi x (4 + 2 * e) 2 = nI n) (p0 : Int32) (L4 : Int32) : ∀ d i N, i + d ≤ n → n < N + i → (∀ j, j < d → zmd (zza x (5 + 2 * e) (i + j)) = 0) → f_X11_town_60 p0 N (4 + 2 * e) L4 (nI i) x = f_X11_town_60 p0 (N - d) (4 + 2 * e) L4 (nI (i + d)) x := by
  intro d
  induction d with
  | zero => intro i N _ _ _; rfl
  | succ d ih =>
    intro i N hi hN h
    obtain ⟨N, rfl⟩ : ∃ n', N = n' + 1 := ⟨N - 1, by omega⟩
    have h0 := h 0 (by omega)
    have e0 : f_X11_town_60 p0 (N + 1) (4 + 2 * e) L4 (nI i) x = f_X11_town_60b (f_X11_town_60 p0 N) p0 (4 + 2 * e) L4 (nI i) x := rfl
    have g := ih (i + 1) N (by omega) (by omega) (fun j hj => by have := h (j + 1) (by omega); rw [show i + (j + 1) = i + 1 + j by omega] at this; exact this)
    rw [show N + 1 - (d + 1) = N - d by omega, show i + (d + 1) = i + 1 + d by omega, ← g, e0]
    unfold f_X11_town_60b
    rw [h2, if_pos ((q_lt (by omega) (by omega)).mpr (by omega)), x7_at he h2 hn (by omega), zzbd_s, x_dgb, zzbd_s]
    rw [Nat.add_zero] at h0
    rw [h0, if_neg (show ¬ (0 : Int32) < nI 0 by decide)]
    unfold f_X11_town_131
    rw [q1, nI_add, zzlt_eq]
theorem x_tw_at (he : e < 8) (hn : n ≤ 100) (h2 : zzi x (4 + 2 * e) 2 = nI n) (p0 : Int32) {c0 p N : Nat} (hp : p < n) (hm : ¬ zmd (zza x (5 + 2 * e) p) = 0) (hc : c0 < 1000) {r : Bool} {x' : zzS} (hf : f_X10_perform 24 (zza x (5 + 2 * e) p) (zDg (fun j => zza x (5 + 2 * e) j) n (p + 1)) (zDg (fun j => zza x (5 + 2 * e) j) n (p + 2)) (zDg (fun j => zza x (5 + 2 * e) j) n (p + 3)) x = some (zbn r, x')) : f_X11_town_60 p0 (N + 1) (4 + 2 * e) (nI c0) (nI p) x = if r = true then f_X11_town_60 p0 N (4 + 2 * e) (nI (c0 + 1)) (nI (p + 1)) x' else some ((-2000 : Int32) - nI p, x') := by
  have hle := zmd_le (zza x (5 + 2 * e) p)
  have a1 : nI p + (1 : Int32) = nI (p + 1) := by rw [q1, nI_add]
  have a2 : nI p + (2 : Int32) = nI (p + 2) := by rw [q2, nI_add]
  have a3 : nI p + (3 : Int32) = nI (p + 3) := by rw [q3, nI_add]
  have a4 : nI c0 + (1 : Int32) = nI (c0 + 1) := by rw [q1, nI_add]
  show f_X11_town_60b (f_X11_town_60 p0 N) p0 (4 + 2 * e) (nI c0) (nI p) x = _
  unfold f_X11_town_60b
  rw [h2, if_pos ((q_lt (by omega) (by omega)).mpr hp), x7_at he h2 hn hp, zzbd_s, x_dgb, zzbd_s, if_pos (show (0 : Int32) < nI (zmd (zza x (5 + 2 * e) p)) from (q_lt (a := 0) (by omega) (by omega)).mpr (by omega)), a1, x_dig he hn h2 (by omega), zzbd_s, a2, x_dig he hn h2 (by omega), zzbd_s, a3, x_dig he hn h2 (by omega), zzbd_s, hf, zzbd_s]
  cases r with
  | true =>
    rw [zbn_t, if_neg (show ¬ nI 1 = 0 by decide), if_pos rfl, a4, zzlt_eq]
    unfold f_X11_town_131
    rw [a1, zzlt_eq]
  | false => rw [zbn_f, if_pos (show nI 0 = 0 from rfl), if_neg Bool.false_ne_true]
end
