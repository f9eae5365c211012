/-! ===== months, the reference's loops, the call ===== -/
section
variable {x m : zzS} {t : Nat} {T U : zT}
theorem m_canb (h : zMT m U) {p q : Nat} (hp : p < zn U) (hq : q < zn U) : f_X12_canTurn (nI p) (nI q) m = some (zbn (zcb U p q), m) := by
  haveI : Decidable (zmay U (zl U) p q ∧ zt U q < 9) := Classical.propDecidable _
  rw [m_can h hp hq]
  by_cases c : zmay U (zl U) p q ∧ zt U q < 9
  · have e : zcb U p q = true := by unfold zcb; rw [(zmb_iff ..).mpr c.1, decide_eq_true c.2]; rfl
    rw [if_pos c, e]; rfl
  · have e : zcb U p q = false := by
      cases z : zcb U p q with
      | false => rfl
      | true =>
        unfold zcb at z
        rw [Bool.and_eq_true] at z
        exact absurd ⟨(zmb_iff ..).mp z.1, of_decide_eq_true z.2⟩ c
    rw [if_neg c, e]; rfl
theorem zMT_29 (h : zMT m T) (v : Int32) : zMT (zzsi m 36 29 v) T := h
theorem zPM_29 (m : zzS) (v : Int32) : zPM m (zzsi m 36 29 v) := ⟨rfl, fun _ _ _ => rfl, fun _ => rfl⟩
theorem m_mon_1 (k57 : Int32 → Int32 → Int32 → zzS → Option (Int32 × zzS)) (k : Int32 → Int32 → Int32 → Int32 → zzS → Option (Int32 × zzS)) (p0 p1 p2 : Int32) {N : Nat} (h0 : 0 < N) {c mo i tu : Nat} (hi : i < 10) {s : Int32} {y : zzS} (h1 : zMT y U) (h2 : zn U = N) (h3 : zAT y 49 T) (h4 : zzi y 36 29 = s) : ∃ y', f_X12_months_66b k57 k p0 p1 p2 (nI c) (nI tu) (nI mo) (nI i) y = k (nI c) (nI (zmt N (s, U, tu)).2.2) (nI mo) (nI (i + 1)) y' ∧ zMT y' (zmt N (s, U, tu)).2.1 ∧ zAT y' 49 T ∧ zPM y y' ∧ zzi y' 36 29 = (zmt N (s, U, tu)).1 := by
  have h7 := h1.1.1
  have d1 := m_drw (N := N) h0 (by omega) h4
  have k1 := zMT_29 h1 (zsd s)
  have d2 := m_drw (m := zzsi y 36 29 (zsd s)) (N := N) h0 (by omega) (s := zsd s) (by rw [q_ii, if_pos ⟨rfl, rfl⟩])
  have k2 := zMT_29 k1 (zsd (zsd s))
  have k3 : zAT (zzsi (zzsi y 36 29 (zsd s)) 36 29 (zsd (zsd s))) 49 T := h3
  have r1 : zzi y 36 0 = nI N := by rw [h1.2.1, h2]
  have r2 : zzi (zzsi y 36 29 (zsd s)) 36 0 = nI N := by rw [k1.2.1, h2]
  have b1 := zdr_lt (zsd s) h0
  have b2 := zdr_lt (zsd (zsd s)) h0
  have s0 : zzi (zzsi (zzsi y 36 29 (zsd s)) 36 29 (zsd (zsd s))) 36 29 = zsd (zsd s) := by rw [q_ii, if_pos ⟨rfl, rfl⟩]
  have px := zPM_tr (zPM_29 y (zsd s)) (zPM_29 (zzsi y 36 29 (zsd s)) (zsd (zsd s)))
  have ez : zmt N (s, U, tu) = (zsd (zsd s), zcT U (zdr (zsd s) N) (zdr (zsd (zsd s)) N), tu + (if zcb U (zdr (zsd s) N) (zdr (zsd (zsd s)) N) = true then 1 else 0)) := rfl
  rw [ez]
  generalize zdr (zsd s) N = P at d1 b1 ⊢
  generalize zdr (zsd (zsd s)) N = Q at d2 b2 ⊢
  generalize zsd (zsd s) = s2 at d2 k2 k3 s0 px ⊢
  generalize zsd s = s1 at d1 d2 k1 k2 k3 r2 s0 px
  generalize zzsi (zzsi y 36 29 s1) 36 29 s2 = y2 at d2 k2 k3 s0 px
  have cb := m_canb k2 (p := P) (q := Q) (by omega) (by omega)
  have e0 : f_X12_months_66b k57 k p0 p1 p2 (nI c) (nI tu) (nI mo) (nI i) y = (if zbn (zcb U P Q) = 0 then (if nI P = nI Q then (f_X12_months_134 k57 k p0 p1 p2 (nI c) (nI tu) (nI mo) (nI i) (zbn (zcb U P Q)) y2) else (zzbd (f_X12_grow (nI P) (nI Q) y2) (fun r16 σ17 => f_X12_months_134 k57 k p0 p1 p2 (nI c) (nI tu) (nI mo) (nI i) (zbn (zcb U P Q)) σ17))) else (zzbd (f_X12_turnCards (nI P) (nI Q) y2) (fun r18 σ19 => f_X12_months_134 k57 k p0 p1 p2 (nI c) (nI tu) (nI mo) (nI i) (zbn (zcb U P Q)) σ19))) := by
    unfold f_X12_months_66b
    rw [q10, if_pos ((q_lt (by omega) (by omega)).mpr hi), r1, d1, zzbd_s, r2, d2, zzbd_s, cb, zzbd_s]
  rw [e0]
  cases b : zcb U P Q with
  | false =>
    have z : ∀ w, f_X12_months_134 k57 k p0 p1 p2 (nI c) (nI tu) (nI mo) (nI i) (zbn false) w = k (nI c) (nI (tu + 0)) (nI mo) (nI (i + 1)) w := by
      intro w
      unfold f_X12_months_134
      rw [if_pos (show zbn false = 0 from rfl)]
      unfold f_X12_months_146
      rw [q0, nI_add, zzlt_eq, q1, nI_add, zzlt_eq]
    rw [if_pos (show zbn false = 0 from rfl)]
    by_cases c1 : P = Q
    · refine ⟨y2, ?_, by unfold zcT; rw [if_neg (by rw [b]; decide), if_pos c1]; exact k2, k3, px, s0⟩
      rw [if_pos (by rw [c1]), z]; rfl
    · obtain ⟨y3, g1, g2, g3⟩ := m_growT k2 (p := P) (q := Q) (by omega) (by omega)
      refine ⟨y3, ?_, by unfold zcT; rw [if_neg (by rw [b]; decide), if_neg c1]; exact g2, zAT_fr (Or.inl rfl) k3 g3, zPM_tr px (zPM_fr g3), by rw [g3.1 36 29 (by omega)]; exact s0⟩
      rw [if_neg (by rw [q_eq (by omega) (by omega)]; exact c1), g1, zzbd_s, z]; rfl
  | true =>
    have z : ∀ w, f_X12_months_134 k57 k p0 p1 p2 (nI c) (nI tu) (nI mo) (nI i) (zbn true) w = k (nI c) (nI (tu + 1)) (nI mo) (nI (i + 1)) w := by
      intro w
      unfold f_X12_months_134
      rw [if_neg (show ¬ zbn true = 0 by decide)]
      unfold f_X12_months_146
      rw [q1, nI_add, zzlt_eq, nI_add, zzlt_eq]
    obtain ⟨y3, g1, g2, g3⟩ := m_turnT k2 (p := P) (q := Q) (by omega) (by omega)
    refine ⟨y3, ?_, by unfold zcT; rw [if_pos b]; exact g2, zAT_fr (Or.inl rfl) k3 g3, zPM_tr px (zPM_fr g3), by rw [g3.1 36 29 (by omega)]; exact s0⟩
    rw [if_neg (show ¬ zbn true = 0 by decide), g1, zzbd_s, z]; rfl
theorem m_mon_i (k57 : Int32 → Int32 → Int32 → zzS → Option (Int32 × zzS)) (p0 p1 p2 : Int32) {N : Nat} (h0 : 0 < N) {c mo : Nat} : ∀ d n i a y, i + d = 10 → d < n → zMT y a.2.1 → zn a.2.1 = N → zAT y 49 T → zzi y 36 29 = a.1 → ∃ y', f_X12_months_66 k57 p0 p1 p2 n (nI c) (nI a.2.2) (nI mo) (nI i) y = k57 (nI (c + zsm (zt (zup (fun _ => zmt N) d i a).2.1) N 0)) (nI (zup (fun _ => zmt N) d i a).2.2) (nI (mo + 1)) y' ∧ zMT y' T ∧ zAT y' 49 T ∧ zPM y y' ∧ zzi y' 36 29 = (zup (fun _ => zmt N) d i a).1 := by
  intro d
  induction d with
  | zero =>
    intro n i a y hi hn h1 h2 h3 h4
    obtain ⟨n, rfl⟩ : ∃ n', n = n' + 1 := ⟨n - 1, by omega⟩
    have : i = 10 := by omega
    subst this
    have g := m_allT h1
    rw [h2] at g
    rw [zup_z]
    obtain ⟨y', c1, c2, c3, c4⟩ := m_close h3
    refine ⟨y', ?_, c2, c3, zPM_k c4, by rw [c4.1 36 29 (by omega)]; exact h4⟩
    unfold f_X12_months_66 f_X12_months_66b
    rw [q10, if_neg (by rw [q_lt (by omega) (by omega)]; omega), g, zzbd_s, nI_add, zzlt_eq, c1, zzbd_s, q1, nI_add, zzlt_eq]
  | succ d ih =>
    intro n i a y hi hn h1 h2 h3 h4
    obtain ⟨n, rfl⟩ : ∃ n', n = n' + 1 := ⟨n - 1, by omega⟩
    obtain ⟨s, U, tu⟩ := a
    obtain ⟨y1, g1, g2, g3, g4, g5⟩ := m_mon_1 k57 (f_X12_months_66 k57 p0 p1 p2 n) p0 p1 p2 h0 (c := c) (mo := mo) (i := i) (tu := tu) (by omega) h1 h2 h3 h4
    have hn' : zn (zmt N (s, U, tu)).2.1 = N := (zcT_n _ _ _).trans h2
    rw [zup_s]
    generalize zmt N (s, U, tu) = a' at g1 g2 g5 hn' ⊢
    obtain ⟨y', f1, f2, f3, f4, f5⟩ := ih n (i + 1) a' y1 (by omega) (by omega) g2 hn' g3 g5
    refine ⟨y', ?_, f2, f3, zPM_tr g4 f4, f5⟩
    rw [← f1, ← g1]
    rfl
end
