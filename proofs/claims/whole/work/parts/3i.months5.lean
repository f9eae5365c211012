/-! ===== months, the call ===== -/
section
variable {x m : zzS} {t : Nat} {T U : zT}
theorem m_mon_o (p1 p2 : Int32) {P : Nat} (hP : P < 100) (h0 : 0 < zn T) : ∀ d n i a y, i + d = P → d < n → zMT y T → zAT y 49 T → zzi y 36 29 = a.1 → ∃ y', f_X12_months_57 (nI P) p1 p2 n (nI a.2.1) (nI a.2.2) (nI i) y = some (if p2 = nI 0 then nI (zup (fun _ => zmo T) d i a).2.1 else nI (zup (fun _ => zmo T) d i a).2.2, y') ∧ zMT y' T ∧ zPM y y' := by
  intro d
  induction d with
  | zero =>
    intro n i a y hi hn h2 h3 h4
    obtain ⟨n, rfl⟩ : ∃ n', n = n' + 1 := ⟨n - 1, by omega⟩
    have : i = P := by omega
    subst this
    rw [zup_z]
    refine ⟨y, ?_, h2, zPM_refl _⟩
    unfold f_X12_months_57 f_X12_months_57b
    rw [if_neg (by rw [q_lt (by omega) (by omega)]; omega), q0]
    split <;> rfl
  | succ d ih =>
    intro n i a y hi hn h2 h3 h4
    obtain ⟨n, rfl⟩ : ∃ n', n = n' + 1 := ⟨n - 1, by omega⟩
    obtain ⟨s, c, tu⟩ := a
    obtain ⟨y2, g1, g2, g3, g4, g5⟩ := m_mon_i (f_X12_months_57 (nI P) p1 p2 n) (nI P) p1 p2 h0 (c := c) (mo := i) 10 200 0 (s, T, tu) y (by omega) (by omega) h2 rfl h3 h4
    have ez : zmo T (s, c, tu) = ((zup (fun _ => zmt (zn T)) 10 0 (s, T, tu)).1, c + zsm (zt (zup (fun _ => zmt (zn T)) 10 0 (s, T, tu)).2.1) (zn T) 0, (zup (fun _ => zmt (zn T)) 10 0 (s, T, tu)).2.2) := rfl
    rw [zup_s, ez]
    generalize zup (fun _ => zmt (zn T)) 10 0 (s, T, tu) = w at g1 g5 ⊢
    obtain ⟨y', f1, f2, f3⟩ := ih n (i + 1) (w.1, c + zsm (zt w.2.1) (zn T) 0, w.2.2) y2 (by omega) (by omega) g2 g3 g5
    refine ⟨y', ?_, f2, zPM_tr g4 f3⟩
    rw [← f1, ← g1]
    show f_X12_months_57b (f_X12_months_57 (nI P) p1 p2 n) (nI P) p1 p2 (nI c) (nI tu) (nI i) y = _
    unfold f_X12_months_57b
    generalize f_X12_months_66 (f_X12_months_57 (nI P) p1 p2 n) (nI P) p1 p2 200 = F
    rw [if_pos ((q_lt (by omega) (by omega)).mpr (by omega)), q0]
end
theorem x_mon_e {x : zzS} {T : zT} (hx : zXT x 20 T) {P u : Nat} (z : Int32) (h1 : 1 ≤ P) (h2 : P ≤ 20) (hu : u < 2) (h0 : 0 < zn T) : f_X11_months (nI P) z (nI u) x = f_X11_months_47 (nI P) z (nI u) 200 (nI 0) (nI 0) (nI 0) (zzsi x 0 8 z) := by
  have h7 := hx.1.1
  unfold f_X11_months
  generalize f_X11_months_47 (nI P) z (nI u) 200 = F
  rw [q1, if_neg (by rw [q_lt (by omega) (by omega)]; omega), q20, if_neg (by rw [q_lt (by omega) (by omega)]; omega), x_12 hu, zzbd_s, if_neg (show ¬ nI 1 = 0 by decide), hx.2.1, if_neg (by rw [q0, q_eq (by omega) (by omega)]; omega), zzlt_eq, q0]
theorem m_mon_e {m m1 : zzS} {T : zT} (hm : zMT m T) {P u : Nat} (z : Int32) (h1 : 1 ≤ P) (h2 : P ≤ 20) (hu : u < 2) (h0 : 0 < zn T) (ho : f_X12_open (zzsi (zzsi m 36 13 (nI 0)) 36 29 z) = some ((), m1)) : f_X12_months (nI P) z (nI u) m = f_X12_months_57 (nI P) z (nI u) 200 (nI 0) (nI 0) (nI 0) m1 := by
  have h7 := hm.1.1
  have e1 : (1 : Int64).toInt = 1 := rfl
  have e2 : (20 : Int64).toInt = 20 := rfl
  have g : zzi (zzsi m 36 13 (nI 0)) 36 0 = nI (zn T) := hm.2.1
  unfold f_X12_months
  generalize f_X12_months_57 (nI P) z (nI u) 200 = F
  rw [zzlt_eq, q0, m_in, e1, e2, nI_toInt (by omega), if_pos (by omega), zzbd_s, if_neg (show ¬ nI 1 = nI 0 by decide), m_in1 hu, zzbd_s, if_neg (show ¬ nI 1 = nI 0 by decide), g, if_neg (by rw [q_eq (by omega) (by omega)]; omega), zzlt_eq, ho, zzbd_s]
theorem s_months (n z w : Int32) : zSim (f_X11_months n z w) (f_X12_months n z w) := by
  refine zSim_T (fun x m T hx hm hs hi => ?_)
  have h7 := hx.1.1
  have hm1 : zMT (zzsi m 36 13 (nI 0)) T := hm
  have e1 : (1 : Int64).toInt = 1 := rfl
  have e2 : (20 : Int64).toInt = 20 := rfl
  have ht : zztown 20 := Or.inl rfl
  by_cases hn : 1 ≤ n.toInt ∧ n.toInt ≤ 20
  · obtain ⟨P, hP, rfl⟩ : ∃ P, P < 21 ∧ n = nI P := by
      rcases q_cls n 21 (by omega) with h | h
      · exact h
      · unfold zbad at h; omega
    rw [nI_toInt (by omega)] at hn
    have c1 : ¬ P < 1 := by omega
    have c2 : ¬ 20 < P := by omega
    have a2 : f_X12_in (nI P).toInt64 (1 : Int64) (20 : Int64) (zzsi m 36 13 (nI 0)) = some (nI 1, zzsi m 36 13 (nI 0)) := by
      rw [m_in, e1, e2, nI_toInt (by omega), if_pos (by omega)]
    rcases q_cls w 2 (by omega) with ⟨u, hu, rfl⟩ | hw
    · by_cases h0 : zn T = 0
      · refine ⟨-3, x, _, T, ?_, ?_, hx, hm1, zPX_refl _, zPM_13 m _⟩
        · simp (disch := omega) only [f_X11_months, c1, c2, x_12 hu, hx.2.1, h0, q_e1_0, zzbd_s, zzlt_eq, zzon_n, zzon_s, q0, q1, q2, q3, q4, q5, q6, q7, q8, q9, q10, q11, q12, q20, q48, q49, q57, q59, q99, q100, q999, nI_add, pk_mul, q_lt0, q_lt, q_eq, q_cl, q_gd, if_true, if_false, q_ofNat, q_min, q_max, ite_self, Nat.not_lt_zero, q_e10, q_e01, eq_self, not_true_eq_false, not_false_eq_true, and_true, true_and, and_false, false_and, or_true, true_or, or_false, false_or, q_gdT, Nat.reduceEqDiff, Bool.false_eq_true, Nat.lt_irrefl, Nat.or_zero]
        · simp (disch := omega) only [f_X12_months, a2, m_in1 hu, hm1.2.1, h0, q_e1_0, zzbd_s, zzlt_eq, zzon_n, zzon_s, q0, q1, q2, q3, q4, q5, q6, q7, q8, q9, q10, q11, q12, q20, q48, q49, q57, q59, q99, q100, q999, nI_add, pk_mul, q_lt0, q_lt, q_eq, q_cl, q_gd, if_true, if_false, q_ofNat, q_min, q_max, ite_self, Nat.not_lt_zero, q_e10, q_e01, eq_self, not_true_eq_false, not_false_eq_true, and_true, true_and, and_false, false_and, or_true, true_or, or_false, false_or, q_gdT, Nat.reduceEqDiff, Bool.false_eq_true, Nat.lt_irrefl, Nat.or_zero]
      · have hm2 : zMT (zzsi (zzsi m 36 13 (nI 0)) 36 29 z) T := hm
        obtain ⟨m1, d1, d2, d3, d4⟩ := m_open hm2
        have s1 : zzi m1 36 29 = z := by rw [d4.1 36 29 (by omega), q_ii, if_pos ⟨rfl, rfl⟩]
        obtain ⟨m', f1, f2, f3⟩ := m_mon_o z (nI u) (P := P) (by omega) (show 0 < zn T by omega) P 200 0 (z, 0, 0) m1 (by omega) (by omega) d2 d3 s1
        have s2 : zzi (zzsi x 0 8 z) 0 8 = z := by rw [q_ii, if_pos ⟨rfl, rfl⟩]
        obtain ⟨x', g1, g2, g3⟩ := x_mon_o z (nI u) (P := P) (by omega) (show 0 < zn T by omega) P 200 0 (z, 0, 0) (zzsi x 0 8 z) (by omega) (by omega) (zXT_8 ht hx z) s2
        exact ⟨_, x', m', T, (x_mon_e hx z (by omega) (by omega) hu (by omega)).trans g1, (m_mon_e hm z (by omega) (by omega) hu (by omega) d1).trans f1, g2, f2, zPX_tr (zPX_8 x z) g3, zPM_tr (zPM_tr (zPM_13 m _) (zPM_29 _ z)) (zPM_tr (zPM_k d4) f3)⟩
    · refine ⟨-1, x, _, T, ?_, ?_, hx, hm1, zPX_refl _, zPM_13 m _⟩
      · simp (disch := omega) only [f_X11_months, c1, c2, x_12_bad hw, zzbd_s, zzlt_eq, zzon_n, zzon_s, q0, q1, q2, q3, q4, q5, q6, q7, q8, q9, q10, q11, q12, q20, q48, q49, q57, q59, q99, q100, q999, nI_add, pk_mul, q_lt0, q_lt, q_eq, q_cl, q_gd, if_true, if_false, q_ofNat, q_min, q_max, ite_self, Nat.not_lt_zero, q_e10, q_e01, eq_self, not_true_eq_false, not_false_eq_true, and_true, true_and, and_false, false_and, or_true, true_or, or_false, false_or, q_gdT, Nat.reduceEqDiff, Bool.false_eq_true, Nat.lt_irrefl, Nat.or_zero]
      · simp (disch := omega) only [f_X12_months, a2, m_in1_bad hw, q_e1_0, zzbd_s, zzlt_eq, zzon_n, zzon_s, q0, q1, q2, q3, q4, q5, q6, q7, q8, q9, q10, q11, q12, q20, q48, q49, q57, q59, q99, q100, q999, nI_add, pk_mul, q_lt0, q_lt, q_eq, q_cl, q_gd, if_true, if_false, q_ofNat, q_min, q_max, ite_self, Nat.not_lt_zero, q_e10, q_e01, eq_self, not_true_eq_false, not_false_eq_true, and_true, true_and, and_false, false_and, or_true, true_or, or_false, false_or, q_gdT, Nat.reduceEqDiff, Bool.false_eq_true, Nat.lt_irrefl, Nat.or_zero]
  · refine ⟨-1, x, _, T, ?_, ?_, hx, hm1, zPX_refl _, zPM_13 m _⟩
    · have : n < nI 1 ∨ ¬ n < nI 1 ∧ nI 20 < n := by
        rw [q_ltn n (by omega), q_nlt n (by omega)]; omega
      rcases this with c | ⟨c1, c2⟩
      · simp (disch := omega) only [f_X11_months, c, zzbd_s, zzlt_eq, zzon_n, zzon_s, q0, q1, q2, q3, q4, q5, q6, q7, q8, q9, q10, q11, q12, q20, q48, q49, q57, q59, q99, q100, q999, nI_add, pk_mul, q_lt0, q_lt, q_eq, q_cl, q_gd, if_true, if_false, q_ofNat, q_min, q_max, ite_self, Nat.not_lt_zero, q_e10, q_e01, eq_self, not_true_eq_false, not_false_eq_true, and_true, true_and, and_false, false_and, or_true, true_or, or_false, false_or, q_gdT, Nat.reduceEqDiff, Bool.false_eq_true, Nat.lt_irrefl, Nat.or_zero]
      · simp (disch := omega) only [f_X11_months, c1, c2, zzbd_s, zzlt_eq, zzon_n, zzon_s, q0, q1, q2, q3, q4, q5, q6, q7, q8, q9, q10, q11, q12, q20, q48, q49, q57, q59, q99, q100, q999, nI_add, pk_mul, q_lt0, q_lt, q_eq, q_cl, q_gd, if_true, if_false, q_ofNat, q_min, q_max, ite_self, Nat.not_lt_zero, q_e10, q_e01, eq_self, not_true_eq_false, not_false_eq_true, and_true, true_and, and_false, false_and, or_true, true_or, or_false, false_or, q_gdT, Nat.reduceEqDiff, Bool.false_eq_true, Nat.lt_irrefl, Nat.or_zero]
    · have : ¬ ((1 : Int64).toInt ≤ n.toInt ∧ n.toInt ≤ (20 : Int64).toInt) := by
        rw [e1, e2]; exact hn
      simp (disch := omega) only [f_X12_months, m_in, this, zzbd_s, zzlt_eq, zzon_n, zzon_s, q0, q1, q2, q3, q4, q5, q6, q7, q8, q9, q10, q11, q12, q20, q48, q49, q57, q59, q99, q100, q999, nI_add, pk_mul, q_lt0, q_lt, q_eq, q_cl, q_gd, if_true, if_false, q_ofNat, q_min, q_max, ite_self, Nat.not_lt_zero, q_e10, q_e01, eq_self, not_true_eq_false, not_false_eq_true, and_true, true_and, and_false, false_and, or_true, true_or, or_false, false_or, q_gdT, Nat.reduceEqDiff, Bool.false_eq_true, Nat.lt_irrefl, Nat.or_zero]
