/-! ===== soonest: nothing left; the call ===== -/
section
variable {x m : zzS} {T : zT}
theorem m_so_wz (k56 : Int32 → Int32 → Int32 → Int32 → Int32 → zzS → Option (Int32 × zzS)) (k64 : Int32 → Int32 → Int32 → Int32 → Int32 → Int32 → zzS → Option (Int32 × zzS)) (p0 p1 l4 l5 l6 l7 : Int32) (n i e : Nat) : f_X12_soonest_122 k56 k64 p0 p1 (n + 1) (nI 0) l4 l5 l6 l7 (nI i) (nI e) m = k64 (nI 0) l4 l5 l6 l7 (nI (i + 1)) m := by
  show f_X12_soonest_122b k56 k64 _ p0 p1 (nI 0) l4 l5 l6 l7 (nI i) (nI e) m = _
  unfold f_X12_soonest_122b f_X12_soonest_145
  rw [q1, nI_add]
  by_cases c : (0 : Int32) < nI e
  · rw [if_pos c, if_neg (show ¬ (0 : Int32) < nI 0 by decide), zzlt_eq]
  · rw [if_neg c, zzlt_eq]
theorem m_so_pz (h : zMT m T) (k56 : Int32 → Int32 → Int32 → Int32 → Int32 → zzS → Option (Int32 × zzS)) (p1 : Int32) {q s : Nat} (hq : q < zn T) (hs : s ≤ 9) : ∀ d n i, i + d = zn T → d < n → f_X12_soonest_64 k56 (nI q) p1 n (nI 0) (nI 0) (-4) (nI 0) (nI s) (nI i) m = k56 (nI 0) (nI 0) (-4) (nI 0) (nI s - nI 1) m := by
  have h7 := h.1.1
  intro d
  induction d with
  | zero =>
    intro n i hi hn
    obtain ⟨n, rfl⟩ : ∃ n', n = n' + 1 := ⟨n - 1, by omega⟩
    have : i = zn T := by omega
    subst this
    simp (disch := omega) only [f_X12_soonest_64, f_X12_soonest_64b, h.2.1, q_dn, zzbd_s, zzlt_eq, zzon_n, zzon_s, q0, q1, q2, q3, q4, q5, q6, q7, q8, q9, q10, q11, q12, q20, q48, q49, q57, q59, q99, q100, q999, nI_add, pk_mul, q_lt0, q_lt, q_eq, q_cl, q_gd, if_true, if_false, q_ofNat, q_min, q_max, ite_self, Nat.not_lt_zero, q_e10, q_e01, eq_self, not_true_eq_false, not_false_eq_true, and_true, true_and, and_false, false_and, or_true, true_or, or_false, false_or, q_gdT, Nat.reduceEqDiff, Bool.false_eq_true, Nat.lt_irrefl, Nat.or_zero]
  | succ d ih =>
    intro n i hi hn
    obtain ⟨n, rfl⟩ : ∃ n', n = n' + 1 := ⟨n - 1, by omega⟩
    have hi2 : i < zn T := by omega
    have hk := h.1.2.2.2.1 i hi2
    have hg := q_turns T i hk.1 hk.2
    have hle := zla_le T i q
    rw [← ih n (i + 1) (by omega) (by omega)]
    cases e1 : zmb T (zl T) i q with
    | false => simp (disch := omega) only [f_X12_soonest_64, f_X12_soonest_64b, f_X12_soonest_145, h.2.1, hi2, m_mb h, e1, zzbd_s, zzlt_eq, zzon_n, zzon_s, q0, q1, q2, q3, q4, q5, q6, q7, q8, q9, q10, q11, q12, q20, q48, q49, q57, q59, q99, q100, q999, nI_add, pk_mul, q_lt0, q_lt, q_eq, q_cl, q_gd, if_true, if_false, q_ofNat, q_min, q_max, ite_self, Nat.not_lt_zero, q_e10, q_e01, eq_self, not_true_eq_false, not_false_eq_true, and_true, true_and, and_false, false_and, or_true, true_or, or_false, false_or, q_gdT, Nat.reduceEqDiff, Bool.false_eq_true, Nat.lt_irrefl, Nat.or_zero]
    | true =>
      by_cases c : ztu T i = s
      · have n4 : ((-4 : Int32) < 0) = True := eq_true (by decide)
        show f_X12_soonest_64b k56 (f_X12_soonest_64 k56 (nI q) p1 n) (nI q) p1 (nI 0) (nI 0) (-4) (nI 0) (nI s) (nI i) m = _
        unfold f_X12_soonest_64b
        rw [h.2.1, if_pos ((q_lt (by omega) (by omega)).mpr hi2), m_mb h hi2 hq, e1, if_pos rfl, zzbd_s, if_neg (show ¬ nI 1 = 0 by decide), m_turnsv h hi2, zzbd_s, c, if_pos rfl, if_pos (show (-4 : Int32) < 0 by decide), if_pos (show nI 0 = 0 from rfl)]
        unfold f_X12_soonest_109 f_X12_soonest_111
        rw [m_till h hi2 hq, zzbd_s]
        exact m_so_wz k56 (f_X12_soonest_64 k56 (nI q) p1 n) (nI q) p1 (nI 0) (-4) (nI 0) (nI s) 199 i (zla T i q)
      · simp (disch := omega) only [f_X12_soonest_64, f_X12_soonest_64b, f_X12_soonest_145, h.2.1, hi2, m_mb h, e1, m_turnsv h hi2, c, q_e1_0, zzbd_s, zzlt_eq, zzon_n, zzon_s, q0, q1, q2, q3, q4, q5, q6, q7, q8, q9, q10, q11, q12, q20, q48, q49, q57, q59, q99, q100, q999, nI_add, pk_mul, q_lt0, q_lt, q_eq, q_cl, q_gd, if_true, if_false, q_ofNat, q_min, q_max, ite_self, Nat.not_lt_zero, q_e10, q_e01, eq_self, not_true_eq_false, not_false_eq_true, and_true, true_and, and_false, false_and, or_true, true_or, or_false, false_or, q_gdT, Nat.reduceEqDiff, Bool.false_eq_true, Nat.lt_irrefl, Nat.or_zero]
theorem m_so_oz (h : zMT m T) (p1 : Int32) {q : Nat} (hq : q < zn T) : ∀ s n, s ≤ 5 → s < n → f_X12_soonest_56 (nI q) p1 n (nI 0) (nI 0) (-4) (nI 0) (nI s) m = some (if p1 = nI 0 then nI 0 else -4, m) := by
  have h7 := h.1.1
  intro s
  induction s with
  | zero =>
    intro n h1 h2
    obtain ⟨n, rfl⟩ : ∃ n', n = n' + 1 := ⟨n - 1, by omega⟩
    show f_X12_soonest_56b _ (nI q) p1 (nI 0) (nI 0) (-4) (nI 0) (nI 0) m = _
    unfold f_X12_soonest_56b
    rw [q0, if_neg (show ¬ nI 0 < nI 0 by decide), if_neg (show ¬ nI 0 < nI 0 by decide)]
    by_cases c2 : p1 = nI 0
    · rw [if_pos c2, if_pos c2]
    · rw [if_neg c2, if_neg c2]
  | succ s ih =>
    intro n h1 h2
    obtain ⟨n, rfl⟩ : ∃ n', n = n' + 1 := ⟨n - 1, by omega⟩
    have g := m_so_pz h (f_X12_soonest_56 (nI q) p1 n) p1 hq (s := s + 1) (by omega) (zn T) 200 0 (by omega) (by omega)
    have hs1 : nI (s + 1) - nI 1 = nI s := by rw [q_sub (by omega)]; rfl
    rw [hs1, ih n (by omega) (by omega)] at g
    rw [← g]
    show f_X12_soonest_56b _ (nI q) p1 (nI 0) (nI 0) (-4) (nI 0) (nI (s + 1)) m = _
    unfold f_X12_soonest_56b
    rw [q0, if_pos ((q_lt (by omega) (by omega)).mpr (by omega))]
theorem zso_z {q : Nat} : zdown (zso T q 0) 5 (0, 0) = (0, 0) := by
  have hu : ∀ s r, 1 ≤ s ∧ s ≤ 5 → zso T q 0 s r = r := fun s r hs => by
    unfold zso
    refine (zup_cg (zsp T q 0 s) (fun _ r => r) (zn T) 0 r (fun j b _ hj => ?_)).trans (zup_P (fun _ r => r) (fun b => b = r) (zn T) 0 r (fun _ _ _ _ z => z) rfl)
    unfold zsp
    split
    · rw [Nat.zero_sub, zus_0 hs, Nat.zero_mul, Nat.add_zero, Nat.add_zero]
    · rfl
  rw [zdown_s, zdown_s, zdown_s, zdown_s, zdown_s, hu _ _ (by omega), hu _ _ (by omega), hu _ _ (by omega), hu _ _ (by omega), hu _ _ (by omega)]
  rfl
theorem m_soonest (h : zMT (zzsi m 36 13 (nI 0)) T) {q w : Nat} (hq : q < zn T) (hw : w < 2) : f_X12_soonest (nI q) (nI w) m = some (if (zdown (zso T q (9 - zt T q)) 5 (0, 0)).1 < 9 - zt T q then -4 else if w = 0 then nI (zdown (zso T q (9 - zt T q)) 5 (0, 0)).2 else if 0 < 9 - zt T q then zwI (zdown (zwo2 T q) 5 none) else -4, zzsi m 36 13 (nI 0)) := by
  have h7 := h.1.1
  have ht := h.1.2.2.2.2.1 q (by omega)
  have hd : nI 9 - nI (zt T q) = nI (9 - zt T q) := q_sub ht
  have et := h.2.2.2.2.2.1 q (by omega)
  have hww : (nI w = nI 0) = (w = 0) := propext (q_eq (by omega) (by omega))
  have e0 : f_X12_soonest (nI q) (nI w) m = if 0 < 9 - zt T q then f_X12_soonest_51 (nI q) (nI w) (nI (9 - zt T q)) (nI 0) (-4) (nI 1) (zzsi m 36 13 (nI 0)) else f_X12_soonest_51 (nI q) (nI w) (nI (9 - zt T q)) (nI 0) (-4) (nI 0) (zzsi m 36 13 (nI 0)) := by
    have n4 : -nI 4 = -4 := rfl
    simp (disch := omega) only [f_X12_soonest, m_one h hq, m_in1 hw, q_len39, et, hd, q_e1_0, n4, zzbd_s, zzlt_eq, zzon_n, zzon_s, q0, q1, q2, q3, q4, q5, q6, q7, q8, q9, q10, q11, q12, q20, q48, q49, q57, q59, q99, q100, q999, nI_add, pk_mul, q_lt0, q_lt, q_eq, q_cl, q_gd, if_true, if_false, q_ofNat, q_min, q_max, ite_self, Nat.not_lt_zero, q_e10, q_e01, eq_self, not_true_eq_false, not_false_eq_true, and_true, true_and, and_false, false_and, or_true, true_or, or_false, false_or, q_gdT, Nat.reduceEqDiff, Bool.false_eq_true, Nat.lt_irrefl, Nat.or_zero]
  rw [e0]
  rcases Nat.eq_zero_or_pos (9 - zt T q) with z | z
  · rw [z, if_neg (Nat.lt_irrefl 0), if_neg (Nat.not_lt_zero _), if_neg (Nat.lt_irrefl 0)]
    have g := m_so_oz h (nI w) hq 5 200 (by omega) (by omega)
    simp only [hww] at g
    rw [zso_z]
    unfold f_X12_soonest_51
    refine g.trans ?_
    by_cases c : w = 0
    · rw [if_pos c]
    · rw [if_neg c]
  · rw [if_pos z, if_pos z]
    have g := m_so_o h (nI w) hq (a := 9 - zt T q) (by omega) 5 200 (0, 0) none (by omega) (by omega) (by decide) (fun w hw => by cases hw)
    simp only [hww] at g
    have e1 : nI (9 - zt T q) - nI ((0, 0) : Nat × Nat).1 = nI (9 - zt T q) := (q_sub (Nat.zero_le _)).trans (by rw [Nat.sub_zero])
    rw [e1] at g
    unfold f_X12_soonest_51
    exact g
theorem x_soonest (h : zXT x 20 T) {q w : Nat} (hq : q < zn T) (hw : w < 2) : f_X11_soonest (nI q) (nI w) x = some (if (zdown (zso T q (9 - zt T q)) 5 (0, 0)).1 < 9 - zt T q then -4 else if w = 0 then nI (zdown (zso T q (9 - zt T q)) 5 (0, 0)).2 else if 0 < 9 - zt T q then zwI (zdown (zwo2 T q) 5 none) else -4, x) := by
  have h7 := h.1.1
  have ht20 : zztown 20 := Or.inl rfl
  have ht := h.1.2.2.2.2.1 q (by omega)
  have hd : nI 9 - nI (zt T q) = nI (9 - zt T q) := q_sub ht
  have hww : (nI w = nI 0) = (w = 0) := propext (q_eq (by omega) (by omega))
  have g := x_so_o h hq (a := 9 - zt T q) (by omega) 9 200 (0, 0) (by omega) (by omega)
  rw [zso_95 h.1] at g
  have hb := zdo_0 (T := T) (q := q) (a := 9 - zt T q) 5 (0, 0) (fun _ => rfl)
  have hsf := x_sf_l h hq (zn T) 200 0 (none, 0) (by omega) (by omega) (by decide)
  rw [zsf_eq h.1] at hsf
  have hB : (zdown (zso T q (9 - zt T q)) 5 (0, 0)).2 < 2147483648 := by
    have hs : ∀ s r, (1 ≤ s ∧ s ≤ 5) → (zso T q (9 - zt T q) s r).2 ≤ r.2 + 99 * zn T := fun s r hs => by
      unfold zso
      have : ∀ d i r, (zup (zsp T q (9 - zt T q) s) d i r).2 ≤ r.2 + 99 * d := by
        intro d
        induction d with
        | zero => intro i r; exact Nat.le_refl _
        | succ d ih =>
          intro i r
          rw [zup_s]
          have h1 := ih (i + 1) (zsp T q (9 - zt T q) s i r)
          have h2 : (zsp T q (9 - zt T q) s i r).2 ≤ r.2 + 99 := by
            unfold zsp
            split
            · have : zus s (9 - zt T q - r.1) (zla T i q) ≤ 99 := Nat.le_trans (Nat.min_le_right _ _) (zla_le T i q)
              show r.2 + _ ≤ _
              omega
            · omega
          omega
      exact this _ _ _
    rw [zdown_s, zdown_s, zdown_s, zdown_s, zdown_s]
    show (zso T q (9 - zt T q) 1 (zso T q (9 - zt T q) 2 (zso T q (9 - zt T q) 3 (zso T q (9 - zt T q) 4 (zso T q (9 - zt T q) 5 (0, 0)))))).2 < _
    have h1 := hs 5 (0, 0) (by omega)
    have h2 := hs 4 (zso T q (9 - zt T q) 5 (0, 0)) (by omega)
    have h3 := hs 3 (zso T q (9 - zt T q) 4 (zso T q (9 - zt T q) 5 (0, 0))) (by omega)
    have h4 := hs 2 (zso T q (9 - zt T q) 3 (zso T q (9 - zt T q) 4 (zso T q (9 - zt T q) 5 (0, 0)))) (by omega)
    have h5 := hs 1 (zso T q (9 - zt T q) 2 (zso T q (9 - zt T q) 3 (zso T q (9 - zt T q) 4 (zso T q (9 - zt T q) 5 (0, 0))))) (by omega)
    have h0 : ((0, 0) : Nat × Nat).2 = 0 := rfl
    omega
  have hz : 9 - zt T q = 0 → (zdown (zso T q (9 - zt T q)) 5 (0, 0)).2 = 0 := fun z => by rw [z, zso_z]
  generalize zdown (zso T q (9 - zt T q)) 5 (0, 0) = r at g hb hB hz ⊢
  have gf : f_X11_fewestTurnings (nI q) x = some (if r.1 < 9 - zt T q then -4 else nI r.2, x) := by
    unfold f_X11_fewestTurnings
    rw [x_turnedOf h ht20 hq, zzbd_s, q9, hd, zzlt_eq]
    exact g
  have o1 : f_X11_isOneOfTwo (nI w) x = some (nI 1, x) := x_12 hw
  unfold f_X11_soonest
  rw [x_has1 h hq, zzbd_s, q0, if_neg (show ¬ nI 1 = nI 0 by decide), o1, zzbd_s, if_neg (show ¬ nI 1 = nI 0 by decide), gf, zzbd_s]
  by_cases c : r.1 < 9 - zt T q
  · rw [if_pos c, if_pos c]
    by_cases c2 : w = 0
    · rw [if_pos (hww ▸ c2)]
    · rw [if_neg (fun z => c2 (hww ▸ z)), if_neg (show ¬ nI 0 < -4 by decide)]
  · rw [if_neg c, if_neg c]
    by_cases c2 : w = 0
    · rw [if_pos (hww ▸ c2), if_pos c2]
    · rw [if_neg (fun z => c2 (hww ▸ z)), if_neg c2]
      rcases Nat.eq_zero_or_pos r.2 with z | z
      · have z1 := hb z
        rw [z, if_neg (show ¬ nI 0 < nI 0 by decide), if_neg (by omega)]
      · have h0 : 0 < 9 - zt T q := by
          rcases Nat.eq_zero_or_pos (9 - zt T q) with y | y
          · have := hz y; omega
          · exact y
        rw [if_pos ((q_lt (by omega) hB).mpr z), if_pos h0]
        unfold f_X11_strongestFit
        have e4 : (-4 : Int32) = zwI none := rfl
        rw [e4, q0, hsf, zzbd_s]
end
theorem s_soonest (q w : Int32) : zSim (f_X11_soonest q w) (f_X12_soonest q w) := by
  refine zSim_rd (fun x m T hx hm hs hi => ?_)
  have h7 := hx.1.1
  have hm1 : zMT (zzsi m 36 13 (nI 0)) T := hm
  rcases q_cls q (zn T) (by omega) with ⟨i, hi, rfl⟩ | hq
  · rcases q_cls w 2 (by omega) with ⟨j, hj, rfl⟩ | hw
    · exact ⟨_, x_soonest hx hi hj, m_soonest hm1 hi hj⟩
    · exact ⟨-1, by simp (disch := omega) only [f_X11_soonest, x_has1 hx hi, x_12_bad hw, q_e1_0, zzbd_s, zzlt_eq, zzon_n, zzon_s, q0, q1, q2, q3, q4, q5, q6, q7, q8, q9, q10, q11, q12, q20, q48, q49, q57, q59, q99, q100, q999, nI_add, pk_mul, q_lt0, q_lt, q_eq, q_cl, q_gd, if_true, if_false, q_ofNat, q_min, q_max, ite_self, Nat.not_lt_zero, q_e10, q_e01, eq_self, not_true_eq_false, not_false_eq_true, and_true, true_and, and_false, false_and, or_true, true_or, or_false, false_or, q_gdT, Nat.reduceEqDiff, Bool.false_eq_true, Nat.lt_irrefl, Nat.or_zero], by simp (disch := omega) only [f_X12_soonest, m_one hm1 hi, m_in1_bad hw, q_e1_0, zzbd_s, zzlt_eq, zzon_n, zzon_s, q0, q1, q2, q3, q4, q5, q6, q7, q8, q9, q10, q11, q12, q20, q48, q49, q57, q59, q99, q100, q999, nI_add, pk_mul, q_lt0, q_lt, q_eq, q_cl, q_gd, if_true, if_false, q_ofNat, q_min, q_max, ite_self, Nat.not_lt_zero, q_e10, q_e01, eq_self, not_true_eq_false, not_false_eq_true, and_true, true_and, and_false, false_and, or_true, true_or, or_false, false_or, q_gdT, Nat.reduceEqDiff, Bool.false_eq_true, Nat.lt_irrefl, Nat.or_zero]⟩
  · exact ⟨-1, by simp (disch := omega) only [f_X11_soonest, x_has_bad hx hq, zzbd_s, zzlt_eq, zzon_n, zzon_s, q0, q1, q2, q3, q4, q5, q6, q7, q8, q9, q10, q11, q12, q20, q48, q49, q57, q59, q99, q100, q999, nI_add, pk_mul, q_lt0, q_lt, q_eq, q_cl, q_gd, if_true, if_false, q_ofNat, q_min, q_max, ite_self, Nat.not_lt_zero, q_e10, q_e01, eq_self, not_true_eq_false, not_false_eq_true, and_true, true_and, and_false, false_and, or_true, true_or, or_false, false_or, q_gdT, Nat.reduceEqDiff, Bool.false_eq_true, Nat.lt_irrefl, Nat.or_zero], by simp (disch := omega) only [f_X12_soonest, m_one_bad hm1 hq, zzbd_s, zzlt_eq, zzon_n, zzon_s, q0, q1, q2, q3, q4, q5, q6, q7, q8, q9, q10, q11, q12, q20, q48, q49, q57, q59, q99, q100, q999, nI_add, pk_mul, q_lt0, q_lt, q_eq, q_cl, q_gd, if_true, if_false, q_ofNat, q_min, q_max, ite_self, Nat.not_lt_zero, q_e10, q_e01, eq_self, not_true_eq_false, not_false_eq_true, and_true, true_and, and_false, false_and, or_true, true_or, or_false, false_or, q_gdT, Nat.reduceEqDiff, Bool.false_eq_true, Nat.lt_irrefl, Nat.or_zero]⟩
