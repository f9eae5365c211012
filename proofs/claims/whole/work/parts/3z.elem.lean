/-! ===== element: the class's method by hand (what is thrown, or 0, and the number) ===== -/
def f_X11_element (p0 p1 : Int32) (σ : zzS) : Option ((Int32 × Int64) × zzS) :=
  zzbd (f_X11_isShelf p0 σ) (fun r1 σ2 => (if r1 = 0 then (some (((1 : Int32), (0 : Int64)), σ2)) else (zzbd (f_X11_rowOn p0 σ2) (fun r4 σ5 => (zzon r4 (some (((2 : Int32), (0 : Int64)), σ5)) (fun j6 => zzgd (zzrow j6) (zzbd (f_X7_has j6 p1 (1 : Int32) σ5) (fun r7 σ8 => (if r7 = 0 then (some (((2 : Int32), (0 : Int64)), σ8)) else (zzbd (f_X7_at j6 p1 σ8) (fun r9 σ10 => some (((0 : Int32), r9.toInt64), σ10))))))))))))
def g_X12_element (p0 p1 : Int32) (σ : zzS) : Option ((Int32 × Int64) × zzS) :=
  zzbd (f_X12_element p0 p1 σ) (fun b σ2 => some ((zzi σ2 36 13, b), σ2))
theorem m_el_bad (m : zzS) (p0 p1 : Int32) {v : Nat} (hv : 0 < v) (hv2 : v < 10) : zzbd (f_X12_element_43 p0 p1 (nI v) m) (fun b σ2 => some ((zzi σ2 36 13, b), σ2)) = some ((nI v, (0 : Int64)), zzsi m 36 13 (nI v)) := by
  have e1 : zzi (zzsi m 36 13 (nI v)) 36 13 = nI v := by rw [q_ii, if_pos ⟨rfl, rfl⟩]
  unfold f_X12_element_43
  rw [zzlt_eq, e1, if_pos (show (0 : Int32) < nI v from (q_lt (a := 0) (by omega) (by omega)).mpr hv), zzbd_s, e1]
theorem s_element (d i : Int32) : zSim (f_X11_element d i) (g_X12_element d i) := by
  refine zSim_T (fun x m T hx hm hs hi => ?_)
  have hm1 : ∀ v, zMT (zzsi m 36 13 v) T := fun v => hm
  have nm : ∀ r : Int32, r = -11 ∨ r = -12 → ¬ r = (-1 : Int32) ∧ r < 0 := by
    intro r h; rcases h with rfl | rfl <;> exact ⟨by decide, by decide⟩
  have bad : ∀ r : Int32, r = -11 ∨ r = -12 → f_X12_wrongRow d m = some (r, m) → g_X12_element d i m = some ((nI 2, (0 : Int64)), zzsi m 36 13 (nI 2)) := by
    intro r h1 h2
    unfold g_X12_element f_X12_element
    rw [h2, zzbd_s, if_neg (nm r h1).1, if_pos (nm r h1).2]
    exact m_el_bad m d i (v := 2) (by omega) (by omega)
  rcases q_cls d 8 (by omega) with ⟨e, he, rfl⟩ | hb
  · have two : zzq x e = none → f_X11_element (nI e) i x = some ((nI 2, (0 : Int64)), x) := by
      intro h
      unfold f_X11_element
      rw [x_shelf he, zzbd_s, if_neg (show ¬ nI 1 = 0 by decide), x_row he, h, zzbd_s, zzon_n]; rfl
    rcases hs e he with ⟨a, b, c⟩ | ⟨a, b, k, f, hk, hf, c1, c2, c3⟩ | ⟨a, b, c, s, n, h1, h2, h3, h4, h5, h6, h7⟩
    · exact ⟨_, x, _, T, two c, bad (-11) (Or.inl rfl) (by simp (disch := omega) only [f_X12_wrongRow, m_in7, he, a, q_len41, q_e1_0, zzbd_s, zzlt_eq, zzon_n, zzon_s, q0, q1, q2, q3, q4, q5, q6, q7, q8, q9, q10, q11, q12, q20, q48, q49, q57, q59, q99, q100, q999, nI_add, pk_mul, q_lt0, q_lt, q_eq, q_cl, q_gd, if_true, if_false, q_ofNat, q_min, q_max, ite_self, Nat.not_lt_zero, q_e10, q_e01, eq_self, not_true_eq_false, not_false_eq_true, and_true, true_and, and_false, false_and, or_true, true_or, or_false, false_or, q_gdT, Nat.reduceEqDiff, Bool.false_eq_true, Nat.lt_irrefl, Nat.or_zero]), hx, hm1 _, zPX_refl x, zPM_13 m _⟩
    · exact ⟨_, x, _, T, two b, bad (-12) (Or.inr rfl) (by simp (disch := omega) only [f_X12_wrongRow, m_in7, he, a, q_len41, q_e1_0, zzbd_s, zzlt_eq, zzon_n, zzon_s, q0, q1, q2, q3, q4, q5, q6, q7, q8, q9, q10, q11, q12, q20, q48, q49, q57, q59, q99, q100, q999, nI_add, pk_mul, q_lt0, q_lt, q_eq, q_cl, q_gd, if_true, if_false, q_ofNat, q_min, q_max, ite_self, Nat.not_lt_zero, q_e10, q_e01, eq_self, not_true_eq_false, not_false_eq_true, and_true, true_and, and_false, false_and, or_true, true_or, or_false, false_or, q_gdT, Nat.reduceEqDiff, Bool.false_eq_true, Nat.lt_irrefl, Nat.or_zero]), hx, hm1 _, zPX_refl x, zPM_13 m _⟩
    · have w : f_X12_wrongRow (nI e) m = some (nI 0, m) := by simp (disch := omega) only [f_X12_wrongRow, m_in7, he, a, q_len41, q_e1_0, zzbd_s, zzlt_eq, zzon_n, zzon_s, q0, q1, q2, q3, q4, q5, q6, q7, q8, q9, q10, q11, q12, q20, q48, q49, q57, q59, q99, q100, q999, nI_add, pk_mul, q_lt0, q_lt, q_eq, q_cl, q_gd, if_true, if_false, q_ofNat, q_min, q_max, ite_self, Nat.not_lt_zero, q_e10, q_e01, eq_self, not_true_eq_false, not_false_eq_true, and_true, true_and, and_false, false_and, or_true, true_or, or_false, false_or, q_gdT, Nat.reduceEqDiff, Bool.false_eq_true, Nat.lt_irrefl, Nat.or_zero]
      have gm : g_X12_element (nI e) i m = zzbd (zzbd (f_X12_in i.toInt64 (0 : Int64) (nI n - nI 1).toInt64 m) (fun r6 σ7 => (if r6 = 0 then (f_X12_element_38 (nI e) i σ7) else (f_X12_element_43 (nI e) i (0 : Int32) σ7)))) (fun b σ2 => some ((zzi σ2 36 13, b), σ2)) := by
        unfold g_X12_element f_X12_element
        rw [w, zzbd_s, if_neg (show ¬ nI 0 = (-1 : Int32) by decide), if_neg (show ¬ nI 0 < 0 by decide), zzgd_t (by rw [q_len45]; exact q_in (by omega) (by omega)), q_cl (by omega), h4, q1]
      rcases q_cls i n (by omega) with ⟨j, hj, rfl⟩ | hj
      · refine ⟨(nI 0, (zza x (5 + 2 * e) j).toInt64), x, _, T, ?_, ?_, hx, hm1 (nI 0), zPX_refl x, zPM_13 m _⟩
        · unfold f_X11_element
          rw [x_shelf he, zzbd_s, if_neg (show ¬ nI 1 = 0 by decide), x_row he, c, zzbd_s, zzon_s, zzgd_t (q_row8 he), q1, x7_has h6 h2 hj, zzbd_s, if_neg (show ¬ nI 1 = 0 by decide), x7_at he h6 h2 hj, zzbd_s]; rfl
        · have e1 : zzi (zzsi m 36 13 0) 36 13 = nI 0 := by rw [q_ii, if_pos ⟨rfl, rfl⟩]; rfl
          have hl : nI 100 * nI e + nI j = nI (100 * e + j) := by rw [pk_mul, nI_add]
          rw [gm, m_inr h2 hj, zzbd_s, if_neg (show ¬ nI 1 = 0 by decide)]
          unfold f_X12_element_43
          rw [zzlt_eq, e1, if_neg (show ¬ (0 : Int32) < nI 0 by decide), q100, hl, zzgd_t (q_in (by omega) (by omega)), q_cl (by omega), zzbd_s, e1]
          have := h7 j (by omega)
          exact congrArg (fun z => some ((nI 0, z), zzsi m 36 13 (nI 0))) this
      · refine ⟨(nI 2, (0 : Int64)), x, _, T, ?_, ?_, hx, hm1 (nI 2), zPX_refl x, zPM_13 m _⟩
        · unfold f_X11_element
          rw [x_shelf he, zzbd_s, if_neg (show ¬ nI 1 = 0 by decide), x_row he, c, zzbd_s, zzon_s, zzgd_t (q_row8 he), q1, x7_has_bad h6 h2 hj, zzbd_s, if_pos (show nI 0 = 0 from rfl)]; rfl
        · rw [gm, m_inr_bad h2 hj, zzbd_s, if_pos (show nI 0 = 0 from rfl)]
          exact m_el_bad m _ i (v := 2) (by omega) (by omega)
  · refine ⟨(nI 1, (0 : Int64)), x, _, T, ?_, ?_, hx, hm1 (nI 1), zPX_refl x, zPM_13 m _⟩
    · unfold f_X11_element
      rw [x_shelf_bad hb, zzbd_s, if_pos (show nI 0 = 0 from rfl)]; rfl
    · have w : f_X12_wrongRow d m = some (-1, m) := by simp (disch := omega) only [f_X12_wrongRow, m_in7_bad hb, zzbd_s, zzlt_eq, zzon_n, zzon_s, q0, q1, q2, q3, q4, q5, q6, q7, q8, q9, q10, q11, q12, q20, q48, q49, q57, q59, q99, q100, q999, nI_add, pk_mul, q_lt0, q_lt, q_eq, q_cl, q_gd, if_true, if_false, q_ofNat, q_min, q_max, ite_self, Nat.not_lt_zero, q_e10, q_e01, eq_self, not_true_eq_false, not_false_eq_true, and_true, true_and, and_false, false_and, or_true, true_or, or_false, false_or, q_gdT, Nat.reduceEqDiff, Bool.false_eq_true, Nat.lt_irrefl, Nat.or_zero]
      unfold g_X12_element f_X12_element
      rw [w, zzbd_s, if_pos rfl]
      exact m_el_bad m d i (v := 1) (by omega) (by omega)
