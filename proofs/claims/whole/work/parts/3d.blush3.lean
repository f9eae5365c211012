/-! ===== blushes, the call ===== -/
theorem x_bl_e {x : zzS} {T : zT} (hx : zXT x 20 T) {i u e n : Nat} (hi : i < zn T) (hu : u < 2) (a1 : f_X11_rowOn (nI e) x = some (some (4 + 2 * e), x)) (hrow : zzrow (4 + 2 * e)) (a5 : zzi x (4 + 2 * e) 2 = nI n) (hn : n ≤ 100) (c : ¬ zn T < n) : f_X11_blushes (nI i) (nI e) (nI u) x = f_X11_blushes_66 (nI i) (nI e) (nI u) 200 (4 + 2 * e) (nI 0) (-4) (nI 0) x := by
  have h7 := hx.1.1
  unfold f_X11_blushes
  generalize f_X11_blushes_66 (nI i) (nI e) (nI u) 200 = F
  rw [x_has1 hx hi, zzbd_s, if_neg (show ¬ nI 1 = 0 by decide), x_12 hu, zzbd_s, if_neg (show ¬ nI 1 = 0 by decide), a1, zzbd_s, zzon_s, zzgd_t hrow, hx.2.1, a5, if_neg (fun z => c ((q_lt (by omega) (by omega)).mp z))]
  rfl
theorem m_bl_e {m : zzS} {i u e n B : Nat} (he : e < 8) (hu : u < 2) (wb : f_X12_wrongBlushes (nI i) (nI e) (zzsi m 36 13 (nI 0)) = some (nI 0, zzsi m 36 13 (nI 0))) (a3 : zza (zzsi m 36 13 (nI 0)) 45 e = nI n) (lv : f_X12_levelsUpTo (nI i) (nI e) (nI n) (zzsi m 36 13 (nI 0)) = some (nI B, zzsi m 36 13 (nI 0))) : f_X12_blushes (nI i) (nI e) (nI u) m = f_X12_blushes_57 (nI i) (nI e) (nI u) 200 (nI B) (-4) (nI 9) (zzsi m 36 13 (nI 0)) := by
  unfold f_X12_blushes
  rw [zzlt_eq, q0, m_in1 hu, zzbd_s, if_neg (show ¬ nI 1 = nI 0 by decide), wb, zzbd_s]
  unfold f_X12_blushes_25
  generalize f_X12_blushes_57 (nI i) (nI e) (nI u) 200 = F
  rw [if_neg (show ¬ nI 0 < 0 by decide), q_len45, q_gd he (by omega), q_cl (by omega), a3, lv, zzbd_s]
  rfl
section
variable {x m : zzS} {t : Nat} {T : zT}
theorem s_blushes (q d w : Int32) : zSim (f_X11_blushes q d w) (f_X12_blushes q d w) := by
  refine zSim_rd (fun x m T hx hm hs hi => ?_)
  have h7 := hx.1.1
  have hm1 : zMT (zzsi m 36 13 (nI 0)) T := hm
  have n1 : (-nI 1 < nI 0) = True := eq_true (by decide)
  have n13 : (-nI 13 < nI 0) = True := eq_true (by decide)
  rcases q_cls w 2 (by omega) with ⟨u, hu, rfl⟩ | hw
  · rcases q_cls q (zn T) (by omega) with ⟨i, hi, rfl⟩ | hq
    · rcases q_rowd (zSh_13 hs (nI 0)) d with ⟨e, s, n, he, rfl, hs3, hn, a1, a2, a3, a4, a5, a6, a7⟩ | ⟨a1, r, hr, a2, a3⟩
      · have hrow := q_row8 he
        have wb := m_wb_ok hm1 hi he a7 a3 hn
        by_cases c : zn T < n
        · refine ⟨-13, ?_, ?_⟩
          · simp (disch := omega) only [f_X11_blushes, x_has1 hx hi, x_12 hu, a1, zzgd_t hrow, hx.2.1, a5, c, q_e1_0, zzbd_s, zzlt_eq, zzon_n, zzon_s, q0, q1, q2, q3, q4, q5, q6, q7, q8, q9, q10, q11, q12, q20, q48, q49, q57, q59, q99, q100, q999, nI_add, pk_mul, q_lt0, q_lt, q_eq, q_cl, q_gd, if_true, if_false, q_ofNat, q_min, q_max, ite_self, Nat.not_lt_zero, q_e10, q_e01, eq_self, not_true_eq_false, not_false_eq_true, and_true, true_and, and_false, false_and, or_true, true_or, or_false, false_or, q_gdT, Nat.reduceEqDiff, Bool.false_eq_true, Nat.lt_irrefl, Nat.or_zero]
          · rw [if_pos c] at wb
            simp (disch := omega) only [f_X12_blushes, f_X12_blushes_25, m_in1 hu, wb, n13, q_e1_0, q13, zzbd_s, zzlt_eq, zzon_n, zzon_s, q0, q1, q2, q3, q4, q5, q6, q7, q8, q9, q10, q11, q12, q20, q48, q49, q57, q59, q99, q100, q999, nI_add, pk_mul, q_lt0, q_lt, q_eq, q_cl, q_gd, if_true, if_false, q_ofNat, q_min, q_max, ite_self, Nat.not_lt_zero, q_e10, q_e01, eq_self, not_true_eq_false, not_false_eq_true, and_true, true_and, and_false, false_and, or_true, true_or, or_false, false_or, q_gdT, Nat.reduceEqDiff, Bool.false_eq_true, Nat.lt_irrefl, Nat.or_zero]
        · rw [if_neg c] at wb
          have g := x_bl_l hx (nI e) (nI u) hi he hs3 (show n ≤ zn T by omega) a4 a5 10 200 0 0 (-4) (by omega) (by omega) (by omega)
          have lv := m_lv hm1 hi he hs3 (show n ≤ zn T by omega) a2 (fun j => zza x (5 + 2 * e) j) a6
          have hlt : zup (zbg (zlb T (fun j => zza x (5 + 2 * e) j) (zlvl s) i n)) 10 0 0 < 1024 := zbg_lt10 _
          have hb : ∀ j, 0 ≤ j → j < 0 + 10 → (zup (zbg (zlb T (fun j => zza x (5 + 2 * e) j) (zlvl s) i n)) 10 0 0).testBit j = zlb T (fun j => zza x (5 + 2 * e) j) (zlvl s) i n j := by
            intro j h1 h2
            rw [zbg_bit, Nat.zero_testBit, Bool.false_or, decide_eq_true (show 0 ≤ j ∧ j < 0 + 10 by omega), Bool.true_and]
          generalize zup (zbg (zlb T (fun j => zza x (5 + 2 * e) j) (zlvl s) i n)) 10 0 0 = B at lv hlt hb
          have k := m_bl_l (m := zzsi m 36 13 (nI 0)) (nI i) (nI e) (nI u) hlt 10 200 (-4) (by omega) (by omega)
          have p1 : zpop (B) = zcnt (zlb T (fun j => zza x (5 + 2 * e) j) (zlvl s) i n) 10 0 := by
            unfold zpop; exact zcnt_cg _ _ 10 0 hb
          rw [p1, zfst_cg _ _ nI 10 0 (-4) hb] at k
          rw [if_pos rfl, Nat.zero_add] at g
          have e1 : f_X11_blushes (nI i) (nI e) (nI u) x = f_X11_blushes_66 (nI i) (nI e) (nI u) 200 (4 + 2 * e) (nI 0) (-4) (nI 0) x := by
            exact x_bl_e hx hi hu a1 hrow a5 hn c
          have q9' : nI 10 - nI 1 = nI 9 := rfl
          rw [q9'] at k
          have e2 : f_X12_blushes (nI i) (nI e) (nI u) m = f_X12_blushes_57 (nI i) (nI e) (nI u) 200 (nI (B)) (-4) (nI 9) (zzsi m 36 13 (nI 0)) := by
            exact m_bl_e he hu wb a3 lv
          exact ⟨_, e1.trans g, e2.trans k⟩
      · have hr' : r < nI 0 := hr
        have wb := m_wb_row hm1 hi hr a3
        refine ⟨r, ?_, ?_⟩
        · simp (disch := omega) only [f_X11_blushes, x_has1 hx hi, x_12 hu, a1, a2, q_e1_0, zzbd_s, zzlt_eq, zzon_n, zzon_s, q0, q1, q2, q3, q4, q5, q6, q7, q8, q9, q10, q11, q12, q20, q48, q49, q57, q59, q99, q100, q999, nI_add, pk_mul, q_lt0, q_lt, q_eq, q_cl, q_gd, if_true, if_false, q_ofNat, q_min, q_max, ite_self, Nat.not_lt_zero, q_e10, q_e01, eq_self, not_true_eq_false, not_false_eq_true, and_true, true_and, and_false, false_and, or_true, true_or, or_false, false_or, q_gdT, Nat.reduceEqDiff, Bool.false_eq_true, Nat.lt_irrefl, Nat.or_zero]
        · simp (disch := omega) only [f_X12_blushes, f_X12_blushes_25, m_in1 hu, wb, hr', q_e1_0, zzbd_s, zzlt_eq, zzon_n, zzon_s, q0, q1, q2, q3, q4, q5, q6, q7, q8, q9, q10, q11, q12, q20, q48, q49, q57, q59, q99, q100, q999, nI_add, pk_mul, q_lt0, q_lt, q_eq, q_cl, q_gd, if_true, if_false, q_ofNat, q_min, q_max, ite_self, Nat.not_lt_zero, q_e10, q_e01, eq_self, not_true_eq_false, not_false_eq_true, and_true, true_and, and_false, false_and, or_true, true_or, or_false, false_or, q_gdT, Nat.reduceEqDiff, Bool.false_eq_true, Nat.lt_irrefl, Nat.or_zero]
    · have wb := m_wb_bad (d := d) hm1 hq
      refine ⟨-1, ?_, ?_⟩
      · simp (disch := omega) only [f_X11_blushes, x_has_bad hx hq, zzbd_s, zzlt_eq, zzon_n, zzon_s, q0, q1, q2, q3, q4, q5, q6, q7, q8, q9, q10, q11, q12, q20, q48, q49, q57, q59, q99, q100, q999, nI_add, pk_mul, q_lt0, q_lt, q_eq, q_cl, q_gd, if_true, if_false, q_ofNat, q_min, q_max, ite_self, Nat.not_lt_zero, q_e10, q_e01, eq_self, not_true_eq_false, not_false_eq_true, and_true, true_and, and_false, false_and, or_true, true_or, or_false, false_or, q_gdT, Nat.reduceEqDiff, Bool.false_eq_true, Nat.lt_irrefl, Nat.or_zero]
      · simp (disch := omega) only [f_X12_blushes, f_X12_blushes_25, m_in1 hu, wb, n1, q_e1_0, zzbd_s, zzlt_eq, zzon_n, zzon_s, q0, q1, q2, q3, q4, q5, q6, q7, q8, q9, q10, q11, q12, q20, q48, q49, q57, q59, q99, q100, q999, nI_add, pk_mul, q_lt0, q_lt, q_eq, q_cl, q_gd, if_true, if_false, q_ofNat, q_min, q_max, ite_self, Nat.not_lt_zero, q_e10, q_e01, eq_self, not_true_eq_false, not_false_eq_true, and_true, true_and, and_false, false_and, or_true, true_or, or_false, false_or, q_gdT, Nat.reduceEqDiff, Bool.false_eq_true, Nat.lt_irrefl, Nat.or_zero]
  · refine ⟨-1, ?_, ?_⟩
    · rcases q_cls q (zn T) (by omega) with ⟨i, hi, rfl⟩ | hq
      · simp (disch := omega) only [f_X11_blushes, x_has1 hx hi, x_12_bad hw, q_e1_0, zzbd_s, zzlt_eq, zzon_n, zzon_s, q0, q1, q2, q3, q4, q5, q6, q7, q8, q9, q10, q11, q12, q20, q48, q49, q57, q59, q99, q100, q999, nI_add, pk_mul, q_lt0, q_lt, q_eq, q_cl, q_gd, if_true, if_false, q_ofNat, q_min, q_max, ite_self, Nat.not_lt_zero, q_e10, q_e01, eq_self, not_true_eq_false, not_false_eq_true, and_true, true_and, and_false, false_and, or_true, true_or, or_false, false_or, q_gdT, Nat.reduceEqDiff, Bool.false_eq_true, Nat.lt_irrefl, Nat.or_zero]
      · simp (disch := omega) only [f_X11_blushes, x_has_bad hx hq, zzbd_s, zzlt_eq, zzon_n, zzon_s, q0, q1, q2, q3, q4, q5, q6, q7, q8, q9, q10, q11, q12, q20, q48, q49, q57, q59, q99, q100, q999, nI_add, pk_mul, q_lt0, q_lt, q_eq, q_cl, q_gd, if_true, if_false, q_ofNat, q_min, q_max, ite_self, Nat.not_lt_zero, q_e10, q_e01, eq_self, not_true_eq_false, not_false_eq_true, and_true, true_and, and_false, false_and, or_true, true_or, or_false, false_or, q_gdT, Nat.reduceEqDiff, Bool.false_eq_true, Nat.lt_irrefl, Nat.or_zero]
    · simp (disch := omega) only [f_X12_blushes, f_X12_blushes_25, m_in1_bad hw, n1, zzbd_s, zzlt_eq, zzon_n, zzon_s, q0, q1, q2, q3, q4, q5, q6, q7, q8, q9, q10, q11, q12, q20, q48, q49, q57, q59, q99, q100, q999, nI_add, pk_mul, q_lt0, q_lt, q_eq, q_cl, q_gd, if_true, if_false, q_ofNat, q_min, q_max, ite_self, Nat.not_lt_zero, q_e10, q_e01, eq_self, not_true_eq_false, not_false_eq_true, and_true, true_and, and_false, false_and, or_true, true_or, or_false, false_or, q_gdT, Nat.reduceEqDiff, Bool.false_eq_true, Nat.lt_irrefl, Nat.or_zero]
end
