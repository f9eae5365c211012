/-! ===== toss: the class's method by hand, and the call ===== -/
def ztoss (kf : Nat × Int32) : Int32 := if kf.1 = 3 then -15 else if kf.2 = 0 then -15 else if kf.1 = 2 then 100 + kf.2 else if kf.1 = 6 then 200 + zzprice kf else kf.2
def f_X11_toss (p0 : Int32) (σ : zzS) : Option (Int32 × zzS) :=
  zzbd (f_X11_oneOn p0 σ) (fun r1 σ2 => (zzon r1 (zzbd (f_X11_refusalWithoutOne p0 σ2) (fun r10 σ11 => some (r10, σ11))) (fun kf5 => some (ztoss kf5, σ2))))
theorem s_toss (d : Int32) : zSim (f_X11_toss d) (f_X12_toss d) := by
  refine zSim_rd (fun x m T hx hm hs hi => ?_)
  rcases q_kept (zSh_13 hs (nI 0)) d with ⟨i, k, f, h8, rfl, hk, hf, a1, a2, a3, a4⟩ | ⟨a1, r, hr, a2, a3⟩
  · refine ⟨ztoss (k, nI f), ?_, ?_⟩
    · simp (disch := omega) only [f_X11_toss, a1, zzbd_s, zzlt_eq, zzon_n, zzon_s, q0, q1, q2, q3, q4, q5, q6, q7, q8, q9, q10, q11, q12, q20, q48, q49, q57, q59, q99, q100, q999, nI_add, pk_mul, q_lt0, q_lt, q_eq, q_cl, q_gd, if_true, if_false, q_ofNat, q_min, q_max, ite_self, Nat.not_lt_zero, q_e10, q_e01, eq_self, not_true_eq_false, not_false_eq_true, and_true, true_and, and_false, false_and, or_true, true_or, or_false, false_or, q_gdT, Nat.reduceEqDiff, Bool.false_eq_true, Nat.lt_irrefl, Nat.or_zero]
    · have e6 : f_X12_costOf (nI 6) (nI f) (zzsi m 36 13 (nI 0)) = some (zzprice (6, nI f), zzsi m 36 13 (nI 0)) := rfl
      have e : f_X12_toss (nI i) m = (if nI k = nI 3 then some (-15, zzsi m 36 13 (nI 0)) else if nI f = nI 0 then some (-15, zzsi m 36 13 (nI 0)) else if nI k = nI 2 then some ((100 : Int32) + nI f, zzsi m 36 13 (nI 0)) else if nI k = nI 6 then zzbd (f_X12_costOf (nI k) (nI f) (zzsi m 36 13 (nI 0))) (fun r13 σ14 => some (((200 : Int32) + r13), σ14)) else some (nI f, zzsi m 36 13 (nI 0))) := by
        simp (disch := omega) only [f_X12_toss, a4, a2, a3, q_len42, q_len43, h8, zzbd_s, zzlt_eq, zzon_n, zzon_s, q0, q1, q2, q3, q4, q5, q6, q7, q8, q9, q10, q11, q12, q20, q48, q49, q57, q59, q99, q100, q999, nI_add, pk_mul, q_lt0, q_lt, q_eq, q_cl, q_gd, if_true, if_false, q_ofNat, q_min, q_max, ite_self, Nat.not_lt_zero, q_e10, q_e01, eq_self, not_true_eq_false, not_false_eq_true, and_true, true_and, and_false, false_and, or_true, true_or, or_false, false_or, q_gdT, Nat.reduceEqDiff, Bool.false_eq_true, Nat.lt_irrefl, Nat.or_zero]
      rw [e]
      unfold ztoss
      by_cases f0 : f = 0
      · subst f0
        by_cases c3 : k = 3
        · rw [if_pos (by rw [c3]), if_pos c3]
        · rw [if_neg (by rw [q_eq (by omega) (by omega)]; exact c3), if_neg c3, if_pos rfl]; rfl
      · have g0 : ¬ nI f = nI 0 := by rw [q_eq (by omega) (by omega)]; exact f0
        have g0' : ¬ nI f = 0 := g0
        rcases q_k8 hk with rfl | rfl | rfl | rfl | rfl | rfl | rfl | rfl <;> simp (disch := omega) only [g0, g0', q_eq, e6, zzbd_s, zzlt_eq, zzon_n, zzon_s, q0, q1, q2, q3, q4, q5, q6, q7, q8, q9, q10, q11, q12, q20, q48, q49, q57, q59, q99, q100, q999, nI_add, pk_mul, q_lt0, q_lt, q_eq, q_cl, q_gd, if_true, if_false, q_ofNat, q_min, q_max, ite_self, Nat.not_lt_zero, q_e10, q_e01, eq_self, not_true_eq_false, not_false_eq_true, and_true, true_and, and_false, false_and, or_true, true_or, or_false, false_or, q_gdT, Nat.reduceEqDiff, Bool.false_eq_true, Nat.lt_irrefl, Nat.or_zero] <;> rfl
  · have hr' : r < nI 0 := hr
    refine ⟨r, ?_, ?_⟩
    · simp (disch := omega) only [f_X11_toss, a1, a2, zzbd_s, zzlt_eq, zzon_n, zzon_s, q0, q1, q2, q3, q4, q5, q6, q7, q8, q9, q10, q11, q12, q20, q48, q49, q57, q59, q99, q100, q999, nI_add, pk_mul, q_lt0, q_lt, q_eq, q_cl, q_gd, if_true, if_false, q_ofNat, q_min, q_max, ite_self, Nat.not_lt_zero, q_e10, q_e01, eq_self, not_true_eq_false, not_false_eq_true, and_true, true_and, and_false, false_and, or_true, true_or, or_false, false_or, q_gdT, Nat.reduceEqDiff, Bool.false_eq_true, Nat.lt_irrefl, Nat.or_zero]
    · simp (disch := omega) only [f_X12_toss, a3, hr', zzbd_s, zzlt_eq, zzon_n, zzon_s, q0, q1, q2, q3, q4, q5, q6, q7, q8, q9, q10, q11, q12, q20, q48, q49, q57, q59, q99, q100, q999, nI_add, pk_mul, q_lt0, q_lt, q_eq, q_cl, q_gd, if_true, if_false, q_ofNat, q_min, q_max, ite_self, Nat.not_lt_zero, q_e10, q_e01, eq_self, not_true_eq_false, not_false_eq_true, and_true, true_and, and_false, false_and, or_true, true_or, or_false, false_or, q_gdT, Nat.reduceEqDiff, Bool.false_eq_true, Nat.lt_irrefl, Nat.or_zero]
