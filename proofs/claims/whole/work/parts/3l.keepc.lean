/-! ===== keep: the class's method by hand, and the call ===== -/
/-- the kind that a number makes: what is none makes a PERSON -/
def zzkd (p : Int32) : Nat := if p = 1 then 1 else if p = 2 then 2 else if p = 3 then 3 else if p = 4 then 4 else if p = 5 then 5 else if p = 6 then 6 else if p = 7 then 7 else 0
theorem zzkd_n : ∀ k < 8, zzkd (nI k) = k := by decide +kernel
def f_X11_personOf (p0 p1 : Int32) (σ : zzS) : Option ((Option (Nat × Int32)) × zzS) := some (some (zzkd p0, p1), σ)
def f_X11_keep_62  (p0 : Int32) (p1 : Int32) (p2 : Int32) (p3 : Int32) (s0 : (Option (Nat × Int32))) (s1 : Int32) (σ : zzS) : Option (Int32 × zzS) :=
  zzbd (f_X11_lay s1 s0 none σ) (fun r1 σ2 => some ((0 : Int32), σ2))
def f_X11_keep_45  (p0 : Int32) (p1 : Int32) (p2 : Int32) (p3 : Int32)  (σ : zzS) : Option (Int32 × zzS) :=
  (if p1 = (1 : Int32) then (zzbd (f_X11_personOf p2 p3 σ) (fun r2 σ3 => f_X11_keep_62 p0 p1 p2 p3 r2 p0 σ3)) else (f_X11_keep_62 p0 p1 p2 p3 none p0 σ))
def f_X11_keep (p0 : Int32) (p1 : Int32) (p2 : Int32) (p3 : Int32) (σ : zzS) : Option (Int32 × zzS) :=
  zzbd (f_X11_isShelf p0 σ) (fun r1 σ2 => (if r1 = 0 then (some ((-1 : Int32), σ2)) else (zzbd (f_X11_isOneOfTwo p1 σ2) (fun r4 σ5 => (if r4 = 0 then (some ((-1 : Int32), σ5)) else (if p1 = (1 : Int32) then (if p2 < 0 then (some ((-1 : Int32), σ5)) else (if p2 < (8 : Int32) then (if p3 < 0 then (some ((-1 : Int32), σ5)) else (if (9 : Int32) < p3 then (some ((-1 : Int32), σ5)) else (f_X11_keep_45 p0 p1 p2 p3 σ5))) else (some ((-1 : Int32), σ5)))) else (f_X11_keep_45 p0 p1 p2 p3 σ5)))))))
theorem x_lay {x : zzS} {e : Nat} (he : e < 8) (o : Option (Nat × Int32)) : f_X11_lay (nI e) o none x = some ((), zzsq (zzsr x 1 e o) e none) := by
  have h : zzrowo none = true := rfl
  simp (disch := omega) only [f_X11_lay, he, q_pl1, h, zzbd_s, zzlt_eq, zzon_n, zzon_s, q0, q1, q2, q3, q4, q5, q6, q7, q8, q9, q10, q11, q12, q20, q48, q49, q57, q59, q99, q100, q999, nI_add, pk_mul, q_lt0, q_lt, q_eq, q_cl, q_gd, if_true, if_false, q_ofNat, q_min, q_max, ite_self, Nat.not_lt_zero, q_e10, q_e01, eq_self, not_true_eq_false, not_false_eq_true, and_true, true_and, and_false, false_and, or_true, true_or, or_false, false_or, q_gdT, Nat.reduceEqDiff, Bool.false_eq_true, Nat.lt_irrefl, Nat.or_zero]
theorem zkeep_rel {x m : zzS} {T : zT} {e : Nat} (he : e < 8) (hx : zXT x 20 T) (hm : zMT m T) (hs : zSh x m) (hi : zIm x m) (o : Option (Nat × Int32)) (a b c : Int32) (ho : (a = nI 0 ∧ o = none) ∨ (a = nI 1 ∧ ∃ k f, k < 8 ∧ f ≤ 9 ∧ o = some (k, nI f) ∧ b = nI k ∧ c = nI f)) : zRel (zzsq (zzsr x 1 e o) e none) (zzsa (zzsa (zzsa m 41 e a) 42 e b) 43 e c) := by
  refine ⟨⟨T, zXT_hi (Or.inl rfl) hx (fun _ _ _ => rfl) (fun _ _ _ => rfl) (fun k f c => by rw [q_r_sq, q_rr, if_neg (by omega)]), hm⟩, ?_, ?_⟩
  · intro d hd
    by_cases c0 : d = e
    · subst c0
      have e1 : zza (zzsa (zzsa (zzsa m 41 d a) 42 d b) 43 d c) 41 d = a := by rw [q_aa, if_neg (by omega), q_aa, if_neg (by omega), q_aa, if_pos ⟨rfl, rfl⟩]
      have e2 : zza (zzsa (zzsa (zzsa m 41 d a) 42 d b) 43 d c) 42 d = b := by rw [q_aa, if_neg (by omega), q_aa, if_pos ⟨rfl, rfl⟩]
      have e3 : zza (zzsa (zzsa (zzsa m 41 d a) 42 d b) 43 d c) 43 d = c := by rw [q_aa, if_pos ⟨rfl, rfl⟩]
      have e4 : zzr (zzsq (zzsr x 1 d o) d none) 1 d = o := by rw [q_r_sq, q_rr, if_pos ⟨rfl, rfl⟩]
      have e5 : zzq (zzsq (zzsr x 1 d o) d none) d = none := by rw [q_qq, if_pos rfl]
      rw [e1, e2, e3, e4, e5]
      rcases ho with ⟨h1, h2⟩ | ⟨h1, k, f, h2, h3, h4, h5, h6⟩
      · exact Or.inl ⟨h1, h2, rfl⟩
      · exact Or.inr (Or.inl ⟨h1, rfl, k, f, h2, h3, h4, h5, h6⟩)
    · have b1 : ∀ k, zza (zzsa (zzsa (zzsa m 41 e a) 42 e b) 43 e c) k d = zza m k d := fun k => by rw [q_aa, if_neg (by omega), q_aa, if_neg (by omega), q_aa, if_neg (by omega)]
      rw [b1, b1, b1, b1, b1, q_r_sq, q_rr, if_neg (by omega), q_qq, if_neg c0, q_q_sr]
      exact hs d hd
  · rcases hi with h | ⟨h1, h2, U, h3, h4⟩
    · exact Or.inl h
    · exact Or.inr ⟨h1, h2, U, zXT_hi (Or.inr (Or.inr rfl)) h3 (fun _ _ _ => rfl) (fun _ _ _ => rfl) (fun k f c => by rw [q_r_sq, q_rr, if_neg (by omega)]), h4⟩
theorem s_keep (d w k f : Int32) : zSim (f_X11_keep d w k f) (f_X12_keep d w k f) := by
  intro x m ⟨⟨T, hx, hm⟩, hs, hi⟩
  have p1 := zPM_13 m (nI 0)
  have hm1 : zMT (zzsi m 36 13 (nI 0)) T := hm
  have hs1 := zSh_13 hs (nI 0)
  have hi1 := zIm_p hi (zPX_refl x) p1
  rcases q_cls d 8 (by omega) with ⟨e, he, rfl⟩ | hd
  · rcases q_cls w 2 (by omega) with ⟨u, hu, rfl⟩ | hw
    · rcases (show u = 0 ∨ u = 1 by omega) with rfl | rfl
      · refine ⟨nI 0, _, _, ?_, ?_, zkeep_rel he hx hm1 hs1 hi1 none (nI 0) (nI 0) (nI 0) (Or.inl ⟨rfl, rfl⟩)⟩
        · simp (disch := omega) only [f_X11_keep, f_X11_keep_45, f_X11_keep_62, f_X11_personOf, zzkd_n, x_shelf he, x_12 hu, x_lay he, q_e1_0, zzbd_s, zzlt_eq, zzon_n, zzon_s, q0, q1, q2, q3, q4, q5, q6, q7, q8, q9, q10, q11, q12, q20, q48, q49, q57, q59, q99, q100, q999, nI_add, pk_mul, q_lt0, q_lt, q_eq, q_cl, q_gd, if_true, if_false, q_ofNat, q_min, q_max, ite_self, Nat.not_lt_zero, q_e10, q_e01, eq_self, not_true_eq_false, not_false_eq_true, and_true, true_and, and_false, false_and, or_true, true_or, or_false, false_or, q_gdT, Nat.reduceEqDiff, Bool.false_eq_true, Nat.lt_irrefl, Nat.or_zero]
        · simp (disch := omega) only [f_X12_keep, f_X12_keep_59, f_X12_keep_81, m_in7 he, m_in1 hu, he, q_len41, q_len42, q_len43, q_e1_0, zzbd_s, zzlt_eq, zzon_n, zzon_s, q0, q1, q2, q3, q4, q5, q6, q7, q8, q9, q10, q11, q12, q20, q48, q49, q57, q59, q99, q100, q999, nI_add, pk_mul, q_lt0, q_lt, q_eq, q_cl, q_gd, if_true, if_false, q_ofNat, q_min, q_max, ite_self, Nat.not_lt_zero, q_e10, q_e01, eq_self, not_true_eq_false, not_false_eq_true, and_true, true_and, and_false, false_and, or_true, true_or, or_false, false_or, q_gdT, Nat.reduceEqDiff, Bool.false_eq_true, Nat.lt_irrefl, Nat.or_zero]
      · rcases q_cls k 8 (by omega) with ⟨k, hk, rfl⟩ | hk
        · rcases q_cls f 10 (by omega) with ⟨f, hf, rfl⟩ | hf
          · have c1 : ¬ 9 < f := by omega
            refine ⟨nI 0, _, _, ?_, ?_, zkeep_rel he hx hm1 hs1 hi1 (some (k, nI f)) (nI 1) (nI k) (nI f) (Or.inr ⟨rfl, k, f, hk, by omega, rfl, rfl, rfl⟩)⟩
            · simp (disch := omega) only [f_X11_keep, f_X11_keep_45, f_X11_keep_62, f_X11_personOf, zzkd_n, x_shelf he, x_12 hu, x_lay he, hk, c1, q_e1_0, zzbd_s, zzlt_eq, zzon_n, zzon_s, q0, q1, q2, q3, q4, q5, q6, q7, q8, q9, q10, q11, q12, q20, q48, q49, q57, q59, q99, q100, q999, nI_add, pk_mul, q_lt0, q_lt, q_eq, q_cl, q_gd, if_true, if_false, q_ofNat, q_min, q_max, ite_self, Nat.not_lt_zero, q_e10, q_e01, eq_self, not_true_eq_false, not_false_eq_true, and_true, true_and, and_false, false_and, or_true, true_or, or_false, false_or, q_gdT, Nat.reduceEqDiff, Bool.false_eq_true, Nat.lt_irrefl, Nat.or_zero]
            · simp (disch := omega) only [f_X12_keep, f_X12_keep_59, f_X12_keep_81, m_in7 he, m_in1 hu, m_in7 hk, m_in9 hf, he, q_len41, q_len42, q_len43, q_e1_0, zzbd_s, zzlt_eq, zzon_n, zzon_s, q0, q1, q2, q3, q4, q5, q6, q7, q8, q9, q10, q11, q12, q20, q48, q49, q57, q59, q99, q100, q999, nI_add, pk_mul, q_lt0, q_lt, q_eq, q_cl, q_gd, if_true, if_false, q_ofNat, q_min, q_max, ite_self, Nat.not_lt_zero, q_e10, q_e01, eq_self, not_true_eq_false, not_false_eq_true, and_true, true_and, and_false, false_and, or_true, true_or, or_false, false_or, q_gdT, Nat.reduceEqDiff, Bool.false_eq_true, Nat.lt_irrefl, Nat.or_zero]
          · refine ⟨-1, x, _, ?_, ?_, ⟨T, hx, hm1⟩, hs1, hi1⟩
            · have : f < 0 ∨ ¬ f < 0 ∧ nI 9 < f := by
                rw [q_neg0, q_nlt f (by omega)]; have := hf; unfold zbad at this; omega
              rcases this with c | ⟨c1, c2⟩
              · rw [q0] at c
                simp (disch := omega) only [f_X11_keep, f_X11_keep_45, f_X11_keep_62, f_X11_personOf, zzkd_n, x_shelf he, x_12 hu, hk, c, q_e1_0, zzbd_s, zzlt_eq, zzon_n, zzon_s, q0, q1, q2, q3, q4, q5, q6, q7, q8, q9, q10, q11, q12, q20, q48, q49, q57, q59, q99, q100, q999, nI_add, pk_mul, q_lt0, q_lt, q_eq, q_cl, q_gd, if_true, if_false, q_ofNat, q_min, q_max, ite_self, Nat.not_lt_zero, q_e10, q_e01, eq_self, not_true_eq_false, not_false_eq_true, and_true, true_and, and_false, false_and, or_true, true_or, or_false, false_or, q_gdT, Nat.reduceEqDiff, Bool.false_eq_true, Nat.lt_irrefl, Nat.or_zero]
              · rw [q0] at c1
                simp (disch := omega) only [f_X11_keep, f_X11_keep_45, f_X11_keep_62, f_X11_personOf, zzkd_n, x_shelf he, x_12 hu, hk, c1, c2, q_e1_0, zzbd_s, zzlt_eq, zzon_n, zzon_s, q0, q1, q2, q3, q4, q5, q6, q7, q8, q9, q10, q11, q12, q20, q48, q49, q57, q59, q99, q100, q999, nI_add, pk_mul, q_lt0, q_lt, q_eq, q_cl, q_gd, if_true, if_false, q_ofNat, q_min, q_max, ite_self, Nat.not_lt_zero, q_e10, q_e01, eq_self, not_true_eq_false, not_false_eq_true, and_true, true_and, and_false, false_and, or_true, true_or, or_false, false_or, q_gdT, Nat.reduceEqDiff, Bool.false_eq_true, Nat.lt_irrefl, Nat.or_zero]
            · simp (disch := omega) only [f_X12_keep, m_in7 he, m_in1 hu, m_in7 hk, m_in9_bad hf, q_e1_0, zzbd_s, zzlt_eq, zzon_n, zzon_s, q0, q1, q2, q3, q4, q5, q6, q7, q8, q9, q10, q11, q12, q20, q48, q49, q57, q59, q99, q100, q999, nI_add, pk_mul, q_lt0, q_lt, q_eq, q_cl, q_gd, if_true, if_false, q_ofNat, q_min, q_max, ite_self, Nat.not_lt_zero, q_e10, q_e01, eq_self, not_true_eq_false, not_false_eq_true, and_true, true_and, and_false, false_and, or_true, true_or, or_false, false_or, q_gdT, Nat.reduceEqDiff, Bool.false_eq_true, Nat.lt_irrefl, Nat.or_zero]
        · refine ⟨-1, x, _, ?_, ?_, ⟨T, hx, hm1⟩, hs1, hi1⟩
          · rcases q_bad8 hk (by omega) with c | ⟨c1, c2⟩
            · rw [q0] at c; simp (disch := omega) only [f_X11_keep, f_X11_keep_45, f_X11_keep_62, f_X11_personOf, zzkd_n, x_shelf he, x_12 hu, c, q_e1_0, zzbd_s, zzlt_eq, zzon_n, zzon_s, q0, q1, q2, q3, q4, q5, q6, q7, q8, q9, q10, q11, q12, q20, q48, q49, q57, q59, q99, q100, q999, nI_add, pk_mul, q_lt0, q_lt, q_eq, q_cl, q_gd, if_true, if_false, q_ofNat, q_min, q_max, ite_self, Nat.not_lt_zero, q_e10, q_e01, eq_self, not_true_eq_false, not_false_eq_true, and_true, true_and, and_false, false_and, or_true, true_or, or_false, false_or, q_gdT, Nat.reduceEqDiff, Bool.false_eq_true, Nat.lt_irrefl, Nat.or_zero]
            · rw [q0] at c1; simp (disch := omega) only [f_X11_keep, f_X11_keep_45, f_X11_keep_62, f_X11_personOf, zzkd_n, x_shelf he, x_12 hu, c1, c2, q_e1_0, zzbd_s, zzlt_eq, zzon_n, zzon_s, q0, q1, q2, q3, q4, q5, q6, q7, q8, q9, q10, q11, q12, q20, q48, q49, q57, q59, q99, q100, q999, nI_add, pk_mul, q_lt0, q_lt, q_eq, q_cl, q_gd, if_true, if_false, q_ofNat, q_min, q_max, ite_self, Nat.not_lt_zero, q_e10, q_e01, eq_self, not_true_eq_false, not_false_eq_true, and_true, true_and, and_false, false_and, or_true, true_or, or_false, false_or, q_gdT, Nat.reduceEqDiff, Bool.false_eq_true, Nat.lt_irrefl, Nat.or_zero]
          · simp (disch := omega) only [f_X12_keep, m_in7 he, m_in1 hu, m_in7_bad hk, q_e1_0, zzbd_s, zzlt_eq, zzon_n, zzon_s, q0, q1, q2, q3, q4, q5, q6, q7, q8, q9, q10, q11, q12, q20, q48, q49, q57, q59, q99, q100, q999, nI_add, pk_mul, q_lt0, q_lt, q_eq, q_cl, q_gd, if_true, if_false, q_ofNat, q_min, q_max, ite_self, Nat.not_lt_zero, q_e10, q_e01, eq_self, not_true_eq_false, not_false_eq_true, and_true, true_and, and_false, false_and, or_true, true_or, or_false, false_or, q_gdT, Nat.reduceEqDiff, Bool.false_eq_true, Nat.lt_irrefl, Nat.or_zero]
    · refine ⟨-1, x, _, ?_, ?_, ⟨T, hx, hm1⟩, hs1, hi1⟩
      · simp (disch := omega) only [f_X11_keep, f_X11_keep_45, f_X11_keep_62, f_X11_personOf, zzkd_n, x_shelf he, x_12_bad hw, q_e1_0, zzbd_s, zzlt_eq, zzon_n, zzon_s, q0, q1, q2, q3, q4, q5, q6, q7, q8, q9, q10, q11, q12, q20, q48, q49, q57, q59, q99, q100, q999, nI_add, pk_mul, q_lt0, q_lt, q_eq, q_cl, q_gd, if_true, if_false, q_ofNat, q_min, q_max, ite_self, Nat.not_lt_zero, q_e10, q_e01, eq_self, not_true_eq_false, not_false_eq_true, and_true, true_and, and_false, false_and, or_true, true_or, or_false, false_or, q_gdT, Nat.reduceEqDiff, Bool.false_eq_true, Nat.lt_irrefl, Nat.or_zero]
      · simp (disch := omega) only [f_X12_keep, m_in7 he, m_in1_bad hw, q_e1_0, zzbd_s, zzlt_eq, zzon_n, zzon_s, q0, q1, q2, q3, q4, q5, q6, q7, q8, q9, q10, q11, q12, q20, q48, q49, q57, q59, q99, q100, q999, nI_add, pk_mul, q_lt0, q_lt, q_eq, q_cl, q_gd, if_true, if_false, q_ofNat, q_min, q_max, ite_self, Nat.not_lt_zero, q_e10, q_e01, eq_self, not_true_eq_false, not_false_eq_true, and_true, true_and, and_false, false_and, or_true, true_or, or_false, false_or, q_gdT, Nat.reduceEqDiff, Bool.false_eq_true, Nat.lt_irrefl, Nat.or_zero]
  · refine ⟨-1, x, _, ?_, ?_, ⟨T, hx, hm1⟩, hs1, hi1⟩
    · simp (disch := omega) only [f_X11_keep, f_X11_keep_45, f_X11_keep_62, f_X11_personOf, zzkd_n, x_shelf_bad hd, zzbd_s, zzlt_eq, zzon_n, zzon_s, q0, q1, q2, q3, q4, q5, q6, q7, q8, q9, q10, q11, q12, q20, q48, q49, q57, q59, q99, q100, q999, nI_add, pk_mul, q_lt0, q_lt, q_eq, q_cl, q_gd, if_true, if_false, q_ofNat, q_min, q_max, ite_self, Nat.not_lt_zero, q_e10, q_e01, eq_self, not_true_eq_false, not_false_eq_true, and_true, true_and, and_false, false_and, or_true, true_or, or_false, false_or, q_gdT, Nat.reduceEqDiff, Bool.false_eq_true, Nat.lt_irrefl, Nat.or_zero]
    · simp (disch := omega) only [f_X12_keep, m_in7_bad hd, zzbd_s, zzlt_eq, zzon_n, zzon_s, q0, q1, q2, q3, q4, q5, q6, q7, q8, q9, q10, q11, q12, q20, q48, q49, q57, q59, q99, q100, q999, nI_add, pk_mul, q_lt0, q_lt, q_eq, q_cl, q_gd, if_true, if_false, q_ofNat, q_min, q_max, ite_self, Nat.not_lt_zero, q_e10, q_e01, eq_self, not_true_eq_false, not_false_eq_true, and_true, true_and, and_false, false_and, or_true, true_or, or_false, false_or, q_gdT, Nat.reduceEqDiff, Bool.false_eq_true, Nat.lt_irrefl, Nat.or_zero]
