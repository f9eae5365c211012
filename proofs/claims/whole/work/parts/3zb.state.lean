/-! ===== the town's text: one statement on both sides ===== -/
def f_X10_perform (t0 : Nat) (p0 : Int32) (p1 : Int32) (p2 : Int32) (p3 : Int32) (σ : zzS) : Option (Int32 × zzS) :=
  (if p0 = 100 then (zzbd (f_X10_pass t0 (((10 : Int32) * p1) + p2) σ) (fun r18 σ19 => zzgd (r18 = 0 ∨ r18 = 1) (some (r18, σ19)))) else (if p0 = 101 then (some ((0 : Int32), σ)) else (if p0 = 102 then (zzbd (f_X10_setFond t0 p1 p2 p3 σ) (fun r21 σ22 => zzgd (r21 = 0 ∨ r21 = 1) (some (r21, σ22)))) else (if p0 = 103 then (some ((0 : Int32), σ)) else (if p0 = 104 then (some ((0 : Int32), σ)) else (if p0 = 105 then (some ((0 : Int32), σ)) else (if p0 = 106 then (some ((0 : Int32), σ)) else (if p0 = 107 then (some ((0 : Int32), σ)) else (if p0 = 108 then (zzbd (f_X10_setLimit t0 p1 σ) (fun r24 σ25 => zzgd (r24 = 0 ∨ r24 = 1) (some (r24, σ25)))) else (if p0 = 109 then (some ((0 : Int32), σ)) else (if p0 = 110 then (some ((0 : Int32), σ)) else (if p0 = 111 then (some ((0 : Int32), σ)) else (if p0 = 112 then (if p1 < (8 : Int32) then (zzbd (f_X11_personOf p1 p2 σ) (fun r28 σ29 => zzbd (f_X10_admit t0 r28 σ29) (fun r32 σ33 => (if r32 = 0 then (some ((0 : Int32), σ33)) else (some ((1 : Int32), σ33)))))) else (some ((0 : Int32), σ))) else (if p0 = 113 then (some ((0 : Int32), σ)) else (if p0 = 114 then (some ((0 : Int32), σ)) else (if p0 = 115 then (zzbd (f_X10_see t0 p1 p2 σ) (fun r35 σ36 => zzgd (r35 = 0 ∨ r35 = 1) (some (r35, σ36)))) else (if p0 = 116 then (zzbd (f_X10_turn t0 p1 p2 σ) (fun r38 σ39 => zzgd (r38 = 0 ∨ r38 = 1) (some (r38, σ39)))) else (some ((0 : Int32), σ)))))))))))))))))))
theorem q_gdb0 {α : Type} {y : Option α} : zzgd (nI 0 = (0 : Int32) ∨ nI 0 = (1 : Int32)) y = y := zzgd_t (Or.inl rfl)
theorem q_gdb1 {α : Type} {y : Option α} : zzgd (nI 1 = (0 : Int32) ∨ nI 1 = (1 : Int32)) y = y := zzgd_t (Or.inr rfl)
abbrev zStep (x m : zzS) (fx fm : Option (Int32 × zzS)) : Prop := ∃ r x' m' U', fx = some (zbn r, x') ∧ fm = some (zbn r, m') ∧ zXT x' 24 U' ∧ zMT m' U' ∧ zFR 24 x x' ∧ zMF m m'
section
variable {x m : zzS} {U : zT}
theorem q_badn {N a : Nat} (h : ¬ a < N) (ha : a < 2147483648) : zbad N (nI a) := Or.inr (by rw [nI_toInt ha]; omega)
theorem zst_0 (hx : zXT x 24 U) (hm : zMT m U) {fx fm : Option (Int32 × zzS)} (h1 : fx = some (nI 0, x)) (h2 : fm = some (nI 0, m)) : zStep x m fx fm := ⟨false, x, m, U, h1, h2, hx, hm, zFR_refl 24 x, zMF_refl m⟩
theorem pf_112 (p1 p2 p3 : Int32) : f_X10_perform 24 112 p1 p2 p3 x = (if p1 < (8 : Int32) then (zzbd (f_X11_personOf p1 p2 x) (fun r28 σ29 => zzbd (f_X10_admit 24 r28 σ29) (fun r32 σ33 => (if r32 = 0 then (some ((0 : Int32), σ33)) else (some ((1 : Int32), σ33)))))) else (some ((0 : Int32), x))) := by simp (decide := true) only [f_X10_perform, if_true, if_false]
theorem pf_102 (p1 p2 p3 : Int32) : f_X10_perform 24 102 p1 p2 p3 x = zzbd (f_X10_setFond 24 p1 p2 p3 x) (fun r21 σ22 => zzgd (r21 = 0 ∨ r21 = 1) (some (r21, σ22))) := by simp (decide := true) only [f_X10_perform, if_true, if_false]
theorem pf_115 (p1 p2 p3 : Int32) : f_X10_perform 24 115 p1 p2 p3 x = zzbd (f_X10_see 24 p1 p2 x) (fun r21 σ22 => zzgd (r21 = 0 ∨ r21 = 1) (some (r21, σ22))) := by simp (decide := true) only [f_X10_perform, if_true, if_false]
theorem pf_116 (p1 p2 p3 : Int32) : f_X10_perform 24 116 p1 p2 p3 x = zzbd (f_X10_turn 24 p1 p2 x) (fun r21 σ22 => zzgd (r21 = 0 ∨ r21 = 1) (some (r21, σ22))) := by simp (decide := true) only [f_X10_perform, if_true, if_false]
theorem pf_108 (p1 p2 p3 : Int32) : f_X10_perform 24 108 p1 p2 p3 x = zzbd (f_X10_setLimit 24 p1 x) (fun r21 σ22 => zzgd (r21 = 0 ∨ r21 = 1) (some (r21, σ22))) := by simp (decide := true) only [f_X10_perform, if_true, if_false]
theorem pf_100 (p1 p2 p3 : Int32) : f_X10_perform 24 100 p1 p2 p3 x = zzbd (f_X10_pass 24 (((10 : Int32) * p1) + p2) x) (fun r21 σ22 => zzgd (r21 = 0 ∨ r21 = 1) (some (r21, σ22))) := by simp (decide := true) only [f_X10_perform, if_true, if_false]
/-- what the k-th statement is, for the reference -/
theorem m_ct {k : Nat} (hk : k < 51) {c A B : Int32} (h7 : zza m 47 k = c) (hA : zza m 48 (3 * k) = A) (hB : zza m 48 (3 * k + 1) = B) : (c = 112 → f_X12_comesTold (nI k) m = zzbd (f_X12_personComes A B m) (fun r54 σ55 => zzgd (r54 = 0 ∨ r54 = 1) (some (r54, σ55)))) ∧ (c = 102 → f_X12_comesTold (nI k) m = zzbd (f_X12_areTwo A B m) (fun r21 σ22 => (if r21 = 0 then (zzgd (r21 = 0 ∨ r21 = 1) (some (r21, σ22))) else (zzgd (zzin (((7 : Int32) * A) + B) (zzlen 40)) (zzlt (zzsa σ22 40 (Int32.toNatClampNeg (((7 : Int32) * A) + B)) (zza σ22 48 (3 * k + 2))) (fun σ27 => zzgd (r21 = 0 ∨ r21 = 1) (some (r21, σ27)))))))) ∧ (c = 115 → f_X12_comesTold (nI k) m = zzbd (f_X12_areTwo A B m) (fun r63 σ64 => (if r63 = 0 then (f_X12_comesTold_169 (nI k) A B σ64) else (zzbd (f_X12_daysPass (1 : Int32) σ64) (fun r66 σ67 => (if r66 = 0 then (f_X12_comesTold_169 (nI k) A B σ67) else (f_X12_comesTold_170 (nI k) A B (1 : Int32) σ67))))))) ∧ (c = 116 → f_X12_comesTold (nI k) m = zzbd (f_X12_turning A B m) (fun r69 σ70 => zzgd (r69 = 0 ∨ r69 = 1) (some (r69, σ70)))) ∧ (c = 108 → f_X12_comesTold (nI k) m = some ((1 : Int32), zzsi m 36 5 A)) ∧ (c = 100 → f_X12_comesTold (nI k) m = zzbd (f_X12_daysPass (((10 : Int32) * A) + B) m) (fun r69 σ70 => zzgd (r69 = 0 ∨ r69 = 1) (some (r69, σ70)))) := by
  have e3 : (3 : Int32) * nI k = nI (3 * k) := by rw [q3, pk_mul]
  have e31 : nI (3 * k) + (1 : Int32) = nI (3 * k + 1) := by rw [q1, nI_add]
  have e32 : nI (3 * k) + (2 : Int32) = nI (3 * k + 2) := by rw [q2, nI_add]
  have c0 : (nI (3 * k)).toNatClampNeg = 3 * k := q_cl (by omega)
  have c1 : (nI (3 * k + 1)).toNatClampNeg = 3 * k + 1 := q_cl (by omega)
  have c2 : (nI (3 * k + 2)).toNatClampNeg = 3 * k + 2 := q_cl (by omega)
  have c3 : (nI k).toNatClampNeg = k := q_cl (by omega)
  have g0 : zzin (nI (3 * k)) (zzlen 48) := q_in (by rw [q_len48]; omega) (by rw [q_len48]; omega)
  have g1 : zzin (nI (3 * k + 1)) (zzlen 48) := q_in (by rw [q_len48]; omega) (by rw [q_len48]; omega)
  have g2 : zzin (nI (3 * k + 2)) (zzlen 48) := q_in (by rw [q_len48]; omega) (by rw [q_len48]; omega)
  have g3 : zzin (nI k) (zzlen 47) := q_in (by rw [q_len47]; omega) (by rw [q_len47]; omega)
  refine ⟨?_, ?_, ?_, ?_, ?_, ?_⟩ <;> intro hc <;> subst hc <;> unfold f_X12_comesTold <;> simp only [e3, e31, e32, c0, c1, c2, c3, zzgd_t g0, zzgd_t g1, zzgd_t g2, zzgd_t g3, zzlt_eq, hA, hB, h7] <;> simp (decide := true) only [if_true, if_false]
theorem zst_p (hx : zXT x 24 U) (hm : zMT m U) {k a b : Nat} (hk : k < 51) (ha : a < 10) (hb : b < 10) (h7 : zza m 47 k = 112) (hA : zza m 48 (3 * k) = nI a) (hB : zza m 48 (3 * k + 1) = nI b) (v : Int32) : zStep x m (f_X10_perform 24 112 (nI a) (nI b) v x) (f_X12_comesTold (nI k) m) := by
  have h9 := hx.1.1
  have ht : zztown 24 := Or.inr (Or.inl rfl)
  rw [(m_ct hk h7 hA hB).1 rfl, pf_112]
  by_cases c : a < 8
  · have e8 : nI a < (8 : Int32) := (q_lt (b := 8) (by omega) (by omega)).mpr c
    rw [if_pos e8]
    unfold f_X11_personOf
    rw [zzbd_s, zzkd_n a c]
    by_cases c2 : zn U < 7
    · obtain ⟨m', g1, g2, g3⟩ := m_comeT hm c2 c (f := b) (by omega)
      refine ⟨true, _, m', zta U a b, ?_, ?_, xs_a hx c2 c (by omega), g2, zFR_adm x (zn U) (some (a, nI b)) (nI (zn U + 1)), g3⟩
      · rw [x_admT hx ht c2, zzbd_s]; rfl
      · rw [g1, zzbd_s, q_gdb1]; rfl
    · refine zst_0 hx hm ?_ ?_
      · rw [x_admN hx ht c2, zzbd_s]; rfl
      · rw [m_comeN hm (by omega) (fun z => c2 z.2), zzbd_s, q_gdb0]
  · have e8 : ¬ nI a < (8 : Int32) := fun z => c ((q_lt (b := 8) (by omega) (by omega)).mp z)
    refine zst_0 hx hm ?_ ?_
    · rw [if_neg e8]; rfl
    · rw [m_comeN hm (by omega) (fun z => c z.1), zzbd_s, q_gdb0]
theorem zst_f (hx : zXT x 24 U) (hm : zMT m U) {k a b d : Nat} (hk : k < 51) (ha : a < 10) (hb : b < 10) (hd : d < 10) (h7 : zza m 47 k = 102) (hA : zza m 48 (3 * k) = nI a) (hB : zza m 48 (3 * k + 1) = nI b) (hD : zza m 48 (3 * k + 2) = nI d) : zStep x m (f_X10_perform 24 102 (nI a) (nI b) (nI d) x) (f_X12_comesTold (nI k) m) := by
  have h9 := hx.1.1
  have ht : zztown 24 := Or.inr (Or.inl rfl)
  rw [(m_ct hk h7 hA hB).2.1 rfl, pf_102]
  by_cases c : a < zn U ∧ b < zn U
  · by_cases c2 : a = b
    · refine zst_0 hx hm ?_ ?_
      · have : f_X10_setFond 24 (nI a) (nI b) (nI d) x = some (nI 0, x) := by
          unfold f_X10_setFond; rw [x_two hx c.1 c.2, if_pos c2, zzbd_s]; rfl
        rw [this, zzbd_s, q_gdb0]
      · rw [m_two hm c.1 c.2, if_pos c2, zzbd_s]; rfl
    · have e7 : (7 : Int32) * nI a + nI b = nI (7 * a + b) := by rw [q7, pk_mul, nI_add]
      refine ⟨true, _, _, zto U (7 * a + b) d, ?_, ?_, xs_o hx c.1 c.2 (v := d) (by omega), ms_o hm c.1 c.2 (v := d) (by omega), zFR_a _ _ _ (by omega), zMF_a _ _ _ (by omega)⟩
      · rw [x_setFond hx ht c.1 c.2 c2 (by omega), zzbd_s, q_gdb1]; rfl
      · rw [m_two hm c.1 c.2, if_neg c2, zzbd_s, if_neg (show ¬ nI 1 = 0 by decide), e7, zzgd_t (q_in (by rw [q_len40]; omega) (by rw [q_len40]; omega)), q_cl (by omega), zzlt_eq, q_gdb1, hD]; rfl
  · have hb2 : zbad (zn U) (nI a) ∨ zbad (zn U) (nI b) := by
      by_cases c3 : a < zn U
      · exact Or.inr (q_badn (fun z => c ⟨c3, z⟩) (by omega))
      · exact Or.inl (q_badn c3 (by omega))
    refine zst_0 hx hm ?_ ?_
    · have : f_X10_setFond 24 (nI a) (nI b) (nI d) x = some (nI 0, x) := by
        unfold f_X10_setFond; rw [x_two_bad hx hb2, zzbd_s]; rfl
      rw [this, zzbd_s, q_gdb0]
    · rw [m_two_bad hm hb2, zzbd_s]; rfl
theorem zst_s (hx : zXT x 24 U) (hm : zMT m U) {k a b : Nat} (hk : k < 51) (ha : a < 10) (hb : b < 10) (h7 : zza m 47 k = 115) (hA : zza m 48 (3 * k) = nI a) (hB : zza m 48 (3 * k + 1) = nI b) (v : Int32) : zStep x m (f_X10_perform 24 115 (nI a) (nI b) v x) (f_X12_comesTold (nI k) m) := by
  have h9 := hx.1.1
  have h99 := hx.1.2.2.1
  have ht : zztown 24 := Or.inr (Or.inl rfl)
  rw [(m_ct hk h7 hA hB).2.2.1 rfl, pf_115]
  by_cases c : a < zn U ∧ b < zn U
  · by_cases c2 : a = b
    · refine zst_0 hx hm ?_ ?_
      · rw [x_seeN hx c.1 c.2 (Or.inl c2), zzbd_s, q_gdb0]
      · rw [m_two hm c.1 c.2, if_pos c2, zzbd_s]; rfl
    · by_cases c3 : zd U < 999
      · obtain ⟨x', g1, g2, g3⟩ := x_seeT hx ht c.1 c.2 c2 c3
        have hm6 : zMT (zzsi m 36 6 (nI (zd U + 1))) (ztd U (zd U + 1)) := ms_d hm (by omega)
        obtain ⟨m', g4, g5, g6⟩ := m_growT hm6 (p := a) (q := b) c.1 c.2
        refine ⟨true, x', m', _, ?_, ?_, g2, g5, g3, zMF_tr (zMF_i _ _ (Or.inr (Or.inr rfl))) g6⟩
        · rw [g1, zzbd_s, q_gdb1]; rfl
        · rw [m_two hm c.1 c.2, if_neg c2, zzbd_s, if_neg (show ¬ nI 1 = 0 by decide), q1, m_daysT hm (v := 1) (by omega) (by omega), zzbd_s, if_neg (show ¬ nI 1 = 0 by decide)]
          unfold f_X12_comesTold_170
          rw [if_neg (show ¬ nI 1 = 0 by decide), g4, zzbd_s, q_gdb1]; rfl
      · refine zst_0 hx hm ?_ ?_
        · rw [x_seeN hx c.1 c.2 (Or.inr c3), zzbd_s, q_gdb0]
        · rw [m_two hm c.1 c.2, if_neg c2, zzbd_s, if_neg (show ¬ nI 1 = 0 by decide), q1, m_daysN hm (v := 1) (by omega) (by omega), zzbd_s]; rfl
  · have hb2 : zbad (zn U) (nI a) ∨ zbad (zn U) (nI b) := by
      by_cases c3 : a < zn U
      · exact Or.inr (q_badn (fun z => c ⟨c3, z⟩) (by omega))
      · exact Or.inl (q_badn c3 (by omega))
    refine zst_0 hx hm ?_ ?_
    · have : f_X10_see 24 (nI a) (nI b) x = some (nI 0, x) := by
        unfold f_X10_see; rw [x_two_bad hx hb2, zzbd_s]; rfl
      rw [this, zzbd_s, q_gdb0]
    · rw [m_two_bad hm hb2, zzbd_s]; rfl
theorem zst_t (hx : zXT x 24 U) (hm : zMT m U) {k a b : Nat} (hk : k < 51) (ha : a < 10) (hb : b < 10) (h7 : zza m 47 k = 116) (hA : zza m 48 (3 * k) = nI a) (hB : zza m 48 (3 * k + 1) = nI b) (v : Int32) : zStep x m (f_X10_perform 24 116 (nI a) (nI b) v x) (f_X12_comesTold (nI k) m) := by
  have h9 := hx.1.1
  have ht : zztown 24 := Or.inr (Or.inl rfl)
  rw [(m_ct hk h7 hA hB).2.2.2.1 rfl, pf_116]
  by_cases c : a < zn U ∧ b < zn U
  · by_cases c2 : zmay U (zl U) a b ∧ zt U b < 9 ∧ zd U < 999
    · obtain ⟨x', g1, g2, g3⟩ := x_canT hx ht c.1 c.2 c2.1 c2.2.1 c2.2.2
      obtain ⟨m', g4, g5, g6⟩ := m_canT hm c.1 c.2 c2.1 c2.2.1 c2.2.2
      refine ⟨true, x', m', _, ?_, ?_, g2, g5, g3, g6⟩
      · rw [g1, zzbd_s, q_gdb1]; rfl
      · rw [g4, zzbd_s, q_gdb1]; rfl
    · refine zst_0 hx hm ?_ ?_
      · rw [x_canN hx ht c.1 c.2 c2, zzbd_s, q_gdb0]
      · rw [m_canN hm c.1 c.2 c2, zzbd_s, q_gdb0]
  · have hb2 : zbad (zn U) (nI a) ∨ zbad (zn U) (nI b) := by
      by_cases c3 : a < zn U
      · exact Or.inr (q_badn (fun z => c ⟨c3, z⟩) (by omega))
      · exact Or.inl (q_badn c3 (by omega))
    refine zst_0 hx hm ?_ ?_
    · have : f_X10_turn 24 (nI a) (nI b) x = some (nI 0, x) := by
        unfold f_X10_turn f_X10_may; rw [x_two_bad hx hb2, zzbd_s]; rfl
      rw [this, zzbd_s, q_gdb0]
    · have : f_X12_turning (nI a) (nI b) m = some (nI 0, m) := by
        unfold f_X12_turning; rw [m_two_bad hm hb2, zzbd_s]; rfl
      rw [this, zzbd_s, q_gdb0]
theorem zst_l (hx : zXT x 24 U) (hm : zMT m U) {k a : Nat} (hk : k < 51) (ha : a < 10) (h7 : zza m 47 k = 108) (hA : zza m 48 (3 * k) = nI a) (w v : Int32) : zStep x m (f_X10_perform 24 108 (nI a) w v x) (f_X12_comesTold (nI k) m) := by
  rw [(m_ct hk h7 hA rfl).2.2.2.2.1 rfl, pf_108]
  refine ⟨true, zzsi x 24 5 (nI a), zzsi m 36 5 (nI a), ztl U a, ?_, rfl, xs_l hx (by omega), ms_l hm (by omega), zFR_i _ _ _ (by omega), zMF_i _ _ (Or.inr (Or.inl rfl))⟩
  have : f_X10_setLimit 24 (nI a) x = some (nI 1, zzsi x 24 5 (nI a)) := by
    unfold f_X10_setLimit
    rw [if_neg (q_neg (by omega)), if_neg (fun z => by have := (q_lt (a := 9) (by omega) (by omega)).mp z; omega), zzlt_eq]; rfl
  rw [this, zzbd_s, q_gdb1]; rfl
theorem zst_d (hx : zXT x 24 U) (hm : zMT m U) {k a b : Nat} (hk : k < 51) (ha : a < 10) (hb : b < 10) (h7 : zza m 47 k = 100) (hA : zza m 48 (3 * k) = nI a) (hB : zza m 48 (3 * k + 1) = nI b) (v : Int32) : zStep x m (f_X10_perform 24 100 (nI a) (nI b) v x) (f_X12_comesTold (nI k) m) := by
  have h99 := hx.1.2.2.1
  rw [(m_ct hk h7 hA hB).2.2.2.2.2 rfl, pf_100]
  have e10 : (10 : Int32) * nI a + nI b = nI (10 * a + b) := by rw [q10, pk_mul, nI_add]
  rw [e10]
  have n99 : ¬ (99 : Int32) < nI (10 * a + b) := fun z => by have := (q_lt (a := 99) (by omega) (by omega)).mp z; omega
  by_cases c : 0 < 10 * a + b ∧ zd U + (10 * a + b) ≤ 999
  · refine ⟨true, zzsi x 24 6 (nI (zd U + (10 * a + b))), zzsi m 36 6 (nI (zd U + (10 * a + b))), ztd U (zd U + (10 * a + b)), ?_, ?_, xs_d hx c.2, ms_d hm c.2, zFR_i _ _ _ (by omega), zMF_i _ _ (Or.inr (Or.inr rfl))⟩
    · have : f_X10_pass 24 (nI (10 * a + b)) x = some (nI 1, zzsi x 24 6 (nI (zd U + (10 * a + b)))) := by
        unfold f_X10_pass
        rw [if_neg (fun z => by have := (q_lt (b := 1) (by omega) (by omega)).mp z; omega), if_neg n99, hx.2.2.2.1, nI_add, if_neg (fun z => by have := (q_lt (a := 999) (by omega) (by omega)).mp z; omega), zzlt_eq]; rfl
      rw [this, zzbd_s, q_gdb1]; rfl
    · rw [m_daysT hm c.1 c.2, zzbd_s, q_gdb1]; rfl
  · refine zst_0 hx hm ?_ ?_
    · have : f_X10_pass 24 (nI (10 * a + b)) x = some (nI 0, x) := by
        unfold f_X10_pass
        by_cases c2 : 10 * a + b = 0
        · rw [c2]; rfl
        · rw [if_neg (fun z => by have := (q_lt (b := 1) (by omega) (by omega)).mp z; omega), if_neg n99, hx.2.2.2.1, nI_add, if_pos (show (999 : Int32) < nI (zd U + (10 * a + b)) from (q_lt (a := 999) (by omega) (by omega)).mpr (by omega))]; rfl
      rw [this, zzbd_s, q_gdb0]
    · rw [m_daysN hm (by omega) (by omega), zzbd_s, q_gdb0]
end
