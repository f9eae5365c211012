/-! ===== parts in least terms; the game ===== -/
def zgc : Nat → Int64 → Int64 → Int32 → Option Int64
  | 0, _, _, _ => none
  | n + 1, a, b, i => if i < 100 then (if (lg_cmp b 0) = 0 then some a else if ¬ b = 0 then zgc n b (a - a / b * b) (i + 1) else none) else some a
def zgm : Nat → Int64 → Int64 → Option Int64
  | 0, _, _ => none
  | n + 1, a, b => if (lg_cmp b 0) = 0 then some a else if ¬ b = 0 then zgm n b (a - a / b * b) else none
def zpX (a b : Int64) (part : Int32) : Option Int64 := (zgc 200 a b 0).bind (fun r => if (lg_cmp r 0) = 0 then some (if part = 0 then a else b) else if ¬ r = 0 then some ((if part = 0 then a else b) / r) else none)
def zpM (a b : Int64) (part : Int32) : Option Int64 := if (lg_cmp a 0) = 0 then some part.toInt64 else (zgm 200 a b).bind (fun r => if ¬ r = 0 then some ((if part = 0 then a else b) / r) else none)
theorem x_gcd (x : zzS) : ∀ n a b i, f_X11_commonDivisor_3 n a b i x = (zgc n a b i).map (fun r => (r, x))
  | 0, _, _, _ => rfl
  | n + 1, a, b, i => by
    have ih := x_gcd x n b (a - a / b * b) (i + 1)
    unfold f_X11_commonDivisor_3 f_X11_commonDivisor_3b zgc
    by_cases c : i < 100
    · rw [if_pos c, if_pos c]
      by_cases c2 : (lg_cmp b 0) = 0
      · rw [if_pos c2, if_pos c2]; rfl
      · rw [if_neg c2, if_neg c2]
        by_cases c3 : b = 0
        · rw [if_neg (fun z => z c3)]; unfold zzgd; rw [if_neg (fun z => z c3)]; rfl
        · rw [if_pos c3, zzgd_t c3, zzlt_eq, zzlt_eq, ih]
    · rw [if_neg c, if_neg c]; rfl
theorem m_gcd (m : zzS) (u v : Int64) : ∀ n a b, f_X12_divisor_6 u v n a b m = (zgm n a b).map (fun r => (r, m))
  | 0, _, _ => rfl
  | n + 1, a, b => by
    have ih := m_gcd m u v n b (a - a / b * b)
    unfold f_X12_divisor_6 f_X12_divisor_6b zgm
    by_cases c2 : (lg_cmp b 0) = 0
    · rw [if_pos c2, if_pos c2]; rfl
    · rw [if_neg c2, if_neg c2]
      by_cases c3 : b = 0
      · rw [if_neg (fun z => z c3)]; unfold zzgd; rw [if_neg (fun z => z c3)]; rfl
      · rw [if_pos c3, zzgd_t c3, zzlt_eq, ih]
theorem x_part (x : zzS) (a b : Int64) (part : Int32) : f_X11_partInLeastTerms a b part x = (zpX a b part).map (fun r => (r, x)) := by
  have g : ∀ s : Int64, f_X11_partInLeastTerms_10 a b part s x = ((zgc 200 a b 0).bind (fun r => if (lg_cmp r 0) = 0 then some s else if ¬ r = 0 then some (s / r) else none)).map (fun r => (r, x)) := by
    intro s
    unfold f_X11_partInLeastTerms_10 f_X11_commonDivisor
    rw [x_gcd]
    generalize zgc 200 a b 0 = o
    cases o with
    | none => rfl
    | some r =>
      show (if (lg_cmp r 0) = 0 then some (s, x) else zzgd (¬ r = 0) (some (s / r, x))) = _
      show _ = Option.map (fun r => (r, x)) (if (lg_cmp r 0) = 0 then some s else if ¬ r = 0 then some (s / r) else none)
      by_cases c2 : (lg_cmp r 0) = 0
      · rw [if_pos c2, if_pos c2]; rfl
      · rw [if_neg c2, if_neg c2]
        by_cases c3 : r = 0
        · rw [if_neg (fun z => z c3)]; unfold zzgd; rw [if_neg (fun z => z c3)]; rfl
        · rw [if_pos c3, zzgd_t c3]; rfl
  unfold f_X11_partInLeastTerms zpX
  by_cases c : part = 0
  · rw [if_pos c, if_pos c, g]
  · rw [if_neg c, if_neg c, g]
theorem m_part (m : zzS) (a b : Int64) (part : Int32) : f_X12_partOf a b part m = (zpM a b part).map (fun r => (r, m)) := by
  unfold f_X12_partOf zpM
  by_cases c : (lg_cmp a 0) = 0
  · rw [if_pos c, if_pos c]; rfl
  · rw [if_neg c, if_neg c]
    unfold f_X12_divisor
    rw [m_gcd]
    generalize zgm 200 a b = o
    cases o with
    | none => rfl
    | some r =>
      by_cases c2 : part = 0
      · show (if part = 0 then zzgd (¬ r = 0) (some (a / r, m)) else zzgd (¬ r = 0) (some (b / r, m))) = Option.map (fun r => (r, m)) (if ¬ r = 0 then some ((if part = 0 then a else b) / r) else none)
        rw [if_pos c2, if_pos c2]
        by_cases c3 : r = 0
        · rw [if_neg (fun z => z c3)]; unfold zzgd; rw [if_neg (fun z => z c3)]; rfl
        · rw [if_pos c3, zzgd_t c3]; rfl
      · show (if part = 0 then zzgd (¬ r = 0) (some (a / r, m)) else zzgd (¬ r = 0) (some (b / r, m))) = Option.map (fun r => (r, m)) (if ¬ r = 0 then some ((if part = 0 then a else b) / r) else none)
        rw [if_neg c2, if_neg c2]
        by_cases c3 : r = 0
        · rw [if_neg (fun z => z c3)]; unfold zzgd; rw [if_neg (fun z => z c3)]; rfl
        · rw [if_pos c3, zzgd_t c3]; rfl
theorem q_drawn : ∀ t < 5, ∀ l < 9, ∀ part < 2, zpX (nI (min (t + 1) (l + 1))).toInt64 (nI (l + 1)).toInt64 (nI part) = zpM (nI (min (t + 1) (l + 1))).toInt64 (nI (l + 1)).toInt64 (nI part) ∧ (zpM (nI (min (t + 1) (l + 1))).toInt64 (nI (l + 1)).toInt64 (nI part)).isSome = true := by decide +kernel
theorem s_drawn (p q w : Int32) : zSim (f_X11_drawn p q w) (f_X12_drawn p q w) := by
  refine zSim_rd (fun x m T hx hm hs hi => ?_)
  have h7 := hx.1.1
  have hm1 : zMT (zzsi m 36 13 (nI 0)) T := hm
  have ht : zztown 20 := Or.inl rfl
  rcases q_twoT hx hm1 p q with ⟨i, j, hi, hj, hn, rfl, rfl, a1, a2⟩ | ⟨a1, a2, -⟩
  · rcases q_cls w 2 (by omega) with ⟨u, hu, rfl⟩ | hw
    · have hk := hx.1.2.2.2.1 i hi
      have hg := q_turns T i hk.1 hk.2
      have ho := hx.1.2.2.2.2.1 j (by omega)
      by_cases c : 9 - zt T j = 0
      · refine ⟨(nI u).toInt64, ?_, ?_⟩
        · simp (disch := omega) only [f_X11_drawn, a1, x_12 hu, x_turnedOf hx ht hj, c, q_sub, q_e1_0, zzbd_s, zzlt_eq, zzon_n, zzon_s, q0, q1, q2, q3, q4, q5, q6, q7, q8, q9, q10, q11, q12, q20, q48, q49, q57, q59, q99, q100, q999, nI_add, pk_mul, q_lt0, q_lt, q_eq, q_cl, q_gd, if_true, if_false, q_ofNat, q_min, q_max, ite_self, Nat.not_lt_zero, q_e10, q_e01, eq_self, not_true_eq_false, not_false_eq_true, and_true, true_and, and_false, false_and, or_true, true_or, or_false, false_or, q_gdT, Nat.reduceEqDiff, Bool.false_eq_true, Nat.lt_irrefl, Nat.or_zero]
        · have z : zpM (nI (min (ztu T i) (9 - zt T j))).toInt64 (nI (9 - zt T j)).toInt64 (nI u) = some (nI u).toInt64 := by
            rw [c, Nat.min_eq_right (by omega)]; rfl
          simp (disch := omega) only [f_X12_drawn, a2, m_in1 hu, hm1.2.2.2.2.2.1, q_len39, m_turnsv hm1 hi, m_lesser, q_sub, m_part, z, Option.map_some, q_e1_0, zzbd_s, zzlt_eq, zzon_n, zzon_s, q0, q1, q2, q3, q4, q5, q6, q7, q8, q9, q10, q11, q12, q20, q48, q49, q57, q59, q99, q100, q999, nI_add, pk_mul, q_lt0, q_lt, q_eq, q_cl, q_gd, if_true, if_false, q_ofNat, q_min, q_max, ite_self, Nat.not_lt_zero, q_e10, q_e01, eq_self, not_true_eq_false, not_false_eq_true, and_true, true_and, and_false, false_and, or_true, true_or, or_false, false_or, q_gdT, Nat.reduceEqDiff, Bool.false_eq_true, Nat.lt_irrefl, Nat.or_zero]
      · have z := q_drawn (ztu T i - 1) (by omega) (9 - zt T j - 1) (by omega) u hu
        rw [show ztu T i - 1 + 1 = ztu T i by omega, show 9 - zt T j - 1 + 1 = 9 - zt T j by omega] at z
        obtain ⟨r, hr⟩ := Option.isSome_iff_exists.mp z.2
        have z1 := z.1
        rw [hr] at z1
        refine ⟨r, ?_, ?_⟩
        · simp (disch := omega) only [f_X11_drawn, a1, x_12 hu, x_turnedOf hx ht hj, c, q_sub, x_at hx ht hi, hg.1, x_part, z1, Option.map_some, q_e1_0, zzbd_s, zzlt_eq, zzon_n, zzon_s, q0, q1, q2, q3, q4, q5, q6, q7, q8, q9, q10, q11, q12, q20, q48, q49, q57, q59, q99, q100, q999, nI_add, pk_mul, q_lt0, q_lt, q_eq, q_cl, q_gd, if_true, if_false, q_ofNat, q_min, q_max, ite_self, Nat.not_lt_zero, q_e10, q_e01, eq_self, not_true_eq_false, not_false_eq_true, and_true, true_and, and_false, false_and, or_true, true_or, or_false, false_or, q_gdT, Nat.reduceEqDiff, Bool.false_eq_true, Nat.lt_irrefl, Nat.or_zero]
        · simp (disch := omega) only [f_X12_drawn, a2, m_in1 hu, hm1.2.2.2.2.2.1, q_len39, m_turnsv hm1 hi, m_lesser, q_sub, m_part, hr, Option.map_some, q_e1_0, zzbd_s, zzlt_eq, zzon_n, zzon_s, q0, q1, q2, q3, q4, q5, q6, q7, q8, q9, q10, q11, q12, q20, q48, q49, q57, q59, q99, q100, q999, nI_add, pk_mul, q_lt0, q_lt, q_eq, q_cl, q_gd, if_true, if_false, q_ofNat, q_min, q_max, ite_self, Nat.not_lt_zero, q_e10, q_e01, eq_self, not_true_eq_false, not_false_eq_true, and_true, true_and, and_false, false_and, or_true, true_or, or_false, false_or, q_gdT, Nat.reduceEqDiff, Bool.false_eq_true, Nat.lt_irrefl, Nat.or_zero]
    · exact ⟨1000000001, by simp (disch := omega) only [f_X11_drawn, a1, x_12_bad hw, q_e1_0, zzbd_s, zzlt_eq, zzon_n, zzon_s, q0, q1, q2, q3, q4, q5, q6, q7, q8, q9, q10, q11, q12, q20, q48, q49, q57, q59, q99, q100, q999, nI_add, pk_mul, q_lt0, q_lt, q_eq, q_cl, q_gd, if_true, if_false, q_ofNat, q_min, q_max, ite_self, Nat.not_lt_zero, q_e10, q_e01, eq_self, not_true_eq_false, not_false_eq_true, and_true, true_and, and_false, false_and, or_true, true_or, or_false, false_or, q_gdT, Nat.reduceEqDiff, Bool.false_eq_true, Nat.lt_irrefl, Nat.or_zero], by simp (disch := omega) only [f_X12_drawn, a2, m_in1_bad hw, q_e1_0, zzbd_s, zzlt_eq, zzon_n, zzon_s, q0, q1, q2, q3, q4, q5, q6, q7, q8, q9, q10, q11, q12, q20, q48, q49, q57, q59, q99, q100, q999, nI_add, pk_mul, q_lt0, q_lt, q_eq, q_cl, q_gd, if_true, if_false, q_ofNat, q_min, q_max, ite_self, Nat.not_lt_zero, q_e10, q_e01, eq_self, not_true_eq_false, not_false_eq_true, and_true, true_and, and_false, false_and, or_true, true_or, or_false, false_or, q_gdT, Nat.reduceEqDiff, Bool.false_eq_true, Nat.lt_irrefl, Nat.or_zero]⟩
  · exact ⟨1000000001, by simp (disch := omega) only [f_X11_drawn, a1, zzbd_s, zzlt_eq, zzon_n, zzon_s, q0, q1, q2, q3, q4, q5, q6, q7, q8, q9, q10, q11, q12, q20, q48, q49, q57, q59, q99, q100, q999, nI_add, pk_mul, q_lt0, q_lt, q_eq, q_cl, q_gd, if_true, if_false, q_ofNat, q_min, q_max, ite_self, Nat.not_lt_zero, q_e10, q_e01, eq_self, not_true_eq_false, not_false_eq_true, and_true, true_and, and_false, false_and, or_true, true_or, or_false, false_or, q_gdT, Nat.reduceEqDiff, Bool.false_eq_true, Nat.lt_irrefl, Nat.or_zero], by simp (disch := omega) only [f_X12_drawn, a2, zzbd_s, zzlt_eq, zzon_n, zzon_s, q0, q1, q2, q3, q4, q5, q6, q7, q8, q9, q10, q11, q12, q20, q48, q49, q57, q59, q99, q100, q999, nI_add, pk_mul, q_lt0, q_lt, q_eq, q_cl, q_gd, if_true, if_false, q_ofNat, q_min, q_max, ite_self, Nat.not_lt_zero, q_e10, q_e01, eq_self, not_true_eq_false, not_false_eq_true, and_true, true_and, and_false, false_and, or_true, true_or, or_false, false_or, q_gdT, Nat.reduceEqDiff, Bool.false_eq_true, Nat.lt_irrefl, Nat.or_zero]⟩
-- waiting
def zpw (b : Int32) (n : Nat) : Int64 := zup (fun _ a => a * b.toInt64) n 0 1
theorem x_pow_l (x : zzS) (b : Int32) {N : Nat} (hN : N < 100) : ∀ d n i a, i + d = N → d < n → f_X11_power_5 b (nI N) n a (nI i) x = some (zup (fun _ a => a * b.toInt64) d i a, x) := by
  intro d
  induction d with
  | zero =>
    intro n i a hi hn
    obtain ⟨n, rfl⟩ : ∃ n', n = n' + 1 := ⟨n - 1, by omega⟩
    have : i = N := by omega
    subst this
    simp (disch := omega) only [f_X11_power_5, f_X11_power_5b, zup_z, zzbd_s, zzlt_eq, zzon_n, zzon_s, q0, q1, q2, q3, q4, q5, q6, q7, q8, q9, q10, q11, q12, q20, q48, q49, q57, q59, q99, q100, q999, nI_add, pk_mul, q_lt0, q_lt, q_eq, q_cl, q_gd, if_true, if_false, q_ofNat, q_min, q_max, ite_self, Nat.not_lt_zero, q_e10, q_e01, eq_self, not_true_eq_false, not_false_eq_true, and_true, true_and, and_false, false_and, or_true, true_or, or_false, false_or, q_gdT, Nat.reduceEqDiff, Bool.false_eq_true, Nat.lt_irrefl, Nat.or_zero]
  | succ d ih =>
    intro n i a hi hn
    obtain ⟨n, rfl⟩ : ∃ n', n = n' + 1 := ⟨n - 1, by omega⟩
    have h1 : i < N := by omega
    simp (disch := omega) only [f_X11_power_5, f_X11_power_5b, h1, zup_s, ih, zzbd_s, zzlt_eq, zzon_n, zzon_s, q0, q1, q2, q3, q4, q5, q6, q7, q8, q9, q10, q11, q12, q20, q48, q49, q57, q59, q99, q100, q999, nI_add, pk_mul, q_lt0, q_lt, q_eq, q_cl, q_gd, if_true, if_false, q_ofNat, q_min, q_max, ite_self, Nat.not_lt_zero, q_e10, q_e01, eq_self, not_true_eq_false, not_false_eq_true, and_true, true_and, and_false, false_and, or_true, true_or, or_false, false_or, q_gdT, Nat.reduceEqDiff, Bool.false_eq_true, Nat.lt_irrefl, Nat.or_zero]
theorem x_pow (x : zzS) (b : Int32) {N : Nat} (hN : N < 100) : f_X11_power b (nI N) x = some (zpw b N, x) := x_pow_l x b hN N 200 0 1 (by omega) (by omega)
def zwt (s : Nat) (_ : Nat) (a : Int64 × Int64) : Int64 × Int64 := (a.1 * (nI 10 - nI s).toInt64, a.2 * 10)
theorem m_await_l (m : zzS) (s : Nat) (part : Int32) {N : Nat} (hN : N < 100) : ∀ d n i a, i + d = N → d < n → f_X12_await_52 (nI s) (nI N) part n a.1 a.2 (nI i) m = (zpM ((zup (zwt s) d i a).2 - (zup (zwt s) d i a).1) (zup (zwt s) d i a).2 part).map (fun r => (r, m)) := by
  intro d
  induction d with
  | zero =>
    intro n i a hi hn
    obtain ⟨n, rfl⟩ : ∃ n', n = n' + 1 := ⟨n - 1, by omega⟩
    have : i = N := by omega
    subst this
    simp (disch := omega) only [f_X12_await_52, f_X12_await_52b, m_part, zup_z, zzbd_s, zzlt_eq, zzon_n, zzon_s, q0, q1, q2, q3, q4, q5, q6, q7, q8, q9, q10, q11, q12, q20, q48, q49, q57, q59, q99, q100, q999, nI_add, pk_mul, q_lt0, q_lt, q_eq, q_cl, q_gd, if_true, if_false, q_ofNat, q_min, q_max, ite_self, Nat.not_lt_zero, q_e10, q_e01, eq_self, not_true_eq_false, not_false_eq_true, and_true, true_and, and_false, false_and, or_true, true_or, or_false, false_or, q_gdT, Nat.reduceEqDiff, Bool.false_eq_true, Nat.lt_irrefl, Nat.or_zero]
    cases zpM (a.2 - a.1) a.2 part <;> rfl
  | succ d ih =>
    intro n i a hi hn
    obtain ⟨n, rfl⟩ : ∃ n', n = n' + 1 := ⟨n - 1, by omega⟩
    have h1 : i < N := by omega
    have e := ih n (i + 1) (zwt s i a) (by omega) (by omega)
    rw [zup_s, ← e]
    simp (disch := omega) only [f_X12_await_52, f_X12_await_52b, h1, zwt, zzbd_s, zzlt_eq, zzon_n, zzon_s, q0, q1, q2, q3, q4, q5, q6, q7, q8, q9, q10, q11, q12, q20, q48, q49, q57, q59, q99, q100, q999, nI_add, pk_mul, q_lt0, q_lt, q_eq, q_cl, q_gd, if_true, if_false, q_ofNat, q_min, q_max, ite_self, Nat.not_lt_zero, q_e10, q_e01, eq_self, not_true_eq_false, not_false_eq_true, and_true, true_and, and_false, false_and, or_true, true_or, or_false, false_or, q_gdT, Nat.reduceEqDiff, Bool.false_eq_true, Nat.lt_irrefl, Nat.or_zero]
theorem q_await : ∀ s < 11, ∀ n < 13, ∀ part < 2, zpX (zpw (nI 10) n - zpw (nI 10 - nI s) n) (zpw (nI 10) n) (nI part) = zpM ((zup (zwt s) n 0 (1, 1)).2 - (zup (zwt s) n 0 (1, 1)).1) (zup (zwt s) n 0 (1, 1)).2 (nI part) ∧ (zpX (zpw (nI 10) n - zpw (nI 10 - nI s) n) (zpw (nI 10) n) (nI part)).isSome = true := by decide +kernel
theorem s_await (s n w : Int32) : zSim (f_X11_await s n w) (f_X12_await s n w) := by
  refine zSim_rd (fun x m T hx hm hs hi => ?_)
  rcases q_cls s 11 (by omega) with ⟨s, hs11, rfl⟩ | hsb
  · have c1 : ¬ 10 < s := by omega
    rcases q_cls n 13 (by omega) with ⟨n, hn13, rfl⟩ | hnb
    · have c2 : ¬ 12 < n := by omega
      rcases q_cls w 2 (by omega) with ⟨u, hu, rfl⟩ | hw
      · have z := q_await s hs11 n hn13 u hu
        obtain ⟨r, hr⟩ := Option.isSome_iff_exists.mp z.2
        have z1 := z.1
        rw [hr] at z1
        refine ⟨r, ?_, ?_⟩
        · have e1 := x_pow x (nI 10) (N := n) (by omega)
          have e2 := x_pow x (nI 10 - nI s) (N := n) (by omega)
          have e3 := x_part x (zpw (nI 10) n - zpw (nI 10 - nI s) n) (zpw (nI 10) n) (nI u)
          rw [hr] at e3
          unfold f_X11_await
          rw [q0, q10, q12, if_neg (q_negn (by omega)), if_neg (by rw [q_lt (by omega) (by omega)]; exact c1), if_neg (q_negn (by omega)), if_neg (by rw [q_lt (by omega) (by omega)]; exact c2), x_12 hu, zzbd_s, if_neg (by decide), e1, zzbd_s, e2, zzbd_s, e3]
          rfl
        · have e1 := m_await_l (zzsi m 36 13 (nI 0)) s (nI u) (N := n) (by omega) n 200 0 (1, 1) (by omega) (by omega)
          rw [← z1] at e1
          unfold f_X12_await
          rw [zzlt_eq, q0, m_in10 hs11, zzbd_s, if_neg (by decide), m_in12 hn13, zzbd_s, if_neg (by decide), m_in1 hu, zzbd_s, if_neg (by decide)]
          exact e1
      · refine ⟨1000000001, ?_, ?_⟩
        · simp (disch := omega) only [f_X11_await, c1, c2, x_12_bad hw, q_e1_0, zzbd_s, zzlt_eq, zzon_n, zzon_s, q0, q1, q2, q3, q4, q5, q6, q7, q8, q9, q10, q11, q12, q20, q48, q49, q57, q59, q99, q100, q999, nI_add, pk_mul, q_lt0, q_lt, q_eq, q_cl, q_gd, if_true, if_false, q_ofNat, q_min, q_max, ite_self, Nat.not_lt_zero, q_e10, q_e01, eq_self, not_true_eq_false, not_false_eq_true, and_true, true_and, and_false, false_and, or_true, true_or, or_false, false_or, q_gdT, Nat.reduceEqDiff, Bool.false_eq_true, Nat.lt_irrefl, Nat.or_zero]
        · simp (disch := omega) only [f_X12_await, m_in10 hs11, m_in12 hn13, m_in1_bad hw, q_e1_0, zzbd_s, zzlt_eq, zzon_n, zzon_s, q0, q1, q2, q3, q4, q5, q6, q7, q8, q9, q10, q11, q12, q20, q48, q49, q57, q59, q99, q100, q999, nI_add, pk_mul, q_lt0, q_lt, q_eq, q_cl, q_gd, if_true, if_false, q_ofNat, q_min, q_max, ite_self, Nat.not_lt_zero, q_e10, q_e01, eq_self, not_true_eq_false, not_false_eq_true, and_true, true_and, and_false, false_and, or_true, true_or, or_false, false_or, q_gdT, Nat.reduceEqDiff, Bool.false_eq_true, Nat.lt_irrefl, Nat.or_zero]
    · refine ⟨1000000001, ?_, ?_⟩
      · by_cases c : n < nI 0
        · simp (disch := omega) only [f_X11_await, c1, c, zzbd_s, zzlt_eq, zzon_n, zzon_s, q0, q1, q2, q3, q4, q5, q6, q7, q8, q9, q10, q11, q12, q20, q48, q49, q57, q59, q99, q100, q999, nI_add, pk_mul, q_lt0, q_lt, q_eq, q_cl, q_gd, if_true, if_false, q_ofNat, q_min, q_max, ite_self, Nat.not_lt_zero, q_e10, q_e01, eq_self, not_true_eq_false, not_false_eq_true, and_true, true_and, and_false, false_and, or_true, true_or, or_false, false_or, q_gdT, Nat.reduceEqDiff, Bool.false_eq_true, Nat.lt_irrefl, Nat.or_zero]
        · have c2 : nI 12 < n := by
            rw [q_nlt _ (by omega)]; rw [← q0, q_neg0] at c; have := hnb; unfold zbad at this; omega
          simp (disch := omega) only [f_X11_await, c1, c, c2, zzbd_s, zzlt_eq, zzon_n, zzon_s, q0, q1, q2, q3, q4, q5, q6, q7, q8, q9, q10, q11, q12, q20, q48, q49, q57, q59, q99, q100, q999, nI_add, pk_mul, q_lt0, q_lt, q_eq, q_cl, q_gd, if_true, if_false, q_ofNat, q_min, q_max, ite_self, Nat.not_lt_zero, q_e10, q_e01, eq_self, not_true_eq_false, not_false_eq_true, and_true, true_and, and_false, false_and, or_true, true_or, or_false, false_or, q_gdT, Nat.reduceEqDiff, Bool.false_eq_true, Nat.lt_irrefl, Nat.or_zero]
      · simp (disch := omega) only [f_X12_await, m_in10 hs11, m_in12_bad hnb, q_e1_0, zzbd_s, zzlt_eq, zzon_n, zzon_s, q0, q1, q2, q3, q4, q5, q6, q7, q8, q9, q10, q11, q12, q20, q48, q49, q57, q59, q99, q100, q999, nI_add, pk_mul, q_lt0, q_lt, q_eq, q_cl, q_gd, if_true, if_false, q_ofNat, q_min, q_max, ite_self, Nat.not_lt_zero, q_e10, q_e01, eq_self, not_true_eq_false, not_false_eq_true, and_true, true_and, and_false, false_and, or_true, true_or, or_false, false_or, q_gdT, Nat.reduceEqDiff, Bool.false_eq_true, Nat.lt_irrefl, Nat.or_zero]
  · refine ⟨1000000001, ?_, ?_⟩
    · by_cases c : s < nI 0
      · simp (disch := omega) only [f_X11_await, c, zzbd_s, zzlt_eq, zzon_n, zzon_s, q0, q1, q2, q3, q4, q5, q6, q7, q8, q9, q10, q11, q12, q20, q48, q49, q57, q59, q99, q100, q999, nI_add, pk_mul, q_lt0, q_lt, q_eq, q_cl, q_gd, if_true, if_false, q_ofNat, q_min, q_max, ite_self, Nat.not_lt_zero, q_e10, q_e01, eq_self, not_true_eq_false, not_false_eq_true, and_true, true_and, and_false, false_and, or_true, true_or, or_false, false_or, q_gdT, Nat.reduceEqDiff, Bool.false_eq_true, Nat.lt_irrefl, Nat.or_zero]
      · have c2 : nI 10 < s := by
          rw [q_nlt _ (by omega)]; rw [← q0, q_neg0] at c; have := hsb; unfold zbad at this; omega
        simp (disch := omega) only [f_X11_await, c, c2, zzbd_s, zzlt_eq, zzon_n, zzon_s, q0, q1, q2, q3, q4, q5, q6, q7, q8, q9, q10, q11, q12, q20, q48, q49, q57, q59, q99, q100, q999, nI_add, pk_mul, q_lt0, q_lt, q_eq, q_cl, q_gd, if_true, if_false, q_ofNat, q_min, q_max, ite_self, Nat.not_lt_zero, q_e10, q_e01, eq_self, not_true_eq_false, not_false_eq_true, and_true, true_and, and_false, false_and, or_true, true_or, or_false, false_or, q_gdT, Nat.reduceEqDiff, Bool.false_eq_true, Nat.lt_irrefl, Nat.or_zero]
    · simp (disch := omega) only [f_X12_await, m_in10_bad hsb, q_e1_0, zzbd_s, zzlt_eq, zzon_n, zzon_s, q0, q1, q2, q3, q4, q5, q6, q7, q8, q9, q10, q11, q12, q20, q48, q49, q57, q59, q99, q100, q999, nI_add, pk_mul, q_lt0, q_lt, q_eq, q_cl, q_gd, if_true, if_false, q_ofNat, q_min, q_max, ite_self, Nat.not_lt_zero, q_e10, q_e01, eq_self, not_true_eq_false, not_false_eq_true, and_true, true_and, and_false, false_and, or_true, true_or, or_false, false_or, q_gdT, Nat.reduceEqDiff, Bool.false_eq_true, Nat.lt_irrefl, Nat.or_zero]
-- days for half
def zdX (s : Nat) : Nat → Nat → Option Int32
  | 0, _ => none
  | f + 1, l => if 12 < l then some (-4) else if 0 < lg_cmp (2 * zpw (nI 10 - nI s) l) (zpw (nI 10) l) then zdX s f (l + 1) else some (nI l)
def zdM (s : Nat) : Nat → Int64 → Int64 → Nat → Option Int32
  | 0, _, _, _ => none
  | f + 1, a, b, l => if 12 < l then some (-4) else if lg_cmp (2 * (b - a)) b < 0 then zdM s f (a * (nI 10 - nI s).toInt64) (b * 10) (l + 1) else some (nI l)
theorem x_df_l (x : zzS) (s : Nat) : ∀ f l, l < 100 → f ≤ 14 → f_X11_daysFor_14 (nI s) (f + 186) (nI l) x = (zdX s f l).map (fun r => (r, x)) ∨ zdX s f l = none
  | 0, _, _, _ => Or.inr rfl
  | f + 1, l, hl, hf => by
    have e1 := x_pow x (nI 10) (N := l) (by omega)
    have e2 := x_pow x (nI 10 - nI s) (N := l) (by omega)
    show f_X11_daysFor_14b (f_X11_daysFor_14 (nI s) (f + 186)) (nI s) (nI l) x = _ ∨ _
    unfold zdX f_X11_daysFor_14b
    rw [q12, q10]
    by_cases c : 12 < l
    · left
      rw [if_pos ((q_lt (by omega) (by omega)).mpr c), if_pos c]; rfl
    · rw [if_neg (fun z => c ((q_lt (by omega) (by omega)).mp z)), if_neg c, e2, zzbd_s, e1, zzbd_s]
      by_cases c2 : 0 < lg_cmp (2 * zpw (nI 10 - nI s) l) (zpw (nI 10) l)
      · rw [if_pos c2, if_pos c2, zzlt_eq, q1, nI_add]
        exact x_df_l x s f (l + 1) (by omega) (by omega)
      · left
        rw [if_neg c2, if_neg c2]; rfl
theorem m_df_l (m : zzS) (s : Nat) : ∀ f a b l, l < 100 → f ≤ 14 → f_X12_daysFor_27 (nI s) (f + 186) a b (nI l) m = (zdM s f a b l).map (fun r => (r, m)) ∨ zdM s f a b l = none
  | 0, _, _, _, _, _ => Or.inr rfl
  | f + 1, a, b, l, hl, hf => by
    show f_X12_daysFor_27b (f_X12_daysFor_27 (nI s) (f + 186)) (nI s) a b (nI l) m = _ ∨ _
    unfold zdM f_X12_daysFor_27b
    rw [q12, q10]
    by_cases c : 12 < l
    · left
      rw [if_pos ((q_lt (by omega) (by omega)).mpr c), if_pos c]; rfl
    · rw [if_neg (fun z => c ((q_lt (by omega) (by omega)).mp z)), if_neg c]
      by_cases c2 : lg_cmp (2 * (b - a)) b < 0
      · rw [if_pos c2, if_pos c2, zzlt_eq, zzlt_eq, zzlt_eq, q1, nI_add]
        exact m_df_l m s f _ _ (l + 1) (by omega) (by omega)
      · left
        rw [if_neg c2, if_neg c2]; rfl
theorem q_df : ∀ s < 11, zdX s 14 0 = zdM s 14 1 1 0 ∧ (zdX s 14 0).isSome = true := by decide +kernel
theorem s_daysFor (s : Int32) : zSim (f_X11_daysFor s) (f_X12_daysFor s) := by
  refine zSim_rd (fun x m T hx hm hs hi => ?_)
  rcases q_cls s 11 (by omega) with ⟨s, hs11, rfl⟩ | hsb
  · have z := q_df s hs11
    obtain ⟨r, hr⟩ := Option.isSome_iff_exists.mp z.2
    have z1 := z.1
    rw [hr] at z1
    have e1 := x_df_l x s 14 0 (by omega) (by omega)
    have e2 := m_df_l (zzsi m 36 13 (nI 0)) s 14 1 1 0 (by omega) (by omega)
    rw [hr] at e1
    rw [← z1] at e2
    have e1 := e1.resolve_right (by intro z; cases z)
    have e2 := e2.resolve_right (by intro z; cases z)
    refine ⟨r, ?_, ?_⟩
    · unfold f_X11_daysFor
      rw [q0, q10, if_neg (q_negn (by omega)), if_neg (by rw [q_lt (by omega) (by omega)]; omega)]
      exact e1
    · unfold f_X12_daysFor
      rw [zzlt_eq, q0, m_in10 hs11, zzbd_s, if_neg (by decide)]
      exact e2
  · refine ⟨-1, ?_, ?_⟩
    · by_cases c : s < nI 0
      · simp (disch := omega) only [f_X11_daysFor, c, zzbd_s, zzlt_eq, zzon_n, zzon_s, q0, q1, q2, q3, q4, q5, q6, q7, q8, q9, q10, q11, q12, q20, q48, q49, q57, q59, q99, q100, q999, nI_add, pk_mul, q_lt0, q_lt, q_eq, q_cl, q_gd, if_true, if_false, q_ofNat, q_min, q_max, ite_self, Nat.not_lt_zero, q_e10, q_e01, eq_self, not_true_eq_false, not_false_eq_true, and_true, true_and, and_false, false_and, or_true, true_or, or_false, false_or, q_gdT, Nat.reduceEqDiff, Bool.false_eq_true, Nat.lt_irrefl, Nat.or_zero]
      · have c2 : nI 10 < s := by
          rw [q_nlt _ (by omega)]; rw [← q0, q_neg0] at c; have := hsb; unfold zbad at this; omega
        simp (disch := omega) only [f_X11_daysFor, c, c2, zzbd_s, zzlt_eq, zzon_n, zzon_s, q0, q1, q2, q3, q4, q5, q6, q7, q8, q9, q10, q11, q12, q20, q48, q49, q57, q59, q99, q100, q999, nI_add, pk_mul, q_lt0, q_lt, q_eq, q_cl, q_gd, if_true, if_false, q_ofNat, q_min, q_max, ite_self, Nat.not_lt_zero, q_e10, q_e01, eq_self, not_true_eq_false, not_false_eq_true, and_true, true_and, and_false, false_and, or_true, true_or, or_false, false_or, q_gdT, Nat.reduceEqDiff, Bool.false_eq_true, Nat.lt_irrefl, Nat.or_zero]
    · simp (disch := omega) only [f_X12_daysFor, m_in10_bad hsb, q_e1_0, zzbd_s, zzlt_eq, zzon_n, zzon_s, q0, q1, q2, q3, q4, q5, q6, q7, q8, q9, q10, q11, q12, q20, q48, q49, q57, q59, q99, q100, q999, nI_add, pk_mul, q_lt0, q_lt, q_eq, q_cl, q_gd, if_true, if_false, q_ofNat, q_min, q_max, ite_self, Nat.not_lt_zero, q_e10, q_e01, eq_self, not_true_eq_false, not_false_eq_true, and_true, true_and, and_false, false_and, or_true, true_or, or_false, false_or, q_gdT, Nat.reduceEqDiff, Bool.false_eq_true, Nat.lt_irrefl, Nat.or_zero]
-- the game: neither turns
theorem q_g00 {g : Nat} (hg : g ≤ 5) : ¬ (nI 3 * nI 0 - nI g * nI 0 + nI 0 < nI 3 * nI 0 - nI g * nI 1 + nI 0) := by
  rcases (show g = 0 ∨ g = 1 ∨ g = 2 ∨ g = 3 ∨ g = 4 ∨ g = 5 by omega) with rfl | rfl | rfl | rfl | rfl | rfl <;> decide +kernel
theorem x_best {x : zzS} {a g : Nat} (ha : a ≤ 1) (hg : g ≤ 5) : f_X11_isBestChoice (nI 0) (nI 0) (nI a) (nI g) x = some (nI 1, x) := by
  unfold f_X11_isBestChoice
  rw [zzlt_eq, q1, q_sub (by omega)]
  by_cases c : nI a < nI (1 - 0)
  · rw [if_pos c]; rfl
  · rw [if_neg c]
    show (if nI 3 * nI 0 - nI g * nI 0 + nI 0 < nI 3 * nI 0 - nI g * nI 1 + nI 0 then some ((0 : Int32), x) else f_X11_isBestChoice_27 (nI 0) (nI 0) (nI a) (nI g) x) = _
    rw [if_neg (q_g00 hg)]; rfl
theorem m_rests {m : zzS} {T : zT} (h : zMT m T) {p q : Nat} (hp : p < zn T) (hq : q < zn T) : f_X12_rests (nI p) (nI q) (nI 0) (nI 0) m = some (nI 1, m) := by
  have hk := h.1.2.2.2.1 p hp
  have hg := q_grows T p hk.1 hk.2
  have c : ¬ (nI 3 * nI 0 - nI (zgr T p) * nI 0 + nI 2 * nI 0 * nI 0 < nI 3 * nI 0 - nI (zgr T p) * nI 1 + nI 2 * nI 1 * nI 0) := by
    have := hg.2
    generalize zgr T p = g at this
    rcases (show g = 0 ∨ g = 1 ∨ g = 2 ∨ g = 3 ∨ g = 4 ∨ g = 5 by omega) with rfl | rfl | rfl | rfl | rfl | rfl <;> decide +kernel
  have w : ∀ u v : Int32, f_X12_wins (nI p) u v m = some (((nI 3 * v) - (nI (zgr T p) * u)) + ((nI 2 * u) * v), m) := by
    intro u v
    unfold f_X12_wins
    rw [m_grows h hp]; rfl
  have e1 : nI 1 - nI 0 = nI 1 := rfl
  unfold f_X12_rests
  rw [q1, zzlt_eq, e1, if_neg (show ¬ nI 1 = 0 by decide), m_mb h hp hq, zzbd_s]
  cases e : zmb T (zl T) p q with
  | false =>
    rfl
  | true =>
    rw [if_pos rfl, if_neg (show ¬ nI 1 = 0 by decide)]
    unfold f_X12_rests_19 f_X12_rests_24
    rw [q1, if_neg (show ¬ nI 1 = 0 by decide), w, zzbd_s, w, zzbd_s, if_neg c]; rfl
theorem s_game (p q : Int32) : zSim (f_X11_game p q) (f_X12_game p q) := by
  refine zSim_rd (fun x m T hx hm hs hi => ?_)
  have h7 := hx.1.1
  have hL := hx.1.2.1
  have hm1 : zMT (zzsi m 36 13 (nI 0)) T := hm
  have ht : zztown 20 := Or.inl rfl
  rcases q_twoT hx hm1 p q with ⟨i, j, hi, hj, hn, rfl, rfl, a1, a2⟩ | ⟨a1, a2, -⟩
  · have hk := hx.1.2.2.2.1 i hi
    have hg := q_grows T i hk.1 hk.2
    have hk2 := hx.1.2.2.2.1 j hj
    have hg2 := q_grows T j hk2.1 hk2.2
    have e94 : ∀ a b : Nat, a ≤ 1 → b ≤ 1 → f_X11_game_63 (nI i) (nI j) (nI a) (nI b) x = some (nI 0, x) := by
      intro a b ha hb
      have c1 : ¬ nI b < nI 0 := q_negn (by omega)
      have c2 : ¬ nI a < nI 0 := q_negn (by omega)
      have b1 := x_best (x := x) ha hg.2
      have b2 := x_best (x := x) hb hg2.2
      have e : f_X11_game_94 (nI i) (nI j) 200 (nI a) (nI b) (nI (zgr T i)) (nI (zgr T j)) (nI 0) x = some (nI 0, x) := by
        show f_X11_game_94b _ (nI i) (nI j) (nI a) (nI b) (nI (zgr T i)) (nI (zgr T j)) (nI 0) x = _
        unfold f_X11_game_94b
        rw [if_neg c2]
        show f_X11_game_103b _ _ (nI i) (nI j) (nI a) (nI b) (nI (zgr T i)) (nI (zgr T j)) (nI 0) (nI 0) x = _
        unfold f_X11_game_103b
        rw [if_neg c1, b1, zzbd_s, if_neg (show ¬ nI 1 = 0 by decide), b2, zzbd_s, if_neg (show ¬ nI 1 = 0 by decide)]; rfl
      unfold f_X11_game_63
      rw [x_at hx ht hi, zzbd_s, zzon_s, hg.1, zzbd_s, x_at hx ht hj, zzbd_s, zzon_s, hg2.1, zzbd_s]
      exact e
    refine ⟨nI 0, ?_, ?_⟩
    · unfold f_X11_game
      rw [a1, zzbd_s, if_neg (show ¬ nI 1 = 0 by decide), hx.2.2.1, x_mb hx ht hi hj (by omega), zzbd_s]
      have e38 : ∀ a : Nat, a ≤ 1 → f_X11_game_38 (nI i) (nI j) (nI a) x = some (nI 0, x) := by
        intro a ha
        unfold f_X11_game_38
        rw [hx.2.2.1, x_mb hx ht hj hi (by omega), zzbd_s]
        cases zmb T (zl T) j i with
        | false => exact e94 a 0 ha (by omega)
        | true => exact e94 a 1 ha (by omega)
      cases zmb T (zl T) i j with
      | false => exact e38 0 (by omega)
      | true => exact e38 1 (by omega)
    · have r1 := m_rests hm1 hi hj
      have r2 := m_rests hm1 hj hi
      unfold f_X12_game
      rw [zzlt_eq, q0, a2, zzbd_s, if_neg (show ¬ nI 1 = nI 0 by decide)]
      show f_X12_game_66 _ (nI i) (nI j) (nI 0) (nI 0) (nI 0) (nI 1) _ = _
      unfold f_X12_game_66
      rw [if_neg (show ¬ nI 1 = 0 by decide), r1, zzbd_s, if_neg (show ¬ nI 1 = 0 by decide), r2, zzbd_s, if_neg (show ¬ nI 1 = 0 by decide)]; rfl
  · exact ⟨-1, by simp (disch := omega) only [f_X11_game, a1, zzbd_s, zzlt_eq, zzon_n, zzon_s, q0, q1, q2, q3, q4, q5, q6, q7, q8, q9, q10, q11, q12, q20, q48, q49, q57, q59, q99, q100, q999, nI_add, pk_mul, q_lt0, q_lt, q_eq, q_cl, q_gd, if_true, if_false, q_ofNat, q_min, q_max, ite_self, Nat.not_lt_zero, q_e10, q_e01, eq_self, not_true_eq_false, not_false_eq_true, and_true, true_and, and_false, false_and, or_true, true_or, or_false, false_or, q_gdT, Nat.reduceEqDiff, Bool.false_eq_true, Nat.lt_irrefl, Nat.or_zero], by simp (disch := omega) only [f_X12_game, a2, zzbd_s, zzlt_eq, zzon_n, zzon_s, q0, q1, q2, q3, q4, q5, q6, q7, q8, q9, q10, q11, q12, q20, q48, q49, q57, q59, q99, q100, q999, nI_add, pk_mul, q_lt0, q_lt, q_eq, q_cl, q_gd, if_true, if_false, q_ofNat, q_min, q_max, ite_self, Nat.not_lt_zero, q_e10, q_e01, eq_self, not_true_eq_false, not_false_eq_true, and_true, true_and, and_false, false_and, or_true, true_or, or_false, false_or, q_gdT, Nat.reduceEqDiff, Bool.false_eq_true, Nat.lt_irrefl, Nat.or_zero]⟩
