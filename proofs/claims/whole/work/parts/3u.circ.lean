/-! ===== the circle: how many, in how many ways ===== -/
def zMg (c u : Nat) (M : Nat → Nat) (p a : Nat) : Nat := if (zdf c u).testBit p = true then max a (M (u ||| 2 ^ p) + 1) else a
def zWg (c u : Nat) (W : Nat → Nat) (p a : Nat) : Nat := if (zdf c u).testBit p = true then a + W (u ||| 2 ^ p) else a
/-- of the last j ones, these turners being taken: the most told; in how many ways all are -/
def zM (F : Nat → Nat) (N : Nat) : Nat → Nat → Nat
  | 0, _ => 0
  | j + 1, u => zup (zMg (F (N - (j + 1))) u (zM F N j)) N 0 (zM F N j u)
def zW (F : Nat → Nat) (N : Nat) : Nat → Nat → Nat
  | 0, _ => 1
  | j + 1, u => zup (zWg (F (N - (j + 1))) u (zW F N j)) N 0 0
theorem zM_0 (F : Nat → Nat) (N u : Nat) : zM F N 0 u = 0 := rfl
theorem zW_0 (F : Nat → Nat) (N u : Nat) : zW F N 0 u = 1 := rfl
theorem zM_s (F : Nat → Nat) (N j u : Nat) : zM F N (j + 1) u = zup (zMg (F (N - (j + 1))) u (zM F N j)) N 0 (zM F N j u) := rfl
theorem zW_s (F : Nat → Nat) (N j u : Nat) : zW F N (j + 1) u = zup (zWg (F (N - (j + 1))) u (zW F N j)) N 0 0 := rfl
theorem zMW_up (c u j : Nat) (M W : Nat → Nat) (h : ∀ v, M v ≤ j ∧ (M v = j ↔ 0 < W v)) : ∀ d i a w, a ≤ j + 1 → (a = j + 1 ↔ 0 < w) → zup (zMg c u M) d i a ≤ j + 1 ∧ (zup (zMg c u M) d i a = j + 1 ↔ 0 < zup (zWg c u W) d i w)
  | 0, _, _, _, h1, h2 => ⟨h1, h2⟩
  | d + 1, i, a, w, h1, h2 => by
    rw [zup_s, zup_s]
    refine zMW_up c u j M W h d (i + 1) _ _ ?_ ?_
    · unfold zMg
      split
      · have := (h (u ||| 2 ^ i)).1; omega
      · exact h1
    · unfold zMg zWg
      split
      · have h3 := h (u ||| 2 ^ i)
        generalize M (u ||| 2 ^ i) = a1 at h3 ⊢
        generalize W (u ||| 2 ^ i) = b1 at h3 ⊢
        have h4 := h3.2
        constructor
        · intro z
          by_cases c1 : a = j + 1
          · have := h2.mp c1; omega
          · have := h4.mp (by omega); omega
        · intro z
          by_cases c1 : 0 < w
          · have := h2.mpr c1; omega
          · have := h4.mpr (by omega); omega
      · exact h2
theorem zMW (F : Nat → Nat) (N : Nat) : ∀ j u, zM F N j u ≤ j ∧ (zM F N j u = j ↔ 0 < zW F N j u)
  | 0, u => ⟨Nat.le_refl 0, ⟨fun _ => Nat.one_pos, fun _ => rfl⟩⟩
  | j + 1, u => by
    rw [zM_s, zW_s]
    have h1 := (zMW F N j u).1
    exact zMW_up _ u j _ _ (zMW F N j) N 0 _ _ (by omega) ⟨fun z => by omega, fun z => absurd z (Nat.lt_irrefl 0)⟩
theorem zWu_le (c u B : Nat) (W : Nat → Nat) (h : ∀ v, W v ≤ B) : ∀ d i w, zup (zWg c u W) d i w ≤ w + B * d
  | 0, _, _ => by rw [zup_z]; omega
  | d + 1, i, w => by
    have h1 := zWu_le c u B W h d (i + 1) (zWg c u W i w)
    have h2 : zWg c u W i w ≤ w + B := by
      unfold zWg
      split
      · have := h (u ||| 2 ^ i); omega
      · omega
    rw [zup_s, Nat.mul_succ]; omega
theorem zW_le (F : Nat → Nat) (N : Nat) : ∀ j u, zW F N j u ≤ N ^ j
  | 0, u => Nat.le_refl 1
  | j + 1, u => by
    have := zWu_le (F (N - (j + 1))) u (N ^ j) (zW F N j) (zW_le F N j) N 0 0
    rw [zW_s, Nat.pow_succ]; omega
theorem zW_lt (F : Nat → Nat) {N : Nat} (h : N ≤ 7) (u : Nat) : zW F N N u < 1000000 := by
  have h1 := zW_le F N N u
  have h2 : N ^ N ≤ 7 ^ 7 := Nat.le_trans (Nat.pow_le_pow_left h N) (Nat.pow_le_pow_right (by omega) h)
  have h3 : (7 : Nat) ^ 7 = 823543 := by decide
  omega
theorem zdf_lt {c u : Nat} (h : c < 128) : zdf c u < 128 := Nat.lt_of_le_of_lt Nat.and_le_left h
theorem q_dffn (a b : Nat) : nI a &&& (nI b ^^^ -nI 1) = nI (zdf a b) := q_dff a b
theorem q_bit00 (c : Nat) {p : Nat} (hp : p < 31) : (nI c &&& nI (2 ^ p) = (0 : Int32)) ↔ c.testBit p = false := q_bit0 c hp
theorem q_ne0 {a : Nat} (ha : a < 2147483648) (h : ¬ a = 0) : ¬ nI a = (0 : Int32) := fun z => h ((q_eq (b := 0) ha (by omega)).mp z)
theorem q_ne9 {a : Nat} (ha : a < 2147483648) (h : ¬ a = 9) : ¬ nI a = (9 : Int32) := fun z => h ((q_eq (b := 9) ha (by omega)).mp z)
theorem zK_le {N : Nat} (h : N ≤ 7) : 2 ^ N ≤ 128 := Nat.pow_le_pow_right (n := 2) (by omega) h
/-- of the reference the tables alone -/
abbrev zTF (m m' : zzS) : Prop := (∀ k f, zzi m' k f = zzi m k f) ∧ (∀ k f, ¬ (51 ≤ k ∧ k < 53) → zza m' k f = zza m k f) ∧ (∀ k f, zzr m' k f = zzr m k f) ∧ (∀ k f, zzl m' k f = zzl m k f) ∧ ∀ f, zzq m' f = zzq m f
theorem zTF_refl (x : zzS) : zTF x x := ⟨fun _ _ => rfl, fun _ _ _ => rfl, fun _ _ => rfl, fun _ _ => rfl, fun _ => rfl⟩
theorem zTF_tr {x y z : zzS} (h : zTF x y) (g : zTF y z) : zTF x z :=
  ⟨fun k f => (g.1 k f).trans (h.1 k f), fun k f c => (g.2.1 k f c).trans (h.2.1 k f c), fun k f => (g.2.2.1 k f).trans (h.2.2.1 k f), fun k f => (g.2.2.2.1 k f).trans (h.2.2.2.1 k f), fun f => (g.2.2.2.2 f).trans (h.2.2.2.2 f)⟩
theorem zTF_a {k : Nat} (x : zzS) (f : Nat) (v : Int32) (h : 51 ≤ k ∧ k < 53) : zTF x (zzsa x k f v) :=
  ⟨fun _ _ => rfl, fun k' f' c => (q_aa ..).trans (if_neg (fun z : k' = k ∧ f' = f => c (z.1.symm ▸ h))), fun _ _ => rfl, fun _ _ => rfl, fun _ => rfl⟩
theorem zMT_tf {m m' : zzS} {T : zT} (h : zMT m T) (g : zTF m m') : zMT m' T := by
  refine ⟨h.1, ?_, ?_, ?_, ?_, ?_, ?_⟩
  · rw [g.1]; exact h.2.1
  · rw [g.1]; exact h.2.2.1
  · rw [g.1]; exact h.2.2.2.1
  · intro p hp; rw [g.2.1 _ _ (by omega), g.2.1 _ _ (by omega)]; exact h.2.2.2.2.1 p hp
  · intro p hp; rw [g.2.1 _ _ (by omega)]; exact h.2.2.2.2.2.1 p hp
  · intro p hp; rw [g.2.1 _ _ (by omega)]; exact h.2.2.2.2.2.2 p hp
theorem zPM_tf {m m' : zzS} (g : zTF m m') : zPM m m' := ⟨g.1 _ _, fun k f c => g.2.1 k f (by omega), fun f => g.2.2.2.1 53 f⟩
theorem m_lt_p {m : zzS} {N K q u c : Nat} (hn : zzi m 36 0 = nI N) (h7 : N ≤ 7) (hK : K = 2 ^ N) (hq : q < N) (hu : u < K) (hc : c < 128) {M W : Nat → Nat} (hM : ∀ v, v < K → zza m 51 (128 * q + 128 + v) = nI (M v)) (hB : ∀ v, M v ≤ 100) (hW : ∀ v, v < K → zza m 52 (128 * q + 128 + v) = nI (W v)) (k54 : Int32 → zzS → Option (Int32 × zzS)) (k66 : Int32 → Int32 → Int32 → zzS → Option (Int32 × zzS)) : ∀ d n i a w, i + d = N → d < n → a ≤ 101 → f_X12_layTold_100 k54 k66 n (nI q) (nI c) (nI u) (nI a) (nI w) (nI i) m = k66 (nI q) (nI c) (nI (u + 1)) (zzsa (zzsa m 51 (128 * q + u) (nI (zup (zMg c u M) d i a))) 52 (128 * q + u) (nI (zup (zWg c u W) d i w))) := by
  have hK8 : K ≤ 128 := hK ▸ zK_le h7
  have hz := zdf_lt (u := u) hc
  intro d
  induction d with
  | zero =>
    intro n i a w hi hn2 ha
    obtain ⟨n, rfl⟩ : ∃ n', n = n' + 1 := ⟨n - 1, by omega⟩
    have : i = N := by omega
    subst this
    simp (disch := omega) only [f_X12_layTold_100, f_X12_layTold_100b, hn, q_len51, q_len52, q128, zup_z, zzbd_s, zzlt_eq, zzon_n, zzon_s, q0, q1, q2, q3, q4, q5, q6, q7, q8, q9, q10, q11, q12, q20, q48, q49, q57, q59, q99, q100, q999, nI_add, pk_mul, q_lt0, q_lt, q_eq, q_cl, q_gd, if_true, if_false, q_ofNat, q_min, q_max, ite_self, Nat.not_lt_zero, q_e10, q_e01, eq_self, not_true_eq_false, not_false_eq_true, and_true, true_and, and_false, false_and, or_true, true_or, or_false, false_or, q_gdT, Nat.reduceEqDiff, Bool.false_eq_true, Nat.lt_irrefl, Nat.or_zero]
  | succ d ih =>
    intro n i a w hi hn2 ha
    obtain ⟨n, rfl⟩ : ∃ n', n = n' + 1 := ⟨n - 1, by omega⟩
    have hi2 : i < N := by omega
    obtain ⟨v, hv⟩ : ∃ v, v = u ||| 2 ^ i := ⟨_, rfl⟩
    have hv2 : v < K := by rw [hv, hK]; exact Nat.or_lt_two_pow (hK ▸ hu) (Nat.pow_lt_pow_right (by omega) hi2)
    have e3 : nI u ||| nI (2 ^ i) = nI v := by rw [q_or, hv]
    have hb := hB v
    rw [zup_s, zup_s]
    cases e : (zdf c u).testBit i with
    | true =>
      have w1 : zMg c u M i a = max a (M v + 1) := by unfold zMg; rw [if_pos e, ← hv]
      have w2 : zWg c u W i w = w + W v := by unfold zWg; rw [if_pos e, ← hv]
      have g := ih n (i + 1) (max a (M v + 1)) (w + W v) (by omega) (by omega) (by omega)
      rw [w1, w2, ← g]
      simp (disch := omega) only [f_X12_layTold_100, f_X12_layTold_100b, f_X12_layTold_168, hn, hi2, q_len51, q_len52, q128, q_dffn, m_hb, e, zbn_t, q_e1_0, q_shl', e3, hM v hv2, hW v hv2, m_greater, zzbd_s, zzlt_eq, zzon_n, zzon_s, q0, q1, q2, q3, q4, q5, q6, q7, q8, q9, q10, q11, q12, q20, q48, q49, q57, q59, q99, q100, q999, nI_add, pk_mul, q_lt0, q_lt, q_eq, q_cl, q_gd, if_true, if_false, q_ofNat, q_min, q_max, ite_self, Nat.not_lt_zero, q_e10, q_e01, eq_self, not_true_eq_false, not_false_eq_true, and_true, true_and, and_false, false_and, or_true, true_or, or_false, false_or, q_gdT, Nat.reduceEqDiff, Bool.false_eq_true, Nat.lt_irrefl, Nat.or_zero]
    | false =>
      have w1 : zMg c u M i a = a := by unfold zMg; rw [if_neg (by rw [e]; exact Bool.false_ne_true)]
      have w2 : zWg c u W i w = w := by unfold zWg; rw [if_neg (by rw [e]; exact Bool.false_ne_true)]
      have g := ih n (i + 1) a w (by omega) (by omega) ha
      rw [w1, w2, ← g]
      simp (disch := omega) only [f_X12_layTold_100, f_X12_layTold_100b, f_X12_layTold_168, hn, hi2, q_dffn, m_hb, e, zbn_f, zzbd_s, zzlt_eq, zzon_n, zzon_s, q0, q1, q2, q3, q4, q5, q6, q7, q8, q9, q10, q11, q12, q20, q48, q49, q57, q59, q99, q100, q999, nI_add, pk_mul, q_lt0, q_lt, q_eq, q_cl, q_gd, if_true, if_false, q_ofNat, q_min, q_max, ite_self, Nat.not_lt_zero, q_e10, q_e01, eq_self, not_true_eq_false, not_false_eq_true, and_true, true_and, and_false, false_and, or_true, true_or, or_false, false_or, q_gdT, Nat.reduceEqDiff, Bool.false_eq_true, Nat.lt_irrefl, Nat.or_zero]
/-- the tables from the row q on -/
abbrev zTb (m : zzS) (F : Nat → Nat) (N K q : Nat) : Prop := ∀ j, q ≤ j → j ≤ N → ∀ u, u < K → zza m 51 (128 * j + u) = nI (zM F N (N - j) u) ∧ zza m 52 (128 * j + u) = nI (zW F N (N - j) u)
theorem m_lt_u {F : Nat → Nat} {N K q : Nat} (h7 : N ≤ 7) (hK : K = 2 ^ N) (hq : q < N) (hF : F q < 128) (k54 : Int32 → zzS → Option (Int32 × zzS)) : ∀ d n u m, u + d = K → d < n → zzi m 36 0 = nI N → zTb m F N K (q + 1) → (∀ v, v < u → zza m 51 (128 * q + v) = nI (zM F N (N - q) v) ∧ zza m 52 (128 * q + v) = nI (zW F N (N - q) v)) → ∃ m', f_X12_layTold_66 k54 n (nI q) (nI (F q)) (nI u) m = k54 (nI q - nI 1) m' ∧ zTF m m' ∧ zTb m' F N K q := by
  have hK8 : K ≤ 128 := hK ▸ zK_le h7
  intro d
  induction d with
  | zero =>
    intro n u m hu hn hp ht hd
    obtain ⟨n, rfl⟩ : ∃ n', n = n' + 1 := ⟨n - 1, by omega⟩
    have : u = K := by omega
    subst this
    have hsh : nI 1 <<< (nI N &&& 31) = nI u := by rw [q_shl' (by omega), ← hK]
    refine ⟨m, ?_, zTF_refl m, ?_⟩
    · simp (disch := omega) only [f_X12_layTold_66, f_X12_layTold_66b, hp, hsh, q_dn, zzbd_s, zzlt_eq, zzon_n, zzon_s, q0, q1, q2, q3, q4, q5, q6, q7, q8, q9, q10, q11, q12, q20, q48, q49, q57, q59, q99, q100, q999, nI_add, pk_mul, q_lt0, q_lt, q_eq, q_cl, q_gd, if_true, if_false, q_ofNat, q_min, q_max, ite_self, Nat.not_lt_zero, q_e10, q_e01, eq_self, not_true_eq_false, not_false_eq_true, and_true, true_and, and_false, false_and, or_true, true_or, or_false, false_or, q_gdT, Nat.reduceEqDiff, Bool.false_eq_true, Nat.lt_irrefl, Nat.or_zero]
    · intro j h1 h2 v hv
      by_cases c : j = q
      · subst c; exact hd v hv
      · exact ht j (by omega) h2 v hv
  | succ d ih =>
    intro n u m hu hn hp ht hd
    obtain ⟨n, rfl⟩ : ∃ n', n = n' + 1 := ⟨n - 1, by omega⟩
    have hu2 : u < K := by omega
    have hsh : nI 1 <<< (nI N &&& 31) = nI K := by rw [q_shl' (by omega), ← hK]
    have hrow := fun v hv => ht (q + 1) (Nat.le_refl _) (by omega) v hv
    have hjs : N - q = N - (q + 1) + 1 := by omega
    have hj2 : N - (N - (q + 1) + 1) = q := by omega
    have hM : ∀ v, v < K → zza m 51 (128 * q + 128 + v) = nI (zM F N (N - (q + 1)) v) := fun v hv => by
      have := (hrow v hv).1; rw [show 128 * (q + 1) + v = 128 * q + 128 + v by omega] at this; exact this
    have hW : ∀ v, v < K → zza m 52 (128 * q + 128 + v) = nI (zW F N (N - (q + 1)) v) := fun v hv => by
      have := (hrow v hv).2; rw [show 128 * (q + 1) + v = 128 * q + 128 + v by omega] at this; exact this
    have hMB : ∀ v, zM F N (N - (q + 1)) v ≤ 100 := fun v => by have := (zMW F N (N - (q + 1)) v).1; omega
    have b1 := hMB u
    have g := m_lt_p hp h7 hK hq hu2 hF hM hMB hW k54 (f_X12_layTold_66 k54 n) N 200 0 (zM F N (N - (q + 1)) u) 0 (by omega) (by omega) (by omega)
    have s1 : zup (zMg (F q) u (zM F N (N - (q + 1)))) N 0 (zM F N (N - (q + 1)) u) = zM F N (N - q) u := by rw [hjs, zM_s, hj2]
    have s2 : zup (zWg (F q) u (zW F N (N - (q + 1)))) N 0 0 = zW F N (N - q) u := by rw [hjs, zW_s, hj2]
    rw [s1, s2] at g
    have tf : zTF m (zzsa (zzsa m 51 (128 * q + u) (nI (zM F N (N - q) u))) 52 (128 * q + u) (nI (zW F N (N - q) u))) := zTF_tr (zTF_a _ _ _ (by omega)) (zTF_a _ _ _ (by omega))
    obtain ⟨m', e1, e2, e3⟩ := ih n (u + 1) _ (by omega) (by omega) (by rw [tf.1]; exact hp) (by
      intro j h1 h2 v hv
      rw [q_aa, if_neg (by omega), q_aa, if_neg (by omega), q_aa, if_neg (by omega), q_aa, if_neg (by omega)]
      exact ht j h1 h2 v hv) (by
      intro v hv
      rw [q_aa, if_neg (by omega), q_aa, q_aa, q_aa]
      by_cases c : v = u
      · subst c
        rw [if_pos (by omega), if_pos (by omega)]; exact ⟨rfl, rfl⟩
      · rw [if_neg (by omega), if_neg (by omega), if_neg (by omega)]
        exact hd v (by omega))
    refine ⟨m', ?_, zTF_tr tf e2, e3⟩
    rw [← e1, ← g]
    have hl : nI 128 * nI q + nI 128 + nI u = nI (128 * q + 128 + u) := by rw [pk_mul, nI_add, nI_add]
    show f_X12_layTold_66b k54 (f_X12_layTold_66 k54 n) (nI q) (nI (F q)) (nI u) m = _
    unfold f_X12_layTold_66b
    rw [hp, q1, hsh, if_pos ((q_lt (by omega) (by omega)).mpr hu2), q128, hl, zzgd_t (by rw [q_len51]; exact q_in (by omega) (by omega)), zzlt_eq, q_cl (by omega), hM u hu2, q0]
theorem m_lt_q {T : zT} : ∀ e n m, zMT m T → e ≤ zn T → e < n → zTb m (zfit T (zl T)) (zn T) (2 ^ zn T) e → ∃ m', f_X12_layTold_54 n (nI e - nI 1) m = some (nI (zM (zfit T (zl T)) (zn T) (zn T) 0), m') ∧ zTF m m' ∧ zTb m' (zfit T (zl T)) (zn T) (2 ^ zn T) 0 := by
  intro e
  induction e with
  | zero =>
    intro n m h he hn ht
    obtain ⟨n, rfl⟩ : ∃ n', n = n' + 1 := ⟨n - 1, by omega⟩
    refine ⟨m, ?_, zTF_refl m, ht⟩
    have g := (ht 0 (Nat.le_refl 0) (by omega) 0 (Nat.pow_pos (by omega))).1
    show f_X12_layTold_54b _ (nI 0 - nI 1) m = _
    unfold f_X12_layTold_54b
    rw [if_pos (show nI 0 - nI 1 < 0 by decide +kernel), zzgd_t (show zzin (0 : Int32) (zzlen 51) from q_in (i := 0) (by rw [q_len51]; omega) (by rw [q_len51]; omega))]
    exact congrArg (fun v => some (v, m)) g
  | succ e ih =>
    intro n m h he hn ht
    have h7 := h.1.1
    have hf := zfit_lt h.1 (zl T) e
    obtain ⟨n, rfl⟩ : ∃ n', n = n' + 1 := ⟨n - 1, by omega⟩
    have hs : nI (e + 1) - nI 1 = nI e := by rw [q_sub (by omega)]; rfl
    obtain ⟨m1, g1, g2, g3⟩ := m_lt_u (F := zfit T (zl T)) (K := 2 ^ zn T) h7 rfl (q := e) (by omega) hf (f_X12_layTold_54 n) (2 ^ zn T) 200 0 m (by omega) (by have := zK_le h7; omega) h.2.1 ht (fun v hv => absurd hv (Nat.not_lt_zero v))
    obtain ⟨m2, g4, g5, g6⟩ := ih n m1 (zMT_tf h g2) (by omega) (by omega) g3
    refine ⟨m2, ?_, zTF_tr g2 g5, g6⟩
    rw [hs, ← g4, ← g1]
    show f_X12_layTold_54b _ (nI e) m = _
    unfold f_X12_layTold_54b
    rw [if_neg (q_neg (by omega)), m_fit h (by omega), zzbd_s, q0]
theorem m_lt_0 {m0 : zzS} {N : Nat} (h7 : N ≤ 7) : ∀ d n i m, i + d = 128 → d < n → zzi m 36 0 = nI N → (∀ v, v < i → zza m 51 (128 * N + v) = nI 0 ∧ zza m 52 (128 * N + v) = nI 1) → zTF m0 m → ∃ m', f_X12_layTold_2 n (nI i) m = f_X12_layTold_54 200 (nI N - nI 1) m' ∧ zTF m0 m' ∧ ∀ v, v < 128 → zza m' 51 (128 * N + v) = nI 0 ∧ zza m' 52 (128 * N + v) = nI 1 := by
  intro d
  induction d with
  | zero =>
    intro n i m hi hn hp hv ht
    obtain ⟨n, rfl⟩ : ∃ n', n = n' + 1 := ⟨n - 1, by omega⟩
    have : i = 128 := by omega
    subst this
    refine ⟨m, ?_, ht, hv⟩
    show f_X12_layTold_2b _ (nI 128) m = _
    unfold f_X12_layTold_2b
    rw [q128, if_neg (show ¬ nI 128 < nI 128 by decide), hp, q1, zzlt_eq]
  | succ d ih =>
    intro n i m hi hn hp hv ht
    obtain ⟨n, rfl⟩ : ∃ n', n = n' + 1 := ⟨n - 1, by omega⟩
    obtain ⟨m', g1, g2, g3⟩ := ih n (i + 1) (zzsa (zzsa m 51 (128 * N + i) (nI 0)) 52 (128 * N + i) (nI 1)) (by omega) (by omega) hp (by
      intro v hv2
      rw [q_aa, if_neg (by omega), q_aa, q_aa, q_aa]
      by_cases c : v = i
      · subst c
        rw [if_pos (by omega), if_pos (by omega)]; exact ⟨rfl, rfl⟩
      · rw [if_neg (by omega), if_neg (by omega), if_neg (by omega)]
        exact hv v (by omega)) (zTF_tr ht (zTF_tr (zTF_a _ _ _ (by omega)) (zTF_a _ _ _ (by omega))))
    refine ⟨m', ?_, g2, g3⟩
    rw [← g1]
    have hi3 : i < 128 := by omega
    have hp2 : zzi (zzsa m 51 (128 * N + i) (nI 0)) 36 0 = nI N := hp
    simp (disch := omega) only [f_X12_layTold_2, f_X12_layTold_2b, hp, hp2, hi3, q_len51, q_len52, q128, zzbd_s, zzlt_eq, zzon_n, zzon_s, q0, q1, q2, q3, q4, q5, q6, q7, q8, q9, q10, q11, q12, q20, q48, q49, q57, q59, q99, q100, q999, nI_add, pk_mul, q_lt0, q_lt, q_eq, q_cl, q_gd, if_true, if_false, q_ofNat, q_min, q_max, ite_self, Nat.not_lt_zero, q_e10, q_e01, eq_self, not_true_eq_false, not_false_eq_true, and_true, true_and, and_false, false_and, or_true, true_or, or_false, false_or, q_gdT, Nat.reduceEqDiff, Bool.false_eq_true, Nat.lt_irrefl, Nat.or_zero]
theorem m_lay {m : zzS} {T : zT} (h : zMT m T) : ∃ m', f_X12_layTold m = some (nI (zM (zfit T (zl T)) (zn T) (zn T) 0), m') ∧ zTF m m' ∧ zTb m' (zfit T (zl T)) (zn T) (2 ^ zn T) 0 := by
  have h7 := h.1.1
  obtain ⟨m1, g1, g2, g3⟩ := m_lt_0 (m0 := m) h7 128 200 0 m (by omega) (by omega) h.2.1 (fun v hv => absurd hv (Nat.not_lt_zero v)) (zTF_refl m)
  obtain ⟨m2, g4, g5, g6⟩ := m_lt_q (zn T) 200 m1 (zMT_tf h g2) (Nat.le_refl _) (by omega) (by
    intro j h1 h2 u hu
    have : j = zn T := by omega
    subst this
    have := zK_le h7
    rw [Nat.sub_self, zM_0, zW_0]
    exact g3 u (by omega))
  refine ⟨m2, ?_, zTF_tr g2 g5, g6⟩
  unfold f_X12_layTold
  rw [q0, g1, g4]
