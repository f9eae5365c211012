/-! ===== the circle: the class's table of the most ===== -/
theorem zpop_or : ∀ u < 128, ∀ p < 7, zpop (u ||| 2 ^ p) ≤ zpop u + 1 := by decide +kernel
theorem zpop_or1 : ∀ u < 128, ∀ p < 7, u.testBit p = false → zpop (u ||| 2 ^ p) = zpop u + 1 := by decide +kernel
theorem zpop_le : ∀ u < 128, zpop u ≤ 7 := by decide +kernel
/-- the class's table from the row q on: at sets of no more turners than ones ahead of the row -/
abbrev zCb (x : zzS) (F : Nat → Nat) (N K q : Nat) : Prop := ∀ j, q ≤ j → j ≤ N → ∀ u, u < K → (zpop u ≤ j ∨ j = N) → zza x 34 (j * 128 + u) = nI (zM F N (N - j) u)
theorem x_mAt {x : zzS} {q u : Nat} (hq : q ≤ 7) (hu : u < 128) : f_X2_mostAt (nI q) (nI u) x = some (zza x 34 (q * 128 + u), x) := by
  have hl : nI q * nI 128 + nI u = nI (q * 128 + u) := by rw [pk_mul, nI_add]
  unfold f_X2_mostAt
  rw [q128, hl, x_read (by rw [q_len34]; omega) (by rw [q_len34]; omega), zzbd_s]
theorem x_mf_l {x : zzS} {N K q u c : Nat} (hn : zzi x 32 3 = nI N) (h7 : N ≤ 7) (hK : K = 2 ^ N) (hq : q < N) (hu : u < K) (hc : c < 128) {M : Nat → Nat} (hB : ∀ v, M v ≤ 100) (hM : ∀ p, p < N → zza x 34 ((q + 1) * 128 + (u ||| 2 ^ p)) = nI (M (u ||| 2 ^ p))) : ∀ d n i a, i + d = N → d < n → a ≤ 101 → f_X2_mostFrom_26 (nI q) (nI u) n (nI a) (nI (zdf c u)) (nI i) x = some (nI (zup (zMg c u M) d i a), x) := by
  have hK8 : K ≤ 128 := hK ▸ zK_le h7
  intro d
  induction d with
  | zero =>
    intro n i a hi hn2 ha
    obtain ⟨n, rfl⟩ : ∃ n', n = n' + 1 := ⟨n - 1, by omega⟩
    have : i = N := by omega
    subst this
    show f_X2_mostFrom_26b _ (nI q) (nI u) (nI a) (nI (zdf c u)) (nI i) x = _
    unfold f_X2_mostFrom_26b
    rw [hn, if_neg (fun z => Nat.lt_irrefl i ((q_lt (by omega) (by omega)).mp z)), zup_z]
  | succ d ih =>
    intro n i a hi hn2 ha
    obtain ⟨n, rfl⟩ : ∃ n', n = n' + 1 := ⟨n - 1, by omega⟩
    have hi2 : i < N := by omega
    have hm := hM i hi2
    have hv2 : u ||| 2 ^ i < K := by rw [hK]; exact Nat.or_lt_two_pow (hK ▸ hu) (Nat.pow_lt_pow_right (by omega) hi2)
    have e3 : nI u ||| nI (2 ^ i) = nI (u ||| 2 ^ i) := q_or u (2 ^ i)
    have hb := hB (u ||| 2 ^ i)
    rw [zup_s]
    show f_X2_mostFrom_26b (f_X2_mostFrom_26 (nI q) (nI u) n) (nI q) (nI u) (nI a) (nI (zdf c u)) (nI i) x = _
    unfold f_X2_mostFrom_26b
    rw [hn, if_pos ((q_lt (by omega) (by omega)).mpr hi2), q1, q_shl' (by omega)]
    cases e : (zdf c u).testBit i with
    | true =>
      have w1 : zMg c u M i a = max a (1 + M (u ||| 2 ^ i)) := by unfold zMg; rw [if_pos e, Nat.add_comm]
      rw [if_neg (fun z => by have := (q_bit0 (zdf c u) (p := i) (by omega)).mp z; rw [e] at this; cases this), nI_add, e3, x_mAt (by omega) (by omega), zzbd_s, hm, nI_add, q_max (by omega) (by omega), zzlt_eq, w1]
      unfold f_X2_mostFrom_65
      rw [q1, nI_add, zzlt_eq]
      exact ih n (i + 1) _ (by omega) (by omega) (by omega)
    | false =>
      have w1 : zMg c u M i a = a := by unfold zMg; rw [if_neg (by rw [e]; exact Bool.false_ne_true)]
      rw [if_pos ((q_bit00 (zdf c u) (p := i) (by omega)).mpr e), w1]
      unfold f_X2_mostFrom_65
      rw [q1, nI_add, zzlt_eq]
      exact ih n (i + 1) _ (by omega) (by omega) ha
theorem x_mf {x : zzS} {F : Nat → Nat} {N K q u : Nat} (hn : zzi x 32 3 = nI N) (h7 : N ≤ 7) (hK : K = 2 ^ N) (hq : q < N) (hu : u < K) (hF : F q < 128) (h33 : zza x 33 q = nI (F q)) (hp : zpop u ≤ q) (ht : zCb x F N K (q + 1)) : f_X2_mostFrom (nI q) (nI u) x = some (nI (zM F N (N - q) u), x) := by
  have hK8 : K ≤ 128 := hK ▸ zK_le h7
  have hjs : N - q = N - (q + 1) + 1 := by omega
  have hj2 : N - (N - (q + 1) + 1) = q := by omega
  have hMB : ∀ v, zM F N (N - (q + 1)) v ≤ 100 := fun v => by have := (zMW F N (N - (q + 1)) v).1; omega
  have b1 := hMB u
  have g := x_mf_l (c := F q) hn h7 hK hq hu hF hMB (fun p hp2 => ht (q + 1) (Nat.le_refl _) (by omega) _ (by rw [hK]; exact Nat.or_lt_two_pow (hK ▸ hu) (Nat.pow_lt_pow_right (by omega) hp2)) (Or.inl (by have := zpop_or u (by omega) p (by omega); omega))) N 200 0 (zM F N (N - (q + 1)) u) (by omega) (by omega) (by omega)
  unfold f_X2_mostFrom
  rw [q1, nI_add, x_mAt (by omega) (by omega), zzbd_s, x_read (by rw [q_len33]; omega) (by rw [q_len33]; omega), zzbd_s, h33, q_dffn, zzlt_eq, ht (q + 1) (Nat.le_refl _) (by omega) u hu (Or.inl (by omega)), q0, g, hjs, zM_s, hj2]
theorem x_mt_u {F : Nat → Nat} {N K q : Nat} (h7 : N ≤ 7) (hK : K = 2 ^ N) (hq : q < N) (hF : F q < 128) (k45 : Int32 → Int32 → zzS → Option (Int32 × zzS)) : ∀ d n u x, u + d = K → d < n → zzi x 32 3 = nI N → zza x 33 q = nI (F q) → zCb x F N K (q + 1) → (∀ v, v < u → zpop v ≤ q → zza x 34 (q * 128 + v) = nI (zM F N (N - q) v)) → ∃ x', f_X2_mostTold_51 k45 n (nI K) (nI q) (nI u) x = k45 (nI K) (nI q - nI 1) x' ∧ zCF x x' ∧ zzi x' 32 3 = nI N ∧ (∀ j, zza x' 33 j = zza x 33 j) ∧ zCb x' F N K q := by
  have hK8 : K ≤ 128 := hK ▸ zK_le h7
  intro d
  induction d with
  | zero =>
    intro n u x hu hn hp h33 ht hd
    obtain ⟨n, rfl⟩ : ∃ n', n = n' + 1 := ⟨n - 1, by omega⟩
    have : u = K := by omega
    subst this
    refine ⟨x, ?_, zCF_refl x, hp, fun _ => rfl, ?_⟩
    · show f_X2_mostTold_51b _ _ (nI u) (nI q) (nI u) x = _
      unfold f_X2_mostTold_51b
      rw [if_neg (fun z => Nat.lt_irrefl u ((q_lt (by omega) (by omega)).mp z)), q1, q_dn, zzlt_eq]
    · intro j h1 h2 v hv hw
      by_cases c : j = q
      · subst c; exact hd v hv (hw.resolve_right (by omega))
      · exact ht j (by omega) h2 v hv hw
  | succ d ih =>
    intro n u x hu hn hp h33 ht hd
    obtain ⟨n, rfl⟩ : ∃ n', n = n' + 1 := ⟨n - 1, by omega⟩
    have hu2 : u < K := by omega
    have hpl := zpop_le u (by omega)
    have e0 : f_X2_mostTold_51 k45 (n + 1) (nI K) (nI q) (nI u) x = (if nI q < nI (zpop u) then f_X2_mostTold_84 k45 (f_X2_mostTold_51 k45 n) (nI K) (nI q) (nI u) x else zzbd (f_X2_mostFrom (nI q) (nI u) x) (fun r6 σ7 => zzbd (f_X11_write 34 ((nI q * (128 : Int32)) + nI u) r6 σ7) (fun r8 σ9 => f_X2_mostTold_84 k45 (f_X2_mostTold_51 k45 n) (nI K) (nI q) (nI u) σ9))) := by
      show f_X2_mostTold_51b k45 (f_X2_mostTold_51 k45 n) (nI K) (nI q) (nI u) x = _
      unfold f_X2_mostTold_51b
      rw [if_pos ((q_lt (by omega) (by omega)).mpr hu2), x_bc x (by omega), zzbd_s]
    by_cases c : q < zpop u
    · obtain ⟨x', g1, g2⟩ := ih n (u + 1) x (by omega) (by omega) hp h33 ht (by
        intro v hv hw
        by_cases c2 : v = u
        · subst c2; omega
        · exact hd v (by omega) hw)
      refine ⟨x', ?_, g2⟩
      rw [e0, if_pos ((q_lt (by omega) (by omega)).mpr c)]
      unfold f_X2_mostTold_84
      rw [q1, nI_add, zzlt_eq]
      exact g1
    · have hl : nI q * nI 128 + nI u = nI (q * 128 + u) := by rw [pk_mul, nI_add]
      have cf := zCF_a x (q * 128 + u) (nI (zM F N (N - q) u)) (k := 34) (by omega)
      obtain ⟨x', g1, g2, g3, g4, g5⟩ := ih n (u + 1) (zzsa x 34 (q * 128 + u) (nI (zM F N (N - q) u))) (by omega) (by omega) hp h33 (by
        intro j h1 h2 v hv hw
        rw [q_aa, if_neg (by omega)]
        exact ht j h1 h2 v hv hw) (by
        intro v hv hw
        rw [q_aa]
        by_cases c2 : v = u
        · subst c2; rw [if_pos ⟨rfl, rfl⟩]
        · rw [if_neg (by omega)]; exact hd v (by omega) hw)
      refine ⟨x', ?_, zCF_tr cf g2, g3, fun j => (g4 j).trans rfl, g5⟩
      rw [e0, if_neg (fun z => c ((q_lt (by omega) (by omega)).mp z)), x_mf hp h7 hK hq hu2 hF h33 (by omega) ht, zzbd_s, q128, hl, x_write _ (by rw [q_len34]; omega) (by rw [q_len34]; omega), zzbd_s]
      unfold f_X2_mostTold_84
      rw [q1, nI_add, zzlt_eq]
      exact g1
theorem x_mt_q {F : Nat → Nat} {N K : Nat} (h7 : N ≤ 7) (hK : K = 2 ^ N) (hF : ∀ q, q < N → F q < 128) : ∀ e n x, e ≤ N → e < n → zzi x 32 3 = nI N → (∀ q, q < N → zza x 33 q = nI (F q)) → zCb x F N K e → ∃ x', f_X2_mostTold_45 n (nI K) (nI e - nI 1) x = some (nI (zM F N N 0), x') ∧ zCF x x' ∧ zzi x' 32 3 = nI N ∧ (∀ j, zza x' 33 j = zza x 33 j) ∧ zCb x' F N K 0 := by
  have hK8 : K ≤ 128 := hK ▸ zK_le h7
  have hK0 : 0 < K := hK ▸ Nat.pow_pos (by omega)
  intro e
  induction e with
  | zero =>
    intro n x he hn hp h33 ht
    obtain ⟨n, rfl⟩ : ∃ n', n = n' + 1 := ⟨n - 1, by omega⟩
    refine ⟨x, ?_, zCF_refl x, hp, fun _ => rfl, ht⟩
    have g := ht 0 (Nat.le_refl 0) (by omega) 0 hK0 (Or.inl (show zpop 0 ≤ 0 by decide))
    show f_X2_mostTold_45b _ (nI K) (nI 0 - nI 1) x = _
    unfold f_X2_mostTold_45b
    rw [if_pos (show nI 0 - nI 1 < 0 by decide +kernel), q0, x_mAt (by omega) (by omega), zzbd_s, g, Nat.sub_zero]
  | succ e ih =>
    intro n x he hn hp h33 ht
    obtain ⟨n, rfl⟩ : ∃ n', n = n' + 1 := ⟨n - 1, by omega⟩
    have hs : nI (e + 1) - nI 1 = nI e := by rw [q_sub (by omega)]; rfl
    obtain ⟨m1, g1, g2, g3, g3', g3''⟩ := x_mt_u (F := F) (K := K) h7 hK (q := e) (by omega) (hF e (by omega)) (f_X2_mostTold_45 n) K 200 0 x (by omega) (by omega) hp (h33 e (by omega)) ht (fun v hv => absurd hv (Nat.not_lt_zero v))
    obtain ⟨m2, g4, g5, g6, g7, g8⟩ := ih n m1 (by omega) (by omega) g3 (fun q hq => (g3' q).trans (h33 q hq)) g3''
    refine ⟨m2, ?_, zCF_tr g2 g5, g6, fun j => (g7 j).trans (g3' j), g8⟩
    rw [hs, ← g4, ← g1]
    show f_X2_mostTold_45b _ (nI K) (nI e) x = _
    unfold f_X2_mostTold_45b
    rw [if_neg (q_neg (by omega)), q0]
theorem x_mt_0 {x0 : zzS} {N K : Nat} (h7 : N ≤ 7) (hK : K = 2 ^ N) : ∀ d n i x, i + d = K → d < n → zzi x 32 3 = nI N → (∀ v, v < i → zza x 34 (N * 128 + v) = nI 0) → zCF x0 x → (∀ j, zza x 33 j = zza x0 33 j) → ∃ x', f_X2_mostTold_9 n (nI K) (nI i) x = f_X2_mostTold_45 200 (nI K) (nI N - nI 1) x' ∧ zCF x0 x' ∧ zzi x' 32 3 = nI N ∧ (∀ j, zza x' 33 j = zza x0 33 j) ∧ ∀ v, v < K → zza x' 34 (N * 128 + v) = nI 0 := by
  have hK8 : K ≤ 128 := hK ▸ zK_le h7
  intro d
  induction d with
  | zero =>
    intro n i x hi hn hp hv ht h33
    obtain ⟨n, rfl⟩ : ∃ n', n = n' + 1 := ⟨n - 1, by omega⟩
    have : i = K := by omega
    subst this
    refine ⟨x, ?_, ht, hp, h33, hv⟩
    show f_X2_mostTold_9b _ (nI i) (nI i) x = _
    unfold f_X2_mostTold_9b
    rw [if_neg (fun z => Nat.lt_irrefl i ((q_lt (by omega) (by omega)).mp z)), hp, q1, zzlt_eq]
  | succ d ih =>
    intro n i x hi hn hp hv ht h33
    obtain ⟨n, rfl⟩ : ∃ n', n = n' + 1 := ⟨n - 1, by omega⟩
    have hl : nI N * nI 128 + nI i = nI (N * 128 + i) := by rw [pk_mul, nI_add]
    obtain ⟨x', g1, g2, g3⟩ := ih n (i + 1) (zzsa x 34 (N * 128 + i) (nI 0)) (by omega) (by omega) hp (by
      intro v hv2
      rw [q_aa]
      by_cases c : v = i
      · subst c; rw [if_pos ⟨rfl, rfl⟩]
      · rw [if_neg (by omega)]; exact hv v (by omega)) (zCF_tr ht (zCF_a _ _ _ (by omega))) (fun j => (h33 j))
    refine ⟨x', ?_, g2, g3⟩
    rw [← g1]
    show f_X2_mostTold_9b _ (nI K) (nI i) x = _
    unfold f_X2_mostTold_9b
    rw [if_pos ((q_lt (by omega) (by omega)).mpr (by omega)), hp, q128, hl, q0, x_write _ (by rw [q_len34]; omega) (by rw [q_len34]; omega), zzbd_s, q1, nI_add, zzlt_eq]
theorem x_mt {x : zzS} {F : Nat → Nat} {N K : Nat} (h7 : N ≤ 7) (hK : K = 2 ^ N) (hF : ∀ q, q < N → F q < 128) (hp : zzi x 32 3 = nI N) (h33 : ∀ q, q < N → zza x 33 q = nI (F q)) : ∃ x', f_X2_mostTold x = some (nI (zM F N N 0), x') ∧ zCF x x' ∧ zzi x' 32 3 = nI N ∧ (∀ q, q < N → zza x' 33 q = nI (F q)) ∧ zCb x' F N K 0 := by
  have hK8 : K ≤ 128 := hK ▸ zK_le h7
  obtain ⟨x1, g1, g2, g3, g4, g5⟩ := x_mt_0 (x0 := x) h7 hK K 200 0 x (by omega) (by omega) hp (fun v hv => absurd hv (Nat.not_lt_zero v)) (zCF_refl x) (fun _ => rfl)
  obtain ⟨x2, g6, g7, g8, g9, g10⟩ := x_mt_q (F := F) h7 hK hF N 200 x1 (Nat.le_refl _) (by omega) g3 (fun q hq => (g4 q).trans (h33 q hq)) (by
    intro j h1 h2 u hu _
    have : j = N := by omega
    subst this
    rw [Nat.sub_self, zM_0]
    exact g5 u hu)
  refine ⟨x2, ?_, zCF_tr g2 g7, g8, fun q hq => (g9 q).trans ((g4 q).trans (h33 q hq)), g10⟩
  unfold f_X2_mostTold
  rw [hp, q1, q_shl' (by omega), ← hK, zzlt_eq, q0, g1, g6]
