/-! ===== the circle: in how many ways, the class's way forward ===== -/
def zwu (c t p : Nat) (w : Nat → Nat) : Nat → Nat := if (zdf c t).testBit p = true then (fun v => if v = t ||| 2 ^ p then w (t ||| 2 ^ p) + w t else w v) else w
theorem zsm_cg (f g : Nat → Nat) : ∀ d i, (∀ j, i ≤ j → j < i + d → f j = g j) → zsm f d i = zsm g d i
  | 0, _, _ => rfl
  | d + 1, i, h => by rw [zsm_s, zsm_s, h i (by omega) (by omega), zsm_cg f g d (i + 1) (fun j h1 h2 => h j (by omega) (by omega))]
theorem zsm_up (w V : Nat → Nat) (v b : Nat) : ∀ d i, i ≤ v → v < i + d → zsm (fun S => (if S = v then w v + b else w S) * V S) d i = zsm (fun S => w S * V S) d i + b * V v
  | 0, i, h1, h2 => by omega
  | d + 1, i, h1, h2 => by
    rw [zsm_s, zsm_s]
    by_cases c : i = v
    · subst c
      have e := zsm_cg (fun S => (if S = i then w i + b else w S) * V S) (fun S => w S * V S) d (i + 1) (fun j h3 h4 => by
        show (if j = i then w i + b else w j) * V j = w j * V j
        rw [if_neg (by omega)])
      rw [e, if_pos rfl, Nat.add_mul]; omega
    · rw [zsm_up w V v b d (i + 1) (by omega) (by omega), if_neg c]; omega
theorem zbit_gt {t p c : Nat} (hp : p < 32) (h : (zdf c t).testBit p = true) : t < t ||| 2 ^ p ∧ t.testBit p = false := by
  rw [zdf_bit _ _ hp] at h
  have hb : t.testBit p = false := by
    cases e : t.testBit p with
    | false => rfl
    | true => rw [e, Bool.not_true, Bool.and_false] at h; cases h
  refine ⟨?_, hb⟩
  have h1 : t ≤ t ||| 2 ^ p := Nat.left_le_or
  have h2 : t ≠ t ||| 2 ^ p := by
    intro z
    have h3 := congrArg (fun n => n.testBit p) z
    simp only [Nat.testBit_or, Nat.testBit_two_pow_self, Bool.or_true] at h3
    rw [hb] at h3; cases h3
  omega
theorem zwu_t (c t : Nat) : ∀ d i w, i + d ≤ 32 → zup (zwu c t) d i w t = w t
  | 0, _, _, _ => rfl
  | d + 1, i, w, h => by
    rw [zup_s, zwu_t c t d (i + 1) _ (by omega)]
    unfold zwu
    split
    next e => show (if t = t ||| 2 ^ i then _ else _) = _; rw [if_neg (by have := (zbit_gt (by omega) e).1; omega)]
    next => rfl
theorem zwu_sum {c t K d : Nat} (V W1 : Nat → Nat) {N : Nat} (h7 : N ≤ 7) (hK : K = 2 ^ N) (htK : t + 1 + d = K) (hV : ∀ p, p < N → t.testBit p = false → V (t ||| 2 ^ p) = W1 (t ||| 2 ^ p)) : ∀ e i w a, i + e = N → zsm (fun S => zup (zwu c t) e i w S * V S) d (t + 1) + w t * a = zsm (fun S => w S * V S) d (t + 1) + w t * zup (zWg c t W1) e i a
  | 0, _, _, _, _ => rfl
  | e + 1, i, w, a, hi => by
    rw [zup_s, zup_s]
    have ih := fun w' a' => zwu_sum (c := c) (t := t) V W1 h7 hK htK hV e (i + 1) w' a' (by omega)
    cases b : (zdf c t).testBit i with
    | true =>
      obtain ⟨g1, g2⟩ := zbit_gt (by omega) b
      have hv2 : t ||| 2 ^ i < K := by rw [hK]; exact Nat.or_lt_two_pow (by omega) (Nat.pow_lt_pow_right (by omega) (by omega))
      have hw : zwu c t i w = (fun v => if v = t ||| 2 ^ i then w (t ||| 2 ^ i) + w t else w v) := by unfold zwu; rw [if_pos b]
      have hwt : zwu c t i w t = w t := by rw [hw]; show (if t = t ||| 2 ^ i then _ else _) = _; rw [if_neg (by omega)]
      have hg : zWg c t W1 i a = a + W1 (t ||| 2 ^ i) := by unfold zWg; rw [if_pos b]
      have h := ih (zwu c t i w) (a + W1 (t ||| 2 ^ i))
      have hs : zsm (fun S => zwu c t i w S * V S) d (t + 1) = zsm (fun S => w S * V S) d (t + 1) + w t * V (t ||| 2 ^ i) := by
        rw [hw]; exact zsm_up w V (t ||| 2 ^ i) (w t) d (t + 1) (by omega) (by omega)
      rw [hwt, hs, hV i (by omega) g2, Nat.mul_add] at h
      rw [hg]
      omega
    | false =>
      have hw : zwu c t i w = w := by unfold zwu; rw [if_neg (by rw [b]; exact Bool.false_ne_true)]
      have hg : zWg c t W1 i a = a := by unfold zWg; rw [if_neg (by rw [b]; exact Bool.false_ne_true)]
      rw [hw, hg]
      exact ih w a
theorem zpop_full : ∀ N < 8, zpop (2 ^ N - 1) = N := by decide +kernel
theorem zpop_nf : ∀ N < 8, ∀ t < 2 ^ N - 1, zpop t < N := by decide +kernel
theorem x_wy_p {N K t c : Nat} (h7 : N ≤ 7) (hK : K = 2 ^ N) (ht : t < K) (k39 : Int32 → Int32 → zzS → Option (Int32 × zzS)) : ∀ d n i x w, i + d = N → d < n → zzi x 32 3 = nI N → (∀ v, v < K → zza x 35 v = nI (w v)) → ∃ x', f_X2_waysForAll_65 k39 n (nI K) (nI t) (nI (zdf c t)) (nI i) x = k39 (nI K) (nI (t + 1)) x' ∧ zCF x x' ∧ zzi x' 32 3 = nI N ∧ (∀ j, zza x' 33 j = zza x 33 j) ∧ ∀ v, v < K → zza x' 35 v = nI (zup (zwu c t) d i w v) := by
  have hK8 : K ≤ 128 := hK ▸ zK_le h7
  intro d
  induction d with
  | zero =>
    intro n i x w hi hn hp hw
    obtain ⟨n, rfl⟩ : ∃ n', n = n' + 1 := ⟨n - 1, by omega⟩
    have : i = N := by omega
    subst this
    refine ⟨x, ?_, zCF_refl x, hp, fun _ => rfl, hw⟩
    show f_X2_waysForAll_65b k39 _ (nI K) (nI t) (nI (zdf c t)) (nI i) x = _
    unfold f_X2_waysForAll_65b
    rw [hp, if_neg (fun z => Nat.lt_irrefl i ((q_lt (by omega) (by omega)).mp z)), q1, nI_add, zzlt_eq]
  | succ d ih =>
    intro n i x w hi hn hp hw
    obtain ⟨n, rfl⟩ : ∃ n', n = n' + 1 := ⟨n - 1, by omega⟩
    have hi2 : i < N := by omega
    have hv2 : t ||| 2 ^ i < K := by rw [hK]; exact Nat.or_lt_two_pow (hK ▸ ht) (Nat.pow_lt_pow_right (by omega) hi2)
    have e3 : nI t ||| nI (2 ^ i) = nI (t ||| 2 ^ i) := q_or t (2 ^ i)
    have e0 : f_X2_waysForAll_65 k39 (n + 1) (nI K) (nI t) (nI (zdf c t)) (nI i) x = f_X2_waysForAll_65b k39 (f_X2_waysForAll_65 k39 n) (nI K) (nI t) (nI (zdf c t)) (nI i) x := rfl
    rw [e0]
    unfold f_X2_waysForAll_65b
    rw [hp, if_pos ((q_lt (by omega) (by omega)).mpr hi2), q1, q_shl' (by omega), zup_s]
    cases e : (zdf c t).testBit i with
    | true =>
      have w1 : zwu c t i w = (fun v => if v = t ||| 2 ^ i then w (t ||| 2 ^ i) + w t else w v) := by unfold zwu; rw [if_pos e]
      have cf := zCF_a x (t ||| 2 ^ i) (nI (w (t ||| 2 ^ i) + w t)) (k := 35) (by omega)
      obtain ⟨x', g1, g2, g3, g4, g5⟩ := ih n (i + 1) (zzsa x 35 (t ||| 2 ^ i) (nI (w (t ||| 2 ^ i) + w t))) (zwu c t i w) (by omega) (by omega) hp (by
        intro v hv
        rw [q_aa, w1]
        show _ = nI (if v = t ||| 2 ^ i then _ else _)
        by_cases c2 : v = t ||| 2 ^ i
        · rw [if_pos ⟨rfl, c2⟩, if_pos c2]
        · rw [if_neg (fun z => c2 z.2), if_neg c2]; exact hw v hv)
      refine ⟨x', ?_, zCF_tr cf g2, g3, fun j => (g4 j).trans rfl, g5⟩
      rw [if_neg (fun z => by have := (q_bit0 (zdf c t) (p := i) (by omega)).mp z; rw [e] at this; cases this), e3, zzlt_eq, x_read (by rw [q_len35]; omega) (by rw [q_len35]; omega), zzbd_s, x_read (by rw [q_len35]; omega) (by rw [q_len35]; omega), zzbd_s, hw _ hv2, hw t ht, nI_add, x_write _ (by rw [q_len35]; omega) (by rw [q_len35]; omega), zzbd_s]
      unfold f_X2_waysForAll_118
      rw [q1, nI_add, zzlt_eq]
      exact g1
    | false =>
      have w1 : zwu c t i w = w := by unfold zwu; rw [if_neg (by rw [e]; exact Bool.false_ne_true)]
      obtain ⟨x', g1, g2⟩ := ih n (i + 1) x w (by omega) (by omega) hp hw
      refine ⟨x', ?_, by rw [w1]; exact g2⟩
      rw [if_pos ((q_bit00 (zdf c t) (p := i) (by omega)).mpr e)]
      unfold f_X2_waysForAll_118
      rw [q1, nI_add, zzlt_eq]
      exact g1
theorem x_wy_o {F : Nat → Nat} {N K : Nat} (h7 : N ≤ 7) (hK : K = 2 ^ N) (R : Nat) : ∀ d n t (x : zzS) (w : Nat → Nat), t + d + 1 = K → d < n → zzi x 32 3 = nI N → (∀ q, q < N → zza x 33 q = nI (F q)) → (∀ v, v < K → zza x 35 v = nI (w v)) → zsm (fun S => w S * zW F N (N - zpop S) S) (d + 1) t = R → ∃ x', f_X2_waysForAll_39 n (nI K) (nI t) x = some (nI R, x') ∧ zCF x x' := by
  have hK8 : K ≤ 128 := hK ▸ zK_le h7
  intro d
  induction d with
  | zero =>
    intro n t x w hi hn hp h33 hw hR
    obtain ⟨n, rfl⟩ : ∃ n', n = n' + 1 := ⟨n - 1, by omega⟩
    have : t = K - 1 := by omega
    subst this
    refine ⟨x, ?_, zCF_refl x⟩
    have hf : zpop (K - 1) = N := by rw [hK]; exact zpop_full N (by omega)
    rw [zsm_s, zsm_z, hf, Nat.sub_self, zW_0, Nat.mul_one, Nat.add_zero] at hR
    show f_X2_waysForAll_39b _ (nI K) (nI (K - 1)) x = _
    unfold f_X2_waysForAll_39b
    rw [q1, q_sub (by omega), if_neg (fun z => Nat.lt_irrefl (K - 1) ((q_lt (by omega) (by omega)).mp z)), x_read (by rw [q_len35]; omega) (by rw [q_len35]; omega), zzbd_s, hw _ (by omega), hR]
  | succ d ih =>
    intro n t x w hi hn hp h33 hw hR
    obtain ⟨n, rfl⟩ : ∃ n', n = n' + 1 := ⟨n - 1, by omega⟩
    have hnf : zpop t < N := zpop_nf N (by omega) t (by omega)
    have hpl := zpop_le t (by omega)
    obtain ⟨x1, g1, g2, g3, g4, g5⟩ := x_wy_p (c := F (zpop t)) h7 hK (t := t) (by omega) (f_X2_waysForAll_39 n) N 200 0 x w (by omega) (by omega) hp hw
    have hj : N - zpop t = (N - zpop t - 1) + 1 := by omega
    have hj2 : N - (N - zpop t - 1 + 1) = zpop t := by omega
    have hVt : zW F N (N - zpop t) t = zup (zWg (F (zpop t)) t (zW F N (N - zpop t - 1))) N 0 0 := by rw [hj, zW_s, hj2]; rfl
    have hs := zwu_sum (c := F (zpop t)) (t := t) (d := d + 1) (fun S => zW F N (N - zpop S) S) (zW F N (N - zpop t - 1)) h7 hK (by omega) (fun p hp2 hb => by
      show zW F N (N - zpop (t ||| 2 ^ p)) (t ||| 2 ^ p) = _
      rw [zpop_or1 t (by omega) p (by omega) hb, Nat.sub_add_eq]) N 0 w 0 (by omega)
    obtain ⟨x2, g6, g7⟩ := ih n (t + 1) x1 (zup (zwu (F (zpop t)) t) N 0 w) (by omega) (by omega) g3 (fun q hq => (g4 q).trans (h33 q hq)) g5 (by
      rw [zsm_s, hVt] at hR
      rw [Nat.mul_zero, Nat.add_zero] at hs
      rw [hs, ← hR, Nat.add_comm])
    refine ⟨x2, ?_, zCF_tr g2 g7⟩
    rw [← g6, ← g1]
    show f_X2_waysForAll_39b (f_X2_waysForAll_39 n) (nI K) (nI t) x = _
    unfold f_X2_waysForAll_39b
    rw [q1, q_sub (by omega), if_pos ((q_lt (by omega) (by omega)).mpr (by omega)), x_bc x (by omega), zzbd_s, x_read (by rw [q_len33]; omega) (by rw [q_len33]; omega), zzbd_s, h33 _ hnf, q_dffn, zzlt_eq, q0]
theorem x_wy_0 {x0 : zzS} {N K : Nat} (h7 : N ≤ 7) (hK : K = 2 ^ N) : ∀ d n i x, i + d = K → d < n → zzi x 32 3 = nI N → (∀ v, v < i → zza x 35 v = nI (if v = 0 then 0 + 1 else 0)) → zCF x0 x → (∀ j, zza x 33 j = zza x0 33 j) → ∃ x', f_X2_waysForAll_9 n (nI K) (nI i) x = f_X2_waysForAll_39 200 (nI K) (nI 0) x' ∧ zCF x0 x' ∧ zzi x' 32 3 = nI N ∧ (∀ j, zza x' 33 j = zza x0 33 j) ∧ ∀ v, v < K → zza x' 35 v = nI (if v = 0 then 0 + 1 else 0) := by
  have hK8 : K ≤ 128 := hK ▸ zK_le h7
  intro d
  induction d with
  | zero =>
    intro n i x hi hn hp hv ht h33
    obtain ⟨n, rfl⟩ : ∃ n', n = n' + 1 := ⟨n - 1, by omega⟩
    have : i = K := by omega
    subst this
    refine ⟨x, ?_, ht, hp, h33, hv⟩
    show f_X2_waysForAll_9b _ (nI i) (nI i) x = _
    unfold f_X2_waysForAll_9b
    rw [if_neg (fun z => Nat.lt_irrefl i ((q_lt (by omega) (by omega)).mp z)), q0]
  | succ d ih =>
    intro n i x hi hn hp hv ht h33
    obtain ⟨n, rfl⟩ : ∃ n', n = n' + 1 := ⟨n - 1, by omega⟩
    obtain ⟨x', g1, g2, g3⟩ := ih n (i + 1) (zzsa x 35 i (nI (if i = 0 then 0 + 1 else 0))) (by omega) (by omega) hp (by
      intro v hv2
      rw [q_aa]
      by_cases c : v = i
      · subst c; rw [if_pos ⟨rfl, rfl⟩]
      · rw [if_neg (fun z => c z.2)]; exact hv v (by omega)) (zCF_tr ht (zCF_a _ _ _ (by omega))) (fun j => (h33 j))
    refine ⟨x', ?_, g2, g3⟩
    rw [← g1]
    show f_X2_waysForAll_9b _ (nI K) (nI i) x = _
    unfold f_X2_waysForAll_9b
    rw [if_pos ((q_lt (by omega) (by omega)).mpr (by omega))]
    by_cases c : i = 0
    · rw [if_pos (show nI i = 0 by rw [c]; rfl), if_pos c]
      unfold f_X2_waysForAll_28
      rw [q1, x_write _ (by rw [q_len35]; omega) (by rw [q_len35]; omega), zzbd_s, nI_add, zzlt_eq]
    · rw [if_neg (q_ne0 (by omega) c), if_neg c]
      unfold f_X2_waysForAll_28
      rw [q1, q0, x_write _ (by rw [q_len35]; omega) (by rw [q_len35]; omega), zzbd_s, nI_add, zzlt_eq]
theorem x_wy {x : zzS} {F : Nat → Nat} {N : Nat} (h7 : N ≤ 7) (hp : zzi x 32 3 = nI N) (h33 : ∀ q, q < N → zza x 33 q = nI (F q)) : ∃ x', f_X2_waysForAll x = some (nI (zW F N N 0), x') ∧ zCF x x' := by
  obtain ⟨K, hK⟩ : ∃ K, K = 2 ^ N := ⟨_, rfl⟩
  have hK8 : K ≤ 128 := hK ▸ zK_le h7
  have hK0 : 0 < K := hK ▸ Nat.pow_pos (by omega)
  obtain ⟨x1, g1, g2, g3, g4, g5⟩ := x_wy_0 (x0 := x) h7 hK K 200 0 x (by omega) (by omega) hp (fun v hv => absurd hv (Nat.not_lt_zero v)) (zCF_refl x) (fun _ => rfl)
  have hp0 : zpop 0 = 0 := by decide
  have hs := zsm_up (fun _ => 0) (fun S => zW F N (N - zpop S) S) 0 1 K 0 (Nat.le_refl 0) (by omega)
  have hz : zsm (fun S => (fun _ : Nat => 0) S * (fun S => zW F N (N - zpop S) S) S) K 0 = 0 := by
    refine (zsm_cg _ (fun _ => 0) K 0 (fun j _ _ => Nat.zero_mul _)).trans (zsm_0 K 0)
  rw [hz, Nat.zero_add, Nat.one_mul] at hs
  obtain ⟨x2, g6, g7⟩ := x_wy_o (F := F) h7 hK (zW F N N 0) (K - 1) 200 0 x1 (fun v => if v = 0 then 0 + 1 else 0) (by omega) (by omega) g3 (fun q hq => (g4 q).trans (h33 q hq)) g5 (by
    rw [show K - 1 + 1 = K by omega]
    refine hs.trans ?_
    show 0 + zW F N (N - zpop 0) 0 = _
    rw [hp0, Nat.sub_zero, Nat.zero_add])
  refine ⟨x2, ?_, zCF_tr g2 g7⟩
  unfold f_X2_waysForAll
  rw [hp, q1, q_shl' (by omega), ← hK, zzlt_eq, q0, g1, g6]
theorem s_rings : zSim f_X11_rings f_X12_rings := by
  refine zSim_T (fun x m T hx hm hs hi => ?_)
  have h7 := hx.1.1
  have hL := hx.1.2.1
  have hm1 : zMT (zzsi m 36 13 (nI 0)) T := hm
  obtain ⟨x1, a1, a2, a3, a4⟩ := x_gather hx (L := zl T) (by omega)
  obtain ⟨x2, b1, b2⟩ := x_wy (F := zfit T (zl T)) h7 a2 a3
  obtain ⟨m2, c1, c2, c3⟩ := m_lay hm1
  refine ⟨nI (zW (zfit T (zl T)) (zn T) (zn T) 0), x2, m2, T, ?_, ?_, zXT_cf (Or.inl rfl) (zXT_cf (Or.inl rfl) hx a4) b2, zMT_tf hm1 c2, zPX_tr (zPX_cf a4) (zPX_cf b2), zPM_tr (zPM_13 m _) (zPM_tf c2)⟩
  · unfold f_X11_rings
    rw [hx.2.2.1, a1, zzbd_s, b1, zzbd_s]
  · have g := (c3 0 (Nat.le_refl 0) (by omega) 0 (Nat.pow_pos (by omega))).2
    unfold f_X12_rings
    rw [zzlt_eq]
    have c1' : f_X12_layTold (zzsi m 36 13 0) = some (nI (zM (zfit T (zl T)) (zn T) (zn T) 0), m2) := c1
    rw [c1', zzbd_s, zzgd_t (show zzin (0 : Int32) (zzlen 52) from q_in (i := 0) (by rw [q_len52]; omega) (by rw [q_len52]; omega))]
    exact congrArg (fun z => some (z, m2)) g
