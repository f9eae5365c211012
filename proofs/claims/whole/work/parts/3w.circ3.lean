/-! ===== the circle: who turns ===== -/
def zfb (b : Nat → Bool) : Nat → Nat → Nat
  | 0, _ => 9
  | d + 1, i => if b i = true then i else zfb b d (i + 1)
theorem zfb_z (b : Nat → Bool) (i : Nat) : zfb b 0 i = 9 := rfl
theorem zfb_s (b : Nat → Bool) (d i : Nat) : zfb b (d + 1) i = if b i = true then i else zfb b d (i + 1) := rfl
theorem zfb_le (b : Nat → Bool) : ∀ d i, zfb b d i = 9 ∨ zfb b d i < i + d
  | 0, _ => Or.inl rfl
  | d + 1, i => by
    rw [zfb_s]
    split
    · exact Or.inr (by omega)
    · have := zfb_le b d (i + 1); omega
def zok2 (F : Nat → Nat) (N q u p : Nat) : Bool := (zdf (F q) u).testBit p && decide (zM F N (N - (q + 1)) (u ||| 2 ^ p) + 1 = zM F N (N - q) u)
def zft (F : Nat → Nat) (N q u : Nat) : Nat := zfb (zok2 F N q u) N 0
def ztk (u t : Nat) : Nat := if t = 9 then u else u ||| 2 ^ t
def zts (F : Nat → Nat) (N q : Nat) (r : Nat × Nat) : Nat × Nat := (ztk r.1 (zft F N q r.1), zft F N q r.1)
theorem zft_le (F : Nat → Nat) (N q u : Nat) : zft F N q u = 9 ∨ zft F N q u < N := by
  have := zfb_le (zok2 F N q u) N 0; unfold zft; omega
theorem ztk_lt {F : Nat → Nat} {N K q u : Nat} (hK : K = 2 ^ N) (hu : u < K) : ztk u (zft F N q u) < K := by
  unfold ztk
  have h := zft_le F N q u
  generalize zft F N q u = t at h ⊢
  split
  · exact hu
  · rw [hK]; exact Nat.or_lt_two_pow (hK ▸ hu) (Nat.pow_lt_pow_right (by omega) (by omega))
theorem ztk_pop {F : Nat → Nat} {N K q u : Nat} (h7 : N ≤ 7) (hu : u < 128) : zpop (ztk u (zft F N q u)) ≤ zpop u + 1 := by
  unfold ztk
  have h := zft_le F N q u
  generalize zft F N q u = t at h ⊢
  split
  · omega
  · exact zpop_or u hu t (by omega)
theorem ztk_or (u t : Nat) (ht : t < 31) (a : Int32) (h : a = if t = 9 then nI 0 else nI (2 ^ t)) : nI u ||| a = nI (ztk u t) := by
  rw [h]; unfold ztk
  by_cases c : t = 9
  · rw [if_pos c, if_pos c, q_or, Nat.or_zero]
  · rw [if_neg c, if_neg c, q_or]
theorem x_ft_l {x : zzS} {F : Nat → Nat} {N K q u : Nat} (hn : zzi x 32 3 = nI N) (h7 : N ≤ 7) (hK : K = 2 ^ N) (hq : q < N) (hu : u < K) (hp : zpop u ≤ q) (ht : zCb x F N K 0) : ∀ d n i, i + d = N → d < n → f_X2_firstTurner_16 (nI q) (nI u) n (nI (zdf (F q) u)) (nI i) x = some (nI (zfb (zok2 F N q u) d i), x) := by
  have hK8 : K ≤ 128 := hK ▸ zK_le h7
  intro d
  induction d with
  | zero =>
    intro n i hi hn2
    obtain ⟨n, rfl⟩ : ∃ n', n = n' + 1 := ⟨n - 1, by omega⟩
    have : i = N := by omega
    subst this
    show f_X2_firstTurner_16b _ (nI q) (nI u) (nI (zdf (F q) u)) (nI i) x = _
    unfold f_X2_firstTurner_16b
    rw [hn, if_neg (fun z => Nat.lt_irrefl i ((q_lt (by omega) (by omega)).mp z)), zfb_z, q9]
  | succ d ih =>
    intro n i hi hn2
    obtain ⟨n, rfl⟩ : ∃ n', n = n' + 1 := ⟨n - 1, by omega⟩
    have hi2 : i < N := by omega
    have hv2 : u ||| 2 ^ i < K := by rw [hK]; exact Nat.or_lt_two_pow (hK ▸ hu) (Nat.pow_lt_pow_right (by omega) hi2)
    have hzp := zpop_or u (by omega) i (by omega)
    have e3 : nI u ||| nI (2 ^ i) = nI (u ||| 2 ^ i) := q_or u (2 ^ i)
    have g := ih n (i + 1) (by omega) (by omega)
    have b1 := (zMW F N (N - (q + 1)) (u ||| 2 ^ i)).1
    have b2 := (zMW F N (N - q) u).1
    rw [zfb_s]
    show f_X2_firstTurner_16b (f_X2_firstTurner_16 (nI q) (nI u) n) (nI q) (nI u) (nI (zdf (F q) u)) (nI i) x = _
    unfold f_X2_firstTurner_16b
    rw [hn, if_pos ((q_lt (by omega) (by omega)).mpr hi2), q1, q_shl' (by omega)]
    cases e : (zdf (F q) u).testBit i with
    | true =>
      rw [if_neg (fun z => by have := (q_bit0 (zdf (F q) u) (p := i) (by omega)).mp z; rw [e] at this; cases this), nI_add, e3, x_mAt (by omega) (by omega), zzbd_s, x_mAt (by omega) (by omega), zzbd_s, ht (q + 1) (by omega) (by omega) _ hv2 (Or.inl (by omega)), ht q (by omega) (by omega) u hu (Or.inl hp), nI_add]
      by_cases c : zM F N (N - (q + 1)) (u ||| 2 ^ i) + 1 = zM F N (N - q) u
      · have w : zok2 F N q u i = true := by unfold zok2; rw [e, decide_eq_true c]; rfl
        rw [if_pos ((q_eq (by omega) (by omega)).mpr (by omega)), if_pos w]
      · have w : zok2 F N q u i = false := by unfold zok2; rw [e, decide_eq_false c]; rfl
        rw [if_neg (fun z => c (by have := (q_eq (by omega) (by omega)).mp z; omega)), if_neg (by rw [w]; exact Bool.false_ne_true)]
        unfold f_X2_firstTurner_61
        rw [q1, nI_add, zzlt_eq]
        exact g
    | false =>
      have w : zok2 F N q u i = false := by unfold zok2; rw [e]; rfl
      rw [if_pos ((q_bit00 (zdf (F q) u) (p := i) (by omega)).mpr e), if_neg (by rw [w]; exact Bool.false_ne_true)]
      unfold f_X2_firstTurner_61
      rw [q1, nI_add, zzlt_eq]
      exact g
theorem x_ft {x : zzS} {F : Nat → Nat} {N K q u : Nat} (hn : zzi x 32 3 = nI N) (h7 : N ≤ 7) (hK : K = 2 ^ N) (hq : q < N) (hu : u < K) (hp : zpop u ≤ q) (h33 : zza x 33 q = nI (F q)) (ht : zCb x F N K 0) : f_X2_firstTurner (nI q) (nI u) x = some (nI (zft F N q u), x) := by
  unfold f_X2_firstTurner
  rw [x_read (by rw [q_len33]; omega) (by rw [q_len33]; omega), zzbd_s, h33, q_dff, zzlt_eq, q0, x_ft_l hn h7 hK hq hu hp ht N 200 0 (by omega) (by omega)]
  rfl
theorem x_tu_l {x : zzS} {F : Nat → Nat} {N K k : Nat} (hn : zzi x 32 3 = nI N) (h7 : N ≤ 7) (hK : K = 2 ^ N) (hk : k < N) (h33 : ∀ q, q < N → zza x 33 q = nI (F q)) (ht : zCb x F N K 0) : ∀ d n q r, q + d = k + 1 → d < n → r.1 < K → zpop r.1 ≤ q → f_X2_turnerOf_8 (nI k) n (nI r.1) (nI r.2) (nI q) x = some (nI (zup (zts F N) d q r).2, x) := by
  have hK8 : K ≤ 128 := hK ▸ zK_le h7
  intro d
  induction d with
  | zero =>
    intro n q r hi hn2 hu hp
    obtain ⟨n, rfl⟩ : ∃ n', n = n' + 1 := ⟨n - 1, by omega⟩
    show f_X2_turnerOf_8b _ (nI k) (nI r.1) (nI r.2) (nI q) x = _
    unfold f_X2_turnerOf_8b
    rw [if_pos ((q_lt (by omega) (by omega)).mpr (by omega)), zup_z]
  | succ d ih =>
    intro n q r hi hn2 hu hp
    obtain ⟨n, rfl⟩ : ∃ n', n = n' + 1 := ⟨n - 1, by omega⟩
    have hq : q < N := by omega
    have hl := zft_le F N q r.1
    have hpp := ztk_pop (F := F) (N := N) (K := K) (q := q) h7 (show r.1 < 128 by omega)
    have g := ih n (q + 1) (zts F N q r) (by omega) (by omega) (ztk_lt hK hu) (by show zpop (ztk _ _) ≤ q + 1; omega)
    rw [zup_s, ← g]
    have hor := fun a => ztk_or r.1 (zft F N q r.1) (by omega) a
    show f_X2_turnerOf_8b (f_X2_turnerOf_8 (nI k) n) (nI k) (nI r.1) (nI r.2) (nI q) x = f_X2_turnerOf_8 (nI k) n (nI (ztk r.1 (zft F N q r.1))) (nI (zft F N q r.1)) (nI (q + 1)) x
    unfold f_X2_turnerOf_8b
    rw [if_neg (fun z => by have := (q_lt (by omega) (by omega)).mp z; omega), hn, if_pos ((q_lt (by omega) (by omega)).mpr hq), x_ft hn h7 hK hq hu hp (h33 q hq) ht, zzbd_s]
    generalize zft F N q r.1 = t at hl hor ⊢
    by_cases c : t = 9
    · rw [if_pos (show nI t = 9 by rw [c]; rfl)]
      unfold f_X2_turnerOf_45
      rw [q1, nI_add, zzlt_eq, zzlt_eq, q0, hor (nI 0) (if_pos c).symm]
    · rw [if_neg (q_ne9 (by omega) c), q1, q_shl' (by omega)]
      unfold f_X2_turnerOf_45
      rw [q1, nI_add, zzlt_eq, zzlt_eq, hor (nI (2 ^ t)) (if_neg c).symm]
theorem m_tu_p {m : zzS} {T : zT} (h : zMT m T) (ht : zTb m (zfit T (zl T)) (zn T) (2 ^ zn T) 0) (k45 : Int32 → Int32 → Int32 → zzS → Option (Int32 × zzS)) (p0 : Int32) {q u : Nat} (hq : q < zn T) (hu : u < 2 ^ zn T) : ∀ e n, e ≤ zn T → e < n → f_X12_told_78 k45 p0 n (nI u) (nI (zfb (zok2 (zfit T (zl T)) (zn T) q u) (zn T - e) e)) (nI q) (nI (zM (zfit T (zl T)) (zn T) (zn T - q) u)) (nI e - nI 1) m = k45 (nI (ztk u (zft (zfit T (zl T)) (zn T) q u))) (nI (zft (zfit T (zl T)) (zn T) q u)) (nI (q + 1)) m := by
  have h7 := h.1.1
  have hf := zfit_lt h.1 (zl T) q
  have hK8 := zK_le h7
  have hl := zft_le (zfit T (zl T)) (zn T) q u
  intro e
  induction e with
  | zero =>
    intro n he hn
    obtain ⟨n, rfl⟩ : ∃ n', n = n' + 1 := ⟨n - 1, by omega⟩
    have hor := fun a => ztk_or u (zft (zfit T (zl T)) (zn T) q u) (by omega) a
    rw [Nat.sub_zero]
    show f_X12_told_78b k45 _ p0 (nI u) (nI (zft (zfit T (zl T)) (zn T) q u)) (nI q) (nI (zM (zfit T (zl T)) (zn T) (zn T - q) u)) (nI 0 - nI 1) m = _
    generalize zft (zfit T (zl T)) (zn T) q u = t at hl hor ⊢
    unfold f_X12_told_78b
    rw [if_pos (show nI 0 - nI 1 < 0 by decide +kernel)]
    by_cases c : t = 9
    · rw [if_pos (show nI t = 9 by rw [c]; rfl)]
      unfold f_X12_told_165
      rw [q1, nI_add, zzlt_eq, zzlt_eq, q0, hor (nI 0) (if_pos c).symm]
    · rw [if_neg (q_ne9 (by omega) c), q1, q_shl' (by omega)]
      unfold f_X12_told_165
      rw [q1, nI_add, zzlt_eq, zzlt_eq, hor (nI (2 ^ t)) (if_neg c).symm]
  | succ e ih =>
    intro n he hn
    obtain ⟨n, rfl⟩ : ∃ n', n = n' + 1 := ⟨n - 1, by omega⟩
    have hs : nI (e + 1) - nI 1 = nI e := by rw [q_sub (by omega)]; rfl
    have hi2 : e < zn T := by omega
    have g := ih n (by omega) (by omega)
    have hv2 : u ||| 2 ^ e < 2 ^ zn T := Nat.or_lt_two_pow hu (Nat.pow_lt_pow_right (by omega) hi2)
    have b1 := (zMW (zfit T (zl T)) (zn T) (zn T - (q + 1)) (u ||| 2 ^ e)).1
    have b2 := (zMW (zfit T (zl T)) (zn T) (zn T - q) u).1
    have hz := zdf_lt (u := u) hf
    have r1 := (ht (q + 1) (by omega) (by omega) _ hv2).1
    have e3 : nI u ||| nI (2 ^ e) = nI (u ||| 2 ^ e) := q_or u (2 ^ e)
    have hl2 : nI 128 * nI q + nI 128 + nI (u ||| 2 ^ e) = nI (128 * (q + 1) + (u ||| 2 ^ e)) := by rw [pk_mul, nI_add, nI_add, show 128 * q + 128 = 128 * (q + 1) by omega]
    have hstep : zfb (zok2 (zfit T (zl T)) (zn T) q u) (zn T - e) e = if zok2 (zfit T (zl T)) (zn T) q u e = true then e else zfb (zok2 (zfit T (zl T)) (zn T) q u) (zn T - (e + 1)) (e + 1) := by
      rw [show zn T - e = (zn T - (e + 1)) + 1 by omega, zfb_s]
    rw [hstep] at g
    rw [hs, ← g]
    generalize zfb (zok2 (zfit T (zl T)) (zn T) q u) (zn T - (e + 1)) (e + 1) = f0
    show f_X12_told_78b k45 (f_X12_told_78 k45 p0 n) p0 (nI u) (nI f0) (nI q) (nI (zM (zfit T (zl T)) (zn T) (zn T - q) u)) (nI e) m = _
    unfold f_X12_told_78b
    rw [if_neg (q_neg (by omega)), m_fit h hq, zzbd_s, q_dff, m_hb m (by omega) (by omega), zzbd_s]
    cases e4 : (zdf (zfit T (zl T) q) u).testBit e with
    | true =>
      rw [zbn_t, if_neg (show ¬ nI 1 = 0 by decide), q128, q1, q_shl' (by omega), e3, hl2, zzgd_t (by rw [q_len51]; exact q_in (by omega) (by omega)), q_cl (by omega), r1, nI_add]
      by_cases c : zM (zfit T (zl T)) (zn T) (zn T - (q + 1)) (u ||| 2 ^ e) + 1 = zM (zfit T (zl T)) (zn T) (zn T - q) u
      · have w : zok2 (zfit T (zl T)) (zn T) q u e = true := by unfold zok2; rw [e4, decide_eq_true c]; rfl
        rw [if_pos ((q_eq (by omega) (by omega)).mpr c), if_pos w]
        unfold f_X12_told_141
        rw [q1, q_dn, zzlt_eq]
      · have w : zok2 (zfit T (zl T)) (zn T) q u e = false := by unfold zok2; rw [e4, decide_eq_false c]; rfl
        rw [if_neg (fun z => c ((q_eq (by omega) (by omega)).mp z)), if_neg (by rw [w]; exact Bool.false_ne_true)]
        unfold f_X12_told_139 f_X12_told_141
        rw [q1, q_dn, zzlt_eq]
    | false =>
      have w : zok2 (zfit T (zl T)) (zn T) q u e = false := by unfold zok2; rw [e4]; rfl
      rw [zbn_f, if_pos (show nI 0 = 0 from rfl), if_neg (by rw [w]; exact Bool.false_ne_true)]
      unfold f_X12_told_139 f_X12_told_141
      rw [q1, q_dn, zzlt_eq]
theorem m_tu_l {m : zzS} {T : zT} (h : zMT m T) (ht : zTb m (zfit T (zl T)) (zn T) (2 ^ zn T) 0) {k : Nat} (hk : k < zn T) : ∀ d n q r, q + d = k + 1 → d < n → r.1 < 2 ^ zn T → f_X12_told_45 (nI k) n (nI r.1) (nI r.2) (nI q) m = some (nI (zup (zts (zfit T (zl T)) (zn T)) d q r).2, m) := by
  have h7 := h.1.1
  have hK8 := zK_le h7
  intro d
  induction d with
  | zero =>
    intro n q r hi hn2 hu
    obtain ⟨n, rfl⟩ : ∃ n', n = n' + 1 := ⟨n - 1, by omega⟩
    show f_X12_told_45b _ (nI k) (nI r.1) (nI r.2) (nI q) m = _
    unfold f_X12_told_45b
    rw [if_pos ((q_lt (by omega) (by omega)).mpr (by omega)), zup_z]
  | succ d ih =>
    intro n q r hi hn2 hu
    obtain ⟨n, rfl⟩ : ∃ n', n = n' + 1 := ⟨n - 1, by omega⟩
    have hq : q < zn T := by omega
    have g := ih n (q + 1) (zts (zfit T (zl T)) (zn T) q r) (by omega) (by omega) (ztk_lt rfl hu)
    have g2 := m_tu_p h ht (f_X12_told_45 (nI k) n) (nI k) hq hu (zn T) 200 (Nat.le_refl _) (by omega)
    rw [Nat.sub_self, zfb_z] at g2
    have hl : nI 128 * nI q + nI r.1 = nI (128 * q + r.1) := by rw [pk_mul, nI_add]
    rw [zup_s, ← g]
    show f_X12_told_45b (f_X12_told_45 (nI k) n) (nI k) (nI r.1) (nI r.2) (nI q) m = f_X12_told_45 (nI k) n (nI (ztk r.1 (zft (zfit T (zl T)) (zn T) q r.1))) (nI (zft (zfit T (zl T)) (zn T) q r.1)) (nI (q + 1)) m
    rw [← g2]
    unfold f_X12_told_45b
    rw [if_neg (fun z => by have := (q_lt (by omega) (by omega)).mp z; omega), q128, hl, zzgd_t (by rw [q_len51]; exact q_in (by omega) (by omega)), q_cl (by omega), (ht q (by omega) (by omega) _ hu).1, zzlt_eq, h.2.1, q1, zzlt_eq]
    rfl
/-! ===== told ===== -/
theorem q_negI : (-1 : Int32).toInt = -1 := by decide
theorem s_told (p : Int32) : zSim (f_X11_told p) (f_X12_told p) := by
  refine zSim_T (fun x m T hx hm hs hi => ?_)
  have h7 := hx.1.1
  have hL := hx.1.2.1
  have hm1 : zMT (zzsi m 36 13 (nI 0)) T := hm
  have eL : (-1 : Int64).toInt = -1 := rfl
  have eN := q_dec h7
  obtain ⟨x1, a1, a2, a3, a4⟩ := x_gather hx (L := zl T) (by omega)
  obtain ⟨x2, b1, b2, b3, b4, b5⟩ := x_mt (F := zfit T (zl T)) h7 rfl (fun q _ => zfit_lt hx.1 (zl T) q) a2 a3
  obtain ⟨m2, c1, c2, c3⟩ := m_lay hm1
  have pX : zPX x x2 := zPX_tr (zPX_cf a4) (zPX_cf b2)
  have pM : zPM m m2 := zPM_tr (zPM_13 m _) (zPM_tf c2)
  have vX : zXT x2 20 T := zXT_cf (Or.inl rfl) (zXT_cf (Or.inl rfl) hx a4) b2
  have vM : zMT m2 T := zMT_tf hm1 c2
  have dX : f_X11_told_18 p x = if p = (-1 : Int32) then some (nI (zM (zfit T (zl T)) (zn T) (zn T) 0), x2) else zzbd (f_X2_turnerOf p x2) (fun r6 σ7 => some (r6, σ7)) := by
    unfold f_X11_told_18
    rw [hx.2.2.1, a1, zzbd_s, b1, zzbd_s]
  have dM : f_X12_told p m = if -1 ≤ p.toInt ∧ p.toInt ≤ (zn T : Int) - 1 then (if p < 0 then some (nI (zM (zfit T (zl T)) (zn T) (zn T) 0), m2) else f_X12_told_45 p 200 (nI 0) (nI 9) (nI 0) m2) else some (-1, zzsi m 36 13 (nI 0)) := by
    unfold f_X12_told
    rw [q0, zzlt_eq, hm1.2.1, q1, m_in, eL, eN, zzbd_s]
    by_cases c : -1 ≤ p.toInt ∧ p.toInt ≤ (zn T : Int) - 1
    · rw [if_pos c, if_pos c, if_neg (show ¬ nI 1 = nI 0 by decide), c1, zzbd_s, q9]
    · rw [if_neg c, if_neg c, if_pos rfl]
  rcases q_cls p (zn T) (by omega) with ⟨i, hi, rfl⟩ | hp
  · have n1 : ¬ nI i = (-1 : Int32) := fun z => by
      have := congrArg Int32.toInt z
      rw [nI_toInt (by omega), q_negI] at this; omega
    have g := x_tu_l (k := i) b3 h7 rfl hi b4 b5 (i + 1) 200 0 (0, 9) (by omega) (by omega) (Nat.pow_pos (by omega)) (by show zpop 0 ≤ 0; decide)
    have g2 := m_tu_l vM c3 (k := i) hi (i + 1) 200 0 (0, 9) (by omega) (by omega) (Nat.pow_pos (by omega))
    refine ⟨nI (zup (zts (zfit T (zl T)) (zn T)) (i + 1) 0 (0, 9)).2, x2, m2, T, ?_, ?_, vX, vM, pX, pM⟩
    · unfold f_X11_told
      rw [if_neg n1, x_has1 hx hi, zzbd_s, if_neg (show ¬ nI 1 = 0 by decide), dX, if_neg n1]
      unfold f_X2_turnerOf
      rw [q0, q9]
      exact congrArg (fun z => zzbd z (fun r6 σ7 => some (r6, σ7))) g
    · rw [dM, nI_toInt (by omega), if_pos (by omega), if_neg (q_neg (by omega))]
      exact g2
  · by_cases c : p = -1
    · subst c
      refine ⟨nI (zM (zfit T (zl T)) (zn T) (zn T) 0), x2, m2, T, ?_, ?_, vX, vM, pX, pM⟩
      · unfold f_X11_told
        rw [if_pos rfl, dX, if_pos rfl]
      · rw [dM, q_negI, if_pos (by omega), if_pos (by decide)]
    · refine ⟨-1, x, zzsi m 36 13 (nI 0), T, ?_, ?_, hx, hm1, zPX_refl x, zPM_13 m _⟩
      · unfold f_X11_told
        rw [if_neg c, x_has_bad hx hp, zzbd_s, if_pos (show nI 0 = 0 from rfl)]
      · have c2 : ¬ p.toInt = -1 := fun z => c (Int32.toInt_inj.mp (z.trans q_negI.symm))
        rw [dM, if_neg (by have := hp; unfold zbad at this; omega)]
