/-! ===== town: both sides do what is told ===== -/
section
variable {e n : Nat} {el : Nat → Int32} {T : zT}
/-- one statement of a good text on both sides -/
theorem z_one {x m : zzS} {U : zT} {k : Nat} (hx : zXT x 24 U) (hm : zMT m U) (hk : k < 40) (hg : zon (zH el n) (zP (zH el n) k) = none) (hs : zza m 47 k = zH el n (zP (zH el n) k) ∧ ∀ i, i < zmd (zH el n (zP (zH el n) k)) → zza m 48 (3 * k + i) = zH el n (zP (zH el n) k + 1 + i) - 48) : zStep x m (f_X10_perform 24 (el (zP (zH el n) k)) (zDg el n (zP (zH el n) k + 1)) (zDg el n (zP (zH el n) k + 2)) (zDg el n (zP (zH el n) k + 3)) x) (f_X12_comesTold (nI k) m) := by
  obtain ⟨a1, a2, a3⟩ := zon_none hg
  have hp := zH_m a1
  have hz : zH el n (zP (zH el n) k) = el (zP (zH el n) k) := zH_in hp
  have dg : ∀ i, zdgt (zH el n i) → zDg el n i = zH el n i - 48 := fun i hi => by
    have := zH_d hi
    unfold zDg; rw [if_pos this, zH_in this]
  generalize zP (zH el n) k = p at a1 a2 a3 hp hz hs ⊢
  rw [hz] at a1 a2 a3 hs
  have dv : ∀ j, j < zmd (el p) → ∃ a, a < 10 ∧ zDg el n (p + 1 + j) = nI a ∧ zza m 48 (3 * k + j) = nI a := fun j hj => by
    obtain ⟨a, h1, h2, h3⟩ := zdgt_v (a2 j hj)
    exact ⟨a, h1, (dg _ (a2 j hj)).trans h3, (hs.2 j hj).trans h3⟩
  obtain ⟨h47, _⟩ := hs
  generalize el p = c at a1 dv h47 ⊢
  rcases zmd_cases a1 with rfl | rfl | rfl | rfl | rfl | rfl
  · obtain ⟨a, b1, b2, b3⟩ := dv 0 (by decide)
    obtain ⟨b, c1, c2, c3⟩ := dv 1 (by decide)
    obtain ⟨d, d1, d2, d3⟩ := dv 2 (by decide)
    rw [show p + 1 + 0 = p + 1 from rfl] at b2
    rw [show p + 1 + 1 = p + 2 from rfl] at c2
    rw [show p + 1 + 2 = p + 3 from rfl] at d2
    rw [b2, c2, d2]
    exact zst_f hx hm (by omega) b1 c1 d1 h47 b3 c3 d3
  · obtain ⟨a, b1, b2, b3⟩ := dv 0 (by decide)
    rw [show p + 1 + 0 = p + 1 from rfl] at b2
    rw [b2]
    exact zst_l hx hm (by omega) b1 h47 b3 _ _
  · obtain ⟨a, b1, b2, b3⟩ := dv 0 (by decide)
    obtain ⟨b, c1, c2, c3⟩ := dv 1 (by decide)
    rw [show p + 1 + 0 = p + 1 from rfl] at b2
    rw [show p + 1 + 1 = p + 2 from rfl] at c2
    rw [b2, c2]
    exact zst_p hx hm (by omega) b1 c1 h47 b3 c3 _
  · obtain ⟨a, b1, b2, b3⟩ := dv 0 (by decide)
    obtain ⟨b, c1, c2, c3⟩ := dv 1 (by decide)
    rw [show p + 1 + 0 = p + 1 from rfl] at b2
    rw [show p + 1 + 1 = p + 2 from rfl] at c2
    rw [b2, c2]
    exact zst_s hx hm (by omega) b1 c1 h47 b3 c3 _
  · obtain ⟨a, b1, b2, b3⟩ := dv 0 (by decide)
    obtain ⟨b, c1, c2, c3⟩ := dv 1 (by decide)
    rw [show p + 1 + 0 = p + 1 from rfl] at b2
    rw [show p + 1 + 1 = p + 2 from rfl] at c2
    rw [b2, c2]
    exact zst_t hx hm (by omega) b1 c1 h47 b3 c3 _
  · obtain ⟨a, b1, b2, b3⟩ := dv 0 (by decide)
    obtain ⟨b, c1, c2, c3⟩ := dv 1 (by decide)
    rw [show p + 1 + 0 = p + 1 from rfl] at b2
    rw [show p + 1 + 1 = p + 2 from rfl] at c2
    rw [b2, c2]
    exact zst_d hx hm (by omega) b1 c1 h47 b3 c3 _
theorem z_tw (he : e < 8) (hn : n ≤ 100) (p0 p1 : Int32) {K : Nat} (hK : K < 40) (hg : ∀ j, j < K → zon (zH el n) (zP (zH el n) j) = none) (hP : zP (zH el n) K = n) : ∀ d k x m U N M, k + d = K → n < N + zP (zH el n) k → d < M → zP (zH el n) k ≤ n → zXT x 20 T → zXT x 24 U → zMT m U → zAT m 49 T → zzi x (4 + 2 * e) 2 = nI n → (∀ j, zza x (5 + 2 * e) j = el j) → zRS m (zH el n) K → zzi m 36 17 = nI K → ∃ r x' m' V, f_X11_town_60 p0 N (4 + 2 * e) (nI k) (nI (zP (zH el n) k)) x = some (r, x') ∧ f_X12_town_113 p1 M (nI k) m = some (r, m') ∧ zXT x' 20 V ∧ zMT m' V ∧ zPX x x' ∧ zPM m m' := by
  have t20 : zztown 20 := Or.inl rfl
  have t24 : zztown 24 := Or.inr (Or.inl rfl)
  intro d
  induction d with
  | zero =>
    intro k x m U N M hk hN hM hle h20 h24 hm hA h2 hel hS h17
    obtain ⟨N, rfl⟩ : ∃ n', N = n' + 1 := ⟨N - 1, by omega⟩
    obtain ⟨M, rfl⟩ : ∃ n', M = n' + 1 := ⟨M - 1, by omega⟩
    have : k = K := by omega
    subst this
    obtain ⟨x', b1, b2, b3⟩ := x_become (p := 24) (t := 20) h24 t20 t24 (by omega)
    refine ⟨nI k, x', m, U, ?_, ?_, b2, hm, zPX_fr (Or.inl rfl) b3, zPM_refl m⟩
    · show f_X11_town_60b _ p0 (4 + 2 * e) (nI k) (nI (zP (zH el n) k)) x = _
      unfold f_X11_town_60b
      rw [hP, h2, if_neg (fun z => Nat.lt_irrefl n ((q_lt (by omega) (by omega)).mp z)), b1, zzbd_s]
    · show f_X12_town_113b _ p1 (nI k) m = _
      unfold f_X12_town_113b
      rw [h17, if_neg (fun z => Nat.lt_irrefl k ((q_lt (by omega) (by omega)).mp z))]
  | succ d ih =>
    intro k x m U N M hk hN hM hle h20 h24 hm hA h2 hel hS h17
    obtain ⟨N, rfl⟩ : ∃ n', N = n' + 1 := ⟨N - 1, by omega⟩
    obtain ⟨M, rfl⟩ : ∃ n', M = n' + 1 := ⟨M - 1, by omega⟩
    have hgk := hg k (by omega)
    obtain ⟨a1, a2, a3⟩ := zon_none hgk
    have hp := zH_m a1
    have h59 := zH_59 a3
    have hz : zH el n (zP (zH el n) k) = el (zP (zH el n) k) := zH_in hp
    have hs2 := zP_s (zH el n) k
    have hfun : (fun j => zza x (5 + 2 * e) j) = el := funext hel
    obtain ⟨r, x1, m1, U1, c1, c2, c3, c4, c5, c6⟩ := z_one (el := el) (n := n) h24 hm (show k < 40 by omega) hgk (hS k (by omega)).2
    have h2' : zzi x1 (4 + 2 * e) 2 = nI n := (c5.1 _ _ (by omega)).trans h2
    have hel' : ∀ j, zza x1 (5 + 2 * e) j = el j := fun j => (c5.2.1 _ _ (by omega)).trans (hel j)
    have h20' : zXT x1 20 T := zXT_fr t24 t20 (by omega) h20 c5
    have g := x_tw_at (c0 := k) (p := zP (zH el n) k) (N := N) (r := r) (x' := x1) he hn h2 p0 hp (by rw [hel, ← hz]; exact a1) (by omega) (by rw [hfun, hel]; exact c1)
    have eM : f_X12_town_113 p1 (M + 1) (nI k) m = zzbd (some (zbn r, m1)) (fun r2 σ3 => (if r2 = 0 then (zzbd (f_X12_close σ3) (fun r6 σ7 => zzgd (zzin (nI k) (zzlen 46)) (some (((-2000 : Int32) - (zza σ7 46 (Int32.toNatClampNeg (nI k)))), σ7)))) else (zzlt (nI k + (1 : Int32)) (fun x5 => f_X12_town_113 p1 M x5 σ3)))) := by
      show f_X12_town_113b (f_X12_town_113 p1 M) p1 (nI k) m = _
      unfold f_X12_town_113b
      rw [h17, if_pos ((q_lt (by omega) (by omega)).mpr (by omega)), c2]
    rw [eM, zzbd_s, g]
    cases r with
    | false =>
      obtain ⟨m2, d1, d2, d3, d4⟩ := m_close (zAT_fr (Or.inl rfl) hA c6)
      have hk2 : k < 2147483648 := by omega
      have hpl : zza m2 46 k = nI (zP (zH el n) k) := (d4.2.1 46 k (by omega) (by omega)).trans ((c6.2.1 46 k (by omega)).trans (hS k (by omega)).1)
      refine ⟨(-2000 : Int32) - nI (zP (zH el n) k), x1, m2, T, by rw [if_neg Bool.false_ne_true], ?_, h20', d2, zPX_fr (Or.inr rfl) c5, zPM_tr (zPM_fr c6) (zPM_k d4)⟩
      rw [zbn_f, if_pos (show nI 0 = 0 from rfl), d1, zzbd_s, zzgd_t (show zzin (nI k) (zzlen 46) from q_in (by rw [q_len46]; omega) (by rw [q_len46]; omega)), q_cl hk2, hpl]
    | true =>
      have sk := x_tw_skip (x := x1) he hn h2' p0 (nI (k + 1)) (zmd (zH el n (zP (zH el n) k)) + 1) (zP (zH el n) k + 1) N (by omega) (by omega) (fun j hj => by
        rw [hel']
        by_cases c : j = zmd (zH el n (zP (zH el n) k))
        · rw [c, ← zH_in (el := el) h59, a3]; decide
        · have hd := a2 j (by omega)
          have := zH_d hd
          rw [← zH_in (el := el) this]; exact zmd_dig (Or.inl hd))
      obtain ⟨r2, x2, m2, V, e1, e2, e3, e4, e5, e6⟩ := ih (k + 1) x1 m1 U1 (N - (zmd (zH el n (zP (zH el n) k)) + 1)) M (by omega) (by omega) (by omega) (by omega) h20' c3 c4 (zAT_fr (Or.inl rfl) hA c6) h2' hel' (fun j hj => by
        obtain ⟨s1, s2, s3⟩ := hS j hj
        exact ⟨(c6.2.1 _ _ (by omega)).trans s1, (c6.2.1 _ _ (by omega)).trans s2, fun i hi => (c6.2.1 _ _ (by omega)).trans (s3 i hi)⟩) ((c6.1 36 17 (by omega)).trans h17)
      refine ⟨r2, x2, m2, V, ?_, ?_, e3, e4, zPX_tr (zPX_fr (Or.inr rfl) c5) e5, zPM_tr (zPM_fr c6) e6⟩
      · rw [if_pos rfl, sk, ← e1, hs2, show zP (zH el n) k + 1 + (zmd (zH el n (zP (zH el n) k)) + 1) = zP (zH el n) k + zmd (zH el n (zP (zH el n) k)) + 2 by omega]
      · rw [zbn_t, if_neg (show ¬ nI 1 = 0 by decide), q1, nI_add, zzlt_eq, e2]
theorem zPM_rf {m m' : zzS} (g : zRF m m') : zPM m m' := ⟨g.1 36 23 (by omega), fun k f c => g.2.1 k f (by omega), fun f => g.2.2.2.1 53 f⟩
theorem zMT_rf {m m' : zzS} (h : zMT m T) (g : zRF m m') : zMT m' T := by
  refine ⟨h.1, ?_, ?_, ?_, ?_, ?_, ?_⟩
  · rw [g.1 _ _ (by omega)]; exact h.2.1
  · rw [g.1 _ _ (by omega)]; exact h.2.2.1
  · rw [g.1 _ _ (by omega)]; exact h.2.2.2.1
  · intro p hp; rw [g.2.1 _ _ (by omega), g.2.1 _ _ (by omega)]; exact h.2.2.2.2.1 p hp
  · intro p hp; rw [g.2.1 _ _ (by omega)]; exact h.2.2.2.2.2.1 p hp
  · intro p hp; rw [g.2.1 _ _ (by omega)]; exact h.2.2.2.2.2.2 p hp
end
theorem s_town (d : Int32) : zSim (f_X11_town d) (f_X12_town d) := by
  refine zSim_T (fun x m T hx hm hs hi => ?_)
  have t20 : zztown 20 := Or.inl rfl
  have t24 : zztown 24 := Or.inr (Or.inl rfl)
  have hm1 : zMT (zzsi m 36 13 (0 : Int32)) T := hm
  have hs1 := zSh_13 hs (0 : Int32)
  have z0 : nI 0 = (0 : Int32) := rfl
  rcases q_rowd hs1 d with ⟨e, s, n, he, rfl, hs3, hn, a1, a2, a3, a4, a5, a6, a7⟩ | ⟨a1, r, hr, a2, a3⟩
  · have eX : f_X11_town (nI e) x = if nI s = 0 then (zzbd (f_X7_firstWrongByte (4 + 2 * e) x) (fun r9 σ10 => (if r9 = (-4 : Int32) then (zzbd (f_X10_become 24 20 σ10) (fun r12 σ13 => f_X11_town_60 (nI e) 200 (4 + 2 * e) (0 : Int32) (0 : Int32) σ13)) else (some (((-1000 : Int32) - r9), σ10))))) else (some ((-12 : Int32), x)) := by
      unfold f_X11_town
      rw [a1, zzbd_s, zzon_s, zzgd_t (q_row8 he), a4]
    have eM : f_X12_town (nI e) m = if nI s = 0 then f_X12_town_29 (nI e) (nI 0) (zzsi m 36 13 (0 : Int32)) else f_X12_town_30 (nI e) (-12 : Int32) (zzsi m 36 13 (0 : Int32)) := by
      have he2 : e < 2147483648 := by omega
      unfold f_X12_town
      rw [zzlt_eq, a7, zzbd_s, if_pos z0, zzgd_t (show zzin (nI e) (zzlen 44) by rw [q_len44]; exact q_in he (by omega)), q_cl he2, a2]
    by_cases c : s = 0
    · have es : nI s = 0 := by rw [c]; rfl
      rw [eX, eM, if_pos es, if_pos es]
      obtain ⟨m1, hm1'⟩ : ∃ m1, m1 = zzsi (zzsi (zzsi (zzsi (zzsi m 36 13 (0 : Int32)) 36 14 (nI e)) 36 15 (0 : Int32)) 36 16 (0 : Int32)) 36 17 (0 : Int32) := ⟨_, rfl⟩
      have eM2 : f_X12_town_29 (nI e) (nI 0) (zzsi m 36 13 (0 : Int32)) = f_X12_town_57 (nI e) 200 m1 := by
        unfold f_X12_town_29 f_X12_town_30
        rw [if_neg (show ¬ nI 0 < 0 by decide), zzlt_eq, zzlt_eq, zzlt_eq, zzlt_eq, hm1']
      have hmm : zMT m1 T := by rw [hm1']; exact hm
      have pm1 : zPM m m1 := by rw [hm1']; exact ⟨rfl, fun _ _ _ => rfl, fun _ => rfl⟩
      have i14 : zzi m1 36 14 = nI e := by rw [hm1']; rfl
      have i15 : zzi m1 36 15 = nI 0 := by rw [hm1']; rfl
      have i16 : zzi m1 36 16 = nI 0 := by rw [hm1']; rfl
      have i17 : zzi m1 36 17 = nI 0 := by rw [hm1']; rfl
      have hr : zRD m1 e n (fun j => zza x (5 + 2 * e) j) := ⟨i14, by rw [hm1']; exact a3, fun j hj => by rw [hm1']; exact a6 j hj⟩
      clear hm1'
      rw [eM2]
      have fin : (∃ K, (∀ j, j < K → zon (zH (fun j => zza x (5 + 2 * e) j) n) (zP (zH (fun j => zza x (5 + 2 * e) j) n) j) = none) ∧ zP (zH (fun j => zza x (5 + 2 * e) j) n) K = n ∧ 0 < K) ∨ ∃ K w, (∀ j, j < K → zon (zH (fun j => zza x (5 + 2 * e) j) n) (zP (zH (fun j => zza x (5 + 2 * e) j) n) j) = none) ∧ (zP (zH (fun j => zza x (5 + 2 * e) j) n) K < n ∨ (K = 0 ∧ n = 0)) ∧ zon (zH (fun j => zza x (5 + 2 * e) j) n) (zP (zH (fun j => zza x (5 + 2 * e) j) n) K) = some w := by
        by_cases n0 : n = 0
        · refine Or.inr ⟨0, 0, fun j hj => absurd hj (Nat.not_lt_zero j), Or.inr ⟨rfl, n0⟩, ?_⟩
          unfold zon
          rw [zP_0, zH_out (by omega)]; rfl
        · rcases zP_all (fun j => zza x (5 + 2 * e) j) n n 0 (by rw [zP_0]; omega) (fun j hj => absurd hj (Nat.not_lt_zero j)) (Or.inr (by omega)) with h | ⟨K, w, h1, h2, h3⟩
          · exact Or.inl h
          · exact Or.inr ⟨K, w, h1, Or.inl h2, h3⟩
      rcases fin with ⟨K, hg, hP, hK0⟩ | ⟨K, w, hg, hP, hw⟩
      · have hge := zP_ge K hg
        have hK : K < 40 := by omega
        have w1 : f_X7_firstWrongByte (4 + 2 * e) x = some (-4, x) := by
          rw [x_fw_k he hn a5 K hg (by omega), hP, show 200 - n = (199 - n) + 1 by omega]
          exact x_fw_end a5 hn (by omega)
        obtain ⟨x1, b1, b2, b3⟩ := x_become (p := 20) (t := 24) hx t24 t20 (by omega)
        obtain ⟨m2, N2, c1, c2, c3, c4, c5, c6, c7⟩ := m_rd_k (el := fun j => zza x (5 + 2 * e) j) he hn hK hg (by omega) K 0 200 m1 (by omega) (by omega) hr i15 i16 i17 (fun j hj => absurd hj (Nat.not_lt_zero j))
        rw [hP] at c4
        obtain ⟨N2, rfl⟩ : ∃ n', N2 = n' + 1 := ⟨N2 - 1, by omega⟩
        have g := m_rd_good (el := fun j => zza x (5 + 2 * e) j) (N := N2) he hn (zRD_f hr c3) c4 c5 c6 ⟨hK0, hK⟩
        obtain ⟨m3, d1, d2, d3, d4⟩ := m_open (zMT_rf hmm c3)
        have hel1 : ∀ j, zza x1 (5 + 2 * e) j = (fun j => zza x (5 + 2 * e) j) j := fun j => b3.2.1 _ _ (by omega)
        obtain ⟨r, x2, m4, V, e1, e2, e3, e4, e5, e6⟩ := z_tw (el := fun j => zza x (5 + 2 * e) j) (T := T) he hn (nI e) (nI e) hK hg hP K 0 x1 m3 T 200 200 (by omega) (by omega) (by omega) (Nat.zero_le _) (zXT_fr t24 t20 (by omega) hx b3) b2 d2 d3 ((b3.1 _ _ (by omega)).trans a5) hel1 (fun j hj => by
          obtain ⟨s1, s2, s3⟩ := c7 j hj
          exact ⟨(d4.2.1 46 j (by omega) (by omega)).trans s1, (d4.2.1 47 j (by omega) (by omega)).trans s2, fun i hi => (d4.2.1 48 _ (by omega) (by omega)).trans (s3 i hi)⟩) ((d4.1 36 17 (by omega)).trans c6)
        refine ⟨r, x2, m4, V, ?_, ?_, e3, e4, zPX_tr (zPX_fr (Or.inr rfl) b3) e5, zPM_tr pm1 (zPM_tr (zPM_rf c3) (zPM_tr (zPM_k d4) e6))⟩
        · rw [w1, zzbd_s, if_pos rfl, b1, zzbd_s]; exact e1
        · rw [c2, g, d1, zzbd_s]; exact e2
      · have hge := zP_ge K hg
        have hK : K < 40 := by omega
        have hPn : zP (zH (fun j => zza x (5 + 2 * e) j) n) K ≤ n := by
          rcases hP with h | ⟨h, h2⟩
          · omega
          · rw [h, zP_0]; omega
        have w1 : f_X7_firstWrongByte (4 + 2 * e) x = some (nI w, x) := by
          rcases hP with h | ⟨h, h2⟩
          · rw [x_fw_k he hn a5 K hg hPn, x_fw_s he hn a5 h (by omega), hw]
          · subst h2
            subst h
            have hw0 : (0 : Nat) = w := by
              unfold zon at hw
              rw [zP_0, zH_out (by omega), if_pos (by decide)] at hw
              exact Option.some.inj hw
            rw [← hw0]
            exact x_fw_00 (N := 199) a5
        have hwl : w ≤ 200 := by
          unfold zon at hw
          have hle := zmd_le (zH (fun j => zza x (5 + 2 * e) j) n (zP (zH (fun j => zza x (5 + 2 * e) j) n) K))
          have bd : ∀ g : Nat → Int32, ∀ d i w, zdg g d i = some w → w ≤ i + d := by
            intro g d
            induction d with
            | zero =>
              intro i w h
              rw [zdg_0] at h
              split at h
              · cases h
              · have := Option.some.inj h; omega
            | succ d ih =>
              intro i w h
              by_cases c9 : zdgt (g i)
              · rw [zdg_s1 d c9] at h
                have := ih (i + 1) w h; omega
              · rw [zdg_s0 d c9] at h
                have := Option.some.inj h; omega
          split at hw
          · have := Option.some.inj hw; omega
          · have := bd _ _ _ _ hw; omega
        obtain ⟨m2, N2, c1, c2, c3, c4, c5, c6, c7⟩ := m_rd_k (el := fun j => zza x (5 + 2 * e) j) he hn hK hg hPn K 0 200 m1 (by omega) (by omega) hr i15 i16 i17 (fun j hj => absurd hj (Nat.not_lt_zero j))
        obtain ⟨N2, rfl⟩ : ∃ n', N2 = n' + 2 := ⟨N2 - 2, by omega⟩
        obtain ⟨m3, g1, g2⟩ := m_rd_bad (el := fun j => zza x (5 + 2 * e) j) (N := N2) he hn (zRD_f hr c3) (by rcases hP with h | h; exact Or.inl h; exact Or.inr h.1) (by omega) c4 c5 c6 hK hw
        refine ⟨(-1000 : Int32) - nI w, x, m3, T, ?_, ?_, hx, zMT_rf (zMT_rf hmm c3) g2, zPX_refl x, zPM_tr pm1 (zPM_tr (zPM_rf c3) (zPM_rf g2))⟩
        · rw [w1, zzbd_s, if_neg (q_m4ne (by omega))]
        · rw [c2, g1]
    · have ns : ¬ nI s = 0 := q_ne0 (by omega) c
      refine ⟨-12, x, _, T, by rw [eX, if_neg ns], ?_, hx, hm1, zPX_refl x, zPM_13 m _⟩
      rw [eM, if_neg ns]
      rfl
  · refine ⟨r, x, _, T, ?_, ?_, hx, hm1, zPX_refl x, zPM_13 m _⟩
    · unfold f_X11_town
      rw [a1, zzbd_s, zzon_n, a2, zzbd_s]
    · unfold f_X12_town
      rw [zzlt_eq, a3, zzbd_s, if_neg (fun z => by rw [z] at hr; exact absurd hr (by decide))]
      unfold f_X12_town_29 f_X12_town_30
      rw [if_pos hr]
