/-! ===== copy: the class's method by hand ===== -/
/-- n numbers of the array a from i on come to the array b from j on -/
def zzcp (x : zzS) (a i b j n : Nat) : zzS := (x.1, fun k f => if k = b ∧ j ≤ f ∧ f < j + n then zza x a (i + (f - j)) else zza x k f, x.2.2)
def f_X11_copy (p0 p1 p2 p3 p4 : Int32) (σ : zzS) : Option (Int32 × zzS) :=
  zzbd (f_X11_isShelf p0 σ) (fun r1 σ2 => (if r1 = 0 then (some ((-1 : Int32), σ2)) else (zzbd (f_X11_isShelf p2 σ2) (fun r3 σ4 => (if r3 = 0 then (some ((-1 : Int32), σ4)) else (zzbd (f_X11_isBare p0 σ4) (fun r5 σ6 => (if r5 = 0 then (zzbd (f_X11_isBare p2 σ6) (fun r7 σ8 => (if r7 = 0 then (zzbd (f_X11_rowOn p0 σ8) (fun r9 σ10 => zzbd (f_X11_rowOn p2 σ10) (fun r11 σ12 => (zzon r9 (some ((-12 : Int32), σ12)) (fun j13 => zzgd (zzrow j13) (zzon r11 (some ((-12 : Int32), σ12)) (fun j14 => zzgd (zzrow j14) (if zzi σ12 j13 1 = zzi σ12 j14 1 then (zzbd (f_X7_has j13 p1 p4 σ12) (fun r15 σ16 => (if r15 = 0 then (some ((-13 : Int32), σ16)) else (zzbd (f_X7_has j14 p3 p4 σ16) (fun r17 σ18 => (if r17 = 0 then (some ((-13 : Int32), σ18)) else (zzlt (zzcp σ18 (j13 + 1) (Int32.toNatClampNeg p1) (j14 + 1) (Int32.toNatClampNeg p3) (Int32.toNatClampNeg p4)) (fun σ19 => some (p4, σ19))))))))) else (some ((-12 : Int32), σ12)))))))))) else (some ((-11 : Int32), σ8))))) else (some ((-11 : Int32), σ6))))))))))
theorem q_subI {n : Nat} {q : Int32} (hn : n ≤ 100) (hq : 0 ≤ q.toInt) : (nI n - q).toInt = (n : Int) - q.toInt := by
  have h2 : q.toInt < 2147483648 := by have := Int32.toInt_lt q; omega
  rw [Int32.toInt_sub, nI_toInt (by omega)]
  exact Int.bmod_eq_of_le (by omega) (by omega)
abbrev zok3 (n : Nat) (p q : Int32) : Prop := 0 ≤ p.toInt ∧ 0 ≤ q.toInt ∧ p.toInt + q.toInt ≤ n
theorem x7_hasN {x : zzS} {r n : Nat} (h : zzi x r 2 = nI n) (hn : n ≤ 100) (p q : Int32) [Decidable (zok3 n p q)] : f_X7_has r p q x = some (if zok3 n p q then nI 1 else nI 0, x) := by
  unfold f_X7_has
  by_cases c1 : p < 0
  · rw [if_pos c1, if_neg (fun z : zok3 n p q => by have := (q_neg0 p).mp c1; omega)]; rfl
  · by_cases c2 : q < 0
    · rw [if_neg c1, if_pos c2, if_neg (fun z : zok3 n p q => by have := (q_neg0 q).mp c2; omega)]; rfl
    · have d1 : 0 ≤ p.toInt := Int.not_lt.mp (fun z => c1 ((q_neg0 p).mpr z))
      have d2 : 0 ≤ q.toInt := Int.not_lt.mp (fun z => c2 ((q_neg0 q).mpr z))
      by_cases c3 : nI n < q
      · rw [if_neg c1, if_neg c2, h, if_pos c3, if_neg (fun z : zok3 n p q => by have := (q_nlt q (by omega)).mp c3; omega)]; rfl
      · have e := q_subI (n := n) hn d2
        by_cases c4 : nI n - q < p
        · rw [if_neg c1, if_neg c2, h, if_neg c3, if_pos c4, if_neg (fun z : zok3 n p q => by have := Int32.lt_iff_toInt_lt.mp c4; omega)]; rfl
        · rw [if_neg c1, if_neg c2, h, if_neg c3, if_neg c4, if_pos (show zok3 n p q from ⟨d1, d2, by have := Int.not_lt.mp (fun z => c4 (Int32.lt_iff_toInt_lt.mpr z)); omega⟩)]; rfl
/-- what the reference's two loops make -/
theorem m_cp_1 {p0 p1 p2 p3 : Int32} {d i c : Nat} (hd : d < 8) (hi : i + c ≤ 100) (h0 : p0 = nI d) (h1 : p1 = nI i) : ∀ e n l y, l + e = c → e < n → (∀ k, k < l → zzl y 54 k = zzl y 53 (100 * d + i + k)) → ∃ y', f_X12_copy_137 p0 p1 p2 p3 (nI c) n (nI l) y = f_X12_copy_174 p0 p1 p2 p3 (nI c) 200 (nI 0) y' ∧ (∀ k, k < c → zzl y' 54 k = zzl y 53 (100 * d + i + k)) ∧ (∀ k f, zzi y' k f = zzi y k f) ∧ (∀ k f, zza y' k f = zza y k f) ∧ (∀ f, zzl y' 53 f = zzl y 53 f) := by
  intro e
  induction e with
  | zero =>
    intro n l y hl hn h
    obtain ⟨n, rfl⟩ : ∃ n', n = n' + 1 := ⟨n - 1, by omega⟩
    have : l = c := by omega
    subst this
    refine ⟨y, ?_, h, fun _ _ => rfl, fun _ _ => rfl, fun _ => rfl⟩
    show f_X12_copy_137b _ p0 p1 p2 p3 (nI l) (nI l) y = _
    unfold f_X12_copy_137b
    rw [if_neg (fun z => Nat.lt_irrefl l ((q_lt (by omega) (by omega)).mp z)), q0]
  | succ e ih =>
    intro n l y hl hn h
    obtain ⟨n, rfl⟩ : ∃ n', n = n' + 1 := ⟨n - 1, by omega⟩
    obtain ⟨y', g, g1, g2, g3, g4⟩ := ih n (l + 1) (zzsl y 54 l (zzl y 53 (100 * d + i + l))) (by omega) (by omega) (by
      intro k hk
      rw [q_ll, q_ll, if_neg (show ¬ (53 = 54 ∧ _) by omega)]
      by_cases c2 : k = l
      · rw [if_pos ⟨rfl, c2⟩, c2]
      · rw [if_neg (fun z => c2 z.2)]; exact h k (by omega))
    refine ⟨y', ?_, fun k hk => (g1 k hk).trans ?_, g2, g3, fun f => (g4 f).trans ?_⟩
    · have hl2 : nI 100 * nI d + nI i + nI l = nI (100 * d + i + l) := by rw [pk_mul, nI_add, nI_add]
      rw [← g]
      show f_X12_copy_137b _ p0 p1 p2 p3 (nI c) (nI l) y = _
      unfold f_X12_copy_137b
      rw [if_pos ((q_lt (by omega) (by omega)).mpr (by omega)), h0, h1, q100, hl2, zzgd_t (q_in (by omega) (by omega)), zzgd_t (q_in (by omega) (by omega)), q_cl (by omega), q_cl (by omega), zzlt_eq, q1, nI_add, zzlt_eq]
    · rw [q_ll, if_neg (by omega)]
    · rw [q_ll, if_neg (by omega)]
theorem m_cp_2 {p0 p1 p2 p3 : Int32} {e j c : Nat} (he : e < 8) (hj : j + c ≤ 100) (h2 : p2 = nI e) (h3 : p3 = nI j) : ∀ g n l y, l + g = c → g < n → ∃ y', f_X12_copy_174 p0 p1 p2 p3 (nI c) n (nI l) y = some (nI c, y') ∧ (∀ k f, zzi y' k f = zzi y k f) ∧ (∀ k f, zza y' k f = zza y k f) ∧ (∀ f, zzl y' 53 f = if 100 * e + j + l ≤ f ∧ f < 100 * e + j + c then zzl y 54 (f - (100 * e + j)) else zzl y 53 f) := by
  intro g
  induction g with
  | zero =>
    intro n l y hl hn
    obtain ⟨n, rfl⟩ : ∃ n', n = n' + 1 := ⟨n - 1, by omega⟩
    have : l = c := by omega
    subst this
    refine ⟨y, ?_, fun _ _ => rfl, fun _ _ => rfl, fun f => ?_⟩
    · show f_X12_copy_174b _ p0 p1 p2 p3 (nI l) (nI l) y = _
      unfold f_X12_copy_174b
      rw [if_neg (fun z => Nat.lt_irrefl l ((q_lt (by omega) (by omega)).mp z))]
    · rw [if_neg (by omega)]
  | succ g ih =>
    intro n l y hl hn
    obtain ⟨n, rfl⟩ : ∃ n', n = n' + 1 := ⟨n - 1, by omega⟩
    obtain ⟨y', b, b1, b2, b3⟩ := ih n (l + 1) (zzsl y 53 (100 * e + j + l) (zzl y 54 l)) (by omega) (by omega)
    refine ⟨y', ?_, b1, b2, fun f => (b3 f).trans ?_⟩
    · have hl2 : nI 100 * nI e + nI j + nI l = nI (100 * e + j + l) := by rw [pk_mul, nI_add, nI_add]
      rw [← b]
      show f_X12_copy_174b _ p0 p1 p2 p3 (nI c) (nI l) y = _
      unfold f_X12_copy_174b
      rw [if_pos ((q_lt (by omega) (by omega)).mpr (by omega)), h2, h3, q100, hl2, zzgd_t (q_in (by omega) (by omega)), zzgd_t (q_in (by omega) (by omega)), q_cl (by omega), q_cl (by omega), zzlt_eq, q1, nI_add, zzlt_eq]
    · rw [q_ll, q_ll, if_neg (show ¬ (54 = 53 ∧ _) by omega)]
      by_cases c1 : 100 * e + j + (l + 1) ≤ f ∧ f < 100 * e + j + c
      · rw [if_pos c1, if_pos (by omega)]
      · rw [if_neg c1]
        by_cases c2 : f = 100 * e + j + l
        · rw [if_pos ⟨rfl, c2⟩, if_pos (by omega), c2]
          congr 1; omega
        · rw [if_neg (fun z => c2 z.2), if_neg (by omega)]
theorem x_bare {x m : zzS} (hs : zSh x m) {d : Nat} (hd : d < 8) : f_X11_isBare (nI d) x = some (if zza m 41 d = nI 0 then nI 1 else nI 0, x) := by
  rcases hs d hd with ⟨a, b, c⟩ | ⟨a, b, k, f, hk, hf, c1, c2, c3⟩ | ⟨a, b, c, s, n, h1, h2, h3, h4, h5, h6, h7⟩
  · rw [a, if_pos rfl]
    unfold f_X11_isBare
    rw [x_one hd, b, zzbd_s, zzon_n, x_row hd, c, zzbd_s, zzon_n]; rfl
  · rw [a, if_neg (by decide)]
    unfold f_X11_isBare
    rw [x_one hd, c1, zzbd_s, zzon_s]; rfl
  · rw [a, if_neg (by decide)]
    unfold f_X11_isBare
    rw [x_one hd, b, zzbd_s, zzon_n, x_row hd, c, zzbd_s, zzon_s, zzgd_t (q_row8 hd)]; rfl
theorem zcp_rel {x m m' : zzS} {T : zT} {d e i j c : Nat} (hd : d < 8) (he : e < 8) (h1 : i + c ≤ 100) (h2 : j + c ≤ 100) (hx : zXT x 20 T) (hm : zMT m T) (hs : zSh x m) (hi : zIm x m) (hrow : ∀ k, k < 100 → zzl m 53 (100 * d + k) = (zza x (5 + 2 * d) k).toInt64) (g1 : ∀ k f, zzi m' k f = zzi m k f) (g2 : ∀ k f, zza m' k f = zza m k f) (g3 : ∀ f, zzl m' 53 f = if 100 * e + j ≤ f ∧ f < 100 * e + j + c then zzl m 53 (100 * d + i + (f - (100 * e + j))) else zzl m 53 f) : zRel (zzcp x (5 + 2 * d) i (5 + 2 * e) j c) m' := by
  have ha : ∀ k f, zza (zzcp x (5 + 2 * d) i (5 + 2 * e) j c) k f = if k = 5 + 2 * e ∧ j ≤ f ∧ f < j + c then zza x (5 + 2 * d) (i + (f - j)) else zza x k f := fun _ _ => rfl
  have up : ∀ k f, 20 ≤ k → zza (zzcp x (5 + 2 * d) i (5 + 2 * e) j c) k f = zza x k f := fun k f h => by rw [ha, if_neg (by omega)]
  refine ⟨⟨T, zXT_hi (Or.inl rfl) hx (fun _ _ _ => rfl) up (fun _ _ _ => rfl), ⟨hm.1, ?_, ?_, ?_, ?_, ?_, ?_⟩⟩, ?_, ?_⟩
  · rw [g1]; exact hm.2.1
  · rw [g1]; exact hm.2.2.1
  · rw [g1]; exact hm.2.2.2.1
  · intro p hp; rw [g2, g2]; exact hm.2.2.2.2.1 p hp
  · intro p hp; rw [g2]; exact hm.2.2.2.2.2.1 p hp
  · intro p hp; rw [g2]; exact hm.2.2.2.2.2.2 p hp
  · intro D hD
    rw [g2, g2, g2, g2, g2]
    rcases hs D hD with h | h | ⟨b1, b2, b3, s, n, b4, b5, b6, b7, b8, b9, b10⟩
    · exact Or.inl h
    · exact Or.inr (Or.inl h)
    · refine Or.inr (Or.inr ⟨b1, b2, b3, s, n, b4, b5, b6, b7, b8, b9, fun k hk => ?_⟩)
      rw [g3, ha]
      by_cases c0 : D = e ∧ j ≤ k ∧ k < j + c
      · rw [if_pos (by omega), if_pos (by omega)]
        have := hrow (i + (k - j)) (by omega)
        rw [← this]; congr 1; omega
      · rw [if_neg (by omega), if_neg (by omega)]; exact b10 k hk
  · rcases hi with ⟨h3, h4⟩ | ⟨h3, h4, U, h5, h6⟩
    · exact Or.inl ⟨h3, by rw [g1]; exact h4⟩
    · refine Or.inr ⟨h3, by rw [g1]; exact h4, U, zXT_hi (Or.inr (Or.inr rfl)) h5 (fun _ _ _ => rfl) up (fun _ _ _ => rfl), ⟨h6.1, ?_, ?_, ?_, ?_, ?_, ?_⟩⟩
      · rw [g2]; exact h6.2.1
      · rw [g2]; exact h6.2.2.1
      · rw [g2]; exact h6.2.2.2.1
      · intro p hp; rw [g2, g2]; exact h6.2.2.2.2.1 p hp
      · intro p hp; rw [g2]; exact h6.2.2.2.2.2.1 p hp
      · intro p hp; rw [g2]; exact h6.2.2.2.2.2.2 p hp

theorem s_copy (p0 p1 p2 p3 p4 : Int32) : zSim (f_X11_copy p0 p1 p2 p3 p4) (f_X12_copy p0 p1 p2 p3 p4) := by
  intro x m ⟨⟨T, hx, hm⟩, hs, hi⟩
  have hm1 : zMT (zzsi m 36 13 (0 : Int32)) T := hm
  have hs1 := zSh_13 hs (0 : Int32)
  have hi1 := zIm_p hi (zPX_refl x) (zPM_13 m (0 : Int32))
  have R : zRel x (zzsi m 36 13 (0 : Int32)) := ⟨⟨T, hx, hm1⟩, hs1, hi1⟩
  have n1 : ¬ nI 1 = (0 : Int32) := by decide
  have z0 : nI 0 = (0 : Int32) := rfl
  rcases q_cls p0 8 (by omega) with ⟨d, hd, rfl⟩ | hb
  · rcases q_cls p2 8 (by omega) with ⟨e, he, rfl⟩ | hb2
    · have b1 := x_bare hs1 hd
      have b2 := x_bare hs1 he
      have ex : f_X11_copy (nI d) p1 (nI e) p3 p4 x = zzbd (f_X11_isBare (nI d) x) (fun r5 σ6 => (if r5 = 0 then (zzbd (f_X11_isBare (nI e) σ6) (fun r7 σ8 => (if r7 = 0 then (zzbd (f_X11_rowOn (nI d) σ8) (fun r9 σ10 => zzbd (f_X11_rowOn (nI e) σ10) (fun r11 σ12 => (zzon r9 (some ((-12 : Int32), σ12)) (fun j13 => zzgd (zzrow j13) (zzon r11 (some ((-12 : Int32), σ12)) (fun j14 => zzgd (zzrow j14) (if zzi σ12 j13 1 = zzi σ12 j14 1 then (zzbd (f_X7_has j13 p1 p4 σ12) (fun r15 σ16 => (if r15 = 0 then (some ((-13 : Int32), σ16)) else (zzbd (f_X7_has j14 p3 p4 σ16) (fun r17 σ18 => (if r17 = 0 then (some ((-13 : Int32), σ18)) else (zzlt (zzcp σ18 (j13 + 1) (Int32.toNatClampNeg p1) (j14 + 1) (Int32.toNatClampNeg p3) (Int32.toNatClampNeg p4)) (fun σ19 => some (p4, σ19))))))))) else (some ((-12 : Int32), σ12)))))))))) else (some ((-11 : Int32), σ8))))) else (some ((-11 : Int32), σ6)))) := by
        unfold f_X11_copy
        rw [x_shelf hd, zzbd_s, if_neg n1, x_shelf he, zzbd_s, if_neg n1]
      have em : f_X12_copy (nI d) p1 (nI e) p3 p4 m = (if zza (zzsi m 36 13 (0 : Int32)) 41 d = 0 then (some ((-11 : Int32), zzsi m 36 13 (0 : Int32))) else (if zza (zzsi m 36 13 (0 : Int32)) 41 e = 0 then (some ((-11 : Int32), zzsi m 36 13 (0 : Int32))) else (if zza (zzsi m 36 13 (0 : Int32)) 41 d = (2 : Int32) then (if zza (zzsi m 36 13 (0 : Int32)) 41 e = (2 : Int32) then (if zza (zzsi m 36 13 (0 : Int32)) 44 d = zza (zzsi m 36 13 (0 : Int32)) 44 e then (if p4 < 0 then (some ((-13 : Int32), zzsi m 36 13 (0 : Int32))) else (if p1 < 0 then (some ((-13 : Int32), zzsi m 36 13 (0 : Int32))) else (if p3 < 0 then (some ((-13 : Int32), zzsi m 36 13 (0 : Int32))) else (if (zza (zzsi m 36 13 (0 : Int32)) 45 d - p4) < p1 then (some ((-13 : Int32), zzsi m 36 13 (0 : Int32))) else (if (zza (zzsi m 36 13 (0 : Int32)) 45 e - p4) < p3 then (some ((-13 : Int32), zzsi m 36 13 (0 : Int32))) else (f_X12_copy_137 (nI d) p1 (nI e) p3 p4 200 (0 : Int32) (zzsi m 36 13 (0 : Int32)))))))) else (some ((-12 : Int32), zzsi m 36 13 (0 : Int32)))) else (some ((-12 : Int32), zzsi m 36 13 (0 : Int32)))) else (some ((-12 : Int32), zzsi m 36 13 (0 : Int32)))))) := by
        have G : ∀ k a, k < 8 → zzlen a = 8 → zzin (nI k) (zzlen a) := fun k a h1 h2 => by rw [h2]; exact q_in h1 (by omega)
        have hd2 : d < 2147483648 := by omega
        have he2 : e < 2147483648 := by omega
        unfold f_X12_copy
        rw [zzlt_eq, m_in7 hd, zzbd_s, if_neg n1, m_in7 he, zzbd_s, if_neg n1]
        simp only [zzgd_t (G d 41 hd rfl), zzgd_t (G e 41 he rfl), zzgd_t (G d 44 hd rfl), zzgd_t (G e 44 he rfl), zzgd_t (G d 45 hd rfl), zzgd_t (G e 45 he rfl), q_cl hd2, q_cl he2]
      rw [ex, em]
      generalize zzsi m 36 13 (0 : Int32) = M at hm1 hs1 hi1 R b1 b2
      rw [b1, zzbd_s]
      by_cases c1 : zza M 41 d = nI 0
      · exact ⟨-11, x, M, by rw [if_pos c1, if_neg n1], by rw [if_pos (c1.trans z0)], R⟩
      · rw [if_neg c1, if_pos z0, if_neg (fun z => c1 (z.trans z0.symm)), b2, zzbd_s]
        by_cases c2 : zza M 41 e = nI 0
        · exact ⟨-11, x, M, by rw [if_pos c2, if_neg n1], by rw [if_pos (c2.trans z0)], R⟩
        · rw [if_neg c2, if_pos z0, if_neg (fun z => c2 (z.trans z0.symm)), x_row hd, zzbd_s, x_row he, zzbd_s]
          rcases hs1 d hd with ⟨a, _, _⟩ | ⟨a, b, _, _⟩ | ⟨a, b, c, s, n, h1, h2, h3, h4, h5, h6, h7⟩
          · exact absurd a c1
          · refine ⟨-12, x, M, by rw [b, zzon_n], ?_, R⟩
            rw [a, if_neg (show ¬ nI 1 = (2 : Int32) by decide)]
          · rw [a, if_pos (show nI 2 = (2 : Int32) from rfl), c, zzon_s, zzgd_t (q_row8 hd)]
            rcases hs1 e he with ⟨a', _, _⟩ | ⟨a', b', _, _⟩ | ⟨a', b', c', s', n', h1', h2', h3', h4', h5', h6', h7'⟩
            · exact absurd a' c2
            · refine ⟨-12, x, M, by rw [b', zzon_n], ?_, R⟩
              rw [a', if_neg (show ¬ nI 1 = (2 : Int32) by decide)]
            · rw [a', if_pos (show nI 2 = (2 : Int32) from rfl), c', zzon_s, zzgd_t (q_row8 he), h5, h5', h3, h3', h4, h4']
              by_cases c3 : nI s = nI s'
              · haveI : Decidable (zok3 n p1 p4) := Classical.propDecidable _
                haveI : Decidable (zok3 n' p3 p4) := Classical.propDecidable _
                rw [if_pos c3, if_pos c3, x7_hasN h6 h2 p1 p4, zzbd_s]
                by_cases g4 : p4 < 0
                · have := (q_neg0 p4).mp g4
                  exact ⟨-13, x, M, by rw [if_neg (fun z : zok3 n p1 p4 => by omega), if_pos z0], by rw [if_pos g4], R⟩
                · have k4 : 0 ≤ p4.toInt := Int.not_lt.mp (fun z => g4 ((q_neg0 p4).mpr z))
                  rw [if_neg g4]
                  by_cases g1 : p1 < 0
                  · have := (q_neg0 p1).mp g1
                    exact ⟨-13, x, M, by rw [if_neg (fun z : zok3 n p1 p4 => by omega), if_pos z0], by rw [if_pos g1], R⟩
                  · have k1 : 0 ≤ p1.toInt := Int.not_lt.mp (fun z => g1 ((q_neg0 p1).mpr z))
                    rw [if_neg g1]
                    by_cases g3 : p3 < 0
                    · have := (q_neg0 p3).mp g3
                      refine ⟨-13, x, M, ?_, by rw [if_pos g3], R⟩
                      by_cases g5 : zok3 n p1 p4
                      · rw [if_pos g5, if_neg n1, x7_hasN h6' h2' p3 p4, zzbd_s, if_neg (fun z : zok3 n' p3 p4 => by omega), if_pos z0]
                      · rw [if_neg g5, if_pos z0]
                    · have k3 : 0 ≤ p3.toInt := Int.not_lt.mp (fun z => g3 ((q_neg0 p3).mpr z))
                      rw [if_neg g3]
                      have e1 := q_subI (n := n) h2 k4
                      have e2 := q_subI (n := n') h2' k4
                      by_cases g5 : nI n - p4 < p1
                      · have := Int32.lt_iff_toInt_lt.mp g5
                        exact ⟨-13, x, M, by rw [if_neg (fun z : zok3 n p1 p4 => by omega), if_pos z0], by rw [if_pos g5], R⟩
                      · have g5' : zok3 n p1 p4 := ⟨k1, k4, by have := Int.not_lt.mp (fun z => g5 (Int32.lt_iff_toInt_lt.mpr z)); omega⟩
                        rw [if_pos g5', if_neg n1, if_neg g5, x7_hasN h6' h2' p3 p4, zzbd_s]
                        by_cases g6 : nI n' - p4 < p3
                        · have := Int32.lt_iff_toInt_lt.mp g6
                          exact ⟨-13, x, M, by rw [if_neg (fun z : zok3 n' p3 p4 => by omega), if_pos z0], by rw [if_pos g6], R⟩
                        · have g6' : zok3 n' p3 p4 := ⟨k3, k4, by have := Int.not_lt.mp (fun z => g6 (Int32.lt_iff_toInt_lt.mpr z)); omega⟩
                          rw [if_pos g6', if_neg n1, if_neg g6, zzlt_eq]
                          obtain ⟨i, hi1', rfl⟩ : ∃ i, i < 101 ∧ p1 = nI i := ⟨p1.toInt.toNat, by omega, Int32.toInt_inj.mp (by rw [nI_toInt (by omega)]; omega)⟩
                          obtain ⟨j, hj1', rfl⟩ : ∃ i, i < 101 ∧ p3 = nI i := ⟨p3.toInt.toNat, by omega, Int32.toInt_inj.mp (by rw [nI_toInt (by omega)]; omega)⟩
                          obtain ⟨c0, hc1', rfl⟩ : ∃ i, i < 101 ∧ p4 = nI i := ⟨p4.toInt.toNat, by omega, Int32.toInt_inj.mp (by rw [nI_toInt (by omega)]; omega)⟩
                          have l1 : i + c0 ≤ n := by have := g5'.2.2; rw [nI_toInt (by omega), nI_toInt (by omega)] at this; omega
                          have l2 : j + c0 ≤ n' := by have := g6'.2.2; rw [nI_toInt (by omega), nI_toInt (by omega)] at this; omega
                          rw [q_cl (by omega), q_cl (by omega), q_cl (by omega), show 4 + 2 * d + 1 = 5 + 2 * d by omega, show 4 + 2 * e + 1 = 5 + 2 * e by omega]
                          obtain ⟨y1, u0, u1, u2, u3, u4⟩ := m_cp_1 (p0 := nI d) (p1 := nI i) (p2 := nI e) (p3 := nI j) (d := d) (i := i) (c := c0) hd (by omega) rfl rfl c0 200 0 M (by omega) (by omega) (fun k hk => absurd hk (Nat.not_lt_zero k))
                          obtain ⟨y2, w0, w1, w2, w3⟩ := m_cp_2 (p0 := nI d) (p1 := nI i) (p2 := nI e) (p3 := nI j) (e := e) (j := j) (c := c0) he (by omega) rfl rfl c0 200 0 y1 (by omega) (by omega)
                          refine ⟨nI c0, _, y2, rfl, ?_, zcp_rel (i := i) (j := j) (c := c0) hd he (by omega) (by omega) hx hm1 hs1 hi1 h7 (fun k f => (w1 k f).trans (u2 k f)) (fun k f => (w2 k f).trans (u3 k f)) (fun f => (w3 f).trans ?_)⟩
                          · exact u0.trans w0
                          · by_cases c5 : 100 * e + j ≤ f ∧ f < 100 * e + j + c0
                            · rw [if_pos c5, if_pos (by omega), u1 _ (by omega)]
                            · rw [if_neg c5, if_neg (by omega), u4]
              · exact ⟨-12, x, M, by rw [if_neg c3], by rw [if_neg c3], R⟩
    · refine ⟨-1, x, _, ?_, ?_, R⟩
      · unfold f_X11_copy
        rw [x_shelf hd, zzbd_s, if_neg n1, x_shelf_bad hb2, zzbd_s, if_pos z0]
      · unfold f_X12_copy
        rw [zzlt_eq, m_in7 hd, zzbd_s, if_neg n1, m_in7_bad hb2, zzbd_s, if_pos z0]
  · refine ⟨-1, x, _, ?_, ?_, R⟩
    · unfold f_X11_copy
      rw [x_shelf_bad hb, zzbd_s, if_pos z0]
    · unfold f_X12_copy
      rw [zzlt_eq, m_in7_bad hb, zzbd_s, if_pos z0]
