/-! ===== the town's text: the reference reads it ===== -/
abbrev zRF (m m' : zzS) : Prop := (∀ k f, ¬ (k = 36 ∧ 15 ≤ f ∧ f < 18) → zzi m' k f = zzi m k f) ∧ (∀ k f, ¬ (46 ≤ k ∧ k < 49) → zza m' k f = zza m k f) ∧ (∀ k f, zzr m' k f = zzr m k f) ∧ (∀ k f, zzl m' k f = zzl m k f) ∧ ∀ f, zzq m' f = zzq m f
theorem zRF_refl (x : zzS) : zRF x x := ⟨fun _ _ _ => rfl, fun _ _ _ => rfl, fun _ _ => rfl, fun _ _ => rfl, fun _ => rfl⟩
theorem zRF_tr {x y z : zzS} (h : zRF x y) (g : zRF y z) : zRF x z :=
  ⟨fun k f c => (g.1 k f c).trans (h.1 k f c), fun k f c => (g.2.1 k f c).trans (h.2.1 k f c), fun k f => (g.2.2.1 k f).trans (h.2.2.1 k f), fun k f => (g.2.2.2.1 k f).trans (h.2.2.2.1 k f), fun f => (g.2.2.2.2 f).trans (h.2.2.2.2 f)⟩
theorem zRF_a {k : Nat} (x : zzS) (f : Nat) (v : Int32) (h : 46 ≤ k ∧ k < 49) : zRF x (zzsa x k f v) :=
  ⟨fun _ _ _ => rfl, fun k' f' c => (q_aa ..).trans (if_neg (fun z : k' = k ∧ f' = f => c (z.1.symm ▸ h))), fun _ _ => rfl, fun _ _ => rfl, fun _ => rfl⟩
theorem zRF_i {f : Nat} (x : zzS) (v : Int32) (h : 15 ≤ f ∧ f < 18) : zRF x (zzsi x 36 f v) :=
  ⟨fun k' f' c => (q_ii ..).trans (if_neg (fun z : k' = 36 ∧ f' = f => c ⟨z.1, z.2.symm ▸ h⟩)), fun _ _ _ => rfl, fun _ _ => rfl, fun _ _ => rfl, fun _ => rfl⟩
abbrev zRD (m : zzS) (e n : Nat) (el : Nat → Int32) : Prop := zzi m 36 14 = nI e ∧ zza m 45 e = nI n ∧ ∀ j, j < 100 → zzl m 53 (100 * e + j) = (el j).toInt64
theorem zRD_f {m m' : zzS} {e n : Nat} {el : Nat → Int32} (h : zRD m e n el) (g : zRF m m') : zRD m' e n el :=
  ⟨(g.1 36 14 (by omega)).trans h.1, (g.2.1 45 e (by omega)).trans h.2.1, fun j hj => (g.2.2.2.1 53 _).trans (h.2.2 j hj)⟩
section
variable {m : zzS} {e n : Nat} {el : Nat → Int32}
theorem m_here (h : zRD m e n el) (he : e < 8) (hn : n ≤ 100) {p : Nat} (hp : zzi m 36 15 = nI p) (hpl : p ≤ 1000) : f_X12_here m = some (zH el n p, m) := by
  unfold f_X12_here
  rw [h.1, zzgd_t (show zzin (nI e) (zzlen 45) by rw [q_len45]; exact q_in he (by omega)), q_cl (by omega), h.2.1, hp]
  by_cases c : p < n
  · have hl : (100 : Int32) * nI e + nI p = nI (100 * e + p) := by rw [q100, pk_mul, nI_add]
    rw [if_pos ((q_lt (by omega) (by omega)).mpr c), hl, zzgd_t (q_in (by omega) (by omega)), q_cl (by omega), h.2.2 p (by omega), zH_in c, Int32.toInt32_toInt64]
  · rw [if_neg (fun z => c ((q_lt (by omega) (by omega)).mp z)), zH_out c]
theorem m_130_1 {q k : Nat} (h1 : zzi m 36 15 = nI q) (h2 : zzi m 36 16 = nI 1) (h3 : zzi m 36 17 = nI k) : f_X12_readStatement_130 m = some ((), zzsi (zzsi (zzsi m 36 16 (nI 1)) 36 15 (nI q)) 36 17 (nI (k + 1))) := by
  unfold f_X12_readStatement_130 f_X12_readStatement_147 f_X12_readStatement_152 f_X12_readStatement_172
  have e1 : zzi (zzsi m 36 16 1) 36 16 = nI 1 := by rw [q_ii, if_pos ⟨rfl, rfl⟩]; rfl
  have e2 : zzi (zzsi m 36 16 1) 36 15 = nI q := by rw [q_ii, if_neg (by omega)]; exact h1
  have e3 : zzi (zzsi (zzsi m 36 16 1) 36 15 (nI q)) 36 17 = nI k := by rw [q_ii, if_neg (by omega), q_ii, if_neg (by omega)]; exact h3
  have e4 : nI q + 0 = nI q := by rw [q0, nI_add]; rfl
  rw [h2, if_neg (show ¬ nI 1 = 0 by decide), zzgd_t (Or.inr rfl), zzlt_eq, e1, if_neg (show ¬ nI 1 = 0 by decide), e2, zzlt_eq, e4, e3, q1, nI_add, zzlt_eq]
theorem m_130_0 (h : zRD m e n el) (he : e < 8) (hn : n ≤ 100) {q k : Nat} (h1 : zzi m 36 15 = nI q) (hq : q ≤ 1000) (h2 : zzi m 36 16 = nI 0) (h3 : zzi m 36 17 = nI k) : f_X12_readStatement_130 m = some ((), if zH el n q = 59 then zzsi (zzsi (zzsi m 36 16 (nI 0)) 36 15 (nI (q + 1))) 36 17 (nI (k + 1)) else zzsi (zzsi (zzsi m 36 16 (nI 1)) 36 15 (nI q)) 36 17 (nI (k + 1))) := by
  unfold f_X12_readStatement_130
  rw [h2, if_pos (show nI 0 = 0 from rfl), m_here h he hn h1 hq, zzbd_s]
  by_cases c : zH el n q = 59
  · have e1 : zzi (zzsi m 36 16 0) 36 16 = nI 0 := by rw [q_ii, if_pos ⟨rfl, rfl⟩]; rfl
    have e2 : zzi (zzsi m 36 16 0) 36 15 = nI q := by rw [q_ii, if_neg (by omega)]; exact h1
    have e3 : zzi (zzsi (zzsi m 36 16 0) 36 15 (nI (q + 1))) 36 17 = nI k := by rw [q_ii, if_neg (by omega), q_ii, if_neg (by omega)]; exact h3
    rw [if_pos c, if_pos c]
    unfold f_X12_readStatement_152 f_X12_readStatement_172
    rw [zzgd_t (Or.inl rfl), zzlt_eq, e1, if_pos (show nI 0 = 0 from rfl), e2, q1, nI_add, zzlt_eq, e3, nI_add, zzlt_eq]; rfl
  · have e1 : zzi (zzsi m 36 16 1) 36 16 = nI 1 := by rw [q_ii, if_pos ⟨rfl, rfl⟩]; rfl
    have e2 : zzi (zzsi m 36 16 1) 36 15 = nI q := by rw [q_ii, if_neg (by omega)]; exact h1
    have e3 : zzi (zzsi (zzsi m 36 16 1) 36 15 (nI q)) 36 17 = nI k := by rw [q_ii, if_neg (by omega), q_ii, if_neg (by omega)]; exact h3
    have e4 : nI q + 0 = nI q := by rw [q0, nI_add]; rfl
    rw [if_neg c, if_neg c]
    unfold f_X12_readStatement_147 f_X12_readStatement_152 f_X12_readStatement_172
    rw [zzgd_t (Or.inr rfl), zzlt_eq, e1, if_neg (show ¬ nI 1 = 0 by decide), e2, zzlt_eq, e4, e3, q1, nI_add, zzlt_eq]
theorem m_rdg (h : zRD m e n el) (he : e < 8) (hn : n ≤ 100) {q : Nat} (h1 : zzi m 36 15 = nI q) (hq : q ≤ 1000) (h2 : zzi m 36 16 = nI 0) (hd : zdgt (zH el n q)) : f_X12_readDigit m = some (zH el n q - 48, zzsi (zzsi m 36 16 (nI 0)) 36 15 (nI (q + 1))) := by
  haveI : Decidable (zdgt (zH el n q)) := Classical.propDecidable _
  have hr : zRD (zzsi m 36 16 0) e n el := zRD_f h (zRF_i _ _ (by omega))
  have e1 : zzi (zzsi m 36 16 0) 36 16 = nI 0 := by rw [q_ii, if_pos ⟨rfl, rfl⟩]; rfl
  have e2 : zzi (zzsi m 36 16 0) 36 15 = nI q := by rw [q_ii, if_neg (by omega)]; exact h1
  unfold f_X12_readDigit
  rw [h2, if_pos (show nI 0 = 0 from rfl), m_here h he hn h1 hq, zzbd_s, m_isd, if_pos hd, zzbd_s, if_neg (show ¬ nI 1 = 0 by decide)]
  unfold f_X12_readDigit_30
  rw [zzgd_t (Or.inl rfl), zzlt_eq, e1, if_pos (show nI 0 = 0 from rfl), m_here hr he hn e2 hq, zzbd_s]
  unfold f_X12_readDigit_51 f_X12_readDigit_69
  rw [e1, if_pos (show nI 0 = 0 from rfl), e2, q1, nI_add, zzlt_eq]; rfl
theorem m_rdb (h : zRD m e n el) (he : e < 8) (hn : n ≤ 100) {q : Nat} (h1 : zzi m 36 15 = nI q) (hq : q ≤ 1000) (h2 : zzi m 36 16 = nI 0) (hd : ¬ zdgt (zH el n q)) : f_X12_readDigit m = some (nI 0, zzsi (zzsi m 36 16 (nI 1)) 36 15 (nI q)) := by
  haveI : Decidable (zdgt (zH el n q)) := Classical.propDecidable _
  have e1 : zzi (zzsi m 36 16 1) 36 16 = nI 1 := by rw [q_ii, if_pos ⟨rfl, rfl⟩]; rfl
  have e2 : zzi (zzsi m 36 16 1) 36 15 = nI q := by rw [q_ii, if_neg (by omega)]; exact h1
  have e4 : nI q + 0 = nI q := by rw [q0, nI_add]; rfl
  unfold f_X12_readDigit
  rw [h2, if_pos (show nI 0 = 0 from rfl), m_here h he hn h1 hq, zzbd_s, m_isd, if_neg hd, zzbd_s, if_pos (show nI 0 = 0 from rfl)]
  unfold f_X12_readDigit_25 f_X12_readDigit_30
  rw [zzgd_t (Or.inr rfl), zzlt_eq, e1, if_neg (show ¬ nI 1 = 0 by decide)]
  unfold f_X12_readDigit_51 f_X12_readDigit_69
  rw [e1, if_neg (show ¬ nI 1 = 0 by decide), e2, zzlt_eq, e4]; rfl
theorem m_96_bad {q k : Nat} {N : Nat} (l3 l4 : Int32) (h1 : zzi m 36 15 = nI q) (h2 : zzi m 36 16 = nI 1) (h3 : zzi m 36 17 = nI k) : f_X12_readStatement_96 (N + 1) (nI k) l3 l4 m = some ((), zzsi (zzsi (zzsi m 36 16 (nI 1)) 36 15 (nI q)) 36 17 (nI (k + 1))) := by
  have e := m_130_1 h1 h2 h3
  show f_X12_readStatement_96b _ (nI k) l3 l4 m = _
  unfold f_X12_readStatement_96b
  by_cases c : l4 < l3
  · rw [if_pos c, h2, if_neg (show ¬ nI 1 = 0 by decide)]; exact e
  · rw [if_neg c]; exact e
theorem m_rd_l (he : e < 8) (hn : n ≤ 100) {k M s : Nat} (hk : k < 51) (hM : M ≤ 3) (hs : s ≤ 200) : ∀ d i N y, i + d = M → d + 1 < N → zRD y e n el → zzi y 36 15 = nI (s + i) → zzi y 36 16 = nI 0 → zzi y 36 17 = nI k → ∃ y', f_X12_readStatement_96 N (nI k) (nI M) (nI i) y = some ((), y') ∧ zRF y y' ∧ zzi y' 36 17 = nI (k + 1) ∧ (∀ a j, ¬ (a = 48 ∧ 3 * k + i ≤ j ∧ j < 3 * k + 3) → zza y' a j = zza y a j) ∧ (zdg (zH el n) d (s + i) = none → zzi y' 36 16 = nI 0 ∧ zzi y' 36 15 = nI (s + M + 1) ∧ ∀ j, i ≤ j → j < M → zza y' 48 (3 * k + j) = zH el n (s + j) - 48) ∧ (∀ w, zdg (zH el n) d (s + i) = some w → zzi y' 36 16 = nI 1 ∧ zzi y' 36 15 = nI w) := by
  intro d
  induction d with
  | zero =>
    intro i N y hi hN hr h1 h2 h3
    obtain ⟨N, rfl⟩ : ∃ n', N = n' + 1 := ⟨N - 1, by omega⟩
    have : i = M := by omega
    subst this
    have e0 : f_X12_readStatement_96 (N + 1) (nI k) (nI i) (nI i) y = f_X12_readStatement_130 y := by
      show f_X12_readStatement_96b _ (nI k) (nI i) (nI i) y = _
      unfold f_X12_readStatement_96b
      rw [if_neg (fun z => Nat.lt_irrefl i ((q_lt (by omega) (by omega)).mp z))]
    rw [e0, m_130_0 hr he hn h1 (by omega) h2 h3, zdg_0]
    by_cases c : zH el n (s + i) = 59
    · rw [if_pos c, if_pos c]
      refine ⟨_, rfl, zRF_tr (zRF_tr (zRF_i _ _ (by omega)) (zRF_i _ _ (by omega))) (zRF_i _ _ (by omega)), by rw [q_ii, if_pos ⟨rfl, rfl⟩], fun a j _ => rfl, fun _ => ⟨?_, ?_, fun j h4 h5 => by omega⟩, fun w hw => by cases hw⟩
      · rw [q_ii, if_neg (by omega), q_ii, if_neg (by omega), q_ii, if_pos ⟨rfl, rfl⟩]
      · rw [q_ii, if_neg (by omega), q_ii, if_pos ⟨rfl, rfl⟩]
    · rw [if_neg c, if_neg c]
      refine ⟨_, rfl, zRF_tr (zRF_tr (zRF_i _ _ (by omega)) (zRF_i _ _ (by omega))) (zRF_i _ _ (by omega)), by rw [q_ii, if_pos ⟨rfl, rfl⟩], fun a j _ => rfl, fun z => (by cases z), fun w hw => ?_⟩
      have hw2 : s + i = w := Option.some.inj hw
      subst hw2
      refine ⟨?_, ?_⟩
      · rw [q_ii, if_neg (by omega), q_ii, if_neg (by omega), q_ii, if_pos ⟨rfl, rfl⟩]
      · rw [q_ii, if_neg (by omega), q_ii, if_pos ⟨rfl, rfl⟩]
  | succ d ih =>
    intro i N y hi hN hr h1 h2 h3
    obtain ⟨N, rfl⟩ : ∃ n', N = n' + 1 := ⟨N - 1, by omega⟩
    have hl : (3 : Int32) * nI k + nI i = nI (3 * k + i) := by rw [q3, pk_mul, nI_add]
    have gi : zzin (nI (3 * k + i)) (zzlen 48) := q_in (by rw [q_len48]; omega) (by rw [q_len48]; omega)
    have e0 : f_X12_readStatement_96 (N + 1) (nI k) (nI M) (nI i) y = zzbd (f_X12_readDigit y) (fun r3 σ4 => f_X12_readStatement_96 N (nI k) (nI M) (nI (i + 1)) (zzsa σ4 48 (3 * k + i) r3)) := by
      show f_X12_readStatement_96b (f_X12_readStatement_96 N) (nI k) (nI M) (nI i) y = _
      unfold f_X12_readStatement_96b
      rw [if_pos ((q_lt (by omega) (by omega)).mpr (by omega)), h2, if_pos (show nI 0 = 0 from rfl), hl]
      simp only [zzgd_t gi, zzlt_eq, q1, nI_add, q_cl (show 3 * k + i < 2147483648 by omega)]
    by_cases c : zdgt (zH el n (s + i))
    · obtain ⟨y', f1, f2, f3, f4, f5, f6⟩ := ih (i + 1) N (zzsa (zzsi (zzsi y 36 16 (nI 0)) 36 15 (nI (s + i + 1))) 48 (3 * k + i) (zH el n (s + i) - 48)) (by omega) (by omega) (zRD_f hr (zRF_tr (zRF_tr (zRF_i _ _ (by omega)) (zRF_i _ _ (by omega))) (zRF_a _ _ _ (by omega)))) (by rw [q_i_sa, q_ii, if_pos ⟨rfl, rfl⟩]; rfl) (by rw [q_i_sa, q_ii, if_neg (by omega), q_ii, if_pos ⟨rfl, rfl⟩]) (by rw [q_i_sa, q_ii, if_neg (by omega), q_ii, if_neg (by omega)]; exact h3)
      refine ⟨y', ?_, zRF_tr (zRF_tr (zRF_tr (zRF_i _ _ (by omega)) (zRF_i _ _ (by omega))) (zRF_a _ _ _ (by omega))) f2, f3, fun a j h => ?_, fun z => ?_, fun w hw => ?_⟩
      · rw [e0, m_rdg hr he hn h1 (by omega) h2 c, zzbd_s]; exact f1
      · rw [f4 a j (by omega), q_aa, if_neg (by omega)]; rfl
      · rw [zdg_s1 d c] at z
        obtain ⟨z1, z2, z3⟩ := f5 z
        refine ⟨z1, z2, fun j h4 h5 => ?_⟩
        by_cases c2 : j = i
        · subst c2
          rw [f4 48 (3 * k + j) (by omega), q_aa, if_pos ⟨rfl, rfl⟩]
        · exact z3 j (by omega) h5
      · rw [zdg_s1 d c] at hw
        exact f6 w hw
    · obtain ⟨N, rfl⟩ : ∃ n', N = n' + 1 := ⟨N - 1, by omega⟩
      have g := m_96_bad (m := zzsa (zzsi (zzsi y 36 16 (nI 1)) 36 15 (nI (s + i))) 48 (3 * k + i) (nI 0)) (q := s + i) (k := k) (N := N) (nI M) (nI (i + 1)) (by rw [q_i_sa, q_ii, if_pos ⟨rfl, rfl⟩]) (by rw [q_i_sa, q_ii, if_neg (by omega), q_ii, if_pos ⟨rfl, rfl⟩]) (by rw [q_i_sa, q_ii, if_neg (by omega), q_ii, if_neg (by omega)]; exact h3)
      have e1 : f_X12_readStatement_96 (N + 1 + 1) (nI k) (nI M) (nI i) y = f_X12_readStatement_96 (N + 1) (nI k) (nI M) (nI (i + 1)) (zzsa (zzsi (zzsi y 36 16 (nI 1)) 36 15 (nI (s + i))) 48 (3 * k + i) (nI 0)) := by rw [e0, m_rdb hr he hn h1 (by omega) h2 c, zzbd_s]
      have step := e1.trans g
      refine ⟨_, step, ?_, ?_, fun a j h => ?_, fun z => ?_, fun w hw => ?_⟩
      · exact zRF_tr (zRF_tr (zRF_tr (zRF_i _ _ (by omega)) (zRF_i _ _ (by omega))) (zRF_a _ _ _ (by omega))) (zRF_tr (zRF_tr (zRF_i _ _ (by omega)) (zRF_i _ _ (by omega))) (zRF_i _ _ (by omega)))
      · rw [q_ii, if_pos ⟨rfl, rfl⟩]
      · show zza (zzsa (zzsi (zzsi y 36 16 (nI 1)) 36 15 (nI (s + i))) 48 (3 * k + i) (nI 0)) a j = _
        rw [q_aa, if_neg (by omega)]; rfl
      · rw [zdg_s0 d c] at z; cases z
      · rw [zdg_s0 d c] at hw
        cases hw
        refine ⟨?_, ?_⟩
        · rw [q_ii, if_neg (by omega), q_ii, if_neg (by omega), q_ii, if_pos ⟨rfl, rfl⟩]
        · rw [q_ii, if_neg (by omega), q_ii, if_pos ⟨rfl, rfl⟩]
theorem m_67 (y : zzS) (k : Nat) {c : Int32} (h : ¬ zmd c = 0) : (if c = (102 : Int32) then (f_X12_readStatement_92 (nI k) (3 : Int32) y) else (if c = (108 : Int32) then (f_X12_readStatement_92 (nI k) (1 : Int32) y) else (f_X12_readStatement_92 (nI k) (2 : Int32) y))) = f_X12_readStatement_92 (nI k) (nI (zmd c)) y := by
  rcases zmd_cases h with rfl | rfl | rfl | rfl | rfl | rfl <;> rfl
theorem m_67b (y : zzS) (k : Nat) {c : Int32} (h : zmd c = 0) : (if c = (102 : Int32) then (f_X12_readStatement_92 (nI k) (3 : Int32) y) else (if c = (108 : Int32) then (f_X12_readStatement_92 (nI k) (1 : Int32) y) else (f_X12_readStatement_92 (nI k) (2 : Int32) y))) = f_X12_readStatement_92 (nI k) (2 : Int32) y := by
  have c1 : ¬ c = 102 := fun z => by subst z; exact absurd h (by decide)
  have c2 : ¬ c = 108 := fun z => by subst z; exact absurd h (by decide)
  rw [if_neg c1, if_neg c2]
theorem m_rs (h : zRD m e n el) (he : e < 8) (hn : n ≤ 100) {p k : Nat} (hk : k < 51) (hp : p ≤ 100) (h1 : zzi m 36 15 = nI p) (h2 : zzi m 36 16 = nI 0) (h3 : zzi m 36 17 = nI k) : ∃ m', f_X12_readStatement m = some ((), m') ∧ zRF m m' ∧ zzi m' 36 17 = nI (k + 1) ∧ zza m' 46 k = nI p ∧ zza m' 47 k = zH el n p ∧ (∀ j, ¬ j = k → zza m' 46 j = zza m 46 j ∧ zza m' 47 j = zza m 47 j) ∧ (∀ j, ¬ (3 * k ≤ j ∧ j < 3 * k + 3) → zza m' 48 j = zza m 48 j) ∧ (zon (zH el n) p = none → zzi m' 36 16 = nI 0 ∧ zzi m' 36 15 = nI (p + zmd (zH el n p) + 2) ∧ ∀ j, j < zmd (zH el n p) → zza m' 48 (3 * k + j) = zH el n (p + 1 + j) - 48) ∧ ∀ w, zon (zH el n) p = some w → zzi m' 36 16 = nI 1 ∧ zzi m' 36 15 = nI w := by
  have g46 : zzin (nI k) (zzlen 46) := q_in (by rw [q_len46]; omega) (by rw [q_len46]; omega)
  have g47 : zzin (nI k) (zzlen 47) := q_in (by rw [q_len47]; omega) (by rw [q_len47]; omega)
  have hle := zmd_le (zH el n p)
  have e0 : f_X12_readStatement m = if zmd (zH el n p) = 0 then f_X12_readStatement_42 (nI k) (zH el n p) (zzsa (zzsa m 46 k (nI p)) 47 k (zH el n p)) else f_X12_readStatement_47 (nI k) (zH el n p) (0 : Int32) (zzsa (zzsa m 46 k (nI p)) 47 k (zH el n p)) := by
    have e2 : zzi (zzsa (zzsa m 46 k (nI p)) 47 k (zH el n p)) 36 16 = nI 0 := by rw [q_i_sa, q_i_sa]; exact h2
    unfold f_X12_readStatement
    have hk2 : k < 2147483648 := by omega
    simp only [h3, zzlt_eq, m_here h he hn h1 (show p ≤ 1000 by omega), zzbd_s, zzgd_t g46, zzgd_t g47, q_cl hk2, h1]
    rw [e2, if_pos (show nI 0 = 0 from rfl), m_let, zzbd_s]
    by_cases c : zmd (zH el n p) = 0
    · rw [if_pos c, if_pos c, if_pos (show nI 0 = 0 from rfl)]
    · rw [if_neg c, if_neg c, if_neg (show ¬ nI 1 = 0 by decide)]
  have tf0 : zRF m (zzsa (zzsa m 46 k (nI p)) 47 k (zH el n p)) := zRF_tr (zRF_a _ _ _ (by omega)) (zRF_a _ _ _ (by omega))
  rw [e0]
  unfold zon
  by_cases c : zmd (zH el n p) = 0
  · rw [if_pos c, if_pos c]
    have g := m_96_bad (m := zzsi (zzsi (zzsa (zzsa m 46 k (nI p)) 47 k (zH el n p)) 36 16 (nI 1)) 36 15 (nI p)) (q := p) (k := k) (N := 199) (2 : Int32) (0 : Int32) (by rw [q_ii, if_pos ⟨rfl, rfl⟩]) (by rw [q_ii, if_neg (by omega), q_ii, if_pos ⟨rfl, rfl⟩]) (by rw [q_ii, if_neg (by omega), q_ii, if_neg (by omega)]; exact h3)
    have e5 : f_X12_readStatement_42 (nI k) (zH el n p) (zzsa (zzsa m 46 k (nI p)) 47 k (zH el n p)) = f_X12_readStatement_96 (199 + 1) (nI k) (2 : Int32) (0 : Int32) (zzsi (zzsi (zzsa (zzsa m 46 k (nI p)) 47 k (zH el n p)) 36 16 (nI 1)) 36 15 (nI p)) := by
      have a1 : zzi (zzsi (zzsa (zzsa m 46 k (nI p)) 47 k (zH el n p)) 36 16 1) 36 16 = nI 1 := by rw [q_ii, if_pos ⟨rfl, rfl⟩]; rfl
      have a2 : zzi (zzsi (zzsa (zzsa m 46 k (nI p)) 47 k (zH el n p)) 36 16 1) 36 15 = nI p := by rw [q_ii, if_neg (by omega), q_i_sa, q_i_sa]; exact h1
      have a3 : nI p + 0 = nI p := by rw [q0, nI_add]; rfl
      unfold f_X12_readStatement_42 f_X12_readStatement_47
      rw [zzgd_t (Or.inr rfl), zzlt_eq, a1, if_neg (show ¬ nI 1 = 0 by decide), a2]
      unfold f_X12_readStatement_67
      rw [a3, zzlt_eq, m_67b _ k c]; rfl
    rw [e5, g]
    refine ⟨_, rfl, zRF_tr tf0 (zRF_tr (zRF_tr (zRF_i _ _ (by omega)) (zRF_i _ _ (by omega))) (zRF_tr (zRF_tr (zRF_i _ _ (by omega)) (zRF_i _ _ (by omega))) (zRF_i _ _ (by omega)))), by rw [q_ii, if_pos ⟨rfl, rfl⟩], ?_, ?_, fun j hj => ⟨?_, ?_⟩, fun j hj => ?_, fun z => (by cases z), fun w hw => ?_⟩
    · show zza (zzsa (zzsa m 46 k (nI p)) 47 k (zH el n p)) 46 k = _
      rw [q_aa, if_neg (by omega), q_aa, if_pos ⟨rfl, rfl⟩]
    · show zza (zzsa (zzsa m 46 k (nI p)) 47 k (zH el n p)) 47 k = _
      rw [q_aa, if_pos ⟨rfl, rfl⟩]
    · show zza (zzsa (zzsa m 46 k (nI p)) 47 k (zH el n p)) 46 j = _
      rw [q_aa, if_neg (by omega), q_aa, if_neg (by omega)]
    · show zza (zzsa (zzsa m 46 k (nI p)) 47 k (zH el n p)) 47 j = _
      rw [q_aa, if_neg (by omega), q_aa, if_neg (by omega)]
    · show zza (zzsa (zzsa m 46 k (nI p)) 47 k (zH el n p)) 48 j = _
      rw [q_aa, if_neg (by omega), q_aa, if_neg (by omega)]
    · have hw2 : p = w := Option.some.inj hw
      subst hw2
      refine ⟨?_, ?_⟩
      · rw [q_ii, if_neg (by omega), q_ii, if_neg (by omega), q_ii, if_pos ⟨rfl, rfl⟩]
      · rw [q_ii, if_neg (by omega), q_ii, if_pos ⟨rfl, rfl⟩]
  · rw [if_neg c, if_neg c]
    have tf1 : zRF m (zzsi (zzsi (zzsa (zzsa m 46 k (nI p)) 47 k (zH el n p)) 36 16 (nI 0)) 36 15 (nI (p + 1))) := zRF_tr tf0 (zRF_tr (zRF_i _ _ (by omega)) (zRF_i _ _ (by omega)))
    obtain ⟨y', f1, f2, f3, f4, f5, f6⟩ := m_rd_l (el := el) he hn hk (M := zmd (zH el n p)) (s := p + 1) hle (by omega) (zmd (zH el n p)) 0 200 (zzsi (zzsi (zzsa (zzsa m 46 k (nI p)) 47 k (zH el n p)) 36 16 (nI 0)) 36 15 (nI (p + 1))) (by omega) (by omega) (zRD_f h tf1) (by rw [q_ii, if_pos ⟨rfl, rfl⟩]) (by rw [q_ii, if_neg (by omega), q_ii, if_pos ⟨rfl, rfl⟩]) (by rw [q_ii, if_neg (by omega), q_ii, if_neg (by omega)]; exact h3)
    have e5 : f_X12_readStatement_47 (nI k) (zH el n p) (0 : Int32) (zzsa (zzsa m 46 k (nI p)) 47 k (zH el n p)) = f_X12_readStatement_96 200 (nI k) (nI (zmd (zH el n p))) (nI 0) (zzsi (zzsi (zzsa (zzsa m 46 k (nI p)) 47 k (zH el n p)) 36 16 (nI 0)) 36 15 (nI (p + 1))) := by
      have a1 : zzi (zzsi (zzsa (zzsa m 46 k (nI p)) 47 k (zH el n p)) 36 16 0) 36 16 = nI 0 := by rw [q_ii, if_pos ⟨rfl, rfl⟩]; rfl
      have a2 : zzi (zzsi (zzsa (zzsa m 46 k (nI p)) 47 k (zH el n p)) 36 16 0) 36 15 = nI p := by rw [q_ii, if_neg (by omega), q_i_sa, q_i_sa]; exact h1
      unfold f_X12_readStatement_47
      rw [zzgd_t (Or.inl rfl), zzlt_eq, a1, if_pos (show nI 0 = 0 from rfl), a2]
      unfold f_X12_readStatement_67
      have a3 : nI p + 1 = nI (p + 1) := by rw [q1, nI_add]
      rw [a3, zzlt_eq, m_67 _ k c]; rfl
    have base : ∀ a j, zza (zzsi (zzsi (zzsa (zzsa m 46 k (nI p)) 47 k (zH el n p)) 36 16 (nI 0)) 36 15 (nI (p + 1))) a j = zza (zzsa (zzsa m 46 k (nI p)) 47 k (zH el n p)) a j := fun _ _ => rfl
    refine ⟨y', e5.trans f1, zRF_tr tf1 f2, f3, ?_, ?_, fun j hj => ⟨?_, ?_⟩, fun j hj => ?_, fun z => ?_, fun w hw => f6 w hw⟩
    · rw [f4 46 k (by omega), base, q_aa, if_neg (by omega), q_aa, if_pos ⟨rfl, rfl⟩]
    · rw [f4 47 k (by omega), base, q_aa, if_pos ⟨rfl, rfl⟩]
    · rw [f4 46 j (by omega), base, q_aa, if_neg (by omega), q_aa, if_neg (by omega)]
    · rw [f4 47 j (by omega), base, q_aa, if_neg (by omega), q_aa, if_neg (by omega)]
    · rw [f4 48 j (by omega), base, q_aa, if_neg (by omega), q_aa, if_neg (by omega)]
    · obtain ⟨z1, z2, z3⟩ := f5 z
      refine ⟨z1, ?_, fun j hj => z3 j (Nat.zero_le _) hj⟩
      rw [z2, show p + 1 + zmd (zH el n p) + 1 = p + zmd (zH el n p) + 2 by omega]
end
