/-! ===== the town's text: where it can't go on ===== -/
def zmd (c : Int32) : Nat := if c = 102 then 3 else if c = 108 then 1 else if c = 112 then 2 else if c = 115 then 2 else if c = 116 then 2 else if c = 100 then 2 else 0
def zdgt (c : Int32) : Prop := 48 ≤ c.toInt ∧ c.toInt ≤ 57
theorem zmd_le (c : Int32) : zmd c ≤ 3 := by
  unfold zmd
  repeat' split
  all_goals omega
theorem zmd_cases {c : Int32} (h : ¬ zmd c = 0) : c = 102 ∨ c = 108 ∨ c = 112 ∨ c = 115 ∨ c = 116 ∨ c = 100 := by
  unfold zmd at h
  by_cases c1 : c = 102
  · exact Or.inl c1
  by_cases c2 : c = 108
  · exact Or.inr (Or.inl c2)
  by_cases c3 : c = 112
  · exact Or.inr (Or.inr (Or.inl c3))
  by_cases c4 : c = 115
  · exact Or.inr (Or.inr (Or.inr (Or.inl c4)))
  by_cases c5 : c = 116
  · exact Or.inr (Or.inr (Or.inr (Or.inr (Or.inl c5))))
  by_cases c6 : c = 100
  · exact Or.inr (Or.inr (Or.inr (Or.inr (Or.inr c6))))
  rw [if_neg c1, if_neg c2, if_neg c3, if_neg c4, if_neg c5, if_neg c6] at h
  exact absurd rfl h
theorem x_dgb (x : zzS) (c : Int32) : f_X11_digitsBehind c x = some (nI (zmd c), x) := by
  by_cases h : zmd c = 0
  · have n : ∀ v : Int32, (v = 102 ∨ v = 108 ∨ v = 112 ∨ v = 115 ∨ v = 116 ∨ v = 100) → ¬ c = v := by
      intro v hv e
      subst e
      rcases hv with rfl | rfl | rfl | rfl | rfl | rfl <;> exact absurd h (by decide)
    have key : ∀ v : Int32, (if c = v then some ((0 : Int32), x) else some ((0 : Int32), x)) = some (0, x) := fun v => by split <;> rfl
    rw [h]
    unfold f_X11_digitsBehind
    rw [if_neg (n 100 (by decide)), if_neg (n 102 (by decide)), if_neg (n 108 (by decide)), if_neg (n 112 (by decide)), if_neg (n 115 (by decide)), if_neg (n 116 (by decide))]
    simp only [key, ite_self]
    rfl
  · rcases zmd_cases h with rfl | rfl | rfl | rfl | rfl | rfl <;> rfl
theorem m_let (m : zzS) (c : Int32) : f_X12_isLetter c m = some (if zmd c = 0 then nI 0 else nI 1, m) := by
  by_cases h : zmd c = 0
  · have n : ∀ v : Int32, (v = 102 ∨ v = 108 ∨ v = 112 ∨ v = 115 ∨ v = 116 ∨ v = 100) → ¬ c = v := by
      intro v hv e
      subst e
      rcases hv with rfl | rfl | rfl | rfl | rfl | rfl <;> exact absurd h (by decide)
    rw [if_pos h]
    unfold f_X12_isLetter
    rw [if_neg (n 112 (by decide)), if_neg (n 102 (by decide)), if_neg (n 115 (by decide)), if_neg (n 116 (by decide)), if_neg (n 108 (by decide)), if_neg (n 100 (by decide))]
    rfl
  · rw [if_neg h]
    rcases zmd_cases h with rfl | rfl | rfl | rfl | rfl | rfl <;> rfl
theorem x_isd (x : zzS) (c : Int32) [Decidable (zdgt c)] : f_X11_isDigit c x = some (if zdgt c then nI 1 else nI 0, x) := by
  have e48 : (48 : Int32).toInt = 48 := by decide
  have e57 : (57 : Int32).toInt = 57 := by decide
  unfold f_X11_isDigit
  by_cases c1 : c < (48 : Int32)
  · have := Int32.lt_iff_toInt_lt.mp c1
    rw [if_pos c1, if_neg (fun z : zdgt c => by unfold zdgt at z; omega)]; rfl
  · have h1 := Int.not_lt.mp (fun z => c1 (Int32.lt_iff_toInt_lt.mpr z))
    by_cases c2 : (57 : Int32) < c
    · have := Int32.lt_iff_toInt_lt.mp c2
      rw [if_neg c1, if_pos c2, if_neg (fun z : zdgt c => by unfold zdgt at z; omega)]; rfl
    · have h2 := Int.not_lt.mp (fun z => c2 (Int32.lt_iff_toInt_lt.mpr z))
      rw [if_neg c1, if_neg c2, if_pos (show zdgt c by unfold zdgt; omega)]; rfl
theorem m_isd (m : zzS) (c : Int32) [Decidable (zdgt c)] : f_X12_in c.toInt64 (48 : Int64) (57 : Int64) m = some (if zdgt c then nI 1 else nI 0, m) := by
  have e48 : (48 : Int64).toInt = 48 := by decide
  have e57 : (57 : Int64).toInt = 57 := by decide
  rw [m_in, e48, e57]
  by_cases h : zdgt c
  · rw [if_pos (show 48 ≤ c.toInt ∧ c.toInt ≤ 57 from h), if_pos h]
  · rw [if_neg (show ¬ (48 ≤ c.toInt ∧ c.toInt ≤ 57) from h), if_neg h]
theorem zdgt_v {c : Int32} (h : zdgt c) : ∃ a, a < 10 ∧ c = nI (48 + a) ∧ c - 48 = nI a := by
  unfold zdgt at h
  refine ⟨c.toInt.toNat - 48, by omega, ?_, ?_⟩
  · apply Int32.toInt_inj.mp
    rw [nI_toInt (by omega)]; omega
  · have e : c = nI (48 + (c.toInt.toNat - 48)) := by
      apply Int32.toInt_inj.mp
      rw [nI_toInt (by omega)]; omega
    generalize c.toInt.toNat - 48 = a at e
    rw [e]
    have e48 : (48 : Int32) = nI 48 := rfl
    rw [e48, q_sub (by omega), Nat.add_sub_cancel_left]
theorem zmd_dig {c : Int32} (h : zdgt c ∨ c = 59) : zmd c = 0 := by
  rcases h with h | rfl
  · by_cases z : zmd c = 0
    · exact z
    · unfold zdgt at h
      rcases zmd_cases z with rfl | rfl | rfl | rfl | rfl | rfl <;> exact absurd h.2 (by decide)
  · decide
/-- the text: its i-th byte; what is behind it is none -/
def zH (el : Nat → Int32) (n i : Nat) : Int32 := if i < n then el i else -999
theorem zH_in {el : Nat → Int32} {n i : Nat} (h : i < n) : zH el n i = el i := if_pos h
theorem zH_out {el : Nat → Int32} {n i : Nat} (h : ¬ i < n) : zH el n i = -999 := if_neg h
theorem zH_d {el : Nat → Int32} {n i : Nat} (h : zdgt (zH el n i)) : i < n := by
  rcases Nat.lt_or_ge i n with c | c
  · exact c
  · rw [zH_out (by omega)] at h; unfold zdgt at h; exact absurd h.1 (by decide)
theorem zH_59 {el : Nat → Int32} {n i : Nat} (h : zH el n i = 59) : i < n := by
  rcases Nat.lt_or_ge i n with c | c
  · exact c
  · rw [zH_out (by omega)] at h; exact absurd h (by decide)
theorem zH_m {el : Nat → Int32} {n i : Nat} (h : ¬ zmd (zH el n i) = 0) : i < n := by
  rcases Nat.lt_or_ge i n with c | c
  · exact c
  · rw [zH_out (by omega)] at h; exact absurd (by decide) h
/-- where d digits and the sign behind them don't stand -/
noncomputable def zdg (g : Nat → Int32) : Nat → Nat → Option Nat
  | 0, i => if g i = 59 then none else some i
  | d + 1, i => @ite _ (zdgt (g i)) (Classical.propDecidable _) (zdg g d (i + 1)) (some i)
theorem zdg_0 (g : Nat → Int32) (i : Nat) : zdg g 0 i = if g i = 59 then none else some i := rfl
theorem zdg_s1 {g : Nat → Int32} {i : Nat} (d : Nat) (h : zdgt (g i)) : zdg g (d + 1) i = zdg g d (i + 1) := @if_pos _ (Classical.propDecidable _) h _ _ _
theorem zdg_s0 {g : Nat → Int32} {i : Nat} (d : Nat) (h : ¬ zdgt (g i)) : zdg g (d + 1) i = some i := @if_neg _ (Classical.propDecidable _) h _ _ _
theorem zdg_none {g : Nat → Int32} : ∀ d i, zdg g d i = none → (∀ j, j < d → zdgt (g (i + j))) ∧ g (i + d) = 59
  | 0, i, h => by
    rw [zdg_0] at h
    refine ⟨fun j hj => absurd hj (Nat.not_lt_zero j), ?_⟩
    by_cases c : g i = 59
    · exact c
    · rw [if_neg c] at h; cases h
  | d + 1, i, h => by
    by_cases c : zdgt (g i)
    · rw [zdg_s1 d c] at h
      obtain ⟨h1, h2⟩ := zdg_none d (i + 1) h
      refine ⟨fun j hj => ?_, by rw [show i + (d + 1) = i + 1 + d by omega]; exact h2⟩
      cases j with
      | zero => exact c
      | succ j => have := h1 j (by omega); rw [show i + (j + 1) = i + 1 + j by omega]; exact this
    · rw [zdg_s0 d c] at h; cases h
noncomputable def zon (g : Nat → Int32) (p : Nat) : Option Nat := if zmd (g p) = 0 then some p else zdg g (zmd (g p)) (p + 1)
/-- the place of the k-th statement -/
def zP (g : Nat → Int32) : Nat → Nat
  | 0 => 0
  | k + 1 => zP g k + zmd (g (zP g k)) + 2
theorem zP_0 (g : Nat → Int32) : zP g 0 = 0 := rfl
theorem zP_s (g : Nat → Int32) (k : Nat) : zP g (k + 1) = zP g k + zmd (g (zP g k)) + 2 := rfl
theorem zon_none {g : Nat → Int32} {p : Nat} (h : zon g p = none) : ¬ zmd (g p) = 0 ∧ (∀ j, j < zmd (g p) → zdgt (g (p + 1 + j))) ∧ g (p + 1 + zmd (g p)) = 59 := by
  unfold zon at h
  by_cases c : zmd (g p) = 0
  · rw [if_pos c] at h; cases h
  · rw [if_neg c] at h
    exact ⟨c, zdg_none _ _ h⟩
theorem zP_ge {g : Nat → Int32} : ∀ k, (∀ j, j < k → zon g (zP g j) = none) → 3 * k ≤ zP g k
  | 0, _ => Nat.zero_le _
  | k + 1, h => by
    have h1 := zP_ge k (fun j hj => h j (by omega))
    have h2 := (zon_none (h k (by omega))).1
    rw [zP_s]; omega
/-- a text is good as a whole, or there is a first statement that isn't -/
theorem zP_all (el : Nat → Int32) (n : Nat) : ∀ d k, zP (zH el n) k + d = n → (∀ j, j < k → zon (zH el n) (zP (zH el n) j) = none) → (0 < k ∨ 0 < d) → (∃ K, (∀ j, j < K → zon (zH el n) (zP (zH el n) j) = none) ∧ zP (zH el n) K = n ∧ 0 < K) ∨ ∃ K w, (∀ j, j < K → zon (zH el n) (zP (zH el n) j) = none) ∧ zP (zH el n) K < n ∧ zon (zH el n) (zP (zH el n) K) = some w := by
  intro d
  induction d using Nat.strongRecOn with
  | ind d ih =>
    intro k hk hg h0
    by_cases c : d = 0
    · exact Or.inl ⟨k, hg, by omega, by omega⟩
    · cases e : zon (zH el n) (zP (zH el n) k) with
      | some w => exact Or.inr ⟨k, w, hg, by omega, e⟩
      | none =>
        obtain ⟨a1, a2, a3⟩ := zon_none e
        have hl := zH_59 a3
        have hs := zP_s (zH el n) k
        refine ih (n - zP (zH el n) (k + 1)) (by omega) (k + 1) (by omega) (fun j hj => ?_) (Or.inl (by omega))
        by_cases c2 : j = k
        · subst c2; exact e
        · exact hg j (by omega)
/-! the class looks for it -/
section
variable {x : zzS} {e n : Nat}
theorem x_fw_d (he : e < 8) (hn : n ≤ 100) (h2 : zzi x (4 + 2 * e) 2 = nI n) : ∀ d i N, d ≤ 10 → i ≤ n → n < N + i → f_X7_firstWrongByte_6 (4 + 2 * e) N (nI 0) (nI d) (nI i) x = match zdg (zH (fun j => zza x (5 + 2 * e) j) n) d i with
    | some w => some (nI w, x)
    | none => f_X7_firstWrongByte_6 (4 + 2 * e) (N - (d + 1)) (nI 1) (nI 0) (nI (i + d + 1)) x := by
  intro d
  induction d with
  | zero =>
    intro i N _ hi hN
    obtain ⟨N, rfl⟩ : ∃ n', N = n' + 1 := ⟨N - 1, by omega⟩
    have e0 : f_X7_firstWrongByte_6 (4 + 2 * e) (N + 1) (nI 0) (nI 0) (nI i) x = f_X7_firstWrongByte_6b (f_X7_firstWrongByte_6 (4 + 2 * e) N) (4 + 2 * e) (nI 0) (nI 0) (nI i) x := rfl
    rw [e0, zdg_0]
    unfold f_X7_firstWrongByte_6b
    by_cases c : i < n
    · rw [h2, if_pos ((q_lt (by omega) (by omega)).mpr c), x7_at he h2 hn c, zzbd_s, if_pos (show nI 0 = 0 from rfl), if_neg (show ¬ (0 : Int32) < nI 0 by decide), zH_in c]
      by_cases c2 : zza x (5 + 2 * e) i = 59
      · rw [if_pos c2, if_pos c2]
        unfold f_X7_firstWrongByte_73
        rw [q1, nI_add, zzlt_eq]
        rfl
      · rw [if_neg c2, if_neg c2]
    · rw [h2, if_neg (fun z => c ((q_lt (by omega) (by omega)).mp z)), if_pos (show nI 0 = 0 from rfl), zH_out c, if_neg (by decide)]
      have : i = n := by omega
      rw [this]
  | succ d ih =>
    intro i N hd hi hN
    obtain ⟨N, rfl⟩ : ∃ n', N = n' + 1 := ⟨N - 1, by omega⟩
    have d0 : (0 : Int32) < nI (d + 1) := (q_lt (a := 0) (by omega) (by omega)).mpr (by omega)
    have e0 : f_X7_firstWrongByte_6 (4 + 2 * e) (N + 1) (nI 0) (nI (d + 1)) (nI i) x = f_X7_firstWrongByte_6b (f_X7_firstWrongByte_6 (4 + 2 * e) N) (4 + 2 * e) (nI 0) (nI (d + 1)) (nI i) x := rfl
    rw [e0]
    unfold f_X7_firstWrongByte_6b
    by_cases c : i < n
    · haveI : Decidable (zdgt (zza x (5 + 2 * e) i)) := Classical.propDecidable _
      have hs : nI (d + 1) - nI 1 = nI d := by rw [q_sub (by omega)]; rfl
      rw [h2, if_pos ((q_lt (by omega) (by omega)).mpr c), x7_at he h2 hn c, zzbd_s, if_pos (show nI 0 = 0 from rfl), if_pos d0, x_isd, zzbd_s]
      by_cases c2 : zdgt (zza x (5 + 2 * e) i)
      · rw [if_pos c2, if_neg (show ¬ nI 1 = 0 by decide), zdg_s1 d (by rw [zH_in c]; exact c2), q1, q_dn, hs, zzlt_eq]
        unfold f_X7_firstWrongByte_73
        rw [q1, nI_add, zzlt_eq, ih (i + 1) N (by omega) (by omega) (by omega), show i + 1 + d + 1 = i + (d + 1) + 1 by omega, show N + 1 - (d + 1 + 1) = N - (d + 1) by omega]
      · rw [if_neg c2, if_pos (show nI 0 = 0 from rfl), zdg_s0 d (by rw [zH_in c]; exact c2)]
    · have : ¬ zdgt (zH (fun j => zza x (5 + 2 * e) j) n i) := fun z => c (zH_d z)
      rw [h2, if_neg (fun z => c ((q_lt (by omega) (by omega)).mp z)), if_pos (show nI 0 = 0 from rfl), zdg_s0 d this]
      have : i = n := by omega
      rw [this]
theorem x_fw_s (he : e < 8) (hn : n ≤ 100) (h2 : zzi x (4 + 2 * e) 2 = nI n) {p N : Nat} (hp : p < n) (hN : n < N + p) : f_X7_firstWrongByte_6 (4 + 2 * e) N (nI 1) (nI 0) (nI p) x = match zon (zH (fun j => zza x (5 + 2 * e) j) n) p with
    | some w => some (nI w, x)
    | none => f_X7_firstWrongByte_6 (4 + 2 * e) (N - (zmd (zza x (5 + 2 * e) p) + 2)) (nI 1) (nI 0) (nI (p + zmd (zza x (5 + 2 * e) p) + 2)) x := by
  obtain ⟨N, rfl⟩ : ∃ n', N = n' + 1 := ⟨N - 1, by omega⟩
  have e0 : f_X7_firstWrongByte_6 (4 + 2 * e) (N + 1) (nI 1) (nI 0) (nI p) x = f_X7_firstWrongByte_6b (f_X7_firstWrongByte_6 (4 + 2 * e) N) (4 + 2 * e) (nI 1) (nI 0) (nI p) x := rfl
  have hz : zH (fun j => zza x (5 + 2 * e) j) n p = zza x (5 + 2 * e) p := zH_in hp
  have hle := zmd_le (zza x (5 + 2 * e) p)
  rw [e0]
  unfold f_X7_firstWrongByte_6b zon
  rw [h2, if_pos ((q_lt (by omega) (by omega)).mpr hp), x7_at he h2 hn hp, zzbd_s, if_neg (show ¬ nI 1 = 0 by decide), x_dgb, zzbd_s, hz]
  by_cases c : zmd (zza x (5 + 2 * e) p) = 0
  · rw [if_pos c, c, if_pos (show nI 0 = 0 from rfl)]
  · rw [if_neg c, if_neg (q_ne0 (by omega) c)]
    unfold f_X7_firstWrongByte_73
    rw [q0, q1, nI_add, zzlt_eq, x_fw_d he hn h2 _ (p + 1) N (by omega) (by omega) (by omega), show p + 1 + zmd (zza x (5 + 2 * e) p) + 1 = p + zmd (zza x (5 + 2 * e) p) + 2 by omega, show N + 1 - (zmd (zza x (5 + 2 * e) p) + 2) = N - (zmd (zza x (5 + 2 * e) p) + 1) by omega]
theorem x_fw_k (he : e < 8) (hn : n ≤ 100) (h2 : zzi x (4 + 2 * e) 2 = nI n) : ∀ k, (∀ j, j < k → zon (zH (fun j => zza x (5 + 2 * e) j) n) (zP (zH (fun j => zza x (5 + 2 * e) j) n) j) = none) → zP (zH (fun j => zza x (5 + 2 * e) j) n) k ≤ n → f_X7_firstWrongByte (4 + 2 * e) x = f_X7_firstWrongByte_6 (4 + 2 * e) (200 - zP (zH (fun j => zza x (5 + 2 * e) j) n) k) (nI 1) (nI 0) (nI (zP (zH (fun j => zza x (5 + 2 * e) j) n) k)) x := by
  intro k
  induction k with
  | zero => intro _ _; rfl
  | succ k ih =>
    intro hg hle
    have hk := hg k (by omega)
    obtain ⟨a1, a2, a3⟩ := zon_none hk
    have hl := zH_m a1
    have hz : zH (fun j => zza x (5 + 2 * e) j) n (zP (zH (fun j => zza x (5 + 2 * e) j) n) k) = zza x (5 + 2 * e) (zP (zH (fun j => zza x (5 + 2 * e) j) n) k) := zH_in hl
    have hs := zP_s (zH (fun j => zza x (5 + 2 * e) j) n) k
    rw [ih (fun j hj => hg j (by omega)) (by omega), x_fw_s he hn h2 hl (by omega), hk]
    rw [hz] at hs
    rw [hs, show 200 - zP (zH (fun j => zza x (5 + 2 * e) j) n) k - (zmd (zza x (5 + 2 * e) (zP (zH (fun j => zza x (5 + 2 * e) j) n) k)) + 2) = 200 - (zP (zH (fun j => zza x (5 + 2 * e) j) n) k + zmd (zza x (5 + 2 * e) (zP (zH (fun j => zza x (5 + 2 * e) j) n) k)) + 2) by omega]
theorem x_fw_end {N : Nat} (h2 : zzi x (4 + 2 * e) 2 = nI n) (hn : n ≤ 100) (h0 : 0 < n) : f_X7_firstWrongByte_6 (4 + 2 * e) (N + 1) (nI 1) (nI 0) (nI n) x = some (-4, x) := by
  have e0 : f_X7_firstWrongByte_6 (4 + 2 * e) (N + 1) (nI 1) (nI 0) (nI n) x = f_X7_firstWrongByte_6b (f_X7_firstWrongByte_6 (4 + 2 * e) N) (4 + 2 * e) (nI 1) (nI 0) (nI n) x := rfl
  rw [e0]
  unfold f_X7_firstWrongByte_6b
  rw [h2, if_neg (fun z => Nat.lt_irrefl n ((q_lt (by omega) (by omega)).mp z)), if_neg (show ¬ nI 1 = 0 by decide), if_pos (show (0 : Int32) < nI n from (q_lt (a := 0) (by omega) (by omega)).mpr h0)]
theorem x_fw_00 {N : Nat} (h2 : zzi x (4 + 2 * e) 2 = nI 0) : f_X7_firstWrongByte_6 (4 + 2 * e) (N + 1) (nI 1) (nI 0) (nI 0) x = some (nI 0, x) := by
  have e0 : f_X7_firstWrongByte_6 (4 + 2 * e) (N + 1) (nI 1) (nI 0) (nI 0) x = f_X7_firstWrongByte_6b (f_X7_firstWrongByte_6 (4 + 2 * e) N) (4 + 2 * e) (nI 1) (nI 0) (nI 0) x := rfl
  rw [e0]
  unfold f_X7_firstWrongByte_6b
  rw [h2, if_neg (by decide), if_neg (show ¬ nI 1 = 0 by decide), if_neg (by decide)]
end
