/-! ===== layer 2: the numbers behind both sides ===== -/
-- a town: how many, LIMIT, DAY, kinds, figures, turned cards, fond (one 7 p + q place for each two)
abbrev zT : Type := Nat × Nat × Nat × (Nat → Nat) × (Nat → Nat) × (Nat → Nat) × (Nat → Nat)
def zn (T : zT) : Nat := T.1
def zl (T : zT) : Nat := T.2.1
def zd (T : zT) : Nat := T.2.2.1
def zk (T : zT) (p : Nat) : Nat := T.2.2.2.1 p
def zf (T : zT) (p : Nat) : Nat := T.2.2.2.2.1 p
def zt (T : zT) (p : Nat) : Nat := T.2.2.2.2.2.1 p
def zo (T : zT) (i : Nat) : Nat := T.2.2.2.2.2.2 i
def ztl (T : zT) (v : Nat) : zT := (T.1, v, T.2.2)
def ztd (T : zT) (v : Nat) : zT := (T.1, T.2.1, v, T.2.2.2)
def ztt (T : zT) (p v : Nat) : zT := (T.1, T.2.1, T.2.2.1, T.2.2.2.1, T.2.2.2.2.1, va_up T.2.2.2.2.2.1 p v, T.2.2.2.2.2.2)
def zto (T : zT) (i v : Nat) : zT := (T.1, T.2.1, T.2.2.1, T.2.2.2.1, T.2.2.2.2.1, T.2.2.2.2.2.1, va_up T.2.2.2.2.2.2 i v)
def zta (T : zT) (k f : Nat) : zT := (T.1 + 1, T.2.1, T.2.2.1, va_up T.2.2.2.1 T.1 k, va_up T.2.2.2.2.1 T.1 f, T.2.2.2.2.2.1, T.2.2.2.2.2.2)
def zgr (T : zT) (p : Nat) : Nat := match zk T p with
  | 1 => 1 | 2 => 2 + zf T p / 3 | 3 => 0 | 4 => zf T p / 2 | 5 => 1 + zf T p / 4 | 6 => (2 + zf T p / 3) / 2 | 7 => 3 | _ => 2
/-- BEARS and 1 -/
def zbe (T : zT) (p : Nat) : Nat := match zk T p with
  | 1 => 2 | 3 => 10 | 4 => 0 | 5 => 3 | 7 => 4 | _ => 1
def ztu (T : zT) (p : Nat) : Nat := match zk T p with
  | 2 => 2 | 3 => 3 | 6 => 2 + zf T p / 3 | 7 => 3 | _ => 1
def zsh (T : zT) (p f : Nat) : Nat := match zk T p with
  | 2 => f | 6 => f / 2 | _ => 0
/-- p MAY TURN for q by the limit L -/
def zmay (T : zT) (L p q : Nat) : Prop := p ≠ q ∧ zo T (7 * p + q) < zbe T p + L
abbrev zV (T : zT) : Prop := zn T ≤ 7 ∧ zl T ≤ 9 ∧ zd T ≤ 999 ∧ (∀ p, p < zn T → zk T p < 8 ∧ zf T p ≤ 9) ∧ (∀ p, p < 7 → zt T p ≤ 9) ∧ (∀ i, i < 49 → zo T i ≤ 9) ∧ (∀ p, p < 7 → zn T ≤ p → zt T p = 0) ∧ ∀ p q, p < 7 → q < 7 → (zn T ≤ p ∨ zn T ≤ q) → zo T (7 * p + q) = 0
/-- the class's town at the cell t; the reference's -/
abbrev zXT (x : zzS) (t : Nat) (T : zT) : Prop := zV T ∧ zzi x t 4 = nI (zn T) ∧ zzi x t 5 = nI (zl T) ∧ zzi x t 6 = nI (zd T) ∧ (∀ p, p < zn T → zzr x (t + 1) p = some (zk T p, nI (zf T p))) ∧ (∀ p, p < 7 → zza x (t + 2) p = nI (zt T p)) ∧ ∀ i, i < 49 → zza x (t + 3) i = nI (zo T i)
abbrev zMT (m : zzS) (T : zT) : Prop := zV T ∧ zzi m 36 0 = nI (zn T) ∧ zzi m 36 5 = nI (zl T) ∧ zzi m 36 6 = nI (zd T) ∧ (∀ p, p < zn T → zza m 37 p = nI (zk T p) ∧ zza m 38 p = nI (zf T p)) ∧ (∀ p, p < 7 → zza m 39 p = nI (zt T p)) ∧ ∀ i, i < 49 → zza m 40 i = nI (zo T i)
theorem q_k8 {k : Nat} (h : k < 8) : k = 0 ∨ k = 1 ∨ k = 2 ∨ k = 3 ∨ k = 4 ∨ k = 5 ∨ k = 6 ∨ k = 7 := by omega
theorem q0 : (0 : Int32) = nI 0 := rfl
theorem q1 : (1 : Int32) = nI 1 := rfl
theorem q2 : (2 : Int32) = nI 2 := rfl
theorem q3 : (3 : Int32) = nI 3 := rfl
theorem q4 : (4 : Int32) = nI 4 := rfl
theorem q5 : (5 : Int32) = nI 5 := rfl
theorem q6 : (6 : Int32) = nI 6 := rfl
theorem q7 : (7 : Int32) = nI 7 := rfl
theorem q8 : (8 : Int32) = nI 8 := rfl
theorem q9 : (9 : Int32) = nI 9 := rfl
theorem q10 : (10 : Int32) = nI 10 := rfl
theorem q11 : (11 : Int32) = nI 11 := rfl
theorem q12 : (12 : Int32) = nI 12 := rfl
theorem q13 : (13 : Int32) = nI 13 := rfl
theorem q20 : (20 : Int32) = nI 20 := rfl
theorem q48 : (48 : Int32) = nI 48 := rfl
theorem q49 : (49 : Int32) = nI 49 := rfl
theorem q50 : (50 : Int32) = nI 50 := rfl
theorem q53 : (53 : Int32) = nI 53 := rfl
theorem q55 : (55 : Int32) = nI 55 := rfl
theorem q57 : (57 : Int32) = nI 57 := rfl
theorem q59 : (59 : Int32) = nI 59 := rfl
theorem q99 : (99 : Int32) = nI 99 := rfl
theorem q100 : (100 : Int32) = nI 100 := rfl
theorem q102 : (102 : Int32) = nI 102 := rfl
theorem q108 : (108 : Int32) = nI 108 := rfl
theorem q112 : (112 : Int32) = nI 112 := rfl
theorem q115 : (115 : Int32) = nI 115 := rfl
theorem q116 : (116 : Int32) = nI 116 := rfl
theorem q128 : (128 : Int32) = nI 128 := rfl
theorem q153 : (153 : Int32) = nI 153 := rfl
theorem q800 : (800 : Int32) = nI 800 := rfl
theorem q999 : (999 : Int32) = nI 999 := rfl
theorem q1000 : (1000 : Int32) = nI 1000 := rfl
theorem q1024 : (1024 : Int32) = nI 1024 := rfl
theorem q2000 : (2000 : Int32) = nI 2000 := rfl
theorem q_in {i N : Nat} (h : i < N) (hN : N < 2147483648) : zzin (nI i) N := nI_in h hN
theorem q_gd {α : Type} {i N : Nat} {x : Option α} (h : i < N) (hN : N < 2147483648) : zzgd (zzin (nI i) N) x = x := zzgd_t (nI_in h hN)
theorem q_nin {i N : Nat} (h : i < 2147483648) : zzin (nI i) N ↔ i < N := by
  constructor
  · intro h1
    have h2 : ¬ N ≤ (nI i).toNatClampNeg := fun q => h1 (Or.inr q)
    rw [nI_clamp h] at h2
    omega
  · intro h1 h2
    rcases h2 with h2 | h2
    · exact nI_pos h h2
    · rw [nI_clamp h] at h2
      omega
theorem q_lt0 {i : Nat} (h : i < 2147483648) : (nI i < 0) = False := eq_false (nI_pos h)
theorem q_lt {a b : Nat} (ha : a < 2147483648) (hb : b < 2147483648) : nI a < nI b ↔ a < b := nI_ltI ha hb
theorem q_eq {a b : Nat} (ha : a < 2147483648) (hb : b < 2147483648) : nI a = nI b ↔ a = b := nI_eq ha hb
theorem q_cl {a : Nat} (ha : a < 2147483648) : (nI a).toNatClampNeg = a := nI_clamp ha
theorem q_sub {a b : Nat} (h : b ≤ a) : nI a - nI b = nI (a - b) := pk_sub h
theorem q_div {a d : Nat} (ha : a < 2147483648) (h0 : 0 < d) (hd : d < 2147483648) : nI a / nI d = nI (a / d) := pk_div ha h0 hd
theorem q_ofNat (a : Nat) : Int32.ofNat a = nI a := rfl
theorem q_min {a b : Nat} (ha : a < 2147483648) (hb : b < 2147483648) : zzmin (nI a) (nI b) = nI (min a b) := by
  unfold zzmin
  by_cases h : b < a
  · rw [if_pos ((q_lt hb ha).mpr h), Nat.min_eq_right (by omega)]
  · rw [if_neg (fun z => h ((q_lt hb ha).mp z)), Nat.min_eq_left (by omega)]
theorem q_max {a b : Nat} (ha : a < 2147483648) (hb : b < 2147483648) : zzmax (nI a) (nI b) = nI (max a b) := by
  unfold zzmax
  by_cases h : a < b
  · rw [if_pos ((q_lt ha hb).mpr h), Nat.max_eq_right (by omega)]
  · rw [if_neg (fun z => h ((q_lt ha hb).mp z)), Nat.max_eq_left (by omega)]
theorem q_gdT {α : Type} {x : Option α} [Decidable True] : zzgd True x = x := if_pos trivial
theorem q_e10 : ((1 : Nat) = 0) = False := eq_false (by decide)
theorem q_e01 : ((0 : Nat) = 1) = False := eq_false (by decide)
theorem q_10 : ((1 : Int32) = 0) = False := eq_false (by decide)
theorem q_01 : ((0 : Int32) = 1) = False := eq_false (by decide)
theorem q_len5 : zzlen 5 = 100 := rfl
theorem q_len7 : zzlen 7 = 100 := rfl
theorem q_len9 : zzlen 9 = 100 := rfl
theorem q_len11 : zzlen 11 = 100 := rfl
theorem q_len13 : zzlen 13 = 100 := rfl
theorem q_len15 : zzlen 15 = 100 := rfl
theorem q_len17 : zzlen 17 = 100 := rfl
theorem q_len19 : zzlen 19 = 100 := rfl
theorem q_len22 : zzlen 22 = 7 := rfl
theorem q_len26 : zzlen 26 = 7 := rfl
theorem q_len30 : zzlen 30 = 7 := rfl
theorem q_len23 : zzlen 23 = 49 := rfl
theorem q_len27 : zzlen 27 = 49 := rfl
theorem q_len31 : zzlen 31 = 49 := rfl
theorem q_len33 : zzlen 33 = 7 := rfl
theorem q_len34 : zzlen 34 = 1024 := rfl
theorem q_len35 : zzlen 35 = 128 := rfl
theorem q_len37 : zzlen 37 = 7 := rfl
theorem q_len38 : zzlen 38 = 7 := rfl
theorem q_len39 : zzlen 39 = 7 := rfl
theorem q_len40 : zzlen 40 = 49 := rfl
theorem q_len41 : zzlen 41 = 8 := rfl
theorem q_len42 : zzlen 42 = 8 := rfl
theorem q_len43 : zzlen 43 = 8 := rfl
theorem q_len44 : zzlen 44 = 8 := rfl
theorem q_len45 : zzlen 45 = 8 := rfl
theorem q_len46 : zzlen 46 = 51 := rfl
theorem q_len47 : zzlen 47 = 51 := rfl
theorem q_len48 : zzlen 48 = 153 := rfl
theorem q_len49 : zzlen 49 = 73 := rfl
theorem q_len50 : zzlen 50 = 73 := rfl
theorem q_len51 : zzlen 51 = 1024 := rfl
theorem q_len52 : zzlen 52 = 1024 := rfl
theorem q_len2 {t : Nat} (h : zztown t) : zzlen (t + 2) = 7 := by rcases h with rfl | rfl | rfl <;> rfl
theorem q_len3 {t : Nat} (h : zztown t) : zzlen (t + 3) = 49 := by rcases h with rfl | rfl | rfl <;> rfl
theorem q_plen {t : Nat} (h : zztown t) : zzplen (t + 1) = 7 := by rcases h with rfl | rfl | rfl <;> rfl
-- reads behind writes
theorem q_ii (x : zzS) (k f k' f' : Nat) (v : Int32) : zzi (zzsi x k f v) k' f' = if k' = k ∧ f' = f then v else zzi x k' f' := rfl
theorem q_aa (x : zzS) (k f k' f' : Nat) (v : Int32) : zza (zzsa x k f v) k' f' = if k' = k ∧ f' = f then v else zza x k' f' := rfl
theorem q_ll (x : zzS) (k f k' f' : Nat) (v : Int64) : zzl (zzsl x k f v) k' f' = if k' = k ∧ f' = f then v else zzl x k' f' := rfl
theorem q_rr (x : zzS) (k f k' f' : Nat) (v : Option (Nat × Int32)) : zzr (zzsr x k f v) k' f' = if k' = k ∧ f' = f then v else zzr x k' f' := rfl
theorem q_qq (x : zzS) (f f' : Nat) (v : Option Nat) : zzq (zzsq x f v) f' = if f' = f then v else zzq x f' := rfl
theorem q_i_sa (x : zzS) (k f k' f' : Nat) v : zzi (zzsa x k f v) k' f' = zzi x k' f' := rfl
theorem q_i_sl (x : zzS) (k f k' f' : Nat) v : zzi (zzsl x k f v) k' f' = zzi x k' f' := rfl
theorem q_i_sr (x : zzS) (k f k' f' : Nat) v : zzi (zzsr x k f v) k' f' = zzi x k' f' := rfl
theorem q_a_si (x : zzS) (k f k' f' : Nat) v : zza (zzsi x k f v) k' f' = zza x k' f' := rfl
theorem q_a_sl (x : zzS) (k f k' f' : Nat) v : zza (zzsl x k f v) k' f' = zza x k' f' := rfl
theorem q_a_sr (x : zzS) (k f k' f' : Nat) v : zza (zzsr x k f v) k' f' = zza x k' f' := rfl
theorem q_l_si (x : zzS) (k f k' f' : Nat) v : zzl (zzsi x k f v) k' f' = zzl x k' f' := rfl
theorem q_l_sa (x : zzS) (k f k' f' : Nat) v : zzl (zzsa x k f v) k' f' = zzl x k' f' := rfl
theorem q_l_sr (x : zzS) (k f k' f' : Nat) v : zzl (zzsr x k f v) k' f' = zzl x k' f' := rfl
theorem q_r_si (x : zzS) (k f k' f' : Nat) v : zzr (zzsi x k f v) k' f' = zzr x k' f' := rfl
theorem q_r_sa (x : zzS) (k f k' f' : Nat) v : zzr (zzsa x k f v) k' f' = zzr x k' f' := rfl
theorem q_r_sl (x : zzS) (k f k' f' : Nat) v : zzr (zzsl x k f v) k' f' = zzr x k' f' := rfl
theorem q_i_sq (x : zzS) (f k' f' : Nat) v : zzi (zzsq x f v) k' f' = zzi x k' f' := rfl
theorem q_a_sq (x : zzS) (f k' f' : Nat) v : zza (zzsq x f v) k' f' = zza x k' f' := rfl
theorem q_l_sq (x : zzS) (f k' f' : Nat) v : zzl (zzsq x f v) k' f' = zzl x k' f' := rfl
theorem q_r_sq (x : zzS) (f k' f' : Nat) v : zzr (zzsq x f v) k' f' = zzr x k' f' := rfl
theorem q_q_si (x : zzS) (k f f' : Nat) v : zzq (zzsi x k f v) f' = zzq x f' := rfl
theorem q_q_sa (x : zzS) (k f f' : Nat) v : zzq (zzsa x k f v) f' = zzq x f' := rfl
theorem q_q_sl (x : zzS) (k f f' : Nat) v : zzq (zzsl x k f v) f' = zzq x f' := rfl
theorem q_q_sr (x : zzS) (k f f' : Nat) v : zzq (zzsr x k f v) f' = zzq x f' := rfl
