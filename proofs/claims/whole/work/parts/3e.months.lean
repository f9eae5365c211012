/-! ===== months ===== -/
def zsd (s : Int32) : Int32 := s * 1103515245 + 12345
def zdr (s : Int32) (n : Nat) : Nat := ((s &&& 2147483647).toBitVec.toNat / 65536) % n
theorem q_and31 (s : Int32) : (s &&& 2147483647) = nI (s &&& 2147483647).toBitVec.toNat ∧ (s &&& 2147483647).toBitVec.toNat < 2147483648 := by
  constructor
  · apply Int32.toBitVec_inj.mp
    show (s &&& 2147483647).toBitVec = BitVec.ofNat 32 (s &&& 2147483647).toBitVec.toNat
    rw [BitVec.ofNat_toNat, BitVec.setWidth_eq]
  · have e : (s &&& 2147483647).toBitVec = s.toBitVec &&& (2147483647 : Int32).toBitVec := rfl
    rw [e, BitVec.toNat_and]
    have h : (2147483647 : Int32).toBitVec.toNat = 2147483647 := rfl
    rw [h]
    have := Nat.and_le_right (n := s.toBitVec.toNat) (m := 2147483647)
    omega
theorem q_dr (s : Int32) {n : Nat} (h0 : 0 < n) (h1 : n < 100) : (s &&& 2147483647) / 65536 - (s &&& 2147483647) / 65536 / nI n * nI n = nI (zdr s n) := by
  have h := q_and31 s
  have e : (65536 : Int32) = nI 65536 := rfl
  unfold zdr
  rw [h.1]
  have h2 := h.2
  generalize (s &&& 2147483647).toBitVec.toNat = a at h2
  have e2 : (nI a).toBitVec.toNat = a := by
    show (BitVec.ofNat 32 a).toNat = a
    rw [BitVec.toNat_ofNat]; exact Nat.mod_eq_of_lt (by omega)
  rw [e2, e, q_div h2 (by omega) (by omega), q_div (by omega) h0 (by omega), pk_mul, q_sub (Nat.div_mul_le_self _ _)]
  congr 1
  have := Nat.div_add_mod (a / 65536) n
  rw [Nat.mul_comm] at this
  omega
theorem zdr_lt (s : Int32) {n : Nat} (h0 : 0 < n) : zdr s n < n := Nat.mod_lt _ h0
def zcb (U : zT) (p q : Nat) : Bool := zmb U (zl U) p q && decide (zt U q < 9)
def zcT (U : zT) (p q : Nat) : zT := if zcb U p q = true then zturn U p q else if p = q then U else zgrow U p q
theorem zcT_n (U : zT) (p q : Nat) : zn (zcT U p q) = zn U := by
  unfold zcT
  split
  · rfl
  · split <;> rfl
def zmt (N : Nat) (a : Int32 × zT × Nat) : Int32 × zT × Nat :=
  (zsd (zsd a.1), zcT a.2.1 (zdr (zsd a.1) N) (zdr (zsd (zsd a.1)) N), a.2.2 + (if zcb a.2.1 (zdr (zsd a.1) N) (zdr (zsd (zsd a.1)) N) = true then 1 else 0))
def zmo (T : zT) (a : Int32 × Nat × Nat) : Int32 × Nat × Nat :=
  ((zup (fun _ => zmt (zn T)) 10 0 (a.1, T, a.2.2)).1, a.2.1 + zsm (zt (zup (fun _ => zmt (zn T)) 10 0 (a.1, T, a.2.2)).2.1) (zn T) 0, (zup (fun _ => zmt (zn T)) 10 0 (a.1, T, a.2.2)).2.2)
section
variable {x m : zzS} {t : Nat} {T U : zT}
theorem x_drw {N : Nat} (h0 : 0 < N) (h1 : N < 100) {s : Int32} (hs : zzi x 0 8 = s) : f_X11_draw (nI N) x = some (nI (zdr (zsd s) N), zzsi x 0 8 (zsd s)) := by
  have g : zzi (zzsi x 0 8 (zsd s)) 0 8 = zsd s := by rw [q_ii, if_pos ⟨rfl, rfl⟩]
  unfold f_X11_draw
  rw [hs, show s * (1103515245 : Int32) + (12345 : Int32) = zsd s from rfl, zzlt_eq, g, zzlt_eq, q0, if_pos ((q_lt (by omega) (by omega)).mpr h0), zzgd_t (show ¬ nI N = nI 0 from fun z => by rw [q_eq (by omega) (by omega)] at z; omega), q_dr _ h0 h1]
theorem m_drw {N : Nat} (h0 : 0 < N) (h1 : N < 100) {s : Int32} (hs : zzi m 36 29 = s) : f_X12_drawBelow (nI N) m = some (nI (zdr (zsd s) N), zzsi m 36 29 (zsd s)) := by
  have g : zzi (zzsi m 36 29 (zsd s)) 36 29 = zsd s := by rw [q_ii, if_pos ⟨rfl, rfl⟩]
  unfold f_X12_drawBelow
  rw [hs, show s * (1103515245 : Int32) + (12345 : Int32) = zsd s from rfl, zzlt_eq, g, q0, zzgd_t (show ¬ nI N = nI 0 from fun z => by rw [q_eq (by omega) (by omega)] at z; omega), q_dr _ h0 h1]
theorem x_try (h : zXT x t U) (ht : zztown t) {p q : Nat} (hp : p < zn U) (hq : q < zn U) : ∃ x', f_X10_turnElseSee t (nI p) (nI q) x = some (zbn (zcb U p q), x') ∧ zXT x' t (zcT U p q) ∧ zFR t x x' := by
  have h7 := h.1.1
  have hL := h.1.2.1
  have ho := h.1.2.2.2.2.1 q (by omega)
  have see : ∀ b : Bool, zcb U p q = b → b = false → ∃ x', f_X10_turnElseSee_31 t (nI p) (nI q) x = some (nI 0, x') ∧ zXT x' t (if p = q then U else zgrow U p q) ∧ zFR t x x' := by
    intro b _ _
    by_cases c : p = q
    · rw [if_pos c]
      subst c
      exact ⟨x, by simp (disch := omega) only [f_X10_turnElseSee_31, x_two h hp hp, zzbd_s, zzlt_eq, zzon_n, zzon_s, q0, q1, q2, q3, q4, q5, q6, q7, q8, q9, q10, q11, q12, q20, q48, q49, q57, q59, q99, q100, q999, nI_add, pk_mul, q_lt0, q_lt, q_eq, q_cl, q_gd, if_true, if_false, q_ofNat, q_min, q_max, ite_self, Nat.not_lt_zero, q_e10, q_e01, eq_self, not_true_eq_false, not_false_eq_true, and_true, true_and, and_false, false_and, or_true, true_or, or_false, false_or, q_gdT, Nat.reduceEqDiff, Bool.false_eq_true, Nat.lt_irrefl, Nat.or_zero], h, zFR_refl _ _⟩
    · rw [if_neg c]
      obtain ⟨x', g1, g2, g3⟩ := x_growT h ht hp hq c
      exact ⟨x', by simp (disch := omega) only [f_X10_turnElseSee_31, x_two h hp hq, c, g1, q_e1_0, zzbd_s, zzlt_eq, zzon_n, zzon_s, q0, q1, q2, q3, q4, q5, q6, q7, q8, q9, q10, q11, q12, q20, q48, q49, q57, q59, q99, q100, q999, nI_add, pk_mul, q_lt0, q_lt, q_eq, q_cl, q_gd, if_true, if_false, q_ofNat, q_min, q_max, ite_self, Nat.not_lt_zero, q_e10, q_e01, eq_self, not_true_eq_false, not_false_eq_true, and_true, true_and, and_false, false_and, or_true, true_or, or_false, false_or, q_gdT, Nat.reduceEqDiff, Bool.false_eq_true, Nat.lt_irrefl, Nat.or_zero], g2, g3⟩
  cases e1 : zmb U (zl U) p q with
  | false =>
    have e : zcb U p q = false := by unfold zcb; rw [e1]; rfl
    obtain ⟨x', g1, g2, g3⟩ := see false e rfl
    refine ⟨x', ?_, by unfold zcT; rw [if_neg (by rw [e]; decide)]; exact g2, g3⟩
    rw [e]
    simp (disch := omega) only [f_X10_turnElseSee, h.2.2.1, x_mb h ht, e1, g1, zbn_f, zzbd_s, zzlt_eq, zzon_n, zzon_s, q0, q1, q2, q3, q4, q5, q6, q7, q8, q9, q10, q11, q12, q20, q48, q49, q57, q59, q99, q100, q999, nI_add, pk_mul, q_lt0, q_lt, q_eq, q_cl, q_gd, if_true, if_false, q_ofNat, q_min, q_max, ite_self, Nat.not_lt_zero, q_e10, q_e01, eq_self, not_true_eq_false, not_false_eq_true, and_true, true_and, and_false, false_and, or_true, true_or, or_false, false_or, q_gdT, Nat.reduceEqDiff, Bool.false_eq_true, Nat.lt_irrefl, Nat.or_zero]
  | true =>
    by_cases c : zt U q < 9
    · have e : zcb U p q = true := by unfold zcb; rw [e1, decide_eq_true c]; rfl
      obtain ⟨x', g1, g2, g3⟩ := x_turnT h ht hp hq (zmb_ne e1)
      refine ⟨x', ?_, by unfold zcT; rw [if_pos e]; exact g2, g3⟩
      rw [e]
      simp (disch := omega) only [f_X10_turnElseSee, h.2.2.1, x_mb h ht, e1, x_turnedOf h ht hq, c, g1, zbn_t, q_e1_0, zzbd_s, zzlt_eq, zzon_n, zzon_s, q0, q1, q2, q3, q4, q5, q6, q7, q8, q9, q10, q11, q12, q20, q48, q49, q57, q59, q99, q100, q999, nI_add, pk_mul, q_lt0, q_lt, q_eq, q_cl, q_gd, if_true, if_false, q_ofNat, q_min, q_max, ite_self, Nat.not_lt_zero, q_e10, q_e01, eq_self, not_true_eq_false, not_false_eq_true, and_true, true_and, and_false, false_and, or_true, true_or, or_false, false_or, q_gdT, Nat.reduceEqDiff, Bool.false_eq_true, Nat.lt_irrefl, Nat.or_zero]
    · have e : zcb U p q = false := by unfold zcb; rw [e1, decide_eq_false c]; rfl
      obtain ⟨x', g1, g2, g3⟩ := see false e rfl
      refine ⟨x', ?_, by unfold zcT; rw [if_neg (by rw [e]; decide)]; exact g2, g3⟩
      rw [e]
      simp (disch := omega) only [f_X10_turnElseSee, h.2.2.1, x_mb h ht, e1, x_turnedOf h ht hq, c, g1, zbn_f, q_e1_0, zzbd_s, zzlt_eq, zzon_n, zzon_s, q0, q1, q2, q3, q4, q5, q6, q7, q8, q9, q10, q11, q12, q20, q48, q49, q57, q59, q99, q100, q999, nI_add, pk_mul, q_lt0, q_lt, q_eq, q_cl, q_gd, if_true, if_false, q_ofNat, q_min, q_max, ite_self, Nat.not_lt_zero, q_e10, q_e01, eq_self, not_true_eq_false, not_false_eq_true, and_true, true_and, and_false, false_and, or_true, true_or, or_false, false_or, q_gdT, Nat.reduceEqDiff, Bool.false_eq_true, Nat.lt_irrefl, Nat.or_zero]
theorem zPX_8 (x : zzS) (v : Int32) : zPX x (zzsi x 0 8 v) := ⟨fun k f _ d => (q_ii ..).trans (if_neg d), fun _ _ _ => rfl, fun _ _ _ => rfl, fun _ => rfl⟩
theorem zXT_8 (ht : zztown t) (h : zXT x t T) (v : Int32) : zXT (zzsi x 0 8 v) t T := zXT_hi ht h (fun k f c => by rw [q_ii, if_neg (by omega)]) (fun _ _ _ => rfl) (fun _ _ _ => rfl)
end
