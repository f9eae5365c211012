/-! ===== months, the loops ===== -/
section
variable {x m : zzS} {t : Nat} {T U : zT}
/-- one try of the class -/
theorem x_mon_1 (k47 : Int32 → Int32 → Int32 → zzS → Option (Int32 × zzS)) (k : Int32 → Int32 → Int32 → Int32 → zzS → Option (Int32 × zzS)) (p0 p1 p2 : Int32) {N : Nat} (h0 : 0 < N) {c mo i tu : Nat} (hi : i < 10) {s : Int32} {y : zzS} (h1 : zXT y 24 U) (h2 : zn U = N) (h3 : zXT y 20 T) (h4 : zzi y 0 8 = s) : ∃ y', f_X11_months_67b k47 k p0 p1 p2 (nI c) (nI tu) (nI mo) (nI i) y = k (nI c) (nI (zmt N (s, U, tu)).2.2) (nI mo) (nI (i + 1)) y' ∧ zXT y' 24 (zmt N (s, U, tu)).2.1 ∧ zXT y' 20 T ∧ zPX y y' ∧ zzi y' 0 8 = (zmt N (s, U, tu)).1 := by
  have ht : zztown 20 := Or.inl rfl
  have ht2 : zztown 24 := Or.inr (Or.inl rfl)
  have h7 := h1.1.1
  have d1 := x_drw (N := N) h0 (by omega) h4
  have k1 := zXT_8 ht2 h1 (zsd s)
  have d2 := x_drw (x := zzsi y 0 8 (zsd s)) (N := N) h0 (by omega) (s := zsd s) (by rw [q_ii, if_pos ⟨rfl, rfl⟩])
  have k2 := zXT_8 ht2 k1 (zsd (zsd s))
  have k3 := zXT_8 ht (zXT_8 ht h3 (zsd s)) (zsd (zsd s))
  have r1 : zzi y 24 4 = nI N := by rw [h1.2.1, h2]
  have r2 : zzi (zzsi y 0 8 (zsd s)) 24 4 = nI N := by rw [k1.2.1, h2]
  obtain ⟨y1, g1, g2, g3⟩ := x_try k2 ht2 (p := zdr (zsd s) N) (q := zdr (zsd (zsd s)) N) (by rw [h2]; exact zdr_lt _ h0) (by rw [h2]; exact zdr_lt _ h0)
  have k4 := zXT_fr ht2 ht (by omega) k3 g3
  have s1 : zzi y1 0 8 = zsd (zsd s) := by rw [g3.1 0 8 (by omega), q_ii, if_pos ⟨rfl, rfl⟩]
  have px := zPX_tr (zPX_tr (zPX_8 y (zsd s)) (zPX_8 (zzsi y 0 8 (zsd s)) (zsd (zsd s)))) (zPX_fr (Or.inr rfl) g3)
  have ez : zmt N (s, U, tu) = (zsd (zsd s), zcT U (zdr (zsd s) N) (zdr (zsd (zsd s)) N), tu + (if zcb U (zdr (zsd s) N) (zdr (zsd (zsd s)) N) = true then 1 else 0)) := rfl
  rw [ez]
  refine ⟨y1, ?_, g2, k4, px, s1⟩
  unfold f_X11_months_67b
  rw [q10, if_pos ((q_lt (by omega) (by omega)).mpr hi), r1, d1, zzbd_s, r2, d2, zzbd_s, g1, zzbd_s]
  cases b : zcb U (zdr (zsd s) N) (zdr (zsd (zsd s)) N) with
  | false =>
    rw [if_pos (show zbn false = 0 from rfl)]
    unfold f_X11_months_121
    rw [q0, nI_add, zzlt_eq, q1, nI_add, zzlt_eq]
    rfl
  | true =>
    rw [if_neg (show ¬ zbn true = 0 by decide)]
    unfold f_X11_months_121
    rw [q1, nI_add, zzlt_eq, nI_add, zzlt_eq]
    rfl
end
