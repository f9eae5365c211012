section SX
variable {D : va_G} {a : Nat → Nat} {cA : Nat → ClassId} {H : Heap} {base : Nat}
theorem zs_a0 (hP : va_P D vwCl (zsW a cA) H) : va_at D vwCl (zzad (zsZ D a cA) 0, zzE (zsZ D a cA) (fun _ _ => none) zS0 zS0 0) H := by
  rw [zs_e0]
  exact hP _ _ zs_w0
theorem zs_a1 (hP : va_P D vwCl (zsW a cA) H) : va_at D vwCl (zzad (zsZ D a cA) 1, zzE (zsZ D a cA) (fun _ _ => none) zS0 zS0 1) H := by
  rw [zs_e1]
  exact hP _ _ zs_w1
theorem zs_a2 (hP : va_P D vwCl (zsW a cA) H) : va_at D vwCl (zzad (zsZ D a cA) 2, zzE (zsZ D a cA) (fun _ _ => none) zS0 zS0 2) H := by
  rw [zs_e2]
  exact hP _ _ zs_w2
theorem zs_a4 (hP : va_P D vwCl (zsW a cA) H) : va_at D vwCl (zzad (zsZ D a cA) 4, zzE (zsZ D a cA) (fun _ _ => none) zS0 zS0 4) H := by
  rw [zs_e4]
  exact hP _ _ zs_w4
theorem zs_a5 (hP : va_P D vwCl (zsW a cA) H) : va_at D vwCl (zzad (zsZ D a cA) 5, zzE (zsZ D a cA) (fun _ _ => none) zS0 zS0 5) H := by
  rw [zs_e5]
  exact hP _ _ zs_w5
theorem zs_a6 (hP : va_P D vwCl (zsW a cA) H) : va_at D vwCl (zzad (zsZ D a cA) 6, zzE (zsZ D a cA) (fun _ _ => none) zS0 zS0 6) H := by
  rw [zs_e6]
  exact hP _ _ zs_w6
theorem zs_a7 (hP : va_P D vwCl (zsW a cA) H) : va_at D vwCl (zzad (zsZ D a cA) 7, zzE (zsZ D a cA) (fun _ _ => none) zS0 zS0 7) H := by
  rw [zs_e7]
  exact hP _ _ zs_w7
theorem zs_a8 (hP : va_P D vwCl (zsW a cA) H) : va_at D vwCl (zzad (zsZ D a cA) 8, zzE (zsZ D a cA) (fun _ _ => none) zS0 zS0 8) H := by
  rw [zs_e8]
  exact hP _ _ zs_w8
theorem zs_a9 (hP : va_P D vwCl (zsW a cA) H) : va_at D vwCl (zzad (zsZ D a cA) 9, zzE (zsZ D a cA) (fun _ _ => none) zS0 zS0 9) H := by
  rw [zs_e9]
  exact hP _ _ zs_w9
theorem zs_a10 (hP : va_P D vwCl (zsW a cA) H) : va_at D vwCl (zzad (zsZ D a cA) 10, zzE (zsZ D a cA) (fun _ _ => none) zS0 zS0 10) H := by
  rw [zs_e10]
  exact hP _ _ zs_w10
theorem zs_a11 (hP : va_P D vwCl (zsW a cA) H) : va_at D vwCl (zzad (zsZ D a cA) 11, zzE (zsZ D a cA) (fun _ _ => none) zS0 zS0 11) H := by
  rw [zs_e11]
  exact hP _ _ zs_w11
theorem zs_a12 (hP : va_P D vwCl (zsW a cA) H) : va_at D vwCl (zzad (zsZ D a cA) 12, zzE (zsZ D a cA) (fun _ _ => none) zS0 zS0 12) H := by
  rw [zs_e12]
  exact hP _ _ zs_w12
theorem zs_a13 (hP : va_P D vwCl (zsW a cA) H) : va_at D vwCl (zzad (zsZ D a cA) 13, zzE (zsZ D a cA) (fun _ _ => none) zS0 zS0 13) H := by
  rw [zs_e13]
  exact hP _ _ zs_w13
theorem zs_a14 (hP : va_P D vwCl (zsW a cA) H) : va_at D vwCl (zzad (zsZ D a cA) 14, zzE (zsZ D a cA) (fun _ _ => none) zS0 zS0 14) H := by
  rw [zs_e14]
  exact hP _ _ zs_w14
theorem zs_a15 (hP : va_P D vwCl (zsW a cA) H) : va_at D vwCl (zzad (zsZ D a cA) 15, zzE (zsZ D a cA) (fun _ _ => none) zS0 zS0 15) H := by
  rw [zs_e15]
  exact hP _ _ zs_w15
theorem zs_a16 (hP : va_P D vwCl (zsW a cA) H) : va_at D vwCl (zzad (zsZ D a cA) 16, zzE (zsZ D a cA) (fun _ _ => none) zS0 zS0 16) H := by
  rw [zs_e16]
  exact hP _ _ zs_w16
theorem zs_a17 (hP : va_P D vwCl (zsW a cA) H) : va_at D vwCl (zzad (zsZ D a cA) 17, zzE (zsZ D a cA) (fun _ _ => none) zS0 zS0 17) H := by
  rw [zs_e17]
  exact hP _ _ zs_w17
theorem zs_a18 (hP : va_P D vwCl (zsW a cA) H) : va_at D vwCl (zzad (zsZ D a cA) 18, zzE (zsZ D a cA) (fun _ _ => none) zS0 zS0 18) H := by
  rw [zs_e18]
  exact hP _ _ zs_w18
theorem zs_a19 (hP : va_P D vwCl (zsW a cA) H) : va_at D vwCl (zzad (zsZ D a cA) 19, zzE (zsZ D a cA) (fun _ _ => none) zS0 zS0 19) H := by
  rw [zs_e19]
  exact hP _ _ zs_w19
theorem zs_a20 (hP : va_P D vwCl (zsW a cA) H) : va_at D vwCl (zzad (zsZ D a cA) 20, zzE (zsZ D a cA) (fun _ _ => none) zS0 zS0 20) H := by
  rw [zs_e20]
  exact hP _ _ zs_w20
theorem zs_a21 (hP : va_P D vwCl (zsW a cA) H) : va_at D vwCl (zzad (zsZ D a cA) 21, zzE (zsZ D a cA) (fun _ _ => none) zS0 zS0 21) H := by
  rw [zs_e21]
  exact hP _ _ zs_w21
theorem zs_a22 (hP : va_P D vwCl (zsW a cA) H) : va_at D vwCl (zzad (zsZ D a cA) 22, zzE (zsZ D a cA) (fun _ _ => none) zS0 zS0 22) H := by
  rw [zs_e22]
  exact hP _ _ zs_w22
theorem zs_a23 (hP : va_P D vwCl (zsW a cA) H) : va_at D vwCl (zzad (zsZ D a cA) 23, zzE (zsZ D a cA) (fun _ _ => none) zS0 zS0 23) H := by
  rw [zs_e23]
  exact hP _ _ zs_w23
theorem zs_a24 (hP : va_P D vwCl (zsW a cA) H) : va_at D vwCl (zzad (zsZ D a cA) 24, zzE (zsZ D a cA) (fun _ _ => none) zS0 zS0 24) H := by
  rw [zs_e24]
  exact hP _ _ zs_w24
theorem zs_a25 (hP : va_P D vwCl (zsW a cA) H) : va_at D vwCl (zzad (zsZ D a cA) 25, zzE (zsZ D a cA) (fun _ _ => none) zS0 zS0 25) H := by
  rw [zs_e25]
  exact hP _ _ zs_w25
theorem zs_a26 (hP : va_P D vwCl (zsW a cA) H) : va_at D vwCl (zzad (zsZ D a cA) 26, zzE (zsZ D a cA) (fun _ _ => none) zS0 zS0 26) H := by
  rw [zs_e26]
  exact hP _ _ zs_w26
theorem zs_a27 (hP : va_P D vwCl (zsW a cA) H) : va_at D vwCl (zzad (zsZ D a cA) 27, zzE (zsZ D a cA) (fun _ _ => none) zS0 zS0 27) H := by
  rw [zs_e27]
  exact hP _ _ zs_w27
theorem zs_a28 (hP : va_P D vwCl (zsW a cA) H) : va_at D vwCl (zzad (zsZ D a cA) 28, zzE (zsZ D a cA) (fun _ _ => none) zS0 zS0 28) H := by
  rw [zs_e28]
  exact hP _ _ zs_w28
theorem zs_a29 (hP : va_P D vwCl (zsW a cA) H) : va_at D vwCl (zzad (zsZ D a cA) 29, zzE (zsZ D a cA) (fun _ _ => none) zS0 zS0 29) H := by
  rw [zs_e29]
  exact hP _ _ zs_w29
theorem zs_a30 (hP : va_P D vwCl (zsW a cA) H) : va_at D vwCl (zzad (zsZ D a cA) 30, zzE (zsZ D a cA) (fun _ _ => none) zS0 zS0 30) H := by
  rw [zs_e30]
  exact hP _ _ zs_w30
theorem zs_a31 (hP : va_P D vwCl (zsW a cA) H) : va_at D vwCl (zzad (zsZ D a cA) 31, zzE (zsZ D a cA) (fun _ _ => none) zS0 zS0 31) H := by
  rw [zs_e31]
  exact hP _ _ zs_w31
theorem zs_a32 (hP : va_P D vwCl (zsW a cA) H) : va_at D vwCl (zzad (zsZ D a cA) 32, zzE (zsZ D a cA) (fun _ _ => none) zS0 zS0 32) H := by
  rw [zs_e32]
  exact hP _ _ zs_w32
theorem zs_a33 (hP : va_P D vwCl (zsW a cA) H) : va_at D vwCl (zzad (zsZ D a cA) 33, zzE (zsZ D a cA) (fun _ _ => none) zS0 zS0 33) H := by
  rw [zs_e33]
  exact hP _ _ zs_w33
theorem zs_a34 (hP : va_P D vwCl (zsW a cA) H) : va_at D vwCl (zzad (zsZ D a cA) 34, zzE (zsZ D a cA) (fun _ _ => none) zS0 zS0 34) H := by
  rw [zs_e34]
  exact hP _ _ zs_w34
theorem zs_a35 (hP : va_P D vwCl (zsW a cA) H) : va_at D vwCl (zzad (zsZ D a cA) 35, zzE (zsZ D a cA) (fun _ _ => none) zS0 zS0 35) H := by
  rw [zs_e35]
  exact hP _ _ zs_w35
theorem zs_a36 (hP : va_P D vwCl (zsW a cA) H) : va_at D vwCl (zzad (zsZ D a cA) 36, zzE (zsZ D a cA) (fun _ _ => none) zS0 zS0 36) H := by
  rw [zs_e36]
  exact hP _ _ zs_w36
theorem zs_a37 (hP : va_P D vwCl (zsW a cA) H) : va_at D vwCl (zzad (zsZ D a cA) 37, zzE (zsZ D a cA) (fun _ _ => none) zS0 zS0 37) H := by
  rw [zs_e37]
  exact hP _ _ zs_w37
theorem zs_a38 (hP : va_P D vwCl (zsW a cA) H) : va_at D vwCl (zzad (zsZ D a cA) 38, zzE (zsZ D a cA) (fun _ _ => none) zS0 zS0 38) H := by
  rw [zs_e38]
  exact hP _ _ zs_w38
theorem zs_a39 (hP : va_P D vwCl (zsW a cA) H) : va_at D vwCl (zzad (zsZ D a cA) 39, zzE (zsZ D a cA) (fun _ _ => none) zS0 zS0 39) H := by
  rw [zs_e39]
  exact hP _ _ zs_w39
theorem zs_a40 (hP : va_P D vwCl (zsW a cA) H) : va_at D vwCl (zzad (zsZ D a cA) 40, zzE (zsZ D a cA) (fun _ _ => none) zS0 zS0 40) H := by
  rw [zs_e40]
  exact hP _ _ zs_w40
theorem zs_a41 (hP : va_P D vwCl (zsW a cA) H) : va_at D vwCl (zzad (zsZ D a cA) 41, zzE (zsZ D a cA) (fun _ _ => none) zS0 zS0 41) H := by
  rw [zs_e41]
  exact hP _ _ zs_w41
theorem zs_a42 (hP : va_P D vwCl (zsW a cA) H) : va_at D vwCl (zzad (zsZ D a cA) 42, zzE (zsZ D a cA) (fun _ _ => none) zS0 zS0 42) H := by
  rw [zs_e42]
  exact hP _ _ zs_w42
theorem zs_a43 (hP : va_P D vwCl (zsW a cA) H) : va_at D vwCl (zzad (zsZ D a cA) 43, zzE (zsZ D a cA) (fun _ _ => none) zS0 zS0 43) H := by
  rw [zs_e43]
  exact hP _ _ zs_w43
theorem zs_a44 (hP : va_P D vwCl (zsW a cA) H) : va_at D vwCl (zzad (zsZ D a cA) 44, zzE (zsZ D a cA) (fun _ _ => none) zS0 zS0 44) H := by
  rw [zs_e44]
  exact hP _ _ zs_w44
theorem zs_a45 (hP : va_P D vwCl (zsW a cA) H) : va_at D vwCl (zzad (zsZ D a cA) 45, zzE (zsZ D a cA) (fun _ _ => none) zS0 zS0 45) H := by
  rw [zs_e45]
  exact hP _ _ zs_w45
theorem zs_a46 (hP : va_P D vwCl (zsW a cA) H) : va_at D vwCl (zzad (zsZ D a cA) 46, zzE (zsZ D a cA) (fun _ _ => none) zS0 zS0 46) H := by
  rw [zs_e46]
  exact hP _ _ zs_w46
theorem zs_a47 (hP : va_P D vwCl (zsW a cA) H) : va_at D vwCl (zzad (zsZ D a cA) 47, zzE (zsZ D a cA) (fun _ _ => none) zS0 zS0 47) H := by
  rw [zs_e47]
  exact hP _ _ zs_w47
theorem zs_a48 (hP : va_P D vwCl (zsW a cA) H) : va_at D vwCl (zzad (zsZ D a cA) 48, zzE (zsZ D a cA) (fun _ _ => none) zS0 zS0 48) H := by
  rw [zs_e48]
  exact hP _ _ zs_w48
theorem zs_a49 (hP : va_P D vwCl (zsW a cA) H) : va_at D vwCl (zzad (zsZ D a cA) 49, zzE (zsZ D a cA) (fun _ _ => none) zS0 zS0 49) H := by
  rw [zs_e49]
  exact hP _ _ zs_w49
theorem zs_a50 (hP : va_P D vwCl (zsW a cA) H) : va_at D vwCl (zzad (zsZ D a cA) 50, zzE (zsZ D a cA) (fun _ _ => none) zS0 zS0 50) H := by
  rw [zs_e50]
  exact hP _ _ zs_w50
theorem zs_a51 (hP : va_P D vwCl (zsW a cA) H) : va_at D vwCl (zzad (zsZ D a cA) 51, zzE (zsZ D a cA) (fun _ _ => none) zS0 zS0 51) H := by
  rw [zs_e51]
  exact hP _ _ zs_w51
theorem zs_a52 (hP : va_P D vwCl (zsW a cA) H) : va_at D vwCl (zzad (zsZ D a cA) 52, zzE (zsZ D a cA) (fun _ _ => none) zS0 zS0 52) H := by
  rw [zs_e52]
  exact hP _ _ zs_w52
theorem zs_a53 (hP : va_P D vwCl (zsW a cA) H) : va_at D vwCl (zzad (zsZ D a cA) 53, zzE (zsZ D a cA) (fun _ _ => none) zS0 zS0 53) H := by
  rw [zs_e53]
  exact hP _ _ zs_w53
theorem zs_a54 (hP : va_P D vwCl (zsW a cA) H) : va_at D vwCl (zzad (zsZ D a cA) 54, zzE (zsZ D a cA) (fun _ _ => none) zS0 zS0 54) H := by
  rw [zs_e54]
  exact hP _ _ zs_w54
theorem zs_a55 (hP : va_P D vwCl (zsW a cA) H) : va_at D vwCl (zzad (zsZ D a cA) 55, zzE (zsZ D a cA) (fun _ _ => none) zS0 zS0 55) H := by
  rw [zs_e55]
  exact hP _ _ zs_w55
theorem arrV_ext {c : ClassId} {n : Nat} {f g : Nat → Value} (h : ∀ j, j < n → f j = g j) : arrV c n f = arrV c n g := by
  unfold arrV
  congr 1
  congr 1
  funext j
  exact h j.val j.isLt
theorem zs_a3 (hP : va_P D vwCl (zsW a cA) H) : va_at D vwCl (zzad (zsZ D a cA) 3, zzE (zsZ D a cA) (fun _ _ => none) zS0 zS0 3) H := by
  have h : H[a 3]? = some (arrV (cA 3) 8 (fun j => va_rf ((va_up (va_up (va_up (va_up (va_up (va_up (va_up (va_up (fun _ => none) 0 (some (a 23))) 1 (some (a 25))) 2 (some (a 27))) 3 (some (a 29))) 4 (some (a 31))) 5 (some (a 33))) 6 (some (a 35))) 7 (some (a 37))) j))) := hP 3 _ rfl
  show H[a 3]? = some (arrV (cA 3) 8 (fun j => va_rf (some (zzad (zsZ D a cA) (4 + 2 * j)))))
  rw [h]
  refine congrArg some (arrV_ext (fun j hj => ?_))
  rcases (show j = 0 ∨ j = 1 ∨ j = 2 ∨ j = 3 ∨ j = 4 ∨ j = 5 ∨ j = 6 ∨ j = 7 by omega) with rfl | rfl | rfl | rfl | rfl | rfl | rfl | rfl <;> rfl
theorem zs56 {k : Nat} (h : k < 56) : k = 0 ∨ k = 1 ∨ k = 2 ∨ k = 3 ∨ k = 4 ∨ k = 5 ∨ k = 6 ∨ k = 7 ∨ k = 8 ∨ k = 9 ∨ k = 10 ∨ k = 11 ∨ k = 12 ∨ k = 13 ∨ k = 14 ∨ k = 15 ∨ k = 16 ∨ k = 17 ∨ k = 18 ∨ k = 19 ∨ k = 20 ∨ k = 21 ∨ k = 22 ∨ k = 23 ∨ k = 24 ∨ k = 25 ∨ k = 26 ∨ k = 27 ∨ k = 28 ∨ k = 29 ∨ k = 30 ∨ k = 31 ∨ k = 32 ∨ k = 33 ∨ k = 34 ∨ k = 35 ∨ k = 36 ∨ k = 37 ∨ k = 38 ∨ k = 39 ∨ k = 40 ∨ k = 41 ∨ k = 42 ∨ k = 43 ∨ k = 44 ∨ k = 45 ∨ k = 46 ∨ k = 47 ∨ k = 48 ∨ k = 49 ∨ k = 50 ∨ k = 51 ∨ k = 52 ∨ k = 53 ∨ k = 54 ∨ k = 55 := by omega
theorem zs_at (hP : va_P D vwCl (zsW a cA) H) (i : Nat) (hi : i < 56) : va_at D vwCl (zzad (zsZ D a cA) i, zzE (zsZ D a cA) (fun _ _ => none) zS0 zS0 i) H := by
  rcases zs56 hi with rfl | rfl | rfl | rfl | rfl | rfl | rfl | rfl | rfl | rfl | rfl | rfl | rfl | rfl | rfl | rfl | rfl | rfl | rfl | rfl | rfl | rfl | rfl | rfl | rfl | rfl | rfl | rfl | rfl | rfl | rfl | rfl | rfl | rfl | rfl | rfl | rfl | rfl | rfl | rfl | rfl | rfl | rfl | rfl | rfl | rfl | rfl | rfl | rfl | rfl | rfl | rfl | rfl | rfl | rfl | rfl
  · exact zs_a0 hP
  · exact zs_a1 hP
  · exact zs_a2 hP
  · exact zs_a3 hP
  · exact zs_a4 hP
  · exact zs_a5 hP
  · exact zs_a6 hP
  · exact zs_a7 hP
  · exact zs_a8 hP
  · exact zs_a9 hP
  · exact zs_a10 hP
  · exact zs_a11 hP
  · exact zs_a12 hP
  · exact zs_a13 hP
  · exact zs_a14 hP
  · exact zs_a15 hP
  · exact zs_a16 hP
  · exact zs_a17 hP
  · exact zs_a18 hP
  · exact zs_a19 hP
  · exact zs_a20 hP
  · exact zs_a21 hP
  · exact zs_a22 hP
  · exact zs_a23 hP
  · exact zs_a24 hP
  · exact zs_a25 hP
  · exact zs_a26 hP
  · exact zs_a27 hP
  · exact zs_a28 hP
  · exact zs_a29 hP
  · exact zs_a30 hP
  · exact zs_a31 hP
  · exact zs_a32 hP
  · exact zs_a33 hP
  · exact zs_a34 hP
  · exact zs_a35 hP
  · exact zs_a36 hP
  · exact zs_a37 hP
  · exact zs_a38 hP
  · exact zs_a39 hP
  · exact zs_a40 hP
  · exact zs_a41 hP
  · exact zs_a42 hP
  · exact zs_a43 hP
  · exact zs_a44 hP
  · exact zs_a45 hP
  · exact zs_a46 hP
  · exact zs_a47 hP
  · exact zs_a48 hP
  · exact zs_a49 hP
  · exact zs_a50 hP
  · exact zs_a51 hP
  · exact zs_a52 hP
  · exact zs_a53 hP
  · exact zs_a54 hP
  · exact zs_a55 hP
theorem zs59 {k : Nat} (h : k < 59) : k = 0 ∨ k = 1 ∨ k = 2 ∨ k = 3 ∨ k = 4 ∨ k = 5 ∨ k = 6 ∨ k = 7 ∨ k = 8 ∨ k = 9 ∨ k = 10 ∨ k = 11 ∨ k = 12 ∨ k = 13 ∨ k = 14 ∨ k = 15 ∨ k = 16 ∨ k = 17 ∨ k = 18 ∨ k = 19 ∨ k = 20 ∨ k = 21 ∨ k = 22 ∨ k = 23 ∨ k = 24 ∨ k = 25 ∨ k = 26 ∨ k = 27 ∨ k = 28 ∨ k = 29 ∨ k = 30 ∨ k = 31 ∨ k = 32 ∨ k = 33 ∨ k = 34 ∨ k = 35 ∨ k = 36 ∨ k = 37 ∨ k = 38 ∨ k = 39 ∨ k = 40 ∨ k = 41 ∨ k = 42 ∨ k = 43 ∨ k = 44 ∨ k = 45 ∨ k = 46 ∨ k = 47 ∨ k = 48 ∨ k = 49 ∨ k = 50 ∨ k = 51 ∨ k = 52 ∨ k = 53 ∨ k = 54 ∨ k = 55 ∨ k = 56 ∨ k = 57 ∨ k = 58 := by omega
theorem zs_any (n : Nat) (hn : n < 59) : ∃ e, (zsW a cA)[n]? = some (a n, e) := by
  rcases zs59 hn with rfl | rfl | rfl | rfl | rfl | rfl | rfl | rfl | rfl | rfl | rfl | rfl | rfl | rfl | rfl | rfl | rfl | rfl | rfl | rfl | rfl | rfl | rfl | rfl | rfl | rfl | rfl | rfl | rfl | rfl | rfl | rfl | rfl | rfl | rfl | rfl | rfl | rfl | rfl | rfl | rfl | rfl | rfl | rfl | rfl | rfl | rfl | rfl | rfl | rfl | rfl | rfl | rfl | rfl | rfl | rfl | rfl | rfl | rfl <;> exact ⟨_, rfl⟩
theorem zsIx_lt : ∀ i, i < 56 → zsIx.getD i 0 < 59 := by decide +kernel
def zsPL (a : Nat → Nat) : Nat → Option (Nat × Int32) := fun q => if q = a 8 ∨ q = a 13 ∨ q = a 18 then some (0, 0) else none
theorem zsPL_cases {q : Nat} {kf : Nat × Int32} (h : zsPL a q = some kf) : kf = (0, 0) ∧ (q = a 8 ∨ q = a 13 ∨ q = a 18) := by
  unfold zsPL at h
  by_cases c : q = a 8 ∨ q = a 13 ∨ q = a 18
  · rw [if_pos c] at h
    cases h
    exact ⟨rfl, c⟩
  · rw [if_neg c] at h
    cases h
theorem zs_world (hP : va_P D vwCl (zsW a cA) H) (hD : va_D (zzA base) (zsW a cA)) : zzH (zsZ D a cA) base (zsPL a) zS0 zS0 H := by
  have apart : ∀ i j, i < 59 → j < 59 → a i = a j → i = j := fun i j hi hj he => by
    obtain ⟨e1, h1⟩ := zs_any (a := a) (cA := cA) i hi
    obtain ⟨e2, h2⟩ := zs_any (a := a) (cA := cA) j hj
    exact hD.1 _ _ _ _ h1 h2 he
  have above : ∀ i, i < 59 → base ≤ a i := fun i hi => by
    obtain ⟨e1, h1⟩ := zs_any (a := a) (cA := cA) i hi
    exact hD.2 _ _ h1
  refine ⟨⟨fun i j hi hj he => zsIx_inj i hi j hj (apart _ _ (zsIx_lt i hi) (zsIx_lt j hj) he), fun i hi => above _ (zsIx_lt i hi), fun q kf hq => ?_, fun t ht => ?_⟩, ⟨fun _ _ => none, fun k j => rfl, fun i hi => zs_at hP i hi⟩, fun q kf hq => ?_⟩
  · obtain ⟨rfl, c⟩ := zsPL_cases hq
    rcases c with rfl | rfl | rfl
    · exact ⟨(by decide : 0 < 8), above 8 (by decide), fun i hi he => (zsIx_no i hi).1 (apart _ 8 (zsIx_lt i hi) (by decide) he)⟩
    · exact ⟨(by decide : 0 < 8), above 13 (by decide), fun i hi he => (zsIx_no i hi).2.1 (apart _ 13 (zsIx_lt i hi) (by decide) he)⟩
    · exact ⟨(by decide : 0 < 8), above 18 (by decide), fun i hi he => (zsIx_no i hi).2.2 (apart _ 18 (zsIx_lt i hi) (by decide) he)⟩
  · rcases ht with rfl | rfl | rfl
    · exact if_pos (Or.inl rfl)
    · exact if_pos (Or.inr (Or.inl rfl))
    · exact if_pos (Or.inr (Or.inr rfl))
  · obtain ⟨rfl, c⟩ := zsPL_cases hq
    rcases c with rfl | rfl | rfl
    · exact hP 8 _ rfl
    · exact hP 13 _ rfl
    · exact hP 18 _ rfl
end SX
