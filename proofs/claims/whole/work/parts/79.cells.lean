def zsIx : List Nat := [0, 1, 2, 3, 23, 24, 25, 26, 27, 28, 29, 30, 31, 32, 33, 34, 35, 36, 37, 38, 4, 5, 6, 7, 9, 10, 11, 12, 14, 15, 16, 17, 19, 20, 21, 22, 39, 40, 41, 42, 43, 44, 45, 46, 47, 48, 50, 51, 52, 53, 54, 55, 56, 49, 57, 58]
theorem zsIx_inj : ∀ i, i < 56 → ∀ j, j < 56 → zsIx.getD i 0 = zsIx.getD j 0 → i = j := by decide +kernel
theorem zsIx_no : ∀ i, i < 56 → zsIx.getD i 0 ≠ 8 ∧ zsIx.getD i 0 ≠ 13 ∧ zsIx.getD i 0 ≠ 18 := by decide +kernel
def zsW (a : Nat → Nat) (cA : Nat → ClassId) : va_W := [((a 0), .inr (11, [.ref (a 1), .ref (a 2), .ref (a 3), .ref (a 4), .ref (a 9), .ref (a 14), .ref (a 19), .int 0, .int 0])), ((a 1), .inl (cA 2, 8, .inr (.inr (.inr (.inr (fun _ => none)))))), ((a 2), .inl (cA 3, 8, .inr (.inr (.inr (.inr (fun _ => none)))))), ((a 3), .inl (cA 3, 8, .inr (.inr (.inr (.inr (va_up (va_up (va_up (va_up (va_up (va_up (va_up (va_up (fun _ => none) 0 (some (a 23))) 1 (some (a 25))) 2 (some (a 27))) 3 (some (a 29))) 4 (some (a 31))) 5 (some (a 33))) 6 (some (a 35))) 7 (some (a 37)))))))), ((a 4), .inr (10, [.ref (a 5), .ref (a 6), .ref (a 7), .ref (a 8), .int 0, .int 0, .int 0])), ((a 5), .inl (cA 2, 7, .inr (.inr (.inr (.inr (fun _ => none)))))), ((a 6), .inl (cA 0, 7, .inl (fun _ => 0))), ((a 7), .inl (cA 0, 49, .inl (fun _ => 0))), ((a 8), .inr (6, [.int 0])), ((a 9), .inr (10, [.ref (a 10), .ref (a 11), .ref (a 12), .ref (a 13), .int 0, .int 0, .int 0])), ((a 10), .inl (cA 2, 7, .inr (.inr (.inr (.inr (fun _ => none)))))), ((a 11), .inl (cA 0, 7, .inl (fun _ => 0))), ((a 12), .inl (cA 0, 49, .inl (fun _ => 0))), ((a 13), .inr (6, [.int 0])), ((a 14), .inr (10, [.ref (a 15), .ref (a 16), .ref (a 17), .ref (a 18), .int 0, .int 0, .int 0])), ((a 15), .inl (cA 2, 7, .inr (.inr (.inr (.inr (fun _ => none)))))), ((a 16), .inl (cA 0, 7, .inl (fun _ => 0))), ((a 17), .inl (cA 0, 49, .inl (fun _ => 0))), ((a 18), .inr (6, [.int 0])), ((a 19), .inr (2, [.ref (a 20), .ref (a 21), .ref (a 22), .int 0])), ((a 20), .inl (cA 0, 7, .inl (fun _ => 0))), ((a 21), .inl (cA 0, 1024, .inl (fun _ => 0))), ((a 22), .inl (cA 0, 128, .inl (fun _ => 0))), ((a 23), .inr (7, [.ref (a 24), .int 0, .int 0])), ((a 24), .inl (cA 0, 100, .inl (fun _ => 0))), ((a 25), .inr (7, [.ref (a 26), .int 0, .int 0])), ((a 26), .inl (cA 0, 100, .inl (fun _ => 0))), ((a 27), .inr (7, [.ref (a 28), .int 0, .int 0])), ((a 28), .inl (cA 0, 100, .inl (fun _ => 0))), ((a 29), .inr (7, [.ref (a 30), .int 0, .int 0])), ((a 30), .inl (cA 0, 100, .inl (fun _ => 0))), ((a 31), .inr (7, [.ref (a 32), .int 0, .int 0])), ((a 32), .inl (cA 0, 100, .inl (fun _ => 0))), ((a 33), .inr (7, [.ref (a 34), .int 0, .int 0])), ((a 34), .inl (cA 0, 100, .inl (fun _ => 0))), ((a 35), .inr (7, [.ref (a 36), .int 0, .int 0])), ((a 36), .inl (cA 0, 100, .inl (fun _ => 0))), ((a 37), .inr (7, [.ref (a 38), .int 0, .int 0])), ((a 38), .inl (cA 0, 100, .inl (fun _ => 0))), ((a 39), .inr (12, [.int 0, .ref (a 40), .ref (a 41), .ref (a 42), .ref (a 43), .int 0, .int 0, .ref (a 44), .ref (a 45), .ref (a 46), .ref (a 47), .ref (a 48), .ref (a 49), .int 0, .int 0, .int 0, .int 0, .int 0, .ref (a 50), .ref (a 51), .ref (a 52), .ref (a 53), .ref (a 54), .int 0, .int 0, .int 0, .null, .ref (a 55), .ref (a 56), .int 0, .ref (a 57)])), ((a 40), .inl (cA 0, 7, .inl (fun _ => 0))), ((a 41), .inl (cA 0, 7, .inl (fun _ => 0))), ((a 42), .inl (cA 0, 7, .inl (fun _ => 0))), ((a 43), .inl (cA 0, 49, .inl (fun _ => 0))), ((a 44), .inl (cA 0, 8, .inl (fun _ => 0))), ((a 45), .inl (cA 0, 8, .inl (fun _ => 0))), ((a 46), .inl (cA 0, 8, .inl (fun _ => 0))), ((a 47), .inl (cA 0, 8, .inl (fun _ => 0))), ((a 48), .inl (cA 0, 8, .inl (fun _ => 0))), ((a 49), .inl (cA 1, 800, .inr (.inl (fun _ => 0)))), ((a 50), .inl (cA 0, 51, .inl (fun _ => 0))), ((a 51), .inl (cA 0, 51, .inl (fun _ => 0))), ((a 52), .inl (cA 0, 153, .inl (fun _ => 0))), ((a 53), .inl (cA 0, 73, .inl (fun _ => 0))), ((a 54), .inl (cA 0, 73, .inl (fun _ => 0))), ((a 55), .inl (cA 0, 1024, .inl (fun _ => 0))), ((a 56), .inl (cA 0, 1024, .inl (fun _ => 0))), ((a 57), .inl (cA 1, 100, .inr (.inl (fun _ => 0)))), ((a 58), .inl (cA 1, 1, .inr (.inl (fun _ => 0))))]
def zsZ (D : va_G) (a : Nat → Nat) (cA : Nat → ClassId) : zzG := (D, fun k => a (zsIx.getD k 0), fun t => if t = 20 then a 8 else if t = 24 then a 13 else a 18, cA)
section SW
variable {D : va_G} {a : Nat → Nat} {cA : Nat → ClassId}
theorem zs_e0 : zzE (zsZ D a cA) (fun _ _ => none) zS0 zS0 0 = (((a 0), .inr (11, [.ref (a 1), .ref (a 2), .ref (a 3), .ref (a 4), .ref (a 9), .ref (a 14), .ref (a 19), .int 0, .int 0]))).2 := rfl
theorem zs_w0 : (zsW a cA)[0]? = some ((a 0), .inr (11, [.ref (a 1), .ref (a 2), .ref (a 3), .ref (a 4), .ref (a 9), .ref (a 14), .ref (a 19), .int 0, .int 0])) := rfl
theorem zs_e1 : zzE (zsZ D a cA) (fun _ _ => none) zS0 zS0 1 = (((a 1), .inl (cA 2, 8, .inr (.inr (.inr (.inr (fun _ => none))))))).2 := rfl
theorem zs_w1 : (zsW a cA)[1]? = some ((a 1), .inl (cA 2, 8, .inr (.inr (.inr (.inr (fun _ => none)))))) := rfl
theorem zs_e2 : zzE (zsZ D a cA) (fun _ _ => none) zS0 zS0 2 = (((a 2), .inl (cA 3, 8, .inr (.inr (.inr (.inr (fun _ => none))))))).2 := rfl
theorem zs_w2 : (zsW a cA)[2]? = some ((a 2), .inl (cA 3, 8, .inr (.inr (.inr (.inr (fun _ => none)))))) := rfl
theorem zs_e4 : zzE (zsZ D a cA) (fun _ _ => none) zS0 zS0 4 = (((a 23), .inr (7, [.ref (a 24), .int 0, .int 0]))).2 := rfl
theorem zs_w4 : (zsW a cA)[23]? = some ((a 23), .inr (7, [.ref (a 24), .int 0, .int 0])) := rfl
theorem zs_e5 : zzE (zsZ D a cA) (fun _ _ => none) zS0 zS0 5 = (((a 24), .inl (cA 0, 100, .inl (fun _ => 0)))).2 := rfl
theorem zs_w5 : (zsW a cA)[24]? = some ((a 24), .inl (cA 0, 100, .inl (fun _ => 0))) := rfl
theorem zs_e6 : zzE (zsZ D a cA) (fun _ _ => none) zS0 zS0 6 = (((a 25), .inr (7, [.ref (a 26), .int 0, .int 0]))).2 := rfl
theorem zs_w6 : (zsW a cA)[25]? = some ((a 25), .inr (7, [.ref (a 26), .int 0, .int 0])) := rfl
theorem zs_e7 : zzE (zsZ D a cA) (fun _ _ => none) zS0 zS0 7 = (((a 26), .inl (cA 0, 100, .inl (fun _ => 0)))).2 := rfl
theorem zs_w7 : (zsW a cA)[26]? = some ((a 26), .inl (cA 0, 100, .inl (fun _ => 0))) := rfl
theorem zs_e8 : zzE (zsZ D a cA) (fun _ _ => none) zS0 zS0 8 = (((a 27), .inr (7, [.ref (a 28), .int 0, .int 0]))).2 := rfl
theorem zs_w8 : (zsW a cA)[27]? = some ((a 27), .inr (7, [.ref (a 28), .int 0, .int 0])) := rfl
theorem zs_e9 : zzE (zsZ D a cA) (fun _ _ => none) zS0 zS0 9 = (((a 28), .inl (cA 0, 100, .inl (fun _ => 0)))).2 := rfl
theorem zs_w9 : (zsW a cA)[28]? = some ((a 28), .inl (cA 0, 100, .inl (fun _ => 0))) := rfl
theorem zs_e10 : zzE (zsZ D a cA) (fun _ _ => none) zS0 zS0 10 = (((a 29), .inr (7, [.ref (a 30), .int 0, .int 0]))).2 := rfl
theorem zs_w10 : (zsW a cA)[29]? = some ((a 29), .inr (7, [.ref (a 30), .int 0, .int 0])) := rfl
theorem zs_e11 : zzE (zsZ D a cA) (fun _ _ => none) zS0 zS0 11 = (((a 30), .inl (cA 0, 100, .inl (fun _ => 0)))).2 := rfl
theorem zs_w11 : (zsW a cA)[30]? = some ((a 30), .inl (cA 0, 100, .inl (fun _ => 0))) := rfl
theorem zs_e12 : zzE (zsZ D a cA) (fun _ _ => none) zS0 zS0 12 = (((a 31), .inr (7, [.ref (a 32), .int 0, .int 0]))).2 := rfl
theorem zs_w12 : (zsW a cA)[31]? = some ((a 31), .inr (7, [.ref (a 32), .int 0, .int 0])) := rfl
theorem zs_e13 : zzE (zsZ D a cA) (fun _ _ => none) zS0 zS0 13 = (((a 32), .inl (cA 0, 100, .inl (fun _ => 0)))).2 := rfl
theorem zs_w13 : (zsW a cA)[32]? = some ((a 32), .inl (cA 0, 100, .inl (fun _ => 0))) := rfl
theorem zs_e14 : zzE (zsZ D a cA) (fun _ _ => none) zS0 zS0 14 = (((a 33), .inr (7, [.ref (a 34), .int 0, .int 0]))).2 := rfl
theorem zs_w14 : (zsW a cA)[33]? = some ((a 33), .inr (7, [.ref (a 34), .int 0, .int 0])) := rfl
theorem zs_e15 : zzE (zsZ D a cA) (fun _ _ => none) zS0 zS0 15 = (((a 34), .inl (cA 0, 100, .inl (fun _ => 0)))).2 := rfl
theorem zs_w15 : (zsW a cA)[34]? = some ((a 34), .inl (cA 0, 100, .inl (fun _ => 0))) := rfl
theorem zs_e16 : zzE (zsZ D a cA) (fun _ _ => none) zS0 zS0 16 = (((a 35), .inr (7, [.ref (a 36), .int 0, .int 0]))).2 := rfl
theorem zs_w16 : (zsW a cA)[35]? = some ((a 35), .inr (7, [.ref (a 36), .int 0, .int 0])) := rfl
theorem zs_e17 : zzE (zsZ D a cA) (fun _ _ => none) zS0 zS0 17 = (((a 36), .inl (cA 0, 100, .inl (fun _ => 0)))).2 := rfl
theorem zs_w17 : (zsW a cA)[36]? = some ((a 36), .inl (cA 0, 100, .inl (fun _ => 0))) := rfl
theorem zs_e18 : zzE (zsZ D a cA) (fun _ _ => none) zS0 zS0 18 = (((a 37), .inr (7, [.ref (a 38), .int 0, .int 0]))).2 := rfl
theorem zs_w18 : (zsW a cA)[37]? = some ((a 37), .inr (7, [.ref (a 38), .int 0, .int 0])) := rfl
theorem zs_e19 : zzE (zsZ D a cA) (fun _ _ => none) zS0 zS0 19 = (((a 38), .inl (cA 0, 100, .inl (fun _ => 0)))).2 := rfl
theorem zs_w19 : (zsW a cA)[38]? = some ((a 38), .inl (cA 0, 100, .inl (fun _ => 0))) := rfl
theorem zs_e20 : zzE (zsZ D a cA) (fun _ _ => none) zS0 zS0 20 = (((a 4), .inr (10, [.ref (a 5), .ref (a 6), .ref (a 7), .ref (a 8), .int 0, .int 0, .int 0]))).2 := rfl
theorem zs_w20 : (zsW a cA)[4]? = some ((a 4), .inr (10, [.ref (a 5), .ref (a 6), .ref (a 7), .ref (a 8), .int 0, .int 0, .int 0])) := rfl
theorem zs_e21 : zzE (zsZ D a cA) (fun _ _ => none) zS0 zS0 21 = (((a 5), .inl (cA 2, 7, .inr (.inr (.inr (.inr (fun _ => none))))))).2 := rfl
theorem zs_w21 : (zsW a cA)[5]? = some ((a 5), .inl (cA 2, 7, .inr (.inr (.inr (.inr (fun _ => none)))))) := rfl
theorem zs_e22 : zzE (zsZ D a cA) (fun _ _ => none) zS0 zS0 22 = (((a 6), .inl (cA 0, 7, .inl (fun _ => 0)))).2 := rfl
theorem zs_w22 : (zsW a cA)[6]? = some ((a 6), .inl (cA 0, 7, .inl (fun _ => 0))) := rfl
theorem zs_e23 : zzE (zsZ D a cA) (fun _ _ => none) zS0 zS0 23 = (((a 7), .inl (cA 0, 49, .inl (fun _ => 0)))).2 := rfl
theorem zs_w23 : (zsW a cA)[7]? = some ((a 7), .inl (cA 0, 49, .inl (fun _ => 0))) := rfl
theorem zs_e24 : zzE (zsZ D a cA) (fun _ _ => none) zS0 zS0 24 = (((a 9), .inr (10, [.ref (a 10), .ref (a 11), .ref (a 12), .ref (a 13), .int 0, .int 0, .int 0]))).2 := rfl
theorem zs_w24 : (zsW a cA)[9]? = some ((a 9), .inr (10, [.ref (a 10), .ref (a 11), .ref (a 12), .ref (a 13), .int 0, .int 0, .int 0])) := rfl
theorem zs_e25 : zzE (zsZ D a cA) (fun _ _ => none) zS0 zS0 25 = (((a 10), .inl (cA 2, 7, .inr (.inr (.inr (.inr (fun _ => none))))))).2 := rfl
theorem zs_w25 : (zsW a cA)[10]? = some ((a 10), .inl (cA 2, 7, .inr (.inr (.inr (.inr (fun _ => none)))))) := rfl
theorem zs_e26 : zzE (zsZ D a cA) (fun _ _ => none) zS0 zS0 26 = (((a 11), .inl (cA 0, 7, .inl (fun _ => 0)))).2 := rfl
theorem zs_w26 : (zsW a cA)[11]? = some ((a 11), .inl (cA 0, 7, .inl (fun _ => 0))) := rfl
theorem zs_e27 : zzE (zsZ D a cA) (fun _ _ => none) zS0 zS0 27 = (((a 12), .inl (cA 0, 49, .inl (fun _ => 0)))).2 := rfl
theorem zs_w27 : (zsW a cA)[12]? = some ((a 12), .inl (cA 0, 49, .inl (fun _ => 0))) := rfl
theorem zs_e28 : zzE (zsZ D a cA) (fun _ _ => none) zS0 zS0 28 = (((a 14), .inr (10, [.ref (a 15), .ref (a 16), .ref (a 17), .ref (a 18), .int 0, .int 0, .int 0]))).2 := rfl
theorem zs_w28 : (zsW a cA)[14]? = some ((a 14), .inr (10, [.ref (a 15), .ref (a 16), .ref (a 17), .ref (a 18), .int 0, .int 0, .int 0])) := rfl
theorem zs_e29 : zzE (zsZ D a cA) (fun _ _ => none) zS0 zS0 29 = (((a 15), .inl (cA 2, 7, .inr (.inr (.inr (.inr (fun _ => none))))))).2 := rfl
theorem zs_w29 : (zsW a cA)[15]? = some ((a 15), .inl (cA 2, 7, .inr (.inr (.inr (.inr (fun _ => none)))))) := rfl
theorem zs_e30 : zzE (zsZ D a cA) (fun _ _ => none) zS0 zS0 30 = (((a 16), .inl (cA 0, 7, .inl (fun _ => 0)))).2 := rfl
theorem zs_w30 : (zsW a cA)[16]? = some ((a 16), .inl (cA 0, 7, .inl (fun _ => 0))) := rfl
theorem zs_e31 : zzE (zsZ D a cA) (fun _ _ => none) zS0 zS0 31 = (((a 17), .inl (cA 0, 49, .inl (fun _ => 0)))).2 := rfl
theorem zs_w31 : (zsW a cA)[17]? = some ((a 17), .inl (cA 0, 49, .inl (fun _ => 0))) := rfl
theorem zs_e32 : zzE (zsZ D a cA) (fun _ _ => none) zS0 zS0 32 = (((a 19), .inr (2, [.ref (a 20), .ref (a 21), .ref (a 22), .int 0]))).2 := rfl
theorem zs_w32 : (zsW a cA)[19]? = some ((a 19), .inr (2, [.ref (a 20), .ref (a 21), .ref (a 22), .int 0])) := rfl
theorem zs_e33 : zzE (zsZ D a cA) (fun _ _ => none) zS0 zS0 33 = (((a 20), .inl (cA 0, 7, .inl (fun _ => 0)))).2 := rfl
theorem zs_w33 : (zsW a cA)[20]? = some ((a 20), .inl (cA 0, 7, .inl (fun _ => 0))) := rfl
theorem zs_e34 : zzE (zsZ D a cA) (fun _ _ => none) zS0 zS0 34 = (((a 21), .inl (cA 0, 1024, .inl (fun _ => 0)))).2 := rfl
theorem zs_w34 : (zsW a cA)[21]? = some ((a 21), .inl (cA 0, 1024, .inl (fun _ => 0))) := rfl
theorem zs_e35 : zzE (zsZ D a cA) (fun _ _ => none) zS0 zS0 35 = (((a 22), .inl (cA 0, 128, .inl (fun _ => 0)))).2 := rfl
theorem zs_w35 : (zsW a cA)[22]? = some ((a 22), .inl (cA 0, 128, .inl (fun _ => 0))) := rfl
theorem zs_e36 : zzE (zsZ D a cA) (fun _ _ => none) zS0 zS0 36 = (((a 39), .inr (12, [.int 0, .ref (a 40), .ref (a 41), .ref (a 42), .ref (a 43), .int 0, .int 0, .ref (a 44), .ref (a 45), .ref (a 46), .ref (a 47), .ref (a 48), .ref (a 49), .int 0, .int 0, .int 0, .int 0, .int 0, .ref (a 50), .ref (a 51), .ref (a 52), .ref (a 53), .ref (a 54), .int 0, .int 0, .int 0, .null, .ref (a 55), .ref (a 56), .int 0, .ref (a 57)]))).2 := rfl
theorem zs_w36 : (zsW a cA)[39]? = some ((a 39), .inr (12, [.int 0, .ref (a 40), .ref (a 41), .ref (a 42), .ref (a 43), .int 0, .int 0, .ref (a 44), .ref (a 45), .ref (a 46), .ref (a 47), .ref (a 48), .ref (a 49), .int 0, .int 0, .int 0, .int 0, .int 0, .ref (a 50), .ref (a 51), .ref (a 52), .ref (a 53), .ref (a 54), .int 0, .int 0, .int 0, .null, .ref (a 55), .ref (a 56), .int 0, .ref (a 57)])) := rfl
theorem zs_e37 : zzE (zsZ D a cA) (fun _ _ => none) zS0 zS0 37 = (((a 40), .inl (cA 0, 7, .inl (fun _ => 0)))).2 := rfl
theorem zs_w37 : (zsW a cA)[40]? = some ((a 40), .inl (cA 0, 7, .inl (fun _ => 0))) := rfl
theorem zs_e38 : zzE (zsZ D a cA) (fun _ _ => none) zS0 zS0 38 = (((a 41), .inl (cA 0, 7, .inl (fun _ => 0)))).2 := rfl
theorem zs_w38 : (zsW a cA)[41]? = some ((a 41), .inl (cA 0, 7, .inl (fun _ => 0))) := rfl
theorem zs_e39 : zzE (zsZ D a cA) (fun _ _ => none) zS0 zS0 39 = (((a 42), .inl (cA 0, 7, .inl (fun _ => 0)))).2 := rfl
theorem zs_w39 : (zsW a cA)[42]? = some ((a 42), .inl (cA 0, 7, .inl (fun _ => 0))) := rfl
theorem zs_e40 : zzE (zsZ D a cA) (fun _ _ => none) zS0 zS0 40 = (((a 43), .inl (cA 0, 49, .inl (fun _ => 0)))).2 := rfl
theorem zs_w40 : (zsW a cA)[43]? = some ((a 43), .inl (cA 0, 49, .inl (fun _ => 0))) := rfl
theorem zs_e41 : zzE (zsZ D a cA) (fun _ _ => none) zS0 zS0 41 = (((a 44), .inl (cA 0, 8, .inl (fun _ => 0)))).2 := rfl
theorem zs_w41 : (zsW a cA)[44]? = some ((a 44), .inl (cA 0, 8, .inl (fun _ => 0))) := rfl
theorem zs_e42 : zzE (zsZ D a cA) (fun _ _ => none) zS0 zS0 42 = (((a 45), .inl (cA 0, 8, .inl (fun _ => 0)))).2 := rfl
theorem zs_w42 : (zsW a cA)[45]? = some ((a 45), .inl (cA 0, 8, .inl (fun _ => 0))) := rfl
theorem zs_e43 : zzE (zsZ D a cA) (fun _ _ => none) zS0 zS0 43 = (((a 46), .inl (cA 0, 8, .inl (fun _ => 0)))).2 := rfl
theorem zs_w43 : (zsW a cA)[46]? = some ((a 46), .inl (cA 0, 8, .inl (fun _ => 0))) := rfl
theorem zs_e44 : zzE (zsZ D a cA) (fun _ _ => none) zS0 zS0 44 = (((a 47), .inl (cA 0, 8, .inl (fun _ => 0)))).2 := rfl
theorem zs_w44 : (zsW a cA)[47]? = some ((a 47), .inl (cA 0, 8, .inl (fun _ => 0))) := rfl
theorem zs_e45 : zzE (zsZ D a cA) (fun _ _ => none) zS0 zS0 45 = (((a 48), .inl (cA 0, 8, .inl (fun _ => 0)))).2 := rfl
theorem zs_w45 : (zsW a cA)[48]? = some ((a 48), .inl (cA 0, 8, .inl (fun _ => 0))) := rfl
theorem zs_e46 : zzE (zsZ D a cA) (fun _ _ => none) zS0 zS0 46 = (((a 50), .inl (cA 0, 51, .inl (fun _ => 0)))).2 := rfl
theorem zs_w46 : (zsW a cA)[50]? = some ((a 50), .inl (cA 0, 51, .inl (fun _ => 0))) := rfl
theorem zs_e47 : zzE (zsZ D a cA) (fun _ _ => none) zS0 zS0 47 = (((a 51), .inl (cA 0, 51, .inl (fun _ => 0)))).2 := rfl
theorem zs_w47 : (zsW a cA)[51]? = some ((a 51), .inl (cA 0, 51, .inl (fun _ => 0))) := rfl
theorem zs_e48 : zzE (zsZ D a cA) (fun _ _ => none) zS0 zS0 48 = (((a 52), .inl (cA 0, 153, .inl (fun _ => 0)))).2 := rfl
theorem zs_w48 : (zsW a cA)[52]? = some ((a 52), .inl (cA 0, 153, .inl (fun _ => 0))) := rfl
theorem zs_e49 : zzE (zsZ D a cA) (fun _ _ => none) zS0 zS0 49 = (((a 53), .inl (cA 0, 73, .inl (fun _ => 0)))).2 := rfl
theorem zs_w49 : (zsW a cA)[53]? = some ((a 53), .inl (cA 0, 73, .inl (fun _ => 0))) := rfl
theorem zs_e50 : zzE (zsZ D a cA) (fun _ _ => none) zS0 zS0 50 = (((a 54), .inl (cA 0, 73, .inl (fun _ => 0)))).2 := rfl
theorem zs_w50 : (zsW a cA)[54]? = some ((a 54), .inl (cA 0, 73, .inl (fun _ => 0))) := rfl
theorem zs_e51 : zzE (zsZ D a cA) (fun _ _ => none) zS0 zS0 51 = (((a 55), .inl (cA 0, 1024, .inl (fun _ => 0)))).2 := rfl
theorem zs_w51 : (zsW a cA)[55]? = some ((a 55), .inl (cA 0, 1024, .inl (fun _ => 0))) := rfl
theorem zs_e52 : zzE (zsZ D a cA) (fun _ _ => none) zS0 zS0 52 = (((a 56), .inl (cA 0, 1024, .inl (fun _ => 0)))).2 := rfl
theorem zs_w52 : (zsW a cA)[56]? = some ((a 56), .inl (cA 0, 1024, .inl (fun _ => 0))) := rfl
theorem zs_e53 : zzE (zsZ D a cA) (fun _ _ => none) zS0 zS0 53 = (((a 49), .inl (cA 1, 800, .inr (.inl (fun _ => 0))))).2 := rfl
theorem zs_w53 : (zsW a cA)[49]? = some ((a 49), .inl (cA 1, 800, .inr (.inl (fun _ => 0)))) := rfl
theorem zs_e54 : zzE (zsZ D a cA) (fun _ _ => none) zS0 zS0 54 = (((a 57), .inl (cA 1, 100, .inr (.inl (fun _ => 0))))).2 := rfl
theorem zs_w54 : (zsW a cA)[57]? = some ((a 57), .inl (cA 1, 100, .inr (.inl (fun _ => 0)))) := rfl
theorem zs_e55 : zzE (zsZ D a cA) (fun _ _ => none) zS0 zS0 55 = (((a 58), .inl (cA 1, 1, .inr (.inl (fun _ => 0))))).2 := rfl
theorem zs_w55 : (zsW a cA)[58]? = some ((a 58), .inl (cA 1, 1, .inr (.inl (fun _ => 0)))) := rfl
end SW
