/-! the class's methods, translated by program -/
def f_X0_number (kf : (Nat × Int32)) (σ : zzS) : Option (Int32 × zzS) :=
  some ((2 : Int32), σ)
def f_X6_grows (kf : (Nat × Int32)) (σ : zzS) : Option (Int32 × zzS) :=
  some ((2 : Int32), σ)
def f_X0_grows (kf : (Nat × Int32)) (σ : zzS) : Option (Int32 × zzS) :=
  zzbd (f_X6_grows kf σ) (fun r1 σ2 => some ((r1 + (kf.2 / (3 : Int32))), σ2))
def f_X6_turns (kf : (Nat × Int32)) (σ : zzS) : Option (Int32 × zzS) :=
  some ((1 : Int32), σ)
def f_X0_turns (kf : (Nat × Int32)) (σ : zzS) : Option (Int32 × zzS) :=
  zzbd (f_X6_turns kf σ) (fun r1 σ2 => some ((r1 + (1 : Int32)), σ2))
def f_X0_shows (kf : (Nat × Int32)) (p0 : Int32) (σ : zzS) : Option (Int32 × zzS) :=
  some (p0, σ)
def f_X6_price (kf : (Nat × Int32)) (σ : zzS) : Option (Int32 × zzS) :=
  some ((4 : Int32), σ)
def f_X0_price (kf : (Nat × Int32)) (σ : zzS) : Option (Int32 × zzS) :=
  zzbd (f_X6_price kf σ) (fun r1 σ2 => some ((r1 + kf.2), σ2))
def f_X1_number (kf : (Nat × Int32)) (σ : zzS) : Option (Int32 × zzS) :=
  some ((3 : Int32), σ)
def f_X1_grows (kf : (Nat × Int32)) (σ : zzS) : Option (Int32 × zzS) :=
  some ((0 : Int32), σ)
def f_X6_bears (kf : (Nat × Int32)) (σ : zzS) : Option (Int32 × zzS) :=
  some ((0 : Int32), σ)
def f_X9_bears (kf : (Nat × Int32)) (σ : zzS) : Option (Int32 × zzS) :=
  zzbd (f_X6_bears kf σ) (fun r1 σ2 => some ((r1 + (1 : Int32)), σ2))
def f_X1_bears (kf : (Nat × Int32)) (σ : zzS) : Option (Int32 × zzS) :=
  zzbd (f_X9_bears kf σ) (fun r1 σ2 => some ((r1 + (8 : Int32)), σ2))
def f_X1_turns (kf : (Nat × Int32)) (σ : zzS) : Option (Int32 × zzS) :=
  zzbd (f_X6_turns kf σ) (fun r1 σ2 => some ((r1 + (2 : Int32)), σ2))
def f_X9_price (kf : (Nat × Int32)) (σ : zzS) : Option (Int32 × zzS) :=
  zzbd (f_X6_price kf σ) (fun r1 σ2 => some ((r1 - (1 : Int32)), σ2))
def f_X1_price (kf : (Nat × Int32)) (σ : zzS) : Option (Int32 × zzS) :=
  zzbd (f_X9_price kf σ) (fun r1 σ2 => some ((r1 / (2 : Int32)), σ2))
def f_X10_has (t0 : Nat) (p0 : Int32) (σ : zzS) : Option (Int32 × zzS) :=
  (if p0 < 0 then (some ((0 : Int32), σ)) else (if p0 < (zzi σ t0 4) then (some ((1 : Int32), σ)) else (some ((0 : Int32), σ))))
def f_X10_areTwo (t0 : Nat) (p0 : Int32) (p1 : Int32) (σ : zzS) : Option (Int32 × zzS) :=
  zzbd (f_X10_has t0 p0 σ) (fun r1 σ2 => (if r1 = 0 then (some ((0 : Int32), σ2)) else (zzbd (f_X10_has t0 p1 σ2) (fun r4 σ5 => (if r4 = 0 then (some ((0 : Int32), σ5)) else (if p0 = p1 then (some ((0 : Int32), σ5)) else (some ((1 : Int32), σ5))))))))
def f_X10_at_23  (t0 : Nat) (p0 : Int32) (s0 : (Option (Nat × Int32))) (σ : zzS) : Option ((Option (Nat × Int32)) × zzS) :=
  (zzon s0 (some (some ((0, 0) : Nat × Int32), σ)) (fun kf1 => (some (some kf1, σ))))
def f_X10_at_22  (t0 : Nat) (p0 : Int32)  (σ : zzS) : Option ((Option (Nat × Int32)) × zzS) :=
  f_X10_at_23 t0 p0 none σ
def f_X10_at (t0 : Nat) (p0 : Int32) (σ : zzS) : Option ((Option (Nat × Int32)) × zzS) :=
  (if p0 < 0 then (f_X10_at_22 t0 p0 σ) else (if p0 < (Int32.ofNat (zzplen (t0 + 1))) then (zzgd (zzin p0 (zzplen (t0 + 1))) (f_X10_at_23 t0 p0 (zzr σ (t0 + 1) (Int32.toNatClampNeg p0)) σ)) else (f_X10_at_22 t0 p0 σ)))
def f_X11_read (p0 : Nat) (p1 : Int32) (σ : zzS) : Option (Int32 × zzS) :=
  (if p1 < 0 then (some ((0 : Int32), σ)) else (if p1 < (Int32.ofNat (zzlen p0)) then (zzgd (zzin p1 (zzlen p0)) (some ((zza σ p0 (Int32.toNatClampNeg p1)), σ))) else (some ((0 : Int32), σ))))
def f_X10_fondOf (t0 : Nat) (p0 : Int32) (p1 : Int32) (σ : zzS) : Option (Int32 × zzS) :=
  zzbd (f_X10_areTwo t0 p0 p1 σ) (fun r1 σ2 => (if r1 = 0 then (some ((0 : Int32), σ2)) else (zzbd (f_X11_read (t0 + 3) ((p0 * (7 : Int32)) + p1) σ2) (fun r4 σ5 => some (r4, σ5)))))
def f_X4_bears (kf : (Nat × Int32)) (σ : zzS) : Option (Int32 × zzS) :=
  some ((-1 : Int32), σ)
def f_X5_bears (kf : (Nat × Int32)) (σ : zzS) : Option (Int32 × zzS) :=
  zzbd (f_X9_bears kf σ) (fun r1 σ2 => some ((r1 + (1 : Int32)), σ2))
def f_X8_bears (kf : (Nat × Int32)) (σ : zzS) : Option (Int32 × zzS) :=
  zzbd (f_X9_bears kf σ) (fun r1 σ2 => some ((r1 + (2 : Int32)), σ2))
def f_X10_may (t0 : Nat) (p0 : Int32) (p1 : Int32) (p2 : Int32) (σ : zzS) : Option (Int32 × zzS) :=
  zzbd (f_X10_areTwo t0 p0 p1 σ) (fun r1 σ2 => (if r1 = 0 then (some ((0 : Int32), σ2)) else (zzbd (f_X10_fondOf t0 p0 p1 σ2) (fun r4 σ5 => zzbd (f_X10_at t0 p0 σ5) (fun r6 σ7 => zzon r6 none (fun kf10 => zzbd (some (zzbears kf10, σ7)) (fun r15 σ16 => (if (r15 + p2) < r4 then (some ((0 : Int32), σ16)) else (some ((1 : Int32), σ16))))))))))
def f_X10_fitFor_32 (k5 : Int32 → Int32 → zzS → Option (Int32 × zzS)) (t0 : Nat) (p0 : Int32) (p1 : Int32) (l3 : Int32) (l4 : Int32) (σ : zzS) : Option (Int32 × zzS) :=
  zzlt (l4 + (1 : Int32)) (fun x1 => k5 l3 x1 σ)
def f_X10_fitFor_5b  (k5 : Int32 → Int32 → zzS → Option (Int32 × zzS)) (t0 : Nat) (p0 : Int32) (p1 : Int32) (l3 : Int32) (l4 : Int32) (σ : zzS) : Option (Int32 × zzS) :=
  (if l4 < (zzi σ t0 4) then (zzbd (f_X10_may t0 l4 p0 p1 σ) (fun r2 σ3 => (if r2 = 0 then (f_X10_fitFor_32 k5 t0 p0 p1 l3 l4 σ3) else (zzlt (l3 ||| ((1 : Int32) <<< (l4 &&& 31))) (fun x5 => f_X10_fitFor_32 k5 t0 p0 p1 x5 l4 σ3))))) else (some (l3, σ)))
def f_X10_fitFor_5  (t0 : Nat) (p0 : Int32) (p1 : Int32) : Nat → Int32 → Int32 → zzS → Option (Int32 × zzS)
  | 0 => fun _ _ _ => none
  | n + 1 => f_X10_fitFor_5b (f_X10_fitFor_5 t0 p0 p1 n) t0 p0 p1
def f_X10_fitFor (t0 : Nat) (p0 : Int32) (p1 : Int32) (σ : zzS) : Option (Int32 × zzS) :=
  f_X10_fitFor_5 t0 p0 p1 200 (0 : Int32) (0 : Int32) σ
def f_X11_write (p0 : Nat) (p1 : Int32) (p2 : Int32) (σ : zzS) : Option (Unit × zzS) :=
  (if p1 < 0 then (some ((), σ)) else (if p1 < (Int32.ofNat (zzlen p0)) then (zzgd (zzin p1 (zzlen p0)) (zzlt (zzsa σ p0 (Int32.toNatClampNeg p1) p2) (fun σ4 => some ((), σ4)))) else (some ((), σ))))
def f_X2_gather_15b  (k15 : Int32 → zzS → Option (Unit × zzS)) (p0 : Nat) (p1 : Int32) (l3 : Int32) (σ : zzS) : Option (Unit × zzS) :=
  (if l3 < (zzi σ 32 3) then (zzbd (f_X10_fitFor p0 l3 p1 σ) (fun r2 σ3 => zzbd (f_X11_write 33 l3 r2 σ3) (fun r4 σ5 => zzlt (l3 + (1 : Int32)) (fun x6 => k15 x6 σ5)))) else (some ((), σ)))
def f_X2_gather_15  (p0 : Nat) (p1 : Int32) : Nat → Int32 → zzS → Option (Unit × zzS)
  | 0 => fun _ _ => none
  | n + 1 => f_X2_gather_15b (f_X2_gather_15 p0 p1 n) p0 p1
def f_X2_gather (p0 : Nat) (p1 : Int32) (σ : zzS) : Option (Unit × zzS) :=
  zzlt (zzsi σ 32 3 (zzmin (7 : Int32) (zzi σ p0 4))) (fun σ1 => f_X2_gather_15 p0 p1 200 (0 : Int32) σ1)
def f_J6_bitCount_0f7a4 (p0 : Int32) (σ : zzS) : Option (Int32 × zzS) :=
  zzlt (p0 - ((Int32.toUInt32 p0 >>> (Int32.toUInt32 (1 : Int32) &&& Int32.toUInt32 31)).toInt32 &&& (1431655765 : Int32))) (fun x1 => zzlt ((x1 &&& (858993459 : Int32)) + ((Int32.toUInt32 x1 >>> (Int32.toUInt32 (2 : Int32) &&& Int32.toUInt32 31)).toInt32 &&& (858993459 : Int32))) (fun x2 => zzlt ((x2 + (Int32.toUInt32 x2 >>> (Int32.toUInt32 (4 : Int32) &&& Int32.toUInt32 31)).toInt32) &&& (252645135 : Int32)) (fun x3 => zzlt (x3 + (Int32.toUInt32 x3 >>> (Int32.toUInt32 (8 : Int32) &&& Int32.toUInt32 31)).toInt32) (fun x4 => zzlt (x4 + (Int32.toUInt32 x4 >>> (Int32.toUInt32 (16 : Int32) &&& Int32.toUInt32 31)).toInt32) (fun x5 => some ((x5 &&& (63 : Int32)), σ))))))
def f_X2_mostAt (p0 : Int32) (p1 : Int32) (σ : zzS) : Option (Int32 × zzS) :=
  zzbd (f_X11_read 34 ((p0 * (128 : Int32)) + p1) σ) (fun r1 σ2 => some (r1, σ2))
def f_X2_mostFrom_65 (k26 : Int32 → Int32 → Int32 → zzS → Option (Int32 × zzS)) (p0 : Int32) (p1 : Int32) (l3 : Int32) (l4 : Int32) (l5 : Int32) (σ : zzS) : Option (Int32 × zzS) :=
  zzlt (l5 + (1 : Int32)) (fun x1 => k26 l3 l4 x1 σ)
def f_X2_mostFrom_26b  (k26 : Int32 → Int32 → Int32 → zzS → Option (Int32 × zzS)) (p0 : Int32) (p1 : Int32) (l3 : Int32) (l4 : Int32) (l5 : Int32) (σ : zzS) : Option (Int32 × zzS) :=
  (if l5 < (zzi σ 32 3) then (if (l4 &&& ((1 : Int32) <<< (l5 &&& 31))) = 0 then (f_X2_mostFrom_65 k26 p0 p1 l3 l4 l5 σ) else (zzbd (f_X2_mostAt (p0 + (1 : Int32)) (p1 ||| ((1 : Int32) <<< (l5 &&& 31))) σ) (fun r3 σ4 => zzlt (zzmax l3 ((1 : Int32) + r3)) (fun x5 => f_X2_mostFrom_65 k26 p0 p1 x5 l4 l5 σ4)))) else (some (l3, σ)))
def f_X2_mostFrom_26  (p0 : Int32) (p1 : Int32) : Nat → Int32 → Int32 → Int32 → zzS → Option (Int32 × zzS)
  | 0 => fun _ _ _ _ => none
  | n + 1 => f_X2_mostFrom_26b (f_X2_mostFrom_26 p0 p1 n) p0 p1
def f_X2_mostFrom (p0 : Int32) (p1 : Int32) (σ : zzS) : Option (Int32 × zzS) :=
  zzbd (f_X2_mostAt (p0 + (1 : Int32)) p1 σ) (fun r1 σ2 => zzbd (f_X11_read 33 p0 σ2) (fun r3 σ4 => zzlt (r3 &&& (p1 ^^^ (-1 : Int32))) (fun x5 => f_X2_mostFrom_26 p0 p1 200 r1 x5 (0 : Int32) σ4)))
def f_X2_mostTold_84 (k45 : Int32 → Int32 → zzS → Option (Int32 × zzS)) (k51 : Int32 → Int32 → Int32 → zzS → Option (Int32 × zzS))  (l1 : Int32) (l2 : Int32) (l3 : Int32) (σ : zzS) : Option (Int32 × zzS) :=
  zzlt (l3 + (1 : Int32)) (fun x1 => k51 l1 l2 x1 σ)
def f_X2_mostTold_51b (k45 : Int32 → Int32 → zzS → Option (Int32 × zzS)) (k51 : Int32 → Int32 → Int32 → zzS → Option (Int32 × zzS))  (l1 : Int32) (l2 : Int32) (l3 : Int32) (σ : zzS) : Option (Int32 × zzS) :=
  (if l3 < l1 then (zzbd (f_J6_bitCount_0f7a4 l3 σ) (fun r3 σ4 => (if l2 < r3 then (f_X2_mostTold_84 k45 k51 l1 l2 l3 σ4) else (zzbd (f_X2_mostFrom l2 l3 σ4) (fun r6 σ7 => zzbd (f_X11_write 34 ((l2 * (128 : Int32)) + l3) r6 σ7) (fun r8 σ9 => f_X2_mostTold_84 k45 k51 l1 l2 l3 σ9)))))) else (zzlt (l2 + (-1 : Int32)) (fun x2 => k45 l1 x2 σ)))
def f_X2_mostTold_51 (k45 : Int32 → Int32 → zzS → Option (Int32 × zzS))  : Nat → Int32 → Int32 → Int32 → zzS → Option (Int32 × zzS)
  | 0 => fun _ _ _ _ => none
  | n + 1 => f_X2_mostTold_51b k45 (f_X2_mostTold_51 k45 n)
def f_X2_mostTold_45b  (k45 : Int32 → Int32 → zzS → Option (Int32 × zzS))  (l1 : Int32) (l2 : Int32) (σ : zzS) : Option (Int32 × zzS) :=
  (if l2 < 0 then (zzbd (f_X2_mostAt (0 : Int32) (0 : Int32) σ) (fun r2 σ3 => some (r2, σ3))) else (f_X2_mostTold_51 k45 200 l1 l2 (0 : Int32) σ))
def f_X2_mostTold_45   : Nat → Int32 → Int32 → zzS → Option (Int32 × zzS)
  | 0 => fun _ _ _ => none
  | n + 1 => f_X2_mostTold_45b (f_X2_mostTold_45  n)
def f_X2_mostTold_9b  (k9 : Int32 → Int32 → zzS → Option (Int32 × zzS))  (l1 : Int32) (l2 : Int32) (σ : zzS) : Option (Int32 × zzS) :=
  (if l2 < l1 then (zzbd (f_X11_write 34 (((zzi σ 32 3) * (128 : Int32)) + l2) (0 : Int32) σ) (fun r3 σ4 => zzlt (l2 + (1 : Int32)) (fun x5 => k9 l1 x5 σ4))) else (zzlt ((zzi σ 32 3) - (1 : Int32)) (fun x2 => f_X2_mostTold_45 200 l1 x2 σ)))
def f_X2_mostTold_9   : Nat → Int32 → Int32 → zzS → Option (Int32 × zzS)
  | 0 => fun _ _ _ => none
  | n + 1 => f_X2_mostTold_9b (f_X2_mostTold_9  n)
def f_X2_mostTold  (σ : zzS) : Option (Int32 × zzS) :=
  zzlt ((1 : Int32) <<< ((zzi σ 32 3) &&& 31)) (fun x1 => f_X2_mostTold_9 200 x1 (0 : Int32) σ)
def f_X2_firstTurner_61 (k16 : Int32 → Int32 → zzS → Option (Int32 × zzS)) (p0 : Int32) (p1 : Int32) (l3 : Int32) (l4 : Int32) (σ : zzS) : Option (Int32 × zzS) :=
  zzlt (l4 + (1 : Int32)) (fun x1 => k16 l3 x1 σ)
def f_X2_firstTurner_16b  (k16 : Int32 → Int32 → zzS → Option (Int32 × zzS)) (p0 : Int32) (p1 : Int32) (l3 : Int32) (l4 : Int32) (σ : zzS) : Option (Int32 × zzS) :=
  (if l4 < (zzi σ 32 3) then (if (l3 &&& ((1 : Int32) <<< (l4 &&& 31))) = 0 then (f_X2_firstTurner_61 k16 p0 p1 l3 l4 σ) else (zzbd (f_X2_mostAt (p0 + (1 : Int32)) (p1 ||| ((1 : Int32) <<< (l4 &&& 31))) σ) (fun r3 σ4 => zzbd (f_X2_mostAt p0 p1 σ4) (fun r5 σ6 => (if ((1 : Int32) + r3) = r5 then (some (l4, σ6)) else (f_X2_firstTurner_61 k16 p0 p1 l3 l4 σ6)))))) else (some ((9 : Int32), σ)))
def f_X2_firstTurner_16  (p0 : Int32) (p1 : Int32) : Nat → Int32 → Int32 → zzS → Option (Int32 × zzS)
  | 0 => fun _ _ _ => none
  | n + 1 => f_X2_firstTurner_16b (f_X2_firstTurner_16 p0 p1 n) p0 p1
def f_X2_firstTurner (p0 : Int32) (p1 : Int32) (σ : zzS) : Option (Int32 × zzS) :=
  zzbd (f_X11_read 33 p0 σ) (fun r1 σ2 => zzlt (r1 &&& (p1 ^^^ (-1 : Int32))) (fun x3 => f_X2_firstTurner_16 p0 p1 200 x3 (0 : Int32) σ2))
def f_X2_turnerOf_45 (k8 : Int32 → Int32 → Int32 → zzS → Option (Int32 × zzS)) (p0 : Int32) (l3 : Int32) (l4 : Int32) (s0 : Int32) (s1 : Int32) (σ : zzS) : Option (Int32 × zzS) :=
  zzlt (s1 ||| s0) (fun x1 => zzlt (l4 + (1 : Int32)) (fun x2 => k8 x1 l3 x2 σ))
def f_X2_turnerOf_8b  (k8 : Int32 → Int32 → Int32 → zzS → Option (Int32 × zzS)) (p0 : Int32) (l2 : Int32) (l3 : Int32) (l4 : Int32) (σ : zzS) : Option (Int32 × zzS) :=
  (if p0 < l4 then (some (l3, σ)) else (if l4 < (zzi σ 32 3) then (zzbd (f_X2_firstTurner l4 l2 σ) (fun r3 σ4 => (if r3 = (9 : Int32) then (f_X2_turnerOf_45 k8 p0 r3 l4 (0 : Int32) l2 σ4) else (f_X2_turnerOf_45 k8 p0 r3 l4 ((1 : Int32) <<< (r3 &&& 31)) l2 σ4)))) else (some (l3, σ))))
def f_X2_turnerOf_8  (p0 : Int32) : Nat → Int32 → Int32 → Int32 → zzS → Option (Int32 × zzS)
  | 0 => fun _ _ _ _ => none
  | n + 1 => f_X2_turnerOf_8b (f_X2_turnerOf_8 p0 n) p0
def f_X2_turnerOf (p0 : Int32) (σ : zzS) : Option (Int32 × zzS) :=
  f_X2_turnerOf_8 p0 200 (0 : Int32) (9 : Int32) (0 : Int32) σ
def f_X2_waysForAll_28 (k9 : Int32 → Int32 → zzS → Option (Int32 × zzS))  (l1 : Int32) (l2 : Int32) (s0 : Int32) (s1 : Int32) (σ : zzS) : Option (Int32 × zzS) :=
  zzbd (f_X11_write 35 s1 s0 σ) (fun r1 σ2 => zzlt (l2 + (1 : Int32)) (fun x3 => k9 l1 x3 σ2))
def f_X2_waysForAll_118 (k39 : Int32 → Int32 → zzS → Option (Int32 × zzS)) (k65 : Int32 → Int32 → Int32 → Int32 → zzS → Option (Int32 × zzS))  (l1 : Int32) (l2 : Int32) (l3 : Int32) (l4 : Int32) (σ : zzS) : Option (Int32 × zzS) :=
  zzlt (l4 + (1 : Int32)) (fun x1 => k65 l1 l2 l3 x1 σ)
def f_X2_waysForAll_65b (k39 : Int32 → Int32 → zzS → Option (Int32 × zzS)) (k65 : Int32 → Int32 → Int32 → Int32 → zzS → Option (Int32 × zzS))  (l1 : Int32) (l2 : Int32) (l3 : Int32) (l4 : Int32) (σ : zzS) : Option (Int32 × zzS) :=
  (if l4 < (zzi σ 32 3) then (if (l3 &&& ((1 : Int32) <<< (l4 &&& 31))) = 0 then (f_X2_waysForAll_118 k39 k65 l1 l2 l3 l4 σ) else (zzlt (l2 ||| ((1 : Int32) <<< (l4 &&& 31))) (fun x4 => zzbd (f_X11_read 35 x4 σ) (fun r5 σ6 => zzbd (f_X11_read 35 l2 σ6) (fun r7 σ8 => zzbd (f_X11_write 35 x4 (r5 + r7) σ8) (fun r9 σ10 => f_X2_waysForAll_118 k39 k65 l1 l2 l3 l4 σ10)))))) else (zzlt (l2 + (1 : Int32)) (fun x2 => k39 l1 x2 σ)))
def f_X2_waysForAll_65 (k39 : Int32 → Int32 → zzS → Option (Int32 × zzS))  : Nat → Int32 → Int32 → Int32 → Int32 → zzS → Option (Int32 × zzS)
  | 0 => fun _ _ _ _ _ => none
  | n + 1 => f_X2_waysForAll_65b k39 (f_X2_waysForAll_65 k39 n)
def f_X2_waysForAll_39b  (k39 : Int32 → Int32 → zzS → Option (Int32 × zzS))  (l1 : Int32) (l2 : Int32) (σ : zzS) : Option (Int32 × zzS) :=
  (if l2 < (l1 - (1 : Int32)) then (zzbd (f_J6_bitCount_0f7a4 l2 σ) (fun r4 σ5 => zzbd (f_X11_read 33 r4 σ5) (fun r6 σ7 => zzlt (r6 &&& (l2 ^^^ (-1 : Int32))) (fun x8 => f_X2_waysForAll_65 k39 200 l1 l2 x8 (0 : Int32) σ7)))) else (zzbd (f_X11_read 35 (l1 - (1 : Int32)) σ) (fun r2 σ3 => some (r2, σ3))))
def f_X2_waysForAll_39   : Nat → Int32 → Int32 → zzS → Option (Int32 × zzS)
  | 0 => fun _ _ _ => none
  | n + 1 => f_X2_waysForAll_39b (f_X2_waysForAll_39  n)
def f_X2_waysForAll_9b  (k9 : Int32 → Int32 → zzS → Option (Int32 × zzS))  (l1 : Int32) (l2 : Int32) (σ : zzS) : Option (Int32 × zzS) :=
  (if l2 < l1 then (if l2 = 0 then (f_X2_waysForAll_28 k9 l1 l2 (1 : Int32) l2 σ) else (f_X2_waysForAll_28 k9 l1 l2 (0 : Int32) l2 σ)) else (f_X2_waysForAll_39 200 l1 (0 : Int32) σ))
def f_X2_waysForAll_9   : Nat → Int32 → Int32 → zzS → Option (Int32 × zzS)
  | 0 => fun _ _ _ => none
  | n + 1 => f_X2_waysForAll_9b (f_X2_waysForAll_9  n)
def f_X2_waysForAll  (σ : zzS) : Option (Int32 × zzS) :=
  zzlt ((1 : Int32) <<< ((zzi σ 32 3) &&& 31)) (fun x1 => f_X2_waysForAll_9 200 x1 (0 : Int32) σ)
def f_X3_number (kf : (Nat × Int32)) (σ : zzS) : Option (Int32 × zzS) :=
  some ((6 : Int32), σ)
def f_X3_grows (kf : (Nat × Int32)) (σ : zzS) : Option (Int32 × zzS) :=
  zzbd (f_X0_grows kf σ) (fun r1 σ2 => some ((r1 / (2 : Int32)), σ2))
def f_X3_turns (kf : (Nat × Int32)) (σ : zzS) : Option (Int32 × zzS) :=
  zzbd (f_X0_turns kf σ) (fun r1 σ2 => some ((r1 + (kf.2 / (3 : Int32))), σ2))
def f_X3_shows (kf : (Nat × Int32)) (p0 : Int32) (σ : zzS) : Option (Int32 × zzS) :=
  some ((p0 / (2 : Int32)), σ)
def f_X3_price (kf : (Nat × Int32)) (σ : zzS) : Option (Int32 × zzS) :=
  zzbd (f_X0_price kf σ) (fun r1 σ2 => some (((2 : Int32) * r1), σ2))
def f_X4_number (kf : (Nat × Int32)) (σ : zzS) : Option (Int32 × zzS) :=
  some ((4 : Int32), σ)
def f_X4_grows (kf : (Nat × Int32)) (σ : zzS) : Option (Int32 × zzS) :=
  some ((kf.2 / (2 : Int32)), σ)
def f_X4_price (kf : (Nat × Int32)) (σ : zzS) : Option (Int32 × zzS) :=
  zzbd (f_X6_price kf σ) (fun r1 σ2 => some ((r1 + (8 : Int32)), σ2))
def f_X5_number (kf : (Nat × Int32)) (σ : zzS) : Option (Int32 × zzS) :=
  some ((5 : Int32), σ)
def f_X9_grows (kf : (Nat × Int32)) (σ : zzS) : Option (Int32 × zzS) :=
  zzbd (f_X6_grows kf σ) (fun r1 σ2 => some ((r1 - (1 : Int32)), σ2))
def f_X5_grows (kf : (Nat × Int32)) (σ : zzS) : Option (Int32 × zzS) :=
  zzbd (f_X9_grows kf σ) (fun r1 σ2 => some ((r1 + (kf.2 / (4 : Int32))), σ2))
def f_X5_turns (kf : (Nat × Int32)) (σ : zzS) : Option (Int32 × zzS) :=
  some ((1 : Int32), σ)
def f_X5_price (kf : (Nat × Int32)) (σ : zzS) : Option (Int32 × zzS) :=
  zzbd (f_X9_price kf σ) (fun r1 σ2 => some ((r1 + kf.2), σ2))
def f_X6_number (kf : (Nat × Int32)) (σ : zzS) : Option (Int32 × zzS) :=
  some ((0 : Int32), σ)
def f_X6_shows (kf : (Nat × Int32)) (p0 : Int32) (σ : zzS) : Option (Int32 × zzS) :=
  some ((0 : Int32), σ)
def f_X7_beginAnew_12b  (k12 : Int32 → zzS → Option (Unit × zzS)) (r0 : Nat) (p0 : Int32) (p1 : Int32) (l3 : Int32) (σ : zzS) : Option (Unit × zzS) :=
  (if l3 < (Int32.ofNat (zzlen (r0 + 1))) then (zzgd (zzin l3 (zzlen (r0 + 1))) (zzlt (zzsa σ (r0 + 1) (Int32.toNatClampNeg l3) (0 : Int32)) (fun σ3 => zzlt (l3 + (1 : Int32)) (fun x4 => k12 x4 σ3)))) else (some ((), σ)))
def f_X7_beginAnew_12  (r0 : Nat) (p0 : Int32) (p1 : Int32) : Nat → Int32 → zzS → Option (Unit × zzS)
  | 0 => fun _ _ => none
  | n + 1 => f_X7_beginAnew_12b (f_X7_beginAnew_12 r0 p0 p1 n) r0 p0 p1
def f_X7_beginAnew (r0 : Nat) (p0 : Int32) (p1 : Int32) (σ : zzS) : Option (Unit × zzS) :=
  zzlt (zzsi σ r0 1 p0) (fun σ1 => zzlt (zzsi σ1 r0 2 p1) (fun σ2 => f_X7_beginAnew_12 r0 p0 p1 200 (0 : Int32) σ2))
def f_X7_has (r0 : Nat) (p0 : Int32) (p1 : Int32) (σ : zzS) : Option (Int32 × zzS) :=
  (if p0 < 0 then (some ((0 : Int32), σ)) else (if p1 < 0 then (some ((0 : Int32), σ)) else (if (zzi σ r0 2) < p1 then (some ((0 : Int32), σ)) else (if ((zzi σ r0 2) - p1) < p0 then (some ((0 : Int32), σ)) else (some ((1 : Int32), σ))))))
def f_X7_set_42  (r0 : Nat) (p0 : Int32) (p1 : Int32) (s0 : Int32) (s1 : Int32) (σ : zzS) : Option (Int32 × zzS) :=
  zzbd (f_X11_write (r0 + 1) s1 s0 σ) (fun r1 σ2 => some ((1 : Int32), σ2))
def f_X7_set (r0 : Nat) (p0 : Int32) (p1 : Int32) (σ : zzS) : Option (Int32 × zzS) :=
  zzbd (f_X7_has r0 p0 (1 : Int32) σ) (fun r1 σ2 => (if r1 = 0 then (some ((0 : Int32), σ2)) else (if (zzi σ2 r0 1) = 0 then (f_X7_set_42 r0 p0 p1 (Int8.toInt32 (Int32.toInt8 p1)) p0 σ2) else (if (zzi σ2 r0 1) = (1 : Int32) then (f_X7_set_42 r0 p0 p1 (Int16.toInt32 (Int32.toInt16 p1)) p0 σ2) else (f_X7_set_42 r0 p0 p1 p1 p0 σ2)))))
def f_X7_at (r0 : Nat) (p0 : Int32) (σ : zzS) : Option (Int32 × zzS) :=
  zzbd (f_X7_has r0 p0 (1 : Int32) σ) (fun r1 σ2 => (if r1 = 0 then (some ((0 : Int32), σ2)) else (zzbd (f_X11_read (r0 + 1) p0 σ2) (fun r4 σ5 => some (r4, σ5)))))
def f_X7_digitAt (r0 : Nat) (p0 : Int32) (σ : zzS) : Option (Int32 × zzS) :=
  zzbd (f_X7_at r0 p0 σ) (fun r1 σ2 => some ((r1 - (48 : Int32)), σ2))
def f_X7_leastNumber (r0 : Nat) (σ : zzS) : Option (Int32 × zzS) :=
  (if (zzi σ r0 1) = 0 then (some ((-128 : Int32), σ)) else (if (zzi σ r0 1) = (1 : Int32) then (some ((-32768 : Int32), σ)) else (some ((-2147483648 : Int32), σ))))
def f_X11_digitsBehind (p0 : Int32) (σ : zzS) : Option (Int32 × zzS) :=
  (if p0 = 100 then (some ((2 : Int32), σ)) else (if p0 = 101 then (some ((0 : Int32), σ)) else (if p0 = 102 then (some ((3 : Int32), σ)) else (if p0 = 103 then (some ((0 : Int32), σ)) else (if p0 = 104 then (some ((0 : Int32), σ)) else (if p0 = 105 then (some ((0 : Int32), σ)) else (if p0 = 106 then (some ((0 : Int32), σ)) else (if p0 = 107 then (some ((0 : Int32), σ)) else (if p0 = 108 then (some ((1 : Int32), σ)) else (if p0 = 109 then (some ((0 : Int32), σ)) else (if p0 = 110 then (some ((0 : Int32), σ)) else (if p0 = 111 then (some ((0 : Int32), σ)) else (if p0 = 112 then (some ((2 : Int32), σ)) else (if p0 = 113 then (some ((0 : Int32), σ)) else (if p0 = 114 then (some ((0 : Int32), σ)) else (if p0 = 115 then (some ((2 : Int32), σ)) else (if p0 = 116 then (some ((2 : Int32), σ)) else (some ((0 : Int32), σ)))))))))))))))))))
def f_X11_isDigit (p0 : Int32) (σ : zzS) : Option (Int32 × zzS) :=
  (if p0 < (48 : Int32) then (some ((0 : Int32), σ)) else (if (57 : Int32) < p0 then (some ((0 : Int32), σ)) else (some ((1 : Int32), σ))))
def f_X7_firstWrongByte_73 (k6 : Int32 → Int32 → Int32 → zzS → Option (Int32 × zzS)) (r0 : Nat) (l1 : Int32) (l2 : Int32) (l3 : Int32) (σ : zzS) : Option (Int32 × zzS) :=
  zzlt (l3 + (1 : Int32)) (fun x1 => k6 l1 l2 x1 σ)
def f_X7_firstWrongByte_6b  (k6 : Int32 → Int32 → Int32 → zzS → Option (Int32 × zzS)) (r0 : Nat) (l1 : Int32) (l2 : Int32) (l3 : Int32) (σ : zzS) : Option (Int32 × zzS) :=
  (if l3 < (zzi σ r0 2) then (zzbd (f_X7_at r0 l3 σ) (fun r4 σ5 => (if l1 = 0 then (if 0 < l2 then (zzbd (f_X11_isDigit r4 σ5) (fun r9 σ10 => (if r9 = 0 then (some (l3, σ10)) else (zzlt (l2 + (-1 : Int32)) (fun x12 => f_X7_firstWrongByte_73 k6 r0 l1 x12 l3 σ10))))) else (if r4 = (59 : Int32) then (f_X7_firstWrongByte_73 k6 r0 (1 : Int32) l2 l3 σ5) else (some (l3, σ5)))) else (zzbd (f_X11_digitsBehind r4 σ5) (fun r13 σ14 => (if r13 = 0 then (some (l3, σ14)) else (f_X7_firstWrongByte_73 k6 r0 (0 : Int32) r13 l3 σ14))))))) else (if l1 = 0 then (some ((zzi σ r0 2), σ)) else (if 0 < (zzi σ r0 2) then (some ((-4 : Int32), σ)) else (some ((zzi σ r0 2), σ)))))
def f_X7_firstWrongByte_6  (r0 : Nat) : Nat → Int32 → Int32 → Int32 → zzS → Option (Int32 × zzS)
  | 0 => fun _ _ _ _ => none
  | n + 1 => f_X7_firstWrongByte_6b (f_X7_firstWrongByte_6 r0 n) r0
def f_X7_firstWrongByte (r0 : Nat) (σ : zzS) : Option (Int32 × zzS) :=
  f_X7_firstWrongByte_6 r0 200 (1 : Int32) (0 : Int32) (0 : Int32) σ
def f_X8_number (kf : (Nat × Int32)) (σ : zzS) : Option (Int32 × zzS) :=
  some ((7 : Int32), σ)
def f_X8_grows (kf : (Nat × Int32)) (σ : zzS) : Option (Int32 × zzS) :=
  zzbd (f_X9_grows kf σ) (fun r1 σ2 => some (((3 : Int32) * r1), σ2))
def f_X8_turns (kf : (Nat × Int32)) (σ : zzS) : Option (Int32 × zzS) :=
  some ((3 : Int32), σ)
def f_X8_price (kf : (Nat × Int32)) (σ : zzS) : Option (Int32 × zzS) :=
  zzbd (f_X9_price kf σ) (fun r1 σ2 => some ((r1 + (2 : Int32)), σ2))
def f_X9_number (kf : (Nat × Int32)) (σ : zzS) : Option (Int32 × zzS) :=
  some ((1 : Int32), σ)
def f_X10_become_46b  (k46 : Int32 → zzS → Option (Unit × zzS)) (t0 : Nat) (p0 : Nat) (l2 : Int32) (σ : zzS) : Option (Unit × zzS) :=
  (if l2 < (Int32.ofNat (zzlen (t0 + 3))) then (zzbd (f_X11_read (p0 + 3) l2 σ) (fun r5 σ6 => zzgd (zzin l2 (zzlen (t0 + 3))) (zzlt (zzsa σ6 (t0 + 3) (Int32.toNatClampNeg l2) r5) (fun σ8 => zzlt (l2 + (1 : Int32)) (fun x9 => k46 x9 σ8))))) else (zzlt (zzsi σ t0 4 (zzi σ p0 4)) (fun σ2 => zzlt (zzsi σ2 t0 5 (zzi σ2 p0 5)) (fun σ3 => zzlt (zzsi σ3 t0 6 (zzi σ3 p0 6)) (fun σ4 => some ((), σ4))))))
def f_X10_become_46  (t0 : Nat) (p0 : Nat) : Nat → Int32 → zzS → Option (Unit × zzS)
  | 0 => fun _ _ => none
  | n + 1 => f_X10_become_46b (f_X10_become_46 t0 p0 n) t0 p0
def f_X10_become_2b  (k2 : Int32 → zzS → Option (Unit × zzS)) (t0 : Nat) (p0 : Nat) (l2 : Int32) (σ : zzS) : Option (Unit × zzS) :=
  (if l2 < (Int32.ofNat (zzplen (t0 + 1))) then (zzbd (f_X10_at p0 l2 σ) (fun r2 σ3 => zzgd (zzin l2 (zzplen (t0 + 1))) (zzlt (zzsr σ3 (t0 + 1) (Int32.toNatClampNeg l2) r2) (fun σ7 => zzbd (f_X11_read (p0 + 2) l2 σ7) (fun r8 σ9 => zzbd (f_X11_write (t0 + 2) l2 r8 σ9) (fun r10 σ11 => zzlt (l2 + (1 : Int32)) (fun x12 => k2 x12 σ11))))))) else (f_X10_become_46 t0 p0 200 (0 : Int32) σ))
def f_X10_become_2  (t0 : Nat) (p0 : Nat) : Nat → Int32 → zzS → Option (Unit × zzS)
  | 0 => fun _ _ => none
  | n + 1 => f_X10_become_2b (f_X10_become_2 t0 p0 n) t0 p0
def f_X10_become (t0 : Nat) (p0 : Nat) (σ : zzS) : Option (Unit × zzS) :=
  f_X10_become_2 t0 p0 200 (0 : Int32) σ
def f_X10_turnedOf (t0 : Nat) (p0 : Int32) (σ : zzS) : Option (Int32 × zzS) :=
  zzbd (f_X10_has t0 p0 σ) (fun r1 σ2 => (if r1 = 0 then (some ((0 : Int32), σ2)) else (zzbd (f_X11_read (t0 + 2) p0 σ2) (fun r4 σ5 => some (r4, σ5)))))
def f_X10_admit (t0 : Nat) (p0 : (Option (Nat × Int32))) (σ : zzS) : Option (Int32 × zzS) :=
  (if (zzi σ t0 4) < 0 then (some ((0 : Int32), σ)) else (if (zzi σ t0 4) < (Int32.ofNat (zzplen (t0 + 1))) then (zzgd (zzin (zzi σ t0 4) (zzplen (t0 + 1))) (zzlt (zzsr σ (t0 + 1) (Int32.toNatClampNeg (zzi σ t0 4)) p0) (fun σ4 => zzlt (zzsi σ4 t0 4 ((zzi σ4 t0 4) + (1 : Int32))) (fun σ5 => some ((1 : Int32), σ5))))) else (some ((0 : Int32), σ))))
def f_X10_setFond (t0 : Nat) (p0 : Int32) (p1 : Int32) (p2 : Int32) (σ : zzS) : Option (Int32 × zzS) :=
  zzbd (f_X10_areTwo t0 p0 p1 σ) (fun r1 σ2 => (if r1 = 0 then (some ((0 : Int32), σ2)) else (if p2 < 0 then (some ((0 : Int32), σ2)) else (if (9 : Int32) < p2 then (some ((0 : Int32), σ2)) else (zzbd (f_X11_write (t0 + 3) ((p0 * (7 : Int32)) + p1) p2 σ2) (fun r6 σ7 => some ((1 : Int32), σ7)))))))
def f_X10_setLimit (t0 : Nat) (p0 : Int32) (σ : zzS) : Option (Int32 × zzS) :=
  (if p0 < 0 then (some ((0 : Int32), σ)) else (if (9 : Int32) < p0 then (some ((0 : Int32), σ)) else (zzlt (zzsi σ t0 5 p0) (fun σ3 => some ((1 : Int32), σ3)))))
def f_X10_pass (t0 : Nat) (p0 : Int32) (σ : zzS) : Option (Int32 × zzS) :=
  (if p0 < (1 : Int32) then (some ((0 : Int32), σ)) else (if (99 : Int32) < p0 then (some ((0 : Int32), σ)) else (if (999 : Int32) < ((zzi σ t0 6) + p0) then (some ((0 : Int32), σ)) else (zzlt (zzsi σ t0 6 ((zzi σ t0 6) + p0)) (fun σ4 => some ((1 : Int32), σ4))))))
def f_X10_becomeFonder (t0 : Nat) (p0 : Int32) (p1 : Int32) (σ : zzS) : Option (Unit × zzS) :=
  zzbd (f_X10_fondOf t0 p0 p1 σ) (fun r1 σ2 => zzbd (f_X10_at t0 p0 σ2) (fun r3 σ4 => zzon r3 none (fun kf7 => zzbd (some (zzgrows kf7, σ4)) (fun r12 σ13 => zzbd (f_X10_setFond t0 p0 p1 (zzmin (9 : Int32) (r1 + r12)) σ13) (fun r14 σ15 => some ((), σ15))))))
def f_X10_see (t0 : Nat) (p0 : Int32) (p1 : Int32) (σ : zzS) : Option (Int32 × zzS) :=
  zzbd (f_X10_areTwo t0 p0 p1 σ) (fun r1 σ2 => (if r1 = 0 then (some ((0 : Int32), σ2)) else (if (zzi σ2 t0 6) < (999 : Int32) then (zzbd (f_X10_becomeFonder t0 p0 p1 σ2) (fun r5 σ6 => zzlt (zzsi σ6 t0 6 ((zzi σ6 t0 6) + (1 : Int32))) (fun σ7 => some ((1 : Int32), σ7)))) else (some ((0 : Int32), σ2)))))
def f_X10_turnCards (t0 : Nat) (p0 : Int32) (p1 : Int32) (σ : zzS) : Option (Unit × zzS) :=
  zzbd (f_X10_turnedOf t0 p1 σ) (fun r1 σ2 => zzbd (f_X10_at t0 p0 σ2) (fun r3 σ4 => zzon r3 none (fun kf7 => zzbd (some (zzturns kf7, σ4)) (fun r12 σ13 => zzbd (f_X11_write (t0 + 2) p1 (zzmin (9 : Int32) (r1 + r12)) σ13) (fun r14 σ15 => zzbd (f_X10_becomeFonder t0 p0 p1 σ15) (fun r16 σ17 => some ((), σ17)))))))
def f_X10_turn (t0 : Nat) (p0 : Int32) (p1 : Int32) (σ : zzS) : Option (Int32 × zzS) :=
  zzbd (f_X10_may t0 p0 p1 (zzi σ t0 5) σ) (fun r1 σ2 => (if r1 = 0 then (some ((0 : Int32), σ2)) else (zzbd (f_X10_turnedOf t0 p1 σ2) (fun r4 σ5 => (if r4 < (9 : Int32) then (if (zzi σ5 t0 6) < (999 : Int32) then (zzbd (f_X10_turnCards t0 p0 p1 σ5) (fun r8 σ9 => zzlt (zzsi σ9 t0 6 ((zzi σ9 t0 6) + (1 : Int32))) (fun σ10 => some ((1 : Int32), σ10)))) else (some ((0 : Int32), σ5))) else (some ((0 : Int32), σ5)))))))
def f_X10_turnByTheLeast_41 (k2 : Int32 → zzS → Option (Int32 × zzS)) (t0 : Nat) (p0 : Int32) (l2 : Int32) (σ : zzS) : Option (Int32 × zzS) :=
  zzlt (l2 + (1 : Int32)) (fun x1 => k2 x1 σ)
def f_X10_turnByTheLeast_2b  (k2 : Int32 → zzS → Option (Int32 × zzS)) (t0 : Nat) (p0 : Int32) (l2 : Int32) (σ : zzS) : Option (Int32 × zzS) :=
  (if l2 < (zzi σ t0 4) then (zzbd (f_X10_may t0 l2 p0 (zzi σ t0 5) σ) (fun r2 σ3 => (if r2 = 0 then (f_X10_turnByTheLeast_41 k2 t0 p0 l2 σ3) else (zzbd (f_X10_turnedOf t0 p0 σ3) (fun r5 σ6 => (if r5 < (9 : Int32) then (zzbd (f_X10_turnCards t0 l2 p0 σ6) (fun r8 σ9 => some ((1 : Int32), σ9))) else (f_X10_turnByTheLeast_41 k2 t0 p0 l2 σ6))))))) else (some ((0 : Int32), σ)))
def f_X10_turnByTheLeast_2  (t0 : Nat) (p0 : Int32) : Nat → Int32 → zzS → Option (Int32 × zzS)
  | 0 => fun _ _ => none
  | n + 1 => f_X10_turnByTheLeast_2b (f_X10_turnByTheLeast_2 t0 p0 n) t0 p0
def f_X10_turnByTheLeast (t0 : Nat) (p0 : Int32) (σ : zzS) : Option (Int32 × zzS) :=
  f_X10_turnByTheLeast_2 t0 p0 200 (0 : Int32) σ
def f_X10_turnElseSee_31  (t0 : Nat) (p0 : Int32) (p1 : Int32)  (σ : zzS) : Option (Int32 × zzS) :=
  zzbd (f_X10_areTwo t0 p0 p1 σ) (fun r1 σ2 => (if r1 = 0 then (some ((0 : Int32), σ2)) else (zzbd (f_X10_becomeFonder t0 p0 p1 σ2) (fun r4 σ5 => some ((0 : Int32), σ5)))))
def f_X10_turnElseSee (t0 : Nat) (p0 : Int32) (p1 : Int32) (σ : zzS) : Option (Int32 × zzS) :=
  zzbd (f_X10_may t0 p0 p1 (zzi σ t0 5) σ) (fun r1 σ2 => (if r1 = 0 then (f_X10_turnElseSee_31 t0 p0 p1 σ2) else (zzbd (f_X10_turnedOf t0 p1 σ2) (fun r4 σ5 => (if r4 < (9 : Int32) then (zzbd (f_X10_turnCards t0 p0 p1 σ5) (fun r7 σ8 => some ((1 : Int32), σ8))) else (f_X10_turnElseSee_31 t0 p0 p1 σ5))))))
def f_X10_fitForAll_4b  (k4 : Int32 → Int32 → zzS → Option (Int32 × zzS)) (t0 : Nat) (l1 : Int32) (l2 : Int32) (σ : zzS) : Option (Int32 × zzS) :=
  (if l2 < (zzi σ t0 4) then (zzbd (f_X10_fitFor t0 l2 (zzi σ t0 5) σ) (fun r2 σ3 => zzbd (f_J6_bitCount_0f7a4 r2 σ3) (fun r4 σ5 => zzlt (l1 + r4) (fun x6 => zzlt (l2 + (1 : Int32)) (fun x7 => k4 x6 x7 σ5))))) else (some (l1, σ)))
def f_X10_fitForAll_4  (t0 : Nat) : Nat → Int32 → Int32 → zzS → Option (Int32 × zzS)
  | 0 => fun _ _ _ => none
  | n + 1 => f_X10_fitForAll_4b (f_X10_fitForAll_4 t0 n) t0
def f_X10_fitForAll (t0 : Nat) (σ : zzS) : Option (Int32 × zzS) :=
  f_X10_fitForAll_4 t0 200 (0 : Int32) (0 : Int32) σ
def f_X10_turningsTillUnfit_35b  (k35 : Int32 → Int32 → Int32 → Int32 → zzS → Option (Int32 × zzS)) (t0 : Nat) (p0 : Int32) (p1 : Int32) (l3 : Int32) (l4 : Int32) (l5 : Int32) (l6 : Int32) (σ : zzS) : Option (Int32 × zzS) :=
  (if l6 < (99 : Int32) then (if l3 < l5 then (some (l6, σ)) else (zzlt (zzmin (9 : Int32) (l5 + l4)) (fun x3 => zzlt (l6 + (1 : Int32)) (fun x4 => k35 l3 l4 x3 x4 σ)))) else (some ((99 : Int32), σ)))
def f_X10_turningsTillUnfit_35  (t0 : Nat) (p0 : Int32) (p1 : Int32) : Nat → Int32 → Int32 → Int32 → Int32 → zzS → Option (Int32 × zzS)
  | 0 => fun _ _ _ _ _ => none
  | n + 1 => f_X10_turningsTillUnfit_35b (f_X10_turningsTillUnfit_35 t0 p0 p1 n) t0 p0 p1
def f_X10_turningsTillUnfit (t0 : Nat) (p0 : Int32) (p1 : Int32) (σ : zzS) : Option (Int32 × zzS) :=
  zzbd (f_X10_at t0 p0 σ) (fun r1 σ2 => zzon r1 none (fun kf5 => zzbd (some (zzbears kf5, σ2)) (fun r10 σ11 => zzlt (r10 + (zzi σ11 t0 5)) (fun x12 => zzbd (f_X10_at t0 p0 σ11) (fun r13 σ14 => zzon r13 none (fun kf17 => zzbd (some (zzgrows kf17, σ14)) (fun r22 σ23 => zzbd (f_X10_fondOf t0 p0 p1 σ23) (fun r24 σ25 => f_X10_turningsTillUnfit_35 t0 p0 p1 200 x12 r22 r24 (0 : Int32) σ25))))))))
def f_X10_allTurned_4b  (k4 : Int32 → Int32 → zzS → Option (Int32 × zzS)) (t0 : Nat) (l1 : Int32) (l2 : Int32) (σ : zzS) : Option (Int32 × zzS) :=
  (if l2 < (zzi σ t0 4) then (zzbd (f_X10_turnedOf t0 l2 σ) (fun r2 σ3 => zzlt (l1 + r2) (fun x4 => zzlt (l2 + (1 : Int32)) (fun x5 => k4 x4 x5 σ3)))) else (some (l1, σ)))
def f_X10_allTurned_4  (t0 : Nat) : Nat → Int32 → Int32 → zzS → Option (Int32 × zzS)
  | 0 => fun _ _ _ => none
  | n + 1 => f_X10_allTurned_4b (f_X10_allTurned_4 t0 n) t0
def f_X10_allTurned (t0 : Nat) (σ : zzS) : Option (Int32 × zzS) :=
  f_X10_allTurned_4 t0 200 (0 : Int32) (0 : Int32) σ
def f_X10_allFond_14b (k4 : Int32 → Int32 → zzS → Option (Int32 × zzS)) (k14 : Int32 → Int32 → Int32 → zzS → Option (Int32 × zzS)) (t0 : Nat) (l1 : Int32) (l2 : Int32) (l3 : Int32) (σ : zzS) : Option (Int32 × zzS) :=
  (if l3 < (zzi σ t0 4) then (zzbd (f_X10_fondOf t0 l2 l3 σ) (fun r3 σ4 => zzlt (l1 + r3) (fun x5 => zzlt (l3 + (1 : Int32)) (fun x6 => k14 x5 l2 x6 σ4)))) else (zzlt (l2 + (1 : Int32)) (fun x2 => k4 l1 x2 σ)))
def f_X10_allFond_14 (k4 : Int32 → Int32 → zzS → Option (Int32 × zzS)) (t0 : Nat) : Nat → Int32 → Int32 → Int32 → zzS → Option (Int32 × zzS)
  | 0 => fun _ _ _ _ => none
  | n + 1 => f_X10_allFond_14b k4 (f_X10_allFond_14 k4 t0 n) t0
def f_X10_allFond_4b  (k4 : Int32 → Int32 → zzS → Option (Int32 × zzS)) (t0 : Nat) (l1 : Int32) (l2 : Int32) (σ : zzS) : Option (Int32 × zzS) :=
  (if l2 < (zzi σ t0 4) then (f_X10_allFond_14 k4 t0 200 l1 l2 (0 : Int32) σ) else (some (l1, σ)))
def f_X10_allFond_4  (t0 : Nat) : Nat → Int32 → Int32 → zzS → Option (Int32 × zzS)
  | 0 => fun _ _ _ => none
  | n + 1 => f_X10_allFond_4b (f_X10_allFond_4 t0 n) t0
def f_X10_allFond (t0 : Nat) (σ : zzS) : Option (Int32 × zzS) :=
  f_X10_allFond_4 t0 200 (0 : Int32) (0 : Int32) σ
def f_X10_toldWhole_28 (k4 : Int32 → Int32 → zzS → Option (Int32 × zzS)) (t0 : Nat) (l1 : Int32) (l2 : Int32) (σ : zzS) : Option (Int32 × zzS) :=
  zzlt (l2 + (1 : Int32)) (fun x1 => k4 l1 x1 σ)
def f_X10_toldWhole_4b  (k4 : Int32 → Int32 → zzS → Option (Int32 × zzS)) (t0 : Nat) (l1 : Int32) (l2 : Int32) (σ : zzS) : Option (Int32 × zzS) :=
  (if l2 < (zzi σ t0 4) then (zzbd (f_X10_turnedOf t0 l2 σ) (fun r2 σ3 => (if r2 < (9 : Int32) then (f_X10_toldWhole_28 k4 t0 l1 l2 σ3) else (zzlt (l1 ||| ((1 : Int32) <<< (l2 &&& 31))) (fun x5 => f_X10_toldWhole_28 k4 t0 x5 l2 σ3))))) else (some (l1, σ)))
def f_X10_toldWhole_4  (t0 : Nat) : Nat → Int32 → Int32 → zzS → Option (Int32 × zzS)
  | 0 => fun _ _ _ => none
  | n + 1 => f_X10_toldWhole_4b (f_X10_toldWhole_4 t0 n) t0
def f_X10_toldWhole (t0 : Nat) (σ : zzS) : Option (Int32 × zzS) :=
  f_X10_toldWhole_4 t0 200 (0 : Int32) (0 : Int32) σ
def f_X11_person (p0 : Int32) (p1 : Int32) (σ : zzS) : Option (Int32 × zzS) :=
  zzbd (f_X10_has 20 p0 σ) (fun r1 σ2 => (if r1 = 0 then (some ((-1 : Int32), σ2)) else (zzbd (f_X10_at 20 p0 σ2) (fun r4 σ5 => (if p1 = 0 then (zzon r4 none (fun kf14 => zzbd (some (zznumber kf14, σ5)) (fun r19 σ20 => some (r19, σ20)))) else (if p1 = 1 then (zzon r4 none (fun kf21 => some (kf21.2, σ5))) else (if p1 = 2 then (zzbd (f_X10_turnedOf 20 p0 σ5) (fun r26 σ27 => some (r26, σ27))) else (if p1 = 3 then (zzon r4 none (fun kf28 => zzbd (some (zzgrows kf28, σ5)) (fun r33 σ34 => some (r33, σ34)))) else (if p1 = 4 then (zzon r4 none (fun kf35 => zzbd (some (zzbears kf35, σ5)) (fun r40 σ41 => some ((r40 + (10 : Int32)), σ41)))) else (if p1 = 5 then (zzon r4 none (fun kf42 => zzbd (some (zzturns kf42, σ5)) (fun r47 σ48 => some (r47, σ48)))) else (some ((-1 : Int32), σ5))))))))))))
def f_X11_fond (p0 : Int32) (p1 : Int32) (σ : zzS) : Option (Int32 × zzS) :=
  zzbd (f_X10_areTwo 20 p0 p1 σ) (fun r1 σ2 => (if r1 = 0 then (some ((-1 : Int32), σ2)) else (zzbd (f_X10_fondOf 20 p0 p1 σ2) (fun r4 σ5 => some (r4, σ5)))))
def f_X11_oneOn (p0 : Int32) (σ : zzS) : Option ((Option (Nat × Int32)) × zzS) :=
  (if p0 < 0 then (some (none, σ)) else (if p0 < (Int32.ofNat (zzplen 1)) then (zzgd (zzin p0 (zzplen 1)) (some ((zzr σ 1 (Int32.toNatClampNeg p0)), σ))) else (some (none, σ))))
def f_X11_isShelf (p0 : Int32) (σ : zzS) : Option (Int32 × zzS) :=
  (if p0 < 0 then (some ((0 : Int32), σ)) else (if p0 < (8 : Int32) then (some ((1 : Int32), σ)) else (some ((0 : Int32), σ))))
def f_X11_rowOn (p0 : Int32) (σ : zzS) : Option ((Option Nat) × zzS) :=
  (if p0 < 0 then (some (none, σ)) else (if p0 < (8 : Int32) then (zzgd (zzin p0 8) (zzlt (zzq σ (Int32.toNatClampNeg p0)) (fun x4 => some (x4, σ)))) else (some (none, σ))))
def f_X11_refusalWithoutOne (p0 : Int32) (σ : zzS) : Option (Int32 × zzS) :=
  zzbd (f_X11_isShelf p0 σ) (fun r1 σ2 => (if r1 = 0 then (some ((-1 : Int32), σ2)) else (zzbd (f_X11_rowOn p0 σ2) (fun r4 σ5 => (zzon r4 (some ((-11 : Int32), σ5)) (fun j6 => zzgd (zzrow j6) (some ((-12 : Int32), σ5))))))))
def f_X11_comes (p0 : Int32) (σ : zzS) : Option (Int32 × zzS) :=
  zzbd (f_X11_oneOn p0 σ) (fun r1 σ2 => (zzon r1 (zzbd (f_X11_refusalWithoutOne p0 σ2) (fun r10 σ11 => some (r10, σ11))) (fun kf5 => (zzbd (f_X10_admit 20 (some kf5) σ2) (fun r12 σ13 => (if r12 = 0 then (some ((-2 : Int32), σ13)) else (some (((zzi σ13 20 4) - (1 : Int32)), σ13))))))))
def f_X11_feels (p0 : Int32) (p1 : Int32) (p2 : Int32) (σ : zzS) : Option (Int32 × zzS) :=
  zzbd (f_X10_fondOf 20 p0 p1 σ) (fun r1 σ2 => zzbd (f_X10_setFond 20 p0 p1 p2 σ2) (fun r3 σ4 => (if r3 = 0 then (some ((-1 : Int32), σ4)) else (some (r1, σ4)))))
def f_X11_limit (p0 : Int32) (σ : zzS) : Option (Int32 × zzS) :=
  zzlt (zzi σ 20 5) (fun x1 => zzbd (f_X10_setLimit 20 p0 σ) (fun r2 σ3 => (if r2 = 0 then (some ((-1 : Int32), σ3)) else (some (x1, σ3)))))
def f_X11_sees (p0 : Int32) (p1 : Int32) (σ : zzS) : Option (Int32 × zzS) :=
  zzbd (f_X10_areTwo 20 p0 p1 σ) (fun r1 σ2 => (if r1 = 0 then (some ((-1 : Int32), σ2)) else (zzbd (f_X10_see 20 p0 p1 σ2) (fun r4 σ5 => (if r4 = 0 then (some ((-3 : Int32), σ5)) else (zzbd (f_X10_fondOf 20 p0 p1 σ5) (fun r7 σ8 => some (r7, σ8))))))))
def f_X11_turnsFor (p0 : Int32) (p1 : Int32) (σ : zzS) : Option (Int32 × zzS) :=
  zzbd (f_X10_areTwo 20 p0 p1 σ) (fun r1 σ2 => (if r1 = 0 then (some ((-1 : Int32), σ2)) else (zzbd (f_X10_turn 20 p0 p1 σ2) (fun r4 σ5 => (if r4 = 0 then (some ((-3 : Int32), σ5)) else (zzbd (f_X10_turnedOf 20 p1 σ5) (fun r7 σ8 => some (r7, σ8))))))))
def f_X11_days (p0 : Int32) (σ : zzS) : Option (Int32 × zzS) :=
  (if p0 < (1 : Int32) then (some ((-1 : Int32), σ)) else (if (99 : Int32) < p0 then (some ((-1 : Int32), σ)) else (zzbd (f_X10_pass 20 p0 σ) (fun r3 σ4 => (if r3 = 0 then (some ((-3 : Int32), σ4)) else (some ((zzi σ4 20 6), σ4)))))))
def f_X11_fit (p0 : Int32) (σ : zzS) : Option (Int32 × zzS) :=
  zzbd (f_X10_has 20 p0 σ) (fun r1 σ2 => (if r1 = 0 then (some ((-1 : Int32), σ2)) else (zzbd (f_X10_fitFor 20 p0 (zzi σ2 20 5) σ2) (fun r4 σ5 => some (r4, σ5)))))
def f_X11_told_18  (p0 : Int32)  (σ : zzS) : Option (Int32 × zzS) :=
  zzbd (f_X2_gather 20 (zzi σ 20 5) σ) (fun r1 σ2 => zzbd (f_X2_mostTold σ2) (fun r3 σ4 => (if p0 = (-1 : Int32) then (some (r3, σ4)) else (zzbd (f_X2_turnerOf p0 σ4) (fun r6 σ7 => some (r6, σ7))))))
def f_X11_told (p0 : Int32) (σ : zzS) : Option (Int32 × zzS) :=
  (if p0 = (-1 : Int32) then (f_X11_told_18 p0 σ) else (zzbd (f_X10_has 20 p0 σ) (fun r2 σ3 => (if r2 = 0 then (some ((-1 : Int32), σ3)) else (f_X11_told_18 p0 σ3)))))
def f_X11_rings  (σ : zzS) : Option (Int32 × zzS) :=
  zzbd (f_X2_gather 20 (zzi σ 20 5) σ) (fun r1 σ2 => zzbd (f_X2_waysForAll σ2) (fun r3 σ4 => some (r3, σ4)))
def f_X11_nobody_39 (k4 : Int32 → Int32 → zzS → Option (Int32 × zzS))  (l1 : Int32) (l2 : Int32) (σ : zzS) : Option (Int32 × zzS) :=
  zzlt (l2 + (1 : Int32)) (fun x1 => k4 l1 x1 σ)
def f_X11_nobody_4b  (k4 : Int32 → Int32 → zzS → Option (Int32 × zzS))  (l1 : Int32) (l2 : Int32) (σ : zzS) : Option (Int32 × zzS) :=
  (if l2 < (zzi σ 20 4) then (zzbd (f_X10_fitFor 20 l2 (zzi σ 20 5) σ) (fun r2 σ3 => (if r2 = 0 then (zzlt (l1 ||| ((1 : Int32) <<< (l2 &&& 31))) (fun x5 => f_X11_nobody_39 k4 x5 l2 σ3)) else (f_X11_nobody_39 k4 l1 l2 σ3)))) else (some (l1, σ)))
def f_X11_nobody_4   : Nat → Int32 → Int32 → zzS → Option (Int32 × zzS)
  | 0 => fun _ _ _ => none
  | n + 1 => f_X11_nobody_4b (f_X11_nobody_4  n)
def f_X11_nobody  (σ : zzS) : Option (Int32 × zzS) :=
  f_X11_nobody_4 200 (0 : Int32) (0 : Int32) σ
def f_X11_isOneOfTwo_9  (p0 : Int32)  (σ : zzS) : Option (Int32 × zzS) :=
  some ((1 : Int32), σ)
def f_X11_isOneOfTwo (p0 : Int32) (σ : zzS) : Option (Int32 × zzS) :=
  (if p0 = 0 then (f_X11_isOneOfTwo_9 p0 σ) else (if p0 = (1 : Int32) then (f_X11_isOneOfTwo_9 p0 σ) else (some ((0 : Int32), σ))))
def f_X11_swaps_109 (k17 : Int32 → Int32 → Int32 → zzS → Option (Int32 × zzS)) (k35 : Int32 → Int32 → Int32 → Int32 → zzS → Option (Int32 × zzS)) (p0 : Int32) (l2 : Int32) (l3 : Int32) (l4 : Int32) (l5 : Int32) (σ : zzS) : Option (Int32 × zzS) :=
  zzlt (l5 + (1 : Int32)) (fun x1 => k35 l2 l3 l4 x1 σ)
def f_X11_swaps_105 (k17 : Int32 → Int32 → Int32 → zzS → Option (Int32 × zzS)) (k35 : Int32 → Int32 → Int32 → Int32 → zzS → Option (Int32 × zzS)) (p0 : Int32) (l2 : Int32) (l4 : Int32) (l5 : Int32) (s0 : Int32) (σ : zzS) : Option (Int32 × zzS) :=
  zzlt (l2 + (1 : Int32)) (fun x1 => f_X11_swaps_109 k17 k35 p0 x1 s0 l4 l5 σ)
def f_X11_swaps_35b (k17 : Int32 → Int32 → Int32 → zzS → Option (Int32 × zzS)) (k35 : Int32 → Int32 → Int32 → Int32 → zzS → Option (Int32 × zzS)) (p0 : Int32) (l2 : Int32) (l3 : Int32) (l4 : Int32) (l5 : Int32) (σ : zzS) : Option (Int32 × zzS) :=
  (if l5 < (zzi σ 20 4) then (zzbd (f_X10_may 20 l4 l5 (zzi σ 20 5) σ) (fun r3 σ4 => (if r3 = 0 then (f_X11_swaps_109 k17 k35 p0 l2 l3 l4 l5 σ4) else (zzbd (f_X10_may 20 l5 l4 (zzi σ4 20 5) σ4) (fun r6 σ7 => (if r6 = 0 then (f_X11_swaps_109 k17 k35 p0 l2 l3 l4 l5 σ7) else (if l2 = 0 then (f_X11_swaps_105 k17 k35 p0 l2 l4 l5 (((10 : Int32) * l4) + l5) σ7) else (f_X11_swaps_105 k17 k35 p0 l2 l4 l5 l3 σ7)))))))) else (zzlt (l4 + (1 : Int32)) (fun x2 => k17 l2 l3 x2 σ)))
def f_X11_swaps_35 (k17 : Int32 → Int32 → Int32 → zzS → Option (Int32 × zzS)) (p0 : Int32) : Nat → Int32 → Int32 → Int32 → Int32 → zzS → Option (Int32 × zzS)
  | 0 => fun _ _ _ _ _ => none
  | n + 1 => f_X11_swaps_35b k17 (f_X11_swaps_35 k17 p0 n) p0
def f_X11_swaps_17b  (k17 : Int32 → Int32 → Int32 → zzS → Option (Int32 × zzS)) (p0 : Int32) (l2 : Int32) (l3 : Int32) (l4 : Int32) (σ : zzS) : Option (Int32 × zzS) :=
  (if l4 < (zzi σ 20 4) then (zzlt (l4 + (1 : Int32)) (fun x3 => f_X11_swaps_35 k17 p0 200 l2 l3 l4 x3 σ)) else (if p0 = 0 then (some (l2, σ)) else (some (l3, σ))))
def f_X11_swaps_17  (p0 : Int32) : Nat → Int32 → Int32 → Int32 → zzS → Option (Int32 × zzS)
  | 0 => fun _ _ _ _ => none
  | n + 1 => f_X11_swaps_17b (f_X11_swaps_17 p0 n) p0
def f_X11_swaps (p0 : Int32) (σ : zzS) : Option (Int32 × zzS) :=
  zzbd (f_X11_isOneOfTwo p0 σ) (fun r1 σ2 => (if r1 = 0 then (some ((-1 : Int32), σ2)) else (f_X11_swaps_17 p0 200 (0 : Int32) (-4 : Int32) (0 : Int32) σ2)))
def f_X11_lasts (p0 : Int32) (p1 : Int32) (σ : zzS) : Option (Int32 × zzS) :=
  zzbd (f_X10_areTwo 20 p0 p1 σ) (fun r1 σ2 => (if r1 = 0 then (some ((-1 : Int32), σ2)) else (zzbd (f_X10_turningsTillUnfit 20 p0 p1 σ2) (fun r4 σ5 => some (r4, σ5)))))
def f_X11_fewestTurnings_106 (k18 : Int32 → Int32 → Int32 → zzS → Option (Int32 × zzS)) (k26 : Int32 → Int32 → Int32 → Int32 → zzS → Option (Int32 × zzS)) (p0 : Int32) (l2 : Int32) (l3 : Int32) (l4 : Int32) (l5 : Int32) (σ : zzS) : Option (Int32 × zzS) :=
  zzlt (l5 + (1 : Int32)) (fun x1 => k26 l2 l3 l4 x1 σ)
def f_X11_fewestTurnings_26b (k18 : Int32 → Int32 → Int32 → zzS → Option (Int32 × zzS)) (k26 : Int32 → Int32 → Int32 → Int32 → zzS → Option (Int32 × zzS)) (p0 : Int32) (l2 : Int32) (l3 : Int32) (l4 : Int32) (l5 : Int32) (σ : zzS) : Option (Int32 × zzS) :=
  (if l5 < (zzi σ 20 4) then (if l5 = p0 then (f_X11_fewestTurnings_106 k18 k26 p0 l2 l3 l4 l5 σ) else (zzbd (f_X10_at 20 l5 σ) (fun r4 σ5 => zzon r4 none (fun kf8 => zzbd (some (zzturns kf8, σ5)) (fun r13 σ14 => (if r13 = l4 then (zzgd (¬ l4 = 0) (zzlt (((l2 + l4) - (1 : Int32)) / l4) (fun x17 => zzbd (f_X10_turningsTillUnfit 20 l5 p0 σ14) (fun r18 σ19 => zzlt (zzmin x17 r18) (fun x20 => zzlt (zzmax (0 : Int32) (l2 - (x20 * l4))) (fun x21 => zzlt (l3 + x20) (fun x22 => f_X11_fewestTurnings_106 k18 k26 p0 x21 x22 l4 l5 σ19))))))) else (f_X11_fewestTurnings_106 k18 k26 p0 l2 l3 l4 l5 σ14))))))) else (zzlt (l4 + (-1 : Int32)) (fun x2 => k18 l2 l3 x2 σ)))
def f_X11_fewestTurnings_26 (k18 : Int32 → Int32 → Int32 → zzS → Option (Int32 × zzS)) (p0 : Int32) : Nat → Int32 → Int32 → Int32 → Int32 → zzS → Option (Int32 × zzS)
  | 0 => fun _ _ _ _ _ => none
  | n + 1 => f_X11_fewestTurnings_26b k18 (f_X11_fewestTurnings_26 k18 p0 n) p0
def f_X11_fewestTurnings_18b  (k18 : Int32 → Int32 → Int32 → zzS → Option (Int32 × zzS)) (p0 : Int32) (l2 : Int32) (l3 : Int32) (l4 : Int32) (σ : zzS) : Option (Int32 × zzS) :=
  (if 0 < l4 then (f_X11_fewestTurnings_26 k18 p0 200 l2 l3 l4 (0 : Int32) σ) else (if 0 < l2 then (some ((-4 : Int32), σ)) else (some (l3, σ))))
def f_X11_fewestTurnings_18  (p0 : Int32) : Nat → Int32 → Int32 → Int32 → zzS → Option (Int32 × zzS)
  | 0 => fun _ _ _ _ => none
  | n + 1 => f_X11_fewestTurnings_18b (f_X11_fewestTurnings_18 p0 n) p0
def f_X11_fewestTurnings (p0 : Int32) (σ : zzS) : Option (Int32 × zzS) :=
  zzbd (f_X10_turnedOf 20 p0 σ) (fun r1 σ2 => zzlt ((9 : Int32) - r1) (fun x3 => f_X11_fewestTurnings_18 p0 200 x3 (0 : Int32) (9 : Int32) σ2))
def f_X11_strongestFit_72 (k8 : Int32 → Int32 → Int32 → zzS → Option (Int32 × zzS)) (p0 : Int32) (l2 : Int32) (l3 : Int32) (l4 : Int32) (σ : zzS) : Option (Int32 × zzS) :=
  zzlt (l4 + (1 : Int32)) (fun x1 => k8 l2 l3 x1 σ)
def f_X11_strongestFit_8b  (k8 : Int32 → Int32 → Int32 → zzS → Option (Int32 × zzS)) (p0 : Int32) (l2 : Int32) (l3 : Int32) (l4 : Int32) (σ : zzS) : Option (Int32 × zzS) :=
  (if l4 < (zzi σ 20 4) then (zzbd (f_X10_may 20 l4 p0 (zzi σ 20 5) σ) (fun r2 σ3 => (if r2 = 0 then (f_X11_strongestFit_72 k8 p0 l2 l3 l4 σ3) else (zzbd (f_X10_at 20 l4 σ3) (fun r5 σ6 => zzon r5 none (fun kf9 => zzbd (some (zzturns kf9, σ6)) (fun r14 σ15 => (if l3 < r14 then (zzbd (f_X10_at 20 l4 σ15) (fun r17 σ18 => zzon r17 none (fun kf21 => zzbd (some (zzturns kf21, σ18)) (fun r26 σ27 => f_X11_strongestFit_72 k8 p0 l4 r26 l4 σ27)))) else (f_X11_strongestFit_72 k8 p0 l2 l3 l4 σ15))))))))) else (some (l2, σ)))
def f_X11_strongestFit_8  (p0 : Int32) : Nat → Int32 → Int32 → Int32 → zzS → Option (Int32 × zzS)
  | 0 => fun _ _ _ _ => none
  | n + 1 => f_X11_strongestFit_8b (f_X11_strongestFit_8 p0 n) p0
def f_X11_strongestFit (p0 : Int32) (σ : zzS) : Option (Int32 × zzS) :=
  f_X11_strongestFit_8 p0 200 (-4 : Int32) (0 : Int32) (0 : Int32) σ
def f_X11_soonest (p0 : Int32) (p1 : Int32) (σ : zzS) : Option (Int32 × zzS) :=
  zzbd (f_X10_has 20 p0 σ) (fun r1 σ2 => (if r1 = 0 then (some ((-1 : Int32), σ2)) else (zzbd (f_X11_isOneOfTwo p1 σ2) (fun r4 σ5 => (if r4 = 0 then (some ((-1 : Int32), σ5)) else (zzbd (f_X11_fewestTurnings p0 σ5) (fun r7 σ8 => (if p1 = 0 then (some (r7, σ8)) else (if 0 < r7 then (zzbd (f_X11_strongestFit p0 σ8) (fun r11 σ12 => some (r11, σ12))) else (some ((-4 : Int32), σ8)))))))))))
def f_X11_hide_46 (k17 : Int32 → Int32 → zzS → Option (Int32 × zzS)) (p0 : Int32) (l2 : Int32) (l3 : Int32) (s0 : Int32) (σ : zzS) : Option (Int32 × zzS) :=
  (if s0 < (99 : Int32) then (zzlt (l2 + s0) (fun x2 => zzlt (l3 + (1 : Int32)) (fun x3 => k17 x2 x3 σ))) else (some ((-4 : Int32), σ)))
def f_X11_hide_17b  (k17 : Int32 → Int32 → zzS → Option (Int32 × zzS)) (p0 : Int32) (l2 : Int32) (l3 : Int32) (σ : zzS) : Option (Int32 × zzS) :=
  (if l3 < (zzi σ 20 4) then (if l3 = p0 then (f_X11_hide_46 k17 p0 l2 l3 (0 : Int32) σ) else (zzbd (f_X10_turningsTillUnfit 20 l3 p0 σ) (fun r3 σ4 => f_X11_hide_46 k17 p0 l2 l3 r3 σ4))) else (some (l2, σ)))
def f_X11_hide_17  (p0 : Int32) : Nat → Int32 → Int32 → zzS → Option (Int32 × zzS)
  | 0 => fun _ _ _ => none
  | n + 1 => f_X11_hide_17b (f_X11_hide_17 p0 n) p0
def f_X11_hide (p0 : Int32) (σ : zzS) : Option (Int32 × zzS) :=
  zzbd (f_X10_has 20 p0 σ) (fun r1 σ2 => (if r1 = 0 then (some ((-1 : Int32), σ2)) else (f_X11_hide_17 p0 200 (0 : Int32) (0 : Int32) σ2)))
def f_X11_keeps (p0 : Int32) (p1 : Int32) (σ : zzS) : Option (Int32 × zzS) :=
  zzbd (f_X10_areTwo 20 p0 p1 σ) (fun r1 σ2 => (if r1 = 0 then (some ((-1 : Int32), σ2)) else (zzbd (f_X10_turningsTillUnfit 20 p0 p1 σ2) (fun r4 σ5 => (if r4 = 0 then (some ((-3 : Int32), σ5)) else (if r4 < (99 : Int32) then (some ((r4 - (1 : Int32)), σ5)) else (some ((99 : Int32), σ5))))))))
def f_X11_allAreTold (p0 : Int32) (σ : zzS) : Option (Int32 × zzS) :=
  zzbd (f_X2_gather 20 p0 σ) (fun r1 σ2 => zzbd (f_X2_waysForAll σ2) (fun r3 σ4 => (if 0 < r3 then (some ((1 : Int32), σ4)) else (some ((0 : Int32), σ4)))))
def f_X11_eachHasSomebody_2b  (k2 : Int32 → zzS → Option (Int32 × zzS)) (p0 : Int32) (l2 : Int32) (σ : zzS) : Option (Int32 × zzS) :=
  (if l2 < (zzi σ 20 4) then (zzbd (f_X10_fitFor 20 l2 p0 σ) (fun r2 σ3 => (if r2 = 0 then (some ((0 : Int32), σ3)) else (zzlt (l2 + (1 : Int32)) (fun x5 => k2 x5 σ3))))) else (some ((1 : Int32), σ)))
def f_X11_eachHasSomebody_2  (p0 : Int32) : Nat → Int32 → zzS → Option (Int32 × zzS)
  | 0 => fun _ _ => none
  | n + 1 => f_X11_eachHasSomebody_2b (f_X11_eachHasSomebody_2 p0 n) p0
def f_X11_eachHasSomebody (p0 : Int32) (σ : zzS) : Option (Int32 × zzS) :=
  f_X11_eachHasSomebody_2 p0 200 (0 : Int32) σ
def f_X11_enough_42 (k11 : Int32 → zzS → Option (Int32 × zzS)) (p0 : Int32) (l2 : Int32) (σ : zzS) : Option (Int32 × zzS) :=
  zzlt (l2 + (1 : Int32)) (fun x1 => k11 x1 σ)
def f_X11_enough_11b  (k11 : Int32 → zzS → Option (Int32 × zzS)) (p0 : Int32) (l2 : Int32) (σ : zzS) : Option (Int32 × zzS) :=
  (if (9 : Int32) < l2 then (some ((-4 : Int32), σ)) else (if p0 = 0 then (zzbd (f_X11_allAreTold l2 σ) (fun r6 σ7 => (if r6 = 0 then (f_X11_enough_42 k11 p0 l2 σ7) else (some (l2, σ7))))) else (zzbd (f_X11_eachHasSomebody l2 σ) (fun r3 σ4 => (if r3 = 0 then (f_X11_enough_42 k11 p0 l2 σ4) else (some (l2, σ4)))))))
def f_X11_enough_11  (p0 : Int32) : Nat → Int32 → zzS → Option (Int32 × zzS)
  | 0 => fun _ _ => none
  | n + 1 => f_X11_enough_11b (f_X11_enough_11 p0 n) p0
def f_X11_enough (p0 : Int32) (σ : zzS) : Option (Int32 × zzS) :=
  zzbd (f_X11_isOneOfTwo p0 σ) (fun r1 σ2 => (if r1 = 0 then (some ((-1 : Int32), σ2)) else (f_X11_enough_11 p0 200 (0 : Int32) σ2)))
def f_X11_loved_82 (k18 : Int32 → Int32 → Int32 → zzS → Option (Int32 × zzS)) (p0 : Int32) (l2 : Int32) (l3 : Int32) (l4 : Int32) (σ : zzS) : Option (Int32 × zzS) :=
  zzlt (l4 + (1 : Int32)) (fun x1 => k18 l2 l3 x1 σ)
def f_X11_loved_36b (k18 : Int32 → Int32 → Int32 → zzS → Option (Int32 × zzS)) (k36 : Int32 → Int32 → Int32 → Int32 → Int32 → zzS → Option (Int32 × zzS)) (p0 : Int32) (l2 : Int32) (l3 : Int32) (l4 : Int32) (l5 : Int32) (l6 : Int32) (σ : zzS) : Option (Int32 × zzS) :=
  (if l6 < (zzi σ 20 4) then (zzbd (f_X10_fondOf 20 l6 l4 σ) (fun r3 σ4 => zzlt (l5 + r3) (fun x5 => zzlt (l6 + (1 : Int32)) (fun x6 => k36 l2 l3 l4 x5 x6 σ4)))) else (if l3 < l5 then (f_X11_loved_82 k18 p0 l4 l5 l4 σ) else (f_X11_loved_82 k18 p0 l2 l3 l4 σ)))
def f_X11_loved_36 (k18 : Int32 → Int32 → Int32 → zzS → Option (Int32 × zzS)) (p0 : Int32) : Nat → Int32 → Int32 → Int32 → Int32 → Int32 → zzS → Option (Int32 × zzS)
  | 0 => fun _ _ _ _ _ _ => none
  | n + 1 => f_X11_loved_36b k18 (f_X11_loved_36 k18 p0 n) p0
def f_X11_loved_18b  (k18 : Int32 → Int32 → Int32 → zzS → Option (Int32 × zzS)) (p0 : Int32) (l2 : Int32) (l3 : Int32) (l4 : Int32) (σ : zzS) : Option (Int32 × zzS) :=
  (if l4 < (zzi σ 20 4) then (f_X11_loved_36 k18 p0 200 l2 l3 l4 (0 : Int32) (0 : Int32) σ) else (if p0 = 0 then (some (l2, σ)) else (some (l3, σ))))
def f_X11_loved_18  (p0 : Int32) : Nat → Int32 → Int32 → Int32 → zzS → Option (Int32 × zzS)
  | 0 => fun _ _ _ _ => none
  | n + 1 => f_X11_loved_18b (f_X11_loved_18 p0 n) p0
def f_X11_loved (p0 : Int32) (σ : zzS) : Option (Int32 × zzS) :=
  zzbd (f_X11_isOneOfTwo p0 σ) (fun r1 σ2 => (if r1 = 0 then (some ((-1 : Int32), σ2)) else (f_X11_loved_18 p0 200 (-4 : Int32) (-4 : Int32) (0 : Int32) σ2)))
def f_X11_warmest_72 (k7 : Int32 → Int32 → Int32 → zzS → Option (Int32 × zzS)) (k21 : Int32 → Int32 → Int32 → Int32 → zzS → Option (Int32 × zzS))  (l1 : Int32) (l2 : Int32) (l3 : Int32) (l4 : Int32) (σ : zzS) : Option (Int32 × zzS) :=
  zzlt (l4 + (1 : Int32)) (fun x1 => k21 l1 l2 l3 x1 σ)
def f_X11_warmest_21b (k7 : Int32 → Int32 → Int32 → zzS → Option (Int32 × zzS)) (k21 : Int32 → Int32 → Int32 → Int32 → zzS → Option (Int32 × zzS))  (l1 : Int32) (l2 : Int32) (l3 : Int32) (l4 : Int32) (σ : zzS) : Option (Int32 × zzS) :=
  (if l4 < (zzi σ 20 4) then (if l3 = l4 then (f_X11_warmest_72 k7 k21 l1 l2 l3 l4 σ) else (zzbd (f_X10_fondOf 20 l3 l4 σ) (fun r4 σ5 => (if l2 < r4 then (zzlt (((10 : Int32) * l3) + l4) (fun x7 => zzbd (f_X10_fondOf 20 l3 l4 σ5) (fun r8 σ9 => f_X11_warmest_72 k7 k21 x7 r8 l3 l4 σ9))) else (f_X11_warmest_72 k7 k21 l1 l2 l3 l4 σ5))))) else (zzlt (l3 + (1 : Int32)) (fun x2 => k7 l1 l2 x2 σ)))
def f_X11_warmest_21 (k7 : Int32 → Int32 → Int32 → zzS → Option (Int32 × zzS))  : Nat → Int32 → Int32 → Int32 → Int32 → zzS → Option (Int32 × zzS)
  | 0 => fun _ _ _ _ _ => none
  | n + 1 => f_X11_warmest_21b k7 (f_X11_warmest_21 k7 n)
def f_X11_warmest_7b  (k7 : Int32 → Int32 → Int32 → zzS → Option (Int32 × zzS))  (l1 : Int32) (l2 : Int32) (l3 : Int32) (σ : zzS) : Option (Int32 × zzS) :=
  (if l3 < (zzi σ 20 4) then (f_X11_warmest_21 k7 200 l1 l2 l3 (0 : Int32) σ) else (some (l1, σ)))
def f_X11_warmest_7   : Nat → Int32 → Int32 → Int32 → zzS → Option (Int32 × zzS)
  | 0 => fun _ _ _ _ => none
  | n + 1 => f_X11_warmest_7b (f_X11_warmest_7  n)
def f_X11_warmest  (σ : zzS) : Option (Int32 × zzS) :=
  f_X11_warmest_7 200 (-4 : Int32) (-1 : Int32) (0 : Int32) σ
def f_X11_orders_32b  (k32 : Int32 → Int64 → Int32 → zzS → Option (Int64 × zzS)) (p0 : Int32) (l2 : Int32) (l3 : Int64) (l5 : Int32) (σ : zzS) : Option (Int64 × zzS) :=
  (if l2 < l5 then (some (l3, σ)) else (zzlt (l3 * (Int32.toInt64 l5)) (fun x2 => zzlt (l5 + (1 : Int32)) (fun x3 => k32 l2 x2 x3 σ))))
def f_X11_orders_32  (p0 : Int32) : Nat → Int32 → Int64 → Int32 → zzS → Option (Int64 × zzS)
  | 0 => fun _ _ _ _ => none
  | n + 1 => f_X11_orders_32b (f_X11_orders_32 p0 n) p0
def f_X11_orders (p0 : Int32) (σ : zzS) : Option (Int64 × zzS) :=
  zzbd (f_X10_has 20 p0 σ) (fun r1 σ2 => (if r1 = 0 then (some ((1000000001 : Int64), σ2)) else (zzbd (f_X10_turnedOf 20 p0 σ2) (fun r4 σ5 => zzlt ((9 : Int32) - r4) (fun x6 => f_X11_orders_32 p0 200 x6 (1 : Int64) (2 : Int32) σ5)))))
def f_X11_commonDivisor_3b  (k3 : Int64 → Int64 → Int32 → zzS → Option (Int64 × zzS))  (l0 : Int64) (l2 : Int64) (l4 : Int32) (σ : zzS) : Option (Int64 × zzS) :=
  (if l4 < (100 : Int32) then (if (lg_cmp l2 (0 : Int64)) = 0 then (some (l0, σ)) else (zzgd (¬ l2 = 0) (zzlt (l0 - l0 / l2 * l2) (fun x4 => zzlt (l4 + (1 : Int32)) (fun x5 => k3 l2 x4 x5 σ))))) else (some (l0, σ)))
def f_X11_commonDivisor_3   : Nat → Int64 → Int64 → Int32 → zzS → Option (Int64 × zzS)
  | 0 => fun _ _ _ _ => none
  | n + 1 => f_X11_commonDivisor_3b (f_X11_commonDivisor_3  n)
def f_X11_commonDivisor (p0 : Int64) (p1 : Int64) (σ : zzS) : Option (Int64 × zzS) :=
  f_X11_commonDivisor_3 200 p0 p1 (0 : Int32) σ
def f_X11_partInLeastTerms_10  (p0 : Int64) (p1 : Int64) (p2 : Int32) (s0 : Int64) (σ : zzS) : Option (Int64 × zzS) :=
  zzbd (f_X11_commonDivisor p0 p1 σ) (fun r1 σ2 => (if (lg_cmp r1 (0 : Int64)) = 0 then (some (s0, σ2)) else (zzgd (¬ r1 = 0) (some ((s0 / r1), σ2)))))
def f_X11_partInLeastTerms (p0 : Int64) (p1 : Int64) (p2 : Int32) (σ : zzS) : Option (Int64 × zzS) :=
  (if p2 = 0 then (f_X11_partInLeastTerms_10 p0 p1 p2 p0 σ) else (f_X11_partInLeastTerms_10 p0 p1 p2 p1 σ))
def f_X11_drawn (p0 : Int32) (p1 : Int32) (p2 : Int32) (σ : zzS) : Option (Int64 × zzS) :=
  zzbd (f_X10_areTwo 20 p0 p1 σ) (fun r1 σ2 => (if r1 = 0 then (some ((1000000001 : Int64), σ2)) else (zzbd (f_X11_isOneOfTwo p2 σ2) (fun r4 σ5 => (if r4 = 0 then (some ((1000000001 : Int64), σ5)) else (zzbd (f_X10_turnedOf 20 p1 σ5) (fun r7 σ8 => zzlt ((9 : Int32) - r7) (fun x9 => (if x9 = 0 then (some ((Int32.toInt64 p2), σ8)) else (zzbd (f_X10_at 20 p0 σ8) (fun r11 σ12 => zzon r11 none (fun kf15 => zzbd (some (zzturns kf15, σ12)) (fun r20 σ21 => zzbd (f_X11_partInLeastTerms (Int32.toInt64 (zzmin r20 x9)) (Int32.toInt64 x9) p2 σ21) (fun r22 σ23 => some (r22, σ23)))))))))))))))
def f_X11_power_5b  (k5 : Int64 → Int32 → zzS → Option (Int64 × zzS)) (p0 : Int32) (p1 : Int32) (l2 : Int64) (l4 : Int32) (σ : zzS) : Option (Int64 × zzS) :=
  (if l4 < p1 then (zzlt (l2 * (Int32.toInt64 p0)) (fun x2 => zzlt (l4 + (1 : Int32)) (fun x3 => k5 x2 x3 σ))) else (some (l2, σ)))
def f_X11_power_5  (p0 : Int32) (p1 : Int32) : Nat → Int64 → Int32 → zzS → Option (Int64 × zzS)
  | 0 => fun _ _ _ => none
  | n + 1 => f_X11_power_5b (f_X11_power_5 p0 p1 n) p0 p1
def f_X11_power (p0 : Int32) (p1 : Int32) (σ : zzS) : Option (Int64 × zzS) :=
  f_X11_power_5 p0 p1 200 (1 : Int64) (0 : Int32) σ
def f_X11_await (p0 : Int32) (p1 : Int32) (p2 : Int32) (σ : zzS) : Option (Int64 × zzS) :=
  (if p0 < 0 then (some ((1000000001 : Int64), σ)) else (if (10 : Int32) < p0 then (some ((1000000001 : Int64), σ)) else (if p1 < 0 then (some ((1000000001 : Int64), σ)) else (if (12 : Int32) < p1 then (some ((1000000001 : Int64), σ)) else (zzbd (f_X11_isOneOfTwo p2 σ) (fun r5 σ6 => (if r5 = 0 then (some ((1000000001 : Int64), σ6)) else (zzbd (f_X11_power (10 : Int32) p1 σ6) (fun r8 σ9 => zzbd (f_X11_power ((10 : Int32) - p0) p1 σ9) (fun r10 σ11 => zzbd (f_X11_partInLeastTerms (r8 - r10) r8 p2 σ11) (fun r12 σ13 => some (r12, σ13))))))))))))
def f_X11_daysFor_14b  (k14 : Int32 → zzS → Option (Int32 × zzS)) (p0 : Int32) (l2 : Int32) (σ : zzS) : Option (Int32 × zzS) :=
  (if (12 : Int32) < l2 then (some ((-4 : Int32), σ)) else (zzbd (f_X11_power ((10 : Int32) - p0) l2 σ) (fun r2 σ3 => zzbd (f_X11_power (10 : Int32) l2 σ3) (fun r4 σ5 => (if 0 < (lg_cmp ((2 : Int64) * r2) r4) then (zzlt (l2 + (1 : Int32)) (fun x7 => k14 x7 σ5)) else (some (l2, σ5)))))))
def f_X11_daysFor_14  (p0 : Int32) : Nat → Int32 → zzS → Option (Int32 × zzS)
  | 0 => fun _ _ => none
  | n + 1 => f_X11_daysFor_14b (f_X11_daysFor_14 p0 n) p0
def f_X11_daysFor (p0 : Int32) (σ : zzS) : Option (Int32 × zzS) :=
  (if p0 < 0 then (some ((-1 : Int32), σ)) else (if (10 : Int32) < p0 then (some ((-1 : Int32), σ)) else (f_X11_daysFor_14 p0 200 (0 : Int32) σ)))
def f_X11_ask_111 (k37 : Int32 → Int32 → Int32 → zzS → Option (Int32 × zzS)) (p0 : Int32) (l2 : Int32) (l3 : Int32) (l4 : Int32) (σ : zzS) : Option (Int32 × zzS) :=
  zzlt (l4 + (1 : Int32)) (fun x1 => k37 l2 l3 x1 σ)
def f_X11_ask_37b  (k37 : Int32 → Int32 → Int32 → zzS → Option (Int32 × zzS)) (p0 : Int32) (l2 : Int32) (l3 : Int32) (l4 : Int32) (σ : zzS) : Option (Int32 × zzS) :=
  (if l4 < (zzi σ 20 4) then (zzbd (f_X10_may 20 l4 p0 (zzi σ 20 5) σ) (fun r2 σ3 => (if r2 = 0 then (f_X11_ask_111 k37 p0 l2 l3 l4 σ3) else (zzbd (f_X10_become 24 20 σ3) (fun r5 σ6 => zzbd (f_X10_turnCards 24 l4 p0 σ6) (fun r7 σ8 => zzbd (f_X10_fitForAll 24 σ8) (fun r9 σ10 => (if l3 < r9 then (f_X11_ask_111 k37 p0 l4 r9 l4 σ10) else (f_X11_ask_111 k37 p0 l2 l3 l4 σ10))))))))) else (some (l2, σ)))
def f_X11_ask_37  (p0 : Int32) : Nat → Int32 → Int32 → Int32 → zzS → Option (Int32 × zzS)
  | 0 => fun _ _ _ _ => none
  | n + 1 => f_X11_ask_37b (f_X11_ask_37 p0 n) p0
def f_X11_ask (p0 : Int32) (σ : zzS) : Option (Int32 × zzS) :=
  zzbd (f_X10_has 20 p0 σ) (fun r1 σ2 => (if r1 = 0 then (some ((-1 : Int32), σ2)) else (zzbd (f_X10_turnedOf 20 p0 σ2) (fun r4 σ5 => (if r4 < (9 : Int32) then (f_X11_ask_37 p0 200 (-4 : Int32) (-1 : Int32) (0 : Int32) σ5) else (some ((-3 : Int32), σ5)))))))
def f_X11_gain_15  (p0 : Int32) (p1 : Int32) (p2 : Int32) (s0 : Int32) (σ : zzS) : Option (Int32 × zzS) :=
  some (((((3 : Int32) * p1) - (p2 * p0)) + s0), σ)
def f_X11_gain_14  (p0 : Int32) (p1 : Int32) (p2 : Int32)  (σ : zzS) : Option (Int32 × zzS) :=
  f_X11_gain_15 p0 p1 p2 (0 : Int32) σ
def f_X11_gain (p0 : Int32) (p1 : Int32) (p2 : Int32) (σ : zzS) : Option (Int32 × zzS) :=
  (if p0 = (1 : Int32) then (if p1 = (1 : Int32) then (f_X11_gain_15 p0 p1 p2 (2 : Int32) σ) else (f_X11_gain_14 p0 p1 p2 σ)) else (f_X11_gain_14 p0 p1 p2 σ))
def f_X11_isBestChoice_27  (p0 : Int32) (p1 : Int32) (p2 : Int32) (p3 : Int32)  (σ : zzS) : Option (Int32 × zzS) :=
  some ((1 : Int32), σ)
def f_X11_isBestChoice (p0 : Int32) (p1 : Int32) (p2 : Int32) (p3 : Int32) (σ : zzS) : Option (Int32 × zzS) :=
  zzlt ((1 : Int32) - p0) (fun x1 => (if p2 < x1 then (f_X11_isBestChoice_27 p0 p1 p2 p3 σ) else (zzbd (f_X11_gain x1 p1 p3 σ) (fun r3 σ4 => zzbd (f_X11_gain p0 p1 p3 σ4) (fun r5 σ6 => (if r5 < r3 then (some ((0 : Int32), σ6)) else (f_X11_isBestChoice_27 p0 p1 p2 p3 σ6)))))))
def f_X11_game_146 (k94 : Int32 → Int32 → Int32 → Int32 → Int32 → zzS → Option (Int32 × zzS)) (k103 : Int32 → Int32 → Int32 → Int32 → Int32 → Int32 → zzS → Option (Int32 × zzS)) (p0 : Int32) (p1 : Int32) (l3 : Int32) (l4 : Int32) (l5 : Int32) (l6 : Int32) (l7 : Int32) (l8 : Int32) (σ : zzS) : Option (Int32 × zzS) :=
  zzlt (l8 + (1 : Int32)) (fun x1 => k103 l3 l4 l5 l6 l7 x1 σ)
def f_X11_game_103b (k94 : Int32 → Int32 → Int32 → Int32 → Int32 → zzS → Option (Int32 × zzS)) (k103 : Int32 → Int32 → Int32 → Int32 → Int32 → Int32 → zzS → Option (Int32 × zzS)) (p0 : Int32) (p1 : Int32) (l3 : Int32) (l4 : Int32) (l5 : Int32) (l6 : Int32) (l7 : Int32) (l8 : Int32) (σ : zzS) : Option (Int32 × zzS) :=
  (if l4 < l8 then (zzlt (l7 + (1 : Int32)) (fun x2 => k94 l3 l4 l5 l6 x2 σ)) else (zzbd (f_X11_isBestChoice l7 l8 l3 l5 σ) (fun r3 σ4 => (if r3 = 0 then (f_X11_game_146 k94 k103 p0 p1 l3 l4 l5 l6 l7 l8 σ4) else (zzbd (f_X11_isBestChoice l8 l7 l4 l6 σ4) (fun r6 σ7 => (if r6 = 0 then (f_X11_game_146 k94 k103 p0 p1 l3 l4 l5 l6 l7 l8 σ7) else (some ((((10 : Int32) * l7) + l8), σ7)))))))))
def f_X11_game_103 (k94 : Int32 → Int32 → Int32 → Int32 → Int32 → zzS → Option (Int32 × zzS)) (p0 : Int32) (p1 : Int32) : Nat → Int32 → Int32 → Int32 → Int32 → Int32 → Int32 → zzS → Option (Int32 × zzS)
  | 0 => fun _ _ _ _ _ _ _ => none
  | n + 1 => f_X11_game_103b k94 (f_X11_game_103 k94 p0 p1 n) p0 p1
def f_X11_game_94b  (k94 : Int32 → Int32 → Int32 → Int32 → Int32 → zzS → Option (Int32 × zzS)) (p0 : Int32) (p1 : Int32) (l3 : Int32) (l4 : Int32) (l5 : Int32) (l6 : Int32) (l7 : Int32) (σ : zzS) : Option (Int32 × zzS) :=
  (if l3 < l7 then (some ((-4 : Int32), σ)) else (f_X11_game_103 k94 p0 p1 200 l3 l4 l5 l6 l7 (0 : Int32) σ))
def f_X11_game_94  (p0 : Int32) (p1 : Int32) : Nat → Int32 → Int32 → Int32 → Int32 → Int32 → zzS → Option (Int32 × zzS)
  | 0 => fun _ _ _ _ _ _ => none
  | n + 1 => f_X11_game_94b (f_X11_game_94 p0 p1 n) p0 p1
def f_X11_game_63  (p0 : Int32) (p1 : Int32) (l3 : Int32) (s0 : Int32) (σ : zzS) : Option (Int32 × zzS) :=
  zzbd (f_X10_at 20 p0 σ) (fun r1 σ2 => zzon r1 none (fun kf5 => zzbd (some (zzgrows kf5, σ2)) (fun r10 σ11 => zzbd (f_X10_at 20 p1 σ11) (fun r12 σ13 => zzon r12 none (fun kf16 => zzbd (some (zzgrows kf16, σ13)) (fun r21 σ22 => f_X11_game_94 p0 p1 200 l3 s0 r10 r21 (0 : Int32) σ22))))))
def f_X11_game_38  (p0 : Int32) (p1 : Int32) (s0 : Int32) (σ : zzS) : Option (Int32 × zzS) :=
  zzbd (f_X10_may 20 p1 p0 (zzi σ 20 5) σ) (fun r1 σ2 => (if r1 = 0 then (f_X11_game_63 p0 p1 s0 (0 : Int32) σ2) else (f_X11_game_63 p0 p1 s0 (1 : Int32) σ2)))
def f_X11_game (p0 : Int32) (p1 : Int32) (σ : zzS) : Option (Int32 × zzS) :=
  zzbd (f_X10_areTwo 20 p0 p1 σ) (fun r1 σ2 => (if r1 = 0 then (some ((-1 : Int32), σ2)) else (zzbd (f_X10_may 20 p0 p1 (zzi σ2 20 5) σ2) (fun r4 σ5 => (if r4 = 0 then (f_X11_game_38 p0 p1 (0 : Int32) σ5) else (f_X11_game_38 p0 p1 (1 : Int32) σ5))))))
def f_X11_firstNotAtLevel_68 (k3 : Int32 → zzS → Option (Int32 × zzS)) (p0 : Int32) (p1 : Nat) (p2 : Int32) (l4 : Int32) (σ : zzS) : Option (Int32 × zzS) :=
  zzlt (l4 + (1 : Int32)) (fun x1 => k3 x1 σ)
def f_X11_firstNotAtLevel_40 (k3 : Int32 → zzS → Option (Int32 × zzS)) (p0 : Int32) (p1 : Nat) (p2 : Int32) (l4 : Int32) (l5 : Int32) (s0 : Int32) (σ : zzS) : Option (Int32 × zzS) :=
  (if s0 = 0 then (zzbd (f_X10_at 20 l4 σ) (fun r2 σ3 => zzon r2 none (fun kf6 => zzbd (some (zzshows kf6 p2, σ3)) (fun r11 σ12 => (if r11 = l5 then (f_X11_firstNotAtLevel_68 k3 p0 p1 p2 l4 σ12) else (some (l4, σ12))))))) else (f_X11_firstNotAtLevel_68 k3 p0 p1 p2 l4 σ))
def f_X11_firstNotAtLevel_35 (k3 : Int32 → zzS → Option (Int32 × zzS)) (p0 : Int32) (p1 : Nat) (p2 : Int32) (l4 : Int32) (l5 : Int32) (σ : zzS) : Option (Int32 × zzS) :=
  f_X11_firstNotAtLevel_40 k3 p0 p1 p2 l4 l5 (1 : Int32) σ
def f_X11_firstNotAtLevel_3b  (k3 : Int32 → zzS → Option (Int32 × zzS)) (p0 : Int32) (p1 : Nat) (p2 : Int32) (l4 : Int32) (σ : zzS) : Option (Int32 × zzS) :=
  (if l4 < (zzi σ p1 2) then (zzbd (f_X7_at p1 l4 σ) (fun r2 σ3 => (if l4 = p0 then (f_X11_firstNotAtLevel_35 k3 p0 p1 p2 l4 r2 σ3) else (zzbd (f_X7_leastNumber p1 σ3) (fun r5 σ6 => (if r2 = r5 then (f_X11_firstNotAtLevel_35 k3 p0 p1 p2 l4 r2 σ6) else (f_X11_firstNotAtLevel_40 k3 p0 p1 p2 l4 r2 (0 : Int32) σ6))))))) else (some ((-4 : Int32), σ)))
def f_X11_firstNotAtLevel_3  (p0 : Int32) (p1 : Nat) (p2 : Int32) : Nat → Int32 → zzS → Option (Int32 × zzS)
  | 0 => fun _ _ => none
  | n + 1 => f_X11_firstNotAtLevel_3b (f_X11_firstNotAtLevel_3 p0 p1 p2 n) p0 p1 p2
def f_X11_firstNotAtLevel (p0 : Int32) (p1 : Nat) (p2 : Int32) (σ : zzS) : Option (Int32 × zzS) :=
  f_X11_firstNotAtLevel_3 p0 p1 p2 200 (0 : Int32) σ
def f_X11_refusalWithoutRow (p0 : Int32) (σ : zzS) : Option (Int32 × zzS) :=
  zzbd (f_X11_isShelf p0 σ) (fun r1 σ2 => (if r1 = 0 then (some ((-1 : Int32), σ2)) else (zzbd (f_X11_oneOn p0 σ2) (fun r4 σ5 => (zzon r4 (some ((-11 : Int32), σ5)) (fun kf8 => (some ((-12 : Int32), σ5))))))))
def f_X11_blushes_104 (k66 : Nat → Int32 → Int32 → Int32 → zzS → Option (Int32 × zzS)) (p0 : Int32) (p1 : Int32) (p2 : Int32) (l4 : Nat) (l5 : Int32) (l6 : Int32) (l7 : Int32) (σ : zzS) : Option (Int32 × zzS) :=
  zzlt (l7 + (1 : Int32)) (fun x1 => k66 l4 l5 l6 x1 σ)
def f_X11_blushes_99 (k66 : Nat → Int32 → Int32 → Int32 → zzS → Option (Int32 × zzS)) (p0 : Int32) (p1 : Int32) (p2 : Int32) (l4 : Nat) (l5 : Int32) (l7 : Int32) (s0 : Int32) (σ : zzS) : Option (Int32 × zzS) :=
  zzlt (l5 + (1 : Int32)) (fun x1 => f_X11_blushes_104 k66 p0 p1 p2 l4 x1 s0 l7 σ)
def f_X11_blushes_66b  (k66 : Nat → Int32 → Int32 → Int32 → zzS → Option (Int32 × zzS)) (p0 : Int32) (p1 : Int32) (p2 : Int32) (l4 : Nat) (l5 : Int32) (l6 : Int32) (l7 : Int32) (σ : zzS) : Option (Int32 × zzS) :=
  (if l7 < (10 : Int32) then (zzbd (f_X11_firstNotAtLevel p0 l4 l7 σ) (fun r3 σ4 => (if r3 = (-4 : Int32) then (if l5 = 0 then (f_X11_blushes_99 k66 p0 p1 p2 l4 l5 l7 l7 σ4) else (f_X11_blushes_99 k66 p0 p1 p2 l4 l5 l7 l6 σ4)) else (f_X11_blushes_104 k66 p0 p1 p2 l4 l5 l6 l7 σ4)))) else (if p2 = 0 then (some (l5, σ)) else (some (l6, σ))))
def f_X11_blushes_66  (p0 : Int32) (p1 : Int32) (p2 : Int32) : Nat → Nat → Int32 → Int32 → Int32 → zzS → Option (Int32 × zzS)
  | 0 => fun _ _ _ _ _ => none
  | n + 1 => f_X11_blushes_66b (f_X11_blushes_66 p0 p1 p2 n) p0 p1 p2
def f_X11_blushes (p0 : Int32) (p1 : Int32) (p2 : Int32) (σ : zzS) : Option (Int32 × zzS) :=
  zzbd (f_X10_has 20 p0 σ) (fun r1 σ2 => (if r1 = 0 then (some ((-1 : Int32), σ2)) else (zzbd (f_X11_isOneOfTwo p2 σ2) (fun r4 σ5 => (if r4 = 0 then (some ((-1 : Int32), σ5)) else (zzbd (f_X11_rowOn p1 σ5) (fun r7 σ8 => (zzon r7 (zzbd (f_X11_refusalWithoutRow p1 σ8) (fun r12 σ13 => some (r12, σ13))) (fun j9 => zzgd (zzrow j9) (if (zzi σ8 20 4) < (zzi σ8 j9 2) then (some ((-13 : Int32), σ8)) else (f_X11_blushes_66 p0 p1 p2 200 j9 (0 : Int32) (-4 : Int32) (0 : Int32) σ8)))))))))))
def f_X11_forged_52b  (k52 : Nat → Int32 → Int32 → zzS → Option (Int32 × zzS)) (p0 : Int32) (p1 : Int32) (l3 : Nat) (l4 : Int32) (l5 : Int32) (σ : zzS) : Option (Int32 × zzS) :=
  (if l5 < (10 : Int32) then (zzbd (f_X11_firstNotAtLevel p0 l3 l5 σ) (fun r2 σ3 => (if r2 = (-4 : Int32) then (some ((-4 : Int32), σ3)) else (zzlt (zzmax l4 r2) (fun x5 => zzlt (l5 + (1 : Int32)) (fun x6 => k52 l3 x5 x6 σ3)))))) else (some (l4, σ)))
def f_X11_forged_52  (p0 : Int32) (p1 : Int32) : Nat → Nat → Int32 → Int32 → zzS → Option (Int32 × zzS)
  | 0 => fun _ _ _ _ => none
  | n + 1 => f_X11_forged_52b (f_X11_forged_52 p0 p1 n) p0 p1
def f_X11_forged (p0 : Int32) (p1 : Int32) (σ : zzS) : Option (Int32 × zzS) :=
  zzbd (f_X10_has 20 p0 σ) (fun r1 σ2 => (if r1 = 0 then (some ((-1 : Int32), σ2)) else (zzbd (f_X11_rowOn p1 σ2) (fun r4 σ5 => (zzon r4 (zzbd (f_X11_refusalWithoutRow p1 σ5) (fun r9 σ10 => some (r9, σ10))) (fun j6 => zzgd (zzrow j6) (if (zzi σ5 20 4) < (zzi σ5 j6 2) then (some ((-13 : Int32), σ5)) else (f_X11_forged_52 p0 p1 200 j6 (0 : Int32) (0 : Int32) σ5))))))))
def f_X11_judge_121 (k46 : Nat → Int32 → Int32 → zzS → Option (Int32 × zzS)) (p0 : Int32) (p1 : Int32) (l3 : Nat) (l4 : Int32) (l5 : Int32) (σ : zzS) : Option (Int32 × zzS) :=
  zzlt (l5 + (1 : Int32)) (fun x1 => k46 l3 l4 x1 σ)
def f_X11_judge_83 (k46 : Nat → Int32 → Int32 → zzS → Option (Int32 × zzS)) (p0 : Int32) (p1 : Int32) (l3 : Nat) (l4 : Int32) (l5 : Int32) (σ : zzS) : Option (Int32 × zzS) :=
  zzbd (f_X7_at l3 l5 σ) (fun r1 σ2 => zzbd (f_X7_leastNumber l3 σ2) (fun r3 σ4 => (if r1 = r3 then (f_X11_judge_121 k46 p0 p1 l3 l4 l5 σ4) else (if l4 = 0 then (some (l5, σ4)) else (zzbd (f_X10_turnedOf 24 p0 σ4) (fun r7 σ8 => (if r1 = r7 then (f_X11_judge_121 k46 p0 p1 l3 l4 l5 σ8) else (some (l5, σ8)))))))))
def f_X11_judge_81 (k46 : Nat → Int32 → Int32 → zzS → Option (Int32 × zzS)) (p0 : Int32) (p1 : Int32) (l3 : Nat) (l5 : Int32) (s0 : Int32) (σ : zzS) : Option (Int32 × zzS) :=
  f_X11_judge_83 k46 p0 p1 l3 s0 l5 σ
def f_X11_judge_80 (k46 : Nat → Int32 → Int32 → zzS → Option (Int32 × zzS)) (p0 : Int32) (p1 : Int32) (l3 : Nat) (l5 : Int32) (σ : zzS) : Option (Int32 × zzS) :=
  f_X11_judge_81 k46 p0 p1 l3 l5 (0 : Int32) σ
def f_X11_judge_46b  (k46 : Nat → Int32 → Int32 → zzS → Option (Int32 × zzS)) (p0 : Int32) (p1 : Int32) (l3 : Nat) (l4 : Int32) (l5 : Int32) (σ : zzS) : Option (Int32 × zzS) :=
  (if l5 < (zzi σ l3 2) then (if 0 < l5 then (if l4 = 0 then (f_X11_judge_80 k46 p0 p1 l3 l5 σ) else (zzbd (f_X10_turnByTheLeast 24 p0 σ) (fun r4 σ5 => (if r4 = 0 then (f_X11_judge_80 k46 p0 p1 l3 l5 σ5) else (f_X11_judge_81 k46 p0 p1 l3 l5 (1 : Int32) σ5))))) else (f_X11_judge_83 k46 p0 p1 l3 l4 l5 σ)) else (some ((-4 : Int32), σ)))
def f_X11_judge_46  (p0 : Int32) (p1 : Int32) : Nat → Nat → Int32 → Int32 → zzS → Option (Int32 × zzS)
  | 0 => fun _ _ _ _ => none
  | n + 1 => f_X11_judge_46b (f_X11_judge_46 p0 p1 n) p0 p1
def f_X11_judge (p0 : Int32) (p1 : Int32) (σ : zzS) : Option (Int32 × zzS) :=
  zzbd (f_X10_has 20 p0 σ) (fun r1 σ2 => (if r1 = 0 then (some ((-1 : Int32), σ2)) else (zzbd (f_X11_rowOn p1 σ2) (fun r4 σ5 => (zzon r4 (zzbd (f_X11_refusalWithoutRow p1 σ5) (fun r9 σ10 => some (r9, σ10))) (fun j6 => zzgd (zzrow j6) (zzbd (f_X10_become 24 20 σ5) (fun r11 σ12 => f_X11_judge_46 p0 p1 200 j6 (1 : Int32) (0 : Int32) σ12))))))))
def f_X11_draw (p0 : Int32) (σ : zzS) : Option (Int32 × zzS) :=
  zzlt (zzsi σ 0 8 (((zzi σ 0 8) * (1103515245 : Int32)) + (12345 : Int32))) (fun σ1 => zzlt (((zzi σ1 0 8) &&& (2147483647 : Int32)) / (65536 : Int32)) (fun x2 => (if 0 < p0 then (zzgd (¬ p0 = 0) (some ((x2 - x2 / p0 * p0), σ1))) else (some ((0 : Int32), σ1)))))
def f_X11_months_121 (k47 : Int32 → Int32 → Int32 → zzS → Option (Int32 × zzS)) (k67 : Int32 → Int32 → Int32 → Int32 → zzS → Option (Int32 × zzS)) (p0 : Int32) (p1 : Int32) (p2 : Int32) (l4 : Int32) (l6 : Int32) (l7 : Int32) (s0 : Int32) (s1 : Int32) (σ : zzS) : Option (Int32 × zzS) :=
  zzlt (s1 + s0) (fun x1 => zzlt (l7 + (1 : Int32)) (fun x2 => k67 l4 x1 l6 x2 σ))
def f_X11_months_67b (k47 : Int32 → Int32 → Int32 → zzS → Option (Int32 × zzS)) (k67 : Int32 → Int32 → Int32 → Int32 → zzS → Option (Int32 × zzS)) (p0 : Int32) (p1 : Int32) (p2 : Int32) (l4 : Int32) (l5 : Int32) (l6 : Int32) (l7 : Int32) (σ : zzS) : Option (Int32 × zzS) :=
  (if l7 < (10 : Int32) then (zzbd (f_X11_draw (zzi σ 24 4) σ) (fun r6 σ7 => zzbd (f_X11_draw (zzi σ7 24 4) σ7) (fun r8 σ9 => zzbd (f_X10_turnElseSee 24 r6 r8 σ9) (fun r10 σ11 => (if r10 = 0 then (f_X11_months_121 k47 k67 p0 p1 p2 l4 l6 l7 (0 : Int32) l5 σ11) else (f_X11_months_121 k47 k67 p0 p1 p2 l4 l6 l7 (1 : Int32) l5 σ11)))))) else (zzbd (f_X10_allTurned 24 σ) (fun r2 σ3 => zzlt (l4 + r2) (fun x4 => zzlt (l6 + (1 : Int32)) (fun x5 => k47 x4 l5 x5 σ3)))))
def f_X11_months_67 (k47 : Int32 → Int32 → Int32 → zzS → Option (Int32 × zzS)) (p0 : Int32) (p1 : Int32) (p2 : Int32) : Nat → Int32 → Int32 → Int32 → Int32 → zzS → Option (Int32 × zzS)
  | 0 => fun _ _ _ _ _ => none
  | n + 1 => f_X11_months_67b k47 (f_X11_months_67 k47 p0 p1 p2 n) p0 p1 p2
def f_X11_months_47b  (k47 : Int32 → Int32 → Int32 → zzS → Option (Int32 × zzS)) (p0 : Int32) (p1 : Int32) (p2 : Int32) (l4 : Int32) (l5 : Int32) (l6 : Int32) (σ : zzS) : Option (Int32 × zzS) :=
  (if l6 < p0 then (zzbd (f_X10_become 24 20 σ) (fun r3 σ4 => f_X11_months_67 k47 p0 p1 p2 200 l4 l5 l6 (0 : Int32) σ4)) else (if p2 = 0 then (some (l4, σ)) else (some (l5, σ))))
def f_X11_months_47  (p0 : Int32) (p1 : Int32) (p2 : Int32) : Nat → Int32 → Int32 → Int32 → zzS → Option (Int32 × zzS)
  | 0 => fun _ _ _ _ => none
  | n + 1 => f_X11_months_47b (f_X11_months_47 p0 p1 p2 n) p0 p1 p2
def f_X11_months (p0 : Int32) (p1 : Int32) (p2 : Int32) (σ : zzS) : Option (Int32 × zzS) :=
  (if p0 < (1 : Int32) then (some ((-1 : Int32), σ)) else (if (20 : Int32) < p0 then (some ((-1 : Int32), σ)) else (zzbd (f_X11_isOneOfTwo p2 σ) (fun r3 σ4 => (if r3 = 0 then (some ((-1 : Int32), σ4)) else (if (zzi σ4 20 4) = 0 then (some ((-3 : Int32), σ4)) else (zzlt (zzsi σ4 0 8 p1) (fun σ7 => f_X11_months_47 p0 p1 p2 200 (0 : Int32) (0 : Int32) (0 : Int32) σ7))))))))
def f_X11_image  (σ : zzS) : Option (Int32 × zzS) :=
  zzbd (f_X10_become 28 20 σ) (fun r1 σ2 => zzlt (zzsi σ2 0 7 (1 : Int32)) (fun σ3 => some ((zzi σ3 20 6), σ3)))
def f_X11_restore  (σ : zzS) : Option (Int32 × zzS) :=
  (if (zzi σ 0 7) = 0 then (some ((-3 : Int32), σ)) else (zzbd (f_X10_become 20 28 σ) (fun r2 σ3 => some ((zzi σ3 20 6), σ3))))
def f_X11_count (p0 : Int32) (σ : zzS) : Option (Int32 × zzS) :=
  (if p0 = 0 then (some ((zzi σ 20 4), σ)) else (if p0 = 1 then (some ((zzi σ 20 6), σ)) else (if p0 = 2 then (some ((zzi σ 20 5), σ)) else (if p0 = 3 then (zzbd (f_X10_allTurned 20 σ) (fun r7 σ8 => some (r7, σ8))) else (if p0 = 4 then (zzbd (f_X10_allFond 20 σ) (fun r9 σ10 => some (r9, σ10))) else (if p0 = 5 then (zzbd (f_X10_toldWhole 20 σ) (fun r11 σ12 => some (r11, σ12))) else (some ((-1 : Int32), σ))))))))
def f_X11_lay (p0 : Int32) (p1 : (Option (Nat × Int32))) (p2 : (Option Nat)) (σ : zzS) : Option (Unit × zzS) :=
  (if p0 < 0 then (some ((), σ)) else (if p0 < (Int32.ofNat (zzplen 1)) then (if p0 < (8 : Int32) then (zzgd (zzin p0 (zzplen 1)) (zzlt (zzsr σ 1 (Int32.toNatClampNeg p0) p1) (fun σ5 => zzgd (zzin p0 8) (zzgd (zzrowo p2 = true) (zzlt (zzsq σ5 (Int32.toNatClampNeg p0) p2) (fun σ7 => some ((), σ7))))))) else (some ((), σ))) else (some ((), σ))))
def f_X11_row_64  (p0 : Int32) (p1 : Int32) (p2 : Int32) (l4 : (Option Nat)) (σ : zzS) : Option (Int32 × zzS) :=
  zzbd (f_X11_lay p0 none l4 σ) (fun r1 σ2 => some ((0 : Int32), σ2))
def f_X11_row_50  (p0 : Int32) (p1 : Int32) (p2 : Int32) (s0 : (Option Nat)) (σ : zzS) : Option (Int32 × zzS) :=
  (zzon s0 (f_X11_row_64 p0 p1 p2 none σ) (fun j1 => zzgd (zzrow j1) (zzbd (f_X7_beginAnew j1 p1 p2 σ) (fun r4 σ5 => f_X11_row_64 p0 p1 p2 (some j1) σ5))))
def f_X11_row (p0 : Int32) (p1 : Int32) (p2 : Int32) (σ : zzS) : Option (Int32 × zzS) :=
  zzbd (f_X11_isShelf p0 σ) (fun r1 σ2 => (if r1 = 0 then (some ((-1 : Int32), σ2)) else (if p1 < 0 then (some ((-1 : Int32), σ2)) else (if (2 : Int32) < p1 then (some ((-1 : Int32), σ2)) else (if (100 : Int32) < p2 then (some ((-1 : Int32), σ2)) else (if p2 < 0 then (some ((-14 : Int32), σ2)) else (if p0 < (8 : Int32) then (zzgd (zzin p0 8) (zzlt (some (4 + 2 * Int32.toNatClampNeg p0)) (fun x10 => f_X11_row_50 p0 p1 p2 x10 σ2))) else (f_X11_row_50 p0 p1 p2 none σ2))))))))
def f_X11_put (p0 : Int32) (p1 : Int32) (p2 : Int32) (σ : zzS) : Option (Int32 × zzS) :=
  zzbd (f_X11_rowOn p0 σ) (fun r1 σ2 => (zzon r1 (zzbd (f_X11_refusalWithoutRow p0 σ2) (fun r6 σ7 => some (r6, σ7))) (fun j3 => zzgd (zzrow j3) (zzbd (f_X7_set j3 p1 p2 σ2) (fun r8 σ9 => (if r8 = 0 then (some ((-13 : Int32), σ9)) else (some ((0 : Int32), σ9))))))))
def f_X11_cost (p0 : Int32) (σ : zzS) : Option (Int32 × zzS) :=
  zzbd (f_X11_oneOn p0 σ) (fun r1 σ2 => (zzon r1 (zzbd (f_X11_refusalWithoutOne p0 σ2) (fun r10 σ11 => some (r10, σ11))) (fun kf5 => (zzbd (some (zzprice kf5, σ2)) (fun r12 σ13 => some (r12, σ13))))))
def f_X11_isBare (p0 : Int32) (σ : zzS) : Option (Int32 × zzS) :=
  zzbd (f_X11_oneOn p0 σ) (fun r1 σ2 => (zzon r1 (zzbd (f_X11_rowOn p0 σ2) (fun r10 σ11 => (zzon r10 (some ((1 : Int32), σ11)) (fun j12 => zzgd (zzrow j12) (some ((0 : Int32), σ11)))))) (fun kf5 => (some ((0 : Int32), σ2)))))
