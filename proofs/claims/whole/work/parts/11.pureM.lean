/-! the reference's methods, translated by program -/
def f_X12_thrown  (σ : zzS) : Option (Int32 × zzS) :=
  some ((zzi σ 36 13), σ)
def f_X12_in (p0 : Int64) (p1 : Int64) (p2 : Int64) (σ : zzS) : Option (Int32 × zzS) :=
  (if (lg_cmp p0 p1) < 0 then (some ((0 : Int32), σ)) else (if 0 < (lg_cmp p0 p2) then (some ((0 : Int32), σ)) else (some ((1 : Int32), σ))))
def f_X12_hasBit (p0 : Int32) (p1 : Int32) (σ : zzS) : Option (Int32 × zzS) :=
  (if ((p0 >>> (p1 &&& 31)) &&& (1 : Int32)) = (1 : Int32) then (some ((1 : Int32), σ)) else (some ((0 : Int32), σ)))
def f_X12_onesOf_4b  (k4 : Int32 → Int32 → zzS → Option (Int32 × zzS)) (p0 : Int32) (l1 : Int32) (l2 : Int32) (σ : zzS) : Option (Int32 × zzS) :=
  (if l2 = 0 then (some (l1, σ)) else (zzlt (l1 + (1 : Int32)) (fun x2 => zzlt (l2 &&& (l2 - (1 : Int32))) (fun x3 => k4 x2 x3 σ))))
def f_X12_onesOf_4  (p0 : Int32) : Nat → Int32 → Int32 → zzS → Option (Int32 × zzS)
  | 0 => fun _ _ _ => none
  | n + 1 => f_X12_onesOf_4b (f_X12_onesOf_4 p0 n) p0
def f_X12_onesOf (p0 : Int32) (σ : zzS) : Option (Int32 × zzS) :=
  f_X12_onesOf_4 p0 200 (0 : Int32) p0 σ
def f_X12_lesser (p0 : Int32) (p1 : Int32) (σ : zzS) : Option (Int32 × zzS) :=
  (if p0 < p1 then (some (p0, σ)) else (some (p1, σ)))
def f_X12_greater (p0 : Int32) (p1 : Int32) (σ : zzS) : Option (Int32 × zzS) :=
  (if p1 < p0 then (some (p0, σ)) else (some (p1, σ)))
def f_X12_isOne (p0 : Int32) (σ : zzS) : Option (Int32 × zzS) :=
  zzbd (f_X12_in (Int32.toInt64 p0) (0 : Int64) (Int32.toInt64 ((zzi σ 36 0) - (1 : Int32))) σ) (fun r1 σ2 => zzgd (r1 = 0 ∨ r1 = 1) (some (r1, σ2)))
def f_X12_areTwo (p0 : Int32) (p1 : Int32) (σ : zzS) : Option (Int32 × zzS) :=
  zzbd (f_X12_isOne p0 σ) (fun r1 σ2 => (if r1 = 0 then (some ((0 : Int32), σ2)) else (zzbd (f_X12_isOne p1 σ2) (fun r4 σ5 => (if r4 = 0 then (some ((0 : Int32), σ5)) else (if p0 = p1 then (some ((0 : Int32), σ5)) else (some ((1 : Int32), σ5))))))))
def f_X12_growsOf (p0 : Int32) (σ : zzS) : Option (Int32 × zzS) :=
  zzgd (zzin p0 (zzlen 38)) (zzlt (zza σ 38 (Int32.toNatClampNeg p0)) (fun x2 => zzgd (zzin p0 (zzlen 37)) ((if (zza σ 37 (Int32.toNatClampNeg p0)) = 1 then (some ((1 : Int32), σ)) else (if (zza σ 37 (Int32.toNatClampNeg p0)) = 2 then (some (((2 : Int32) + (x2 / (3 : Int32))), σ)) else (if (zza σ 37 (Int32.toNatClampNeg p0)) = 3 then (some ((0 : Int32), σ)) else (if (zza σ 37 (Int32.toNatClampNeg p0)) = 4 then (some ((x2 / (2 : Int32)), σ)) else (if (zza σ 37 (Int32.toNatClampNeg p0)) = 5 then (some (((1 : Int32) + (x2 / (4 : Int32))), σ)) else (if (zza σ 37 (Int32.toNatClampNeg p0)) = 6 then (some ((((2 : Int32) + (x2 / (3 : Int32))) / (2 : Int32)), σ)) else (if (zza σ 37 (Int32.toNatClampNeg p0)) = 7 then (some ((3 : Int32), σ)) else (some ((2 : Int32), σ))))))))))))
def f_X12_bearsOf (p0 : Int32) (σ : zzS) : Option (Int32 × zzS) :=
  zzgd (zzin p0 (zzlen 37)) ((if (zza σ 37 (Int32.toNatClampNeg p0)) = 1 then (some ((1 : Int32), σ)) else (if (zza σ 37 (Int32.toNatClampNeg p0)) = 2 then (some ((0 : Int32), σ)) else (if (zza σ 37 (Int32.toNatClampNeg p0)) = 3 then (some ((9 : Int32), σ)) else (if (zza σ 37 (Int32.toNatClampNeg p0)) = 4 then (some ((-1 : Int32), σ)) else (if (zza σ 37 (Int32.toNatClampNeg p0)) = 5 then (some ((2 : Int32), σ)) else (if (zza σ 37 (Int32.toNatClampNeg p0)) = 6 then (some ((0 : Int32), σ)) else (if (zza σ 37 (Int32.toNatClampNeg p0)) = 7 then (some ((3 : Int32), σ)) else (some ((0 : Int32), σ))))))))))
def f_X12_turnsOf (p0 : Int32) (σ : zzS) : Option (Int32 × zzS) :=
  zzgd (zzin p0 (zzlen 37)) ((if (zza σ 37 (Int32.toNatClampNeg p0)) = 2 then (some ((2 : Int32), σ)) else (if (zza σ 37 (Int32.toNatClampNeg p0)) = 3 then (some ((3 : Int32), σ)) else (if (zza σ 37 (Int32.toNatClampNeg p0)) = 4 then (some ((1 : Int32), σ)) else (if (zza σ 37 (Int32.toNatClampNeg p0)) = 5 then (some ((1 : Int32), σ)) else (if (zza σ 37 (Int32.toNatClampNeg p0)) = 6 then (zzgd (zzin p0 (zzlen 38)) (some (((2 : Int32) + ((zza σ 38 (Int32.toNatClampNeg p0)) / (3 : Int32))), σ))) else (if (zza σ 37 (Int32.toNatClampNeg p0)) = 7 then (some ((3 : Int32), σ)) else (some ((1 : Int32), σ)))))))))
def f_X12_showsOf (p0 : Int32) (p1 : Int32) (σ : zzS) : Option (Int32 × zzS) :=
  zzgd (zzin p0 (zzlen 37)) ((if (zza σ 37 (Int32.toNatClampNeg p0)) = (2 : Int32) then (some (p1, σ)) else (zzgd (zzin p0 (zzlen 37)) ((if (zza σ 37 (Int32.toNatClampNeg p0)) = (6 : Int32) then (some ((p1 / (2 : Int32)), σ)) else (some ((0 : Int32), σ)))))))
def f_X12_mayTurn (p0 : Int32) (p1 : Int32) (σ : zzS) : Option (Int32 × zzS) :=
  (if p0 = p1 then (some ((0 : Int32), σ)) else (zzgd (zzin (((7 : Int32) * p0) + p1) (zzlen 40)) (zzbd (f_X12_bearsOf p0 σ) (fun r3 σ4 => (if (r3 + (zzi σ4 36 5)) < (zza σ 40 (Int32.toNatClampNeg (((7 : Int32) * p0) + p1))) then (some ((0 : Int32), σ4)) else (some ((1 : Int32), σ4)))))))
def f_X12_grow (p0 : Int32) (p1 : Int32) (σ : zzS) : Option (Unit × zzS) :=
  zzgd (zzin (((7 : Int32) * p0) + p1) (zzlen 40)) (zzbd (f_X12_growsOf p0 σ) (fun r2 σ3 => zzbd (f_X12_lesser (9 : Int32) ((zza σ 40 (Int32.toNatClampNeg (((7 : Int32) * p0) + p1))) + r2) σ3) (fun r4 σ5 => zzgd (zzin (((7 : Int32) * p0) + p1) (zzlen 40)) (zzlt (zzsa σ5 40 (Int32.toNatClampNeg (((7 : Int32) * p0) + p1)) r4) (fun σ7 => some ((), σ7))))))
def f_X12_turnCards (p0 : Int32) (p1 : Int32) (σ : zzS) : Option (Unit × zzS) :=
  zzgd (zzin p1 (zzlen 39)) (zzbd (f_X12_turnsOf p0 σ) (fun r2 σ3 => zzbd (f_X12_lesser (9 : Int32) ((zza σ 39 (Int32.toNatClampNeg p1)) + r2) σ3) (fun r4 σ5 => zzgd (zzin p1 (zzlen 39)) (zzlt (zzsa σ5 39 (Int32.toNatClampNeg p1) r4) (fun σ7 => zzbd (f_X12_grow p0 p1 σ7) (fun r8 σ9 => some ((), σ9)))))))
def f_X12_canTurn (p0 : Int32) (p1 : Int32) (σ : zzS) : Option (Int32 × zzS) :=
  zzbd (f_X12_mayTurn p0 p1 σ) (fun r1 σ2 => (if r1 = 0 then (some ((0 : Int32), σ2)) else (zzgd (zzin p1 (zzlen 39)) ((if (zza σ2 39 (Int32.toNatClampNeg p1)) < (9 : Int32) then (some ((1 : Int32), σ2)) else (some ((0 : Int32), σ2)))))))
def f_X12_here  (σ : zzS) : Option (Int32 × zzS) :=
  zzgd (zzin (zzi σ 36 14) (zzlen 45)) ((if (zzi σ 36 15) < (zza σ 45 (Int32.toNatClampNeg (zzi σ 36 14))) then (zzgd (zzin (((100 : Int32) * (zzi σ 36 14)) + (zzi σ 36 15)) 800) (some ((Int64.toInt32 (zzl σ 53 (Int32.toNatClampNeg (((100 : Int32) * (zzi σ 36 14)) + (zzi σ 36 15))))), σ))) else (some ((-999 : Int32), σ))))
def f_X12_readDigit_69   (l1 : Int32) (s0 : Int32) (s1 : Int32) (σ : zzS) : Option (Int32 × zzS) :=
  zzlt (zzsi σ 36 15 (s1 + s0)) (fun σ1 => some (l1, σ1))
def f_X12_readDigit_51   (s0 : Int32) (σ : zzS) : Option (Int32 × zzS) :=
  (if (zzi σ 36 16) = 0 then (f_X12_readDigit_69 s0 (1 : Int32) (zzi σ 36 15) σ) else (f_X12_readDigit_69 s0 (0 : Int32) (zzi σ 36 15) σ))
def f_X12_readDigit_30   (s0 : Int32) (σ : zzS) : Option (Int32 × zzS) :=
  zzgd (s0 = 0 ∨ s0 = 1) (zzlt (zzsi σ 36 16 s0) (fun σ1 => (if (zzi σ1 36 16) = 0 then (zzbd (f_X12_here σ1) (fun r4 σ5 => f_X12_readDigit_51 (r4 - (48 : Int32)) σ5)) else (f_X12_readDigit_51 (0 : Int32) σ1))))
def f_X12_readDigit_25    (σ : zzS) : Option (Int32 × zzS) :=
  f_X12_readDigit_30 (1 : Int32) σ
def f_X12_readDigit  (σ : zzS) : Option (Int32 × zzS) :=
  (if (zzi σ 36 16) = 0 then (zzbd (f_X12_here σ) (fun r2 σ3 => zzbd (f_X12_in (Int32.toInt64 r2) (48 : Int64) (57 : Int64) σ3) (fun r4 σ5 => (if r4 = 0 then (f_X12_readDigit_25 σ5) else (f_X12_readDigit_30 (0 : Int32) σ5))))) else (f_X12_readDigit_25 σ))
def f_X12_isLetter_36  (p0 : Int32)  (σ : zzS) : Option (Int32 × zzS) :=
  some ((1 : Int32), σ)
def f_X12_isLetter (p0 : Int32) (σ : zzS) : Option (Int32 × zzS) :=
  (if p0 = (112 : Int32) then (f_X12_isLetter_36 p0 σ) else (if p0 = (102 : Int32) then (f_X12_isLetter_36 p0 σ) else (if p0 = (115 : Int32) then (f_X12_isLetter_36 p0 σ) else (if p0 = (116 : Int32) then (f_X12_isLetter_36 p0 σ) else (if p0 = (108 : Int32) then (f_X12_isLetter_36 p0 σ) else (if p0 = (100 : Int32) then (f_X12_isLetter_36 p0 σ) else (some ((0 : Int32), σ))))))))
def f_X12_readStatement_172   (s0 : Int32) (s1 : Int32) (σ : zzS) : Option (Unit × zzS) :=
  zzlt (zzsi σ 36 15 (s1 + s0)) (fun σ1 => zzlt (zzsi σ1 36 17 ((zzi σ1 36 17) + (1 : Int32))) (fun σ2 => some ((), σ2)))
def f_X12_readStatement_152   (s0 : Int32) (σ : zzS) : Option (Unit × zzS) :=
  zzgd (s0 = 0 ∨ s0 = 1) (zzlt (zzsi σ 36 16 s0) (fun σ1 => (if (zzi σ1 36 16) = 0 then (f_X12_readStatement_172 (1 : Int32) (zzi σ1 36 15) σ1) else (f_X12_readStatement_172 (0 : Int32) (zzi σ1 36 15) σ1))))
def f_X12_readStatement_147    (σ : zzS) : Option (Unit × zzS) :=
  f_X12_readStatement_152 (1 : Int32) σ
def f_X12_readStatement_130    (σ : zzS) : Option (Unit × zzS) :=
  (if (zzi σ 36 16) = 0 then (zzbd (f_X12_here σ) (fun r2 σ3 => (if r2 = (59 : Int32) then (f_X12_readStatement_152 (0 : Int32) σ3) else (f_X12_readStatement_147 σ3)))) else (f_X12_readStatement_147 σ))
def f_X12_readStatement_96b  (k96 : Int32 → Int32 → Int32 → zzS → Option (Unit × zzS))  (l1 : Int32) (l3 : Int32) (l4 : Int32) (σ : zzS) : Option (Unit × zzS) :=
  (if l4 < l3 then (if (zzi σ 36 16) = 0 then (zzbd (f_X12_readDigit σ) (fun r3 σ4 => zzgd (zzin (((3 : Int32) * l1) + l4) (zzlen 48)) (zzlt (zzsa σ4 48 (Int32.toNatClampNeg (((3 : Int32) * l1) + l4)) r3) (fun σ6 => zzlt (l4 + (1 : Int32)) (fun x7 => k96 l1 l3 x7 σ6))))) else (f_X12_readStatement_130 σ)) else (f_X12_readStatement_130 σ))
def f_X12_readStatement_96   : Nat → Int32 → Int32 → Int32 → zzS → Option (Unit × zzS)
  | 0 => fun _ _ _ _ => none
  | n + 1 => f_X12_readStatement_96b (f_X12_readStatement_96  n)
def f_X12_readStatement_92   (l1 : Int32) (s0 : Int32) (σ : zzS) : Option (Unit × zzS) :=
  f_X12_readStatement_96 200 l1 s0 (0 : Int32) σ
def f_X12_readStatement_67   (l1 : Int32) (l2 : Int32) (s0 : Int32) (s1 : Int32) (σ : zzS) : Option (Unit × zzS) :=
  zzlt (zzsi σ 36 15 (s1 + s0)) (fun σ1 => (if l2 = (102 : Int32) then (f_X12_readStatement_92 l1 (3 : Int32) σ1) else (if l2 = (108 : Int32) then (f_X12_readStatement_92 l1 (1 : Int32) σ1) else (f_X12_readStatement_92 l1 (2 : Int32) σ1))))
def f_X12_readStatement_47   (l1 : Int32) (l2 : Int32) (s0 : Int32) (σ : zzS) : Option (Unit × zzS) :=
  zzgd (s0 = 0 ∨ s0 = 1) (zzlt (zzsi σ 36 16 s0) (fun σ1 => (if (zzi σ1 36 16) = 0 then (f_X12_readStatement_67 l1 l2 (1 : Int32) (zzi σ1 36 15) σ1) else (f_X12_readStatement_67 l1 l2 (0 : Int32) (zzi σ1 36 15) σ1))))
def f_X12_readStatement_42   (l1 : Int32) (l2 : Int32) (σ : zzS) : Option (Unit × zzS) :=
  f_X12_readStatement_47 l1 l2 (1 : Int32) σ
def f_X12_readStatement  (σ : zzS) : Option (Unit × zzS) :=
  zzlt (zzi σ 36 17) (fun x1 => zzbd (f_X12_here σ) (fun r2 σ3 => zzgd (zzin x1 (zzlen 46)) (zzlt (zzsa σ3 46 (Int32.toNatClampNeg x1) (zzi σ3 36 15)) (fun σ5 => zzgd (zzin x1 (zzlen 47)) (zzlt (zzsa σ5 47 (Int32.toNatClampNeg x1) r2) (fun σ7 => (if (zzi σ7 36 16) = 0 then (zzbd (f_X12_isLetter r2 σ7) (fun r9 σ10 => (if r9 = 0 then (f_X12_readStatement_42 x1 r2 σ10) else (f_X12_readStatement_47 x1 r2 (0 : Int32) σ10)))) else (f_X12_readStatement_42 x1 r2 σ7))))))))
def f_X12_personComes_58b  (k58 : Int32 → Int32 → zzS → Option (Int32 × zzS)) (p0 : Int32) (p1 : Int32) (l3 : Int32) (l4 : Int32) (σ : zzS) : Option (Int32 × zzS) :=
  (if l4 < (7 : Int32) then (zzgd (zzin (((7 : Int32) * (zzi σ 36 0)) + l4) (zzlen 40)) (zzlt (zzsa σ 40 (Int32.toNatClampNeg (((7 : Int32) * (zzi σ 36 0)) + l4)) (0 : Int32)) (fun σ5 => zzgd (zzin (((7 : Int32) * l4) + (zzi σ5 36 0)) (zzlen 40)) (zzlt (zzsa σ5 40 (Int32.toNatClampNeg (((7 : Int32) * l4) + (zzi σ5 36 0))) (0 : Int32)) (fun σ7 => zzlt (l4 + (1 : Int32)) (fun x8 => k58 l3 x8 σ7)))))) else (zzlt (zzsi σ 36 0 ((zzi σ 36 0) + (1 : Int32))) (fun σ2 => zzgd (l3 = 0 ∨ l3 = 1) (some (l3, σ2)))))
def f_X12_personComes_58  (p0 : Int32) (p1 : Int32) : Nat → Int32 → Int32 → zzS → Option (Int32 × zzS)
  | 0 => fun _ _ _ => none
  | n + 1 => f_X12_personComes_58b (f_X12_personComes_58 p0 p1 n) p0 p1
def f_X12_personComes_20  (p0 : Int32) (p1 : Int32) (s0 : Int32) (σ : zzS) : Option (Int32 × zzS) :=
  (if s0 = 0 then (zzgd (s0 = 0 ∨ s0 = 1) (some (s0, σ))) else (zzgd (zzin (zzi σ 36 0) (zzlen 37)) (zzlt (zzsa σ 37 (Int32.toNatClampNeg (zzi σ 36 0)) p0) (fun σ4 => zzgd (zzin (zzi σ4 36 0) (zzlen 38)) (zzlt (zzsa σ4 38 (Int32.toNatClampNeg (zzi σ4 36 0)) p1) (fun σ6 => zzgd (zzin (zzi σ6 36 0) (zzlen 39)) (zzlt (zzsa σ6 39 (Int32.toNatClampNeg (zzi σ6 36 0)) (0 : Int32)) (fun σ8 => f_X12_personComes_58 p0 p1 200 s0 (0 : Int32) σ8))))))))
def f_X12_personComes_19  (p0 : Int32) (p1 : Int32)  (σ : zzS) : Option (Int32 × zzS) :=
  f_X12_personComes_20 p0 p1 (0 : Int32) σ
def f_X12_personComes (p0 : Int32) (p1 : Int32) (σ : zzS) : Option (Int32 × zzS) :=
  (if p0 < (8 : Int32) then (if (zzi σ 36 0) < (7 : Int32) then (f_X12_personComes_20 p0 p1 (1 : Int32) σ) else (f_X12_personComes_19 p0 p1 σ)) else (f_X12_personComes_19 p0 p1 σ))
def f_X12_daysPass_36  (p0 : Int32) (l2 : Int32) (s0 : Int32) (s1 : Int32) (σ : zzS) : Option (Int32 × zzS) :=
  zzlt (zzsi σ 36 6 (s1 + s0)) (fun σ1 => zzgd (l2 = 0 ∨ l2 = 1) (some (l2, σ1)))
def f_X12_daysPass_21  (p0 : Int32) (s0 : Int32) (σ : zzS) : Option (Int32 × zzS) :=
  (if s0 = 0 then (f_X12_daysPass_36 p0 s0 (0 : Int32) (zzi σ 36 6) σ) else (f_X12_daysPass_36 p0 s0 p0 (zzi σ 36 6) σ))
def f_X12_daysPass_20  (p0 : Int32)  (σ : zzS) : Option (Int32 × zzS) :=
  f_X12_daysPass_21 p0 (0 : Int32) σ
def f_X12_daysPass (p0 : Int32) (σ : zzS) : Option (Int32 × zzS) :=
  (if 0 < p0 then (if (999 : Int32) < ((zzi σ 36 6) + p0) then (f_X12_daysPass_20 p0 σ) else (f_X12_daysPass_21 p0 (1 : Int32) σ)) else (f_X12_daysPass_20 p0 σ))
def f_X12_turning_31  (p0 : Int32) (p1 : Int32) (s0 : Int32) (σ : zzS) : Option (Int32 × zzS) :=
  (if s0 = 0 then (zzgd (s0 = 0 ∨ s0 = 1) (some (s0, σ))) else (zzbd (f_X12_turnCards p0 p1 σ) (fun r3 σ4 => zzgd (s0 = 0 ∨ s0 = 1) (some (s0, σ4)))))
def f_X12_turning_30  (p0 : Int32) (p1 : Int32)  (σ : zzS) : Option (Int32 × zzS) :=
  f_X12_turning_31 p0 p1 (0 : Int32) σ
def f_X12_turning (p0 : Int32) (p1 : Int32) (σ : zzS) : Option (Int32 × zzS) :=
  zzbd (f_X12_areTwo p0 p1 σ) (fun r1 σ2 => (if r1 = 0 then (f_X12_turning_30 p0 p1 σ2) else (zzbd (f_X12_canTurn p0 p1 σ2) (fun r4 σ5 => (if r4 = 0 then (f_X12_turning_30 p0 p1 σ5) else (zzbd (f_X12_daysPass (1 : Int32) σ5) (fun r7 σ8 => (if r7 = 0 then (f_X12_turning_30 p0 p1 σ8) else (f_X12_turning_31 p0 p1 (1 : Int32) σ8)))))))))
def f_X12_comesTold_170  (p0 : Int32) (l2 : Int32) (l3 : Int32) (s0 : Int32) (σ : zzS) : Option (Int32 × zzS) :=
  (if s0 = 0 then (zzgd (s0 = 0 ∨ s0 = 1) (some (s0, σ))) else (zzbd (f_X12_grow l2 l3 σ) (fun r3 σ4 => zzgd (s0 = 0 ∨ s0 = 1) (some (s0, σ4)))))
def f_X12_comesTold_169  (p0 : Int32) (l2 : Int32) (l3 : Int32) (σ : zzS) : Option (Int32 × zzS) :=
  f_X12_comesTold_170 p0 l2 l3 (0 : Int32) σ
def f_X12_comesTold (p0 : Int32) (σ : zzS) : Option (Int32 × zzS) :=
  zzgd (zzin ((3 : Int32) * p0) (zzlen 48)) (zzlt (zza σ 48 (Int32.toNatClampNeg ((3 : Int32) * p0))) (fun x2 => zzgd (zzin (((3 : Int32) * p0) + (1 : Int32)) (zzlen 48)) (zzlt (zza σ 48 (Int32.toNatClampNeg (((3 : Int32) * p0) + (1 : Int32)))) (fun x4 => zzgd (zzin p0 (zzlen 47)) ((if (zza σ 47 (Int32.toNatClampNeg p0)) = 102 then (zzbd (f_X12_areTwo x2 x4 σ) (fun r21 σ22 => (if r21 = 0 then (zzgd (r21 = 0 ∨ r21 = 1) (some (r21, σ22))) else (zzgd (zzin (((3 : Int32) * p0) + (2 : Int32)) (zzlen 48)) (zzgd (zzin (((7 : Int32) * x2) + x4) (zzlen 40)) (zzlt (zzsa σ22 40 (Int32.toNatClampNeg (((7 : Int32) * x2) + x4)) (zza σ22 48 (Int32.toNatClampNeg (((3 : Int32) * p0) + (2 : Int32))))) (fun σ27 => zzgd (r21 = 0 ∨ r21 = 1) (some (r21, σ27))))))))) else (if (zza σ 47 (Int32.toNatClampNeg p0)) = 103 then (zzbd (f_X12_daysPass (((10 : Int32) * x2) + x4) σ) (fun r29 σ30 => zzgd (r29 = 0 ∨ r29 = 1) (some (r29, σ30)))) else (if (zza σ 47 (Int32.toNatClampNeg p0)) = 104 then (zzbd (f_X12_daysPass (((10 : Int32) * x2) + x4) σ) (fun r32 σ33 => zzgd (r32 = 0 ∨ r32 = 1) (some (r32, σ33)))) else (if (zza σ 47 (Int32.toNatClampNeg p0)) = 105 then (zzbd (f_X12_daysPass (((10 : Int32) * x2) + x4) σ) (fun r35 σ36 => zzgd (r35 = 0 ∨ r35 = 1) (some (r35, σ36)))) else (if (zza σ 47 (Int32.toNatClampNeg p0)) = 106 then (zzbd (f_X12_daysPass (((10 : Int32) * x2) + x4) σ) (fun r38 σ39 => zzgd (r38 = 0 ∨ r38 = 1) (some (r38, σ39)))) else (if (zza σ 47 (Int32.toNatClampNeg p0)) = 107 then (zzbd (f_X12_daysPass (((10 : Int32) * x2) + x4) σ) (fun r41 σ42 => zzgd (r41 = 0 ∨ r41 = 1) (some (r41, σ42)))) else (if (zza σ 47 (Int32.toNatClampNeg p0)) = 108 then (zzlt (zzsi σ 36 5 x2) (fun σ44 => some ((1 : Int32), σ44))) else (if (zza σ 47 (Int32.toNatClampNeg p0)) = 109 then (zzbd (f_X12_daysPass (((10 : Int32) * x2) + x4) σ) (fun r45 σ46 => zzgd (r45 = 0 ∨ r45 = 1) (some (r45, σ46)))) else (if (zza σ 47 (Int32.toNatClampNeg p0)) = 110 then (zzbd (f_X12_daysPass (((10 : Int32) * x2) + x4) σ) (fun r48 σ49 => zzgd (r48 = 0 ∨ r48 = 1) (some (r48, σ49)))) else (if (zza σ 47 (Int32.toNatClampNeg p0)) = 111 then (zzbd (f_X12_daysPass (((10 : Int32) * x2) + x4) σ) (fun r51 σ52 => zzgd (r51 = 0 ∨ r51 = 1) (some (r51, σ52)))) else (if (zza σ 47 (Int32.toNatClampNeg p0)) = 112 then (zzbd (f_X12_personComes x2 x4 σ) (fun r54 σ55 => zzgd (r54 = 0 ∨ r54 = 1) (some (r54, σ55)))) else (if (zza σ 47 (Int32.toNatClampNeg p0)) = 113 then (zzbd (f_X12_daysPass (((10 : Int32) * x2) + x4) σ) (fun r57 σ58 => zzgd (r57 = 0 ∨ r57 = 1) (some (r57, σ58)))) else (if (zza σ 47 (Int32.toNatClampNeg p0)) = 114 then (zzbd (f_X12_daysPass (((10 : Int32) * x2) + x4) σ) (fun r60 σ61 => zzgd (r60 = 0 ∨ r60 = 1) (some (r60, σ61)))) else (if (zza σ 47 (Int32.toNatClampNeg p0)) = 115 then (zzbd (f_X12_areTwo x2 x4 σ) (fun r63 σ64 => (if r63 = 0 then (f_X12_comesTold_169 p0 x2 x4 σ64) else (zzbd (f_X12_daysPass (1 : Int32) σ64) (fun r66 σ67 => (if r66 = 0 then (f_X12_comesTold_169 p0 x2 x4 σ67) else (f_X12_comesTold_170 p0 x2 x4 (1 : Int32) σ67))))))) else (if (zza σ 47 (Int32.toNatClampNeg p0)) = 116 then (zzbd (f_X12_turning x2 x4 σ) (fun r69 σ70 => zzgd (r69 = 0 ∨ r69 = 1) (some (r69, σ70)))) else (zzbd (f_X12_daysPass (((10 : Int32) * x2) + x4) σ) (fun r72 σ73 => zzgd (r72 = 0 ∨ r72 = 1) (some (r72, σ73))))))))))))))))))))))))
def f_X12_carry_17  (p0 : Int32)  (σ : zzS) : Option (Int32 × zzS) :=
  zzlt (zzsi σ 36 24 ((zzi σ 36 24) + (1 : Int32))) (fun σ1 => zzon (zzq σ1 0) none (fun j2 => zzgd (zzMarr j2) (zzgd (zzin ((zzi σ1 36 24) - (1 : Int32)) (zzlen j2)) (some ((zza σ1 j2 (Int32.toNatClampNeg ((zzi σ1 36 24) - (1 : Int32)))), σ1)))))
def f_X12_carry (p0 : Int32) (σ : zzS) : Option (Int32 × zzS) :=
  (if (zzi σ 36 25) = 0 then (f_X12_carry_17 p0 σ) else (zzon (zzq σ 0) none (fun j2 => zzgd (zzMarr j2) (zzgd (zzin (zzi σ 36 24) (zzlen j2)) (zzlt (zzsa σ j2 (Int32.toNatClampNeg (zzi σ 36 24)) p0) (fun σ6 => f_X12_carry_17 p0 σ6))))))
def f_X12_carryAll_115b  (k115 : Int32 → zzS → Option (Unit × zzS)) (p0 : Nat) (p1 : Int32) (l3 : Int32) (σ : zzS) : Option (Unit × zzS) :=
  (if l3 < (49 : Int32) then (zzgd (zzin l3 (zzlen 40)) (zzbd (f_X12_carry (zza σ 40 (Int32.toNatClampNeg l3)) σ) (fun r3 σ4 => zzgd (zzin l3 (zzlen 40)) (zzlt (zzsa σ4 40 (Int32.toNatClampNeg l3) r3) (fun σ6 => zzlt (l3 + (1 : Int32)) (fun x7 => k115 x7 σ6)))))) else (some ((), σ)))
def f_X12_carryAll_115  (p0 : Nat) (p1 : Int32) : Nat → Int32 → zzS → Option (Unit × zzS)
  | 0 => fun _ _ => none
  | n + 1 => f_X12_carryAll_115b (f_X12_carryAll_115 p0 p1 n) p0 p1
def f_X12_carryAll_53b  (k53 : Int32 → zzS → Option (Unit × zzS)) (p0 : Nat) (p1 : Int32) (l3 : Int32) (σ : zzS) : Option (Unit × zzS) :=
  (if l3 < (7 : Int32) then (zzgd (zzin l3 (zzlen 37)) (zzbd (f_X12_carry (zza σ 37 (Int32.toNatClampNeg l3)) σ) (fun r3 σ4 => zzgd (zzin l3 (zzlen 37)) (zzlt (zzsa σ4 37 (Int32.toNatClampNeg l3) r3) (fun σ6 => zzgd (zzin l3 (zzlen 38)) (zzbd (f_X12_carry (zza σ6 38 (Int32.toNatClampNeg l3)) σ6) (fun r8 σ9 => zzgd (zzin l3 (zzlen 38)) (zzlt (zzsa σ9 38 (Int32.toNatClampNeg l3) r8) (fun σ11 => zzgd (zzin l3 (zzlen 39)) (zzbd (f_X12_carry (zza σ11 39 (Int32.toNatClampNeg l3)) σ11) (fun r13 σ14 => zzgd (zzin l3 (zzlen 39)) (zzlt (zzsa σ14 39 (Int32.toNatClampNeg l3) r13) (fun σ16 => zzlt (l3 + (1 : Int32)) (fun x17 => k53 x17 σ16)))))))))))))) else (f_X12_carryAll_115 p0 p1 200 (0 : Int32) σ))
def f_X12_carryAll_53  (p0 : Nat) (p1 : Int32) : Nat → Int32 → zzS → Option (Unit × zzS)
  | 0 => fun _ _ => none
  | n + 1 => f_X12_carryAll_53b (f_X12_carryAll_53 p0 p1 n) p0 p1
def f_X12_carryAll (p0 : Nat) (p1 : Int32) (σ : zzS) : Option (Unit × zzS) :=
  zzlt (zzsq σ 0 (some p0)) (fun σ1 => zzgd (p1 = 0 ∨ p1 = 1) (zzlt (zzsi σ1 36 25 p1) (fun σ2 => zzlt (zzsi σ2 36 24 (0 : Int32)) (fun σ4 => zzbd (f_X12_carry (zzi σ4 36 0) σ4) (fun r5 σ6 => zzlt (zzsi σ6 36 0 r5) (fun σ7 => zzbd (f_X12_carry (zzi σ7 36 5) σ7) (fun r8 σ9 => zzlt (zzsi σ9 36 5 r8) (fun σ10 => zzbd (f_X12_carry (zzi σ10 36 6) σ10) (fun r11 σ12 => zzlt (zzsi σ12 36 6 r11) (fun σ13 => f_X12_carryAll_53 p0 p1 200 (0 : Int32) σ13))))))))))
def f_X12_close  (σ : zzS) : Option (Unit × zzS) :=
  zzbd (f_X12_carryAll 49 (0 : Int32) σ) (fun r1 σ2 => some ((), σ2))
def f_X12_open  (σ : zzS) : Option (Unit × zzS) :=
  zzbd (f_X12_carryAll 49 (1 : Int32) σ) (fun r1 σ2 => some ((), σ2))
def f_X12_wrongRow (p0 : Int32) (σ : zzS) : Option (Int32 × zzS) :=
  zzbd (f_X12_in (Int32.toInt64 p0) (0 : Int64) (7 : Int64) σ) (fun r1 σ2 => (if r1 = 0 then (some ((-1 : Int32), σ2)) else (zzgd (zzin p0 (zzlen 41)) ((if (zza σ2 41 (Int32.toNatClampNeg p0)) = 0 then (some ((-11 : Int32), σ2)) else (zzgd (zzin p0 (zzlen 41)) ((if (zza σ2 41 (Int32.toNatClampNeg p0)) = (2 : Int32) then (some ((0 : Int32), σ2)) else (some ((-12 : Int32), σ2))))))))))
def f_X12_town_84 (k57 : zzS → Option (Int32 × zzS)) (p0 : Int32)  (σ : zzS) : Option (Int32 × zzS) :=
  zzbd (f_X12_readStatement σ) (fun r1 σ2 => k57 σ2)
def f_X12_town_113b  (k113 : Int32 → zzS → Option (Int32 × zzS)) (p0 : Int32) (l3 : Int32) (σ : zzS) : Option (Int32 × zzS) :=
  (if l3 < (zzi σ 36 17) then (zzbd (f_X12_comesTold l3 σ) (fun r2 σ3 => (if r2 = 0 then (zzbd (f_X12_close σ3) (fun r6 σ7 => zzgd (zzin l3 (zzlen 46)) (some (((-2000 : Int32) - (zza σ7 46 (Int32.toNatClampNeg l3))), σ7)))) else (zzlt (l3 + (1 : Int32)) (fun x5 => k113 x5 σ3))))) else (some ((zzi σ 36 17), σ)))
def f_X12_town_113  (p0 : Int32) : Nat → Int32 → zzS → Option (Int32 × zzS)
  | 0 => fun _ _ => none
  | n + 1 => f_X12_town_113b (f_X12_town_113 p0 n) p0
def f_X12_town_91  (p0 : Int32)  (σ : zzS) : Option (Int32 × zzS) :=
  (if (zzi σ 36 16) = 0 then (zzbd (f_X12_open σ) (fun r2 σ3 => f_X12_town_113 p0 200 (0 : Int32) σ3)) else (some (((-1000 : Int32) - (zzi σ 36 15)), σ)))
def f_X12_town_57b  (k57 : zzS → Option (Int32 × zzS)) (p0 : Int32)  (σ : zzS) : Option (Int32 × zzS) :=
  (if (zzi σ 36 16) = 0 then (if (zzi σ 36 17) = 0 then (f_X12_town_84 k57 p0 σ) else (zzgd (zzin p0 (zzlen 45)) ((if (zzi σ 36 15) < (zza σ 45 (Int32.toNatClampNeg p0)) then (f_X12_town_84 k57 p0 σ) else (f_X12_town_91 p0 σ))))) else (f_X12_town_91 p0 σ))
def f_X12_town_57  (p0 : Int32) : Nat → zzS → Option (Int32 × zzS)
  | 0 => fun _ => none
  | n + 1 => f_X12_town_57b (f_X12_town_57 p0 n) p0
def f_X12_town_30  (p0 : Int32) (s0 : Int32) (σ : zzS) : Option (Int32 × zzS) :=
  (if s0 < 0 then (some (s0, σ)) else (zzlt (zzsi σ 36 14 p0) (fun σ2 => zzlt (zzsi σ2 36 15 (0 : Int32)) (fun σ3 => zzlt (zzsi σ3 36 16 (0 : Int32)) (fun σ4 => zzlt (zzsi σ4 36 17 (0 : Int32)) (fun σ5 => f_X12_town_57 p0 200 σ5))))))
def f_X12_town_29  (p0 : Int32) (l2 : Int32) (σ : zzS) : Option (Int32 × zzS) :=
  f_X12_town_30 p0 l2 σ
def f_X12_town (p0 : Int32) (σ : zzS) : Option (Int32 × zzS) :=
  zzlt (zzsi σ 36 13 (0 : Int32)) (fun σ1 => zzbd (f_X12_wrongRow p0 σ1) (fun r2 σ3 => (if r2 = 0 then (zzgd (zzin p0 (zzlen 44)) ((if (zza σ3 44 (Int32.toNatClampNeg p0)) = 0 then (f_X12_town_29 p0 r2 σ3) else (f_X12_town_30 p0 (-12 : Int32) σ3)))) else (f_X12_town_29 p0 r2 σ3))))
def f_X12_image  (σ : zzS) : Option (Int32 × zzS) :=
  zzlt (zzsi σ 36 13 (0 : Int32)) (fun σ1 => zzlt (zzsi σ1 36 23 (1 : Int32)) (fun σ2 => zzbd (f_X12_carryAll 50 (1 : Int32) σ2) (fun r3 σ4 => some ((zzi σ4 36 6), σ4))))
def f_X12_restore  (σ : zzS) : Option (Int32 × zzS) :=
  zzlt (zzsi σ 36 13 (0 : Int32)) (fun σ1 => (if (zzi σ1 36 23) = 0 then (some ((-3 : Int32), σ1)) else (zzbd (f_X12_carryAll 50 (0 : Int32) σ1) (fun r3 σ4 => some ((zzi σ4 36 6), σ4)))))
def f_X12_person (p0 : Int32) (p1 : Int32) (σ : zzS) : Option (Int32 × zzS) :=
  zzlt (zzsi σ 36 13 (0 : Int32)) (fun σ1 => zzbd (f_X12_isOne p0 σ1) (fun r2 σ3 => (if r2 = 0 then (some ((-1 : Int32), σ3)) else (if p1 = 0 then (zzgd (zzin p0 (zzlen 37)) (some ((zza σ3 37 (Int32.toNatClampNeg p0)), σ3))) else (if p1 = 1 then (zzgd (zzin p0 (zzlen 38)) (some ((zza σ3 38 (Int32.toNatClampNeg p0)), σ3))) else (if p1 = 2 then (zzgd (zzin p0 (zzlen 39)) (some ((zza σ3 39 (Int32.toNatClampNeg p0)), σ3))) else (if p1 = 3 then (zzbd (f_X12_growsOf p0 σ3) (fun r14 σ15 => some (r14, σ15))) else (if p1 = 4 then (zzbd (f_X12_bearsOf p0 σ3) (fun r16 σ17 => some ((r16 + (10 : Int32)), σ17))) else (if p1 = 5 then (zzbd (f_X12_turnsOf p0 σ3) (fun r18 σ19 => some (r18, σ19))) else (some ((-1 : Int32), σ3)))))))))))
def f_X12_fond (p0 : Int32) (p1 : Int32) (σ : zzS) : Option (Int32 × zzS) :=
  zzlt (zzsi σ 36 13 (0 : Int32)) (fun σ1 => zzbd (f_X12_areTwo p0 p1 σ1) (fun r2 σ3 => (if r2 = 0 then (some ((-1 : Int32), σ3)) else (zzgd (zzin (((7 : Int32) * p0) + p1) (zzlen 40)) (some ((zza σ3 40 (Int32.toNatClampNeg (((7 : Int32) * p0) + p1))), σ3))))))
def f_X12_wrongKept (p0 : Int32) (σ : zzS) : Option (Int32 × zzS) :=
  zzbd (f_X12_in (Int32.toInt64 p0) (0 : Int64) (7 : Int64) σ) (fun r1 σ2 => (if r1 = 0 then (some ((-1 : Int32), σ2)) else (zzgd (zzin p0 (zzlen 41)) ((if (zza σ2 41 (Int32.toNatClampNeg p0)) = 0 then (some ((-11 : Int32), σ2)) else (zzgd (zzin p0 (zzlen 41)) ((if (zza σ2 41 (Int32.toNatClampNeg p0)) = (1 : Int32) then (some ((0 : Int32), σ2)) else (some ((-12 : Int32), σ2))))))))))
def f_X12_comes (p0 : Int32) (σ : zzS) : Option (Int32 × zzS) :=
  zzlt (zzsi σ 36 13 (0 : Int32)) (fun σ1 => zzbd (f_X12_wrongKept p0 σ1) (fun r2 σ3 => (if r2 < 0 then (zzbd (f_X12_wrongKept p0 σ3) (fun r10 σ11 => some (r10, σ11))) else (zzgd (zzin p0 (zzlen 42)) (zzgd (zzin p0 (zzlen 43)) (zzbd (f_X12_personComes (zza σ3 42 (Int32.toNatClampNeg p0)) (zza σ3 43 (Int32.toNatClampNeg p0)) σ3) (fun r7 σ8 => (if r7 = 0 then (some ((-2 : Int32), σ8)) else (some (((zzi σ8 36 0) - (1 : Int32)), σ8))))))))))
def f_X12_feels (p0 : Int32) (p1 : Int32) (p2 : Int32) (σ : zzS) : Option (Int32 × zzS) :=
  zzlt (zzsi σ 36 13 (0 : Int32)) (fun σ1 => zzbd (f_X12_areTwo p0 p1 σ1) (fun r2 σ3 => (if r2 = 0 then (some ((-1 : Int32), σ3)) else (zzbd (f_X12_in (Int32.toInt64 p2) (0 : Int64) (9 : Int64) σ3) (fun r5 σ6 => (if r5 = 0 then (some ((-1 : Int32), σ6)) else (zzgd (zzin (((7 : Int32) * p0) + p1) (zzlen 40)) (zzlt (zza σ6 40 (Int32.toNatClampNeg (((7 : Int32) * p0) + p1))) (fun x9 => zzgd (zzin (((7 : Int32) * p0) + p1) (zzlen 40)) (zzlt (zzsa σ6 40 (Int32.toNatClampNeg (((7 : Int32) * p0) + p1)) p2) (fun σ11 => some (x9, σ11))))))))))))
def f_X12_limit (p0 : Int32) (σ : zzS) : Option (Int32 × zzS) :=
  zzlt (zzsi σ 36 13 (0 : Int32)) (fun σ1 => zzbd (f_X12_in (Int32.toInt64 p0) (0 : Int64) (9 : Int64) σ1) (fun r2 σ3 => (if r2 = 0 then (some ((-1 : Int32), σ3)) else (zzlt (zzi σ3 36 5) (fun x5 => zzlt (zzsi σ3 36 5 p0) (fun σ6 => some (x5, σ6)))))))
def f_X12_sees (p0 : Int32) (p1 : Int32) (σ : zzS) : Option (Int32 × zzS) :=
  zzlt (zzsi σ 36 13 (0 : Int32)) (fun σ1 => zzbd (f_X12_areTwo p0 p1 σ1) (fun r2 σ3 => (if r2 = 0 then (some ((-1 : Int32), σ3)) else (zzbd (f_X12_daysPass (1 : Int32) σ3) (fun r5 σ6 => (if r5 = 0 then (some ((-3 : Int32), σ6)) else (zzbd (f_X12_grow p0 p1 σ6) (fun r8 σ9 => zzgd (zzin (((7 : Int32) * p0) + p1) (zzlen 40)) (some ((zza σ9 40 (Int32.toNatClampNeg (((7 : Int32) * p0) + p1))), σ9))))))))))
def f_X12_turnsFor (p0 : Int32) (p1 : Int32) (σ : zzS) : Option (Int32 × zzS) :=
  zzlt (zzsi σ 36 13 (0 : Int32)) (fun σ1 => zzbd (f_X12_areTwo p0 p1 σ1) (fun r2 σ3 => (if r2 = 0 then (some ((-1 : Int32), σ3)) else (zzbd (f_X12_turning p0 p1 σ3) (fun r5 σ6 => (if r5 = 0 then (some ((-3 : Int32), σ6)) else (zzgd (zzin p1 (zzlen 39)) (some ((zza σ6 39 (Int32.toNatClampNeg p1)), σ6)))))))))
def f_X12_days (p0 : Int32) (σ : zzS) : Option (Int32 × zzS) :=
  zzlt (zzsi σ 36 13 (0 : Int32)) (fun σ1 => zzbd (f_X12_in (Int32.toInt64 p0) (1 : Int64) (99 : Int64) σ1) (fun r2 σ3 => (if r2 = 0 then (some ((-1 : Int32), σ3)) else (zzbd (f_X12_daysPass p0 σ3) (fun r5 σ6 => (if r5 = 0 then (some ((-3 : Int32), σ6)) else (some ((zzi σ6 36 6), σ6))))))))
def f_X12_fitFor_29 (k4 : Int32 → Int32 → zzS → Option (Int32 × zzS)) (p0 : Int32) (l3 : Int32) (s0 : Int32) (s1 : Int32) (σ : zzS) : Option (Int32 × zzS) :=
  zzlt (s1 ||| s0) (fun x1 => zzlt (l3 + (1 : Int32)) (fun x2 => k4 x1 x2 σ))
def f_X12_fitFor_4b  (k4 : Int32 → Int32 → zzS → Option (Int32 × zzS)) (p0 : Int32) (l2 : Int32) (l3 : Int32) (σ : zzS) : Option (Int32 × zzS) :=
  (if l3 < (zzi σ 36 0) then (zzbd (f_X12_mayTurn l3 p0 σ) (fun r2 σ3 => (if r2 = 0 then (f_X12_fitFor_29 k4 p0 l3 (0 : Int32) l2 σ3) else (f_X12_fitFor_29 k4 p0 l3 ((1 : Int32) <<< (l3 &&& 31)) l2 σ3)))) else (some (l2, σ)))
def f_X12_fitFor_4  (p0 : Int32) : Nat → Int32 → Int32 → zzS → Option (Int32 × zzS)
  | 0 => fun _ _ _ => none
  | n + 1 => f_X12_fitFor_4b (f_X12_fitFor_4 p0 n) p0
def f_X12_fitFor (p0 : Int32) (σ : zzS) : Option (Int32 × zzS) :=
  f_X12_fitFor_4 p0 200 (0 : Int32) (0 : Int32) σ
def f_X12_fit (p0 : Int32) (σ : zzS) : Option (Int32 × zzS) :=
  zzlt (zzsi σ 36 13 (0 : Int32)) (fun σ1 => zzbd (f_X12_isOne p0 σ1) (fun r2 σ3 => (if r2 = 0 then (some ((-1 : Int32), σ3)) else (zzbd (f_X12_fitFor p0 σ3) (fun r5 σ6 => some (r5, σ6))))))
def f_X12_layTold_168 (k54 : Int32 → zzS → Option (Int32 × zzS)) (k66 : Int32 → Int32 → Int32 → zzS → Option (Int32 × zzS)) (k100 : Int32 → Int32 → Int32 → Int32 → Int32 → Int32 → zzS → Option (Int32 × zzS))  (l1 : Int32) (l2 : Int32) (l3 : Int32) (l4 : Int32) (l5 : Int32) (l6 : Int32) (σ : zzS) : Option (Int32 × zzS) :=
  zzlt (l6 + (1 : Int32)) (fun x1 => k100 l1 l2 l3 l4 l5 x1 σ)
def f_X12_layTold_100b (k54 : Int32 → zzS → Option (Int32 × zzS)) (k66 : Int32 → Int32 → Int32 → zzS → Option (Int32 × zzS)) (k100 : Int32 → Int32 → Int32 → Int32 → Int32 → Int32 → zzS → Option (Int32 × zzS))  (l1 : Int32) (l2 : Int32) (l3 : Int32) (l4 : Int32) (l5 : Int32) (l6 : Int32) (σ : zzS) : Option (Int32 × zzS) :=
  (if l6 < (zzi σ 36 0) then (zzbd (f_X12_hasBit (l2 &&& (l3 ^^^ (-1 : Int32))) l6 σ) (fun r7 σ8 => (if r7 = 0 then (f_X12_layTold_168 k54 k66 k100 l1 l2 l3 l4 l5 l6 σ8) else (zzlt ((((128 : Int32) * l1) + (128 : Int32)) + (l3 ||| ((1 : Int32) <<< (l6 &&& 31)))) (fun x10 => zzgd (zzin x10 (zzlen 51)) (zzbd (f_X12_greater l4 ((zza σ8 51 (Int32.toNatClampNeg x10)) + (1 : Int32)) σ8) (fun r12 σ13 => zzgd (zzin x10 (zzlen 52)) (zzlt (l5 + (zza σ13 52 (Int32.toNatClampNeg x10))) (fun x15 => f_X12_layTold_168 k54 k66 k100 l1 l2 l3 r12 x15 l6 σ13))))))))) else (zzgd (zzin (((128 : Int32) * l1) + l3) (zzlen 51)) (zzlt (zzsa σ 51 (Int32.toNatClampNeg (((128 : Int32) * l1) + l3)) l4) (fun σ3 => zzgd (zzin (((128 : Int32) * l1) + l3) (zzlen 52)) (zzlt (zzsa σ3 52 (Int32.toNatClampNeg (((128 : Int32) * l1) + l3)) l5) (fun σ5 => zzlt (l3 + (1 : Int32)) (fun x6 => k66 l1 l2 x6 σ5)))))))
def f_X12_layTold_100 (k54 : Int32 → zzS → Option (Int32 × zzS)) (k66 : Int32 → Int32 → Int32 → zzS → Option (Int32 × zzS))  : Nat → Int32 → Int32 → Int32 → Int32 → Int32 → Int32 → zzS → Option (Int32 × zzS)
  | 0 => fun _ _ _ _ _ _ _ => none
  | n + 1 => f_X12_layTold_100b k54 k66 (f_X12_layTold_100 k54 k66 n)
def f_X12_layTold_66b (k54 : Int32 → zzS → Option (Int32 × zzS)) (k66 : Int32 → Int32 → Int32 → zzS → Option (Int32 × zzS))  (l1 : Int32) (l2 : Int32) (l3 : Int32) (σ : zzS) : Option (Int32 × zzS) :=
  (if l3 < ((1 : Int32) <<< ((zzi σ 36 0) &&& 31)) then (zzgd (zzin ((((128 : Int32) * l1) + (128 : Int32)) + l3) (zzlen 51)) (zzlt (zza σ 51 (Int32.toNatClampNeg ((((128 : Int32) * l1) + (128 : Int32)) + l3))) (fun x4 => f_X12_layTold_100 k54 k66 200 l1 l2 l3 x4 (0 : Int32) (0 : Int32) σ))) else (zzlt (l1 + (-1 : Int32)) (fun x2 => k54 x2 σ)))
def f_X12_layTold_66 (k54 : Int32 → zzS → Option (Int32 × zzS))  : Nat → Int32 → Int32 → Int32 → zzS → Option (Int32 × zzS)
  | 0 => fun _ _ _ _ => none
  | n + 1 => f_X12_layTold_66b k54 (f_X12_layTold_66 k54 n)
def f_X12_layTold_54b  (k54 : Int32 → zzS → Option (Int32 × zzS))  (l1 : Int32) (σ : zzS) : Option (Int32 × zzS) :=
  (if l1 < 0 then (zzgd (zzin (0 : Int32) (zzlen 51)) (some ((zza σ 51 (Int32.toNatClampNeg (0 : Int32))), σ))) else (zzbd (f_X12_fitFor l1 σ) (fun r3 σ4 => f_X12_layTold_66 k54 200 l1 r3 (0 : Int32) σ4)))
def f_X12_layTold_54   : Nat → Int32 → zzS → Option (Int32 × zzS)
  | 0 => fun _ _ => none
  | n + 1 => f_X12_layTold_54b (f_X12_layTold_54  n)
def f_X12_layTold_2b  (k2 : Int32 → zzS → Option (Int32 × zzS))  (l1 : Int32) (σ : zzS) : Option (Int32 × zzS) :=
  (if l1 < (128 : Int32) then (zzgd (zzin (((128 : Int32) * (zzi σ 36 0)) + l1) (zzlen 51)) (zzlt (zzsa σ 51 (Int32.toNatClampNeg (((128 : Int32) * (zzi σ 36 0)) + l1)) (0 : Int32)) (fun σ4 => zzgd (zzin (((128 : Int32) * (zzi σ4 36 0)) + l1) (zzlen 52)) (zzlt (zzsa σ4 52 (Int32.toNatClampNeg (((128 : Int32) * (zzi σ4 36 0)) + l1)) (1 : Int32)) (fun σ6 => zzlt (l1 + (1 : Int32)) (fun x7 => k2 x7 σ6)))))) else (zzlt ((zzi σ 36 0) - (1 : Int32)) (fun x2 => f_X12_layTold_54 200 x2 σ)))
def f_X12_layTold_2   : Nat → Int32 → zzS → Option (Int32 × zzS)
  | 0 => fun _ _ => none
  | n + 1 => f_X12_layTold_2b (f_X12_layTold_2  n)
def f_X12_layTold  (σ : zzS) : Option (Int32 × zzS) :=
  f_X12_layTold_2 200 (0 : Int32) σ
def f_X12_told_141 (k45 : Int32 → Int32 → Int32 → zzS → Option (Int32 × zzS)) (k78 : Int32 → Int32 → Int32 → Int32 → Int32 → zzS → Option (Int32 × zzS)) (p0 : Int32) (l3 : Int32) (l5 : Int32) (l6 : Int32) (l7 : Int32) (s0 : Int32) (σ : zzS) : Option (Int32 × zzS) :=
  zzlt (l7 + (-1 : Int32)) (fun x1 => k78 l3 s0 l5 l6 x1 σ)
def f_X12_told_139 (k45 : Int32 → Int32 → Int32 → zzS → Option (Int32 × zzS)) (k78 : Int32 → Int32 → Int32 → Int32 → Int32 → zzS → Option (Int32 × zzS)) (p0 : Int32) (l3 : Int32) (l4 : Int32) (l5 : Int32) (l6 : Int32) (l7 : Int32) (σ : zzS) : Option (Int32 × zzS) :=
  f_X12_told_141 k45 k78 p0 l3 l5 l6 l7 l4 σ
def f_X12_told_165 (k45 : Int32 → Int32 → Int32 → zzS → Option (Int32 × zzS)) (p0 : Int32) (l4 : Int32) (l5 : Int32) (s0 : Int32) (s1 : Int32) (σ : zzS) : Option (Int32 × zzS) :=
  zzlt (s1 ||| s0) (fun x1 => zzlt (l5 + (1 : Int32)) (fun x2 => k45 x1 l4 x2 σ))
def f_X12_told_78b (k45 : Int32 → Int32 → Int32 → zzS → Option (Int32 × zzS)) (k78 : Int32 → Int32 → Int32 → Int32 → Int32 → zzS → Option (Int32 × zzS)) (p0 : Int32) (l3 : Int32) (l4 : Int32) (l5 : Int32) (l6 : Int32) (l7 : Int32) (σ : zzS) : Option (Int32 × zzS) :=
  (if l7 < 0 then (if l4 = (9 : Int32) then (f_X12_told_165 k45 p0 l4 l5 (0 : Int32) l3 σ) else (f_X12_told_165 k45 p0 l4 l5 ((1 : Int32) <<< (l4 &&& 31)) l3 σ)) else (zzbd (f_X12_fitFor l5 σ) (fun r3 σ4 => zzbd (f_X12_hasBit (r3 &&& (l3 ^^^ (-1 : Int32))) l7 σ4) (fun r5 σ6 => (if r5 = 0 then (f_X12_told_139 k45 k78 p0 l3 l4 l5 l6 l7 σ6) else (zzgd (zzin ((((128 : Int32) * l5) + (128 : Int32)) + (l3 ||| ((1 : Int32) <<< (l7 &&& 31)))) (zzlen 51)) ((if ((zza σ6 51 (Int32.toNatClampNeg ((((128 : Int32) * l5) + (128 : Int32)) + (l3 ||| ((1 : Int32) <<< (l7 &&& 31)))))) + (1 : Int32)) = l6 then (f_X12_told_141 k45 k78 p0 l3 l5 l6 l7 l7 σ6) else (f_X12_told_139 k45 k78 p0 l3 l4 l5 l6 l7 σ6)))))))))
def f_X12_told_78 (k45 : Int32 → Int32 → Int32 → zzS → Option (Int32 × zzS)) (p0 : Int32) : Nat → Int32 → Int32 → Int32 → Int32 → Int32 → zzS → Option (Int32 × zzS)
  | 0 => fun _ _ _ _ _ _ => none
  | n + 1 => f_X12_told_78b k45 (f_X12_told_78 k45 p0 n) p0
def f_X12_told_45b  (k45 : Int32 → Int32 → Int32 → zzS → Option (Int32 × zzS)) (p0 : Int32) (l3 : Int32) (l4 : Int32) (l5 : Int32) (σ : zzS) : Option (Int32 × zzS) :=
  (if p0 < l5 then (some (l4, σ)) else (zzgd (zzin (((128 : Int32) * l5) + l3) (zzlen 51)) (zzlt (zza σ 51 (Int32.toNatClampNeg (((128 : Int32) * l5) + l3))) (fun x3 => zzlt ((zzi σ 36 0) - (1 : Int32)) (fun x4 => f_X12_told_78 k45 p0 200 l3 (9 : Int32) l5 x3 x4 σ)))))
def f_X12_told_45  (p0 : Int32) : Nat → Int32 → Int32 → Int32 → zzS → Option (Int32 × zzS)
  | 0 => fun _ _ _ _ => none
  | n + 1 => f_X12_told_45b (f_X12_told_45 p0 n) p0
def f_X12_told (p0 : Int32) (σ : zzS) : Option (Int32 × zzS) :=
  zzlt (zzsi σ 36 13 (0 : Int32)) (fun σ1 => zzbd (f_X12_in (Int32.toInt64 p0) (-1 : Int64) (Int32.toInt64 ((zzi σ1 36 0) - (1 : Int32))) σ1) (fun r2 σ3 => (if r2 = 0 then (some ((-1 : Int32), σ3)) else (zzbd (f_X12_layTold σ3) (fun r5 σ6 => (if p0 < 0 then (some (r5, σ6)) else (f_X12_told_45 p0 200 (0 : Int32) (9 : Int32) (0 : Int32) σ6)))))))
def f_X12_rings  (σ : zzS) : Option (Int32 × zzS) :=
  zzlt (zzsi σ 36 13 (0 : Int32)) (fun σ1 => zzbd (f_X12_layTold σ1) (fun r2 σ3 => zzgd (zzin (0 : Int32) (zzlen 52)) (some ((zza σ3 52 (Int32.toNatClampNeg (0 : Int32))), σ3))))
def f_X12_nobodyBits_28 (k4 : Int32 → Int32 → zzS → Option (Int32 × zzS))  (l2 : Int32) (s0 : Int32) (s1 : Int32) (σ : zzS) : Option (Int32 × zzS) :=
  zzlt (s1 ||| s0) (fun x1 => zzlt (l2 + (1 : Int32)) (fun x2 => k4 x1 x2 σ))
def f_X12_nobodyBits_4b  (k4 : Int32 → Int32 → zzS → Option (Int32 × zzS))  (l1 : Int32) (l2 : Int32) (σ : zzS) : Option (Int32 × zzS) :=
  (if l2 < (zzi σ 36 0) then (zzbd (f_X12_fitFor l2 σ) (fun r2 σ3 => (if r2 = 0 then (f_X12_nobodyBits_28 k4 l2 ((1 : Int32) <<< (l2 &&& 31)) l1 σ3) else (f_X12_nobodyBits_28 k4 l2 (0 : Int32) l1 σ3)))) else (some (l1, σ)))
def f_X12_nobodyBits_4   : Nat → Int32 → Int32 → zzS → Option (Int32 × zzS)
  | 0 => fun _ _ _ => none
  | n + 1 => f_X12_nobodyBits_4b (f_X12_nobodyBits_4  n)
def f_X12_nobodyBits  (σ : zzS) : Option (Int32 × zzS) :=
  f_X12_nobodyBits_4 200 (0 : Int32) (0 : Int32) σ
def f_X12_nobody  (σ : zzS) : Option (Int32 × zzS) :=
  zzlt (zzsi σ 36 13 (0 : Int32)) (fun σ1 => zzbd (f_X12_nobodyBits σ1) (fun r2 σ3 => some (r2, σ3)))
def f_X12_swaps_109 (k30 : Int32 → Int32 → Int32 → zzS → Option (Int32 × zzS)) (k43 : Int32 → Int32 → Int32 → Int32 → zzS → Option (Int32 × zzS)) (p0 : Int32) (l2 : Int32) (l4 : Int32) (l5 : Int32) (s0 : Int32) (σ : zzS) : Option (Int32 × zzS) :=
  zzlt (l5 + (-1 : Int32)) (fun x1 => k43 l2 s0 l4 x1 σ)
def f_X12_swaps_90 (k30 : Int32 → Int32 → Int32 → zzS → Option (Int32 × zzS)) (k43 : Int32 → Int32 → Int32 → Int32 → zzS → Option (Int32 × zzS)) (p0 : Int32) (l3 : Int32) (l4 : Int32) (l5 : Int32) (l6 : Int32) (s0 : Int32) (s1 : Int32) (σ : zzS) : Option (Int32 × zzS) :=
  zzlt (s1 + s0) (fun x1 => (if l6 = 0 then (f_X12_swaps_109 k30 k43 p0 x1 l4 l5 l3 σ) else (f_X12_swaps_109 k30 k43 p0 x1 l4 l5 (((10 : Int32) * l4) + l5) σ)))
def f_X12_swaps_77 (k30 : Int32 → Int32 → Int32 → zzS → Option (Int32 × zzS)) (k43 : Int32 → Int32 → Int32 → Int32 → zzS → Option (Int32 × zzS)) (p0 : Int32) (l2 : Int32) (l3 : Int32) (l4 : Int32) (l5 : Int32) (s0 : Int32) (σ : zzS) : Option (Int32 × zzS) :=
  (if s0 = 0 then (f_X12_swaps_90 k30 k43 p0 l3 l4 l5 s0 (0 : Int32) l2 σ) else (f_X12_swaps_90 k30 k43 p0 l3 l4 l5 s0 (1 : Int32) l2 σ))
def f_X12_swaps_76 (k30 : Int32 → Int32 → Int32 → zzS → Option (Int32 × zzS)) (k43 : Int32 → Int32 → Int32 → Int32 → zzS → Option (Int32 × zzS)) (p0 : Int32) (l2 : Int32) (l3 : Int32) (l4 : Int32) (l5 : Int32) (σ : zzS) : Option (Int32 × zzS) :=
  f_X12_swaps_77 k30 k43 p0 l2 l3 l4 l5 (0 : Int32) σ
def f_X12_swaps_43b (k30 : Int32 → Int32 → Int32 → zzS → Option (Int32 × zzS)) (k43 : Int32 → Int32 → Int32 → Int32 → zzS → Option (Int32 × zzS)) (p0 : Int32) (l2 : Int32) (l3 : Int32) (l4 : Int32) (l5 : Int32) (σ : zzS) : Option (Int32 × zzS) :=
  (if l4 < l5 then (zzbd (f_X12_mayTurn l4 l5 σ) (fun r3 σ4 => (if r3 = 0 then (f_X12_swaps_76 k30 k43 p0 l2 l3 l4 l5 σ4) else (zzbd (f_X12_mayTurn l5 l4 σ4) (fun r6 σ7 => (if r6 = 0 then (f_X12_swaps_76 k30 k43 p0 l2 l3 l4 l5 σ7) else (f_X12_swaps_77 k30 k43 p0 l2 l3 l4 l5 (1 : Int32) σ7))))))) else (zzlt (l4 + (-1 : Int32)) (fun x2 => k30 l2 l3 x2 σ)))
def f_X12_swaps_43 (k30 : Int32 → Int32 → Int32 → zzS → Option (Int32 × zzS)) (p0 : Int32) : Nat → Int32 → Int32 → Int32 → Int32 → zzS → Option (Int32 × zzS)
  | 0 => fun _ _ _ _ _ => none
  | n + 1 => f_X12_swaps_43b k30 (f_X12_swaps_43 k30 p0 n) p0
def f_X12_swaps_30b  (k30 : Int32 → Int32 → Int32 → zzS → Option (Int32 × zzS)) (p0 : Int32) (l2 : Int32) (l3 : Int32) (l4 : Int32) (σ : zzS) : Option (Int32 × zzS) :=
  (if l4 < 0 then (if p0 = 0 then (some (l2, σ)) else (some (l3, σ))) else (zzlt ((zzi σ 36 0) - (1 : Int32)) (fun x3 => f_X12_swaps_43 k30 p0 200 l2 l3 l4 x3 σ)))
def f_X12_swaps_30  (p0 : Int32) : Nat → Int32 → Int32 → Int32 → zzS → Option (Int32 × zzS)
  | 0 => fun _ _ _ _ => none
  | n + 1 => f_X12_swaps_30b (f_X12_swaps_30 p0 n) p0
def f_X12_swaps (p0 : Int32) (σ : zzS) : Option (Int32 × zzS) :=
  zzlt (zzsi σ 36 13 (0 : Int32)) (fun σ1 => zzbd (f_X12_in (Int32.toInt64 p0) (0 : Int64) (1 : Int64) σ1) (fun r2 σ3 => (if r2 = 0 then (some ((-1 : Int32), σ3)) else (zzlt ((zzi σ3 36 0) - (1 : Int32)) (fun x5 => f_X12_swaps_30 p0 200 (0 : Int32) (-4 : Int32) x5 σ3)))))
def f_X12_lastsFor_15b  (k15 : Int32 → Int32 → zzS → Option (Int32 × zzS)) (p0 : Int32) (p1 : Int32) (l3 : Int32) (l4 : Int32) (σ : zzS) : Option (Int32 × zzS) :=
  (if l4 < (99 : Int32) then (zzbd (f_X12_bearsOf p0 σ) (fun r2 σ3 => (if (r2 + (zzi σ3 36 5)) < l3 then (some (l4, σ3)) else (zzbd (f_X12_growsOf p0 σ3) (fun r5 σ6 => zzbd (f_X12_lesser (9 : Int32) (l3 + r5) σ6) (fun r7 σ8 => zzlt (l4 + (1 : Int32)) (fun x9 => k15 r7 x9 σ8))))))) else (some (l4, σ)))
def f_X12_lastsFor_15  (p0 : Int32) (p1 : Int32) : Nat → Int32 → Int32 → zzS → Option (Int32 × zzS)
  | 0 => fun _ _ _ => none
  | n + 1 => f_X12_lastsFor_15b (f_X12_lastsFor_15 p0 p1 n) p0 p1
def f_X12_lastsFor (p0 : Int32) (p1 : Int32) (σ : zzS) : Option (Int32 × zzS) :=
  zzgd (zzin (((7 : Int32) * p0) + p1) (zzlen 40)) (zzlt (zza σ 40 (Int32.toNatClampNeg (((7 : Int32) * p0) + p1))) (fun x2 => f_X12_lastsFor_15 p0 p1 200 x2 (0 : Int32) σ))
def f_X12_lasts (p0 : Int32) (p1 : Int32) (σ : zzS) : Option (Int32 × zzS) :=
  zzlt (zzsi σ 36 13 (0 : Int32)) (fun σ1 => zzbd (f_X12_areTwo p0 p1 σ1) (fun r2 σ3 => (if r2 = 0 then (some ((-1 : Int32), σ3)) else (zzbd (f_X12_lastsFor p0 p1 σ3) (fun r5 σ6 => some (r5, σ6))))))
def f_X12_soonest_145 (k56 : Int32 → Int32 → Int32 → Int32 → Int32 → zzS → Option (Int32 × zzS)) (k64 : Int32 → Int32 → Int32 → Int32 → Int32 → Int32 → zzS → Option (Int32 × zzS)) (p0 : Int32) (p1 : Int32) (l3 : Int32) (l4 : Int32) (l5 : Int32) (l6 : Int32) (l7 : Int32) (l8 : Int32) (σ : zzS) : Option (Int32 × zzS) :=
  zzlt (l8 + (1 : Int32)) (fun x1 => k64 l3 l4 l5 l6 l7 x1 σ)
def f_X12_soonest_122b (k56 : Int32 → Int32 → Int32 → Int32 → Int32 → zzS → Option (Int32 × zzS)) (k64 : Int32 → Int32 → Int32 → Int32 → Int32 → Int32 → zzS → Option (Int32 × zzS)) (k122 : Int32 → Int32 → Int32 → Int32 → Int32 → Int32 → Int32 → zzS → Option (Int32 × zzS)) (p0 : Int32) (p1 : Int32) (l3 : Int32) (l4 : Int32) (l5 : Int32) (l6 : Int32) (l7 : Int32) (l8 : Int32) (l9 : Int32) (σ : zzS) : Option (Int32 × zzS) :=
  (if 0 < l9 then (if 0 < l3 then (zzlt (l3 - l7) (fun x3 => zzlt (l4 + (1 : Int32)) (fun x4 => zzlt (l9 + (-1 : Int32)) (fun x5 => k122 x3 x4 l5 l6 l7 l8 x5 σ)))) else (f_X12_soonest_145 k56 k64 p0 p1 l3 l4 l5 l6 l7 l8 σ)) else (f_X12_soonest_145 k56 k64 p0 p1 l3 l4 l5 l6 l7 l8 σ))
def f_X12_soonest_122 (k56 : Int32 → Int32 → Int32 → Int32 → Int32 → zzS → Option (Int32 × zzS)) (k64 : Int32 → Int32 → Int32 → Int32 → Int32 → Int32 → zzS → Option (Int32 × zzS)) (p0 : Int32) (p1 : Int32) : Nat → Int32 → Int32 → Int32 → Int32 → Int32 → Int32 → Int32 → zzS → Option (Int32 × zzS)
  | 0 => fun _ _ _ _ _ _ _ _ => none
  | n + 1 => f_X12_soonest_122b k56 k64 (f_X12_soonest_122 k56 k64 p0 p1 n) p0 p1
def f_X12_soonest_111 (k56 : Int32 → Int32 → Int32 → Int32 → Int32 → zzS → Option (Int32 × zzS)) (k64 : Int32 → Int32 → Int32 → Int32 → Int32 → Int32 → zzS → Option (Int32 × zzS)) (p0 : Int32) (p1 : Int32) (l3 : Int32) (l4 : Int32) (l6 : Int32) (l7 : Int32) (l8 : Int32) (s0 : Int32) (σ : zzS) : Option (Int32 × zzS) :=
  zzbd (f_X12_lastsFor l8 p0 σ) (fun r1 σ2 => f_X12_soonest_122 k56 k64 p0 p1 200 l3 l4 s0 l6 l7 l8 r1 σ2)
def f_X12_soonest_109 (k56 : Int32 → Int32 → Int32 → Int32 → Int32 → zzS → Option (Int32 × zzS)) (k64 : Int32 → Int32 → Int32 → Int32 → Int32 → Int32 → zzS → Option (Int32 × zzS)) (p0 : Int32) (p1 : Int32) (l3 : Int32) (l4 : Int32) (l5 : Int32) (l6 : Int32) (l7 : Int32) (l8 : Int32) (σ : zzS) : Option (Int32 × zzS) :=
  f_X12_soonest_111 k56 k64 p0 p1 l3 l4 l6 l7 l8 l5 σ
def f_X12_soonest_64b (k56 : Int32 → Int32 → Int32 → Int32 → Int32 → zzS → Option (Int32 × zzS)) (k64 : Int32 → Int32 → Int32 → Int32 → Int32 → Int32 → zzS → Option (Int32 × zzS)) (p0 : Int32) (p1 : Int32) (l3 : Int32) (l4 : Int32) (l5 : Int32) (l6 : Int32) (l7 : Int32) (l8 : Int32) (σ : zzS) : Option (Int32 × zzS) :=
  (if l8 < (zzi σ 36 0) then (zzbd (f_X12_mayTurn l8 p0 σ) (fun r3 σ4 => (if r3 = 0 then (f_X12_soonest_145 k56 k64 p0 p1 l3 l4 l5 l6 l7 l8 σ4) else (zzbd (f_X12_turnsOf l8 σ4) (fun r6 σ7 => (if r6 = l7 then (if l5 < 0 then (if l6 = 0 then (f_X12_soonest_109 k56 k64 p0 p1 l3 l4 l5 l6 l7 l8 σ7) else (f_X12_soonest_111 k56 k64 p0 p1 l3 l4 l6 l7 l8 l8 σ7)) else (f_X12_soonest_109 k56 k64 p0 p1 l3 l4 l5 l6 l7 l8 σ7)) else (f_X12_soonest_145 k56 k64 p0 p1 l3 l4 l5 l6 l7 l8 σ7))))))) else (zzlt (l7 + (-1 : Int32)) (fun x2 => k56 l3 l4 l5 l6 x2 σ)))
def f_X12_soonest_64 (k56 : Int32 → Int32 → Int32 → Int32 → Int32 → zzS → Option (Int32 × zzS)) (p0 : Int32) (p1 : Int32) : Nat → Int32 → Int32 → Int32 → Int32 → Int32 → Int32 → zzS → Option (Int32 × zzS)
  | 0 => fun _ _ _ _ _ _ _ => none
  | n + 1 => f_X12_soonest_64b k56 (f_X12_soonest_64 k56 p0 p1 n) p0 p1
def f_X12_soonest_56b  (k56 : Int32 → Int32 → Int32 → Int32 → Int32 → zzS → Option (Int32 × zzS)) (p0 : Int32) (p1 : Int32) (l3 : Int32) (l4 : Int32) (l5 : Int32) (l6 : Int32) (l7 : Int32) (σ : zzS) : Option (Int32 × zzS) :=
  (if 0 < l7 then (f_X12_soonest_64 k56 p0 p1 200 l3 l4 l5 l6 l7 (0 : Int32) σ) else (if 0 < l3 then (some ((-4 : Int32), σ)) else (if p1 = 0 then (some (l4, σ)) else (some (l5, σ)))))
def f_X12_soonest_56  (p0 : Int32) (p1 : Int32) : Nat → Int32 → Int32 → Int32 → Int32 → Int32 → zzS → Option (Int32 × zzS)
  | 0 => fun _ _ _ _ _ _ => none
  | n + 1 => f_X12_soonest_56b (f_X12_soonest_56 p0 p1 n) p0 p1
def f_X12_soonest_51  (p0 : Int32) (p1 : Int32) (l3 : Int32) (l4 : Int32) (l5 : Int32) (s0 : Int32) (σ : zzS) : Option (Int32 × zzS) :=
  f_X12_soonest_56 p0 p1 200 l3 l4 l5 s0 (5 : Int32) σ
def f_X12_soonest (p0 : Int32) (p1 : Int32) (σ : zzS) : Option (Int32 × zzS) :=
  zzlt (zzsi σ 36 13 (0 : Int32)) (fun σ1 => zzbd (f_X12_isOne p0 σ1) (fun r2 σ3 => (if r2 = 0 then (some ((-1 : Int32), σ3)) else (zzbd (f_X12_in (Int32.toInt64 p1) (0 : Int64) (1 : Int64) σ3) (fun r5 σ6 => (if r5 = 0 then (some ((-1 : Int32), σ6)) else (zzgd (zzin p0 (zzlen 39)) (zzlt ((9 : Int32) - (zza σ6 39 (Int32.toNatClampNeg p0))) (fun x9 => (if 0 < x9 then (f_X12_soonest_51 p0 p1 x9 (0 : Int32) (-4 : Int32) (1 : Int32) σ6) else (f_X12_soonest_51 p0 p1 x9 (0 : Int32) (-4 : Int32) (0 : Int32) σ6)))))))))))
def f_X12_hide_59 (k19 : Int32 → Int32 → zzS → Option (Int32 × zzS)) (p0 : Int32) (l2 : Int32) (l3 : Int32) (σ : zzS) : Option (Int32 × zzS) :=
  zzlt (l3 + (1 : Int32)) (fun x1 => k19 l2 x1 σ)
def f_X12_hide_19b  (k19 : Int32 → Int32 → zzS → Option (Int32 × zzS)) (p0 : Int32) (l2 : Int32) (l3 : Int32) (σ : zzS) : Option (Int32 × zzS) :=
  (if l3 < (zzi σ 36 0) then (zzbd (f_X12_mayTurn l3 p0 σ) (fun r2 σ3 => (if r2 = 0 then (f_X12_hide_59 k19 p0 l2 l3 σ3) else (zzbd (f_X12_lastsFor l3 p0 σ3) (fun r5 σ6 => (if r5 = (99 : Int32) then (some ((-4 : Int32), σ6)) else (zzlt (l2 + r5) (fun x8 => f_X12_hide_59 k19 p0 x8 l3 σ6)))))))) else (some (l2, σ)))
def f_X12_hide_19  (p0 : Int32) : Nat → Int32 → Int32 → zzS → Option (Int32 × zzS)
  | 0 => fun _ _ _ => none
  | n + 1 => f_X12_hide_19b (f_X12_hide_19 p0 n) p0
def f_X12_hide (p0 : Int32) (σ : zzS) : Option (Int32 × zzS) :=
  zzlt (zzsi σ 36 13 (0 : Int32)) (fun σ1 => zzbd (f_X12_isOne p0 σ1) (fun r2 σ3 => (if r2 = 0 then (some ((-1 : Int32), σ3)) else (f_X12_hide_19 p0 200 (0 : Int32) (0 : Int32) σ3))))
def f_X12_keeps_54b  (k54 : Int32 → Int32 → zzS → Option (Int32 × zzS)) (p0 : Int32) (p1 : Int32) (l3 : Int32) (l4 : Int32) (σ : zzS) : Option (Int32 × zzS) :=
  (if l4 < (99 : Int32) then (zzbd (f_X12_bearsOf p0 σ) (fun r2 σ3 => (if (r2 + (zzi σ3 36 5)) < l3 then (some (l4, σ3)) else (zzbd (f_X12_growsOf p0 σ3) (fun r5 σ6 => zzbd (f_X12_lesser (9 : Int32) (l3 + r5) σ6) (fun r7 σ8 => zzlt (l4 + (1 : Int32)) (fun x9 => k54 r7 x9 σ8))))))) else (some (l4, σ)))
def f_X12_keeps_54  (p0 : Int32) (p1 : Int32) : Nat → Int32 → Int32 → zzS → Option (Int32 × zzS)
  | 0 => fun _ _ _ => none
  | n + 1 => f_X12_keeps_54b (f_X12_keeps_54 p0 p1 n) p0 p1
def f_X12_keeps (p0 : Int32) (p1 : Int32) (σ : zzS) : Option (Int32 × zzS) :=
  zzlt (zzsi σ 36 13 (0 : Int32)) (fun σ1 => zzbd (f_X12_areTwo p0 p1 σ1) (fun r2 σ3 => (if r2 = 0 then (some ((-1 : Int32), σ3)) else (zzbd (f_X12_mayTurn p0 p1 σ3) (fun r5 σ6 => (if r5 = 0 then (some ((-3 : Int32), σ6)) else (zzgd (zzin (((7 : Int32) * p0) + p1) (zzlen 40)) (zzbd (f_X12_growsOf p0 σ6) (fun r9 σ10 => zzbd (f_X12_lesser (9 : Int32) ((zza σ6 40 (Int32.toNatClampNeg (((7 : Int32) * p0) + p1))) + r9) σ10) (fun r11 σ12 => f_X12_keeps_54 p0 p1 200 r11 (0 : Int32) σ12))))))))))
def f_X12_enough_88 (k29 : Int32 → Int32 → Int32 → zzS → Option (Int32 × zzS)) (p0 : Int32) (l2 : Int32) (l4 : Int32) (s0 : Int32) (σ : zzS) : Option (Int32 × zzS) :=
  zzlt (l4 + (-1 : Int32)) (fun x1 => k29 l2 s0 x1 σ)
def f_X12_enough_75 (k29 : Int32 → Int32 → Int32 → zzS → Option (Int32 × zzS)) (p0 : Int32) (l2 : Int32) (l3 : Int32) (l4 : Int32) (s0 : Int32) (σ : zzS) : Option (Int32 × zzS) :=
  (if s0 = 0 then (f_X12_enough_88 k29 p0 l2 l4 l3 σ) else (f_X12_enough_88 k29 p0 l2 l4 l4 σ))
def f_X12_enough_29b  (k29 : Int32 → Int32 → Int32 → zzS → Option (Int32 × zzS)) (p0 : Int32) (l2 : Int32) (l3 : Int32) (l4 : Int32) (σ : zzS) : Option (Int32 × zzS) :=
  (if l4 < 0 then (zzlt (zzsi σ 36 5 l2) (fun σ2 => some (l3, σ2))) else (zzlt (zzsi σ 36 5 l4) (fun σ3 => (if p0 = 0 then (zzbd (f_X12_layTold σ3) (fun r8 σ9 => (if r8 = (zzi σ9 36 0) then (f_X12_enough_75 k29 p0 l2 l3 l4 (1 : Int32) σ9) else (f_X12_enough_75 k29 p0 l2 l3 l4 (0 : Int32) σ9)))) else (zzbd (f_X12_nobodyBits σ3) (fun r5 σ6 => (if r5 = 0 then (f_X12_enough_75 k29 p0 l2 l3 l4 (1 : Int32) σ6) else (f_X12_enough_75 k29 p0 l2 l3 l4 (0 : Int32) σ6))))))))
def f_X12_enough_29  (p0 : Int32) : Nat → Int32 → Int32 → Int32 → zzS → Option (Int32 × zzS)
  | 0 => fun _ _ _ _ => none
  | n + 1 => f_X12_enough_29b (f_X12_enough_29 p0 n) p0
def f_X12_enough (p0 : Int32) (σ : zzS) : Option (Int32 × zzS) :=
  zzlt (zzsi σ 36 13 (0 : Int32)) (fun σ1 => zzbd (f_X12_in (Int32.toInt64 p0) (0 : Int64) (1 : Int64) σ1) (fun r2 σ3 => (if r2 = 0 then (some ((-1 : Int32), σ3)) else (zzlt (zzi σ3 36 5) (fun x5 => f_X12_enough_29 p0 200 x5 (-4 : Int32) (9 : Int32) σ3)))))
def f_X12_lovedBy_33 (k4 : Int32 → Int32 → zzS → Option (Int32 × zzS)) (p0 : Int32) (l3 : Int32) (s0 : Int32) (s1 : Int32) (σ : zzS) : Option (Int32 × zzS) :=
  zzlt (s1 + s0) (fun x1 => zzlt (l3 + (1 : Int32)) (fun x2 => k4 x1 x2 σ))
def f_X12_lovedBy_4b  (k4 : Int32 → Int32 → zzS → Option (Int32 × zzS)) (p0 : Int32) (l2 : Int32) (l3 : Int32) (σ : zzS) : Option (Int32 × zzS) :=
  (if l3 < (zzi σ 36 0) then (if l3 = p0 then (f_X12_lovedBy_33 k4 p0 l3 (0 : Int32) l2 σ) else (zzgd (zzin (((7 : Int32) * l3) + p0) (zzlen 40)) (f_X12_lovedBy_33 k4 p0 l3 (zza σ 40 (Int32.toNatClampNeg (((7 : Int32) * l3) + p0))) l2 σ))) else (some (l2, σ)))
def f_X12_lovedBy_4  (p0 : Int32) : Nat → Int32 → Int32 → zzS → Option (Int32 × zzS)
  | 0 => fun _ _ _ => none
  | n + 1 => f_X12_lovedBy_4b (f_X12_lovedBy_4 p0 n) p0
def f_X12_lovedBy (p0 : Int32) (σ : zzS) : Option (Int32 × zzS) :=
  f_X12_lovedBy_4 p0 200 (0 : Int32) (0 : Int32) σ
def f_X12_loved_52 (k22 : Int32 → Int32 → zzS → Option (Int32 × zzS)) (p0 : Int32) (l3 : Int32) (s0 : Int32) (σ : zzS) : Option (Int32 × zzS) :=
  zzlt (l3 + (1 : Int32)) (fun x1 => k22 s0 x1 σ)
def f_X12_loved_47 (k22 : Int32 → Int32 → zzS → Option (Int32 × zzS)) (p0 : Int32) (l3 : Int32) (σ : zzS) : Option (Int32 × zzS) :=
  f_X12_loved_52 k22 p0 l3 l3 σ
def f_X12_loved_67  (p0 : Int32) (l2 : Int32) (σ : zzS) : Option (Int32 × zzS) :=
  some (l2, σ)
def f_X12_loved_22b  (k22 : Int32 → Int32 → zzS → Option (Int32 × zzS)) (p0 : Int32) (l2 : Int32) (l3 : Int32) (σ : zzS) : Option (Int32 × zzS) :=
  (if l3 < (zzi σ 36 0) then (if l2 < 0 then (f_X12_loved_47 k22 p0 l3 σ) else (zzbd (f_X12_lovedBy l3 σ) (fun r7 σ8 => zzbd (f_X12_lovedBy l2 σ8) (fun r9 σ10 => (if r9 < r7 then (f_X12_loved_47 k22 p0 l3 σ10) else (f_X12_loved_52 k22 p0 l3 l2 σ10)))))) else (if l2 < 0 then (f_X12_loved_67 p0 l2 σ) else (if p0 = 0 then (f_X12_loved_67 p0 l2 σ) else (zzbd (f_X12_lovedBy l2 σ) (fun r4 σ5 => some (r4, σ5))))))
def f_X12_loved_22  (p0 : Int32) : Nat → Int32 → Int32 → zzS → Option (Int32 × zzS)
  | 0 => fun _ _ _ => none
  | n + 1 => f_X12_loved_22b (f_X12_loved_22 p0 n) p0
def f_X12_loved (p0 : Int32) (σ : zzS) : Option (Int32 × zzS) :=
  zzlt (zzsi σ 36 13 (0 : Int32)) (fun σ1 => zzbd (f_X12_in (Int32.toInt64 p0) (0 : Int64) (1 : Int64) σ1) (fun r2 σ3 => (if r2 = 0 then (some ((-1 : Int32), σ3)) else (f_X12_loved_22 p0 200 (-4 : Int32) (0 : Int32) σ3))))
def f_X12_warmest_99 (k12 : Int32 → Int32 → Int32 → zzS → Option (Int32 × zzS)) (k23 : Int32 → Int32 → Int32 → Int32 → zzS → Option (Int32 × zzS))  (l1 : Int32) (l3 : Int32) (l4 : Int32) (s0 : Int32) (σ : zzS) : Option (Int32 × zzS) :=
  zzlt (l4 + (1 : Int32)) (fun x1 => k23 l1 s0 l3 x1 σ)
def f_X12_warmest_77 (k12 : Int32 → Int32 → Int32 → zzS → Option (Int32 × zzS)) (k23 : Int32 → Int32 → Int32 → Int32 → zzS → Option (Int32 × zzS))  (l2 : Int32) (l3 : Int32) (l4 : Int32) (l5 : Int32) (s0 : Int32) (σ : zzS) : Option (Int32 × zzS) :=
  (if l5 = 0 then (f_X12_warmest_99 k12 k23 s0 l3 l4 l2 σ) else (zzgd (zzin (((7 : Int32) * l3) + l4) (zzlen 40)) (f_X12_warmest_99 k12 k23 s0 l3 l4 (zza σ 40 (Int32.toNatClampNeg (((7 : Int32) * l3) + l4))) σ)))
def f_X12_warmest_59 (k12 : Int32 → Int32 → Int32 → zzS → Option (Int32 × zzS)) (k23 : Int32 → Int32 → Int32 → Int32 → zzS → Option (Int32 × zzS))  (l1 : Int32) (l2 : Int32) (l3 : Int32) (l4 : Int32) (s0 : Int32) (σ : zzS) : Option (Int32 × zzS) :=
  (if s0 = 0 then (f_X12_warmest_77 k12 k23 l2 l3 l4 s0 l1 σ) else (f_X12_warmest_77 k12 k23 l2 l3 l4 s0 (((10 : Int32) * l3) + l4) σ))
def f_X12_warmest_58 (k12 : Int32 → Int32 → Int32 → zzS → Option (Int32 × zzS)) (k23 : Int32 → Int32 → Int32 → Int32 → zzS → Option (Int32 × zzS))  (l1 : Int32) (l2 : Int32) (l3 : Int32) (l4 : Int32) (σ : zzS) : Option (Int32 × zzS) :=
  f_X12_warmest_59 k12 k23 l1 l2 l3 l4 (0 : Int32) σ
def f_X12_warmest_23b (k12 : Int32 → Int32 → Int32 → zzS → Option (Int32 × zzS)) (k23 : Int32 → Int32 → Int32 → Int32 → zzS → Option (Int32 × zzS))  (l1 : Int32) (l2 : Int32) (l3 : Int32) (l4 : Int32) (σ : zzS) : Option (Int32 × zzS) :=
  (if l4 < (zzi σ 36 0) then (if l3 = l4 then (f_X12_warmest_58 k12 k23 l1 l2 l3 l4 σ) else (zzgd (zzin (((7 : Int32) * l3) + l4) (zzlen 40)) ((if l2 < (zza σ 40 (Int32.toNatClampNeg (((7 : Int32) * l3) + l4))) then (f_X12_warmest_59 k12 k23 l1 l2 l3 l4 (1 : Int32) σ) else (f_X12_warmest_58 k12 k23 l1 l2 l3 l4 σ))))) else (zzlt (l3 + (1 : Int32)) (fun x2 => k12 l1 l2 x2 σ)))
def f_X12_warmest_23 (k12 : Int32 → Int32 → Int32 → zzS → Option (Int32 × zzS))  : Nat → Int32 → Int32 → Int32 → Int32 → zzS → Option (Int32 × zzS)
  | 0 => fun _ _ _ _ _ => none
  | n + 1 => f_X12_warmest_23b k12 (f_X12_warmest_23 k12 n)
def f_X12_warmest_12b  (k12 : Int32 → Int32 → Int32 → zzS → Option (Int32 × zzS))  (l1 : Int32) (l2 : Int32) (l3 : Int32) (σ : zzS) : Option (Int32 × zzS) :=
  (if l3 < (zzi σ 36 0) then (f_X12_warmest_23 k12 200 l1 l2 l3 (0 : Int32) σ) else (some (l1, σ)))
def f_X12_warmest_12   : Nat → Int32 → Int32 → Int32 → zzS → Option (Int32 × zzS)
  | 0 => fun _ _ _ _ => none
  | n + 1 => f_X12_warmest_12b (f_X12_warmest_12  n)
def f_X12_warmest  (σ : zzS) : Option (Int32 × zzS) :=
  zzlt (zzsi σ 36 13 (0 : Int32)) (fun σ1 => f_X12_warmest_12 200 (-4 : Int32) (-1 : Int32) (0 : Int32) σ1)
def f_X12_orders_22b  (k22 : Int64 → Int32 → zzS → Option (Int64 × zzS)) (p0 : Int32) (l2 : Int64) (l4 : Int32) (σ : zzS) : Option (Int64 × zzS) :=
  zzgd (zzin p0 (zzlen 39)) ((if ((9 : Int32) - (zza σ 39 (Int32.toNatClampNeg p0))) < l4 then (some (l2, σ)) else (zzlt (l2 * (Int32.toInt64 l4)) (fun x3 => zzlt (l4 + (1 : Int32)) (fun x4 => k22 x3 x4 σ)))))
def f_X12_orders_22  (p0 : Int32) : Nat → Int64 → Int32 → zzS → Option (Int64 × zzS)
  | 0 => fun _ _ _ => none
  | n + 1 => f_X12_orders_22b (f_X12_orders_22 p0 n) p0
def f_X12_orders (p0 : Int32) (σ : zzS) : Option (Int64 × zzS) :=
  zzlt (zzsi σ 36 13 (0 : Int32)) (fun σ1 => zzbd (f_X12_isOne p0 σ1) (fun r2 σ3 => (if r2 = 0 then (some ((1000000001 : Int64), σ3)) else (f_X12_orders_22 p0 200 (1 : Int64) (2 : Int32) σ3))))
def f_X12_divisor_6b  (k6 : Int64 → Int64 → zzS → Option (Int64 × zzS)) (p0 : Int64) (p1 : Int64) (l4 : Int64) (l6 : Int64) (σ : zzS) : Option (Int64 × zzS) :=
  (if (lg_cmp l6 (0 : Int64)) = 0 then (some (l4, σ)) else (zzgd (¬ l6 = 0) (zzlt (l4 - l4 / l6 * l6) (fun x3 => k6 l6 x3 σ))))
def f_X12_divisor_6  (p0 : Int64) (p1 : Int64) : Nat → Int64 → Int64 → zzS → Option (Int64 × zzS)
  | 0 => fun _ _ _ => none
  | n + 1 => f_X12_divisor_6b (f_X12_divisor_6 p0 p1 n) p0 p1
def f_X12_divisor (p0 : Int64) (p1 : Int64) (σ : zzS) : Option (Int64 × zzS) :=
  f_X12_divisor_6 p0 p1 200 p0 p1 σ
def f_X12_partOf (p0 : Int64) (p1 : Int64) (p2 : Int32) (σ : zzS) : Option (Int64 × zzS) :=
  (if (lg_cmp p0 (0 : Int64)) = 0 then (some ((Int32.toInt64 p2), σ)) else (zzbd (f_X12_divisor p0 p1 σ) (fun r2 σ3 => (if p2 = 0 then (zzgd (¬ r2 = 0) (some ((p0 / r2), σ3))) else (zzgd (¬ r2 = 0) (some ((p1 / r2), σ3)))))))
def f_X12_drawn (p0 : Int32) (p1 : Int32) (p2 : Int32) (σ : zzS) : Option (Int64 × zzS) :=
  zzlt (zzsi σ 36 13 (0 : Int32)) (fun σ1 => zzbd (f_X12_areTwo p0 p1 σ1) (fun r2 σ3 => (if r2 = 0 then (some ((1000000001 : Int64), σ3)) else (zzbd (f_X12_in (Int32.toInt64 p2) (0 : Int64) (1 : Int64) σ3) (fun r5 σ6 => (if r5 = 0 then (some ((1000000001 : Int64), σ6)) else (zzgd (zzin p1 (zzlen 39)) (zzlt ((9 : Int32) - (zza σ6 39 (Int32.toNatClampNeg p1))) (fun x9 => zzbd (f_X12_turnsOf p0 σ6) (fun r10 σ11 => zzbd (f_X12_lesser r10 x9 σ11) (fun r12 σ13 => zzbd (f_X12_partOf (Int32.toInt64 r12) (Int32.toInt64 x9) p2 σ13) (fun r14 σ15 => some (r14, σ15)))))))))))))
def f_X12_await_52b  (k52 : Int64 → Int64 → Int32 → zzS → Option (Int64 × zzS)) (p0 : Int32) (p1 : Int32) (p2 : Int32) (l4 : Int64) (l6 : Int64) (l8 : Int32) (σ : zzS) : Option (Int64 × zzS) :=
  (if l8 < p1 then (zzlt (l4 * (Int32.toInt64 ((10 : Int32) - p0))) (fun x4 => zzlt (l6 * (10 : Int64)) (fun x5 => zzlt (l8 + (1 : Int32)) (fun x6 => k52 x4 x5 x6 σ)))) else (zzbd (f_X12_partOf (l6 - l4) l6 p2 σ) (fun r2 σ3 => some (r2, σ3))))
def f_X12_await_52  (p0 : Int32) (p1 : Int32) (p2 : Int32) : Nat → Int64 → Int64 → Int32 → zzS → Option (Int64 × zzS)
  | 0 => fun _ _ _ _ => none
  | n + 1 => f_X12_await_52b (f_X12_await_52 p0 p1 p2 n) p0 p1 p2
def f_X12_await (p0 : Int32) (p1 : Int32) (p2 : Int32) (σ : zzS) : Option (Int64 × zzS) :=
  zzlt (zzsi σ 36 13 (0 : Int32)) (fun σ1 => zzbd (f_X12_in (Int32.toInt64 p0) (0 : Int64) (10 : Int64) σ1) (fun r2 σ3 => (if r2 = 0 then (some ((1000000001 : Int64), σ3)) else (zzbd (f_X12_in (Int32.toInt64 p1) (0 : Int64) (12 : Int64) σ3) (fun r5 σ6 => (if r5 = 0 then (some ((1000000001 : Int64), σ6)) else (zzbd (f_X12_in (Int32.toInt64 p2) (0 : Int64) (1 : Int64) σ6) (fun r8 σ9 => (if r8 = 0 then (some ((1000000001 : Int64), σ9)) else (f_X12_await_52 p0 p1 p2 200 (1 : Int64) (1 : Int64) (0 : Int32) σ9))))))))))
def f_X12_daysFor_27b  (k27 : Int64 → Int64 → Int32 → zzS → Option (Int32 × zzS)) (p0 : Int32) (l2 : Int64) (l4 : Int64) (l6 : Int32) (σ : zzS) : Option (Int32 × zzS) :=
  (if (12 : Int32) < l6 then (some ((-4 : Int32), σ)) else (if (lg_cmp ((2 : Int64) * (l4 - l2)) l4) < 0 then (zzlt (l2 * (Int32.toInt64 ((10 : Int32) - p0))) (fun x3 => zzlt (l4 * (10 : Int64)) (fun x4 => zzlt (l6 + (1 : Int32)) (fun x5 => k27 x3 x4 x5 σ)))) else (some (l6, σ))))
def f_X12_daysFor_27  (p0 : Int32) : Nat → Int64 → Int64 → Int32 → zzS → Option (Int32 × zzS)
  | 0 => fun _ _ _ _ => none
  | n + 1 => f_X12_daysFor_27b (f_X12_daysFor_27 p0 n) p0
def f_X12_daysFor (p0 : Int32) (σ : zzS) : Option (Int32 × zzS) :=
  zzlt (zzsi σ 36 13 (0 : Int32)) (fun σ1 => zzbd (f_X12_in (Int32.toInt64 p0) (0 : Int64) (10 : Int64) σ1) (fun r2 σ3 => (if r2 = 0 then (some ((-1 : Int32), σ3)) else (f_X12_daysFor_27 p0 200 (1 : Int64) (1 : Int64) (0 : Int32) σ3))))
def f_X12_fitInAll_4b  (k4 : Int32 → Int32 → zzS → Option (Int32 × zzS))  (l1 : Int32) (l2 : Int32) (σ : zzS) : Option (Int32 × zzS) :=
  (if l2 < (zzi σ 36 0) then (zzbd (f_X12_fitFor l2 σ) (fun r2 σ3 => zzbd (f_X12_onesOf r2 σ3) (fun r4 σ5 => zzlt (l1 + r4) (fun x6 => zzlt (l2 + (1 : Int32)) (fun x7 => k4 x6 x7 σ5))))) else (some (l1, σ)))
def f_X12_fitInAll_4   : Nat → Int32 → Int32 → zzS → Option (Int32 × zzS)
  | 0 => fun _ _ _ => none
  | n + 1 => f_X12_fitInAll_4b (f_X12_fitInAll_4  n)
def f_X12_fitInAll  (σ : zzS) : Option (Int32 × zzS) :=
  f_X12_fitInAll_4 200 (0 : Int32) (0 : Int32) σ
def f_X12_ask_117 (k37 : Int32 → Int32 → Int32 → zzS → Option (Int32 × zzS)) (p0 : Int32) (l2 : Int32) (l3 : Int32) (l4 : Int32) (σ : zzS) : Option (Int32 × zzS) :=
  zzlt (l4 + (1 : Int32)) (fun x1 => k37 l2 l3 x1 σ)
def f_X12_ask_109 (k37 : Int32 → Int32 → Int32 → zzS → Option (Int32 × zzS)) (p0 : Int32) (l3 : Int32) (l4 : Int32) (l6 : Int32) (s0 : Int32) (σ : zzS) : Option (Int32 × zzS) :=
  zzbd (f_X12_greater l3 l6 σ) (fun r1 σ2 => f_X12_ask_117 k37 p0 s0 r1 l4 σ2)
def f_X12_ask_37b  (k37 : Int32 → Int32 → Int32 → zzS → Option (Int32 × zzS)) (p0 : Int32) (l2 : Int32) (l3 : Int32) (l4 : Int32) (σ : zzS) : Option (Int32 × zzS) :=
  (if l4 < (zzi σ 36 0) then (zzbd (f_X12_mayTurn l4 p0 σ) (fun r2 σ3 => (if r2 = 0 then (f_X12_ask_117 k37 p0 l2 l3 l4 σ3) else (zzgd (zzin (((7 : Int32) * l4) + p0) (zzlen 40)) (zzlt (zza σ3 40 (Int32.toNatClampNeg (((7 : Int32) * l4) + p0))) (fun x6 => zzbd (f_X12_grow l4 p0 σ3) (fun r7 σ8 => zzbd (f_X12_fitInAll σ8) (fun r9 σ10 => zzgd (zzin (((7 : Int32) * l4) + p0) (zzlen 40)) (zzlt (zzsa σ10 40 (Int32.toNatClampNeg (((7 : Int32) * l4) + p0)) x6) (fun σ12 => (if l3 < r9 then (f_X12_ask_109 k37 p0 l3 l4 r9 l4 σ12) else (f_X12_ask_109 k37 p0 l3 l4 r9 l2 σ12)))))))))))) else (some (l2, σ)))
def f_X12_ask_37  (p0 : Int32) : Nat → Int32 → Int32 → Int32 → zzS → Option (Int32 × zzS)
  | 0 => fun _ _ _ _ => none
  | n + 1 => f_X12_ask_37b (f_X12_ask_37 p0 n) p0
def f_X12_ask (p0 : Int32) (σ : zzS) : Option (Int32 × zzS) :=
  zzlt (zzsi σ 36 13 (0 : Int32)) (fun σ1 => zzbd (f_X12_isOne p0 σ1) (fun r2 σ3 => (if r2 = 0 then (some ((-1 : Int32), σ3)) else (zzgd (zzin p0 (zzlen 39)) ((if (zza σ3 39 (Int32.toNatClampNeg p0)) = (9 : Int32) then (some ((-3 : Int32), σ3)) else (f_X12_ask_37 p0 200 (-4 : Int32) (-1 : Int32) (0 : Int32) σ3)))))))
def f_X12_wins (p0 : Int32) (p1 : Int32) (p2 : Int32) (σ : zzS) : Option (Int32 × zzS) :=
  zzbd (f_X12_growsOf p0 σ) (fun r1 σ2 => some (((((3 : Int32) * p2) - (r1 * p1)) + (((2 : Int32) * p1) * p2)), σ2))
def f_X12_rests_51  (p0 : Int32) (p1 : Int32) (p2 : Int32) (p3 : Int32)  (σ : zzS) : Option (Int32 × zzS) :=
  some ((1 : Int32), σ)
def f_X12_rests_24  (p0 : Int32) (p1 : Int32) (p2 : Int32) (p3 : Int32) (l5 : Int32) (s0 : Int32) (σ : zzS) : Option (Int32 × zzS) :=
  (if s0 = 0 then (f_X12_rests_51 p0 p1 p2 p3 σ) else (zzbd (f_X12_wins p0 l5 p3 σ) (fun r2 σ3 => zzbd (f_X12_wins p0 p2 p3 σ3) (fun r4 σ5 => (if r4 < r2 then (some ((0 : Int32), σ5)) else (f_X12_rests_51 p0 p1 p2 p3 σ5))))))
def f_X12_rests_19  (p0 : Int32) (p1 : Int32) (p2 : Int32) (p3 : Int32) (l5 : Int32) (σ : zzS) : Option (Int32 × zzS) :=
  f_X12_rests_24 p0 p1 p2 p3 l5 (1 : Int32) σ
def f_X12_rests (p0 : Int32) (p1 : Int32) (p2 : Int32) (p3 : Int32) (σ : zzS) : Option (Int32 × zzS) :=
  zzlt ((1 : Int32) - p2) (fun x1 => (if x1 = 0 then (f_X12_rests_19 p0 p1 p2 p3 x1 σ) else (zzbd (f_X12_mayTurn p0 p1 σ) (fun r3 σ4 => (if r3 = 0 then (f_X12_rests_24 p0 p1 p2 p3 x1 (0 : Int32) σ4) else (f_X12_rests_19 p0 p1 p2 p3 x1 σ4))))))
def f_X12_game_108 (k18 : Int32 → zzS → Option (Int32 × zzS)) (p0 : Int32) (p1 : Int32) (l3 : Int32) (σ : zzS) : Option (Int32 × zzS) :=
  zzlt (l3 + (1 : Int32)) (fun x1 => k18 x1 σ)
def f_X12_game_66 (k18 : Int32 → zzS → Option (Int32 × zzS)) (p0 : Int32) (p1 : Int32) (l3 : Int32) (l4 : Int32) (l5 : Int32) (s0 : Int32) (σ : zzS) : Option (Int32 × zzS) :=
  (if s0 = 0 then (f_X12_game_108 k18 p0 p1 l3 σ) else (zzbd (f_X12_rests p0 p1 l4 l5 σ) (fun r2 σ3 => (if r2 = 0 then (f_X12_game_108 k18 p0 p1 l3 σ3) else (zzbd (f_X12_rests p1 p0 l5 l4 σ3) (fun r5 σ6 => (if r5 = 0 then (f_X12_game_108 k18 p0 p1 l3 σ6) else (some ((((10 : Int32) * l4) + l5), σ6)))))))))
def f_X12_game_61 (k18 : Int32 → zzS → Option (Int32 × zzS)) (p0 : Int32) (p1 : Int32) (l3 : Int32) (l4 : Int32) (l5 : Int32) (σ : zzS) : Option (Int32 × zzS) :=
  f_X12_game_66 k18 p0 p1 l3 l4 l5 (1 : Int32) σ
def f_X12_game_65 (k18 : Int32 → zzS → Option (Int32 × zzS)) (p0 : Int32) (p1 : Int32) (l3 : Int32) (l4 : Int32) (l5 : Int32) (σ : zzS) : Option (Int32 × zzS) :=
  f_X12_game_66 k18 p0 p1 l3 l4 l5 (0 : Int32) σ
def f_X12_game_47 (k18 : Int32 → zzS → Option (Int32 × zzS)) (p0 : Int32) (p1 : Int32) (l3 : Int32) (l4 : Int32) (l5 : Int32) (σ : zzS) : Option (Int32 × zzS) :=
  (if l5 = 0 then (f_X12_game_61 k18 p0 p1 l3 l4 l5 σ) else (zzbd (f_X12_mayTurn p1 p0 σ) (fun r2 σ3 => (if r2 = 0 then (f_X12_game_65 k18 p0 p1 l3 l4 l5 σ3) else (f_X12_game_61 k18 p0 p1 l3 l4 l5 σ3)))))
def f_X12_game_18b  (k18 : Int32 → zzS → Option (Int32 × zzS)) (p0 : Int32) (p1 : Int32) (l3 : Int32) (σ : zzS) : Option (Int32 × zzS) :=
  (if l3 < (4 : Int32) then (zzlt (l3 / (2 : Int32)) (fun x2 => zzlt (l3 - l3 / (2 : Int32) * (2 : Int32)) (fun x3 => (if x2 = 0 then (f_X12_game_47 k18 p0 p1 l3 x2 x3 σ) else (zzbd (f_X12_mayTurn p0 p1 σ) (fun r5 σ6 => (if r5 = 0 then (f_X12_game_65 k18 p0 p1 l3 x2 x3 σ6) else (f_X12_game_47 k18 p0 p1 l3 x2 x3 σ6)))))))) else (some ((-4 : Int32), σ)))
def f_X12_game_18  (p0 : Int32) (p1 : Int32) : Nat → Int32 → zzS → Option (Int32 × zzS)
  | 0 => fun _ _ => none
  | n + 1 => f_X12_game_18b (f_X12_game_18 p0 p1 n) p0 p1
def f_X12_game (p0 : Int32) (p1 : Int32) (σ : zzS) : Option (Int32 × zzS) :=
  zzlt (zzsi σ 36 13 (0 : Int32)) (fun σ1 => zzbd (f_X12_areTwo p0 p1 σ1) (fun r2 σ3 => (if r2 = 0 then (some ((-1 : Int32), σ3)) else (f_X12_game_18 p0 p1 200 (0 : Int32) σ3))))
def f_X12_skipped (p0 : Int32) (σ : zzS) : Option (Int64 × zzS) :=
  zzgd (zzin p0 (zzlen 44)) ((if (zza σ 44 (Int32.toNatClampNeg p0)) = 0 then (some ((-128 : Int64), σ)) else (zzgd (zzin p0 (zzlen 44)) ((if (zza σ 44 (Int32.toNatClampNeg p0)) = (1 : Int32) then (some ((-32768 : Int64), σ)) else (some ((-2147483648 : Int64), σ)))))))
def f_X12_wrongBlushes_17  (p0 : Int32) (p1 : Int32) (s0 : Int32) (σ : zzS) : Option (Int32 × zzS) :=
  (if s0 = 0 then (zzgd (zzin p1 (zzlen 45)) ((if (zzi σ 36 0) < (zza σ 45 (Int32.toNatClampNeg p1)) then (some ((-13 : Int32), σ)) else (some (s0, σ))))) else (some (s0, σ)))
def f_X12_wrongBlushes (p0 : Int32) (p1 : Int32) (σ : zzS) : Option (Int32 × zzS) :=
  zzbd (f_X12_isOne p0 σ) (fun r1 σ2 => (if r1 = 0 then (f_X12_wrongBlushes_17 p0 p1 (-1 : Int32) σ2) else (zzbd (f_X12_wrongRow p1 σ2) (fun r4 σ5 => f_X12_wrongBlushes_17 p0 p1 r4 σ5))))
def f_X12_levelsUpTo_81 (k6 : Int32 → Int32 → zzS → Option (Int32 × zzS)) (k19 : Int32 → Int32 → Int32 → Int32 → zzS → Option (Int32 × zzS)) (p0 : Int32) (p1 : Int32) (p2 : Int32) (l4 : Int32) (l5 : Int32) (l7 : Int32) (s0 : Int32) (σ : zzS) : Option (Int32 × zzS) :=
  zzlt (l7 + (1 : Int32)) (fun x1 => k19 l4 l5 s0 x1 σ)
def f_X12_levelsUpTo_76 (k6 : Int32 → Int32 → zzS → Option (Int32 × zzS)) (k19 : Int32 → Int32 → Int32 → Int32 → zzS → Option (Int32 × zzS)) (p0 : Int32) (p1 : Int32) (p2 : Int32) (l4 : Int32) (l5 : Int32) (l7 : Int32) (σ : zzS) : Option (Int32 × zzS) :=
  f_X12_levelsUpTo_81 k6 k19 p0 p1 p2 l4 l5 l7 (1 : Int32) σ
def f_X12_levelsUpTo_80 (k6 : Int32 → Int32 → zzS → Option (Int32 × zzS)) (k19 : Int32 → Int32 → Int32 → Int32 → zzS → Option (Int32 × zzS)) (p0 : Int32) (p1 : Int32) (p2 : Int32) (l4 : Int32) (l5 : Int32) (l7 : Int32) (σ : zzS) : Option (Int32 × zzS) :=
  f_X12_levelsUpTo_81 k6 k19 p0 p1 p2 l4 l5 l7 (0 : Int32) σ
def f_X12_levelsUpTo_104 (k6 : Int32 → Int32 → zzS → Option (Int32 × zzS)) (p0 : Int32) (p1 : Int32) (p2 : Int32) (l5 : Int32) (s0 : Int32) (s1 : Int32) (σ : zzS) : Option (Int32 × zzS) :=
  zzlt (s1 ||| s0) (fun x1 => zzlt (l5 + (1 : Int32)) (fun x2 => k6 x1 x2 σ))
def f_X12_levelsUpTo_19b (k6 : Int32 → Int32 → zzS → Option (Int32 × zzS)) (k19 : Int32 → Int32 → Int32 → Int32 → zzS → Option (Int32 × zzS)) (p0 : Int32) (p1 : Int32) (p2 : Int32) (l4 : Int32) (l5 : Int32) (l6 : Int32) (l7 : Int32) (σ : zzS) : Option (Int32 × zzS) :=
  (if l7 < p2 then (zzgd (zzin (((100 : Int32) * p1) + l7) 800) (zzlt (zzl σ 53 (Int32.toNatClampNeg (((100 : Int32) * p1) + l7))) (fun x4 => (if l6 = 0 then (f_X12_levelsUpTo_80 k6 k19 p0 p1 p2 l4 l5 l7 σ) else (if l7 = p0 then (f_X12_levelsUpTo_76 k6 k19 p0 p1 p2 l4 l5 l7 σ) else (zzbd (f_X12_skipped p1 σ) (fun r7 σ8 => (if (lg_cmp x4 r7) = 0 then (f_X12_levelsUpTo_76 k6 k19 p0 p1 p2 l4 l5 l7 σ8) else (zzbd (f_X12_showsOf l7 l5 σ8) (fun r10 σ11 => (if (lg_cmp x4 (Int32.toInt64 r10)) = 0 then (f_X12_levelsUpTo_76 k6 k19 p0 p1 p2 l4 l5 l7 σ11) else (f_X12_levelsUpTo_80 k6 k19 p0 p1 p2 l4 l5 l7 σ11)))))))))))) else (if l6 = 0 then (f_X12_levelsUpTo_104 k6 p0 p1 p2 l5 (0 : Int32) l4 σ) else (f_X12_levelsUpTo_104 k6 p0 p1 p2 l5 ((1 : Int32) <<< (l5 &&& 31)) l4 σ)))
def f_X12_levelsUpTo_19 (k6 : Int32 → Int32 → zzS → Option (Int32 × zzS)) (p0 : Int32) (p1 : Int32) (p2 : Int32) : Nat → Int32 → Int32 → Int32 → Int32 → zzS → Option (Int32 × zzS)
  | 0 => fun _ _ _ _ _ => none
  | n + 1 => f_X12_levelsUpTo_19b k6 (f_X12_levelsUpTo_19 k6 p0 p1 p2 n) p0 p1 p2
def f_X12_levelsUpTo_6b  (k6 : Int32 → Int32 → zzS → Option (Int32 × zzS)) (p0 : Int32) (p1 : Int32) (p2 : Int32) (l4 : Int32) (l5 : Int32) (σ : zzS) : Option (Int32 × zzS) :=
  (if l5 < (10 : Int32) then (f_X12_levelsUpTo_19 k6 p0 p1 p2 200 l4 l5 (1 : Int32) (0 : Int32) σ) else (some (l4, σ)))
def f_X12_levelsUpTo_6  (p0 : Int32) (p1 : Int32) (p2 : Int32) : Nat → Int32 → Int32 → zzS → Option (Int32 × zzS)
  | 0 => fun _ _ _ => none
  | n + 1 => f_X12_levelsUpTo_6b (f_X12_levelsUpTo_6 p0 p1 p2 n) p0 p1 p2
def f_X12_levelsUpTo (p0 : Int32) (p1 : Int32) (p2 : Int32) (σ : zzS) : Option (Int32 × zzS) :=
  f_X12_levelsUpTo_6 p0 p1 p2 200 (0 : Int32) (0 : Int32) σ
def f_X12_blushes_79 (k57 : Int32 → Int32 → Int32 → zzS → Option (Int32 × zzS)) (p0 : Int32) (p1 : Int32) (p2 : Int32) (l5 : Int32) (l7 : Int32) (s0 : Int32) (σ : zzS) : Option (Int32 × zzS) :=
  zzlt (l7 + (-1 : Int32)) (fun x1 => k57 l5 s0 x1 σ)
def f_X12_blushes_57b  (k57 : Int32 → Int32 → Int32 → zzS → Option (Int32 × zzS)) (p0 : Int32) (p1 : Int32) (p2 : Int32) (l5 : Int32) (l6 : Int32) (l7 : Int32) (σ : zzS) : Option (Int32 × zzS) :=
  (if l7 < 0 then (if p2 = 0 then (zzbd (f_X12_onesOf l5 σ) (fun r3 σ4 => some (r3, σ4))) else (some (l6, σ))) else (zzbd (f_X12_hasBit l5 l7 σ) (fun r5 σ6 => (if r5 = 0 then (f_X12_blushes_79 k57 p0 p1 p2 l5 l7 l6 σ6) else (f_X12_blushes_79 k57 p0 p1 p2 l5 l7 l7 σ6)))))
def f_X12_blushes_57  (p0 : Int32) (p1 : Int32) (p2 : Int32) : Nat → Int32 → Int32 → Int32 → zzS → Option (Int32 × zzS)
  | 0 => fun _ _ _ _ => none
  | n + 1 => f_X12_blushes_57b (f_X12_blushes_57 p0 p1 p2 n) p0 p1 p2
def f_X12_blushes_25  (p0 : Int32) (p1 : Int32) (p2 : Int32) (s0 : Int32) (σ : zzS) : Option (Int32 × zzS) :=
  (if s0 < 0 then (some (s0, σ)) else (zzgd (zzin p1 (zzlen 45)) (zzbd (f_X12_levelsUpTo p0 p1 (zza σ 45 (Int32.toNatClampNeg p1)) σ) (fun r3 σ4 => f_X12_blushes_57 p0 p1 p2 200 r3 (-4 : Int32) (9 : Int32) σ4))))
def f_X12_blushes (p0 : Int32) (p1 : Int32) (p2 : Int32) (σ : zzS) : Option (Int32 × zzS) :=
  zzlt (zzsi σ 36 13 (0 : Int32)) (fun σ1 => zzbd (f_X12_in (Int32.toInt64 p2) (0 : Int64) (1 : Int64) σ1) (fun r2 σ3 => (if r2 = 0 then (f_X12_blushes_25 p0 p1 p2 (-1 : Int32) σ3) else (zzbd (f_X12_wrongBlushes p0 p1 σ3) (fun r5 σ6 => f_X12_blushes_25 p0 p1 p2 r5 σ6)))))
def f_X12_forged_21b  (k21 : Int32 → zzS → Option (Int32 × zzS)) (p0 : Int32) (p1 : Int32) (l4 : Int32) (σ : zzS) : Option (Int32 × zzS) :=
  zzgd (zzin p1 (zzlen 45)) ((if l4 < (zza σ 45 (Int32.toNatClampNeg p1)) then (zzbd (f_X12_levelsUpTo p0 p1 (l4 + (1 : Int32)) σ) (fun r3 σ4 => (if r3 = 0 then (some (l4, σ4)) else (zzlt (l4 + (1 : Int32)) (fun x6 => k21 x6 σ4))))) else (some ((-4 : Int32), σ))))
def f_X12_forged_21  (p0 : Int32) (p1 : Int32) : Nat → Int32 → zzS → Option (Int32 × zzS)
  | 0 => fun _ _ => none
  | n + 1 => f_X12_forged_21b (f_X12_forged_21 p0 p1 n) p0 p1
def f_X12_forged (p0 : Int32) (p1 : Int32) (σ : zzS) : Option (Int32 × zzS) :=
  zzlt (zzsi σ 36 13 (0 : Int32)) (fun σ1 => zzbd (f_X12_wrongBlushes p0 p1 σ1) (fun r2 σ3 => (if r2 < 0 then (some (r2, σ3)) else (f_X12_forged_21 p0 p1 200 (0 : Int32) σ3))))
def f_X12_leastTurns_2b  (k2 : Int32 → zzS → Option (Int32 × zzS)) (p0 : Int32) (l2 : Int32) (σ : zzS) : Option (Int32 × zzS) :=
  (if l2 < (zzi σ 36 0) then (zzbd (f_X12_canTurn l2 p0 σ) (fun r2 σ3 => (if r2 = 0 then (zzlt (l2 + (1 : Int32)) (fun x5 => k2 x5 σ3)) else (zzbd (f_X12_turnCards l2 p0 σ3) (fun r6 σ7 => some ((1 : Int32), σ7)))))) else (some ((0 : Int32), σ)))
def f_X12_leastTurns_2  (p0 : Int32) : Nat → Int32 → zzS → Option (Int32 × zzS)
  | 0 => fun _ _ => none
  | n + 1 => f_X12_leastTurns_2b (f_X12_leastTurns_2 p0 n) p0
def f_X12_leastTurns (p0 : Int32) (σ : zzS) : Option (Int32 × zzS) :=
  f_X12_leastTurns_2 p0 200 (0 : Int32) σ
def f_X12_judge_134 (k43 : Int32 → Int32 → Int32 → zzS → Option (Int32 × zzS)) (p0 : Int32) (p1 : Int32) (l5 : Int32) (l6 : Int32) (s0 : Int32) (σ : zzS) : Option (Int32 × zzS) :=
  zzlt (l6 + (1 : Int32)) (fun x1 => k43 s0 l5 x1 σ)
def f_X12_judge_127 (k43 : Int32 → Int32 → Int32 → zzS → Option (Int32 × zzS)) (p0 : Int32) (p1 : Int32) (l5 : Int32) (l6 : Int32) (σ : zzS) : Option (Int32 × zzS) :=
  f_X12_judge_134 k43 p0 p1 l5 l6 (-4 : Int32) σ
def f_X12_judge_132 (k43 : Int32 → Int32 → Int32 → zzS → Option (Int32 × zzS)) (p0 : Int32) (p1 : Int32) (l5 : Int32) (l6 : Int32) (σ : zzS) : Option (Int32 × zzS) :=
  f_X12_judge_134 k43 p0 p1 l5 l6 l6 σ
def f_X12_judge_82 (k43 : Int32 → Int32 → Int32 → zzS → Option (Int32 × zzS)) (p0 : Int32) (p1 : Int32) (l6 : Int32) (s0 : Int32) (σ : zzS) : Option (Int32 × zzS) :=
  zzgd (zzin (((100 : Int32) * p1) + l6) 800) (zzlt (zzl σ 53 (Int32.toNatClampNeg (((100 : Int32) * p1) + l6))) (fun x2 => zzbd (f_X12_skipped p1 σ) (fun r3 σ4 => (if (lg_cmp x2 r3) = 0 then (f_X12_judge_127 k43 p0 p1 s0 l6 σ4) else (if s0 = 0 then (f_X12_judge_132 k43 p0 p1 s0 l6 σ4) else (zzgd (zzin p0 (zzlen 39)) ((if (lg_cmp x2 (Int32.toInt64 (zza σ4 39 (Int32.toNatClampNeg p0)))) = 0 then (f_X12_judge_127 k43 p0 p1 s0 l6 σ4) else (f_X12_judge_132 k43 p0 p1 s0 l6 σ4)))))))))
def f_X12_judge_77 (k43 : Int32 → Int32 → Int32 → zzS → Option (Int32 × zzS)) (p0 : Int32) (p1 : Int32) (l6 : Int32) (σ : zzS) : Option (Int32 × zzS) :=
  f_X12_judge_82 k43 p0 p1 l6 (1 : Int32) σ
def f_X12_judge_81 (k43 : Int32 → Int32 → Int32 → zzS → Option (Int32 × zzS)) (p0 : Int32) (p1 : Int32) (l6 : Int32) (σ : zzS) : Option (Int32 × zzS) :=
  f_X12_judge_82 k43 p0 p1 l6 (0 : Int32) σ
def f_X12_judge_142  (p0 : Int32) (p1 : Int32) (l4 : Int32) (σ : zzS) : Option (Int32 × zzS) :=
  zzbd (f_X12_close σ) (fun r1 σ2 => some (l4, σ2))
def f_X12_judge_43b  (k43 : Int32 → Int32 → Int32 → zzS → Option (Int32 × zzS)) (p0 : Int32) (p1 : Int32) (l4 : Int32) (l5 : Int32) (l6 : Int32) (σ : zzS) : Option (Int32 × zzS) :=
  zzgd (zzin p1 (zzlen 45)) ((if l6 < (zza σ 45 (Int32.toNatClampNeg p1)) then (if l4 < 0 then (if l5 = 0 then (f_X12_judge_81 k43 p0 p1 l6 σ) else (if l6 = 0 then (f_X12_judge_77 k43 p0 p1 l6 σ) else (zzbd (f_X12_leastTurns p0 σ) (fun r6 σ7 => (if r6 = 0 then (f_X12_judge_81 k43 p0 p1 l6 σ7) else (f_X12_judge_77 k43 p0 p1 l6 σ7)))))) else (f_X12_judge_142 p0 p1 l4 σ)) else (f_X12_judge_142 p0 p1 l4 σ)))
def f_X12_judge_43  (p0 : Int32) (p1 : Int32) : Nat → Int32 → Int32 → Int32 → zzS → Option (Int32 × zzS)
  | 0 => fun _ _ _ _ => none
  | n + 1 => f_X12_judge_43b (f_X12_judge_43 p0 p1 n) p0 p1
def f_X12_judge_22  (p0 : Int32) (p1 : Int32) (s0 : Int32) (σ : zzS) : Option (Int32 × zzS) :=
  (if s0 < 0 then (some (s0, σ)) else (zzbd (f_X12_open σ) (fun r2 σ3 => f_X12_judge_43 p0 p1 200 (-4 : Int32) (1 : Int32) (0 : Int32) σ3)))
def f_X12_judge (p0 : Int32) (p1 : Int32) (σ : zzS) : Option (Int32 × zzS) :=
  zzlt (zzsi σ 36 13 (0 : Int32)) (fun σ1 => zzbd (f_X12_isOne p0 σ1) (fun r2 σ3 => (if r2 = 0 then (f_X12_judge_22 p0 p1 (-1 : Int32) σ3) else (zzbd (f_X12_wrongRow p1 σ3) (fun r5 σ6 => f_X12_judge_22 p0 p1 r5 σ6)))))
def f_X12_drawBelow (p0 : Int32) (σ : zzS) : Option (Int32 × zzS) :=
  zzlt (zzsi σ 36 29 (((zzi σ 36 29) * (1103515245 : Int32)) + (12345 : Int32))) (fun σ1 => zzgd (¬ p0 = 0) (some (((((zzi σ1 36 29) &&& (2147483647 : Int32)) / (65536 : Int32)) - (((zzi σ1 36 29) &&& (2147483647 : Int32)) / (65536 : Int32)) / p0 * p0), σ1)))
def f_X12_allTurned_4b  (k4 : Int32 → Int32 → zzS → Option (Int32 × zzS))  (l1 : Int32) (l2 : Int32) (σ : zzS) : Option (Int32 × zzS) :=
  (if l2 < (zzi σ 36 0) then (zzgd (zzin l2 (zzlen 39)) (zzlt (l1 + (zza σ 39 (Int32.toNatClampNeg l2))) (fun x3 => zzlt (l2 + (1 : Int32)) (fun x4 => k4 x3 x4 σ)))) else (some (l1, σ)))
def f_X12_allTurned_4   : Nat → Int32 → Int32 → zzS → Option (Int32 × zzS)
  | 0 => fun _ _ _ => none
  | n + 1 => f_X12_allTurned_4b (f_X12_allTurned_4  n)
def f_X12_allTurned  (σ : zzS) : Option (Int32 × zzS) :=
  f_X12_allTurned_4 200 (0 : Int32) (0 : Int32) σ
def f_X12_months_146 (k57 : Int32 → Int32 → Int32 → zzS → Option (Int32 × zzS)) (k66 : Int32 → Int32 → Int32 → Int32 → zzS → Option (Int32 × zzS)) (p0 : Int32) (p1 : Int32) (p2 : Int32) (l4 : Int32) (l6 : Int32) (l7 : Int32) (s0 : Int32) (s1 : Int32) (σ : zzS) : Option (Int32 × zzS) :=
  zzlt (s1 + s0) (fun x1 => zzlt (l7 + (1 : Int32)) (fun x2 => k66 l4 x1 l6 x2 σ))
def f_X12_months_134 (k57 : Int32 → Int32 → Int32 → zzS → Option (Int32 × zzS)) (k66 : Int32 → Int32 → Int32 → Int32 → zzS → Option (Int32 × zzS)) (p0 : Int32) (p1 : Int32) (p2 : Int32) (l4 : Int32) (l5 : Int32) (l6 : Int32) (l7 : Int32) (l10 : Int32) (σ : zzS) : Option (Int32 × zzS) :=
  (if l10 = 0 then (f_X12_months_146 k57 k66 p0 p1 p2 l4 l6 l7 (0 : Int32) l5 σ) else (f_X12_months_146 k57 k66 p0 p1 p2 l4 l6 l7 (1 : Int32) l5 σ))
def f_X12_months_66b (k57 : Int32 → Int32 → Int32 → zzS → Option (Int32 × zzS)) (k66 : Int32 → Int32 → Int32 → Int32 → zzS → Option (Int32 × zzS)) (p0 : Int32) (p1 : Int32) (p2 : Int32) (l4 : Int32) (l5 : Int32) (l6 : Int32) (l7 : Int32) (σ : zzS) : Option (Int32 × zzS) :=
  (if l7 < (10 : Int32) then (zzbd (f_X12_drawBelow (zzi σ 36 0) σ) (fun r8 σ9 => zzbd (f_X12_drawBelow (zzi σ9 36 0) σ9) (fun r10 σ11 => zzbd (f_X12_canTurn r8 r10 σ11) (fun r12 σ13 => (if r12 = 0 then (if r8 = r10 then (f_X12_months_134 k57 k66 p0 p1 p2 l4 l5 l6 l7 r12 σ13) else (zzbd (f_X12_grow r8 r10 σ13) (fun r16 σ17 => f_X12_months_134 k57 k66 p0 p1 p2 l4 l5 l6 l7 r12 σ17))) else (zzbd (f_X12_turnCards r8 r10 σ13) (fun r18 σ19 => f_X12_months_134 k57 k66 p0 p1 p2 l4 l5 l6 l7 r12 σ19))))))) else (zzbd (f_X12_allTurned σ) (fun r2 σ3 => zzlt (l4 + r2) (fun x4 => zzbd (f_X12_close σ3) (fun r5 σ6 => zzlt (l6 + (1 : Int32)) (fun x7 => k57 x4 l5 x7 σ6))))))
def f_X12_months_66 (k57 : Int32 → Int32 → Int32 → zzS → Option (Int32 × zzS)) (p0 : Int32) (p1 : Int32) (p2 : Int32) : Nat → Int32 → Int32 → Int32 → Int32 → zzS → Option (Int32 × zzS)
  | 0 => fun _ _ _ _ _ => none
  | n + 1 => f_X12_months_66b k57 (f_X12_months_66 k57 p0 p1 p2 n) p0 p1 p2
def f_X12_months_57b  (k57 : Int32 → Int32 → Int32 → zzS → Option (Int32 × zzS)) (p0 : Int32) (p1 : Int32) (p2 : Int32) (l4 : Int32) (l5 : Int32) (l6 : Int32) (σ : zzS) : Option (Int32 × zzS) :=
  (if l6 < p0 then (f_X12_months_66 k57 p0 p1 p2 200 l4 l5 l6 (0 : Int32) σ) else (if p2 = 0 then (some (l4, σ)) else (some (l5, σ))))
def f_X12_months_57  (p0 : Int32) (p1 : Int32) (p2 : Int32) : Nat → Int32 → Int32 → Int32 → zzS → Option (Int32 × zzS)
  | 0 => fun _ _ _ _ => none
  | n + 1 => f_X12_months_57b (f_X12_months_57 p0 p1 p2 n) p0 p1 p2
def f_X12_months (p0 : Int32) (p1 : Int32) (p2 : Int32) (σ : zzS) : Option (Int32 × zzS) :=
  zzlt (zzsi σ 36 13 (0 : Int32)) (fun σ1 => zzbd (f_X12_in (Int32.toInt64 p0) (1 : Int64) (20 : Int64) σ1) (fun r2 σ3 => (if r2 = 0 then (some ((-1 : Int32), σ3)) else (zzbd (f_X12_in (Int32.toInt64 p2) (0 : Int64) (1 : Int64) σ3) (fun r5 σ6 => (if r5 = 0 then (some ((-1 : Int32), σ6)) else (if (zzi σ6 36 0) = 0 then (some ((-3 : Int32), σ6)) else (zzlt (zzsi σ6 36 29 p1) (fun σ9 => zzbd (f_X12_open σ9) (fun r10 σ11 => f_X12_months_57 p0 p1 p2 200 (0 : Int32) (0 : Int32) (0 : Int32) σ11))))))))))
def f_X12_count_70b  (k70 : Int32 → Int32 → zzS → Option (Int32 × zzS)) (p0 : Int32) (l2 : Int32) (l3 : Int32) (σ : zzS) : Option (Int32 × zzS) :=
  (if l3 < (zzi σ 36 0) then (zzbd (f_X12_lovedBy l3 σ) (fun r2 σ3 => zzlt (l2 + r2) (fun x4 => zzlt (l3 + (1 : Int32)) (fun x5 => k70 x4 x5 σ3)))) else (some (l2, σ)))
def f_X12_count_70  (p0 : Int32) : Nat → Int32 → Int32 → zzS → Option (Int32 × zzS)
  | 0 => fun _ _ _ => none
  | n + 1 => f_X12_count_70b (f_X12_count_70 p0 n) p0
def f_X12_count_123 (k96 : Int32 → Int32 → zzS → Option (Int32 × zzS)) (p0 : Int32) (l3 : Int32) (s0 : Int32) (s1 : Int32) (σ : zzS) : Option (Int32 × zzS) :=
  zzlt (s1 ||| s0) (fun x1 => zzlt (l3 + (1 : Int32)) (fun x2 => k96 x1 x2 σ))
def f_X12_count_96b  (k96 : Int32 → Int32 → zzS → Option (Int32 × zzS)) (p0 : Int32) (l2 : Int32) (l3 : Int32) (σ : zzS) : Option (Int32 × zzS) :=
  (if l3 < (zzi σ 36 0) then (zzgd (zzin l3 (zzlen 39)) ((if (zza σ 39 (Int32.toNatClampNeg l3)) = (9 : Int32) then (f_X12_count_123 k96 p0 l3 ((1 : Int32) <<< (l3 &&& 31)) l2 σ) else (f_X12_count_123 k96 p0 l3 (0 : Int32) l2 σ)))) else (some (l2, σ)))
def f_X12_count_96  (p0 : Int32) : Nat → Int32 → Int32 → zzS → Option (Int32 × zzS)
  | 0 => fun _ _ _ => none
  | n + 1 => f_X12_count_96b (f_X12_count_96 p0 n) p0
def f_X12_count (p0 : Int32) (σ : zzS) : Option (Int32 × zzS) :=
  zzlt (zzsi σ 36 13 (0 : Int32)) (fun σ1 => (if p0 = 0 then (some ((zzi σ1 36 0), σ1)) else (if p0 = 1 then (some ((zzi σ1 36 6), σ1)) else (if p0 = 2 then (some ((zzi σ1 36 5), σ1)) else (if p0 = 3 then (zzbd (f_X12_allTurned σ1) (fun r8 σ9 => some (r8, σ9))) else (if p0 = 4 then (f_X12_count_70 p0 200 (0 : Int32) (0 : Int32) σ1) else (if p0 = 5 then (f_X12_count_96 p0 200 (0 : Int32) (0 : Int32) σ1) else (some ((-1 : Int32), σ1)))))))))
def f_X12_keep_81  (p0 : Int32) (p1 : Int32) (p2 : Int32) (p3 : Int32) (s0 : Int32) (s1 : Int32) (σ : zzS) : Option (Int32 × zzS) :=
  zzgd (zzin s1 (zzlen 42)) (zzlt (zzsa σ 42 (Int32.toNatClampNeg s1) s0) (fun σ2 => (if p1 = (1 : Int32) then (zzgd (zzin p0 (zzlen 43)) (zzlt (zzsa σ2 43 (Int32.toNatClampNeg p0) p3) (fun σ7 => some ((0 : Int32), σ7)))) else (zzgd (zzin p0 (zzlen 43)) (zzlt (zzsa σ2 43 (Int32.toNatClampNeg p0) (0 : Int32)) (fun σ5 => some ((0 : Int32), σ5)))))))
def f_X12_keep_59  (p0 : Int32) (p1 : Int32) (p2 : Int32) (p3 : Int32)  (σ : zzS) : Option (Int32 × zzS) :=
  zzgd (zzin p0 (zzlen 41)) (zzlt (zzsa σ 41 (Int32.toNatClampNeg p0) p1) (fun σ2 => (if p1 = (1 : Int32) then (f_X12_keep_81 p0 p1 p2 p3 p2 p0 σ2) else (f_X12_keep_81 p0 p1 p2 p3 (0 : Int32) p0 σ2))))
def f_X12_keep (p0 : Int32) (p1 : Int32) (p2 : Int32) (p3 : Int32) (σ : zzS) : Option (Int32 × zzS) :=
  zzlt (zzsi σ 36 13 (0 : Int32)) (fun σ1 => zzbd (f_X12_in (Int32.toInt64 p0) (0 : Int64) (7 : Int64) σ1) (fun r2 σ3 => (if r2 = 0 then (some ((-1 : Int32), σ3)) else (zzbd (f_X12_in (Int32.toInt64 p1) (0 : Int64) (1 : Int64) σ3) (fun r5 σ6 => (if r5 = 0 then (some ((-1 : Int32), σ6)) else (if p1 = (1 : Int32) then (zzbd (f_X12_in (Int32.toInt64 p2) (0 : Int64) (7 : Int64) σ6) (fun r9 σ10 => (if r9 = 0 then (some ((-1 : Int32), σ10)) else (zzbd (f_X12_in (Int32.toInt64 p3) (0 : Int64) (9 : Int64) σ10) (fun r12 σ13 => (if r12 = 0 then (some ((-1 : Int32), σ13)) else (f_X12_keep_59 p0 p1 p2 p3 σ13))))))) else (f_X12_keep_59 p0 p1 p2 p3 σ6))))))))
def f_X12_narrowed (p0 : Int32) (p1 : Int32) (σ : zzS) : Option (Int64 × zzS) :=
  (if p1 = 0 then (some ((Int32.toInt64 (Int8.toInt32 (Int32.toInt8 p0))), σ)) else (if p1 = (1 : Int32) then (some ((Int32.toInt64 (Int16.toInt32 (Int32.toInt16 p0))), σ)) else (some ((Int32.toInt64 p0), σ))))
def f_X12_row_68b  (k68 : Int32 → zzS → Option (Int32 × zzS)) (p0 : Int32) (p1 : Int32) (p2 : Int32) (l4 : Int32) (σ : zzS) : Option (Int32 × zzS) :=
  (if l4 < (100 : Int32) then (zzgd (zzin (((100 : Int32) * p0) + l4) 800) (zzlt (zzsl σ 53 (Int32.toNatClampNeg (((100 : Int32) * p0) + l4)) (0 : Int64)) (fun σ3 => zzlt (l4 + (1 : Int32)) (fun x4 => k68 x4 σ3)))) else (some ((0 : Int32), σ)))
def f_X12_row_68  (p0 : Int32) (p1 : Int32) (p2 : Int32) : Nat → Int32 → zzS → Option (Int32 × zzS)
  | 0 => fun _ _ => none
  | n + 1 => f_X12_row_68b (f_X12_row_68 p0 p1 p2 n) p0 p1 p2
def f_X12_row (p0 : Int32) (p1 : Int32) (p2 : Int32) (σ : zzS) : Option (Int32 × zzS) :=
  zzlt (zzsi σ 36 13 (0 : Int32)) (fun σ1 => zzbd (f_X12_in (Int32.toInt64 p0) (0 : Int64) (7 : Int64) σ1) (fun r2 σ3 => (if r2 = 0 then (some ((-1 : Int32), σ3)) else (zzbd (f_X12_in (Int32.toInt64 p1) (0 : Int64) (2 : Int64) σ3) (fun r5 σ6 => (if r5 = 0 then (some ((-1 : Int32), σ6)) else (if (100 : Int32) < p2 then (some ((-1 : Int32), σ6)) else (if p2 < 0 then (some ((-14 : Int32), σ6)) else (zzgd (zzin p0 (zzlen 41)) (zzlt (zzsa σ6 41 (Int32.toNatClampNeg p0) (2 : Int32)) (fun σ11 => zzgd (zzin p0 (zzlen 44)) (zzlt (zzsa σ11 44 (Int32.toNatClampNeg p0) p1) (fun σ13 => zzgd (zzin p0 (zzlen 45)) (zzlt (zzsa σ13 45 (Int32.toNatClampNeg p0) p2) (fun σ15 => f_X12_row_68 p0 p1 p2 200 (0 : Int32) σ15)))))))))))))))
def f_X12_put (p0 : Int32) (p1 : Int32) (p2 : Int32) (σ : zzS) : Option (Int32 × zzS) :=
  zzlt (zzsi σ 36 13 (0 : Int32)) (fun σ1 => zzbd (f_X12_wrongRow p0 σ1) (fun r2 σ3 => (if r2 < 0 then (some (r2, σ3)) else (zzgd (zzin p0 (zzlen 45)) (zzbd (f_X12_in (Int32.toInt64 p1) (0 : Int64) (Int32.toInt64 ((zza σ3 45 (Int32.toNatClampNeg p0)) - (1 : Int32))) σ3) (fun r6 σ7 => (if r6 = 0 then (some ((-13 : Int32), σ7)) else (zzgd (zzin p0 (zzlen 44)) (zzbd (f_X12_narrowed p2 (zza σ7 44 (Int32.toNatClampNeg p0)) σ7) (fun r10 σ11 => zzgd (zzin (((100 : Int32) * p0) + p1) 800) (zzlt (zzsl σ11 53 (Int32.toNatClampNeg (((100 : Int32) * p0) + p1)) r10) (fun σ13 => some ((0 : Int32), σ13)))))))))))))
def f_X12_element_43  (p0 : Int32) (p1 : Int32) (s0 : Int32) (σ : zzS) : Option (Int64 × zzS) :=
  zzlt (zzsi σ 36 13 s0) (fun σ1 => (if 0 < (zzi σ1 36 13) then (some ((0 : Int64), σ1)) else (zzgd (zzin (((100 : Int32) * p0) + p1) 800) (some ((zzl σ1 53 (Int32.toNatClampNeg (((100 : Int32) * p0) + p1))), σ1)))))
def f_X12_element_38  (p0 : Int32) (p1 : Int32)  (σ : zzS) : Option (Int64 × zzS) :=
  f_X12_element_43 p0 p1 (2 : Int32) σ
def f_X12_element (p0 : Int32) (p1 : Int32) (σ : zzS) : Option (Int64 × zzS) :=
  zzbd (f_X12_wrongRow p0 σ) (fun r1 σ2 => (if r1 = (-1 : Int32) then (f_X12_element_43 p0 p1 (1 : Int32) σ2) else (if r1 < 0 then (f_X12_element_38 p0 p1 σ2) else (zzgd (zzin p0 (zzlen 45)) (zzbd (f_X12_in (Int32.toInt64 p1) (0 : Int64) (Int32.toInt64 ((zza σ2 45 (Int32.toNatClampNeg p0)) - (1 : Int32))) σ2) (fun r6 σ7 => (if r6 = 0 then (f_X12_element_38 p0 p1 σ7) else (f_X12_element_43 p0 p1 (0 : Int32) σ7))))))))
def f_X12_copy_174b  (k174 : Int32 → zzS → Option (Int32 × zzS)) (p0 : Int32) (p1 : Int32) (p2 : Int32) (p3 : Int32) (p4 : Int32) (l6 : Int32) (σ : zzS) : Option (Int32 × zzS) :=
  (if l6 < p4 then (zzgd (zzin l6 100) (zzgd (zzin ((((100 : Int32) * p2) + p3) + l6) 800) (zzlt (zzsl σ 53 (Int32.toNatClampNeg ((((100 : Int32) * p2) + p3) + l6)) (zzl σ 54 (Int32.toNatClampNeg l6))) (fun σ4 => zzlt (l6 + (1 : Int32)) (fun x5 => k174 x5 σ4))))) else (some (p4, σ)))
def f_X12_copy_174  (p0 : Int32) (p1 : Int32) (p2 : Int32) (p3 : Int32) (p4 : Int32) : Nat → Int32 → zzS → Option (Int32 × zzS)
  | 0 => fun _ _ => none
  | n + 1 => f_X12_copy_174b (f_X12_copy_174 p0 p1 p2 p3 p4 n) p0 p1 p2 p3 p4
def f_X12_copy_137b  (k137 : Int32 → zzS → Option (Int32 × zzS)) (p0 : Int32) (p1 : Int32) (p2 : Int32) (p3 : Int32) (p4 : Int32) (l6 : Int32) (σ : zzS) : Option (Int32 × zzS) :=
  (if l6 < p4 then (zzgd (zzin ((((100 : Int32) * p0) + p1) + l6) 800) (zzgd (zzin l6 100) (zzlt (zzsl σ 54 (Int32.toNatClampNeg l6) (zzl σ 53 (Int32.toNatClampNeg ((((100 : Int32) * p0) + p1) + l6)))) (fun σ4 => zzlt (l6 + (1 : Int32)) (fun x5 => k137 x5 σ4))))) else (f_X12_copy_174 p0 p1 p2 p3 p4 200 (0 : Int32) σ))
def f_X12_copy_137  (p0 : Int32) (p1 : Int32) (p2 : Int32) (p3 : Int32) (p4 : Int32) : Nat → Int32 → zzS → Option (Int32 × zzS)
  | 0 => fun _ _ => none
  | n + 1 => f_X12_copy_137b (f_X12_copy_137 p0 p1 p2 p3 p4 n) p0 p1 p2 p3 p4
def f_X12_copy (p0 : Int32) (p1 : Int32) (p2 : Int32) (p3 : Int32) (p4 : Int32) (σ : zzS) : Option (Int32 × zzS) :=
  zzlt (zzsi σ 36 13 (0 : Int32)) (fun σ1 => zzbd (f_X12_in (Int32.toInt64 p0) (0 : Int64) (7 : Int64) σ1) (fun r2 σ3 => (if r2 = 0 then (some ((-1 : Int32), σ3)) else (zzbd (f_X12_in (Int32.toInt64 p2) (0 : Int64) (7 : Int64) σ3) (fun r5 σ6 => (if r5 = 0 then (some ((-1 : Int32), σ6)) else (zzgd (zzin p0 (zzlen 41)) ((if (zza σ6 41 (Int32.toNatClampNeg p0)) = 0 then (some ((-11 : Int32), σ6)) else (zzgd (zzin p2 (zzlen 41)) ((if (zza σ6 41 (Int32.toNatClampNeg p2)) = 0 then (some ((-11 : Int32), σ6)) else (zzgd (zzin p0 (zzlen 41)) ((if (zza σ6 41 (Int32.toNatClampNeg p0)) = (2 : Int32) then (zzgd (zzin p2 (zzlen 41)) ((if (zza σ6 41 (Int32.toNatClampNeg p2)) = (2 : Int32) then (zzgd (zzin p0 (zzlen 44)) (zzgd (zzin p2 (zzlen 44)) ((if (zza σ6 44 (Int32.toNatClampNeg p0)) = (zza σ6 44 (Int32.toNatClampNeg p2)) then (if p4 < 0 then (some ((-13 : Int32), σ6)) else (if p1 < 0 then (some ((-13 : Int32), σ6)) else (if p3 < 0 then (some ((-13 : Int32), σ6)) else (zzgd (zzin p0 (zzlen 45)) ((if ((zza σ6 45 (Int32.toNatClampNeg p0)) - p4) < p1 then (some ((-13 : Int32), σ6)) else (zzgd (zzin p2 (zzlen 45)) ((if ((zza σ6 45 (Int32.toNatClampNeg p2)) - p4) < p3 then (some ((-13 : Int32), σ6)) else (f_X12_copy_137 p0 p1 p2 p3 p4 200 (0 : Int32) σ6)))))))))) else (some ((-12 : Int32), σ6)))))) else (some ((-12 : Int32), σ6))))) else (some ((-12 : Int32), σ6)))))))))))))))))
def f_X12_costOf (p0 : Int32) (p1 : Int32) (σ : zzS) : Option (Int32 × zzS) :=
  (if p0 = 0 then (some ((4 : Int32), σ)) else (if p0 = 1 then (some ((3 : Int32), σ)) else (if p0 = 2 then (some (((4 : Int32) + p1), σ)) else (if p0 = 3 then (some ((1 : Int32), σ)) else (if p0 = 4 then (some ((12 : Int32), σ)) else (if p0 = 5 then (some (((3 : Int32) + p1), σ)) else (if p0 = 6 then (some (((2 : Int32) * ((4 : Int32) + p1)), σ)) else (some ((5 : Int32), σ)))))))))
def f_X12_cost (p0 : Int32) (σ : zzS) : Option (Int32 × zzS) :=
  zzlt (zzsi σ 36 13 (0 : Int32)) (fun σ1 => zzbd (f_X12_wrongKept p0 σ1) (fun r2 σ3 => (if r2 < 0 then (zzbd (f_X12_wrongKept p0 σ3) (fun r9 σ10 => some (r9, σ10))) else (zzgd (zzin p0 (zzlen 42)) (zzgd (zzin p0 (zzlen 43)) (zzbd (f_X12_costOf (zza σ3 42 (Int32.toNatClampNeg p0)) (zza σ3 43 (Int32.toNatClampNeg p0)) σ3) (fun r7 σ8 => some (r7, σ8))))))))
def f_X12_toss (p0 : Int32) (σ : zzS) : Option (Int32 × zzS) :=
  zzlt (zzsi σ 36 13 (0 : Int32)) (fun σ1 => zzbd (f_X12_wrongKept p0 σ1) (fun r2 σ3 => (if r2 < 0 then (zzbd (f_X12_wrongKept p0 σ3) (fun r15 σ16 => some (r15, σ16))) else (zzgd (zzin p0 (zzlen 42)) (zzlt (zza σ3 42 (Int32.toNatClampNeg p0)) (fun x6 => zzgd (zzin p0 (zzlen 43)) (zzlt (zza σ3 43 (Int32.toNatClampNeg p0)) (fun x8 => (if x6 = (3 : Int32) then (some ((-15 : Int32), σ3)) else (if x8 = 0 then (some ((-15 : Int32), σ3)) else (if x6 = (2 : Int32) then (some (((100 : Int32) + x8), σ3)) else (if x6 = (6 : Int32) then (zzbd (f_X12_costOf x6 x8 σ3) (fun r13 σ14 => some (((200 : Int32) + r13), σ14))) else (some (x8, σ3))))))))))))))
