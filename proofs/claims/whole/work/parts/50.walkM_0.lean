abbrev rX12_thrown : Room := { frames := 0, cells := 0, slots := 0, locals := 0 }

set_option maxHeartbeats 4000000 in
set_option maxRecDepth 100000 in
theorem w_X12_thrown_e {l : Launch} {Z : zzG} {base : Nat} {PL : Nat → Option (Nat × Int32)} {mm : zzS} {p : Program} {e : Env} {s : State} {m : MethodId} {args : Array Value} {below : List Frame} {meth : Method} {c : Code} (C : zzCx p m meth c s args cX12_thrown 1 wsX12_thrown RX12 (some .int) Z)  (σ : zzS) : zzGO p l e rX12_thrown s m args below meth c 1 (zzA base) (zzM Z base PL mm) (zzM Z base PL mm) zzRI rX12_thrown.cells rX12_thrown.slots (f_X12_thrown σ) σ 0 0 0 [(0, .ref (zzad Z 36))] [] := by
  unfold f_X12_thrown
  refine zz_aload_n C dX12_thrown_0 rfl 0 rfl ?_
  refine zz_get C zzM_obj (fun _ h9 => List.mem_cons_of_mem _ (List.mem_append_right _ (h9))) rfl 13 (by decide) (List.mem_of_getElem? (i := 1) rfl) (Or.inl rfl) rfl dX12_thrown_1 ?_
  exact zz_iret C rfl rfl (fun _ h9 => h9) (Nat.zero_le _) (Nat.zero_le _) dX12_thrown_4
set_option maxHeartbeats 4000000 in
set_option maxRecDepth 100000 in
theorem k_X12_thrown {l : Launch} {Z : zzG} {base : Nat} {PL : Nat → Option (Nat × Int32)} {mm : zzS}  (σ : zzS) : zzCT l yX12_thrown wsX12_thrown rX12_thrown (zzA base) Z (zzM Z base PL mm) (zzM Z base PL mm) zzRI [.ref (zzad Z 36)] (f_X12_thrown σ) σ :=
  zzCT_of (cc := cX12_thrown) (nL := 1) (ret := (some .int)) (by decide) rfl (Nat.le_of_ble_eq_true rfl) [(0, .ref (zzad Z 36))] rfl (fun p e s m args below meth c C => w_X12_thrown_e C σ)
abbrev rX12_in : Room := { frames := 0, cells := 0, slots := 0, locals := 0 }

set_option maxHeartbeats 4000000 in
set_option maxRecDepth 100000 in
theorem w_X12_in_e {l : Launch} {Z : zzG} {base : Nat} {PL : Nat → Option (Nat × Int32)} {mm : zzS} {p : Program} {e : Env} {s : State} {m : MethodId} {args : Array Value} {below : List Frame} {meth : Method} {c : Code} (C : zzCx p m meth c s args cX12_in 6 wsX12_in RX12 (some .boolean) Z) (p0 : Int64)  (p1 : Int64)  (p2 : Int64)  (σ : zzS) : zzGO p l e rX12_in s m args below meth c 6 (zzA base) (zzM Z base PL mm) (zzM Z base PL mm) zzRI rX12_in.cells rX12_in.slots (f_X12_in p0 p1 p2 σ) σ 0 0 0 [(0, .long p0), (2, .long p1), (4, .long p2)] [] := by
  unfold f_X12_in
  refine zz_lload_n C dX12_in_0 rfl 0 rfl ?_
  refine zz_lload_n C dX12_in_1 rfl 1 rfl ?_
  refine zz_lcmp C dX12_in_2 ?_
  refine zz_if_lt (tgt := 17) C dX12_in_3 (by decide) (fun h1 => ?_) (fun h1 => ?_)
  · refine zz_iconst (v := 0) C dX12_in_17 (by decide) ?_
    exact zz_zret C rfl (Or.inl rfl) rfl (fun _ h9 => h9) (Nat.zero_le _) (Nat.zero_le _) dX12_in_18
  · refine zz_lload_n C dX12_in_6 rfl 0 rfl ?_
    refine zz_lload C dX12_in_7 2 rfl ?_
    refine zz_lcmp C dX12_in_9 ?_
    refine zz_if_gt (tgt := 17) C dX12_in_10 (by decide) (fun h2 => ?_) (fun h2 => ?_)
    · refine zz_iconst (v := 0) C dX12_in_17 (by decide) ?_
      exact zz_zret C rfl (Or.inl rfl) rfl (fun _ h9 => h9) (Nat.zero_le _) (Nat.zero_le _) dX12_in_18
    · refine zz_iconst (v := 1) C dX12_in_13 (by decide) ?_
      refine zz_goto (tgt := 18) C dX12_in_14 (by decide) ?_
      exact zz_zret C rfl (Or.inr rfl) rfl (fun _ h9 => h9) (Nat.zero_le _) (Nat.zero_le _) dX12_in_18
set_option maxHeartbeats 4000000 in
set_option maxRecDepth 100000 in
theorem k_X12_in {l : Launch} {Z : zzG} {base : Nat} {PL : Nat → Option (Nat × Int32)} {mm : zzS} (p0 : Int64)  (p1 : Int64)  (p2 : Int64)  (σ : zzS) : zzCT l yX12_in wsX12_in rX12_in (zzA base) Z (zzM Z base PL mm) (zzM Z base PL mm) zzRI [.long p0, .long p1, .long p2] (f_X12_in p0 p1 p2 σ) σ :=
  zzCT_of (cc := cX12_in) (nL := 6) (ret := (some .boolean)) (by decide) rfl (Nat.le_of_ble_eq_true rfl) [(0, .long p0), (2, .long p1), (4, .long p2)] rfl (fun p e s m args below meth c C => w_X12_in_e C p0 p1 p2 σ)
abbrev rX12_hasBit : Room := { frames := 0, cells := 0, slots := 0, locals := 0 }

set_option maxHeartbeats 4000000 in
set_option maxRecDepth 100000 in
theorem w_X12_hasBit_e {l : Launch} {Z : zzG} {base : Nat} {PL : Nat → Option (Nat × Int32)} {mm : zzS} {p : Program} {e : Env} {s : State} {m : MethodId} {args : Array Value} {below : List Frame} {meth : Method} {c : Code} (C : zzCx p m meth c s args cX12_hasBit 2 wsX12_hasBit RX12 (some .boolean) Z) (p0 : Int32)  (p1 : Int32)  (σ : zzS) : zzGO p l e rX12_hasBit s m args below meth c 2 (zzA base) (zzM Z base PL mm) (zzM Z base PL mm) zzRI rX12_hasBit.cells rX12_hasBit.slots (f_X12_hasBit p0 p1 σ) σ 0 0 0 [(0, .int p0), (1, .int p1)] [] := by
  unfold f_X12_hasBit
  refine zz_iload_n C dX12_hasBit_0 rfl 0 rfl ?_
  refine zz_iload_n C dX12_hasBit_1 rfl 1 rfl ?_
  refine zz_ishr C dX12_hasBit_2 ?_
  refine zz_iconst (v := 1) C dX12_hasBit_3 (by decide) ?_
  refine zz_iand C dX12_hasBit_4 ?_
  refine zz_iconst (v := 1) C dX12_hasBit_5 (by decide) ?_
  refine zz_icmp_ne (tgt := 13) C dX12_hasBit_6 (by decide) (fun h1 => ?_) (fun h1 => ?_)
  · refine zz_iconst (v := 0) C dX12_hasBit_13 (by decide) ?_
    exact zz_zret C rfl (Or.inl rfl) rfl (fun _ h9 => h9) (Nat.zero_le _) (Nat.zero_le _) dX12_hasBit_14
  · refine zz_iconst (v := 1) C dX12_hasBit_9 (by decide) ?_
    refine zz_goto (tgt := 14) C dX12_hasBit_10 (by decide) ?_
    exact zz_zret C rfl (Or.inr rfl) rfl (fun _ h9 => h9) (Nat.zero_le _) (Nat.zero_le _) dX12_hasBit_14
set_option maxHeartbeats 4000000 in
set_option maxRecDepth 100000 in
theorem k_X12_hasBit {l : Launch} {Z : zzG} {base : Nat} {PL : Nat → Option (Nat × Int32)} {mm : zzS} (p0 : Int32)  (p1 : Int32)  (σ : zzS) : zzCT l yX12_hasBit wsX12_hasBit rX12_hasBit (zzA base) Z (zzM Z base PL mm) (zzM Z base PL mm) zzRI [.int p0, .int p1] (f_X12_hasBit p0 p1 σ) σ :=
  zzCT_of (cc := cX12_hasBit) (nL := 2) (ret := (some .boolean)) (by decide) rfl (Nat.le_of_ble_eq_true rfl) [(0, .int p0), (1, .int p1)] rfl (fun p e s m args below meth c C => w_X12_hasBit_e C p0 p1 σ)
abbrev rX12_onesOf : Room := { frames := 0, cells := 0, slots := 0, locals := 0 }

set_option maxHeartbeats 4000000 in
set_option maxRecDepth 100000 in
theorem w_X12_onesOf_4b {l : Launch} {Z : zzG} {base : Nat} {PL : Nat → Option (Nat × Int32)} {mm : zzS} {p : Program} {e : Env} {s : State} {m : MethodId} {args : Array Value} {below : List Frame} {meth : Method} {c : Code} (C : zzCx p m meth c s args cX12_onesOf 3 wsX12_onesOf RX12 (some .int) Z) (p0 : Int32)   (k4 : Int32 → Int32 → zzS → Option (Int32 × zzS)) (hk4 : ∀ (l1 : Int32)  (l2 : Int32)  (σ : zzS), zzGO p l e rX12_onesOf s m args below meth c 3 (zzA base) (zzM Z base PL mm) (zzM Z base PL mm) zzRI rX12_onesOf.cells rX12_onesOf.slots (k4 l1 l2 σ) σ 0 0 4 [(1, .int l1), (2, .int l2)] []) (l1 : Int32)  (l2 : Int32)  (σ : zzS) : zzGO p l e rX12_onesOf s m args below meth c 3 (zzA base) (zzM Z base PL mm) (zzM Z base PL mm) zzRI rX12_onesOf.cells rX12_onesOf.slots (f_X12_onesOf_4b k4 p0 l1 l2 σ) σ 0 0 4 [(1, .int l1), (2, .int l2)] [] := by
  unfold f_X12_onesOf_4b
  refine zz_iload_n C dX12_onesOf_4 rfl 1 rfl ?_
  refine zz_if_eq (tgt := 20) C dX12_onesOf_5 (by decide) (fun h1 => ?_) (fun h1 => ?_)
  · refine zz_iload_n C dX12_onesOf_20 rfl 0 rfl ?_
    exact zz_iret C rfl rfl (fun _ h9 => h9) (Nat.zero_le _) (Nat.zero_le _) dX12_onesOf_21
  · refine zz_iincX (d := 1) (locf := fun x2 => [(1, .int x2), (2, .int l2)]) C dX12_onesOf_8 (k := 0) rfl (by decide) (by decide) (fun _ => rfl) (fun x2 => ?_)
    refine zz_iload_n C dX12_onesOf_11 rfl 1 rfl ?_
    refine zz_iload_n C dX12_onesOf_12 rfl 1 rfl ?_
    refine zz_iconst (v := 1) C dX12_onesOf_13 (by decide) ?_
    refine zz_isub C dX12_onesOf_14 ?_
    refine zz_iand C dX12_onesOf_15 ?_
    refine zz_istoreX_n (locf := fun x3 => [(2, .int x3), (1, .int x2)]) C dX12_onesOf_16 rfl (by decide) (fun _ => rfl) (fun x3 => ?_)
    refine zz_goto (tgt := 4) C dX12_onesOf_17 (by decide) ?_
    refine zz_sub (loc' := [(1, .int x2), (2, .int x3)]) [1, 0] rfl ?_
    exact hk4 x2 x3 σ
set_option maxHeartbeats 4000000 in
set_option maxRecDepth 100000 in
theorem w_X12_onesOf_4 {l : Launch} {Z : zzG} {base : Nat} {PL : Nat → Option (Nat × Int32)} {mm : zzS} {p : Program} {e : Env} {s : State} {m : MethodId} {args : Array Value} {below : List Frame} {meth : Method} {c : Code} (C : zzCx p m meth c s args cX12_onesOf 3 wsX12_onesOf RX12 (some .int) Z) (p0 : Int32)   (n : Nat) : ∀ (l1 : Int32)  (l2 : Int32)  (σ : zzS), zzGO p l e rX12_onesOf s m args below meth c 3 (zzA base) (zzM Z base PL mm) (zzM Z base PL mm) zzRI rX12_onesOf.cells rX12_onesOf.slots (f_X12_onesOf_4 p0 n l1 l2 σ) σ 0 0 4 [(1, .int l1), (2, .int l2)] [] := by
  induction n with
  | zero => exact fun _ _ _ r9 s9 h9 => by cases h9
  | succ n ih => exact w_X12_onesOf_4b C p0 _ ih
set_option maxHeartbeats 4000000 in
set_option maxRecDepth 100000 in
theorem w_X12_onesOf_e {l : Launch} {Z : zzG} {base : Nat} {PL : Nat → Option (Nat × Int32)} {mm : zzS} {p : Program} {e : Env} {s : State} {m : MethodId} {args : Array Value} {below : List Frame} {meth : Method} {c : Code} (C : zzCx p m meth c s args cX12_onesOf 3 wsX12_onesOf RX12 (some .int) Z) (p0 : Int32)  (σ : zzS) : zzGO p l e rX12_onesOf s m args below meth c 3 (zzA base) (zzM Z base PL mm) (zzM Z base PL mm) zzRI rX12_onesOf.cells rX12_onesOf.slots (f_X12_onesOf p0 σ) σ 0 0 0 [(0, .int p0)] [] := by
  unfold f_X12_onesOf
  refine zz_iconst (v := 0) C dX12_onesOf_0 (by decide) ?_
  refine zz_istore_n (loc' := [(1, .int (0 : Int32)), (0, .int p0)]) C dX12_onesOf_1 rfl (by decide) rfl ?_
  refine zz_iload_n C dX12_onesOf_2 rfl 1 rfl ?_
  refine zz_istore_n (loc' := [(2, .int p0), (1, .int (0 : Int32)), (0, .int p0)]) C dX12_onesOf_3 rfl (by decide) rfl ?_
  refine zz_sub (loc' := [(1, .int (0 : Int32)), (2, .int p0)]) [1, 0] rfl ?_
  exact w_X12_onesOf_4 C p0 200 (0 : Int32) p0 σ
set_option maxHeartbeats 4000000 in
set_option maxRecDepth 100000 in
theorem k_X12_onesOf {l : Launch} {Z : zzG} {base : Nat} {PL : Nat → Option (Nat × Int32)} {mm : zzS} (p0 : Int32)  (σ : zzS) : zzCT l yX12_onesOf wsX12_onesOf rX12_onesOf (zzA base) Z (zzM Z base PL mm) (zzM Z base PL mm) zzRI [.int p0] (f_X12_onesOf p0 σ) σ :=
  zzCT_of (cc := cX12_onesOf) (nL := 3) (ret := (some .int)) (by decide) rfl (Nat.le_of_ble_eq_true rfl) [(0, .int p0)] rfl (fun p e s m args below meth c C => w_X12_onesOf_e C p0 σ)
abbrev rX12_lesser : Room := { frames := 0, cells := 0, slots := 0, locals := 0 }

set_option maxHeartbeats 4000000 in
set_option maxRecDepth 100000 in
theorem w_X12_lesser_e {l : Launch} {Z : zzG} {base : Nat} {PL : Nat → Option (Nat × Int32)} {mm : zzS} {p : Program} {e : Env} {s : State} {m : MethodId} {args : Array Value} {below : List Frame} {meth : Method} {c : Code} (C : zzCx p m meth c s args cX12_lesser 2 wsX12_lesser RX12 (some .int) Z) (p0 : Int32)  (p1 : Int32)  (σ : zzS) : zzGO p l e rX12_lesser s m args below meth c 2 (zzA base) (zzM Z base PL mm) (zzM Z base PL mm) zzRI rX12_lesser.cells rX12_lesser.slots (f_X12_lesser p0 p1 σ) σ 0 0 0 [(0, .int p0), (1, .int p1)] [] := by
  unfold f_X12_lesser
  refine zz_iload_n C dX12_lesser_0 rfl 0 rfl ?_
  refine zz_iload_n C dX12_lesser_1 rfl 1 rfl ?_
  refine zz_icmp_ge (tgt := 9) C dX12_lesser_2 (by decide) (fun h1 => ?_) (fun h1 => ?_)
  · refine zz_iload_n C dX12_lesser_9 rfl 1 rfl ?_
    exact zz_iret C rfl rfl (fun _ h9 => h9) (Nat.zero_le _) (Nat.zero_le _) dX12_lesser_10
  · refine zz_iload_n C dX12_lesser_5 rfl 0 rfl ?_
    refine zz_goto (tgt := 10) C dX12_lesser_6 (by decide) ?_
    exact zz_iret C rfl rfl (fun _ h9 => h9) (Nat.zero_le _) (Nat.zero_le _) dX12_lesser_10
set_option maxHeartbeats 4000000 in
set_option maxRecDepth 100000 in
theorem k_X12_lesser {l : Launch} {Z : zzG} {base : Nat} {PL : Nat → Option (Nat × Int32)} {mm : zzS} (p0 : Int32)  (p1 : Int32)  (σ : zzS) : zzCT l yX12_lesser wsX12_lesser rX12_lesser (zzA base) Z (zzM Z base PL mm) (zzM Z base PL mm) zzRI [.int p0, .int p1] (f_X12_lesser p0 p1 σ) σ :=
  zzCT_of (cc := cX12_lesser) (nL := 2) (ret := (some .int)) (by decide) rfl (Nat.le_of_ble_eq_true rfl) [(0, .int p0), (1, .int p1)] rfl (fun p e s m args below meth c C => w_X12_lesser_e C p0 p1 σ)
abbrev rX12_greater : Room := { frames := 0, cells := 0, slots := 0, locals := 0 }

set_option maxHeartbeats 4000000 in
set_option maxRecDepth 100000 in
theorem w_X12_greater_e {l : Launch} {Z : zzG} {base : Nat} {PL : Nat → Option (Nat × Int32)} {mm : zzS} {p : Program} {e : Env} {s : State} {m : MethodId} {args : Array Value} {below : List Frame} {meth : Method} {c : Code} (C : zzCx p m meth c s args cX12_greater 2 wsX12_greater RX12 (some .int) Z) (p0 : Int32)  (p1 : Int32)  (σ : zzS) : zzGO p l e rX12_greater s m args below meth c 2 (zzA base) (zzM Z base PL mm) (zzM Z base PL mm) zzRI rX12_greater.cells rX12_greater.slots (f_X12_greater p0 p1 σ) σ 0 0 0 [(0, .int p0), (1, .int p1)] [] := by
  unfold f_X12_greater
  refine zz_iload_n C dX12_greater_0 rfl 0 rfl ?_
  refine zz_iload_n C dX12_greater_1 rfl 1 rfl ?_
  refine zz_icmp_le (tgt := 9) C dX12_greater_2 (by decide) (fun h1 => ?_) (fun h1 => ?_)
  · refine zz_iload_n C dX12_greater_9 rfl 1 rfl ?_
    exact zz_iret C rfl rfl (fun _ h9 => h9) (Nat.zero_le _) (Nat.zero_le _) dX12_greater_10
  · refine zz_iload_n C dX12_greater_5 rfl 0 rfl ?_
    refine zz_goto (tgt := 10) C dX12_greater_6 (by decide) ?_
    exact zz_iret C rfl rfl (fun _ h9 => h9) (Nat.zero_le _) (Nat.zero_le _) dX12_greater_10
set_option maxHeartbeats 4000000 in
set_option maxRecDepth 100000 in
theorem k_X12_greater {l : Launch} {Z : zzG} {base : Nat} {PL : Nat → Option (Nat × Int32)} {mm : zzS} (p0 : Int32)  (p1 : Int32)  (σ : zzS) : zzCT l yX12_greater wsX12_greater rX12_greater (zzA base) Z (zzM Z base PL mm) (zzM Z base PL mm) zzRI [.int p0, .int p1] (f_X12_greater p0 p1 σ) σ :=
  zzCT_of (cc := cX12_greater) (nL := 2) (ret := (some .int)) (by decide) rfl (Nat.le_of_ble_eq_true rfl) [(0, .int p0), (1, .int p1)] rfl (fun p e s m args below meth c C => w_X12_greater_e C p0 p1 σ)
abbrev rX12_isOne : Room := { frames := 1, cells := 0, slots := 0, locals := 25 }

set_option maxHeartbeats 4000000 in
set_option maxRecDepth 100000 in
theorem w_X12_isOne_e {l : Launch} {Z : zzG} {base : Nat} {PL : Nat → Option (Nat × Int32)} {mm : zzS} {p : Program} {e : Env} {s : State} {m : MethodId} {args : Array Value} {below : List Frame} {meth : Method} {c : Code} (C : zzCx p m meth c s args cX12_isOne 2 wsX12_isOne RX12 (some .boolean) Z) (p0 : Int32)  (σ : zzS) : zzGO p l e rX12_isOne s m args below meth c 2 (zzA base) (zzM Z base PL mm) (zzM Z base PL mm) zzRI rX12_isOne.cells rX12_isOne.slots (f_X12_isOne p0 σ) σ 0 0 0 [(0, .ref (zzad Z 36)), (1, .int p0)] [] := by
  unfold f_X12_isOne
  refine zz_iload_n C dX12_isOne_0 rfl 1 rfl ?_
  refine zz_i2l C dX12_isOne_1 ?_
  refine zz_lconst (v := 0) C dX12_isOne_2 (by decide) ?_
  refine zz_aload_n C dX12_isOne_3 rfl 0 rfl ?_
  refine zz_get C zzM_obj (fun _ h9 => List.mem_cons_of_mem _ (List.mem_append_right _ (h9))) rfl 0 (by decide) (List.mem_of_getElem? (i := 1) rfl) (Or.inl rfl) rfl dX12_isOne_4 ?_
  refine zz_iconst (v := 1) C dX12_isOne_7 (by decide) ?_
  refine zz_isub C dX12_isOne_8 ?_
  refine zz_i2l C dX12_isOne_9 ?_
  refine zz_callS (As := [.long (Int32.toInt64 p0), .long (0 : Int64), .long (Int32.toInt64 ((zzi σ 36 0) - (1 : Int32)))]) (rest := []) C rfl (k_X12_in (Int32.toInt64 p0) (0 : Int64) (Int32.toInt64 ((zzi σ 36 0) - (1 : Int32))) σ) (va_cwS 3 C.1.2.2.2.2 gX12_isOne_X12_in rfl rfl rfl (by decide +kernel) ⟨Nat.le_of_ble_eq_true rfl, Nat.le_of_ble_eq_true rfl⟩) rfl (Nat.le_of_ble_eq_true rfl) ⟨Nat.zero_le _, Nat.zero_le _⟩ dX12_isOne_10 (zz_kI rfl rfl (fun r1 σ2 => ?_))
  refine zz_gd (fun h3 => ?_)
  exact zz_zret C rfl h3 rfl (fun _ h9 => h9) (Nat.zero_le _) (Nat.zero_le _) dX12_isOne_13
set_option maxHeartbeats 4000000 in
set_option maxRecDepth 100000 in
theorem k_X12_isOne {l : Launch} {Z : zzG} {base : Nat} {PL : Nat → Option (Nat × Int32)} {mm : zzS} (p0 : Int32)  (σ : zzS) : zzCT l yX12_isOne wsX12_isOne rX12_isOne (zzA base) Z (zzM Z base PL mm) (zzM Z base PL mm) zzRI [.ref (zzad Z 36), .int p0] (f_X12_isOne p0 σ) σ :=
  zzCT_of (cc := cX12_isOne) (nL := 2) (ret := (some .boolean)) (by decide) rfl (Nat.le_of_ble_eq_true rfl) [(0, .ref (zzad Z 36)), (1, .int p0)] rfl (fun p e s m args below meth c C => w_X12_isOne_e C p0 σ)
abbrev rX12_areTwo : Room := { frames := 2, cells := 0, slots := 0, locals := 46 }

set_option maxHeartbeats 4000000 in
set_option maxRecDepth 100000 in
theorem w_X12_areTwo_e {l : Launch} {Z : zzG} {base : Nat} {PL : Nat → Option (Nat × Int32)} {mm : zzS} {p : Program} {e : Env} {s : State} {m : MethodId} {args : Array Value} {below : List Frame} {meth : Method} {c : Code} (C : zzCx p m meth c s args cX12_areTwo 3 wsX12_areTwo RX12 (some .boolean) Z) (p0 : Int32)  (p1 : Int32)  (σ : zzS) : zzGO p l e rX12_areTwo s m args below meth c 3 (zzA base) (zzM Z base PL mm) (zzM Z base PL mm) zzRI rX12_areTwo.cells rX12_areTwo.slots (f_X12_areTwo p0 p1 σ) σ 0 0 0 [(0, .ref (zzad Z 36)), (1, .int p0), (2, .int p1)] [] := by
  unfold f_X12_areTwo
  refine zz_aload_n C dX12_areTwo_0 rfl 0 rfl ?_
  refine zz_iload_n C dX12_areTwo_1 rfl 1 rfl ?_
  refine zz_callV C (Cn := RX12) (b := zzad Z 36) (fun H hH => zz_recv C.2.2.2 (zzM_obj H hH) rfl) (As := [.int p0]) (rest := []) rfl (k_X12_isOne p0 σ) (cwV 1 C.1.2.2.2.2 gX12_areTwo_X12_isOne rfl rfl rfl (by decide +kernel) ⟨Nat.le_of_ble_eq_true rfl, Nat.le_of_ble_eq_true rfl⟩) rfl (Nat.le_of_ble_eq_true rfl) ⟨Nat.zero_le _, Nat.zero_le _⟩ dX12_areTwo_2 (zz_kI rfl rfl (fun r1 σ2 => ?_))
  refine zz_if_eq (tgt := 25) C dX12_areTwo_5 (by decide) (fun h3 => ?_) (fun h3 => ?_)
  · refine zz_iconst (v := 0) C dX12_areTwo_25 (by decide) ?_
    exact zz_zret C rfl (Or.inl rfl) rfl (fun _ h9 => h9) (Nat.zero_le _) (Nat.zero_le _) dX12_areTwo_26
  · refine zz_aload_n C dX12_areTwo_8 rfl 0 rfl ?_
    refine zz_iload_n C dX12_areTwo_9 rfl 2 rfl ?_
    refine zz_callV C (Cn := RX12) (b := zzad Z 36) (fun H hH => zz_recv C.2.2.2 (zzM_obj H hH) rfl) (As := [.int p1]) (rest := []) rfl (k_X12_isOne p1 σ2) (cwV 1 C.1.2.2.2.2 gX12_areTwo_X12_isOne rfl rfl rfl (by decide +kernel) ⟨Nat.le_of_ble_eq_true rfl, Nat.le_of_ble_eq_true rfl⟩) rfl (Nat.le_of_ble_eq_true rfl) ⟨Nat.zero_le _, Nat.zero_le _⟩ dX12_areTwo_10 (zz_kI rfl rfl (fun r4 σ5 => ?_))
    refine zz_if_eq (tgt := 25) C dX12_areTwo_13 (by decide) (fun h6 => ?_) (fun h6 => ?_)
    · refine zz_iconst (v := 0) C dX12_areTwo_25 (by decide) ?_
      exact zz_zret C rfl (Or.inl rfl) rfl (fun _ h9 => h9) (Nat.zero_le _) (Nat.zero_le _) dX12_areTwo_26
    · refine zz_iload_n C dX12_areTwo_16 rfl 1 rfl ?_
      refine zz_iload_n C dX12_areTwo_17 rfl 2 rfl ?_
      refine zz_icmp_eq (tgt := 25) C dX12_areTwo_18 (by decide) (fun h7 => ?_) (fun h7 => ?_)
      · refine zz_iconst (v := 0) C dX12_areTwo_25 (by decide) ?_
        exact zz_zret C rfl (Or.inl rfl) rfl (fun _ h9 => h9) (Nat.zero_le _) (Nat.zero_le _) dX12_areTwo_26
      · refine zz_iconst (v := 1) C dX12_areTwo_21 (by decide) ?_
        refine zz_goto (tgt := 26) C dX12_areTwo_22 (by decide) ?_
        exact zz_zret C rfl (Or.inr rfl) rfl (fun _ h9 => h9) (Nat.zero_le _) (Nat.zero_le _) dX12_areTwo_26
set_option maxHeartbeats 4000000 in
set_option maxRecDepth 100000 in
theorem k_X12_areTwo {l : Launch} {Z : zzG} {base : Nat} {PL : Nat → Option (Nat × Int32)} {mm : zzS} (p0 : Int32)  (p1 : Int32)  (σ : zzS) : zzCT l yX12_areTwo wsX12_areTwo rX12_areTwo (zzA base) Z (zzM Z base PL mm) (zzM Z base PL mm) zzRI [.ref (zzad Z 36), .int p0, .int p1] (f_X12_areTwo p0 p1 σ) σ :=
  zzCT_of (cc := cX12_areTwo) (nL := 3) (ret := (some .boolean)) (by decide) rfl (Nat.le_of_ble_eq_true rfl) [(0, .ref (zzad Z 36)), (1, .int p0), (2, .int p1)] rfl (fun p e s m args below meth c C => w_X12_areTwo_e C p0 p1 σ)
abbrev rX12_growsOf : Room := { frames := 0, cells := 0, slots := 0, locals := 0 }

set_option maxHeartbeats 4000000 in
set_option maxRecDepth 100000 in
theorem w_X12_growsOf_e {l : Launch} {Z : zzG} {base : Nat} {PL : Nat → Option (Nat × Int32)} {mm : zzS} {p : Program} {e : Env} {s : State} {m : MethodId} {args : Array Value} {below : List Frame} {meth : Method} {c : Code} (C : zzCx p m meth c s args cX12_growsOf 3 wsX12_growsOf RX12 (some .int) Z) (p0 : Int32)  (σ : zzS) : zzGO p l e rX12_growsOf s m args below meth c 3 (zzA base) (zzM Z base PL mm) (zzM Z base PL mm) zzRI rX12_growsOf.cells rX12_growsOf.slots (f_X12_growsOf p0 σ) σ 0 0 0 [(0, .ref (zzad Z 36)), (1, .int p0)] [] := by
  unfold f_X12_growsOf
  refine zz_aload_n C dX12_growsOf_0 rfl 0 rfl ?_
  refine zz_get C zzM_obj (fun _ h9 => List.mem_cons_of_mem _ (List.mem_append_right _ (h9))) rfl 2 (by decide) (List.mem_of_getElem? (i := 1) rfl) (Or.inl rfl) rfl dX12_growsOf_1 ?_
  refine zz_iload_n C dX12_growsOf_4 rfl 1 rfl ?_
  refine zz_gd (fun h1 => ?_)
  refine zz_iald C (zzM_arr (by decide)) h1 dX12_growsOf_5 ?_
  refine zz_istoreX_n (locf := fun x2 => [(2, .int x2), (0, .ref (zzad Z 36)), (1, .int p0)]) C dX12_growsOf_6 rfl (by decide) (fun _ => rfl) (fun x2 => ?_)
  refine zz_aload_n C dX12_growsOf_7 rfl 1 rfl ?_
  refine zz_get C zzM_obj (fun _ h9 => List.mem_cons_of_mem _ (List.mem_append_right _ (h9))) rfl 1 (by decide) (List.mem_of_getElem? (i := 2) rfl) (Or.inl rfl) rfl dX12_growsOf_8 ?_
  refine zz_iload_n C dX12_growsOf_11 rfl 2 rfl ?_
  refine zz_gd (fun h3 => ?_)
  refine zz_iald C (zzM_arr (by decide)) h3 dX12_growsOf_12 ?_
  refine zz_ite (fun h4 => ?_) (fun h4 => ?_)
  · refine zz_tblIn (off := 43) (tgt := 56) C dX12_growsOf_13 (by rw [h4]; decide) (by rw [h4]; decide) (by rw [h4]; rfl) (by decide) ?_
    refine zz_iconst (v := 1) C dX12_growsOf_56 (by decide) ?_
    exact zz_iret C rfl rfl (fun _ h9 => h9) (Nat.zero_le _) (Nat.zero_le _) dX12_growsOf_57
  · skip
    refine zz_ite (fun h5 => ?_) (fun h5 => ?_)
    · refine zz_tblIn (off := 45) (tgt := 58) C dX12_growsOf_13 (by rw [h5]; decide) (by rw [h5]; decide) (by rw [h5]; rfl) (by decide) ?_
      refine zz_iconst (v := 2) C dX12_growsOf_58 (by decide) ?_
      refine zz_iload_n C dX12_growsOf_59 rfl 0 rfl ?_
      refine zz_iconst (v := 3) C dX12_growsOf_60 (by decide) ?_
      refine zz_idiv C dX12_growsOf_61 (by decide) ?_
      refine zz_iadd C dX12_growsOf_62 ?_
      exact zz_iret C rfl rfl (fun _ h9 => h9) (Nat.zero_le _) (Nat.zero_le _) dX12_growsOf_63
    · skip
      refine zz_ite (fun h6 => ?_) (fun h6 => ?_)
      · refine zz_tblIn (off := 51) (tgt := 64) C dX12_growsOf_13 (by rw [h6]; decide) (by rw [h6]; decide) (by rw [h6]; rfl) (by decide) ?_
        refine zz_iconst (v := 0) C dX12_growsOf_64 (by decide) ?_
        exact zz_iret C rfl rfl (fun _ h9 => h9) (Nat.zero_le _) (Nat.zero_le _) dX12_growsOf_65
      · skip
        refine zz_ite (fun h7 => ?_) (fun h7 => ?_)
        · refine zz_tblIn (off := 53) (tgt := 66) C dX12_growsOf_13 (by rw [h7]; decide) (by rw [h7]; decide) (by rw [h7]; rfl) (by decide) ?_
          refine zz_iload_n C dX12_growsOf_66 rfl 0 rfl ?_
          refine zz_iconst (v := 2) C dX12_growsOf_67 (by decide) ?_
          refine zz_idiv C dX12_growsOf_68 (by decide) ?_
          exact zz_iret C rfl rfl (fun _ h9 => h9) (Nat.zero_le _) (Nat.zero_le _) dX12_growsOf_69
        · skip
          refine zz_ite (fun h8 => ?_) (fun h8 => ?_)
          · refine zz_tblIn (off := 57) (tgt := 70) C dX12_growsOf_13 (by rw [h8]; decide) (by rw [h8]; decide) (by rw [h8]; rfl) (by decide) ?_
            refine zz_iconst (v := 1) C dX12_growsOf_70 (by decide) ?_
            refine zz_iload_n C dX12_growsOf_71 rfl 0 rfl ?_
            refine zz_iconst (v := 4) C dX12_growsOf_72 (by decide) ?_
            refine zz_idiv C dX12_growsOf_73 (by decide) ?_
            refine zz_iadd C dX12_growsOf_74 ?_
            exact zz_iret C rfl rfl (fun _ h9 => h9) (Nat.zero_le _) (Nat.zero_le _) dX12_growsOf_75
          · skip
            refine zz_ite (fun h9 => ?_) (fun h9 => ?_)
            · refine zz_tblIn (off := 63) (tgt := 76) C dX12_growsOf_13 (by rw [h9]; decide) (by rw [h9]; decide) (by rw [h9]; rfl) (by decide) ?_
              refine zz_iconst (v := 2) C dX12_growsOf_76 (by decide) ?_
              refine zz_iload_n C dX12_growsOf_77 rfl 0 rfl ?_
              refine zz_iconst (v := 3) C dX12_growsOf_78 (by decide) ?_
              refine zz_idiv C dX12_growsOf_79 (by decide) ?_
              refine zz_iadd C dX12_growsOf_80 ?_
              refine zz_iconst (v := 2) C dX12_growsOf_81 (by decide) ?_
              refine zz_idiv C dX12_growsOf_82 (by decide) ?_
              exact zz_iret C rfl rfl (fun _ h9 => h9) (Nat.zero_le _) (Nat.zero_le _) dX12_growsOf_83
            · skip
              refine zz_ite (fun h10 => ?_) (fun h10 => ?_)
              · refine zz_tblIn (off := 71) (tgt := 84) C dX12_growsOf_13 (by rw [h10]; decide) (by rw [h10]; decide) (by rw [h10]; rfl) (by decide) ?_
                refine zz_iconst (v := 3) C dX12_growsOf_84 (by decide) ?_
                exact zz_iret C rfl rfl (fun _ h9 => h9) (Nat.zero_le _) (Nat.zero_le _) dX12_growsOf_85
              · skip
                refine zz_tblOut (tgt := 86) C dX12_growsOf_13 (by have := lv_neT h4 (a := 1) (by decide); have := lv_neT h5 (a := 2) (by decide); have := lv_neT h6 (a := 3) (by decide); have := lv_neT h7 (a := 4) (by decide); have := lv_neT h8 (a := 5) (by decide); have := lv_neT h9 (a := 6) (by decide); have := lv_neT h10 (a := 7) (by decide); omega) (by decide) ?_
                refine zz_iconst (v := 2) C dX12_growsOf_86 (by decide) ?_
                exact zz_iret C rfl rfl (fun _ h9 => h9) (Nat.zero_le _) (Nat.zero_le _) dX12_growsOf_87
set_option maxHeartbeats 4000000 in
set_option maxRecDepth 100000 in
theorem k_X12_growsOf {l : Launch} {Z : zzG} {base : Nat} {PL : Nat → Option (Nat × Int32)} {mm : zzS} (p0 : Int32)  (σ : zzS) : zzCT l yX12_growsOf wsX12_growsOf rX12_growsOf (zzA base) Z (zzM Z base PL mm) (zzM Z base PL mm) zzRI [.ref (zzad Z 36), .int p0] (f_X12_growsOf p0 σ) σ :=
  zzCT_of (cc := cX12_growsOf) (nL := 3) (ret := (some .int)) (by decide) rfl (Nat.le_of_ble_eq_true rfl) [(0, .ref (zzad Z 36)), (1, .int p0)] rfl (fun p e s m args below meth c C => w_X12_growsOf_e C p0 σ)
abbrev rX12_bearsOf : Room := { frames := 0, cells := 0, slots := 0, locals := 0 }

set_option maxHeartbeats 4000000 in
set_option maxRecDepth 100000 in
theorem w_X12_bearsOf_e {l : Launch} {Z : zzG} {base : Nat} {PL : Nat → Option (Nat × Int32)} {mm : zzS} {p : Program} {e : Env} {s : State} {m : MethodId} {args : Array Value} {below : List Frame} {meth : Method} {c : Code} (C : zzCx p m meth c s args cX12_bearsOf 2 wsX12_bearsOf RX12 (some .int) Z) (p0 : Int32)  (σ : zzS) : zzGO p l e rX12_bearsOf s m args below meth c 2 (zzA base) (zzM Z base PL mm) (zzM Z base PL mm) zzRI rX12_bearsOf.cells rX12_bearsOf.slots (f_X12_bearsOf p0 σ) σ 0 0 0 [(0, .ref (zzad Z 36)), (1, .int p0)] [] := by
  unfold f_X12_bearsOf
  refine zz_aload_n C dX12_bearsOf_0 rfl 0 rfl ?_
  refine zz_get C zzM_obj (fun _ h9 => List.mem_cons_of_mem _ (List.mem_append_right _ (h9))) rfl 1 (by decide) (List.mem_of_getElem? (i := 1) rfl) (Or.inl rfl) rfl dX12_bearsOf_1 ?_
  refine zz_iload_n C dX12_bearsOf_4 rfl 1 rfl ?_
  refine zz_gd (fun h1 => ?_)
  refine zz_iald C (zzM_arr (by decide)) h1 dX12_bearsOf_5 ?_
  refine zz_ite (fun h2 => ?_) (fun h2 => ?_)
  · refine zz_tblIn (off := 42) (tgt := 48) C dX12_bearsOf_6 (by rw [h2]; decide) (by rw [h2]; decide) (by rw [h2]; rfl) (by decide) ?_
    refine zz_iconst (v := 1) C dX12_bearsOf_48 (by decide) ?_
    exact zz_iret C rfl rfl (fun _ h9 => h9) (Nat.zero_le _) (Nat.zero_le _) dX12_bearsOf_49
  · skip
    refine zz_ite (fun h3 => ?_) (fun h3 => ?_)
    · refine zz_tblIn (off := 53) (tgt := 59) C dX12_bearsOf_6 (by rw [h3]; decide) (by rw [h3]; decide) (by rw [h3]; rfl) (by decide) ?_
      refine zz_iconst (v := 0) C dX12_bearsOf_59 (by decide) ?_
      exact zz_iret C rfl rfl (fun _ h9 => h9) (Nat.zero_le _) (Nat.zero_le _) dX12_bearsOf_60
    · skip
      refine zz_ite (fun h4 => ?_) (fun h4 => ?_)
      · refine zz_tblIn (off := 44) (tgt := 50) C dX12_bearsOf_6 (by rw [h4]; decide) (by rw [h4]; decide) (by rw [h4]; rfl) (by decide) ?_
        refine zz_bipush (v := 9) C dX12_bearsOf_50 (by decide) ?_
        exact zz_iret C rfl rfl (fun _ h9 => h9) (Nat.zero_le _) (Nat.zero_le _) dX12_bearsOf_52
      · skip
        refine zz_ite (fun h5 => ?_) (fun h5 => ?_)
        · refine zz_tblIn (off := 47) (tgt := 53) C dX12_bearsOf_6 (by rw [h5]; decide) (by rw [h5]; decide) (by rw [h5]; rfl) (by decide) ?_
          refine zz_iconst (v := -1) C dX12_bearsOf_53 (by decide) ?_
          exact zz_iret C rfl rfl (fun _ h9 => h9) (Nat.zero_le _) (Nat.zero_le _) dX12_bearsOf_54
        · skip
          refine zz_ite (fun h6 => ?_) (fun h6 => ?_)
          · refine zz_tblIn (off := 49) (tgt := 55) C dX12_bearsOf_6 (by rw [h6]; decide) (by rw [h6]; decide) (by rw [h6]; rfl) (by decide) ?_
            refine zz_iconst (v := 2) C dX12_bearsOf_55 (by decide) ?_
            exact zz_iret C rfl rfl (fun _ h9 => h9) (Nat.zero_le _) (Nat.zero_le _) dX12_bearsOf_56
          · skip
            refine zz_ite (fun h7 => ?_) (fun h7 => ?_)
            · refine zz_tblIn (off := 53) (tgt := 59) C dX12_bearsOf_6 (by rw [h7]; decide) (by rw [h7]; decide) (by rw [h7]; rfl) (by decide) ?_
              refine zz_iconst (v := 0) C dX12_bearsOf_59 (by decide) ?_
              exact zz_iret C rfl rfl (fun _ h9 => h9) (Nat.zero_le _) (Nat.zero_le _) dX12_bearsOf_60
            · skip
              refine zz_ite (fun h8 => ?_) (fun h8 => ?_)
              · refine zz_tblIn (off := 51) (tgt := 57) C dX12_bearsOf_6 (by rw [h8]; decide) (by rw [h8]; decide) (by rw [h8]; rfl) (by decide) ?_
                refine zz_iconst (v := 3) C dX12_bearsOf_57 (by decide) ?_
                exact zz_iret C rfl rfl (fun _ h9 => h9) (Nat.zero_le _) (Nat.zero_le _) dX12_bearsOf_58
              · skip
                refine zz_tblOut (tgt := 59) C dX12_bearsOf_6 (by have := lv_neT h2 (a := 1) (by decide); have := lv_neT h3 (a := 2) (by decide); have := lv_neT h4 (a := 3) (by decide); have := lv_neT h5 (a := 4) (by decide); have := lv_neT h6 (a := 5) (by decide); have := lv_neT h7 (a := 6) (by decide); have := lv_neT h8 (a := 7) (by decide); omega) (by decide) ?_
                refine zz_iconst (v := 0) C dX12_bearsOf_59 (by decide) ?_
                exact zz_iret C rfl rfl (fun _ h9 => h9) (Nat.zero_le _) (Nat.zero_le _) dX12_bearsOf_60
set_option maxHeartbeats 4000000 in
set_option maxRecDepth 100000 in
theorem k_X12_bearsOf {l : Launch} {Z : zzG} {base : Nat} {PL : Nat → Option (Nat × Int32)} {mm : zzS} (p0 : Int32)  (σ : zzS) : zzCT l yX12_bearsOf wsX12_bearsOf rX12_bearsOf (zzA base) Z (zzM Z base PL mm) (zzM Z base PL mm) zzRI [.ref (zzad Z 36), .int p0] (f_X12_bearsOf p0 σ) σ :=
  zzCT_of (cc := cX12_bearsOf) (nL := 2) (ret := (some .int)) (by decide) rfl (Nat.le_of_ble_eq_true rfl) [(0, .ref (zzad Z 36)), (1, .int p0)] rfl (fun p e s m args below meth c C => w_X12_bearsOf_e C p0 σ)
abbrev rX12_turnsOf : Room := { frames := 0, cells := 0, slots := 0, locals := 0 }

set_option maxHeartbeats 4000000 in
set_option maxRecDepth 100000 in
theorem w_X12_turnsOf_e {l : Launch} {Z : zzG} {base : Nat} {PL : Nat → Option (Nat × Int32)} {mm : zzS} {p : Program} {e : Env} {s : State} {m : MethodId} {args : Array Value} {below : List Frame} {meth : Method} {c : Code} (C : zzCx p m meth c s args cX12_turnsOf 2 wsX12_turnsOf RX12 (some .int) Z) (p0 : Int32)  (σ : zzS) : zzGO p l e rX12_turnsOf s m args below meth c 2 (zzA base) (zzM Z base PL mm) (zzM Z base PL mm) zzRI rX12_turnsOf.cells rX12_turnsOf.slots (f_X12_turnsOf p0 σ) σ 0 0 0 [(0, .ref (zzad Z 36)), (1, .int p0)] [] := by
  unfold f_X12_turnsOf
  refine zz_aload_n C dX12_turnsOf_0 rfl 0 rfl ?_
  refine zz_get C zzM_obj (fun _ h9 => List.mem_cons_of_mem _ (List.mem_append_right _ (h9))) rfl 1 (by decide) (List.mem_of_getElem? (i := 1) rfl) (Or.inl rfl) rfl dX12_turnsOf_1 ?_
  refine zz_iload_n C dX12_turnsOf_4 rfl 1 rfl ?_
  refine zz_gd (fun h1 => ?_)
  refine zz_iald C (zzM_arr (by decide)) h1 dX12_turnsOf_5 ?_
  refine zz_ite (fun h2 => ?_) (fun h2 => ?_)
  · refine zz_tblIn (off := 38) (tgt := 44) C dX12_turnsOf_6 (by rw [h2]; decide) (by rw [h2]; decide) (by rw [h2]; rfl) (by decide) ?_
    refine zz_iconst (v := 2) C dX12_turnsOf_44 (by decide) ?_
    exact zz_iret C rfl rfl (fun _ h9 => h9) (Nat.zero_le _) (Nat.zero_le _) dX12_turnsOf_45
  · skip
    refine zz_ite (fun h3 => ?_) (fun h3 => ?_)
    · refine zz_tblIn (off := 40) (tgt := 46) C dX12_turnsOf_6 (by rw [h3]; decide) (by rw [h3]; decide) (by rw [h3]; rfl) (by decide) ?_
      refine zz_iconst (v := 3) C dX12_turnsOf_46 (by decide) ?_
      exact zz_iret C rfl rfl (fun _ h9 => h9) (Nat.zero_le _) (Nat.zero_le _) dX12_turnsOf_47
    · skip
      refine zz_ite (fun h4 => ?_) (fun h4 => ?_)
      · refine zz_tblIn (off := 53) (tgt := 59) C dX12_turnsOf_6 (by rw [h4]; decide) (by rw [h4]; decide) (by rw [h4]; rfl) (by decide) ?_
        refine zz_iconst (v := 1) C dX12_turnsOf_59 (by decide) ?_
        exact zz_iret C rfl rfl (fun _ h9 => h9) (Nat.zero_le _) (Nat.zero_le _) dX12_turnsOf_60
      · skip
        refine zz_ite (fun h5 => ?_) (fun h5 => ?_)
        · refine zz_tblIn (off := 53) (tgt := 59) C dX12_turnsOf_6 (by rw [h5]; decide) (by rw [h5]; decide) (by rw [h5]; rfl) (by decide) ?_
          refine zz_iconst (v := 1) C dX12_turnsOf_59 (by decide) ?_
          exact zz_iret C rfl rfl (fun _ h9 => h9) (Nat.zero_le _) (Nat.zero_le _) dX12_turnsOf_60
        · skip
          refine zz_ite (fun h6 => ?_) (fun h6 => ?_)
          · refine zz_tblIn (off := 42) (tgt := 48) C dX12_turnsOf_6 (by rw [h6]; decide) (by rw [h6]; decide) (by rw [h6]; rfl) (by decide) ?_
            refine zz_iconst (v := 2) C dX12_turnsOf_48 (by decide) ?_
            refine zz_aload_n C dX12_turnsOf_49 rfl 0 rfl ?_
            refine zz_get C zzM_obj (fun _ h9 => List.mem_cons_of_mem _ (List.mem_append_right _ (h9))) rfl 2 (by decide) (List.mem_of_getElem? (i := 2) rfl) (Or.inl rfl) rfl dX12_turnsOf_50 ?_
            refine zz_iload_n C dX12_turnsOf_53 rfl 1 rfl ?_
            refine zz_gd (fun h8 => ?_)
            refine zz_iald C (zzM_arr (by decide)) h8 dX12_turnsOf_54 ?_
            refine zz_iconst (v := 3) C dX12_turnsOf_55 (by decide) ?_
            refine zz_idiv C dX12_turnsOf_56 (by decide) ?_
            refine zz_iadd C dX12_turnsOf_57 ?_
            exact zz_iret C rfl rfl (fun _ h9 => h9) (Nat.zero_le _) (Nat.zero_le _) dX12_turnsOf_58
          · skip
            refine zz_ite (fun h7 => ?_) (fun h7 => ?_)
            · refine zz_tblIn (off := 40) (tgt := 46) C dX12_turnsOf_6 (by rw [h7]; decide) (by rw [h7]; decide) (by rw [h7]; rfl) (by decide) ?_
              refine zz_iconst (v := 3) C dX12_turnsOf_46 (by decide) ?_
              exact zz_iret C rfl rfl (fun _ h9 => h9) (Nat.zero_le _) (Nat.zero_le _) dX12_turnsOf_47
            · skip
              refine zz_tblOut (tgt := 59) C dX12_turnsOf_6 (by have := lv_neT h2 (a := 2) (by decide); have := lv_neT h3 (a := 3) (by decide); have := lv_neT h4 (a := 4) (by decide); have := lv_neT h5 (a := 5) (by decide); have := lv_neT h6 (a := 6) (by decide); have := lv_neT h7 (a := 7) (by decide); omega) (by decide) ?_
              refine zz_iconst (v := 1) C dX12_turnsOf_59 (by decide) ?_
              exact zz_iret C rfl rfl (fun _ h9 => h9) (Nat.zero_le _) (Nat.zero_le _) dX12_turnsOf_60
set_option maxHeartbeats 4000000 in
set_option maxRecDepth 100000 in
theorem k_X12_turnsOf {l : Launch} {Z : zzG} {base : Nat} {PL : Nat → Option (Nat × Int32)} {mm : zzS} (p0 : Int32)  (σ : zzS) : zzCT l yX12_turnsOf wsX12_turnsOf rX12_turnsOf (zzA base) Z (zzM Z base PL mm) (zzM Z base PL mm) zzRI [.ref (zzad Z 36), .int p0] (f_X12_turnsOf p0 σ) σ :=
  zzCT_of (cc := cX12_turnsOf) (nL := 2) (ret := (some .int)) (by decide) rfl (Nat.le_of_ble_eq_true rfl) [(0, .ref (zzad Z 36)), (1, .int p0)] rfl (fun p e s m args below meth c C => w_X12_turnsOf_e C p0 σ)
abbrev rX12_showsOf : Room := { frames := 0, cells := 0, slots := 0, locals := 0 }

set_option maxHeartbeats 4000000 in
set_option maxRecDepth 100000 in
theorem w_X12_showsOf_e {l : Launch} {Z : zzG} {base : Nat} {PL : Nat → Option (Nat × Int32)} {mm : zzS} {p : Program} {e : Env} {s : State} {m : MethodId} {args : Array Value} {below : List Frame} {meth : Method} {c : Code} (C : zzCx p m meth c s args cX12_showsOf 3 wsX12_showsOf RX12 (some .int) Z) (p0 : Int32)  (p1 : Int32)  (σ : zzS) : zzGO p l e rX12_showsOf s m args below meth c 3 (zzA base) (zzM Z base PL mm) (zzM Z base PL mm) zzRI rX12_showsOf.cells rX12_showsOf.slots (f_X12_showsOf p0 p1 σ) σ 0 0 0 [(0, .ref (zzad Z 36)), (1, .int p0), (2, .int p1)] [] := by
  unfold f_X12_showsOf
  refine zz_aload_n C dX12_showsOf_0 rfl 0 rfl ?_
  refine zz_get C zzM_obj (fun _ h9 => List.mem_cons_of_mem _ (List.mem_append_right _ (h9))) rfl 1 (by decide) (List.mem_of_getElem? (i := 1) rfl) (Or.inl rfl) rfl dX12_showsOf_1 ?_
  refine zz_iload_n C dX12_showsOf_4 rfl 1 rfl ?_
  refine zz_gd (fun h1 => ?_)
  refine zz_iald C (zzM_arr (by decide)) h1 dX12_showsOf_5 ?_
  refine zz_iconst (v := 2) C dX12_showsOf_6 (by decide) ?_
  refine zz_icmp_ne (tgt := 14) C dX12_showsOf_7 (by decide) (fun h2 => ?_) (fun h2 => ?_)
  · refine zz_aload_n C dX12_showsOf_14 rfl 0 rfl ?_
    refine zz_get C zzM_obj (fun _ h9 => List.mem_cons_of_mem _ (List.mem_append_right _ (h9))) rfl 1 (by decide) (List.mem_of_getElem? (i := 1) rfl) (Or.inl rfl) rfl dX12_showsOf_15 ?_
    refine zz_iload_n C dX12_showsOf_18 rfl 1 rfl ?_
    refine zz_gd (fun h3 => ?_)
    refine zz_iald C (zzM_arr (by decide)) h3 dX12_showsOf_19 ?_
    refine zz_bipush (v := 6) C dX12_showsOf_20 (by decide) ?_
    refine zz_icmp_ne (tgt := 31) C dX12_showsOf_22 (by decide) (fun h4 => ?_) (fun h4 => ?_)
    · refine zz_iconst (v := 0) C dX12_showsOf_31 (by decide) ?_
      exact zz_iret C rfl rfl (fun _ h9 => h9) (Nat.zero_le _) (Nat.zero_le _) dX12_showsOf_32
    · refine zz_iload_n C dX12_showsOf_25 rfl 2 rfl ?_
      refine zz_iconst (v := 2) C dX12_showsOf_26 (by decide) ?_
      refine zz_idiv C dX12_showsOf_27 (by decide) ?_
      refine zz_goto (tgt := 32) C dX12_showsOf_28 (by decide) ?_
      exact zz_iret C rfl rfl (fun _ h9 => h9) (Nat.zero_le _) (Nat.zero_le _) dX12_showsOf_32
  · refine zz_iload_n C dX12_showsOf_10 rfl 2 rfl ?_
    refine zz_goto (tgt := 32) C dX12_showsOf_11 (by decide) ?_
    exact zz_iret C rfl rfl (fun _ h9 => h9) (Nat.zero_le _) (Nat.zero_le _) dX12_showsOf_32
set_option maxHeartbeats 4000000 in
set_option maxRecDepth 100000 in
theorem k_X12_showsOf {l : Launch} {Z : zzG} {base : Nat} {PL : Nat → Option (Nat × Int32)} {mm : zzS} (p0 : Int32)  (p1 : Int32)  (σ : zzS) : zzCT l yX12_showsOf wsX12_showsOf rX12_showsOf (zzA base) Z (zzM Z base PL mm) (zzM Z base PL mm) zzRI [.ref (zzad Z 36), .int p0, .int p1] (f_X12_showsOf p0 p1 σ) σ :=
  zzCT_of (cc := cX12_showsOf) (nL := 3) (ret := (some .int)) (by decide) rfl (Nat.le_of_ble_eq_true rfl) [(0, .ref (zzad Z 36)), (1, .int p0), (2, .int p1)] rfl (fun p e s m args below meth c C => w_X12_showsOf_e C p0 p1 σ)
abbrev rX12_mayTurn : Room := { frames := 1, cells := 0, slots := 0, locals := 21 }

set_option maxHeartbeats 4000000 in
set_option maxRecDepth 100000 in
theorem w_X12_mayTurn_e {l : Launch} {Z : zzG} {base : Nat} {PL : Nat → Option (Nat × Int32)} {mm : zzS} {p : Program} {e : Env} {s : State} {m : MethodId} {args : Array Value} {below : List Frame} {meth : Method} {c : Code} (C : zzCx p m meth c s args cX12_mayTurn 3 wsX12_mayTurn RX12 (some .boolean) Z) (p0 : Int32)  (p1 : Int32)  (σ : zzS) : zzGO p l e rX12_mayTurn s m args below meth c 3 (zzA base) (zzM Z base PL mm) (zzM Z base PL mm) zzRI rX12_mayTurn.cells rX12_mayTurn.slots (f_X12_mayTurn p0 p1 σ) σ 0 0 0 [(0, .ref (zzad Z 36)), (1, .int p0), (2, .int p1)] [] := by
  unfold f_X12_mayTurn
  refine zz_iload_n C dX12_mayTurn_0 rfl 1 rfl ?_
  refine zz_iload_n C dX12_mayTurn_1 rfl 2 rfl ?_
  refine zz_icmp_eq (tgt := 33) C dX12_mayTurn_2 (by decide) (fun h1 => ?_) (fun h1 => ?_)
  · refine zz_iconst (v := 0) C dX12_mayTurn_33 (by decide) ?_
    exact zz_zret C rfl (Or.inl rfl) rfl (fun _ h9 => h9) (Nat.zero_le _) (Nat.zero_le _) dX12_mayTurn_34
  · refine zz_aload_n C dX12_mayTurn_5 rfl 0 rfl ?_
    refine zz_get C zzM_obj (fun _ h9 => List.mem_cons_of_mem _ (List.mem_append_right _ (h9))) rfl 4 (by decide) (List.mem_of_getElem? (i := 1) rfl) (Or.inl rfl) rfl dX12_mayTurn_6 ?_
    refine zz_bipush (v := 7) C dX12_mayTurn_9 (by decide) ?_
    refine zz_iload_n C dX12_mayTurn_11 rfl 1 rfl ?_
    refine zz_imul C dX12_mayTurn_12 ?_
    refine zz_iload_n C dX12_mayTurn_13 rfl 2 rfl ?_
    refine zz_iadd C dX12_mayTurn_14 ?_
    refine zz_gd (fun h2 => ?_)
    refine zz_iald C (zzM_arr (by decide)) h2 dX12_mayTurn_15 ?_
    refine zz_aload_n C dX12_mayTurn_16 rfl 0 rfl ?_
    refine zz_iload_n C dX12_mayTurn_17 rfl 1 rfl ?_
    refine zz_callV C (Cn := RX12) (b := zzad Z 36) (fun H hH => zz_recv C.2.2.2 (zzM_obj H hH) rfl) (As := [.int p0]) (rest := [.int (zza σ 40 (Int32.toNatClampNeg (((7 : Int32) * p0) + p1)))]) rfl (k_X12_bearsOf p0 σ) (cwV 1 C.1.2.2.2.2 gX12_mayTurn_X12_bearsOf rfl rfl rfl (by decide +kernel) ⟨Nat.le_of_ble_eq_true rfl, Nat.le_of_ble_eq_true rfl⟩) rfl (Nat.le_of_ble_eq_true rfl) ⟨Nat.zero_le _, Nat.zero_le _⟩ dX12_mayTurn_18 (zz_kI rfl rfl (fun r3 σ4 => ?_))
    refine zz_aload_n C dX12_mayTurn_21 rfl 0 rfl ?_
    refine zz_get C zzM_obj (fun _ h9 => List.mem_cons_of_mem _ (List.mem_append_right _ (h9))) rfl 5 (by decide) (List.mem_of_getElem? (i := 2) rfl) (Or.inl rfl) rfl dX12_mayTurn_22 ?_
    refine zz_iadd C dX12_mayTurn_25 ?_
    refine zz_icmp_gt (tgt := 33) C dX12_mayTurn_26 (by decide) (fun h5 => ?_) (fun h5 => ?_)
    · refine zz_iconst (v := 0) C dX12_mayTurn_33 (by decide) ?_
      exact zz_zret C rfl (Or.inl rfl) rfl (fun _ h9 => h9) (Nat.zero_le _) (Nat.zero_le _) dX12_mayTurn_34
    · refine zz_iconst (v := 1) C dX12_mayTurn_29 (by decide) ?_
      refine zz_goto (tgt := 34) C dX12_mayTurn_30 (by decide) ?_
      exact zz_zret C rfl (Or.inr rfl) rfl (fun _ h9 => h9) (Nat.zero_le _) (Nat.zero_le _) dX12_mayTurn_34
set_option maxHeartbeats 4000000 in
set_option maxRecDepth 100000 in
theorem k_X12_mayTurn {l : Launch} {Z : zzG} {base : Nat} {PL : Nat → Option (Nat × Int32)} {mm : zzS} (p0 : Int32)  (p1 : Int32)  (σ : zzS) : zzCT l yX12_mayTurn wsX12_mayTurn rX12_mayTurn (zzA base) Z (zzM Z base PL mm) (zzM Z base PL mm) zzRI [.ref (zzad Z 36), .int p0, .int p1] (f_X12_mayTurn p0 p1 σ) σ :=
  zzCT_of (cc := cX12_mayTurn) (nL := 3) (ret := (some .boolean)) (by decide) rfl (Nat.le_of_ble_eq_true rfl) [(0, .ref (zzad Z 36)), (1, .int p0), (2, .int p1)] rfl (fun p e s m args below meth c C => w_X12_mayTurn_e C p0 p1 σ)
abbrev rX12_grow : Room := { frames := 1, cells := 0, slots := 0, locals := 22 }

set_option maxHeartbeats 4000000 in
set_option maxRecDepth 100000 in
theorem w_X12_grow_e {l : Launch} {Z : zzG} {base : Nat} {PL : Nat → Option (Nat × Int32)} {mm : zzS} {p : Program} {e : Env} {s : State} {m : MethodId} {args : Array Value} {below : List Frame} {meth : Method} {c : Code} (C : zzCx p m meth c s args cX12_grow 3 wsX12_grow RX12 none Z) (p0 : Int32)  (p1 : Int32)  (σ : zzS) : zzGO p l e rX12_grow s m args below meth c 3 (zzA base) (zzM Z base PL mm) (zzM Z base PL mm) zzRV rX12_grow.cells rX12_grow.slots (f_X12_grow p0 p1 σ) σ 0 0 0 [(0, .ref (zzad Z 36)), (1, .int p0), (2, .int p1)] [] := by
  unfold f_X12_grow
  refine zz_aload_n C dX12_grow_0 rfl 0 rfl ?_
  refine zz_get C zzM_obj (fun _ h9 => List.mem_cons_of_mem _ (List.mem_append_right _ (h9))) rfl 4 (by decide) (List.mem_of_getElem? (i := 1) rfl) (Or.inl rfl) rfl dX12_grow_1 ?_
  refine zz_bipush (v := 7) C dX12_grow_4 (by decide) ?_
  refine zz_iload_n C dX12_grow_6 rfl 1 rfl ?_
  refine zz_imul C dX12_grow_7 ?_
  refine zz_iload_n C dX12_grow_8 rfl 2 rfl ?_
  refine zz_iadd C dX12_grow_9 ?_
  refine zz_bipush (v := 9) C dX12_grow_10 (by decide) ?_
  refine zz_aload_n C dX12_grow_12 rfl 0 rfl ?_
  refine zz_get C zzM_obj (fun _ h9 => List.mem_cons_of_mem _ (List.mem_append_right _ (h9))) rfl 4 (by decide) (List.mem_of_getElem? (i := 1) rfl) (Or.inl rfl) rfl dX12_grow_13 ?_
  refine zz_bipush (v := 7) C dX12_grow_16 (by decide) ?_
  refine zz_iload_n C dX12_grow_18 rfl 1 rfl ?_
  refine zz_imul C dX12_grow_19 ?_
  refine zz_iload_n C dX12_grow_20 rfl 2 rfl ?_
  refine zz_iadd C dX12_grow_21 ?_
  refine zz_gd (fun h1 => ?_)
  refine zz_iald C (zzM_arr (by decide)) h1 dX12_grow_22 ?_
  refine zz_aload_n C dX12_grow_23 rfl 0 rfl ?_
  refine zz_iload_n C dX12_grow_24 rfl 1 rfl ?_
  refine zz_callV C (Cn := RX12) (b := zzad Z 36) (fun H hH => zz_recv C.2.2.2 (zzM_obj H hH) rfl) (As := [.int p0]) (rest := [.int (zza σ 40 (Int32.toNatClampNeg (((7 : Int32) * p0) + p1))), .int (9 : Int32), .int (((7 : Int32) * p0) + p1), .ref (zzad Z 40)]) rfl (k_X12_growsOf p0 σ) (cwV 1 C.1.2.2.2.2 gX12_grow_X12_growsOf rfl rfl rfl (by decide +kernel) ⟨Nat.le_of_ble_eq_true rfl, Nat.le_of_ble_eq_true rfl⟩) rfl (Nat.le_of_ble_eq_true rfl) ⟨Nat.zero_le _, Nat.zero_le _⟩ dX12_grow_25 (zz_kI rfl rfl (fun r2 σ3 => ?_))
  refine zz_iadd C dX12_grow_28 ?_
  refine zz_callS (As := [.int (9 : Int32), .int ((zza σ 40 (Int32.toNatClampNeg (((7 : Int32) * p0) + p1))) + r2)]) (rest := [.int (((7 : Int32) * p0) + p1), .ref (zzad Z 40)]) C rfl (k_X12_lesser (9 : Int32) ((zza σ 40 (Int32.toNatClampNeg (((7 : Int32) * p0) + p1))) + r2) σ3) (va_cwS 2 C.1.2.2.2.2 gX12_grow_X12_lesser rfl rfl rfl (by decide +kernel) ⟨Nat.le_of_ble_eq_true rfl, Nat.le_of_ble_eq_true rfl⟩) rfl (Nat.le_of_ble_eq_true rfl) ⟨Nat.zero_le _, Nat.zero_le _⟩ dX12_grow_29 (zz_kI rfl rfl (fun r4 σ5 => ?_))
  refine zz_gd (fun h6 => ?_)
  refine zz_iast C (zzM_arr (by decide)) h6 (zzM_uarr (by decide)) (zzA_M (zzMarr_lt (by decide))) dX12_grow_32 ?_
  refine zz_ltS (fun σ7 => ?_)
  exact zz_vret C rfl rfl (fun _ h9 => h9) (Nat.zero_le _) (Nat.zero_le _) dX12_grow_33
set_option maxHeartbeats 4000000 in
set_option maxRecDepth 100000 in
theorem k_X12_grow {l : Launch} {Z : zzG} {base : Nat} {PL : Nat → Option (Nat × Int32)} {mm : zzS} (p0 : Int32)  (p1 : Int32)  (σ : zzS) : zzCT l yX12_grow wsX12_grow rX12_grow (zzA base) Z (zzM Z base PL mm) (zzM Z base PL mm) zzRV [.ref (zzad Z 36), .int p0, .int p1] (f_X12_grow p0 p1 σ) σ :=
  zzCT_of (cc := cX12_grow) (nL := 3) (ret := none) (by decide) rfl (Nat.le_of_ble_eq_true rfl) [(0, .ref (zzad Z 36)), (1, .int p0), (2, .int p1)] rfl (fun p e s m args below meth c C => w_X12_grow_e C p0 p1 σ)
abbrev rX12_turnCards : Room := { frames := 2, cells := 0, slots := 0, locals := 44 }

set_option maxHeartbeats 4000000 in
set_option maxRecDepth 100000 in
theorem w_X12_turnCards_e {l : Launch} {Z : zzG} {base : Nat} {PL : Nat → Option (Nat × Int32)} {mm : zzS} {p : Program} {e : Env} {s : State} {m : MethodId} {args : Array Value} {below : List Frame} {meth : Method} {c : Code} (C : zzCx p m meth c s args cX12_turnCards 3 wsX12_turnCards RX12 none Z) (p0 : Int32)  (p1 : Int32)  (σ : zzS) : zzGO p l e rX12_turnCards s m args below meth c 3 (zzA base) (zzM Z base PL mm) (zzM Z base PL mm) zzRV rX12_turnCards.cells rX12_turnCards.slots (f_X12_turnCards p0 p1 σ) σ 0 0 0 [(0, .ref (zzad Z 36)), (1, .int p0), (2, .int p1)] [] := by
  unfold f_X12_turnCards
  refine zz_aload_n C dX12_turnCards_0 rfl 0 rfl ?_
  refine zz_get C zzM_obj (fun _ h9 => List.mem_cons_of_mem _ (List.mem_append_right _ (h9))) rfl 3 (by decide) (List.mem_of_getElem? (i := 1) rfl) (Or.inl rfl) rfl dX12_turnCards_1 ?_
  refine zz_iload_n C dX12_turnCards_4 rfl 2 rfl ?_
  refine zz_bipush (v := 9) C dX12_turnCards_5 (by decide) ?_
  refine zz_aload_n C dX12_turnCards_7 rfl 0 rfl ?_
  refine zz_get C zzM_obj (fun _ h9 => List.mem_cons_of_mem _ (List.mem_append_right _ (h9))) rfl 3 (by decide) (List.mem_of_getElem? (i := 1) rfl) (Or.inl rfl) rfl dX12_turnCards_8 ?_
  refine zz_iload_n C dX12_turnCards_11 rfl 2 rfl ?_
  refine zz_gd (fun h1 => ?_)
  refine zz_iald C (zzM_arr (by decide)) h1 dX12_turnCards_12 ?_
  refine zz_aload_n C dX12_turnCards_13 rfl 0 rfl ?_
  refine zz_iload_n C dX12_turnCards_14 rfl 1 rfl ?_
  refine zz_callV C (Cn := RX12) (b := zzad Z 36) (fun H hH => zz_recv C.2.2.2 (zzM_obj H hH) rfl) (As := [.int p0]) (rest := [.int (zza σ 39 (Int32.toNatClampNeg p1)), .int (9 : Int32), .int p1, .ref (zzad Z 39)]) rfl (k_X12_turnsOf p0 σ) (cwV 1 C.1.2.2.2.2 gX12_turnCards_X12_turnsOf rfl rfl rfl (by decide +kernel) ⟨Nat.le_of_ble_eq_true rfl, Nat.le_of_ble_eq_true rfl⟩) rfl (Nat.le_of_ble_eq_true rfl) ⟨Nat.zero_le _, Nat.zero_le _⟩ dX12_turnCards_15 (zz_kI rfl rfl (fun r2 σ3 => ?_))
  refine zz_iadd C dX12_turnCards_18 ?_
  refine zz_callS (As := [.int (9 : Int32), .int ((zza σ 39 (Int32.toNatClampNeg p1)) + r2)]) (rest := [.int p1, .ref (zzad Z 39)]) C rfl (k_X12_lesser (9 : Int32) ((zza σ 39 (Int32.toNatClampNeg p1)) + r2) σ3) (va_cwS 2 C.1.2.2.2.2 gX12_turnCards_X12_lesser rfl rfl rfl (by decide +kernel) ⟨Nat.le_of_ble_eq_true rfl, Nat.le_of_ble_eq_true rfl⟩) rfl (Nat.le_of_ble_eq_true rfl) ⟨Nat.zero_le _, Nat.zero_le _⟩ dX12_turnCards_19 (zz_kI rfl rfl (fun r4 σ5 => ?_))
  refine zz_gd (fun h6 => ?_)
  refine zz_iast C (zzM_arr (by decide)) h6 (zzM_uarr (by decide)) (zzA_M (zzMarr_lt (by decide))) dX12_turnCards_22 ?_
  refine zz_ltS (fun σ7 => ?_)
  refine zz_aload_n C dX12_turnCards_23 rfl 0 rfl ?_
  refine zz_iload_n C dX12_turnCards_24 rfl 1 rfl ?_
  refine zz_iload_n C dX12_turnCards_25 rfl 2 rfl ?_
  refine zz_callV C (Cn := RX12) (b := zzad Z 36) (fun H hH => zz_recv C.2.2.2 (zzM_obj H hH) rfl) (As := [.int p0, .int p1]) (rest := []) rfl (k_X12_grow p0 p1 σ7) (cwV 2 C.1.2.2.2.2 gX12_turnCards_X12_grow rfl rfl rfl (by decide +kernel) ⟨Nat.le_of_ble_eq_true rfl, Nat.le_of_ble_eq_true rfl⟩) rfl (Nat.le_of_ble_eq_true rfl) ⟨Nat.zero_le _, Nat.zero_le _⟩ dX12_turnCards_26 (zz_kV rfl rfl (fun r8 σ9 => ?_))
  exact zz_vret C rfl rfl (fun _ h9 => h9) (Nat.zero_le _) (Nat.zero_le _) dX12_turnCards_29
set_option maxHeartbeats 4000000 in
set_option maxRecDepth 100000 in
theorem k_X12_turnCards {l : Launch} {Z : zzG} {base : Nat} {PL : Nat → Option (Nat × Int32)} {mm : zzS} (p0 : Int32)  (p1 : Int32)  (σ : zzS) : zzCT l yX12_turnCards wsX12_turnCards rX12_turnCards (zzA base) Z (zzM Z base PL mm) (zzM Z base PL mm) zzRV [.ref (zzad Z 36), .int p0, .int p1] (f_X12_turnCards p0 p1 σ) σ :=
  zzCT_of (cc := cX12_turnCards) (nL := 3) (ret := none) (by decide) rfl (Nat.le_of_ble_eq_true rfl) [(0, .ref (zzad Z 36)), (1, .int p0), (2, .int p1)] rfl (fun p e s m args below meth c C => w_X12_turnCards_e C p0 p1 σ)
abbrev rX12_canTurn : Room := { frames := 2, cells := 0, slots := 0, locals := 43 }

set_option maxHeartbeats 4000000 in
set_option maxRecDepth 100000 in
theorem w_X12_canTurn_e {l : Launch} {Z : zzG} {base : Nat} {PL : Nat → Option (Nat × Int32)} {mm : zzS} {p : Program} {e : Env} {s : State} {m : MethodId} {args : Array Value} {below : List Frame} {meth : Method} {c : Code} (C : zzCx p m meth c s args cX12_canTurn 3 wsX12_canTurn RX12 (some .boolean) Z) (p0 : Int32)  (p1 : Int32)  (σ : zzS) : zzGO p l e rX12_canTurn s m args below meth c 3 (zzA base) (zzM Z base PL mm) (zzM Z base PL mm) zzRI rX12_canTurn.cells rX12_canTurn.slots (f_X12_canTurn p0 p1 σ) σ 0 0 0 [(0, .ref (zzad Z 36)), (1, .int p0), (2, .int p1)] [] := by
  unfold f_X12_canTurn
  refine zz_aload_n C dX12_canTurn_0 rfl 0 rfl ?_
  refine zz_iload_n C dX12_canTurn_1 rfl 1 rfl ?_
  refine zz_iload_n C dX12_canTurn_2 rfl 2 rfl ?_
  refine zz_callV C (Cn := RX12) (b := zzad Z 36) (fun H hH => zz_recv C.2.2.2 (zzM_obj H hH) rfl) (As := [.int p0, .int p1]) (rest := []) rfl (k_X12_mayTurn p0 p1 σ) (cwV 2 C.1.2.2.2.2 gX12_canTurn_X12_mayTurn rfl rfl rfl (by decide +kernel) ⟨Nat.le_of_ble_eq_true rfl, Nat.le_of_ble_eq_true rfl⟩) rfl (Nat.le_of_ble_eq_true rfl) ⟨Nat.zero_le _, Nat.zero_le _⟩ dX12_canTurn_3 (zz_kI rfl rfl (fun r1 σ2 => ?_))
  refine zz_if_eq (tgt := 24) C dX12_canTurn_6 (by decide) (fun h3 => ?_) (fun h3 => ?_)
  · refine zz_iconst (v := 0) C dX12_canTurn_24 (by decide) ?_
    exact zz_zret C rfl (Or.inl rfl) rfl (fun _ h9 => h9) (Nat.zero_le _) (Nat.zero_le _) dX12_canTurn_25
  · refine zz_aload_n C dX12_canTurn_9 rfl 0 rfl ?_
    refine zz_get C zzM_obj (fun _ h9 => List.mem_cons_of_mem _ (List.mem_append_right _ (h9))) rfl 3 (by decide) (List.mem_of_getElem? (i := 1) rfl) (Or.inl rfl) rfl dX12_canTurn_10 ?_
    refine zz_iload_n C dX12_canTurn_13 rfl 2 rfl ?_
    refine zz_gd (fun h4 => ?_)
    refine zz_iald C (zzM_arr (by decide)) h4 dX12_canTurn_14 ?_
    refine zz_bipush (v := 9) C dX12_canTurn_15 (by decide) ?_
    refine zz_icmp_ge (tgt := 24) C dX12_canTurn_17 (by decide) (fun h5 => ?_) (fun h5 => ?_)
    · refine zz_iconst (v := 0) C dX12_canTurn_24 (by decide) ?_
      exact zz_zret C rfl (Or.inl rfl) rfl (fun _ h9 => h9) (Nat.zero_le _) (Nat.zero_le _) dX12_canTurn_25
    · refine zz_iconst (v := 1) C dX12_canTurn_20 (by decide) ?_
      refine zz_goto (tgt := 25) C dX12_canTurn_21 (by decide) ?_
      exact zz_zret C rfl (Or.inr rfl) rfl (fun _ h9 => h9) (Nat.zero_le _) (Nat.zero_le _) dX12_canTurn_25
set_option maxHeartbeats 4000000 in
set_option maxRecDepth 100000 in
theorem k_X12_canTurn {l : Launch} {Z : zzG} {base : Nat} {PL : Nat → Option (Nat × Int32)} {mm : zzS} (p0 : Int32)  (p1 : Int32)  (σ : zzS) : zzCT l yX12_canTurn wsX12_canTurn rX12_canTurn (zzA base) Z (zzM Z base PL mm) (zzM Z base PL mm) zzRI [.ref (zzad Z 36), .int p0, .int p1] (f_X12_canTurn p0 p1 σ) σ :=
  zzCT_of (cc := cX12_canTurn) (nL := 3) (ret := (some .boolean)) (by decide) rfl (Nat.le_of_ble_eq_true rfl) [(0, .ref (zzad Z 36)), (1, .int p0), (2, .int p1)] rfl (fun p e s m args below meth c C => w_X12_canTurn_e C p0 p1 σ)
abbrev rX12_here : Room := { frames := 0, cells := 0, slots := 0, locals := 0 }

set_option maxHeartbeats 4000000 in
set_option maxRecDepth 100000 in
theorem w_X12_here_e {l : Launch} {Z : zzG} {base : Nat} {PL : Nat → Option (Nat × Int32)} {mm : zzS} {p : Program} {e : Env} {s : State} {m : MethodId} {args : Array Value} {below : List Frame} {meth : Method} {c : Code} (C : zzCx p m meth c s args cX12_here 1 wsX12_here RX12 (some .int) Z)  (σ : zzS) : zzGO p l e rX12_here s m args below meth c 1 (zzA base) (zzM Z base PL mm) (zzM Z base PL mm) zzRI rX12_here.cells rX12_here.slots (f_X12_here σ) σ 0 0 0 [(0, .ref (zzad Z 36))] [] := by
  unfold f_X12_here
  refine zz_aload_n C dX12_here_0 rfl 0 rfl ?_
  refine zz_get C zzM_obj (fun _ h9 => List.mem_cons_of_mem _ (List.mem_append_right _ (h9))) rfl 15 (by decide) (List.mem_of_getElem? (i := 1) rfl) (Or.inl rfl) rfl dX12_here_1 ?_
  refine zz_aload_n C dX12_here_4 rfl 0 rfl ?_
  refine zz_get C zzM_obj (fun _ h9 => List.mem_cons_of_mem _ (List.mem_append_right _ (h9))) rfl 11 (by decide) (List.mem_of_getElem? (i := 2) rfl) (Or.inl rfl) rfl dX12_here_5 ?_
  refine zz_aload_n C dX12_here_8 rfl 0 rfl ?_
  refine zz_get C zzM_obj (fun _ h9 => List.mem_cons_of_mem _ (List.mem_append_right _ (h9))) rfl 14 (by decide) (List.mem_of_getElem? (i := 3) rfl) (Or.inl rfl) rfl dX12_here_9 ?_
  refine zz_gd (fun h1 => ?_)
  refine zz_iald C (zzM_arr (by decide)) h1 dX12_here_12 ?_
  refine zz_icmp_ge (tgt := 37) C dX12_here_13 (by decide) (fun h2 => ?_) (fun h2 => ?_)
  · refine zz_sipush (v := -999) C dX12_here_37 (by decide) ?_
    exact zz_iret C rfl rfl (fun _ h9 => h9) (Nat.zero_le _) (Nat.zero_le _) dX12_here_40
  · refine zz_aload_n C dX12_here_16 rfl 0 rfl ?_
    refine zz_get C zzM_obj (fun _ h9 => List.mem_cons_of_mem _ (List.mem_append_right _ (h9))) rfl 12 (by decide) (List.mem_of_getElem? (i := 4) rfl) (Or.inl rfl) rfl dX12_here_17 ?_
    refine zz_bipush (v := 100) C dX12_here_20 (by decide) ?_
    refine zz_aload_n C dX12_here_22 rfl 0 rfl ?_
    refine zz_get C zzM_obj (fun _ h9 => List.mem_cons_of_mem _ (List.mem_append_right _ (h9))) rfl 14 (by decide) (List.mem_of_getElem? (i := 3) rfl) (Or.inl rfl) rfl dX12_here_23 ?_
    refine zz_imul C dX12_here_26 ?_
    refine zz_aload_n C dX12_here_27 rfl 0 rfl ?_
    refine zz_get C zzM_obj (fun _ h9 => List.mem_cons_of_mem _ (List.mem_append_right _ (h9))) rfl 15 (by decide) (List.mem_of_getElem? (i := 1) rfl) (Or.inl rfl) rfl dX12_here_28 ?_
    refine zz_iadd C dX12_here_31 ?_
    refine zz_gd (fun h3 => ?_)
    refine zz_lald C zzM_rows h3 dX12_here_32 ?_
    refine zz_l2i C dX12_here_33 ?_
    refine zz_goto (tgt := 40) C dX12_here_34 (by decide) ?_
    exact zz_iret C rfl rfl (fun _ h9 => h9) (Nat.zero_le _) (Nat.zero_le _) dX12_here_40
set_option maxHeartbeats 4000000 in
set_option maxRecDepth 100000 in
theorem k_X12_here {l : Launch} {Z : zzG} {base : Nat} {PL : Nat → Option (Nat × Int32)} {mm : zzS}  (σ : zzS) : zzCT l yX12_here wsX12_here rX12_here (zzA base) Z (zzM Z base PL mm) (zzM Z base PL mm) zzRI [.ref (zzad Z 36)] (f_X12_here σ) σ :=
  zzCT_of (cc := cX12_here) (nL := 1) (ret := (some .int)) (by decide) rfl (Nat.le_of_ble_eq_true rfl) [(0, .ref (zzad Z 36))] rfl (fun p e s m args below meth c C => w_X12_here_e C σ)
abbrev rX12_readDigit : Room := { frames := 1, cells := 0, slots := 0, locals := 25 }

set_option maxHeartbeats 4000000 in
set_option maxRecDepth 100000 in
theorem w_X12_readDigit_69 {l : Launch} {Z : zzG} {base : Nat} {PL : Nat → Option (Nat × Int32)} {mm : zzS} {p : Program} {e : Env} {s : State} {m : MethodId} {args : Array Value} {below : List Frame} {meth : Method} {c : Code} (C : zzCx p m meth c s args cX12_readDigit 2 wsX12_readDigit RX12 (some .int) Z)   (l1 : Int32)  (s0 : Int32)  (s1 : Int32)  (σ : zzS) : zzGO p l e rX12_readDigit s m args below meth c 2 (zzA base) (zzM Z base PL mm) (zzM Z base PL mm) zzRI rX12_readDigit.cells rX12_readDigit.slots (f_X12_readDigit_69 l1 s0 s1 σ) σ 0 0 69 [(1, .int l1)] [.int s0, .int s1, .ref (zzad Z 36)] := by
  unfold f_X12_readDigit_69
  refine zz_iadd C dX12_readDigit_69 ?_
  refine zz_put (ty := .int) C zzM_obj (fun _ h9 => List.mem_cons_of_mem _ (List.mem_append_right _ (h9))) rfl 15 (by decide) (List.mem_of_getElem? (i := 4) rfl) rfl tyX12_ok nmX12 rfl (by decide +kernel) rfl rfl (Nat.le_of_ble_eq_true rfl) (zzM_uobj (by decide)) (zzA_M (by decide)) dX12_readDigit_70 ?_
  refine zz_ltS (fun σ1 => ?_)
  refine zz_iload_n C dX12_readDigit_73 rfl 0 rfl ?_
  exact zz_iret C rfl rfl (fun _ h9 => h9) (Nat.zero_le _) (Nat.zero_le _) dX12_readDigit_74
set_option maxHeartbeats 4000000 in
set_option maxRecDepth 100000 in
theorem w_X12_readDigit_51 {l : Launch} {Z : zzG} {base : Nat} {PL : Nat → Option (Nat × Int32)} {mm : zzS} {p : Program} {e : Env} {s : State} {m : MethodId} {args : Array Value} {below : List Frame} {meth : Method} {c : Code} (C : zzCx p m meth c s args cX12_readDigit 2 wsX12_readDigit RX12 (some .int) Z)   (s0 : Int32)  (σ : zzS) : zzGO p l e rX12_readDigit s m args below meth c 2 (zzA base) (zzM Z base PL mm) (zzM Z base PL mm) zzRI rX12_readDigit.cells rX12_readDigit.slots (f_X12_readDigit_51 s0 σ) σ 0 0 51 [(0, .ref (zzad Z 36))] [.int s0] := by
  unfold f_X12_readDigit_51
  refine zz_istore_n (loc' := [(1, .int s0), (0, .ref (zzad Z 36))]) C dX12_readDigit_51 rfl (by decide) rfl ?_
  refine zz_aload_n C dX12_readDigit_52 rfl 1 rfl ?_
  refine zz_dup C dX12_readDigit_53 rfl ?_
  refine zz_get C zzM_obj (fun _ h9 => List.mem_cons_of_mem _ (List.mem_append_right _ (h9))) rfl 15 (by decide) (List.mem_of_getElem? (i := 4) rfl) (Or.inl rfl) rfl dX12_readDigit_54 ?_
  refine zz_aload_n C dX12_readDigit_57 rfl 1 rfl ?_
  refine zz_get C zzM_obj (fun _ h9 => List.mem_cons_of_mem _ (List.mem_append_right _ (h9))) rfl 16 (by decide) (List.mem_of_getElem? (i := 1) rfl) (Or.inl rfl) rfl dX12_readDigit_58 ?_
  refine zz_if_eq (tgt := 68) C dX12_readDigit_61 (by decide) (fun h1 => ?_) (fun h1 => ?_)
  · refine zz_iconst (v := 1) C dX12_readDigit_68 (by decide) ?_
    refine zz_sub (loc' := [(1, .int s0)]) [0] rfl ?_
    exact w_X12_readDigit_69 C s0 (1 : Int32) (zzi σ 36 15) σ
  · refine zz_iconst (v := 0) C dX12_readDigit_64 (by decide) ?_
    refine zz_goto (tgt := 69) C dX12_readDigit_65 (by decide) ?_
    refine zz_sub (loc' := [(1, .int s0)]) [0] rfl ?_
    exact w_X12_readDigit_69 C s0 (0 : Int32) (zzi σ 36 15) σ
set_option maxHeartbeats 4000000 in
set_option maxRecDepth 100000 in
theorem w_X12_readDigit_30 {l : Launch} {Z : zzG} {base : Nat} {PL : Nat → Option (Nat × Int32)} {mm : zzS} {p : Program} {e : Env} {s : State} {m : MethodId} {args : Array Value} {below : List Frame} {meth : Method} {c : Code} (C : zzCx p m meth c s args cX12_readDigit 2 wsX12_readDigit RX12 (some .int) Z)   (s0 : Int32)  (σ : zzS) : zzGO p l e rX12_readDigit s m args below meth c 2 (zzA base) (zzM Z base PL mm) (zzM Z base PL mm) zzRI rX12_readDigit.cells rX12_readDigit.slots (f_X12_readDigit_30 s0 σ) σ 0 0 30 [(0, .ref (zzad Z 36))] [.int s0, .ref (zzad Z 36)] := by
  unfold f_X12_readDigit_30
  refine zz_gd (fun h2 => ?_)
  refine zz_put (ty := .boolean) C zzM_obj (fun _ h9 => List.mem_cons_of_mem _ (List.mem_append_right _ (h9))) rfl 16 (by decide) (List.mem_of_getElem? (i := 1) rfl) rfl tyX12_ok nmX12 rfl (by decide +kernel) (zznarB h2) (zzfitB h2) (Nat.le_of_ble_eq_true rfl) (zzM_uobj (by decide)) (zzA_M (by decide)) dX12_readDigit_30 ?_
  refine zz_ltS (fun σ1 => ?_)
  refine zz_aload_n C dX12_readDigit_33 rfl 0 rfl ?_
  refine zz_get C zzM_obj (fun _ h9 => List.mem_cons_of_mem _ (List.mem_append_right _ (h9))) rfl 16 (by decide) (List.mem_of_getElem? (i := 1) rfl) (Or.inl rfl) rfl dX12_readDigit_34 ?_
  refine zz_if_eq (tgt := 44) C dX12_readDigit_37 (by decide) (fun h3 => ?_) (fun h3 => ?_)
  · refine zz_aload_n C dX12_readDigit_44 rfl 0 rfl ?_
    refine zz_callV C (Cn := RX12) (b := zzad Z 36) (fun H hH => zz_recv C.2.2.2 (zzM_obj H hH) rfl) (As := []) (rest := []) rfl (k_X12_here σ1) (cwV 0 C.1.2.2.2.2 gX12_readDigit_X12_here rfl rfl rfl (by decide +kernel) ⟨Nat.le_of_ble_eq_true rfl, Nat.le_of_ble_eq_true rfl⟩) rfl (Nat.le_of_ble_eq_true rfl) ⟨Nat.zero_le _, Nat.zero_le _⟩ dX12_readDigit_45 (zz_kI rfl rfl (fun r4 σ5 => ?_))
    refine zz_bipush (v := 48) C dX12_readDigit_48 (by decide) ?_
    refine zz_isub C dX12_readDigit_50 ?_
    refine zz_sub (loc' := [(0, .ref (zzad Z 36))]) [0] rfl ?_
    exact w_X12_readDigit_51 C (r4 - (48 : Int32)) σ5
  · refine zz_iconst (v := 0) C dX12_readDigit_40 (by decide) ?_
    refine zz_goto (tgt := 51) C dX12_readDigit_41 (by decide) ?_
    refine zz_sub (loc' := [(0, .ref (zzad Z 36))]) [0] rfl ?_
    exact w_X12_readDigit_51 C (0 : Int32) σ1
set_option maxHeartbeats 4000000 in
set_option maxRecDepth 100000 in
theorem w_X12_readDigit_25 {l : Launch} {Z : zzG} {base : Nat} {PL : Nat → Option (Nat × Int32)} {mm : zzS} {p : Program} {e : Env} {s : State} {m : MethodId} {args : Array Value} {below : List Frame} {meth : Method} {c : Code} (C : zzCx p m meth c s args cX12_readDigit 2 wsX12_readDigit RX12 (some .int) Z)    (σ : zzS) : zzGO p l e rX12_readDigit s m args below meth c 2 (zzA base) (zzM Z base PL mm) (zzM Z base PL mm) zzRI rX12_readDigit.cells rX12_readDigit.slots (f_X12_readDigit_25 σ) σ 0 0 25 [(0, .ref (zzad Z 36))] [.ref (zzad Z 36)] := by
  unfold f_X12_readDigit_25
  refine zz_iconst (v := 1) C dX12_readDigit_25 (by decide) ?_
  refine zz_goto (tgt := 30) C dX12_readDigit_26 (by decide) ?_
  refine zz_sub (loc' := [(0, .ref (zzad Z 36))]) [0] rfl ?_
  exact w_X12_readDigit_30 C (1 : Int32) σ
set_option maxHeartbeats 4000000 in
set_option maxRecDepth 100000 in
theorem w_X12_readDigit_e {l : Launch} {Z : zzG} {base : Nat} {PL : Nat → Option (Nat × Int32)} {mm : zzS} {p : Program} {e : Env} {s : State} {m : MethodId} {args : Array Value} {below : List Frame} {meth : Method} {c : Code} (C : zzCx p m meth c s args cX12_readDigit 2 wsX12_readDigit RX12 (some .int) Z)  (σ : zzS) : zzGO p l e rX12_readDigit s m args below meth c 2 (zzA base) (zzM Z base PL mm) (zzM Z base PL mm) zzRI rX12_readDigit.cells rX12_readDigit.slots (f_X12_readDigit σ) σ 0 0 0 [(0, .ref (zzad Z 36))] [] := by
  unfold f_X12_readDigit
  refine zz_aload_n C dX12_readDigit_0 rfl 0 rfl ?_
  refine zz_aload_n C dX12_readDigit_1 rfl 0 rfl ?_
  refine zz_get C zzM_obj (fun _ h9 => List.mem_cons_of_mem _ (List.mem_append_right _ (h9))) rfl 16 (by decide) (List.mem_of_getElem? (i := 1) rfl) (Or.inl rfl) rfl dX12_readDigit_2 ?_
  refine zz_if_ne (tgt := 25) C dX12_readDigit_5 (by decide) (fun h1 => ?_) (fun h1 => ?_)
  · refine zz_sub (loc' := [(0, .ref (zzad Z 36))]) [0] rfl ?_
    exact w_X12_readDigit_25 C σ
  · refine zz_aload_n C dX12_readDigit_8 rfl 0 rfl ?_
    refine zz_callV C (Cn := RX12) (b := zzad Z 36) (fun H hH => zz_recv C.2.2.2 (zzM_obj H hH) rfl) (As := []) (rest := [.ref (zzad Z 36)]) rfl (k_X12_here σ) (cwV 0 C.1.2.2.2.2 gX12_readDigit_X12_here rfl rfl rfl (by decide +kernel) ⟨Nat.le_of_ble_eq_true rfl, Nat.le_of_ble_eq_true rfl⟩) rfl (Nat.le_of_ble_eq_true rfl) ⟨Nat.zero_le _, Nat.zero_le _⟩ dX12_readDigit_9 (zz_kI rfl rfl (fun r2 σ3 => ?_))
    refine zz_i2l C dX12_readDigit_12 ?_
    refine zz_ldc2 (v := 48) C (C.1.2.2.2.2 _ (List.mem_of_getElem? (i := 2) rfl)) dX12_readDigit_13 ?_
    refine zz_ldc2 (v := 57) C (C.1.2.2.2.2 _ (List.mem_of_getElem? (i := 3) rfl)) dX12_readDigit_16 ?_
    refine zz_callS (As := [.long (Int32.toInt64 r2), .long (48 : Int64), .long (57 : Int64)]) (rest := [.ref (zzad Z 36)]) C rfl (k_X12_in (Int32.toInt64 r2) (48 : Int64) (57 : Int64) σ3) (va_cwS 3 C.1.2.2.2.2 gX12_readDigit_X12_in rfl rfl rfl (by decide +kernel) ⟨Nat.le_of_ble_eq_true rfl, Nat.le_of_ble_eq_true rfl⟩) rfl (Nat.le_of_ble_eq_true rfl) ⟨Nat.zero_le _, Nat.zero_le _⟩ dX12_readDigit_19 (zz_kI rfl rfl (fun r4 σ5 => ?_))
    refine zz_if_ne (tgt := 29) C dX12_readDigit_22 (by decide) (fun h6 => ?_) (fun h6 => ?_)
    · refine zz_iconst (v := 0) C dX12_readDigit_29 (by decide) ?_
      refine zz_sub (loc' := [(0, .ref (zzad Z 36))]) [0] rfl ?_
      exact w_X12_readDigit_30 C (0 : Int32) σ5
    · refine zz_sub (loc' := [(0, .ref (zzad Z 36))]) [0] rfl ?_
      exact w_X12_readDigit_25 C σ5
set_option maxHeartbeats 4000000 in
set_option maxRecDepth 100000 in
theorem k_X12_readDigit {l : Launch} {Z : zzG} {base : Nat} {PL : Nat → Option (Nat × Int32)} {mm : zzS}  (σ : zzS) : zzCT l yX12_readDigit wsX12_readDigit rX12_readDigit (zzA base) Z (zzM Z base PL mm) (zzM Z base PL mm) zzRI [.ref (zzad Z 36)] (f_X12_readDigit σ) σ :=
  zzCT_of (cc := cX12_readDigit) (nL := 2) (ret := (some .int)) (by decide) rfl (Nat.le_of_ble_eq_true rfl) [(0, .ref (zzad Z 36))] rfl (fun p e s m args below meth c C => w_X12_readDigit_e C σ)
abbrev rX12_isLetter : Room := { frames := 0, cells := 0, slots := 0, locals := 0 }

set_option maxHeartbeats 4000000 in
set_option maxRecDepth 100000 in
theorem w_X12_isLetter_36 {l : Launch} {Z : zzG} {base : Nat} {PL : Nat → Option (Nat × Int32)} {mm : zzS} {p : Program} {e : Env} {s : State} {m : MethodId} {args : Array Value} {below : List Frame} {meth : Method} {c : Code} (C : zzCx p m meth c s args cX12_isLetter 1 wsX12_isLetter RX12 (some .boolean) Z) (p0 : Int32)    (σ : zzS) : zzGO p l e rX12_isLetter s m args below meth c 1 (zzA base) (zzM Z base PL mm) (zzM Z base PL mm) zzRI rX12_isLetter.cells rX12_isLetter.slots (f_X12_isLetter_36 p0 σ) σ 0 0 36 [] [] := by
  unfold f_X12_isLetter_36
  refine zz_iconst (v := 1) C dX12_isLetter_36 (by decide) ?_
  refine zz_goto (tgt := 41) C dX12_isLetter_37 (by decide) ?_
  exact zz_zret C rfl (Or.inr rfl) rfl (fun _ h9 => h9) (Nat.zero_le _) (Nat.zero_le _) dX12_isLetter_41
set_option maxHeartbeats 4000000 in
set_option maxRecDepth 100000 in
theorem w_X12_isLetter_e {l : Launch} {Z : zzG} {base : Nat} {PL : Nat → Option (Nat × Int32)} {mm : zzS} {p : Program} {e : Env} {s : State} {m : MethodId} {args : Array Value} {below : List Frame} {meth : Method} {c : Code} (C : zzCx p m meth c s args cX12_isLetter 1 wsX12_isLetter RX12 (some .boolean) Z) (p0 : Int32)  (σ : zzS) : zzGO p l e rX12_isLetter s m args below meth c 1 (zzA base) (zzM Z base PL mm) (zzM Z base PL mm) zzRI rX12_isLetter.cells rX12_isLetter.slots (f_X12_isLetter p0 σ) σ 0 0 0 [(0, .int p0)] [] := by
  unfold f_X12_isLetter
  refine zz_iload_n C dX12_isLetter_0 rfl 0 rfl ?_
  refine zz_bipush (v := 112) C dX12_isLetter_1 (by decide) ?_
  refine zz_icmp_eq (tgt := 36) C dX12_isLetter_3 (by decide) (fun h1 => ?_) (fun h1 => ?_)
  · refine zz_sub (loc' := []) [] rfl ?_
    exact w_X12_isLetter_36 C p0 σ
  · refine zz_iload_n C dX12_isLetter_6 rfl 0 rfl ?_
    refine zz_bipush (v := 102) C dX12_isLetter_7 (by decide) ?_
    refine zz_icmp_eq (tgt := 36) C dX12_isLetter_9 (by decide) (fun h2 => ?_) (fun h2 => ?_)
    · refine zz_sub (loc' := []) [] rfl ?_
      exact w_X12_isLetter_36 C p0 σ
    · refine zz_iload_n C dX12_isLetter_12 rfl 0 rfl ?_
      refine zz_bipush (v := 115) C dX12_isLetter_13 (by decide) ?_
      refine zz_icmp_eq (tgt := 36) C dX12_isLetter_15 (by decide) (fun h3 => ?_) (fun h3 => ?_)
      · refine zz_sub (loc' := []) [] rfl ?_
        exact w_X12_isLetter_36 C p0 σ
      · refine zz_iload_n C dX12_isLetter_18 rfl 0 rfl ?_
        refine zz_bipush (v := 116) C dX12_isLetter_19 (by decide) ?_
        refine zz_icmp_eq (tgt := 36) C dX12_isLetter_21 (by decide) (fun h4 => ?_) (fun h4 => ?_)
        · refine zz_sub (loc' := []) [] rfl ?_
          exact w_X12_isLetter_36 C p0 σ
        · refine zz_iload_n C dX12_isLetter_24 rfl 0 rfl ?_
          refine zz_bipush (v := 108) C dX12_isLetter_25 (by decide) ?_
          refine zz_icmp_eq (tgt := 36) C dX12_isLetter_27 (by decide) (fun h5 => ?_) (fun h5 => ?_)
          · refine zz_sub (loc' := []) [] rfl ?_
            exact w_X12_isLetter_36 C p0 σ
          · refine zz_iload_n C dX12_isLetter_30 rfl 0 rfl ?_
            refine zz_bipush (v := 100) C dX12_isLetter_31 (by decide) ?_
            refine zz_icmp_ne (tgt := 40) C dX12_isLetter_33 (by decide) (fun h6 => ?_) (fun h6 => ?_)
            · refine zz_iconst (v := 0) C dX12_isLetter_40 (by decide) ?_
              exact zz_zret C rfl (Or.inl rfl) rfl (fun _ h9 => h9) (Nat.zero_le _) (Nat.zero_le _) dX12_isLetter_41
            · refine zz_sub (loc' := []) [] rfl ?_
              exact w_X12_isLetter_36 C p0 σ
set_option maxHeartbeats 4000000 in
set_option maxRecDepth 100000 in
theorem k_X12_isLetter {l : Launch} {Z : zzG} {base : Nat} {PL : Nat → Option (Nat × Int32)} {mm : zzS} (p0 : Int32)  (σ : zzS) : zzCT l yX12_isLetter wsX12_isLetter rX12_isLetter (zzA base) Z (zzM Z base PL mm) (zzM Z base PL mm) zzRI [.int p0] (f_X12_isLetter p0 σ) σ :=
  zzCT_of (cc := cX12_isLetter) (nL := 1) (ret := (some .boolean)) (by decide) rfl (Nat.le_of_ble_eq_true rfl) [(0, .int p0)] rfl (fun p e s m args below meth c C => w_X12_isLetter_e C p0 σ)
abbrev rX12_readStatement : Room := { frames := 2, cells := 0, slots := 0, locals := 46 }

set_option maxHeartbeats 4000000 in
set_option maxRecDepth 100000 in
theorem w_X12_readStatement_172 {l : Launch} {Z : zzG} {base : Nat} {PL : Nat → Option (Nat × Int32)} {mm : zzS} {p : Program} {e : Env} {s : State} {m : MethodId} {args : Array Value} {below : List Frame} {meth : Method} {c : Code} (C : zzCx p m meth c s args cX12_readStatement 5 wsX12_readStatement RX12 none Z)   (s0 : Int32)  (s1 : Int32)  (σ : zzS) : zzGO p l e rX12_readStatement s m args below meth c 5 (zzA base) (zzM Z base PL mm) (zzM Z base PL mm) zzRV rX12_readStatement.cells rX12_readStatement.slots (f_X12_readStatement_172 s0 s1 σ) σ 0 0 172 [(0, .ref (zzad Z 36))] [.int s0, .int s1, .ref (zzad Z 36)] := by
  unfold f_X12_readStatement_172
  refine zz_iadd C dX12_readStatement_172 ?_
  refine zz_put (ty := .int) C zzM_obj (fun _ h9 => List.mem_cons_of_mem _ (List.mem_append_right _ (h9))) rfl 15 (by decide) (List.mem_of_getElem? (i := 3) rfl) rfl tyX12_ok nmX12 rfl (by decide +kernel) rfl rfl (Nat.le_of_ble_eq_true rfl) (zzM_uobj (by decide)) (zzA_M (by decide)) dX12_readStatement_173 ?_
  refine zz_ltS (fun σ1 => ?_)
  refine zz_aload_n C dX12_readStatement_176 rfl 0 rfl ?_
  refine zz_dup C dX12_readStatement_177 rfl ?_
  refine zz_get C zzM_obj (fun _ h9 => List.mem_cons_of_mem _ (List.mem_append_right _ (h9))) rfl 17 (by decide) (List.mem_of_getElem? (i := 1) rfl) (Or.inl rfl) rfl dX12_readStatement_178 ?_
  refine zz_iconst (v := 1) C dX12_readStatement_181 (by decide) ?_
  refine zz_iadd C dX12_readStatement_182 ?_
  refine zz_put (ty := .int) C zzM_obj (fun _ h9 => List.mem_cons_of_mem _ (List.mem_append_right _ (h9))) rfl 17 (by decide) (List.mem_of_getElem? (i := 1) rfl) rfl tyX12_ok nmX12 rfl (by decide +kernel) rfl rfl (Nat.le_of_ble_eq_true rfl) (zzM_uobj (by decide)) (zzA_M (by decide)) dX12_readStatement_183 ?_
  refine zz_ltS (fun σ2 => ?_)
  exact zz_vret C rfl rfl (fun _ h9 => h9) (Nat.zero_le _) (Nat.zero_le _) dX12_readStatement_186
set_option maxHeartbeats 4000000 in
set_option maxRecDepth 100000 in
theorem w_X12_readStatement_152 {l : Launch} {Z : zzG} {base : Nat} {PL : Nat → Option (Nat × Int32)} {mm : zzS} {p : Program} {e : Env} {s : State} {m : MethodId} {args : Array Value} {below : List Frame} {meth : Method} {c : Code} (C : zzCx p m meth c s args cX12_readStatement 5 wsX12_readStatement RX12 none Z)   (s0 : Int32)  (σ : zzS) : zzGO p l e rX12_readStatement s m args below meth c 5 (zzA base) (zzM Z base PL mm) (zzM Z base PL mm) zzRV rX12_readStatement.cells rX12_readStatement.slots (f_X12_readStatement_152 s0 σ) σ 0 0 152 [(0, .ref (zzad Z 36))] [.int s0, .ref (zzad Z 36)] := by
  unfold f_X12_readStatement_152
  refine zz_gd (fun h2 => ?_)
  refine zz_put (ty := .boolean) C zzM_obj (fun _ h9 => List.mem_cons_of_mem _ (List.mem_append_right _ (h9))) rfl 16 (by decide) (List.mem_of_getElem? (i := 5) rfl) rfl tyX12_ok nmX12 rfl (by decide +kernel) (zznarB h2) (zzfitB h2) (Nat.le_of_ble_eq_true rfl) (zzM_uobj (by decide)) (zzA_M (by decide)) dX12_readStatement_152 ?_
  refine zz_ltS (fun σ1 => ?_)
  refine zz_aload_n C dX12_readStatement_155 rfl 0 rfl ?_
  refine zz_dup C dX12_readStatement_156 rfl ?_
  refine zz_get C zzM_obj (fun _ h9 => List.mem_cons_of_mem _ (List.mem_append_right _ (h9))) rfl 15 (by decide) (List.mem_of_getElem? (i := 3) rfl) (Or.inl rfl) rfl dX12_readStatement_157 ?_
  refine zz_aload_n C dX12_readStatement_160 rfl 0 rfl ?_
  refine zz_get C zzM_obj (fun _ h9 => List.mem_cons_of_mem _ (List.mem_append_right _ (h9))) rfl 16 (by decide) (List.mem_of_getElem? (i := 5) rfl) (Or.inl rfl) rfl dX12_readStatement_161 ?_
  refine zz_if_eq (tgt := 171) C dX12_readStatement_164 (by decide) (fun h3 => ?_) (fun h3 => ?_)
  · refine zz_iconst (v := 1) C dX12_readStatement_171 (by decide) ?_
    refine zz_sub (loc' := [(0, .ref (zzad Z 36))]) [0] rfl ?_
    exact w_X12_readStatement_172 C (1 : Int32) (zzi σ1 36 15) σ1
  · refine zz_iconst (v := 0) C dX12_readStatement_167 (by decide) ?_
    refine zz_goto (tgt := 172) C dX12_readStatement_168 (by decide) ?_
    refine zz_sub (loc' := [(0, .ref (zzad Z 36))]) [0] rfl ?_
    exact w_X12_readStatement_172 C (0 : Int32) (zzi σ1 36 15) σ1
set_option maxHeartbeats 4000000 in
set_option maxRecDepth 100000 in
theorem w_X12_readStatement_147 {l : Launch} {Z : zzG} {base : Nat} {PL : Nat → Option (Nat × Int32)} {mm : zzS} {p : Program} {e : Env} {s : State} {m : MethodId} {args : Array Value} {below : List Frame} {meth : Method} {c : Code} (C : zzCx p m meth c s args cX12_readStatement 5 wsX12_readStatement RX12 none Z)    (σ : zzS) : zzGO p l e rX12_readStatement s m args below meth c 5 (zzA base) (zzM Z base PL mm) (zzM Z base PL mm) zzRV rX12_readStatement.cells rX12_readStatement.slots (f_X12_readStatement_147 σ) σ 0 0 147 [(0, .ref (zzad Z 36))] [.ref (zzad Z 36)] := by
  unfold f_X12_readStatement_147
  refine zz_iconst (v := 1) C dX12_readStatement_147 (by decide) ?_
  refine zz_goto (tgt := 152) C dX12_readStatement_148 (by decide) ?_
  refine zz_sub (loc' := [(0, .ref (zzad Z 36))]) [0] rfl ?_
  exact w_X12_readStatement_152 C (1 : Int32) σ
set_option maxHeartbeats 4000000 in
set_option maxRecDepth 100000 in
theorem w_X12_readStatement_130 {l : Launch} {Z : zzG} {base : Nat} {PL : Nat → Option (Nat × Int32)} {mm : zzS} {p : Program} {e : Env} {s : State} {m : MethodId} {args : Array Value} {below : List Frame} {meth : Method} {c : Code} (C : zzCx p m meth c s args cX12_readStatement 5 wsX12_readStatement RX12 none Z)    (σ : zzS) : zzGO p l e rX12_readStatement s m args below meth c 5 (zzA base) (zzM Z base PL mm) (zzM Z base PL mm) zzRV rX12_readStatement.cells rX12_readStatement.slots (f_X12_readStatement_130 σ) σ 0 0 130 [(0, .ref (zzad Z 36))] [] := by
  unfold f_X12_readStatement_130
  refine zz_aload_n C dX12_readStatement_130 rfl 0 rfl ?_
  refine zz_aload_n C dX12_readStatement_131 rfl 0 rfl ?_
  refine zz_get C zzM_obj (fun _ h9 => List.mem_cons_of_mem _ (List.mem_append_right _ (h9))) rfl 16 (by decide) (List.mem_of_getElem? (i := 5) rfl) (Or.inl rfl) rfl dX12_readStatement_132 ?_
  refine zz_if_ne (tgt := 147) C dX12_readStatement_135 (by decide) (fun h1 => ?_) (fun h1 => ?_)
  · refine zz_sub (loc' := [(0, .ref (zzad Z 36))]) [0] rfl ?_
    exact w_X12_readStatement_147 C σ
  · refine zz_aload_n C dX12_readStatement_138 rfl 0 rfl ?_
    refine zz_callV C (Cn := RX12) (b := zzad Z 36) (fun H hH => zz_recv C.2.2.2 (zzM_obj H hH) rfl) (As := []) (rest := [.ref (zzad Z 36)]) rfl (k_X12_here σ) (cwV 0 C.1.2.2.2.2 gX12_readStatement_X12_here rfl rfl rfl (by decide +kernel) ⟨Nat.le_of_ble_eq_true rfl, Nat.le_of_ble_eq_true rfl⟩) rfl (Nat.le_of_ble_eq_true rfl) ⟨Nat.zero_le _, Nat.zero_le _⟩ dX12_readStatement_139 (zz_kI rfl rfl (fun r2 σ3 => ?_))
    refine zz_bipush (v := 59) C dX12_readStatement_142 (by decide) ?_
    refine zz_icmp_eq (tgt := 151) C dX12_readStatement_144 (by decide) (fun h4 => ?_) (fun h4 => ?_)
    · refine zz_iconst (v := 0) C dX12_readStatement_151 (by decide) ?_
      refine zz_sub (loc' := [(0, .ref (zzad Z 36))]) [0] rfl ?_
      exact w_X12_readStatement_152 C (0 : Int32) σ3
    · refine zz_sub (loc' := [(0, .ref (zzad Z 36))]) [0] rfl ?_
      exact w_X12_readStatement_147 C σ3
set_option maxHeartbeats 4000000 in
set_option maxRecDepth 100000 in
theorem w_X12_readStatement_96b {l : Launch} {Z : zzG} {base : Nat} {PL : Nat → Option (Nat × Int32)} {mm : zzS} {p : Program} {e : Env} {s : State} {m : MethodId} {args : Array Value} {below : List Frame} {meth : Method} {c : Code} (C : zzCx p m meth c s args cX12_readStatement 5 wsX12_readStatement RX12 none Z)   (k96 : Int32 → Int32 → Int32 → zzS → Option (Unit × zzS)) (hk96 : ∀ (l1 : Int32)  (l3 : Int32)  (l4 : Int32)  (σ : zzS), zzGO p l e rX12_readStatement s m args below meth c 5 (zzA base) (zzM Z base PL mm) (zzM Z base PL mm) zzRV rX12_readStatement.cells rX12_readStatement.slots (k96 l1 l3 l4 σ) σ 0 0 96 [(0, .ref (zzad Z 36)), (1, .int l1), (3, .int l3), (4, .int l4)] []) (l1 : Int32)  (l3 : Int32)  (l4 : Int32)  (σ : zzS) : zzGO p l e rX12_readStatement s m args below meth c 5 (zzA base) (zzM Z base PL mm) (zzM Z base PL mm) zzRV rX12_readStatement.cells rX12_readStatement.slots (f_X12_readStatement_96b k96 l1 l3 l4 σ) σ 0 0 96 [(0, .ref (zzad Z 36)), (1, .int l1), (3, .int l3), (4, .int l4)] [] := by
  unfold f_X12_readStatement_96b
  refine zz_iload C dX12_readStatement_96 3 rfl ?_
  refine zz_iload_n C dX12_readStatement_98 rfl 2 rfl ?_
  refine zz_icmp_ge (tgt := 130) C dX12_readStatement_99 (by decide) (fun h1 => ?_) (fun h1 => ?_)
  · refine zz_sub (loc' := [(0, .ref (zzad Z 36))]) [0] rfl ?_
    exact w_X12_readStatement_130 C σ
  · refine zz_aload_n C dX12_readStatement_102 rfl 0 rfl ?_
    refine zz_get C zzM_obj (fun _ h9 => List.mem_cons_of_mem _ (List.mem_append_right _ (h9))) rfl 16 (by decide) (List.mem_of_getElem? (i := 5) rfl) (Or.inl rfl) rfl dX12_readStatement_103 ?_
    refine zz_if_ne (tgt := 130) C dX12_readStatement_106 (by decide) (fun h2 => ?_) (fun h2 => ?_)
    · refine zz_sub (loc' := [(0, .ref (zzad Z 36))]) [0] rfl ?_
      exact w_X12_readStatement_130 C σ
    · refine zz_aload_n C dX12_readStatement_109 rfl 0 rfl ?_
      refine zz_get C zzM_obj (fun _ h9 => List.mem_cons_of_mem _ (List.mem_append_right _ (h9))) rfl 20 (by decide) (List.mem_of_getElem? (i := 6) rfl) (Or.inl rfl) rfl dX12_readStatement_110 ?_
      refine zz_iconst (v := 3) C dX12_readStatement_113 (by decide) ?_
      refine zz_iload_n C dX12_readStatement_114 rfl 1 rfl ?_
      refine zz_imul C dX12_readStatement_115 ?_
      refine zz_iload C dX12_readStatement_116 3 rfl ?_
      refine zz_iadd C dX12_readStatement_118 ?_
      refine zz_aload_n C dX12_readStatement_119 rfl 0 rfl ?_
      refine zz_callV C (Cn := RX12) (b := zzad Z 36) (fun H hH => zz_recv C.2.2.2 (zzM_obj H hH) rfl) (As := []) (rest := [.int (((3 : Int32) * l1) + l4), .ref (zzad Z 48)]) rfl (k_X12_readDigit σ) (cwV 0 C.1.2.2.2.2 gX12_readStatement_X12_readDigit rfl rfl rfl (by decide +kernel) ⟨Nat.le_of_ble_eq_true rfl, Nat.le_of_ble_eq_true rfl⟩) rfl (Nat.le_of_ble_eq_true rfl) ⟨Nat.zero_le _, Nat.zero_le _⟩ dX12_readStatement_120 (zz_kI rfl rfl (fun r3 σ4 => ?_))
      refine zz_gd (fun h5 => ?_)
      refine zz_iast C (zzM_arr (by decide)) h5 (zzM_uarr (by decide)) (zzA_M (zzMarr_lt (by decide))) dX12_readStatement_123 ?_
      refine zz_ltS (fun σ6 => ?_)
      refine zz_iincX (d := 1) (locf := fun x7 => [(4, .int x7), (0, .ref (zzad Z 36)), (1, .int l1), (3, .int l3)]) C dX12_readStatement_124 (k := 3) rfl (by decide) (by decide) (fun _ => rfl) (fun x7 => ?_)
      refine zz_goto (tgt := 96) C dX12_readStatement_127 (by decide) ?_
      refine zz_sub (loc' := [(0, .ref (zzad Z 36)), (1, .int l1), (3, .int l3), (4, .int x7)]) [1, 2, 3, 0] rfl ?_
      exact hk96 l1 l3 x7 σ6
set_option maxHeartbeats 4000000 in
set_option maxRecDepth 100000 in
theorem w_X12_readStatement_96 {l : Launch} {Z : zzG} {base : Nat} {PL : Nat → Option (Nat × Int32)} {mm : zzS} {p : Program} {e : Env} {s : State} {m : MethodId} {args : Array Value} {below : List Frame} {meth : Method} {c : Code} (C : zzCx p m meth c s args cX12_readStatement 5 wsX12_readStatement RX12 none Z)   (n : Nat) : ∀ (l1 : Int32)  (l3 : Int32)  (l4 : Int32)  (σ : zzS), zzGO p l e rX12_readStatement s m args below meth c 5 (zzA base) (zzM Z base PL mm) (zzM Z base PL mm) zzRV rX12_readStatement.cells rX12_readStatement.slots (f_X12_readStatement_96 n l1 l3 l4 σ) σ 0 0 96 [(0, .ref (zzad Z 36)), (1, .int l1), (3, .int l3), (4, .int l4)] [] := by
  induction n with
  | zero => exact fun _ _ _ _ r9 s9 h9 => by cases h9
  | succ n ih => exact w_X12_readStatement_96b C _ ih
set_option maxHeartbeats 4000000 in
set_option maxRecDepth 100000 in
theorem w_X12_readStatement_92 {l : Launch} {Z : zzG} {base : Nat} {PL : Nat → Option (Nat × Int32)} {mm : zzS} {p : Program} {e : Env} {s : State} {m : MethodId} {args : Array Value} {below : List Frame} {meth : Method} {c : Code} (C : zzCx p m meth c s args cX12_readStatement 5 wsX12_readStatement RX12 none Z)   (l1 : Int32)  (s0 : Int32)  (σ : zzS) : zzGO p l e rX12_readStatement s m args below meth c 5 (zzA base) (zzM Z base PL mm) (zzM Z base PL mm) zzRV rX12_readStatement.cells rX12_readStatement.slots (f_X12_readStatement_92 l1 s0 σ) σ 0 0 92 [(0, .ref (zzad Z 36)), (1, .int l1)] [.int s0] := by
  unfold f_X12_readStatement_92
  refine zz_istore_n (loc' := [(3, .int s0), (0, .ref (zzad Z 36)), (1, .int l1)]) C dX12_readStatement_92 rfl (by decide) rfl ?_
  refine zz_iconst (v := 0) C dX12_readStatement_93 (by decide) ?_
  refine zz_istore (loc' := [(4, .int (0 : Int32)), (3, .int s0), (0, .ref (zzad Z 36)), (1, .int l1)]) C dX12_readStatement_94 (by decide) rfl ?_
  refine zz_sub (loc' := [(0, .ref (zzad Z 36)), (1, .int l1), (3, .int s0), (4, .int (0 : Int32))]) [2, 3, 1, 0] rfl ?_
  exact w_X12_readStatement_96 C 200 l1 s0 (0 : Int32) σ
set_option maxHeartbeats 4000000 in
set_option maxRecDepth 100000 in
theorem w_X12_readStatement_67 {l : Launch} {Z : zzG} {base : Nat} {PL : Nat → Option (Nat × Int32)} {mm : zzS} {p : Program} {e : Env} {s : State} {m : MethodId} {args : Array Value} {below : List Frame} {meth : Method} {c : Code} (C : zzCx p m meth c s args cX12_readStatement 5 wsX12_readStatement RX12 none Z)   (l1 : Int32)  (l2 : Int32)  (s0 : Int32)  (s1 : Int32)  (σ : zzS) : zzGO p l e rX12_readStatement s m args below meth c 5 (zzA base) (zzM Z base PL mm) (zzM Z base PL mm) zzRV rX12_readStatement.cells rX12_readStatement.slots (f_X12_readStatement_67 l1 l2 s0 s1 σ) σ 0 0 67 [(0, .ref (zzad Z 36)), (1, .int l1), (2, .int l2)] [.int s0, .int s1, .ref (zzad Z 36)] := by
  unfold f_X12_readStatement_67
  refine zz_iadd C dX12_readStatement_67 ?_
  refine zz_put (ty := .int) C zzM_obj (fun _ h9 => List.mem_cons_of_mem _ (List.mem_append_right _ (h9))) rfl 15 (by decide) (List.mem_of_getElem? (i := 3) rfl) rfl tyX12_ok nmX12 rfl (by decide +kernel) rfl rfl (Nat.le_of_ble_eq_true rfl) (zzM_uobj (by decide)) (zzA_M (by decide)) dX12_readStatement_68 ?_
  refine zz_ltS (fun σ1 => ?_)
  refine zz_iload_n C dX12_readStatement_71 rfl 2 rfl ?_
  refine zz_bipush (v := 102) C dX12_readStatement_72 (by decide) ?_
  refine zz_icmp_ne (tgt := 81) C dX12_readStatement_74 (by decide) (fun h2 => ?_) (fun h2 => ?_)
  · refine zz_iload_n C dX12_readStatement_81 rfl 2 rfl ?_
    refine zz_bipush (v := 108) C dX12_readStatement_82 (by decide) ?_
    refine zz_icmp_ne (tgt := 91) C dX12_readStatement_84 (by decide) (fun h3 => ?_) (fun h3 => ?_)
    · refine zz_iconst (v := 2) C dX12_readStatement_91 (by decide) ?_
      refine zz_sub (loc' := [(0, .ref (zzad Z 36)), (1, .int l1)]) [0, 1] rfl ?_
      exact w_X12_readStatement_92 C l1 (2 : Int32) σ1
    · refine zz_iconst (v := 1) C dX12_readStatement_87 (by decide) ?_
      refine zz_goto (tgt := 92) C dX12_readStatement_88 (by decide) ?_
      refine zz_sub (loc' := [(0, .ref (zzad Z 36)), (1, .int l1)]) [0, 1] rfl ?_
      exact w_X12_readStatement_92 C l1 (1 : Int32) σ1
  · refine zz_iconst (v := 3) C dX12_readStatement_77 (by decide) ?_
    refine zz_goto (tgt := 92) C dX12_readStatement_78 (by decide) ?_
    refine zz_sub (loc' := [(0, .ref (zzad Z 36)), (1, .int l1)]) [0, 1] rfl ?_
    exact w_X12_readStatement_92 C l1 (3 : Int32) σ1
set_option maxHeartbeats 4000000 in
set_option maxRecDepth 100000 in
theorem w_X12_readStatement_47 {l : Launch} {Z : zzG} {base : Nat} {PL : Nat → Option (Nat × Int32)} {mm : zzS} {p : Program} {e : Env} {s : State} {m : MethodId} {args : Array Value} {below : List Frame} {meth : Method} {c : Code} (C : zzCx p m meth c s args cX12_readStatement 5 wsX12_readStatement RX12 none Z)   (l1 : Int32)  (l2 : Int32)  (s0 : Int32)  (σ : zzS) : zzGO p l e rX12_readStatement s m args below meth c 5 (zzA base) (zzM Z base PL mm) (zzM Z base PL mm) zzRV rX12_readStatement.cells rX12_readStatement.slots (f_X12_readStatement_47 l1 l2 s0 σ) σ 0 0 47 [(0, .ref (zzad Z 36)), (1, .int l1), (2, .int l2)] [.int s0, .ref (zzad Z 36)] := by
  unfold f_X12_readStatement_47
  refine zz_gd (fun h2 => ?_)
  refine zz_put (ty := .boolean) C zzM_obj (fun _ h9 => List.mem_cons_of_mem _ (List.mem_append_right _ (h9))) rfl 16 (by decide) (List.mem_of_getElem? (i := 5) rfl) rfl tyX12_ok nmX12 rfl (by decide +kernel) (zznarB h2) (zzfitB h2) (Nat.le_of_ble_eq_true rfl) (zzM_uobj (by decide)) (zzA_M (by decide)) dX12_readStatement_47 ?_
  refine zz_ltS (fun σ1 => ?_)
  refine zz_aload_n C dX12_readStatement_50 rfl 0 rfl ?_
  refine zz_dup C dX12_readStatement_51 rfl ?_
  refine zz_get C zzM_obj (fun _ h9 => List.mem_cons_of_mem _ (List.mem_append_right _ (h9))) rfl 15 (by decide) (List.mem_of_getElem? (i := 3) rfl) (Or.inl rfl) rfl dX12_readStatement_52 ?_
  refine zz_aload_n C dX12_readStatement_55 rfl 0 rfl ?_
  refine zz_get C zzM_obj (fun _ h9 => List.mem_cons_of_mem _ (List.mem_append_right _ (h9))) rfl 16 (by decide) (List.mem_of_getElem? (i := 5) rfl) (Or.inl rfl) rfl dX12_readStatement_56 ?_
  refine zz_if_eq (tgt := 66) C dX12_readStatement_59 (by decide) (fun h3 => ?_) (fun h3 => ?_)
  · refine zz_iconst (v := 1) C dX12_readStatement_66 (by decide) ?_
    refine zz_sub (loc' := [(0, .ref (zzad Z 36)), (1, .int l1), (2, .int l2)]) [0, 1, 2] rfl ?_
    exact w_X12_readStatement_67 C l1 l2 (1 : Int32) (zzi σ1 36 15) σ1
  · refine zz_iconst (v := 0) C dX12_readStatement_62 (by decide) ?_
    refine zz_goto (tgt := 67) C dX12_readStatement_63 (by decide) ?_
    refine zz_sub (loc' := [(0, .ref (zzad Z 36)), (1, .int l1), (2, .int l2)]) [0, 1, 2] rfl ?_
    exact w_X12_readStatement_67 C l1 l2 (0 : Int32) (zzi σ1 36 15) σ1
set_option maxHeartbeats 4000000 in
set_option maxRecDepth 100000 in
theorem w_X12_readStatement_42 {l : Launch} {Z : zzG} {base : Nat} {PL : Nat → Option (Nat × Int32)} {mm : zzS} {p : Program} {e : Env} {s : State} {m : MethodId} {args : Array Value} {below : List Frame} {meth : Method} {c : Code} (C : zzCx p m meth c s args cX12_readStatement 5 wsX12_readStatement RX12 none Z)   (l1 : Int32)  (l2 : Int32)  (σ : zzS) : zzGO p l e rX12_readStatement s m args below meth c 5 (zzA base) (zzM Z base PL mm) (zzM Z base PL mm) zzRV rX12_readStatement.cells rX12_readStatement.slots (f_X12_readStatement_42 l1 l2 σ) σ 0 0 42 [(0, .ref (zzad Z 36)), (1, .int l1), (2, .int l2)] [.ref (zzad Z 36)] := by
  unfold f_X12_readStatement_42
  refine zz_iconst (v := 1) C dX12_readStatement_42 (by decide) ?_
  refine zz_goto (tgt := 47) C dX12_readStatement_43 (by decide) ?_
  refine zz_sub (loc' := [(0, .ref (zzad Z 36)), (1, .int l1), (2, .int l2)]) [0, 1, 2] rfl ?_
  exact w_X12_readStatement_47 C l1 l2 (1 : Int32) σ
set_option maxHeartbeats 4000000 in
set_option maxRecDepth 100000 in
theorem w_X12_readStatement_e {l : Launch} {Z : zzG} {base : Nat} {PL : Nat → Option (Nat × Int32)} {mm : zzS} {p : Program} {e : Env} {s : State} {m : MethodId} {args : Array Value} {below : List Frame} {meth : Method} {c : Code} (C : zzCx p m meth c s args cX12_readStatement 5 wsX12_readStatement RX12 none Z)  (σ : zzS) : zzGO p l e rX12_readStatement s m args below meth c 5 (zzA base) (zzM Z base PL mm) (zzM Z base PL mm) zzRV rX12_readStatement.cells rX12_readStatement.slots (f_X12_readStatement σ) σ 0 0 0 [(0, .ref (zzad Z 36))] [] := by
  unfold f_X12_readStatement
  refine zz_aload_n C dX12_readStatement_0 rfl 0 rfl ?_
  refine zz_get C zzM_obj (fun _ h9 => List.mem_cons_of_mem _ (List.mem_append_right _ (h9))) rfl 17 (by decide) (List.mem_of_getElem? (i := 1) rfl) (Or.inl rfl) rfl dX12_readStatement_1 ?_
  refine zz_istoreX_n (locf := fun x1 => [(1, .int x1), (0, .ref (zzad Z 36))]) C dX12_readStatement_4 rfl (by decide) (fun _ => rfl) (fun x1 => ?_)
  refine zz_aload_n C dX12_readStatement_5 rfl 1 rfl ?_
  refine zz_callV C (Cn := RX12) (b := zzad Z 36) (fun H hH => zz_recv C.2.2.2 (zzM_obj H hH) rfl) (As := []) (rest := []) rfl (k_X12_here σ) (cwV 0 C.1.2.2.2.2 gX12_readStatement_X12_here rfl rfl rfl (by decide +kernel) ⟨Nat.le_of_ble_eq_true rfl, Nat.le_of_ble_eq_true rfl⟩) rfl (Nat.le_of_ble_eq_true rfl) ⟨Nat.zero_le _, Nat.zero_le _⟩ dX12_readStatement_6 (zz_kI rfl rfl (fun r2 σ3 => ?_))
  refine zz_istore_n (loc' := [(2, .int r2), (1, .int x1), (0, .ref (zzad Z 36))]) C dX12_readStatement_9 rfl (by decide) rfl ?_
  refine zz_aload_n C dX12_readStatement_10 rfl 2 rfl ?_
  refine zz_get C zzM_obj (fun _ h9 => List.mem_cons_of_mem _ (List.mem_append_right _ (h9))) rfl 18 (by decide) (List.mem_of_getElem? (i := 2) rfl) (Or.inl rfl) rfl dX12_readStatement_11 ?_
  refine zz_iload_n C dX12_readStatement_14 rfl 1 rfl ?_
  refine zz_aload_n C dX12_readStatement_15 rfl 2 rfl ?_
  refine zz_get C zzM_obj (fun _ h9 => List.mem_cons_of_mem _ (List.mem_append_right _ (h9))) rfl 15 (by decide) (List.mem_of_getElem? (i := 3) rfl) (Or.inl rfl) rfl dX12_readStatement_16 ?_
  refine zz_gd (fun h4 => ?_)
  refine zz_iast C (zzM_arr (by decide)) h4 (zzM_uarr (by decide)) (zzA_M (zzMarr_lt (by decide))) dX12_readStatement_19 ?_
  refine zz_ltS (fun σ5 => ?_)
  refine zz_aload_n C dX12_readStatement_20 rfl 2 rfl ?_
  refine zz_get C zzM_obj (fun _ h9 => List.mem_cons_of_mem _ (List.mem_append_right _ (h9))) rfl 19 (by decide) (List.mem_of_getElem? (i := 4) rfl) (Or.inl rfl) rfl dX12_readStatement_21 ?_
  refine zz_iload_n C dX12_readStatement_24 rfl 1 rfl ?_
  refine zz_iload_n C dX12_readStatement_25 rfl 0 rfl ?_
  refine zz_gd (fun h6 => ?_)
  refine zz_iast C (zzM_arr (by decide)) h6 (zzM_uarr (by decide)) (zzA_M (zzMarr_lt (by decide))) dX12_readStatement_26 ?_
  refine zz_ltS (fun σ7 => ?_)
  refine zz_aload_n C dX12_readStatement_27 rfl 2 rfl ?_
  refine zz_aload_n C dX12_readStatement_28 rfl 2 rfl ?_
  refine zz_get C zzM_obj (fun _ h9 => List.mem_cons_of_mem _ (List.mem_append_right _ (h9))) rfl 16 (by decide) (List.mem_of_getElem? (i := 5) rfl) (Or.inl rfl) rfl dX12_readStatement_29 ?_
  refine zz_if_ne (tgt := 42) C dX12_readStatement_32 (by decide) (fun h8 => ?_) (fun h8 => ?_)
  · refine zz_sub (loc' := [(0, .ref (zzad Z 36)), (1, .int x1), (2, .int r2)]) [2, 1, 0] rfl ?_
    exact w_X12_readStatement_42 C x1 r2 σ7
  · refine zz_iload_n C dX12_readStatement_35 rfl 0 rfl ?_
    refine zz_callS (As := [.int r2]) (rest := [.ref (zzad Z 36)]) C rfl (k_X12_isLetter r2 σ7) (va_cwS 1 C.1.2.2.2.2 gX12_readStatement_X12_isLetter rfl rfl rfl (by decide +kernel) ⟨Nat.le_of_ble_eq_true rfl, Nat.le_of_ble_eq_true rfl⟩) rfl (Nat.le_of_ble_eq_true rfl) ⟨Nat.zero_le _, Nat.zero_le _⟩ dX12_readStatement_36 (zz_kI rfl rfl (fun r9 σ10 => ?_))
    refine zz_if_ne (tgt := 46) C dX12_readStatement_39 (by decide) (fun h11 => ?_) (fun h11 => ?_)
    · refine zz_iconst (v := 0) C dX12_readStatement_46 (by decide) ?_
      refine zz_sub (loc' := [(0, .ref (zzad Z 36)), (1, .int x1), (2, .int r2)]) [2, 1, 0] rfl ?_
      exact w_X12_readStatement_47 C x1 r2 (0 : Int32) σ10
    · refine zz_sub (loc' := [(0, .ref (zzad Z 36)), (1, .int x1), (2, .int r2)]) [2, 1, 0] rfl ?_
      exact w_X12_readStatement_42 C x1 r2 σ10
set_option maxHeartbeats 4000000 in
set_option maxRecDepth 100000 in
theorem k_X12_readStatement {l : Launch} {Z : zzG} {base : Nat} {PL : Nat → Option (Nat × Int32)} {mm : zzS}  (σ : zzS) : zzCT l yX12_readStatement wsX12_readStatement rX12_readStatement (zzA base) Z (zzM Z base PL mm) (zzM Z base PL mm) zzRV [.ref (zzad Z 36)] (f_X12_readStatement σ) σ :=
  zzCT_of (cc := cX12_readStatement) (nL := 5) (ret := none) (by decide) rfl (Nat.le_of_ble_eq_true rfl) [(0, .ref (zzad Z 36))] rfl (fun p e s m args below meth c C => w_X12_readStatement_e C σ)
abbrev rX12_personComes : Room := { frames := 0, cells := 0, slots := 0, locals := 0 }

set_option maxHeartbeats 4000000 in
set_option maxRecDepth 100000 in
theorem w_X12_personComes_58b {l : Launch} {Z : zzG} {base : Nat} {PL : Nat → Option (Nat × Int32)} {mm : zzS} {p : Program} {e : Env} {s : State} {m : MethodId} {args : Array Value} {below : List Frame} {meth : Method} {c : Code} (C : zzCx p m meth c s args cX12_personComes 5 wsX12_personComes RX12 (some .boolean) Z) (p0 : Int32)  (p1 : Int32)   (k58 : Int32 → Int32 → zzS → Option (Int32 × zzS)) (hk58 : ∀ (l3 : Int32)  (l4 : Int32)  (σ : zzS), zzGO p l e rX12_personComes s m args below meth c 5 (zzA base) (zzM Z base PL mm) (zzM Z base PL mm) zzRI rX12_personComes.cells rX12_personComes.slots (k58 l3 l4 σ) σ 0 0 58 [(0, .ref (zzad Z 36)), (3, .int l3), (4, .int l4)] []) (l3 : Int32)  (l4 : Int32)  (σ : zzS) : zzGO p l e rX12_personComes s m args below meth c 5 (zzA base) (zzM Z base PL mm) (zzM Z base PL mm) zzRI rX12_personComes.cells rX12_personComes.slots (f_X12_personComes_58b k58 p0 p1 l3 l4 σ) σ 0 0 58 [(0, .ref (zzad Z 36)), (3, .int l3), (4, .int l4)] [] := by
  unfold f_X12_personComes_58b
  refine zz_iload C dX12_personComes_58 2 rfl ?_
  refine zz_bipush (v := 7) C dX12_personComes_60 (by decide) ?_
  refine zz_icmp_ge (tgt := 103) C dX12_personComes_62 (by decide) (fun h1 => ?_) (fun h1 => ?_)
  · refine zz_aload_n C dX12_personComes_103 rfl 0 rfl ?_
    refine zz_dup C dX12_personComes_104 rfl ?_
    refine zz_get C zzM_obj (fun _ h9 => List.mem_cons_of_mem _ (List.mem_append_right _ (h9))) rfl 0 (by decide) (List.mem_of_getElem? (i := 1) rfl) (Or.inl rfl) rfl dX12_personComes_105 ?_
    refine zz_iconst (v := 1) C dX12_personComes_108 (by decide) ?_
    refine zz_iadd C dX12_personComes_109 ?_
    refine zz_put (ty := .int) C zzM_obj (fun _ h9 => List.mem_cons_of_mem _ (List.mem_append_right _ (h9))) rfl 0 (by decide) (List.mem_of_getElem? (i := 1) rfl) rfl tyX12_ok nmX12 rfl (by decide +kernel) rfl rfl (Nat.le_of_ble_eq_true rfl) (zzM_uobj (by decide)) (zzA_M (by decide)) dX12_personComes_110 ?_
    refine zz_ltS (fun σ2 => ?_)
    refine zz_iload_n C dX12_personComes_113 rfl 1 rfl ?_
    refine zz_gd (fun h3 => ?_)
    exact zz_zret C rfl h3 rfl (fun _ h9 => h9) (Nat.zero_le _) (Nat.zero_le _) dX12_personComes_114
  · refine zz_aload_n C dX12_personComes_65 rfl 0 rfl ?_
    refine zz_get C zzM_obj (fun _ h9 => List.mem_cons_of_mem _ (List.mem_append_right _ (h9))) rfl 4 (by decide) (List.mem_of_getElem? (i := 5) rfl) (Or.inl rfl) rfl dX12_personComes_66 ?_
    refine zz_bipush (v := 7) C dX12_personComes_69 (by decide) ?_
    refine zz_aload_n C dX12_personComes_71 rfl 0 rfl ?_
    refine zz_get C zzM_obj (fun _ h9 => List.mem_cons_of_mem _ (List.mem_append_right _ (h9))) rfl 0 (by decide) (List.mem_of_getElem? (i := 1) rfl) (Or.inl rfl) rfl dX12_personComes_72 ?_
    refine zz_imul C dX12_personComes_75 ?_
    refine zz_iload C dX12_personComes_76 2 rfl ?_
    refine zz_iadd C dX12_personComes_78 ?_
    refine zz_iconst (v := 0) C dX12_personComes_79 (by decide) ?_
    refine zz_gd (fun h4 => ?_)
    refine zz_iast C (zzM_arr (by decide)) h4 (zzM_uarr (by decide)) (zzA_M (zzMarr_lt (by decide))) dX12_personComes_80 ?_
    refine zz_ltS (fun σ5 => ?_)
    refine zz_aload_n C dX12_personComes_81 rfl 0 rfl ?_
    refine zz_get C zzM_obj (fun _ h9 => List.mem_cons_of_mem _ (List.mem_append_right _ (h9))) rfl 4 (by decide) (List.mem_of_getElem? (i := 5) rfl) (Or.inl rfl) rfl dX12_personComes_82 ?_
    refine zz_bipush (v := 7) C dX12_personComes_85 (by decide) ?_
    refine zz_iload C dX12_personComes_87 2 rfl ?_
    refine zz_imul C dX12_personComes_89 ?_
    refine zz_aload_n C dX12_personComes_90 rfl 0 rfl ?_
    refine zz_get C zzM_obj (fun _ h9 => List.mem_cons_of_mem _ (List.mem_append_right _ (h9))) rfl 0 (by decide) (List.mem_of_getElem? (i := 1) rfl) (Or.inl rfl) rfl dX12_personComes_91 ?_
    refine zz_iadd C dX12_personComes_94 ?_
    refine zz_iconst (v := 0) C dX12_personComes_95 (by decide) ?_
    refine zz_gd (fun h6 => ?_)
    refine zz_iast C (zzM_arr (by decide)) h6 (zzM_uarr (by decide)) (zzA_M (zzMarr_lt (by decide))) dX12_personComes_96 ?_
    refine zz_ltS (fun σ7 => ?_)
    refine zz_iincX (d := 1) (locf := fun x8 => [(4, .int x8), (0, .ref (zzad Z 36)), (3, .int l3)]) C dX12_personComes_97 (k := 2) rfl (by decide) (by decide) (fun _ => rfl) (fun x8 => ?_)
    refine zz_goto (tgt := 58) C dX12_personComes_100 (by decide) ?_
    refine zz_sub (loc' := [(0, .ref (zzad Z 36)), (3, .int l3), (4, .int x8)]) [1, 2, 0] rfl ?_
    exact hk58 l3 x8 σ7
set_option maxHeartbeats 4000000 in
set_option maxRecDepth 100000 in
theorem w_X12_personComes_58 {l : Launch} {Z : zzG} {base : Nat} {PL : Nat → Option (Nat × Int32)} {mm : zzS} {p : Program} {e : Env} {s : State} {m : MethodId} {args : Array Value} {below : List Frame} {meth : Method} {c : Code} (C : zzCx p m meth c s args cX12_personComes 5 wsX12_personComes RX12 (some .boolean) Z) (p0 : Int32)  (p1 : Int32)   (n : Nat) : ∀ (l3 : Int32)  (l4 : Int32)  (σ : zzS), zzGO p l e rX12_personComes s m args below meth c 5 (zzA base) (zzM Z base PL mm) (zzM Z base PL mm) zzRI rX12_personComes.cells rX12_personComes.slots (f_X12_personComes_58 p0 p1 n l3 l4 σ) σ 0 0 58 [(0, .ref (zzad Z 36)), (3, .int l3), (4, .int l4)] [] := by
  induction n with
  | zero => exact fun _ _ _ r9 s9 h9 => by cases h9
  | succ n ih => exact w_X12_personComes_58b C p0 p1 _ ih
set_option maxHeartbeats 4000000 in
set_option maxRecDepth 100000 in
theorem w_X12_personComes_20 {l : Launch} {Z : zzG} {base : Nat} {PL : Nat → Option (Nat × Int32)} {mm : zzS} {p : Program} {e : Env} {s : State} {m : MethodId} {args : Array Value} {below : List Frame} {meth : Method} {c : Code} (C : zzCx p m meth c s args cX12_personComes 5 wsX12_personComes RX12 (some .boolean) Z) (p0 : Int32)  (p1 : Int32)   (s0 : Int32)  (σ : zzS) : zzGO p l e rX12_personComes s m args below meth c 5 (zzA base) (zzM Z base PL mm) (zzM Z base PL mm) zzRI rX12_personComes.cells rX12_personComes.slots (f_X12_personComes_20 p0 p1 s0 σ) σ 0 0 20 [(0, .ref (zzad Z 36)), (1, .int p0), (2, .int p1)] [.int s0] := by
  unfold f_X12_personComes_20
  refine zz_istore_n (loc' := [(3, .int s0), (0, .ref (zzad Z 36)), (1, .int p0), (2, .int p1)]) C dX12_personComes_20 rfl (by decide) rfl ?_
  refine zz_iload_n C dX12_personComes_21 rfl 0 rfl ?_
  refine zz_if_eq (tgt := 113) C dX12_personComes_22 (by decide) (fun h1 => ?_) (fun h1 => ?_)
  · refine zz_iload_n C dX12_personComes_113 rfl 0 rfl ?_
    refine zz_gd (fun h2 => ?_)
    exact zz_zret C rfl h2 rfl (fun _ h9 => h9) (Nat.zero_le _) (Nat.zero_le _) dX12_personComes_114
  · refine zz_aload_n C dX12_personComes_25 rfl 1 rfl ?_
    refine zz_get C zzM_obj (fun _ h9 => List.mem_cons_of_mem _ (List.mem_append_right _ (h9))) rfl 1 (by decide) (List.mem_of_getElem? (i := 2) rfl) (Or.inl rfl) rfl dX12_personComes_26 ?_
    refine zz_aload_n C dX12_personComes_29 rfl 1 rfl ?_
    refine zz_get C zzM_obj (fun _ h9 => List.mem_cons_of_mem _ (List.mem_append_right _ (h9))) rfl 0 (by decide) (List.mem_of_getElem? (i := 1) rfl) (Or.inl rfl) rfl dX12_personComes_30 ?_
    refine zz_iload_n C dX12_personComes_33 rfl 2 rfl ?_
    refine zz_gd (fun h3 => ?_)
    refine zz_iast C (zzM_arr (by decide)) h3 (zzM_uarr (by decide)) (zzA_M (zzMarr_lt (by decide))) dX12_personComes_34 ?_
    refine zz_ltS (fun σ4 => ?_)
    refine zz_aload_n C dX12_personComes_35 rfl 1 rfl ?_
    refine zz_get C zzM_obj (fun _ h9 => List.mem_cons_of_mem _ (List.mem_append_right _ (h9))) rfl 2 (by decide) (List.mem_of_getElem? (i := 3) rfl) (Or.inl rfl) rfl dX12_personComes_36 ?_
    refine zz_aload_n C dX12_personComes_39 rfl 1 rfl ?_
    refine zz_get C zzM_obj (fun _ h9 => List.mem_cons_of_mem _ (List.mem_append_right _ (h9))) rfl 0 (by decide) (List.mem_of_getElem? (i := 1) rfl) (Or.inl rfl) rfl dX12_personComes_40 ?_
    refine zz_iload_n C dX12_personComes_43 rfl 3 rfl ?_
    refine zz_gd (fun h5 => ?_)
    refine zz_iast C (zzM_arr (by decide)) h5 (zzM_uarr (by decide)) (zzA_M (zzMarr_lt (by decide))) dX12_personComes_44 ?_
    refine zz_ltS (fun σ6 => ?_)
    refine zz_aload_n C dX12_personComes_45 rfl 1 rfl ?_
    refine zz_get C zzM_obj (fun _ h9 => List.mem_cons_of_mem _ (List.mem_append_right _ (h9))) rfl 3 (by decide) (List.mem_of_getElem? (i := 4) rfl) (Or.inl rfl) rfl dX12_personComes_46 ?_
    refine zz_aload_n C dX12_personComes_49 rfl 1 rfl ?_
    refine zz_get C zzM_obj (fun _ h9 => List.mem_cons_of_mem _ (List.mem_append_right _ (h9))) rfl 0 (by decide) (List.mem_of_getElem? (i := 1) rfl) (Or.inl rfl) rfl dX12_personComes_50 ?_
    refine zz_iconst (v := 0) C dX12_personComes_53 (by decide) ?_
    refine zz_gd (fun h7 => ?_)
    refine zz_iast C (zzM_arr (by decide)) h7 (zzM_uarr (by decide)) (zzA_M (zzMarr_lt (by decide))) dX12_personComes_54 ?_
    refine zz_ltS (fun σ8 => ?_)
    refine zz_iconst (v := 0) C dX12_personComes_55 (by decide) ?_
    refine zz_istore (loc' := [(4, .int (0 : Int32)), (3, .int s0), (0, .ref (zzad Z 36)), (1, .int p0), (2, .int p1)]) C dX12_personComes_56 (by decide) rfl ?_
    refine zz_sub (loc' := [(0, .ref (zzad Z 36)), (3, .int s0), (4, .int (0 : Int32))]) [2, 1, 0] rfl ?_
    exact w_X12_personComes_58 C p0 p1 200 s0 (0 : Int32) σ8
set_option maxHeartbeats 4000000 in
set_option maxRecDepth 100000 in
theorem w_X12_personComes_19 {l : Launch} {Z : zzG} {base : Nat} {PL : Nat → Option (Nat × Int32)} {mm : zzS} {p : Program} {e : Env} {s : State} {m : MethodId} {args : Array Value} {below : List Frame} {meth : Method} {c : Code} (C : zzCx p m meth c s args cX12_personComes 5 wsX12_personComes RX12 (some .boolean) Z) (p0 : Int32)  (p1 : Int32)    (σ : zzS) : zzGO p l e rX12_personComes s m args below meth c 5 (zzA base) (zzM Z base PL mm) (zzM Z base PL mm) zzRI rX12_personComes.cells rX12_personComes.slots (f_X12_personComes_19 p0 p1 σ) σ 0 0 19 [(0, .ref (zzad Z 36)), (1, .int p0), (2, .int p1)] [] := by
  unfold f_X12_personComes_19
  refine zz_iconst (v := 0) C dX12_personComes_19 (by decide) ?_
  refine zz_sub (loc' := [(0, .ref (zzad Z 36)), (1, .int p0), (2, .int p1)]) [0, 1, 2] rfl ?_
  exact w_X12_personComes_20 C p0 p1 (0 : Int32) σ
set_option maxHeartbeats 4000000 in
set_option maxRecDepth 100000 in
theorem w_X12_personComes_e {l : Launch} {Z : zzG} {base : Nat} {PL : Nat → Option (Nat × Int32)} {mm : zzS} {p : Program} {e : Env} {s : State} {m : MethodId} {args : Array Value} {below : List Frame} {meth : Method} {c : Code} (C : zzCx p m meth c s args cX12_personComes 5 wsX12_personComes RX12 (some .boolean) Z) (p0 : Int32)  (p1 : Int32)  (σ : zzS) : zzGO p l e rX12_personComes s m args below meth c 5 (zzA base) (zzM Z base PL mm) (zzM Z base PL mm) zzRI rX12_personComes.cells rX12_personComes.slots (f_X12_personComes p0 p1 σ) σ 0 0 0 [(0, .ref (zzad Z 36)), (1, .int p0), (2, .int p1)] [] := by
  unfold f_X12_personComes
  refine zz_iload_n C dX12_personComes_0 rfl 1 rfl ?_
  refine zz_bipush (v := 8) C dX12_personComes_1 (by decide) ?_
  refine zz_icmp_ge (tgt := 19) C dX12_personComes_3 (by decide) (fun h1 => ?_) (fun h1 => ?_)
  · refine zz_sub (loc' := [(0, .ref (zzad Z 36)), (1, .int p0), (2, .int p1)]) [0, 1, 2] rfl ?_
    exact w_X12_personComes_19 C p0 p1 σ
  · refine zz_aload_n C dX12_personComes_6 rfl 0 rfl ?_
    refine zz_get C zzM_obj (fun _ h9 => List.mem_cons_of_mem _ (List.mem_append_right _ (h9))) rfl 0 (by decide) (List.mem_of_getElem? (i := 1) rfl) (Or.inl rfl) rfl dX12_personComes_7 ?_
    refine zz_bipush (v := 7) C dX12_personComes_10 (by decide) ?_
    refine zz_icmp_ge (tgt := 19) C dX12_personComes_12 (by decide) (fun h2 => ?_) (fun h2 => ?_)
    · refine zz_sub (loc' := [(0, .ref (zzad Z 36)), (1, .int p0), (2, .int p1)]) [0, 1, 2] rfl ?_
      exact w_X12_personComes_19 C p0 p1 σ
    · refine zz_iconst (v := 1) C dX12_personComes_15 (by decide) ?_
      refine zz_goto (tgt := 20) C dX12_personComes_16 (by decide) ?_
      refine zz_sub (loc' := [(0, .ref (zzad Z 36)), (1, .int p0), (2, .int p1)]) [0, 1, 2] rfl ?_
      exact w_X12_personComes_20 C p0 p1 (1 : Int32) σ
set_option maxHeartbeats 4000000 in
set_option maxRecDepth 100000 in
theorem k_X12_personComes {l : Launch} {Z : zzG} {base : Nat} {PL : Nat → Option (Nat × Int32)} {mm : zzS} (p0 : Int32)  (p1 : Int32)  (σ : zzS) : zzCT l yX12_personComes wsX12_personComes rX12_personComes (zzA base) Z (zzM Z base PL mm) (zzM Z base PL mm) zzRI [.ref (zzad Z 36), .int p0, .int p1] (f_X12_personComes p0 p1 σ) σ :=
  zzCT_of (cc := cX12_personComes) (nL := 5) (ret := (some .boolean)) (by decide) rfl (Nat.le_of_ble_eq_true rfl) [(0, .ref (zzad Z 36)), (1, .int p0), (2, .int p1)] rfl (fun p e s m args below meth c C => w_X12_personComes_e C p0 p1 σ)
abbrev rX12_daysPass : Room := { frames := 0, cells := 0, slots := 0, locals := 0 }

set_option maxHeartbeats 4000000 in
set_option maxRecDepth 100000 in
theorem w_X12_daysPass_36 {l : Launch} {Z : zzG} {base : Nat} {PL : Nat → Option (Nat × Int32)} {mm : zzS} {p : Program} {e : Env} {s : State} {m : MethodId} {args : Array Value} {below : List Frame} {meth : Method} {c : Code} (C : zzCx p m meth c s args cX12_daysPass 3 wsX12_daysPass RX12 (some .boolean) Z) (p0 : Int32)   (l2 : Int32)  (s0 : Int32)  (s1 : Int32)  (σ : zzS) : zzGO p l e rX12_daysPass s m args below meth c 3 (zzA base) (zzM Z base PL mm) (zzM Z base PL mm) zzRI rX12_daysPass.cells rX12_daysPass.slots (f_X12_daysPass_36 p0 l2 s0 s1 σ) σ 0 0 36 [(2, .int l2)] [.int s0, .int s1, .ref (zzad Z 36)] := by
  unfold f_X12_daysPass_36
  refine zz_iadd C dX12_daysPass_36 ?_
  refine zz_put (ty := .int) C zzM_obj (fun _ h9 => List.mem_cons_of_mem _ (List.mem_append_right _ (h9))) rfl 6 (by decide) (List.mem_of_getElem? (i := 1) rfl) rfl tyX12_ok nmX12 rfl (by decide +kernel) rfl rfl (Nat.le_of_ble_eq_true rfl) (zzM_uobj (by decide)) (zzA_M (by decide)) dX12_daysPass_37 ?_
  refine zz_ltS (fun σ1 => ?_)
  refine zz_iload_n C dX12_daysPass_40 rfl 0 rfl ?_
  refine zz_gd (fun h2 => ?_)
  exact zz_zret C rfl h2 rfl (fun _ h9 => h9) (Nat.zero_le _) (Nat.zero_le _) dX12_daysPass_41
set_option maxHeartbeats 4000000 in
set_option maxRecDepth 100000 in
theorem w_X12_daysPass_21 {l : Launch} {Z : zzG} {base : Nat} {PL : Nat → Option (Nat × Int32)} {mm : zzS} {p : Program} {e : Env} {s : State} {m : MethodId} {args : Array Value} {below : List Frame} {meth : Method} {c : Code} (C : zzCx p m meth c s args cX12_daysPass 3 wsX12_daysPass RX12 (some .boolean) Z) (p0 : Int32)   (s0 : Int32)  (σ : zzS) : zzGO p l e rX12_daysPass s m args below meth c 3 (zzA base) (zzM Z base PL mm) (zzM Z base PL mm) zzRI rX12_daysPass.cells rX12_daysPass.slots (f_X12_daysPass_21 p0 s0 σ) σ 0 0 21 [(0, .ref (zzad Z 36)), (1, .int p0)] [.int s0] := by
  unfold f_X12_daysPass_21
  refine zz_istore_n (loc' := [(2, .int s0), (0, .ref (zzad Z 36)), (1, .int p0)]) C dX12_daysPass_21 rfl (by decide) rfl ?_
  refine zz_aload_n C dX12_daysPass_22 rfl 1 rfl ?_
  refine zz_dup C dX12_daysPass_23 rfl ?_
  refine zz_get C zzM_obj (fun _ h9 => List.mem_cons_of_mem _ (List.mem_append_right _ (h9))) rfl 6 (by decide) (List.mem_of_getElem? (i := 1) rfl) (Or.inl rfl) rfl dX12_daysPass_24 ?_
  refine zz_iload_n C dX12_daysPass_27 rfl 0 rfl ?_
  refine zz_if_eq (tgt := 35) C dX12_daysPass_28 (by decide) (fun h1 => ?_) (fun h1 => ?_)
  · refine zz_iconst (v := 0) C dX12_daysPass_35 (by decide) ?_
    refine zz_sub (loc' := [(2, .int s0)]) [0] rfl ?_
    exact w_X12_daysPass_36 C p0 s0 (0 : Int32) (zzi σ 36 6) σ
  · refine zz_iload_n C dX12_daysPass_31 rfl 2 rfl ?_
    refine zz_goto (tgt := 36) C dX12_daysPass_32 (by decide) ?_
    refine zz_sub (loc' := [(2, .int s0)]) [0] rfl ?_
    exact w_X12_daysPass_36 C p0 s0 p0 (zzi σ 36 6) σ
set_option maxHeartbeats 4000000 in
set_option maxRecDepth 100000 in
theorem w_X12_daysPass_20 {l : Launch} {Z : zzG} {base : Nat} {PL : Nat → Option (Nat × Int32)} {mm : zzS} {p : Program} {e : Env} {s : State} {m : MethodId} {args : Array Value} {below : List Frame} {meth : Method} {c : Code} (C : zzCx p m meth c s args cX12_daysPass 3 wsX12_daysPass RX12 (some .boolean) Z) (p0 : Int32)    (σ : zzS) : zzGO p l e rX12_daysPass s m args below meth c 3 (zzA base) (zzM Z base PL mm) (zzM Z base PL mm) zzRI rX12_daysPass.cells rX12_daysPass.slots (f_X12_daysPass_20 p0 σ) σ 0 0 20 [(0, .ref (zzad Z 36)), (1, .int p0)] [] := by
  unfold f_X12_daysPass_20
  refine zz_iconst (v := 0) C dX12_daysPass_20 (by decide) ?_
  refine zz_sub (loc' := [(0, .ref (zzad Z 36)), (1, .int p0)]) [0, 1] rfl ?_
  exact w_X12_daysPass_21 C p0 (0 : Int32) σ
set_option maxHeartbeats 4000000 in
set_option maxRecDepth 100000 in
theorem w_X12_daysPass_e {l : Launch} {Z : zzG} {base : Nat} {PL : Nat → Option (Nat × Int32)} {mm : zzS} {p : Program} {e : Env} {s : State} {m : MethodId} {args : Array Value} {below : List Frame} {meth : Method} {c : Code} (C : zzCx p m meth c s args cX12_daysPass 3 wsX12_daysPass RX12 (some .boolean) Z) (p0 : Int32)  (σ : zzS) : zzGO p l e rX12_daysPass s m args below meth c 3 (zzA base) (zzM Z base PL mm) (zzM Z base PL mm) zzRI rX12_daysPass.cells rX12_daysPass.slots (f_X12_daysPass p0 σ) σ 0 0 0 [(0, .ref (zzad Z 36)), (1, .int p0)] [] := by
  unfold f_X12_daysPass
  refine zz_iload_n C dX12_daysPass_0 rfl 1 rfl ?_
  refine zz_if_le (tgt := 20) C dX12_daysPass_1 (by decide) (fun h1 => ?_) (fun h1 => ?_)
  · refine zz_sub (loc' := [(0, .ref (zzad Z 36)), (1, .int p0)]) [0, 1] rfl ?_
    exact w_X12_daysPass_20 C p0 σ
  · refine zz_aload_n C dX12_daysPass_4 rfl 0 rfl ?_
    refine zz_get C zzM_obj (fun _ h9 => List.mem_cons_of_mem _ (List.mem_append_right _ (h9))) rfl 6 (by decide) (List.mem_of_getElem? (i := 1) rfl) (Or.inl rfl) rfl dX12_daysPass_5 ?_
    refine zz_iload_n C dX12_daysPass_8 rfl 1 rfl ?_
    refine zz_iadd C dX12_daysPass_9 ?_
    refine zz_sipush (v := 999) C dX12_daysPass_10 (by decide) ?_
    refine zz_icmp_gt (tgt := 20) C dX12_daysPass_13 (by decide) (fun h2 => ?_) (fun h2 => ?_)
    · refine zz_sub (loc' := [(0, .ref (zzad Z 36)), (1, .int p0)]) [0, 1] rfl ?_
      exact w_X12_daysPass_20 C p0 σ
    · refine zz_iconst (v := 1) C dX12_daysPass_16 (by decide) ?_
      refine zz_goto (tgt := 21) C dX12_daysPass_17 (by decide) ?_
      refine zz_sub (loc' := [(0, .ref (zzad Z 36)), (1, .int p0)]) [0, 1] rfl ?_
      exact w_X12_daysPass_21 C p0 (1 : Int32) σ
set_option maxHeartbeats 4000000 in
set_option maxRecDepth 100000 in
theorem k_X12_daysPass {l : Launch} {Z : zzG} {base : Nat} {PL : Nat → Option (Nat × Int32)} {mm : zzS} (p0 : Int32)  (σ : zzS) : zzCT l yX12_daysPass wsX12_daysPass rX12_daysPass (zzA base) Z (zzM Z base PL mm) (zzM Z base PL mm) zzRI [.ref (zzad Z 36), .int p0] (f_X12_daysPass p0 σ) σ :=
  zzCT_of (cc := cX12_daysPass) (nL := 3) (ret := (some .boolean)) (by decide) rfl (Nat.le_of_ble_eq_true rfl) [(0, .ref (zzad Z 36)), (1, .int p0)] rfl (fun p e s m args below meth c C => w_X12_daysPass_e C p0 σ)
abbrev rX12_turning : Room := { frames := 3, cells := 0, slots := 0, locals := 68 }

set_option maxHeartbeats 4000000 in
set_option maxRecDepth 100000 in
theorem w_X12_turning_31 {l : Launch} {Z : zzG} {base : Nat} {PL : Nat → Option (Nat × Int32)} {mm : zzS} {p : Program} {e : Env} {s : State} {m : MethodId} {args : Array Value} {below : List Frame} {meth : Method} {c : Code} (C : zzCx p m meth c s args cX12_turning 4 wsX12_turning RX12 (some .boolean) Z) (p0 : Int32)  (p1 : Int32)   (s0 : Int32)  (σ : zzS) : zzGO p l e rX12_turning s m args below meth c 4 (zzA base) (zzM Z base PL mm) (zzM Z base PL mm) zzRI rX12_turning.cells rX12_turning.slots (f_X12_turning_31 p0 p1 s0 σ) σ 0 0 31 [(0, .ref (zzad Z 36)), (1, .int p0), (2, .int p1)] [.int s0] := by
  unfold f_X12_turning_31
  refine zz_istore_n (loc' := [(3, .int s0), (0, .ref (zzad Z 36)), (1, .int p0), (2, .int p1)]) C dX12_turning_31 rfl (by decide) rfl ?_
  refine zz_iload_n C dX12_turning_32 rfl 0 rfl ?_
  refine zz_if_eq (tgt := 42) C dX12_turning_33 (by decide) (fun h1 => ?_) (fun h1 => ?_)
  · refine zz_iload_n C dX12_turning_42 rfl 0 rfl ?_
    refine zz_gd (fun h2 => ?_)
    exact zz_zret C rfl h2 rfl (fun _ h9 => h9) (Nat.zero_le _) (Nat.zero_le _) dX12_turning_43
  · refine zz_aload_n C dX12_turning_36 rfl 1 rfl ?_
    refine zz_iload_n C dX12_turning_37 rfl 2 rfl ?_
    refine zz_iload_n C dX12_turning_38 rfl 3 rfl ?_
    refine zz_callV C (Cn := RX12) (b := zzad Z 36) (fun H hH => zz_recv C.2.2.2 (zzM_obj H hH) rfl) (As := [.int p0, .int p1]) (rest := []) rfl (k_X12_turnCards p0 p1 σ) (cwV 2 C.1.2.2.2.2 gX12_turning_X12_turnCards rfl rfl rfl (by decide +kernel) ⟨Nat.le_of_ble_eq_true rfl, Nat.le_of_ble_eq_true rfl⟩) rfl (Nat.le_of_ble_eq_true rfl) ⟨Nat.zero_le _, Nat.zero_le _⟩ dX12_turning_39 (zz_kV rfl rfl (fun r3 σ4 => ?_))
    refine zz_iload_n C dX12_turning_42 rfl 0 rfl ?_
    refine zz_gd (fun h5 => ?_)
    exact zz_zret C rfl h5 rfl (fun _ h9 => h9) (Nat.zero_le _) (Nat.zero_le _) dX12_turning_43
set_option maxHeartbeats 4000000 in
set_option maxRecDepth 100000 in
theorem w_X12_turning_30 {l : Launch} {Z : zzG} {base : Nat} {PL : Nat → Option (Nat × Int32)} {mm : zzS} {p : Program} {e : Env} {s : State} {m : MethodId} {args : Array Value} {below : List Frame} {meth : Method} {c : Code} (C : zzCx p m meth c s args cX12_turning 4 wsX12_turning RX12 (some .boolean) Z) (p0 : Int32)  (p1 : Int32)    (σ : zzS) : zzGO p l e rX12_turning s m args below meth c 4 (zzA base) (zzM Z base PL mm) (zzM Z base PL mm) zzRI rX12_turning.cells rX12_turning.slots (f_X12_turning_30 p0 p1 σ) σ 0 0 30 [(0, .ref (zzad Z 36)), (1, .int p0), (2, .int p1)] [] := by
  unfold f_X12_turning_30
  refine zz_iconst (v := 0) C dX12_turning_30 (by decide) ?_
  refine zz_sub (loc' := [(0, .ref (zzad Z 36)), (1, .int p0), (2, .int p1)]) [0, 1, 2] rfl ?_
  exact w_X12_turning_31 C p0 p1 (0 : Int32) σ
set_option maxHeartbeats 4000000 in
set_option maxRecDepth 100000 in
theorem w_X12_turning_e {l : Launch} {Z : zzG} {base : Nat} {PL : Nat → Option (Nat × Int32)} {mm : zzS} {p : Program} {e : Env} {s : State} {m : MethodId} {args : Array Value} {below : List Frame} {meth : Method} {c : Code} (C : zzCx p m meth c s args cX12_turning 4 wsX12_turning RX12 (some .boolean) Z) (p0 : Int32)  (p1 : Int32)  (σ : zzS) : zzGO p l e rX12_turning s m args below meth c 4 (zzA base) (zzM Z base PL mm) (zzM Z base PL mm) zzRI rX12_turning.cells rX12_turning.slots (f_X12_turning p0 p1 σ) σ 0 0 0 [(0, .ref (zzad Z 36)), (1, .int p0), (2, .int p1)] [] := by
  unfold f_X12_turning
  refine zz_aload_n C dX12_turning_0 rfl 0 rfl ?_
  refine zz_iload_n C dX12_turning_1 rfl 1 rfl ?_
  refine zz_iload_n C dX12_turning_2 rfl 2 rfl ?_
  refine zz_callV C (Cn := RX12) (b := zzad Z 36) (fun H hH => zz_recv C.2.2.2 (zzM_obj H hH) rfl) (As := [.int p0, .int p1]) (rest := []) rfl (k_X12_areTwo p0 p1 σ) (cwV 2 C.1.2.2.2.2 gX12_turning_X12_areTwo rfl rfl rfl (by decide +kernel) ⟨Nat.le_of_ble_eq_true rfl, Nat.le_of_ble_eq_true rfl⟩) rfl (Nat.le_of_ble_eq_true rfl) ⟨Nat.zero_le _, Nat.zero_le _⟩ dX12_turning_3 (zz_kI rfl rfl (fun r1 σ2 => ?_))
  refine zz_if_eq (tgt := 30) C dX12_turning_6 (by decide) (fun h3 => ?_) (fun h3 => ?_)
  · refine zz_sub (loc' := [(0, .ref (zzad Z 36)), (1, .int p0), (2, .int p1)]) [0, 1, 2] rfl ?_
    exact w_X12_turning_30 C p0 p1 σ2
  · refine zz_aload_n C dX12_turning_9 rfl 0 rfl ?_
    refine zz_iload_n C dX12_turning_10 rfl 1 rfl ?_
    refine zz_iload_n C dX12_turning_11 rfl 2 rfl ?_
    refine zz_callV C (Cn := RX12) (b := zzad Z 36) (fun H hH => zz_recv C.2.2.2 (zzM_obj H hH) rfl) (As := [.int p0, .int p1]) (rest := []) rfl (k_X12_canTurn p0 p1 σ2) (cwV 2 C.1.2.2.2.2 gX12_turning_X12_canTurn rfl rfl rfl (by decide +kernel) ⟨Nat.le_of_ble_eq_true rfl, Nat.le_of_ble_eq_true rfl⟩) rfl (Nat.le_of_ble_eq_true rfl) ⟨Nat.zero_le _, Nat.zero_le _⟩ dX12_turning_12 (zz_kI rfl rfl (fun r4 σ5 => ?_))
    refine zz_if_eq (tgt := 30) C dX12_turning_15 (by decide) (fun h6 => ?_) (fun h6 => ?_)
    · refine zz_sub (loc' := [(0, .ref (zzad Z 36)), (1, .int p0), (2, .int p1)]) [0, 1, 2] rfl ?_
      exact w_X12_turning_30 C p0 p1 σ5
    · refine zz_aload_n C dX12_turning_18 rfl 0 rfl ?_
      refine zz_iconst (v := 1) C dX12_turning_19 (by decide) ?_
      refine zz_callV C (Cn := RX12) (b := zzad Z 36) (fun H hH => zz_recv C.2.2.2 (zzM_obj H hH) rfl) (As := [.int (1 : Int32)]) (rest := []) rfl (k_X12_daysPass (1 : Int32) σ5) (cwV 1 C.1.2.2.2.2 gX12_turning_X12_daysPass rfl rfl rfl (by decide +kernel) ⟨Nat.le_of_ble_eq_true rfl, Nat.le_of_ble_eq_true rfl⟩) rfl (Nat.le_of_ble_eq_true rfl) ⟨Nat.zero_le _, Nat.zero_le _⟩ dX12_turning_20 (zz_kI rfl rfl (fun r7 σ8 => ?_))
      refine zz_if_eq (tgt := 30) C dX12_turning_23 (by decide) (fun h9 => ?_) (fun h9 => ?_)
      · refine zz_sub (loc' := [(0, .ref (zzad Z 36)), (1, .int p0), (2, .int p1)]) [0, 1, 2] rfl ?_
        exact w_X12_turning_30 C p0 p1 σ8
      · refine zz_iconst (v := 1) C dX12_turning_26 (by decide) ?_
        refine zz_goto (tgt := 31) C dX12_turning_27 (by decide) ?_
        refine zz_sub (loc' := [(0, .ref (zzad Z 36)), (1, .int p0), (2, .int p1)]) [0, 1, 2] rfl ?_
        exact w_X12_turning_31 C p0 p1 (1 : Int32) σ8
set_option maxHeartbeats 4000000 in
set_option maxRecDepth 100000 in
theorem k_X12_turning {l : Launch} {Z : zzG} {base : Nat} {PL : Nat → Option (Nat × Int32)} {mm : zzS} (p0 : Int32)  (p1 : Int32)  (σ : zzS) : zzCT l yX12_turning wsX12_turning rX12_turning (zzA base) Z (zzM Z base PL mm) (zzM Z base PL mm) zzRI [.ref (zzad Z 36), .int p0, .int p1] (f_X12_turning p0 p1 σ) σ :=
  zzCT_of (cc := cX12_turning) (nL := 4) (ret := (some .boolean)) (by decide) rfl (Nat.le_of_ble_eq_true rfl) [(0, .ref (zzad Z 36)), (1, .int p0), (2, .int p1)] rfl (fun p e s m args below meth c C => w_X12_turning_e C p0 p1 σ)
abbrev rX12_comesTold : Room := { frames := 4, cells := 0, slots := 0, locals := 91 }

set_option maxHeartbeats 4000000 in
set_option maxRecDepth 100000 in
theorem w_X12_comesTold_170 {l : Launch} {Z : zzG} {base : Nat} {PL : Nat → Option (Nat × Int32)} {mm : zzS} {p : Program} {e : Env} {s : State} {m : MethodId} {args : Array Value} {below : List Frame} {meth : Method} {c : Code} (C : zzCx p m meth c s args cX12_comesTold 5 wsX12_comesTold RX12 (some .boolean) Z) (p0 : Int32)   (l2 : Int32)  (l3 : Int32)  (s0 : Int32)  (σ : zzS) : zzGO p l e rX12_comesTold s m args below meth c 5 (zzA base) (zzM Z base PL mm) (zzM Z base PL mm) zzRI rX12_comesTold.cells rX12_comesTold.slots (f_X12_comesTold_170 p0 l2 l3 s0 σ) σ 0 0 170 [(0, .ref (zzad Z 36)), (2, .int l2), (3, .int l3)] [.int s0] := by
  unfold f_X12_comesTold_170
  refine zz_istore (loc' := [(4, .int s0), (0, .ref (zzad Z 36)), (2, .int l2), (3, .int l3)]) C dX12_comesTold_170 (by decide) rfl ?_
  refine zz_iload C dX12_comesTold_172 0 rfl ?_
  refine zz_if_eq (tgt := 183) C dX12_comesTold_174 (by decide) (fun h1 => ?_) (fun h1 => ?_)
  · refine zz_iload C dX12_comesTold_183 0 rfl ?_
    refine zz_gd (fun h2 => ?_)
    exact zz_zret C rfl h2 rfl (fun _ h9 => h9) (Nat.zero_le _) (Nat.zero_le _) dX12_comesTold_185
  · refine zz_aload_n C dX12_comesTold_177 rfl 1 rfl ?_
    refine zz_iload_n C dX12_comesTold_178 rfl 2 rfl ?_
    refine zz_iload_n C dX12_comesTold_179 rfl 3 rfl ?_
    refine zz_callV C (Cn := RX12) (b := zzad Z 36) (fun H hH => zz_recv C.2.2.2 (zzM_obj H hH) rfl) (As := [.int l2, .int l3]) (rest := []) rfl (k_X12_grow l2 l3 σ) (cwV 2 C.1.2.2.2.2 gX12_comesTold_X12_grow rfl rfl rfl (by decide +kernel) ⟨Nat.le_of_ble_eq_true rfl, Nat.le_of_ble_eq_true rfl⟩) rfl (Nat.le_of_ble_eq_true rfl) ⟨Nat.zero_le _, Nat.zero_le _⟩ dX12_comesTold_180 (zz_kV rfl rfl (fun r3 σ4 => ?_))
    refine zz_iload C dX12_comesTold_183 0 rfl ?_
    refine zz_gd (fun h5 => ?_)
    exact zz_zret C rfl h5 rfl (fun _ h9 => h9) (Nat.zero_le _) (Nat.zero_le _) dX12_comesTold_185
set_option maxHeartbeats 4000000 in
set_option maxRecDepth 100000 in
theorem w_X12_comesTold_169 {l : Launch} {Z : zzG} {base : Nat} {PL : Nat → Option (Nat × Int32)} {mm : zzS} {p : Program} {e : Env} {s : State} {m : MethodId} {args : Array Value} {below : List Frame} {meth : Method} {c : Code} (C : zzCx p m meth c s args cX12_comesTold 5 wsX12_comesTold RX12 (some .boolean) Z) (p0 : Int32)   (l2 : Int32)  (l3 : Int32)  (σ : zzS) : zzGO p l e rX12_comesTold s m args below meth c 5 (zzA base) (zzM Z base PL mm) (zzM Z base PL mm) zzRI rX12_comesTold.cells rX12_comesTold.slots (f_X12_comesTold_169 p0 l2 l3 σ) σ 0 0 169 [(0, .ref (zzad Z 36)), (2, .int l2), (3, .int l3)] [] := by
  unfold f_X12_comesTold_169
  refine zz_iconst (v := 0) C dX12_comesTold_169 (by decide) ?_
  refine zz_sub (loc' := [(0, .ref (zzad Z 36)), (2, .int l2), (3, .int l3)]) [0, 1, 2] rfl ?_
  exact w_X12_comesTold_170 C p0 l2 l3 (0 : Int32) σ
set_option maxHeartbeats 4000000 in
set_option maxRecDepth 100000 in
theorem w_X12_comesTold_e {l : Launch} {Z : zzG} {base : Nat} {PL : Nat → Option (Nat × Int32)} {mm : zzS} {p : Program} {e : Env} {s : State} {m : MethodId} {args : Array Value} {below : List Frame} {meth : Method} {c : Code} (C : zzCx p m meth c s args cX12_comesTold 5 wsX12_comesTold RX12 (some .boolean) Z) (p0 : Int32)  (σ : zzS) : zzGO p l e rX12_comesTold s m args below meth c 5 (zzA base) (zzM Z base PL mm) (zzM Z base PL mm) zzRI rX12_comesTold.cells rX12_comesTold.slots (f_X12_comesTold p0 σ) σ 0 0 0 [(0, .ref (zzad Z 36)), (1, .int p0)] [] := by
  unfold f_X12_comesTold
  refine zz_aload_n C dX12_comesTold_0 rfl 0 rfl ?_
  refine zz_get C zzM_obj (fun _ h9 => List.mem_cons_of_mem _ (List.mem_append_right _ (h9))) rfl 20 (by decide) (List.mem_of_getElem? (i := 1) rfl) (Or.inl rfl) rfl dX12_comesTold_1 ?_
  refine zz_iconst (v := 3) C dX12_comesTold_4 (by decide) ?_
  refine zz_iload_n C dX12_comesTold_5 rfl 1 rfl ?_
  refine zz_imul C dX12_comesTold_6 ?_
  refine zz_gd (fun h1 => ?_)
  refine zz_iald C (zzM_arr (by decide)) h1 dX12_comesTold_7 ?_
  refine zz_istoreX_n (locf := fun x2 => [(2, .int x2), (0, .ref (zzad Z 36)), (1, .int p0)]) C dX12_comesTold_8 rfl (by decide) (fun _ => rfl) (fun x2 => ?_)
  refine zz_aload_n C dX12_comesTold_9 rfl 1 rfl ?_
  refine zz_get C zzM_obj (fun _ h9 => List.mem_cons_of_mem _ (List.mem_append_right _ (h9))) rfl 20 (by decide) (List.mem_of_getElem? (i := 1) rfl) (Or.inl rfl) rfl dX12_comesTold_10 ?_
  refine zz_iconst (v := 3) C dX12_comesTold_13 (by decide) ?_
  refine zz_iload_n C dX12_comesTold_14 rfl 2 rfl ?_
  refine zz_imul C dX12_comesTold_15 ?_
  refine zz_iconst (v := 1) C dX12_comesTold_16 (by decide) ?_
  refine zz_iadd C dX12_comesTold_17 ?_
  refine zz_gd (fun h3 => ?_)
  refine zz_iald C (zzM_arr (by decide)) h3 dX12_comesTold_18 ?_
  refine zz_istoreX_n (locf := fun x4 => [(3, .int x4), (2, .int x2), (0, .ref (zzad Z 36)), (1, .int p0)]) C dX12_comesTold_19 rfl (by decide) (fun _ => rfl) (fun x4 => ?_)
  refine zz_iconst (v := 1) C dX12_comesTold_20 (by decide) ?_
  refine zz_istore (loc' := [(4, .int (1 : Int32)), (3, .int x4), (2, .int x2), (0, .ref (zzad Z 36)), (1, .int p0)]) C dX12_comesTold_21 (by decide) rfl ?_
  refine zz_aload_n C dX12_comesTold_23 rfl 3 rfl ?_
  refine zz_get C zzM_obj (fun _ h9 => List.mem_cons_of_mem _ (List.mem_append_right _ (h9))) rfl 19 (by decide) (List.mem_of_getElem? (i := 2) rfl) (Or.inl rfl) rfl dX12_comesTold_24 ?_
  refine zz_iload_n C dX12_comesTold_27 rfl 4 rfl ?_
  refine zz_gd (fun h5 => ?_)
  refine zz_iald C (zzM_arr (by decide)) h5 dX12_comesTold_28 ?_
  refine zz_ite (fun h6 => ?_) (fun h6 => ?_)
  · refine zz_tblIn (off := 82) (tgt := 111) C dX12_comesTold_29 (by rw [h6]; decide) (by rw [h6]; decide) (by rw [h6]; rfl) (by decide) ?_
    refine zz_aload_n C dX12_comesTold_111 rfl 3 rfl ?_
    refine zz_iload_n C dX12_comesTold_112 rfl 2 rfl ?_
    refine zz_iload_n C dX12_comesTold_113 rfl 1 rfl ?_
    refine zz_callV C (Cn := RX12) (b := zzad Z 36) (fun H hH => zz_recv C.2.2.2 (zzM_obj H hH) rfl) (As := [.int x2, .int x4]) (rest := []) rfl (k_X12_areTwo x2 x4 σ) (cwV 2 C.1.2.2.2.2 gX12_comesTold_X12_areTwo rfl rfl rfl (by decide +kernel) ⟨Nat.le_of_ble_eq_true rfl, Nat.le_of_ble_eq_true rfl⟩) rfl (Nat.le_of_ble_eq_true rfl) ⟨Nat.zero_le _, Nat.zero_le _⟩ dX12_comesTold_114 (zz_kI rfl rfl (fun r21 σ22 => ?_))
    refine zz_istore (loc' := [(4, .int r21), (3, .int x4), (2, .int x2), (0, .ref (zzad Z 36)), (1, .int p0)]) C dX12_comesTold_117 (by decide) rfl ?_
    refine zz_iload C dX12_comesTold_119 0 rfl ?_
    refine zz_if_eq (tgt := 145) C dX12_comesTold_121 (by decide) (fun h23 => ?_) (fun h23 => ?_)
    · refine zz_iload C dX12_comesTold_145 0 rfl ?_
      refine zz_gd (fun h24 => ?_)
      exact zz_zret C rfl h24 rfl (fun _ h9 => h9) (Nat.zero_le _) (Nat.zero_le _) dX12_comesTold_147
    · refine zz_aload_n C dX12_comesTold_124 rfl 3 rfl ?_
      refine zz_get C zzM_obj (fun _ h9 => List.mem_cons_of_mem _ (List.mem_append_right _ (h9))) rfl 4 (by decide) (List.mem_of_getElem? (i := 3) rfl) (Or.inl rfl) rfl dX12_comesTold_125 ?_
      refine zz_bipush (v := 7) C dX12_comesTold_128 (by decide) ?_
      refine zz_iload_n C dX12_comesTold_130 rfl 2 rfl ?_
      refine zz_imul C dX12_comesTold_131 ?_
      refine zz_iload_n C dX12_comesTold_132 rfl 1 rfl ?_
      refine zz_iadd C dX12_comesTold_133 ?_
      refine zz_aload_n C dX12_comesTold_134 rfl 3 rfl ?_
      refine zz_get C zzM_obj (fun _ h9 => List.mem_cons_of_mem _ (List.mem_append_right _ (h9))) rfl 20 (by decide) (List.mem_of_getElem? (i := 1) rfl) (Or.inl rfl) rfl dX12_comesTold_135 ?_
      refine zz_iconst (v := 3) C dX12_comesTold_138 (by decide) ?_
      refine zz_iload_n C dX12_comesTold_139 rfl 4 rfl ?_
      refine zz_imul C dX12_comesTold_140 ?_
      refine zz_iconst (v := 2) C dX12_comesTold_141 (by decide) ?_
      refine zz_iadd C dX12_comesTold_142 ?_
      refine zz_gd (fun h25 => ?_)
      refine zz_iald C (zzM_arr (by decide)) h25 dX12_comesTold_143 ?_
      refine zz_gd (fun h26 => ?_)
      refine zz_iast C (zzM_arr (by decide)) h26 (zzM_uarr (by decide)) (zzA_M (zzMarr_lt (by decide))) dX12_comesTold_144 ?_
      refine zz_ltS (fun σ27 => ?_)
      refine zz_iload C dX12_comesTold_145 0 rfl ?_
      refine zz_gd (fun h28 => ?_)
      exact zz_zret C rfl h28 rfl (fun _ h9 => h9) (Nat.zero_le _) (Nat.zero_le _) dX12_comesTold_147
  · skip
    refine zz_ite (fun h7 => ?_) (fun h7 => ?_)
    · refine zz_tblIn (off := 171) (tgt := 200) C dX12_comesTold_29 (by rw [h7]; decide) (by rw [h7]; decide) (by rw [h7]; rfl) (by decide) ?_
      refine zz_aload_n C dX12_comesTold_200 rfl 3 rfl ?_
      refine zz_bipush (v := 10) C dX12_comesTold_201 (by decide) ?_
      refine zz_iload_n C dX12_comesTold_203 rfl 2 rfl ?_
      refine zz_imul C dX12_comesTold_204 ?_
      refine zz_iload_n C dX12_comesTold_205 rfl 1 rfl ?_
      refine zz_iadd C dX12_comesTold_206 ?_
      refine zz_callV C (Cn := RX12) (b := zzad Z 36) (fun H hH => zz_recv C.2.2.2 (zzM_obj H hH) rfl) (As := [.int (((10 : Int32) * x2) + x4)]) (rest := []) rfl (k_X12_daysPass (((10 : Int32) * x2) + x4) σ) (cwV 1 C.1.2.2.2.2 gX12_comesTold_X12_daysPass rfl rfl rfl (by decide +kernel) ⟨Nat.le_of_ble_eq_true rfl, Nat.le_of_ble_eq_true rfl⟩) rfl (Nat.le_of_ble_eq_true rfl) ⟨Nat.zero_le _, Nat.zero_le _⟩ dX12_comesTold_207 (zz_kI rfl rfl (fun r29 σ30 => ?_))
      refine zz_gd (fun h31 => ?_)
      exact zz_zret C rfl h31 rfl (fun _ h9 => h9) (Nat.zero_le _) (Nat.zero_le _) dX12_comesTold_210
    · skip
      refine zz_ite (fun h8 => ?_) (fun h8 => ?_)
      · refine zz_tblIn (off := 171) (tgt := 200) C dX12_comesTold_29 (by rw [h8]; decide) (by rw [h8]; decide) (by rw [h8]; rfl) (by decide) ?_
        refine zz_aload_n C dX12_comesTold_200 rfl 3 rfl ?_
        refine zz_bipush (v := 10) C dX12_comesTold_201 (by decide) ?_
        refine zz_iload_n C dX12_comesTold_203 rfl 2 rfl ?_
        refine zz_imul C dX12_comesTold_204 ?_
        refine zz_iload_n C dX12_comesTold_205 rfl 1 rfl ?_
        refine zz_iadd C dX12_comesTold_206 ?_
        refine zz_callV C (Cn := RX12) (b := zzad Z 36) (fun H hH => zz_recv C.2.2.2 (zzM_obj H hH) rfl) (As := [.int (((10 : Int32) * x2) + x4)]) (rest := []) rfl (k_X12_daysPass (((10 : Int32) * x2) + x4) σ) (cwV 1 C.1.2.2.2.2 gX12_comesTold_X12_daysPass rfl rfl rfl (by decide +kernel) ⟨Nat.le_of_ble_eq_true rfl, Nat.le_of_ble_eq_true rfl⟩) rfl (Nat.le_of_ble_eq_true rfl) ⟨Nat.zero_le _, Nat.zero_le _⟩ dX12_comesTold_207 (zz_kI rfl rfl (fun r32 σ33 => ?_))
        refine zz_gd (fun h34 => ?_)
        exact zz_zret C rfl h34 rfl (fun _ h9 => h9) (Nat.zero_le _) (Nat.zero_le _) dX12_comesTold_210
      · skip
        refine zz_ite (fun h9 => ?_) (fun h9 => ?_)
        · refine zz_tblIn (off := 171) (tgt := 200) C dX12_comesTold_29 (by rw [h9]; decide) (by rw [h9]; decide) (by rw [h9]; rfl) (by decide) ?_
          refine zz_aload_n C dX12_comesTold_200 rfl 3 rfl ?_
          refine zz_bipush (v := 10) C dX12_comesTold_201 (by decide) ?_
          refine zz_iload_n C dX12_comesTold_203 rfl 2 rfl ?_
          refine zz_imul C dX12_comesTold_204 ?_
          refine zz_iload_n C dX12_comesTold_205 rfl 1 rfl ?_
          refine zz_iadd C dX12_comesTold_206 ?_
          refine zz_callV C (Cn := RX12) (b := zzad Z 36) (fun H hH => zz_recv C.2.2.2 (zzM_obj H hH) rfl) (As := [.int (((10 : Int32) * x2) + x4)]) (rest := []) rfl (k_X12_daysPass (((10 : Int32) * x2) + x4) σ) (cwV 1 C.1.2.2.2.2 gX12_comesTold_X12_daysPass rfl rfl rfl (by decide +kernel) ⟨Nat.le_of_ble_eq_true rfl, Nat.le_of_ble_eq_true rfl⟩) rfl (Nat.le_of_ble_eq_true rfl) ⟨Nat.zero_le _, Nat.zero_le _⟩ dX12_comesTold_207 (zz_kI rfl rfl (fun r35 σ36 => ?_))
          refine zz_gd (fun h37 => ?_)
          exact zz_zret C rfl h37 rfl (fun _ h9 => h9) (Nat.zero_le _) (Nat.zero_le _) dX12_comesTold_210
        · skip
          refine zz_ite (fun h10 => ?_) (fun h10 => ?_)
          · refine zz_tblIn (off := 171) (tgt := 200) C dX12_comesTold_29 (by rw [h10]; decide) (by rw [h10]; decide) (by rw [h10]; rfl) (by decide) ?_
            refine zz_aload_n C dX12_comesTold_200 rfl 3 rfl ?_
            refine zz_bipush (v := 10) C dX12_comesTold_201 (by decide) ?_
            refine zz_iload_n C dX12_comesTold_203 rfl 2 rfl ?_
            refine zz_imul C dX12_comesTold_204 ?_
            refine zz_iload_n C dX12_comesTold_205 rfl 1 rfl ?_
            refine zz_iadd C dX12_comesTold_206 ?_
            refine zz_callV C (Cn := RX12) (b := zzad Z 36) (fun H hH => zz_recv C.2.2.2 (zzM_obj H hH) rfl) (As := [.int (((10 : Int32) * x2) + x4)]) (rest := []) rfl (k_X12_daysPass (((10 : Int32) * x2) + x4) σ) (cwV 1 C.1.2.2.2.2 gX12_comesTold_X12_daysPass rfl rfl rfl (by decide +kernel) ⟨Nat.le_of_ble_eq_true rfl, Nat.le_of_ble_eq_true rfl⟩) rfl (Nat.le_of_ble_eq_true rfl) ⟨Nat.zero_le _, Nat.zero_le _⟩ dX12_comesTold_207 (zz_kI rfl rfl (fun r38 σ39 => ?_))
            refine zz_gd (fun h40 => ?_)
            exact zz_zret C rfl h40 rfl (fun _ h9 => h9) (Nat.zero_le _) (Nat.zero_le _) dX12_comesTold_210
          · skip
            refine zz_ite (fun h11 => ?_) (fun h11 => ?_)
            · refine zz_tblIn (off := 171) (tgt := 200) C dX12_comesTold_29 (by rw [h11]; decide) (by rw [h11]; decide) (by rw [h11]; rfl) (by decide) ?_
              refine zz_aload_n C dX12_comesTold_200 rfl 3 rfl ?_
              refine zz_bipush (v := 10) C dX12_comesTold_201 (by decide) ?_
              refine zz_iload_n C dX12_comesTold_203 rfl 2 rfl ?_
              refine zz_imul C dX12_comesTold_204 ?_
              refine zz_iload_n C dX12_comesTold_205 rfl 1 rfl ?_
              refine zz_iadd C dX12_comesTold_206 ?_
              refine zz_callV C (Cn := RX12) (b := zzad Z 36) (fun H hH => zz_recv C.2.2.2 (zzM_obj H hH) rfl) (As := [.int (((10 : Int32) * x2) + x4)]) (rest := []) rfl (k_X12_daysPass (((10 : Int32) * x2) + x4) σ) (cwV 1 C.1.2.2.2.2 gX12_comesTold_X12_daysPass rfl rfl rfl (by decide +kernel) ⟨Nat.le_of_ble_eq_true rfl, Nat.le_of_ble_eq_true rfl⟩) rfl (Nat.le_of_ble_eq_true rfl) ⟨Nat.zero_le _, Nat.zero_le _⟩ dX12_comesTold_207 (zz_kI rfl rfl (fun r41 σ42 => ?_))
              refine zz_gd (fun h43 => ?_)
              exact zz_zret C rfl h43 rfl (fun _ h9 => h9) (Nat.zero_le _) (Nat.zero_le _) dX12_comesTold_210
            · skip
              refine zz_ite (fun h12 => ?_) (fun h12 => ?_)
              · refine zz_tblIn (off := 164) (tgt := 193) C dX12_comesTold_29 (by rw [h12]; decide) (by rw [h12]; decide) (by rw [h12]; rfl) (by decide) ?_
                refine zz_aload_n C dX12_comesTold_193 rfl 3 rfl ?_
                refine zz_iload_n C dX12_comesTold_194 rfl 2 rfl ?_
                refine zz_put (ty := .int) C zzM_obj (fun _ h9 => List.mem_cons_of_mem _ (List.mem_append_right _ (h9))) rfl 5 (by decide) (List.mem_of_getElem? (i := 4) rfl) rfl tyX12_ok nmX12 rfl (by decide +kernel) rfl rfl (Nat.le_of_ble_eq_true rfl) (zzM_uobj (by decide)) (zzA_M (by decide)) dX12_comesTold_195 ?_
                refine zz_ltS (fun σ44 => ?_)
                refine zz_iconst (v := 1) C dX12_comesTold_198 (by decide) ?_
                exact zz_zret C rfl (Or.inr rfl) rfl (fun _ h9 => h9) (Nat.zero_le _) (Nat.zero_le _) dX12_comesTold_199
              · skip
                refine zz_ite (fun h13 => ?_) (fun h13 => ?_)
                · refine zz_tblIn (off := 171) (tgt := 200) C dX12_comesTold_29 (by rw [h13]; decide) (by rw [h13]; decide) (by rw [h13]; rfl) (by decide) ?_
                  refine zz_aload_n C dX12_comesTold_200 rfl 3 rfl ?_
                  refine zz_bipush (v := 10) C dX12_comesTold_201 (by decide) ?_
                  refine zz_iload_n C dX12_comesTold_203 rfl 2 rfl ?_
                  refine zz_imul C dX12_comesTold_204 ?_
                  refine zz_iload_n C dX12_comesTold_205 rfl 1 rfl ?_
                  refine zz_iadd C dX12_comesTold_206 ?_
                  refine zz_callV C (Cn := RX12) (b := zzad Z 36) (fun H hH => zz_recv C.2.2.2 (zzM_obj H hH) rfl) (As := [.int (((10 : Int32) * x2) + x4)]) (rest := []) rfl (k_X12_daysPass (((10 : Int32) * x2) + x4) σ) (cwV 1 C.1.2.2.2.2 gX12_comesTold_X12_daysPass rfl rfl rfl (by decide +kernel) ⟨Nat.le_of_ble_eq_true rfl, Nat.le_of_ble_eq_true rfl⟩) rfl (Nat.le_of_ble_eq_true rfl) ⟨Nat.zero_le _, Nat.zero_le _⟩ dX12_comesTold_207 (zz_kI rfl rfl (fun r45 σ46 => ?_))
                  refine zz_gd (fun h47 => ?_)
                  exact zz_zret C rfl h47 rfl (fun _ h9 => h9) (Nat.zero_le _) (Nat.zero_le _) dX12_comesTold_210
                · skip
                  refine zz_ite (fun h14 => ?_) (fun h14 => ?_)
                  · refine zz_tblIn (off := 171) (tgt := 200) C dX12_comesTold_29 (by rw [h14]; decide) (by rw [h14]; decide) (by rw [h14]; rfl) (by decide) ?_
                    refine zz_aload_n C dX12_comesTold_200 rfl 3 rfl ?_
                    refine zz_bipush (v := 10) C dX12_comesTold_201 (by decide) ?_
                    refine zz_iload_n C dX12_comesTold_203 rfl 2 rfl ?_
                    refine zz_imul C dX12_comesTold_204 ?_
                    refine zz_iload_n C dX12_comesTold_205 rfl 1 rfl ?_
                    refine zz_iadd C dX12_comesTold_206 ?_
                    refine zz_callV C (Cn := RX12) (b := zzad Z 36) (fun H hH => zz_recv C.2.2.2 (zzM_obj H hH) rfl) (As := [.int (((10 : Int32) * x2) + x4)]) (rest := []) rfl (k_X12_daysPass (((10 : Int32) * x2) + x4) σ) (cwV 1 C.1.2.2.2.2 gX12_comesTold_X12_daysPass rfl rfl rfl (by decide +kernel) ⟨Nat.le_of_ble_eq_true rfl, Nat.le_of_ble_eq_true rfl⟩) rfl (Nat.le_of_ble_eq_true rfl) ⟨Nat.zero_le _, Nat.zero_le _⟩ dX12_comesTold_207 (zz_kI rfl rfl (fun r48 σ49 => ?_))
                    refine zz_gd (fun h50 => ?_)
                    exact zz_zret C rfl h50 rfl (fun _ h9 => h9) (Nat.zero_le _) (Nat.zero_le _) dX12_comesTold_210
                  · skip
                    refine zz_ite (fun h15 => ?_) (fun h15 => ?_)
                    · refine zz_tblIn (off := 171) (tgt := 200) C dX12_comesTold_29 (by rw [h15]; decide) (by rw [h15]; decide) (by rw [h15]; rfl) (by decide) ?_
                      refine zz_aload_n C dX12_comesTold_200 rfl 3 rfl ?_
                      refine zz_bipush (v := 10) C dX12_comesTold_201 (by decide) ?_
                      refine zz_iload_n C dX12_comesTold_203 rfl 2 rfl ?_
                      refine zz_imul C dX12_comesTold_204 ?_
                      refine zz_iload_n C dX12_comesTold_205 rfl 1 rfl ?_
                      refine zz_iadd C dX12_comesTold_206 ?_
                      refine zz_callV C (Cn := RX12) (b := zzad Z 36) (fun H hH => zz_recv C.2.2.2 (zzM_obj H hH) rfl) (As := [.int (((10 : Int32) * x2) + x4)]) (rest := []) rfl (k_X12_daysPass (((10 : Int32) * x2) + x4) σ) (cwV 1 C.1.2.2.2.2 gX12_comesTold_X12_daysPass rfl rfl rfl (by decide +kernel) ⟨Nat.le_of_ble_eq_true rfl, Nat.le_of_ble_eq_true rfl⟩) rfl (Nat.le_of_ble_eq_true rfl) ⟨Nat.zero_le _, Nat.zero_le _⟩ dX12_comesTold_207 (zz_kI rfl rfl (fun r51 σ52 => ?_))
                      refine zz_gd (fun h53 => ?_)
                      exact zz_zret C rfl h53 rfl (fun _ h9 => h9) (Nat.zero_le _) (Nat.zero_le _) dX12_comesTold_210
                    · skip
                      refine zz_ite (fun h16 => ?_) (fun h16 => ?_)
                      · refine zz_tblIn (off := 75) (tgt := 104) C dX12_comesTold_29 (by rw [h16]; decide) (by rw [h16]; decide) (by rw [h16]; rfl) (by decide) ?_
                        refine zz_aload_n C dX12_comesTold_104 rfl 3 rfl ?_
                        refine zz_iload_n C dX12_comesTold_105 rfl 2 rfl ?_
                        refine zz_iload_n C dX12_comesTold_106 rfl 1 rfl ?_
                        refine zz_callV C (Cn := RX12) (b := zzad Z 36) (fun H hH => zz_recv C.2.2.2 (zzM_obj H hH) rfl) (As := [.int x2, .int x4]) (rest := []) rfl (k_X12_personComes x2 x4 σ) (cwV 2 C.1.2.2.2.2 gX12_comesTold_X12_personComes rfl rfl rfl (by decide +kernel) ⟨Nat.le_of_ble_eq_true rfl, Nat.le_of_ble_eq_true rfl⟩) rfl (Nat.le_of_ble_eq_true rfl) ⟨Nat.zero_le _, Nat.zero_le _⟩ dX12_comesTold_107 (zz_kI rfl rfl (fun r54 σ55 => ?_))
                        refine zz_gd (fun h56 => ?_)
                        exact zz_zret C rfl h56 rfl (fun _ h9 => h9) (Nat.zero_le _) (Nat.zero_le _) dX12_comesTold_110
                      · skip
                        refine zz_ite (fun h17 => ?_) (fun h17 => ?_)
                        · refine zz_tblIn (off := 171) (tgt := 200) C dX12_comesTold_29 (by rw [h17]; decide) (by rw [h17]; decide) (by rw [h17]; rfl) (by decide) ?_
                          refine zz_aload_n C dX12_comesTold_200 rfl 3 rfl ?_
                          refine zz_bipush (v := 10) C dX12_comesTold_201 (by decide) ?_
                          refine zz_iload_n C dX12_comesTold_203 rfl 2 rfl ?_
                          refine zz_imul C dX12_comesTold_204 ?_
                          refine zz_iload_n C dX12_comesTold_205 rfl 1 rfl ?_
                          refine zz_iadd C dX12_comesTold_206 ?_
                          refine zz_callV C (Cn := RX12) (b := zzad Z 36) (fun H hH => zz_recv C.2.2.2 (zzM_obj H hH) rfl) (As := [.int (((10 : Int32) * x2) + x4)]) (rest := []) rfl (k_X12_daysPass (((10 : Int32) * x2) + x4) σ) (cwV 1 C.1.2.2.2.2 gX12_comesTold_X12_daysPass rfl rfl rfl (by decide +kernel) ⟨Nat.le_of_ble_eq_true rfl, Nat.le_of_ble_eq_true rfl⟩) rfl (Nat.le_of_ble_eq_true rfl) ⟨Nat.zero_le _, Nat.zero_le _⟩ dX12_comesTold_207 (zz_kI rfl rfl (fun r57 σ58 => ?_))
                          refine zz_gd (fun h59 => ?_)
                          exact zz_zret C rfl h59 rfl (fun _ h9 => h9) (Nat.zero_le _) (Nat.zero_le _) dX12_comesTold_210
                        · skip
                          refine zz_ite (fun h18 => ?_) (fun h18 => ?_)
                          · refine zz_tblIn (off := 171) (tgt := 200) C dX12_comesTold_29 (by rw [h18]; decide) (by rw [h18]; decide) (by rw [h18]; rfl) (by decide) ?_
                            refine zz_aload_n C dX12_comesTold_200 rfl 3 rfl ?_
                            refine zz_bipush (v := 10) C dX12_comesTold_201 (by decide) ?_
                            refine zz_iload_n C dX12_comesTold_203 rfl 2 rfl ?_
                            refine zz_imul C dX12_comesTold_204 ?_
                            refine zz_iload_n C dX12_comesTold_205 rfl 1 rfl ?_
                            refine zz_iadd C dX12_comesTold_206 ?_
                            refine zz_callV C (Cn := RX12) (b := zzad Z 36) (fun H hH => zz_recv C.2.2.2 (zzM_obj H hH) rfl) (As := [.int (((10 : Int32) * x2) + x4)]) (rest := []) rfl (k_X12_daysPass (((10 : Int32) * x2) + x4) σ) (cwV 1 C.1.2.2.2.2 gX12_comesTold_X12_daysPass rfl rfl rfl (by decide +kernel) ⟨Nat.le_of_ble_eq_true rfl, Nat.le_of_ble_eq_true rfl⟩) rfl (Nat.le_of_ble_eq_true rfl) ⟨Nat.zero_le _, Nat.zero_le _⟩ dX12_comesTold_207 (zz_kI rfl rfl (fun r60 σ61 => ?_))
                            refine zz_gd (fun h62 => ?_)
                            exact zz_zret C rfl h62 rfl (fun _ h9 => h9) (Nat.zero_le _) (Nat.zero_le _) dX12_comesTold_210
                          · skip
                            refine zz_ite (fun h19 => ?_) (fun h19 => ?_)
                            · refine zz_tblIn (off := 119) (tgt := 148) C dX12_comesTold_29 (by rw [h19]; decide) (by rw [h19]; decide) (by rw [h19]; rfl) (by decide) ?_
                              refine zz_aload_n C dX12_comesTold_148 rfl 3 rfl ?_
                              refine zz_iload_n C dX12_comesTold_149 rfl 2 rfl ?_
                              refine zz_iload_n C dX12_comesTold_150 rfl 1 rfl ?_
                              refine zz_callV C (Cn := RX12) (b := zzad Z 36) (fun H hH => zz_recv C.2.2.2 (zzM_obj H hH) rfl) (As := [.int x2, .int x4]) (rest := []) rfl (k_X12_areTwo x2 x4 σ) (cwV 2 C.1.2.2.2.2 gX12_comesTold_X12_areTwo rfl rfl rfl (by decide +kernel) ⟨Nat.le_of_ble_eq_true rfl, Nat.le_of_ble_eq_true rfl⟩) rfl (Nat.le_of_ble_eq_true rfl) ⟨Nat.zero_le _, Nat.zero_le _⟩ dX12_comesTold_151 (zz_kI rfl rfl (fun r63 σ64 => ?_))
                              refine zz_if_eq (tgt := 169) C dX12_comesTold_154 (by decide) (fun h65 => ?_) (fun h65 => ?_)
                              · refine zz_sub (loc' := [(0, .ref (zzad Z 36)), (2, .int x2), (3, .int x4)]) [3, 2, 1] rfl ?_
                                exact w_X12_comesTold_169 C p0 x2 x4 σ64
                              · refine zz_aload_n C dX12_comesTold_157 rfl 3 rfl ?_
                                refine zz_iconst (v := 1) C dX12_comesTold_158 (by decide) ?_
                                refine zz_callV C (Cn := RX12) (b := zzad Z 36) (fun H hH => zz_recv C.2.2.2 (zzM_obj H hH) rfl) (As := [.int (1 : Int32)]) (rest := []) rfl (k_X12_daysPass (1 : Int32) σ64) (cwV 1 C.1.2.2.2.2 gX12_comesTold_X12_daysPass rfl rfl rfl (by decide +kernel) ⟨Nat.le_of_ble_eq_true rfl, Nat.le_of_ble_eq_true rfl⟩) rfl (Nat.le_of_ble_eq_true rfl) ⟨Nat.zero_le _, Nat.zero_le _⟩ dX12_comesTold_159 (zz_kI rfl rfl (fun r66 σ67 => ?_))
                                refine zz_if_eq (tgt := 169) C dX12_comesTold_162 (by decide) (fun h68 => ?_) (fun h68 => ?_)
                                · refine zz_sub (loc' := [(0, .ref (zzad Z 36)), (2, .int x2), (3, .int x4)]) [3, 2, 1] rfl ?_
                                  exact w_X12_comesTold_169 C p0 x2 x4 σ67
                                · refine zz_iconst (v := 1) C dX12_comesTold_165 (by decide) ?_
                                  refine zz_goto (tgt := 170) C dX12_comesTold_166 (by decide) ?_
                                  refine zz_sub (loc' := [(0, .ref (zzad Z 36)), (2, .int x2), (3, .int x4)]) [3, 2, 1] rfl ?_
                                  exact w_X12_comesTold_170 C p0 x2 x4 (1 : Int32) σ67
                            · skip
                              refine zz_ite (fun h20 => ?_) (fun h20 => ?_)
                              · refine zz_tblIn (off := 157) (tgt := 186) C dX12_comesTold_29 (by rw [h20]; decide) (by rw [h20]; decide) (by rw [h20]; rfl) (by decide) ?_
                                refine zz_aload_n C dX12_comesTold_186 rfl 3 rfl ?_
                                refine zz_iload_n C dX12_comesTold_187 rfl 2 rfl ?_
                                refine zz_iload_n C dX12_comesTold_188 rfl 1 rfl ?_
                                refine zz_callV C (Cn := RX12) (b := zzad Z 36) (fun H hH => zz_recv C.2.2.2 (zzM_obj H hH) rfl) (As := [.int x2, .int x4]) (rest := []) rfl (k_X12_turning x2 x4 σ) (cwV 2 C.1.2.2.2.2 gX12_comesTold_X12_turning rfl rfl rfl (by decide +kernel) ⟨Nat.le_of_ble_eq_true rfl, Nat.le_of_ble_eq_true rfl⟩) rfl (Nat.le_of_ble_eq_true rfl) ⟨Nat.zero_le _, Nat.zero_le _⟩ dX12_comesTold_189 (zz_kI rfl rfl (fun r69 σ70 => ?_))
                                refine zz_gd (fun h71 => ?_)
                                exact zz_zret C rfl h71 rfl (fun _ h9 => h9) (Nat.zero_le _) (Nat.zero_le _) dX12_comesTold_192
                              · skip
                                refine zz_tblOut (tgt := 200) C dX12_comesTold_29 (by have := lv_neT h6 (a := 102) (by decide); have := lv_neT h7 (a := 103) (by decide); have := lv_neT h8 (a := 104) (by decide); have := lv_neT h9 (a := 105) (by decide); have := lv_neT h10 (a := 106) (by decide); have := lv_neT h11 (a := 107) (by decide); have := lv_neT h12 (a := 108) (by decide); have := lv_neT h13 (a := 109) (by decide); have := lv_neT h14 (a := 110) (by decide); have := lv_neT h15 (a := 111) (by decide); have := lv_neT h16 (a := 112) (by decide); have := lv_neT h17 (a := 113) (by decide); have := lv_neT h18 (a := 114) (by decide); have := lv_neT h19 (a := 115) (by decide); have := lv_neT h20 (a := 116) (by decide); omega) (by decide) ?_
                                refine zz_aload_n C dX12_comesTold_200 rfl 3 rfl ?_
                                refine zz_bipush (v := 10) C dX12_comesTold_201 (by decide) ?_
                                refine zz_iload_n C dX12_comesTold_203 rfl 2 rfl ?_
                                refine zz_imul C dX12_comesTold_204 ?_
                                refine zz_iload_n C dX12_comesTold_205 rfl 1 rfl ?_
                                refine zz_iadd C dX12_comesTold_206 ?_
                                refine zz_callV C (Cn := RX12) (b := zzad Z 36) (fun H hH => zz_recv C.2.2.2 (zzM_obj H hH) rfl) (As := [.int (((10 : Int32) * x2) + x4)]) (rest := []) rfl (k_X12_daysPass (((10 : Int32) * x2) + x4) σ) (cwV 1 C.1.2.2.2.2 gX12_comesTold_X12_daysPass rfl rfl rfl (by decide +kernel) ⟨Nat.le_of_ble_eq_true rfl, Nat.le_of_ble_eq_true rfl⟩) rfl (Nat.le_of_ble_eq_true rfl) ⟨Nat.zero_le _, Nat.zero_le _⟩ dX12_comesTold_207 (zz_kI rfl rfl (fun r72 σ73 => ?_))
                                refine zz_gd (fun h74 => ?_)
                                exact zz_zret C rfl h74 rfl (fun _ h9 => h9) (Nat.zero_le _) (Nat.zero_le _) dX12_comesTold_210
set_option maxHeartbeats 4000000 in
set_option maxRecDepth 100000 in
theorem k_X12_comesTold {l : Launch} {Z : zzG} {base : Nat} {PL : Nat → Option (Nat × Int32)} {mm : zzS} (p0 : Int32)  (σ : zzS) : zzCT l yX12_comesTold wsX12_comesTold rX12_comesTold (zzA base) Z (zzM Z base PL mm) (zzM Z base PL mm) zzRI [.ref (zzad Z 36), .int p0] (f_X12_comesTold p0 σ) σ :=
  zzCT_of (cc := cX12_comesTold) (nL := 5) (ret := (some .boolean)) (by decide) rfl (Nat.le_of_ble_eq_true rfl) [(0, .ref (zzad Z 36)), (1, .int p0)] rfl (fun p e s m args below meth c C => w_X12_comesTold_e C p0 σ)
