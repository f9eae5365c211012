abbrev rX12_loved : Room := { frames := 1, cells := 0, slots := 0, locals := 25 }

set_option maxHeartbeats 4000000 in
set_option maxRecDepth 100000 in
theorem w_X12_loved_52 {l : Launch} {Z : zzG} {base : Nat} {PL : Nat → Option (Nat × Int32)} {mm : zzS} {p : Program} {e : Env} {s : State} {m : MethodId} {args : Array Value} {below : List Frame} {meth : Method} {c : Code} (C : zzCx p m meth c s args cX12_loved 4 wsX12_loved RX12 (some .int) Z) (p0 : Int32)  (k22 : Int32 → Int32 → zzS → Option (Int32 × zzS)) (hk22 : ∀ (l2 : Int32)  (l3 : Int32)  (σ : zzS), zzGO p l e rX12_loved s m args below meth c 4 (zzA base) (zzM Z base PL mm) (zzM Z base PL mm) zzRI rX12_loved.cells rX12_loved.slots (k22 l2 l3 σ) σ 0 0 22 [(0, .ref (zzad Z 36)), (1, .int p0), (2, .int l2), (3, .int l3)] []) (l3 : Int32)  (s0 : Int32)  (σ : zzS) : zzGO p l e rX12_loved s m args below meth c 4 (zzA base) (zzM Z base PL mm) (zzM Z base PL mm) zzRI rX12_loved.cells rX12_loved.slots (f_X12_loved_52 k22 p0 l3 s0 σ) σ 0 0 52 [(0, .ref (zzad Z 36)), (1, .int p0), (3, .int l3)] [.int s0] := by
  unfold f_X12_loved_52
  refine zz_istore_n (loc' := [(2, .int s0), (0, .ref (zzad Z 36)), (1, .int p0), (3, .int l3)]) C dX12_loved_52 rfl (by decide) rfl ?_
  refine zz_iincX (d := 1) (locf := fun x1 => [(3, .int x1), (2, .int s0), (0, .ref (zzad Z 36)), (1, .int p0)]) C dX12_loved_53 (k := 3) rfl (by decide) (by decide) (fun _ => rfl) (fun x1 => ?_)
  refine zz_goto (tgt := 22) C dX12_loved_56 (by decide) ?_
  refine zz_sub (loc' := [(0, .ref (zzad Z 36)), (1, .int p0), (2, .int s0), (3, .int x1)]) [2, 3, 1, 0] rfl ?_
  exact hk22 s0 x1 σ
set_option maxHeartbeats 4000000 in
set_option maxRecDepth 100000 in
theorem w_X12_loved_47 {l : Launch} {Z : zzG} {base : Nat} {PL : Nat → Option (Nat × Int32)} {mm : zzS} {p : Program} {e : Env} {s : State} {m : MethodId} {args : Array Value} {below : List Frame} {meth : Method} {c : Code} (C : zzCx p m meth c s args cX12_loved 4 wsX12_loved RX12 (some .int) Z) (p0 : Int32)  (k22 : Int32 → Int32 → zzS → Option (Int32 × zzS)) (hk22 : ∀ (l2 : Int32)  (l3 : Int32)  (σ : zzS), zzGO p l e rX12_loved s m args below meth c 4 (zzA base) (zzM Z base PL mm) (zzM Z base PL mm) zzRI rX12_loved.cells rX12_loved.slots (k22 l2 l3 σ) σ 0 0 22 [(0, .ref (zzad Z 36)), (1, .int p0), (2, .int l2), (3, .int l3)] []) (l3 : Int32)  (σ : zzS) : zzGO p l e rX12_loved s m args below meth c 4 (zzA base) (zzM Z base PL mm) (zzM Z base PL mm) zzRI rX12_loved.cells rX12_loved.slots (f_X12_loved_47 k22 p0 l3 σ) σ 0 0 47 [(0, .ref (zzad Z 36)), (1, .int p0), (3, .int l3)] [] := by
  unfold f_X12_loved_47
  refine zz_iload_n C dX12_loved_47 rfl 2 rfl ?_
  refine zz_goto (tgt := 52) C dX12_loved_48 (by decide) ?_
  refine zz_sub (loc' := [(0, .ref (zzad Z 36)), (1, .int p0), (3, .int l3)]) [0, 1, 2] rfl ?_
  exact w_X12_loved_52 C p0 k22 hk22 l3 l3 σ
set_option maxHeartbeats 4000000 in
set_option maxRecDepth 100000 in
theorem w_X12_loved_67 {l : Launch} {Z : zzG} {base : Nat} {PL : Nat → Option (Nat × Int32)} {mm : zzS} {p : Program} {e : Env} {s : State} {m : MethodId} {args : Array Value} {below : List Frame} {meth : Method} {c : Code} (C : zzCx p m meth c s args cX12_loved 4 wsX12_loved RX12 (some .int) Z) (p0 : Int32)   (l2 : Int32)  (σ : zzS) : zzGO p l e rX12_loved s m args below meth c 4 (zzA base) (zzM Z base PL mm) (zzM Z base PL mm) zzRI rX12_loved.cells rX12_loved.slots (f_X12_loved_67 p0 l2 σ) σ 0 0 67 [(2, .int l2)] [] := by
  unfold f_X12_loved_67
  refine zz_iload_n C dX12_loved_67 rfl 0 rfl ?_
  refine zz_goto (tgt := 76) C dX12_loved_68 (by decide) ?_
  exact zz_iret C rfl rfl (fun _ h9 => h9) (Nat.zero_le _) (Nat.zero_le _) dX12_loved_76
set_option maxHeartbeats 4000000 in
set_option maxRecDepth 100000 in
theorem w_X12_loved_22b {l : Launch} {Z : zzG} {base : Nat} {PL : Nat → Option (Nat × Int32)} {mm : zzS} {p : Program} {e : Env} {s : State} {m : MethodId} {args : Array Value} {below : List Frame} {meth : Method} {c : Code} (C : zzCx p m meth c s args cX12_loved 4 wsX12_loved RX12 (some .int) Z) (p0 : Int32)   (k22 : Int32 → Int32 → zzS → Option (Int32 × zzS)) (hk22 : ∀ (l2 : Int32)  (l3 : Int32)  (σ : zzS), zzGO p l e rX12_loved s m args below meth c 4 (zzA base) (zzM Z base PL mm) (zzM Z base PL mm) zzRI rX12_loved.cells rX12_loved.slots (k22 l2 l3 σ) σ 0 0 22 [(0, .ref (zzad Z 36)), (1, .int p0), (2, .int l2), (3, .int l3)] []) (l2 : Int32)  (l3 : Int32)  (σ : zzS) : zzGO p l e rX12_loved s m args below meth c 4 (zzA base) (zzM Z base PL mm) (zzM Z base PL mm) zzRI rX12_loved.cells rX12_loved.slots (f_X12_loved_22b k22 p0 l2 l3 σ) σ 0 0 22 [(0, .ref (zzad Z 36)), (1, .int p0), (2, .int l2), (3, .int l3)] [] := by
  unfold f_X12_loved_22b
  refine zz_iload_n C dX12_loved_22 rfl 3 rfl ?_
  refine zz_aload_n C dX12_loved_23 rfl 0 rfl ?_
  refine zz_get C zzM_obj (fun _ h9 => List.mem_cons_of_mem _ (List.mem_append_right _ (h9))) rfl 0 (by decide) (List.mem_of_getElem? (i := 2) rfl) (Or.inl rfl) rfl dX12_loved_24 ?_
  refine zz_icmp_ge (tgt := 59) C dX12_loved_27 (by decide) (fun h1 => ?_) (fun h1 => ?_)
  · refine zz_iload_n C dX12_loved_59 rfl 2 rfl ?_
    refine zz_if_lt (tgt := 67) C dX12_loved_60 (by decide) (fun h2 => ?_) (fun h2 => ?_)
    · refine zz_sub (loc' := [(2, .int l2)]) [2] rfl ?_
      exact w_X12_loved_67 C p0 l2 σ
    · refine zz_iload_n C dX12_loved_63 rfl 1 rfl ?_
      refine zz_if_ne (tgt := 71) C dX12_loved_64 (by decide) (fun h3 => ?_) (fun h3 => ?_)
      · refine zz_aload_n C dX12_loved_71 rfl 0 rfl ?_
        refine zz_iload_n C dX12_loved_72 rfl 2 rfl ?_
        refine zz_callV C (Cn := RX12) (b := zzad Z 36) (fun H hH => zz_recv C.2.2.2 (zzM_obj H hH) rfl) (As := [.int l2]) (rest := []) rfl (k_X12_lovedBy l2 σ) (cwV 1 C.1.2.2.2.2 gX12_loved_X12_lovedBy rfl rfl rfl (by decide +kernel) ⟨Nat.le_of_ble_eq_true rfl, Nat.le_of_ble_eq_true rfl⟩) rfl (Nat.le_of_ble_eq_true rfl) ⟨Nat.zero_le _, Nat.zero_le _⟩ dX12_loved_73 (zz_kI rfl rfl (fun r4 σ5 => ?_))
        exact zz_iret C rfl rfl (fun _ h9 => h9) (Nat.zero_le _) (Nat.zero_le _) dX12_loved_76
      · refine zz_sub (loc' := [(2, .int l2)]) [2] rfl ?_
        exact w_X12_loved_67 C p0 l2 σ
  · refine zz_iload_n C dX12_loved_30 rfl 2 rfl ?_
    refine zz_if_lt (tgt := 47) C dX12_loved_31 (by decide) (fun h6 => ?_) (fun h6 => ?_)
    · refine zz_sub (loc' := [(0, .ref (zzad Z 36)), (1, .int p0), (3, .int l3)]) [0, 1, 3] rfl ?_
      exact w_X12_loved_47 C p0 k22 hk22 l3 σ
    · refine zz_aload_n C dX12_loved_34 rfl 0 rfl ?_
      refine zz_iload_n C dX12_loved_35 rfl 3 rfl ?_
      refine zz_callV C (Cn := RX12) (b := zzad Z 36) (fun H hH => zz_recv C.2.2.2 (zzM_obj H hH) rfl) (As := [.int l3]) (rest := []) rfl (k_X12_lovedBy l3 σ) (cwV 1 C.1.2.2.2.2 gX12_loved_X12_lovedBy rfl rfl rfl (by decide +kernel) ⟨Nat.le_of_ble_eq_true rfl, Nat.le_of_ble_eq_true rfl⟩) rfl (Nat.le_of_ble_eq_true rfl) ⟨Nat.zero_le _, Nat.zero_le _⟩ dX12_loved_36 (zz_kI rfl rfl (fun r7 σ8 => ?_))
      refine zz_aload_n C dX12_loved_39 rfl 0 rfl ?_
      refine zz_iload_n C dX12_loved_40 rfl 2 rfl ?_
      refine zz_callV C (Cn := RX12) (b := zzad Z 36) (fun H hH => zz_recv C.2.2.2 (zzM_obj H hH) rfl) (As := [.int l2]) (rest := [.int r7]) rfl (k_X12_lovedBy l2 σ8) (cwV 1 C.1.2.2.2.2 gX12_loved_X12_lovedBy rfl rfl rfl (by decide +kernel) ⟨Nat.le_of_ble_eq_true rfl, Nat.le_of_ble_eq_true rfl⟩) rfl (Nat.le_of_ble_eq_true rfl) ⟨Nat.zero_le _, Nat.zero_le _⟩ dX12_loved_41 (zz_kI rfl rfl (fun r9 σ10 => ?_))
      refine zz_icmp_le (tgt := 51) C dX12_loved_44 (by decide) (fun h11 => ?_) (fun h11 => ?_)
      · refine zz_iload_n C dX12_loved_51 rfl 2 rfl ?_
        refine zz_sub (loc' := [(0, .ref (zzad Z 36)), (1, .int p0), (3, .int l3)]) [0, 1, 3] rfl ?_
        exact w_X12_loved_52 C p0 k22 hk22 l3 l2 σ10
      · refine zz_sub (loc' := [(0, .ref (zzad Z 36)), (1, .int p0), (3, .int l3)]) [0, 1, 3] rfl ?_
        exact w_X12_loved_47 C p0 k22 hk22 l3 σ10
set_option maxHeartbeats 4000000 in
set_option maxRecDepth 100000 in
theorem w_X12_loved_22 {l : Launch} {Z : zzG} {base : Nat} {PL : Nat → Option (Nat × Int32)} {mm : zzS} {p : Program} {e : Env} {s : State} {m : MethodId} {args : Array Value} {below : List Frame} {meth : Method} {c : Code} (C : zzCx p m meth c s args cX12_loved 4 wsX12_loved RX12 (some .int) Z) (p0 : Int32)   (n : Nat) : ∀ (l2 : Int32)  (l3 : Int32)  (σ : zzS), zzGO p l e rX12_loved s m args below meth c 4 (zzA base) (zzM Z base PL mm) (zzM Z base PL mm) zzRI rX12_loved.cells rX12_loved.slots (f_X12_loved_22 p0 n l2 l3 σ) σ 0 0 22 [(0, .ref (zzad Z 36)), (1, .int p0), (2, .int l2), (3, .int l3)] [] := by
  induction n with
  | zero => exact fun _ _ _ r9 s9 h9 => by cases h9
  | succ n ih => exact w_X12_loved_22b C p0 _ ih
set_option maxHeartbeats 4000000 in
set_option maxRecDepth 100000 in
theorem w_X12_loved_e {l : Launch} {Z : zzG} {base : Nat} {PL : Nat → Option (Nat × Int32)} {mm : zzS} {p : Program} {e : Env} {s : State} {m : MethodId} {args : Array Value} {below : List Frame} {meth : Method} {c : Code} (C : zzCx p m meth c s args cX12_loved 4 wsX12_loved RX12 (some .int) Z) (p0 : Int32)  (σ : zzS) : zzGO p l e rX12_loved s m args below meth c 4 (zzA base) (zzM Z base PL mm) (zzM Z base PL mm) zzRI rX12_loved.cells rX12_loved.slots (f_X12_loved p0 σ) σ 0 0 0 [(0, .ref (zzad Z 36)), (1, .int p0)] [] := by
  unfold f_X12_loved
  refine zz_aload_n C dX12_loved_0 rfl 0 rfl ?_
  refine zz_iconst (v := 0) C dX12_loved_1 (by decide) ?_
  refine zz_put (ty := .int) C zzM_obj (fun _ h9 => List.mem_cons_of_mem _ (List.mem_append_right _ (h9))) rfl 13 (by decide) (List.mem_of_getElem? (i := 1) rfl) rfl tyX12_ok nmX12 rfl (by decide +kernel) rfl rfl (Nat.le_of_ble_eq_true rfl) (zzM_uobj (by decide)) (zzA_M (by decide)) dX12_loved_2 ?_
  refine zz_ltS (fun σ1 => ?_)
  refine zz_iload_n C dX12_loved_5 rfl 1 rfl ?_
  refine zz_i2l C dX12_loved_6 ?_
  refine zz_lconst (v := 0) C dX12_loved_7 (by decide) ?_
  refine zz_lconst (v := 1) C dX12_loved_8 (by decide) ?_
  refine zz_callS (As := [.long (Int32.toInt64 p0), .long (0 : Int64), .long (1 : Int64)]) (rest := []) C rfl (k_X12_in (Int32.toInt64 p0) (0 : Int64) (1 : Int64) σ1) (va_cwS 3 C.1.2.2.2.2 gX12_loved_X12_in rfl rfl rfl (by decide +kernel) ⟨Nat.le_of_ble_eq_true rfl, Nat.le_of_ble_eq_true rfl⟩) rfl (Nat.le_of_ble_eq_true rfl) ⟨Nat.zero_le _, Nat.zero_le _⟩ dX12_loved_9 (zz_kI rfl rfl (fun r2 σ3 => ?_))
  refine zz_if_ne (tgt := 17) C dX12_loved_12 (by decide) (fun h4 => ?_) (fun h4 => ?_)
  · refine zz_bipush (v := -4) C dX12_loved_17 (by decide) ?_
    refine zz_istore_n (loc' := [(2, .int (-4 : Int32)), (0, .ref (zzad Z 36)), (1, .int p0)]) C dX12_loved_19 rfl (by decide) rfl ?_
    refine zz_iconst (v := 0) C dX12_loved_20 (by decide) ?_
    refine zz_istore_n (loc' := [(3, .int (0 : Int32)), (2, .int (-4 : Int32)), (0, .ref (zzad Z 36)), (1, .int p0)]) C dX12_loved_21 rfl (by decide) rfl ?_
    refine zz_sub (loc' := [(0, .ref (zzad Z 36)), (1, .int p0), (2, .int (-4 : Int32)), (3, .int (0 : Int32))]) [2, 3, 1, 0] rfl ?_
    exact w_X12_loved_22 C p0 200 (-4 : Int32) (0 : Int32) σ3
  · refine zz_iconst (v := -1) C dX12_loved_15 (by decide) ?_
    exact zz_iret C rfl rfl (fun _ h9 => h9) (Nat.zero_le _) (Nat.zero_le _) dX12_loved_16
set_option maxHeartbeats 4000000 in
set_option maxRecDepth 100000 in
theorem k_X12_loved {l : Launch} {Z : zzG} {base : Nat} {PL : Nat → Option (Nat × Int32)} {mm : zzS} (p0 : Int32)  (σ : zzS) : zzCT l yX12_loved wsX12_loved rX12_loved (zzA base) Z (zzM Z base PL mm) (zzM Z base PL mm) zzRI [.ref (zzad Z 36), .int p0] (f_X12_loved p0 σ) σ :=
  zzCT_of (cc := cX12_loved) (nL := 4) (ret := (some .int)) (by decide) rfl (Nat.le_of_ble_eq_true rfl) [(0, .ref (zzad Z 36)), (1, .int p0)] rfl (fun p e s m args below meth c C => w_X12_loved_e C p0 σ)
abbrev rX12_warmest : Room := { frames := 0, cells := 0, slots := 0, locals := 0 }

set_option maxHeartbeats 4000000 in
set_option maxRecDepth 100000 in
theorem w_X12_warmest_99 {l : Launch} {Z : zzG} {base : Nat} {PL : Nat → Option (Nat × Int32)} {mm : zzS} {p : Program} {e : Env} {s : State} {m : MethodId} {args : Array Value} {below : List Frame} {meth : Method} {c : Code} (C : zzCx p m meth c s args cX12_warmest 6 wsX12_warmest RX12 (some .int) Z)  (k12 : Int32 → Int32 → Int32 → zzS → Option (Int32 × zzS)) (hk12 : ∀ (l1 : Int32)  (l2 : Int32)  (l3 : Int32)  (σ : zzS), zzGO p l e rX12_warmest s m args below meth c 6 (zzA base) (zzM Z base PL mm) (zzM Z base PL mm) zzRI rX12_warmest.cells rX12_warmest.slots (k12 l1 l2 l3 σ) σ 0 0 12 [(0, .ref (zzad Z 36)), (1, .int l1), (2, .int l2), (3, .int l3)] []) (k23 : Int32 → Int32 → Int32 → Int32 → zzS → Option (Int32 × zzS)) (hk23 : ∀ (l1 : Int32)  (l2 : Int32)  (l3 : Int32)  (l4 : Int32)  (σ : zzS), zzGO p l e rX12_warmest s m args below meth c 6 (zzA base) (zzM Z base PL mm) (zzM Z base PL mm) zzRI rX12_warmest.cells rX12_warmest.slots (k23 l1 l2 l3 l4 σ) σ 0 0 23 [(0, .ref (zzad Z 36)), (1, .int l1), (2, .int l2), (3, .int l3), (4, .int l4)] []) (l1 : Int32)  (l3 : Int32)  (l4 : Int32)  (s0 : Int32)  (σ : zzS) : zzGO p l e rX12_warmest s m args below meth c 6 (zzA base) (zzM Z base PL mm) (zzM Z base PL mm) zzRI rX12_warmest.cells rX12_warmest.slots (f_X12_warmest_99 k12 k23 l1 l3 l4 s0 σ) σ 0 0 99 [(0, .ref (zzad Z 36)), (1, .int l1), (3, .int l3), (4, .int l4)] [.int s0] := by
  unfold f_X12_warmest_99
  refine zz_istore_n (loc' := [(2, .int s0), (0, .ref (zzad Z 36)), (1, .int l1), (3, .int l3), (4, .int l4)]) C dX12_warmest_99 rfl (by decide) rfl ?_
  refine zz_iincX (d := 1) (locf := fun x1 => [(4, .int x1), (2, .int s0), (0, .ref (zzad Z 36)), (1, .int l1), (3, .int l3)]) C dX12_warmest_100 (k := 4) rfl (by decide) (by decide) (fun _ => rfl) (fun x1 => ?_)
  refine zz_goto (tgt := 23) C dX12_warmest_103 (by decide) ?_
  refine zz_sub (loc' := [(0, .ref (zzad Z 36)), (1, .int l1), (2, .int s0), (3, .int l3), (4, .int x1)]) [2, 3, 1, 4, 0] rfl ?_
  exact hk23 l1 s0 l3 x1 σ
set_option maxHeartbeats 4000000 in
set_option maxRecDepth 100000 in
theorem w_X12_warmest_77 {l : Launch} {Z : zzG} {base : Nat} {PL : Nat → Option (Nat × Int32)} {mm : zzS} {p : Program} {e : Env} {s : State} {m : MethodId} {args : Array Value} {below : List Frame} {meth : Method} {c : Code} (C : zzCx p m meth c s args cX12_warmest 6 wsX12_warmest RX12 (some .int) Z)  (k12 : Int32 → Int32 → Int32 → zzS → Option (Int32 × zzS)) (hk12 : ∀ (l1 : Int32)  (l2 : Int32)  (l3 : Int32)  (σ : zzS), zzGO p l e rX12_warmest s m args below meth c 6 (zzA base) (zzM Z base PL mm) (zzM Z base PL mm) zzRI rX12_warmest.cells rX12_warmest.slots (k12 l1 l2 l3 σ) σ 0 0 12 [(0, .ref (zzad Z 36)), (1, .int l1), (2, .int l2), (3, .int l3)] []) (k23 : Int32 → Int32 → Int32 → Int32 → zzS → Option (Int32 × zzS)) (hk23 : ∀ (l1 : Int32)  (l2 : Int32)  (l3 : Int32)  (l4 : Int32)  (σ : zzS), zzGO p l e rX12_warmest s m args below meth c 6 (zzA base) (zzM Z base PL mm) (zzM Z base PL mm) zzRI rX12_warmest.cells rX12_warmest.slots (k23 l1 l2 l3 l4 σ) σ 0 0 23 [(0, .ref (zzad Z 36)), (1, .int l1), (2, .int l2), (3, .int l3), (4, .int l4)] []) (l2 : Int32)  (l3 : Int32)  (l4 : Int32)  (l5 : Int32)  (s0 : Int32)  (σ : zzS) : zzGO p l e rX12_warmest s m args below meth c 6 (zzA base) (zzM Z base PL mm) (zzM Z base PL mm) zzRI rX12_warmest.cells rX12_warmest.slots (f_X12_warmest_77 k12 k23 l2 l3 l4 l5 s0 σ) σ 0 0 77 [(0, .ref (zzad Z 36)), (2, .int l2), (3, .int l3), (4, .int l4), (5, .int l5)] [.int s0] := by
  unfold f_X12_warmest_77
  refine zz_istore_n (loc' := [(1, .int s0), (0, .ref (zzad Z 36)), (2, .int l2), (3, .int l3), (4, .int l4), (5, .int l5)]) C dX12_warmest_77 rfl (by decide) rfl ?_
  refine zz_iload C dX12_warmest_78 5 rfl ?_
  refine zz_if_eq (tgt := 98) C dX12_warmest_80 (by decide) (fun h1 => ?_) (fun h1 => ?_)
  · refine zz_iload_n C dX12_warmest_98 rfl 2 rfl ?_
    refine zz_sub (loc' := [(0, .ref (zzad Z 36)), (1, .int s0), (3, .int l3), (4, .int l4)]) [1, 0, 3, 4] rfl ?_
    exact w_X12_warmest_99 C k12 hk12 k23 hk23 s0 l3 l4 l2 σ
  · refine zz_aload_n C dX12_warmest_83 rfl 1 rfl ?_
    refine zz_get C zzM_obj (fun _ h9 => List.mem_cons_of_mem _ (List.mem_append_right _ (h9))) rfl 4 (by decide) (List.mem_of_getElem? (i := 3) rfl) (Or.inl rfl) rfl dX12_warmest_84 ?_
    refine zz_bipush (v := 7) C dX12_warmest_87 (by decide) ?_
    refine zz_iload_n C dX12_warmest_89 rfl 3 rfl ?_
    refine zz_imul C dX12_warmest_90 ?_
    refine zz_iload C dX12_warmest_91 4 rfl ?_
    refine zz_iadd C dX12_warmest_93 ?_
    refine zz_gd (fun h2 => ?_)
    refine zz_iald C (zzM_arr (by decide)) h2 dX12_warmest_94 ?_
    refine zz_goto (tgt := 99) C dX12_warmest_95 (by decide) ?_
    refine zz_sub (loc' := [(0, .ref (zzad Z 36)), (1, .int s0), (3, .int l3), (4, .int l4)]) [1, 0, 3, 4] rfl ?_
    exact w_X12_warmest_99 C k12 hk12 k23 hk23 s0 l3 l4 (zza σ 40 (Int32.toNatClampNeg (((7 : Int32) * l3) + l4))) σ
set_option maxHeartbeats 4000000 in
set_option maxRecDepth 100000 in
theorem w_X12_warmest_59 {l : Launch} {Z : zzG} {base : Nat} {PL : Nat → Option (Nat × Int32)} {mm : zzS} {p : Program} {e : Env} {s : State} {m : MethodId} {args : Array Value} {below : List Frame} {meth : Method} {c : Code} (C : zzCx p m meth c s args cX12_warmest 6 wsX12_warmest RX12 (some .int) Z)  (k12 : Int32 → Int32 → Int32 → zzS → Option (Int32 × zzS)) (hk12 : ∀ (l1 : Int32)  (l2 : Int32)  (l3 : Int32)  (σ : zzS), zzGO p l e rX12_warmest s m args below meth c 6 (zzA base) (zzM Z base PL mm) (zzM Z base PL mm) zzRI rX12_warmest.cells rX12_warmest.slots (k12 l1 l2 l3 σ) σ 0 0 12 [(0, .ref (zzad Z 36)), (1, .int l1), (2, .int l2), (3, .int l3)] []) (k23 : Int32 → Int32 → Int32 → Int32 → zzS → Option (Int32 × zzS)) (hk23 : ∀ (l1 : Int32)  (l2 : Int32)  (l3 : Int32)  (l4 : Int32)  (σ : zzS), zzGO p l e rX12_warmest s m args below meth c 6 (zzA base) (zzM Z base PL mm) (zzM Z base PL mm) zzRI rX12_warmest.cells rX12_warmest.slots (k23 l1 l2 l3 l4 σ) σ 0 0 23 [(0, .ref (zzad Z 36)), (1, .int l1), (2, .int l2), (3, .int l3), (4, .int l4)] []) (l1 : Int32)  (l2 : Int32)  (l3 : Int32)  (l4 : Int32)  (s0 : Int32)  (σ : zzS) : zzGO p l e rX12_warmest s m args below meth c 6 (zzA base) (zzM Z base PL mm) (zzM Z base PL mm) zzRI rX12_warmest.cells rX12_warmest.slots (f_X12_warmest_59 k12 k23 l1 l2 l3 l4 s0 σ) σ 0 0 59 [(0, .ref (zzad Z 36)), (1, .int l1), (2, .int l2), (3, .int l3), (4, .int l4)] [.int s0] := by
  unfold f_X12_warmest_59
  refine zz_istore (loc' := [(5, .int s0), (0, .ref (zzad Z 36)), (1, .int l1), (2, .int l2), (3, .int l3), (4, .int l4)]) C dX12_warmest_59 (by decide) rfl ?_
  refine zz_iload C dX12_warmest_61 0 rfl ?_
  refine zz_if_eq (tgt := 76) C dX12_warmest_63 (by decide) (fun h1 => ?_) (fun h1 => ?_)
  · refine zz_iload_n C dX12_warmest_76 rfl 2 rfl ?_
    refine zz_sub (loc' := [(0, .ref (zzad Z 36)), (2, .int l2), (3, .int l3), (4, .int l4), (5, .int s0)]) [1, 3, 4, 5, 0] rfl ?_
    exact w_X12_warmest_77 C k12 hk12 k23 hk23 l2 l3 l4 s0 l1 σ
  · refine zz_bipush (v := 10) C dX12_warmest_66 (by decide) ?_
    refine zz_iload_n C dX12_warmest_68 rfl 4 rfl ?_
    refine zz_imul C dX12_warmest_69 ?_
    refine zz_iload C dX12_warmest_70 5 rfl ?_
    refine zz_iadd C dX12_warmest_72 ?_
    refine zz_goto (tgt := 77) C dX12_warmest_73 (by decide) ?_
    refine zz_sub (loc' := [(0, .ref (zzad Z 36)), (2, .int l2), (3, .int l3), (4, .int l4), (5, .int s0)]) [1, 3, 4, 5, 0] rfl ?_
    exact w_X12_warmest_77 C k12 hk12 k23 hk23 l2 l3 l4 s0 (((10 : Int32) * l3) + l4) σ
set_option maxHeartbeats 4000000 in
set_option maxRecDepth 100000 in
theorem w_X12_warmest_58 {l : Launch} {Z : zzG} {base : Nat} {PL : Nat → Option (Nat × Int32)} {mm : zzS} {p : Program} {e : Env} {s : State} {m : MethodId} {args : Array Value} {below : List Frame} {meth : Method} {c : Code} (C : zzCx p m meth c s args cX12_warmest 6 wsX12_warmest RX12 (some .int) Z)  (k12 : Int32 → Int32 → Int32 → zzS → Option (Int32 × zzS)) (hk12 : ∀ (l1 : Int32)  (l2 : Int32)  (l3 : Int32)  (σ : zzS), zzGO p l e rX12_warmest s m args below meth c 6 (zzA base) (zzM Z base PL mm) (zzM Z base PL mm) zzRI rX12_warmest.cells rX12_warmest.slots (k12 l1 l2 l3 σ) σ 0 0 12 [(0, .ref (zzad Z 36)), (1, .int l1), (2, .int l2), (3, .int l3)] []) (k23 : Int32 → Int32 → Int32 → Int32 → zzS → Option (Int32 × zzS)) (hk23 : ∀ (l1 : Int32)  (l2 : Int32)  (l3 : Int32)  (l4 : Int32)  (σ : zzS), zzGO p l e rX12_warmest s m args below meth c 6 (zzA base) (zzM Z base PL mm) (zzM Z base PL mm) zzRI rX12_warmest.cells rX12_warmest.slots (k23 l1 l2 l3 l4 σ) σ 0 0 23 [(0, .ref (zzad Z 36)), (1, .int l1), (2, .int l2), (3, .int l3), (4, .int l4)] []) (l1 : Int32)  (l2 : Int32)  (l3 : Int32)  (l4 : Int32)  (σ : zzS) : zzGO p l e rX12_warmest s m args below meth c 6 (zzA base) (zzM Z base PL mm) (zzM Z base PL mm) zzRI rX12_warmest.cells rX12_warmest.slots (f_X12_warmest_58 k12 k23 l1 l2 l3 l4 σ) σ 0 0 58 [(0, .ref (zzad Z 36)), (1, .int l1), (2, .int l2), (3, .int l3), (4, .int l4)] [] := by
  unfold f_X12_warmest_58
  refine zz_iconst (v := 0) C dX12_warmest_58 (by decide) ?_
  refine zz_sub (loc' := [(0, .ref (zzad Z 36)), (1, .int l1), (2, .int l2), (3, .int l3), (4, .int l4)]) [0, 1, 2, 3, 4] rfl ?_
  exact w_X12_warmest_59 C k12 hk12 k23 hk23 l1 l2 l3 l4 (0 : Int32) σ
set_option maxHeartbeats 4000000 in
set_option maxRecDepth 100000 in
theorem w_X12_warmest_23b {l : Launch} {Z : zzG} {base : Nat} {PL : Nat → Option (Nat × Int32)} {mm : zzS} {p : Program} {e : Env} {s : State} {m : MethodId} {args : Array Value} {below : List Frame} {meth : Method} {c : Code} (C : zzCx p m meth c s args cX12_warmest 6 wsX12_warmest RX12 (some .int) Z)  (k12 : Int32 → Int32 → Int32 → zzS → Option (Int32 × zzS)) (hk12 : ∀ (l1 : Int32)  (l2 : Int32)  (l3 : Int32)  (σ : zzS), zzGO p l e rX12_warmest s m args below meth c 6 (zzA base) (zzM Z base PL mm) (zzM Z base PL mm) zzRI rX12_warmest.cells rX12_warmest.slots (k12 l1 l2 l3 σ) σ 0 0 12 [(0, .ref (zzad Z 36)), (1, .int l1), (2, .int l2), (3, .int l3)] []) (k23 : Int32 → Int32 → Int32 → Int32 → zzS → Option (Int32 × zzS)) (hk23 : ∀ (l1 : Int32)  (l2 : Int32)  (l3 : Int32)  (l4 : Int32)  (σ : zzS), zzGO p l e rX12_warmest s m args below meth c 6 (zzA base) (zzM Z base PL mm) (zzM Z base PL mm) zzRI rX12_warmest.cells rX12_warmest.slots (k23 l1 l2 l3 l4 σ) σ 0 0 23 [(0, .ref (zzad Z 36)), (1, .int l1), (2, .int l2), (3, .int l3), (4, .int l4)] []) (l1 : Int32)  (l2 : Int32)  (l3 : Int32)  (l4 : Int32)  (σ : zzS) : zzGO p l e rX12_warmest s m args below meth c 6 (zzA base) (zzM Z base PL mm) (zzM Z base PL mm) zzRI rX12_warmest.cells rX12_warmest.slots (f_X12_warmest_23b k12 k23 l1 l2 l3 l4 σ) σ 0 0 23 [(0, .ref (zzad Z 36)), (1, .int l1), (2, .int l2), (3, .int l3), (4, .int l4)] [] := by
  unfold f_X12_warmest_23b
  refine zz_iload C dX12_warmest_23 4 rfl ?_
  refine zz_aload_n C dX12_warmest_25 rfl 0 rfl ?_
  refine zz_get C zzM_obj (fun _ h9 => List.mem_cons_of_mem _ (List.mem_append_right _ (h9))) rfl 0 (by decide) (List.mem_of_getElem? (i := 2) rfl) (Or.inl rfl) rfl dX12_warmest_26 ?_
  refine zz_icmp_ge (tgt := 106) C dX12_warmest_29 (by decide) (fun h1 => ?_) (fun h1 => ?_)
  · refine zz_iincX (d := 1) (locf := fun x2 => [(3, .int x2), (0, .ref (zzad Z 36)), (1, .int l1), (2, .int l2), (4, .int l4)]) C dX12_warmest_106 (k := 3) rfl (by decide) (by decide) (fun _ => rfl) (fun x2 => ?_)
    refine zz_goto (tgt := 12) C dX12_warmest_109 (by decide) ?_
    refine zz_sub (loc' := [(0, .ref (zzad Z 36)), (1, .int l1), (2, .int l2), (3, .int x2)]) [1, 2, 3, 0] rfl ?_
    exact hk12 l1 l2 x2 σ
  · refine zz_iload_n C dX12_warmest_32 rfl 3 rfl ?_
    refine zz_iload C dX12_warmest_33 4 rfl ?_
    refine zz_icmp_eq (tgt := 58) C dX12_warmest_35 (by decide) (fun h3 => ?_) (fun h3 => ?_)
    · refine zz_sub (loc' := [(0, .ref (zzad Z 36)), (1, .int l1), (2, .int l2), (3, .int l3), (4, .int l4)]) [0, 1, 2, 3, 4] rfl ?_
      exact w_X12_warmest_58 C k12 hk12 k23 hk23 l1 l2 l3 l4 σ
    · refine zz_aload_n C dX12_warmest_38 rfl 0 rfl ?_
      refine zz_get C zzM_obj (fun _ h9 => List.mem_cons_of_mem _ (List.mem_append_right _ (h9))) rfl 4 (by decide) (List.mem_of_getElem? (i := 3) rfl) (Or.inl rfl) rfl dX12_warmest_39 ?_
      refine zz_bipush (v := 7) C dX12_warmest_42 (by decide) ?_
      refine zz_iload_n C dX12_warmest_44 rfl 3 rfl ?_
      refine zz_imul C dX12_warmest_45 ?_
      refine zz_iload C dX12_warmest_46 4 rfl ?_
      refine zz_iadd C dX12_warmest_48 ?_
      refine zz_gd (fun h4 => ?_)
      refine zz_iald C (zzM_arr (by decide)) h4 dX12_warmest_49 ?_
      refine zz_iload_n C dX12_warmest_50 rfl 2 rfl ?_
      refine zz_icmp_le (tgt := 58) C dX12_warmest_51 (by decide) (fun h5 => ?_) (fun h5 => ?_)
      · refine zz_sub (loc' := [(0, .ref (zzad Z 36)), (1, .int l1), (2, .int l2), (3, .int l3), (4, .int l4)]) [0, 1, 2, 3, 4] rfl ?_
        exact w_X12_warmest_58 C k12 hk12 k23 hk23 l1 l2 l3 l4 σ
      · refine zz_iconst (v := 1) C dX12_warmest_54 (by decide) ?_
        refine zz_goto (tgt := 59) C dX12_warmest_55 (by decide) ?_
        refine zz_sub (loc' := [(0, .ref (zzad Z 36)), (1, .int l1), (2, .int l2), (3, .int l3), (4, .int l4)]) [0, 1, 2, 3, 4] rfl ?_
        exact w_X12_warmest_59 C k12 hk12 k23 hk23 l1 l2 l3 l4 (1 : Int32) σ
set_option maxHeartbeats 4000000 in
set_option maxRecDepth 100000 in
theorem w_X12_warmest_23 {l : Launch} {Z : zzG} {base : Nat} {PL : Nat → Option (Nat × Int32)} {mm : zzS} {p : Program} {e : Env} {s : State} {m : MethodId} {args : Array Value} {below : List Frame} {meth : Method} {c : Code} (C : zzCx p m meth c s args cX12_warmest 6 wsX12_warmest RX12 (some .int) Z)  (k12 : Int32 → Int32 → Int32 → zzS → Option (Int32 × zzS)) (hk12 : ∀ (l1 : Int32)  (l2 : Int32)  (l3 : Int32)  (σ : zzS), zzGO p l e rX12_warmest s m args below meth c 6 (zzA base) (zzM Z base PL mm) (zzM Z base PL mm) zzRI rX12_warmest.cells rX12_warmest.slots (k12 l1 l2 l3 σ) σ 0 0 12 [(0, .ref (zzad Z 36)), (1, .int l1), (2, .int l2), (3, .int l3)] []) (n : Nat) : ∀ (l1 : Int32)  (l2 : Int32)  (l3 : Int32)  (l4 : Int32)  (σ : zzS), zzGO p l e rX12_warmest s m args below meth c 6 (zzA base) (zzM Z base PL mm) (zzM Z base PL mm) zzRI rX12_warmest.cells rX12_warmest.slots (f_X12_warmest_23 k12 n l1 l2 l3 l4 σ) σ 0 0 23 [(0, .ref (zzad Z 36)), (1, .int l1), (2, .int l2), (3, .int l3), (4, .int l4)] [] := by
  induction n with
  | zero => exact fun _ _ _ _ _ r9 s9 h9 => by cases h9
  | succ n ih => exact w_X12_warmest_23b C k12 hk12 _ ih
set_option maxHeartbeats 4000000 in
set_option maxRecDepth 100000 in
theorem w_X12_warmest_12b {l : Launch} {Z : zzG} {base : Nat} {PL : Nat → Option (Nat × Int32)} {mm : zzS} {p : Program} {e : Env} {s : State} {m : MethodId} {args : Array Value} {below : List Frame} {meth : Method} {c : Code} (C : zzCx p m meth c s args cX12_warmest 6 wsX12_warmest RX12 (some .int) Z)   (k12 : Int32 → Int32 → Int32 → zzS → Option (Int32 × zzS)) (hk12 : ∀ (l1 : Int32)  (l2 : Int32)  (l3 : Int32)  (σ : zzS), zzGO p l e rX12_warmest s m args below meth c 6 (zzA base) (zzM Z base PL mm) (zzM Z base PL mm) zzRI rX12_warmest.cells rX12_warmest.slots (k12 l1 l2 l3 σ) σ 0 0 12 [(0, .ref (zzad Z 36)), (1, .int l1), (2, .int l2), (3, .int l3)] []) (l1 : Int32)  (l2 : Int32)  (l3 : Int32)  (σ : zzS) : zzGO p l e rX12_warmest s m args below meth c 6 (zzA base) (zzM Z base PL mm) (zzM Z base PL mm) zzRI rX12_warmest.cells rX12_warmest.slots (f_X12_warmest_12b k12 l1 l2 l3 σ) σ 0 0 12 [(0, .ref (zzad Z 36)), (1, .int l1), (2, .int l2), (3, .int l3)] [] := by
  unfold f_X12_warmest_12b
  refine zz_iload_n C dX12_warmest_12 rfl 3 rfl ?_
  refine zz_aload_n C dX12_warmest_13 rfl 0 rfl ?_
  refine zz_get C zzM_obj (fun _ h9 => List.mem_cons_of_mem _ (List.mem_append_right _ (h9))) rfl 0 (by decide) (List.mem_of_getElem? (i := 2) rfl) (Or.inl rfl) rfl dX12_warmest_14 ?_
  refine zz_icmp_ge (tgt := 112) C dX12_warmest_17 (by decide) (fun h1 => ?_) (fun h1 => ?_)
  · refine zz_iload_n C dX12_warmest_112 rfl 1 rfl ?_
    exact zz_iret C rfl rfl (fun _ h9 => h9) (Nat.zero_le _) (Nat.zero_le _) dX12_warmest_113
  · refine zz_iconst (v := 0) C dX12_warmest_20 (by decide) ?_
    refine zz_istore (loc' := [(4, .int (0 : Int32)), (0, .ref (zzad Z 36)), (1, .int l1), (2, .int l2), (3, .int l3)]) C dX12_warmest_21 (by decide) rfl ?_
    refine zz_sub (loc' := [(0, .ref (zzad Z 36)), (1, .int l1), (2, .int l2), (3, .int l3), (4, .int (0 : Int32))]) [1, 2, 3, 4, 0] rfl ?_
    exact w_X12_warmest_23 C k12 hk12 200 l1 l2 l3 (0 : Int32) σ
set_option maxHeartbeats 4000000 in
set_option maxRecDepth 100000 in
theorem w_X12_warmest_12 {l : Launch} {Z : zzG} {base : Nat} {PL : Nat → Option (Nat × Int32)} {mm : zzS} {p : Program} {e : Env} {s : State} {m : MethodId} {args : Array Value} {below : List Frame} {meth : Method} {c : Code} (C : zzCx p m meth c s args cX12_warmest 6 wsX12_warmest RX12 (some .int) Z)   (n : Nat) : ∀ (l1 : Int32)  (l2 : Int32)  (l3 : Int32)  (σ : zzS), zzGO p l e rX12_warmest s m args below meth c 6 (zzA base) (zzM Z base PL mm) (zzM Z base PL mm) zzRI rX12_warmest.cells rX12_warmest.slots (f_X12_warmest_12 n l1 l2 l3 σ) σ 0 0 12 [(0, .ref (zzad Z 36)), (1, .int l1), (2, .int l2), (3, .int l3)] [] := by
  induction n with
  | zero => exact fun _ _ _ _ r9 s9 h9 => by cases h9
  | succ n ih => exact w_X12_warmest_12b C _ ih
set_option maxHeartbeats 4000000 in
set_option maxRecDepth 100000 in
theorem w_X12_warmest_e {l : Launch} {Z : zzG} {base : Nat} {PL : Nat → Option (Nat × Int32)} {mm : zzS} {p : Program} {e : Env} {s : State} {m : MethodId} {args : Array Value} {below : List Frame} {meth : Method} {c : Code} (C : zzCx p m meth c s args cX12_warmest 6 wsX12_warmest RX12 (some .int) Z)  (σ : zzS) : zzGO p l e rX12_warmest s m args below meth c 6 (zzA base) (zzM Z base PL mm) (zzM Z base PL mm) zzRI rX12_warmest.cells rX12_warmest.slots (f_X12_warmest σ) σ 0 0 0 [(0, .ref (zzad Z 36))] [] := by
  unfold f_X12_warmest
  refine zz_aload_n C dX12_warmest_0 rfl 0 rfl ?_
  refine zz_iconst (v := 0) C dX12_warmest_1 (by decide) ?_
  refine zz_put (ty := .int) C zzM_obj (fun _ h9 => List.mem_cons_of_mem _ (List.mem_append_right _ (h9))) rfl 13 (by decide) (List.mem_of_getElem? (i := 1) rfl) rfl tyX12_ok nmX12 rfl (by decide +kernel) rfl rfl (Nat.le_of_ble_eq_true rfl) (zzM_uobj (by decide)) (zzA_M (by decide)) dX12_warmest_2 ?_
  refine zz_ltS (fun σ1 => ?_)
  refine zz_bipush (v := -4) C dX12_warmest_5 (by decide) ?_
  refine zz_istore_n (loc' := [(1, .int (-4 : Int32)), (0, .ref (zzad Z 36))]) C dX12_warmest_7 rfl (by decide) rfl ?_
  refine zz_iconst (v := -1) C dX12_warmest_8 (by decide) ?_
  refine zz_istore_n (loc' := [(2, .int (-1 : Int32)), (1, .int (-4 : Int32)), (0, .ref (zzad Z 36))]) C dX12_warmest_9 rfl (by decide) rfl ?_
  refine zz_iconst (v := 0) C dX12_warmest_10 (by decide) ?_
  refine zz_istore_n (loc' := [(3, .int (0 : Int32)), (2, .int (-1 : Int32)), (1, .int (-4 : Int32)), (0, .ref (zzad Z 36))]) C dX12_warmest_11 rfl (by decide) rfl ?_
  refine zz_sub (loc' := [(0, .ref (zzad Z 36)), (1, .int (-4 : Int32)), (2, .int (-1 : Int32)), (3, .int (0 : Int32))]) [3, 2, 1, 0] rfl ?_
  exact w_X12_warmest_12 C 200 (-4 : Int32) (-1 : Int32) (0 : Int32) σ1
set_option maxHeartbeats 4000000 in
set_option maxRecDepth 100000 in
theorem k_X12_warmest {l : Launch} {Z : zzG} {base : Nat} {PL : Nat → Option (Nat × Int32)} {mm : zzS}  (σ : zzS) : zzCT l yX12_warmest wsX12_warmest rX12_warmest (zzA base) Z (zzM Z base PL mm) (zzM Z base PL mm) zzRI [.ref (zzad Z 36)] (f_X12_warmest σ) σ :=
  zzCT_of (cc := cX12_warmest) (nL := 6) (ret := (some .int)) (by decide) rfl (Nat.le_of_ble_eq_true rfl) [(0, .ref (zzad Z 36))] rfl (fun p e s m args below meth c C => w_X12_warmest_e C σ)
abbrev rX12_orders : Room := { frames := 2, cells := 0, slots := 0, locals := 46 }

set_option maxHeartbeats 4000000 in
set_option maxRecDepth 100000 in
theorem w_X12_orders_22b {l : Launch} {Z : zzG} {base : Nat} {PL : Nat → Option (Nat × Int32)} {mm : zzS} {p : Program} {e : Env} {s : State} {m : MethodId} {args : Array Value} {below : List Frame} {meth : Method} {c : Code} (C : zzCx p m meth c s args cX12_orders 5 wsX12_orders RX12 (some .long) Z) (p0 : Int32)   (k22 : Int64 → Int32 → zzS → Option (Int64 × zzS)) (hk22 : ∀ (l2 : Int64)  (l4 : Int32)  (σ : zzS), zzGO p l e rX12_orders s m args below meth c 5 (zzA base) (zzM Z base PL mm) (zzM Z base PL mm) zzRL rX12_orders.cells rX12_orders.slots (k22 l2 l4 σ) σ 0 0 22 [(0, .ref (zzad Z 36)), (1, .int p0), (2, .long l2), (4, .int l4)] []) (l2 : Int64)  (l4 : Int32)  (σ : zzS) : zzGO p l e rX12_orders s m args below meth c 5 (zzA base) (zzM Z base PL mm) (zzM Z base PL mm) zzRL rX12_orders.cells rX12_orders.slots (f_X12_orders_22b k22 p0 l2 l4 σ) σ 0 0 22 [(0, .ref (zzad Z 36)), (1, .int p0), (2, .long l2), (4, .int l4)] [] := by
  unfold f_X12_orders_22b
  refine zz_iload C dX12_orders_22 3 rfl ?_
  refine zz_bipush (v := 9) C dX12_orders_24 (by decide) ?_
  refine zz_aload_n C dX12_orders_26 rfl 0 rfl ?_
  refine zz_get C zzM_obj (fun _ h9 => List.mem_cons_of_mem _ (List.mem_append_right _ (h9))) rfl 3 (by decide) (List.mem_of_getElem? (i := 3) rfl) (Or.inl rfl) rfl dX12_orders_27 ?_
  refine zz_iload_n C dX12_orders_30 rfl 1 rfl ?_
  refine zz_gd (fun h1 => ?_)
  refine zz_iald C (zzM_arr (by decide)) h1 dX12_orders_31 ?_
  refine zz_isub C dX12_orders_32 ?_
  refine zz_icmp_gt (tgt := 48) C dX12_orders_33 (by decide) (fun h2 => ?_) (fun h2 => ?_)
  · refine zz_lload_n C dX12_orders_48 rfl 2 rfl ?_
    exact zz_lret C rfl rfl (fun _ h9 => h9) (Nat.zero_le _) (Nat.zero_le _) dX12_orders_49
  · refine zz_lload_n C dX12_orders_36 rfl 2 rfl ?_
    refine zz_iload C dX12_orders_37 3 rfl ?_
    refine zz_i2l C dX12_orders_39 ?_
    refine zz_lmul C dX12_orders_40 ?_
    refine zz_lstoreX_n (locf := fun x3 => [(2, .long x3), (0, .ref (zzad Z 36)), (1, .int p0), (4, .int l4)]) C dX12_orders_41 rfl (by decide) (fun _ => rfl) (fun x3 => ?_)
    refine zz_iincX (d := 1) (locf := fun x4 => [(4, .int x4), (2, .long x3), (0, .ref (zzad Z 36)), (1, .int p0)]) C dX12_orders_42 (k := 3) rfl (by decide) (by decide) (fun _ => rfl) (fun x4 => ?_)
    refine zz_goto (tgt := 22) C dX12_orders_45 (by decide) ?_
    refine zz_sub (loc' := [(0, .ref (zzad Z 36)), (1, .int p0), (2, .long x3), (4, .int x4)]) [2, 3, 1, 0] rfl ?_
    exact hk22 x3 x4 σ
set_option maxHeartbeats 4000000 in
set_option maxRecDepth 100000 in
theorem w_X12_orders_22 {l : Launch} {Z : zzG} {base : Nat} {PL : Nat → Option (Nat × Int32)} {mm : zzS} {p : Program} {e : Env} {s : State} {m : MethodId} {args : Array Value} {below : List Frame} {meth : Method} {c : Code} (C : zzCx p m meth c s args cX12_orders 5 wsX12_orders RX12 (some .long) Z) (p0 : Int32)   (n : Nat) : ∀ (l2 : Int64)  (l4 : Int32)  (σ : zzS), zzGO p l e rX12_orders s m args below meth c 5 (zzA base) (zzM Z base PL mm) (zzM Z base PL mm) zzRL rX12_orders.cells rX12_orders.slots (f_X12_orders_22 p0 n l2 l4 σ) σ 0 0 22 [(0, .ref (zzad Z 36)), (1, .int p0), (2, .long l2), (4, .int l4)] [] := by
  induction n with
  | zero => exact fun _ _ _ r9 s9 h9 => by cases h9
  | succ n ih => exact w_X12_orders_22b C p0 _ ih
set_option maxHeartbeats 4000000 in
set_option maxRecDepth 100000 in
theorem w_X12_orders_e {l : Launch} {Z : zzG} {base : Nat} {PL : Nat → Option (Nat × Int32)} {mm : zzS} {p : Program} {e : Env} {s : State} {m : MethodId} {args : Array Value} {below : List Frame} {meth : Method} {c : Code} (C : zzCx p m meth c s args cX12_orders 5 wsX12_orders RX12 (some .long) Z) (p0 : Int32)  (σ : zzS) : zzGO p l e rX12_orders s m args below meth c 5 (zzA base) (zzM Z base PL mm) (zzM Z base PL mm) zzRL rX12_orders.cells rX12_orders.slots (f_X12_orders p0 σ) σ 0 0 0 [(0, .ref (zzad Z 36)), (1, .int p0)] [] := by
  unfold f_X12_orders
  refine zz_aload_n C dX12_orders_0 rfl 0 rfl ?_
  refine zz_iconst (v := 0) C dX12_orders_1 (by decide) ?_
  refine zz_put (ty := .int) C zzM_obj (fun _ h9 => List.mem_cons_of_mem _ (List.mem_append_right _ (h9))) rfl 13 (by decide) (List.mem_of_getElem? (i := 1) rfl) rfl tyX12_ok nmX12 rfl (by decide +kernel) rfl rfl (Nat.le_of_ble_eq_true rfl) (zzM_uobj (by decide)) (zzA_M (by decide)) dX12_orders_2 ?_
  refine zz_ltS (fun σ1 => ?_)
  refine zz_aload_n C dX12_orders_5 rfl 0 rfl ?_
  refine zz_iload_n C dX12_orders_6 rfl 1 rfl ?_
  refine zz_callV C (Cn := RX12) (b := zzad Z 36) (fun H hH => zz_recv C.2.2.2 (zzM_obj H hH) rfl) (As := [.int p0]) (rest := []) rfl (k_X12_isOne p0 σ1) (cwV 1 C.1.2.2.2.2 gX12_orders_X12_isOne rfl rfl rfl (by decide +kernel) ⟨Nat.le_of_ble_eq_true rfl, Nat.le_of_ble_eq_true rfl⟩) rfl (Nat.le_of_ble_eq_true rfl) ⟨Nat.zero_le _, Nat.zero_le _⟩ dX12_orders_7 (zz_kI rfl rfl (fun r2 σ3 => ?_))
  refine zz_if_ne (tgt := 17) C dX12_orders_10 (by decide) (fun h4 => ?_) (fun h4 => ?_)
  · refine zz_lconst (v := 1) C dX12_orders_17 (by decide) ?_
    refine zz_lstore_n (loc' := [(2, .long (1 : Int64)), (0, .ref (zzad Z 36)), (1, .int p0)]) C dX12_orders_18 rfl (by decide) rfl ?_
    refine zz_iconst (v := 2) C dX12_orders_19 (by decide) ?_
    refine zz_istore (loc' := [(4, .int (2 : Int32)), (2, .long (1 : Int64)), (0, .ref (zzad Z 36)), (1, .int p0)]) C dX12_orders_20 (by decide) rfl ?_
    refine zz_sub (loc' := [(0, .ref (zzad Z 36)), (1, .int p0), (2, .long (1 : Int64)), (4, .int (2 : Int32))]) [2, 3, 1, 0] rfl ?_
    exact w_X12_orders_22 C p0 200 (1 : Int64) (2 : Int32) σ3
  · refine zz_ldc2 (v := 1000000001) C (C.1.2.2.2.2 _ (List.mem_of_getElem? (i := 2) rfl)) dX12_orders_13 ?_
    exact zz_lret C rfl rfl (fun _ h9 => h9) (Nat.zero_le _) (Nat.zero_le _) dX12_orders_16
set_option maxHeartbeats 4000000 in
set_option maxRecDepth 100000 in
theorem k_X12_orders {l : Launch} {Z : zzG} {base : Nat} {PL : Nat → Option (Nat × Int32)} {mm : zzS} (p0 : Int32)  (σ : zzS) : zzCT l yX12_orders wsX12_orders rX12_orders (zzA base) Z (zzM Z base PL mm) (zzM Z base PL mm) zzRL [.ref (zzad Z 36), .int p0] (f_X12_orders p0 σ) σ :=
  zzCT_of (cc := cX12_orders) (nL := 5) (ret := (some .long)) (by decide) rfl (Nat.le_of_ble_eq_true rfl) [(0, .ref (zzad Z 36)), (1, .int p0)] rfl (fun p e s m args below meth c C => w_X12_orders_e C p0 σ)
abbrev rX12_divisor : Room := { frames := 0, cells := 0, slots := 0, locals := 0 }

set_option maxHeartbeats 4000000 in
set_option maxRecDepth 100000 in
theorem w_X12_divisor_6b {l : Launch} {Z : zzG} {base : Nat} {PL : Nat → Option (Nat × Int32)} {mm : zzS} {p : Program} {e : Env} {s : State} {m : MethodId} {args : Array Value} {below : List Frame} {meth : Method} {c : Code} (C : zzCx p m meth c s args cX12_divisor 10 wsX12_divisor RX12 (some .long) Z) (p0 : Int64)  (p1 : Int64)   (k6 : Int64 → Int64 → zzS → Option (Int64 × zzS)) (hk6 : ∀ (l4 : Int64)  (l6 : Int64)  (σ : zzS), zzGO p l e rX12_divisor s m args below meth c 10 (zzA base) (zzM Z base PL mm) (zzM Z base PL mm) zzRL rX12_divisor.cells rX12_divisor.slots (k6 l4 l6 σ) σ 0 0 6 [(4, .long l4), (6, .long l6)] []) (l4 : Int64)  (l6 : Int64)  (σ : zzS) : zzGO p l e rX12_divisor s m args below meth c 10 (zzA base) (zzM Z base PL mm) (zzM Z base PL mm) zzRL rX12_divisor.cells rX12_divisor.slots (f_X12_divisor_6b k6 p0 p1 l4 l6 σ) σ 0 0 6 [(4, .long l4), (6, .long l6)] [] := by
  unfold f_X12_divisor_6b
  refine zz_lload C dX12_divisor_6 1 rfl ?_
  refine zz_lconst (v := 0) C dX12_divisor_8 (by decide) ?_
  refine zz_lcmp C dX12_divisor_9 ?_
  refine zz_if_eq (tgt := 31) C dX12_divisor_10 (by decide) (fun h1 => ?_) (fun h1 => ?_)
  · refine zz_lload C dX12_divisor_31 0 rfl ?_
    exact zz_lret C rfl rfl (fun _ h9 => h9) (Nat.zero_le _) (Nat.zero_le _) dX12_divisor_33
  · refine zz_lload C dX12_divisor_13 0 rfl ?_
    refine zz_lload C dX12_divisor_15 1 rfl ?_
    refine zz_gd (fun h2 => ?_)
    refine zz_lrem C dX12_divisor_17 h2 ?_
    refine zz_lstoreX (locf := fun x3 => [(8, .long x3), (4, .long l4), (6, .long l6)]) C dX12_divisor_18 (by decide) (fun _ => rfl) (fun x3 => ?_)
    refine zz_lload C dX12_divisor_20 2 rfl ?_
    refine zz_lstore (loc' := [(4, .long l6), (8, .long x3), (6, .long l6)]) C dX12_divisor_22 (by decide) rfl ?_
    refine zz_lload C dX12_divisor_24 1 rfl ?_
    refine zz_lstore (loc' := [(6, .long x3), (4, .long l6), (8, .long x3)]) C dX12_divisor_26 (by decide) rfl ?_
    refine zz_goto (tgt := 6) C dX12_divisor_28 (by decide) ?_
    refine zz_sub (loc' := [(4, .long l6), (6, .long x3)]) [1, 0] rfl ?_
    exact hk6 l6 x3 σ
set_option maxHeartbeats 4000000 in
set_option maxRecDepth 100000 in
theorem w_X12_divisor_6 {l : Launch} {Z : zzG} {base : Nat} {PL : Nat → Option (Nat × Int32)} {mm : zzS} {p : Program} {e : Env} {s : State} {m : MethodId} {args : Array Value} {below : List Frame} {meth : Method} {c : Code} (C : zzCx p m meth c s args cX12_divisor 10 wsX12_divisor RX12 (some .long) Z) (p0 : Int64)  (p1 : Int64)   (n : Nat) : ∀ (l4 : Int64)  (l6 : Int64)  (σ : zzS), zzGO p l e rX12_divisor s m args below meth c 10 (zzA base) (zzM Z base PL mm) (zzM Z base PL mm) zzRL rX12_divisor.cells rX12_divisor.slots (f_X12_divisor_6 p0 p1 n l4 l6 σ) σ 0 0 6 [(4, .long l4), (6, .long l6)] [] := by
  induction n with
  | zero => exact fun _ _ _ r9 s9 h9 => by cases h9
  | succ n ih => exact w_X12_divisor_6b C p0 p1 _ ih
set_option maxHeartbeats 4000000 in
set_option maxRecDepth 100000 in
theorem w_X12_divisor_e {l : Launch} {Z : zzG} {base : Nat} {PL : Nat → Option (Nat × Int32)} {mm : zzS} {p : Program} {e : Env} {s : State} {m : MethodId} {args : Array Value} {below : List Frame} {meth : Method} {c : Code} (C : zzCx p m meth c s args cX12_divisor 10 wsX12_divisor RX12 (some .long) Z) (p0 : Int64)  (p1 : Int64)  (σ : zzS) : zzGO p l e rX12_divisor s m args below meth c 10 (zzA base) (zzM Z base PL mm) (zzM Z base PL mm) zzRL rX12_divisor.cells rX12_divisor.slots (f_X12_divisor p0 p1 σ) σ 0 0 0 [(0, .long p0), (2, .long p1)] [] := by
  unfold f_X12_divisor
  refine zz_lload_n C dX12_divisor_0 rfl 0 rfl ?_
  refine zz_lstore (loc' := [(4, .long p0), (0, .long p0), (2, .long p1)]) C dX12_divisor_1 (by decide) rfl ?_
  refine zz_lload_n C dX12_divisor_3 rfl 2 rfl ?_
  refine zz_lstore (loc' := [(6, .long p1), (4, .long p0), (0, .long p0), (2, .long p1)]) C dX12_divisor_4 (by decide) rfl ?_
  refine zz_sub (loc' := [(4, .long p0), (6, .long p1)]) [1, 0] rfl ?_
  exact w_X12_divisor_6 C p0 p1 200 p0 p1 σ
set_option maxHeartbeats 4000000 in
set_option maxRecDepth 100000 in
theorem k_X12_divisor {l : Launch} {Z : zzG} {base : Nat} {PL : Nat → Option (Nat × Int32)} {mm : zzS} (p0 : Int64)  (p1 : Int64)  (σ : zzS) : zzCT l yX12_divisor wsX12_divisor rX12_divisor (zzA base) Z (zzM Z base PL mm) (zzM Z base PL mm) zzRL [.long p0, .long p1] (f_X12_divisor p0 p1 σ) σ :=
  zzCT_of (cc := cX12_divisor) (nL := 10) (ret := (some .long)) (by decide) rfl (Nat.le_of_ble_eq_true rfl) [(0, .long p0), (2, .long p1)] rfl (fun p e s m args below meth c C => w_X12_divisor_e C p0 p1 σ)
abbrev rX12_partOf : Room := { frames := 1, cells := 0, slots := 0, locals := 29 }

set_option maxHeartbeats 4000000 in
set_option maxRecDepth 100000 in
theorem w_X12_partOf_e {l : Launch} {Z : zzG} {base : Nat} {PL : Nat → Option (Nat × Int32)} {mm : zzS} {p : Program} {e : Env} {s : State} {m : MethodId} {args : Array Value} {below : List Frame} {meth : Method} {c : Code} (C : zzCx p m meth c s args cX12_partOf 7 wsX12_partOf RX12 (some .long) Z) (p0 : Int64)  (p1 : Int64)  (p2 : Int32)  (σ : zzS) : zzGO p l e rX12_partOf s m args below meth c 7 (zzA base) (zzM Z base PL mm) (zzM Z base PL mm) zzRL rX12_partOf.cells rX12_partOf.slots (f_X12_partOf p0 p1 p2 σ) σ 0 0 0 [(0, .long p0), (2, .long p1), (4, .int p2)] [] := by
  unfold f_X12_partOf
  refine zz_lload_n C dX12_partOf_0 rfl 0 rfl ?_
  refine zz_lconst (v := 0) C dX12_partOf_1 (by decide) ?_
  refine zz_lcmp C dX12_partOf_2 ?_
  refine zz_if_ne (tgt := 10) C dX12_partOf_3 (by decide) (fun h1 => ?_) (fun h1 => ?_)
  · refine zz_lload_n C dX12_partOf_10 rfl 0 rfl ?_
    refine zz_lload_n C dX12_partOf_11 rfl 1 rfl ?_
    refine zz_callS (As := [.long p0, .long p1]) (rest := []) C rfl (k_X12_divisor p0 p1 σ) (va_cwS 2 C.1.2.2.2.2 gX12_partOf_X12_divisor rfl rfl rfl (by decide +kernel) ⟨Nat.le_of_ble_eq_true rfl, Nat.le_of_ble_eq_true rfl⟩) rfl (Nat.le_of_ble_eq_true rfl) ⟨Nat.zero_le _, Nat.zero_le _⟩ dX12_partOf_12 (zz_kL rfl rfl (fun r2 σ3 => ?_))
    refine zz_lstore (loc' := [(5, .long r2), (0, .long p0), (2, .long p1), (4, .int p2)]) C dX12_partOf_15 (by decide) rfl ?_
    refine zz_iload C dX12_partOf_17 3 rfl ?_
    refine zz_if_ne (tgt := 29) C dX12_partOf_19 (by decide) (fun h4 => ?_) (fun h4 => ?_)
    · refine zz_lload_n C dX12_partOf_29 rfl 2 rfl ?_
      refine zz_lload C dX12_partOf_30 0 rfl ?_
      refine zz_gd (fun h5 => ?_)
      refine zz_ldiv C dX12_partOf_32 h5 ?_
      exact zz_lret C rfl rfl (fun _ h9 => h9) (Nat.zero_le _) (Nat.zero_le _) dX12_partOf_33
    · refine zz_lload_n C dX12_partOf_22 rfl 1 rfl ?_
      refine zz_lload C dX12_partOf_23 0 rfl ?_
      refine zz_gd (fun h6 => ?_)
      refine zz_ldiv C dX12_partOf_25 h6 ?_
      refine zz_goto (tgt := 33) C dX12_partOf_26 (by decide) ?_
      exact zz_lret C rfl rfl (fun _ h9 => h9) (Nat.zero_le _) (Nat.zero_le _) dX12_partOf_33
  · refine zz_iload C dX12_partOf_6 2 rfl ?_
    refine zz_i2l C dX12_partOf_8 ?_
    exact zz_lret C rfl rfl (fun _ h9 => h9) (Nat.zero_le _) (Nat.zero_le _) dX12_partOf_9
set_option maxHeartbeats 4000000 in
set_option maxRecDepth 100000 in
theorem k_X12_partOf {l : Launch} {Z : zzG} {base : Nat} {PL : Nat → Option (Nat × Int32)} {mm : zzS} (p0 : Int64)  (p1 : Int64)  (p2 : Int32)  (σ : zzS) : zzCT l yX12_partOf wsX12_partOf rX12_partOf (zzA base) Z (zzM Z base PL mm) (zzM Z base PL mm) zzRL [.long p0, .long p1, .int p2] (f_X12_partOf p0 p1 p2 σ) σ :=
  zzCT_of (cc := cX12_partOf) (nL := 7) (ret := (some .long)) (by decide) rfl (Nat.le_of_ble_eq_true rfl) [(0, .long p0), (2, .long p1), (4, .int p2)] rfl (fun p e s m args below meth c C => w_X12_partOf_e C p0 p1 p2 σ)
abbrev rX12_drawn : Room := { frames := 3, cells := 0, slots := 0, locals := 68 }

set_option maxHeartbeats 4000000 in
set_option maxRecDepth 100000 in
theorem w_X12_drawn_e {l : Launch} {Z : zzG} {base : Nat} {PL : Nat → Option (Nat × Int32)} {mm : zzS} {p : Program} {e : Env} {s : State} {m : MethodId} {args : Array Value} {below : List Frame} {meth : Method} {c : Code} (C : zzCx p m meth c s args cX12_drawn 5 wsX12_drawn RX12 (some .long) Z) (p0 : Int32)  (p1 : Int32)  (p2 : Int32)  (σ : zzS) : zzGO p l e rX12_drawn s m args below meth c 5 (zzA base) (zzM Z base PL mm) (zzM Z base PL mm) zzRL rX12_drawn.cells rX12_drawn.slots (f_X12_drawn p0 p1 p2 σ) σ 0 0 0 [(0, .ref (zzad Z 36)), (1, .int p0), (2, .int p1), (3, .int p2)] [] := by
  unfold f_X12_drawn
  refine zz_aload_n C dX12_drawn_0 rfl 0 rfl ?_
  refine zz_iconst (v := 0) C dX12_drawn_1 (by decide) ?_
  refine zz_put (ty := .int) C zzM_obj (fun _ h9 => List.mem_cons_of_mem _ (List.mem_append_right _ (h9))) rfl 13 (by decide) (List.mem_of_getElem? (i := 1) rfl) rfl tyX12_ok nmX12 rfl (by decide +kernel) rfl rfl (Nat.le_of_ble_eq_true rfl) (zzM_uobj (by decide)) (zzA_M (by decide)) dX12_drawn_2 ?_
  refine zz_ltS (fun σ1 => ?_)
  refine zz_aload_n C dX12_drawn_5 rfl 0 rfl ?_
  refine zz_iload_n C dX12_drawn_6 rfl 1 rfl ?_
  refine zz_iload_n C dX12_drawn_7 rfl 2 rfl ?_
  refine zz_callV C (Cn := RX12) (b := zzad Z 36) (fun H hH => zz_recv C.2.2.2 (zzM_obj H hH) rfl) (As := [.int p0, .int p1]) (rest := []) rfl (k_X12_areTwo p0 p1 σ1) (cwV 2 C.1.2.2.2.2 gX12_drawn_X12_areTwo rfl rfl rfl (by decide +kernel) ⟨Nat.le_of_ble_eq_true rfl, Nat.le_of_ble_eq_true rfl⟩) rfl (Nat.le_of_ble_eq_true rfl) ⟨Nat.zero_le _, Nat.zero_le _⟩ dX12_drawn_8 (zz_kI rfl rfl (fun r2 σ3 => ?_))
  refine zz_if_eq (tgt := 24) C dX12_drawn_11 (by decide) (fun h4 => ?_) (fun h4 => ?_)
  · refine zz_ldc2 (v := 1000000001) C (C.1.2.2.2.2 _ (List.mem_of_getElem? (i := 2) rfl)) dX12_drawn_24 ?_
    exact zz_lret C rfl rfl (fun _ h9 => h9) (Nat.zero_le _) (Nat.zero_le _) dX12_drawn_27
  · refine zz_iload_n C dX12_drawn_14 rfl 3 rfl ?_
    refine zz_i2l C dX12_drawn_15 ?_
    refine zz_lconst (v := 0) C dX12_drawn_16 (by decide) ?_
    refine zz_lconst (v := 1) C dX12_drawn_17 (by decide) ?_
    refine zz_callS (As := [.long (Int32.toInt64 p2), .long (0 : Int64), .long (1 : Int64)]) (rest := []) C rfl (k_X12_in (Int32.toInt64 p2) (0 : Int64) (1 : Int64) σ3) (va_cwS 3 C.1.2.2.2.2 gX12_drawn_X12_in rfl rfl rfl (by decide +kernel) ⟨Nat.le_of_ble_eq_true rfl, Nat.le_of_ble_eq_true rfl⟩) rfl (Nat.le_of_ble_eq_true rfl) ⟨Nat.zero_le _, Nat.zero_le _⟩ dX12_drawn_18 (zz_kI rfl rfl (fun r5 σ6 => ?_))
    refine zz_if_ne (tgt := 28) C dX12_drawn_21 (by decide) (fun h7 => ?_) (fun h7 => ?_)
    · refine zz_bipush (v := 9) C dX12_drawn_28 (by decide) ?_
      refine zz_aload_n C dX12_drawn_30 rfl 0 rfl ?_
      refine zz_get C zzM_obj (fun _ h9 => List.mem_cons_of_mem _ (List.mem_append_right _ (h9))) rfl 3 (by decide) (List.mem_of_getElem? (i := 3) rfl) (Or.inl rfl) rfl dX12_drawn_31 ?_
      refine zz_iload_n C dX12_drawn_34 rfl 2 rfl ?_
      refine zz_gd (fun h8 => ?_)
      refine zz_iald C (zzM_arr (by decide)) h8 dX12_drawn_35 ?_
      refine zz_isub C dX12_drawn_36 ?_
      refine zz_istoreX (locf := fun x9 => [(4, .int x9), (0, .ref (zzad Z 36)), (1, .int p0), (2, .int p1), (3, .int p2)]) C dX12_drawn_37 (by decide) (fun _ => rfl) (fun x9 => ?_)
      refine zz_aload_n C dX12_drawn_39 rfl 1 rfl ?_
      refine zz_iload_n C dX12_drawn_40 rfl 2 rfl ?_
      refine zz_callV C (Cn := RX12) (b := zzad Z 36) (fun H hH => zz_recv C.2.2.2 (zzM_obj H hH) rfl) (As := [.int p0]) (rest := []) rfl (k_X12_turnsOf p0 σ6) (cwV 1 C.1.2.2.2.2 gX12_drawn_X12_turnsOf rfl rfl rfl (by decide +kernel) ⟨Nat.le_of_ble_eq_true rfl, Nat.le_of_ble_eq_true rfl⟩) rfl (Nat.le_of_ble_eq_true rfl) ⟨Nat.zero_le _, Nat.zero_le _⟩ dX12_drawn_41 (zz_kI rfl rfl (fun r10 σ11 => ?_))
      refine zz_iload C dX12_drawn_44 0 rfl ?_
      refine zz_callS (As := [.int r10, .int x9]) (rest := []) C rfl (k_X12_lesser r10 x9 σ11) (va_cwS 2 C.1.2.2.2.2 gX12_drawn_X12_lesser rfl rfl rfl (by decide +kernel) ⟨Nat.le_of_ble_eq_true rfl, Nat.le_of_ble_eq_true rfl⟩) rfl (Nat.le_of_ble_eq_true rfl) ⟨Nat.zero_le _, Nat.zero_le _⟩ dX12_drawn_46 (zz_kI rfl rfl (fun r12 σ13 => ?_))
      refine zz_i2l C dX12_drawn_49 ?_
      refine zz_iload C dX12_drawn_50 0 rfl ?_
      refine zz_i2l C dX12_drawn_52 ?_
      refine zz_iload_n C dX12_drawn_53 rfl 4 rfl ?_
      refine zz_callS (As := [.long (Int32.toInt64 r12), .long (Int32.toInt64 x9), .int p2]) (rest := []) C rfl (k_X12_partOf (Int32.toInt64 r12) (Int32.toInt64 x9) p2 σ13) (va_cwS 3 C.1.2.2.2.2 gX12_drawn_X12_partOf rfl rfl rfl (by decide +kernel) ⟨Nat.le_of_ble_eq_true rfl, Nat.le_of_ble_eq_true rfl⟩) rfl (Nat.le_of_ble_eq_true rfl) ⟨Nat.zero_le _, Nat.zero_le _⟩ dX12_drawn_54 (zz_kL rfl rfl (fun r14 σ15 => ?_))
      exact zz_lret C rfl rfl (fun _ h9 => h9) (Nat.zero_le _) (Nat.zero_le _) dX12_drawn_57
    · refine zz_ldc2 (v := 1000000001) C (C.1.2.2.2.2 _ (List.mem_of_getElem? (i := 2) rfl)) dX12_drawn_24 ?_
      exact zz_lret C rfl rfl (fun _ h9 => h9) (Nat.zero_le _) (Nat.zero_le _) dX12_drawn_27
set_option maxHeartbeats 4000000 in
set_option maxRecDepth 100000 in
theorem k_X12_drawn {l : Launch} {Z : zzG} {base : Nat} {PL : Nat → Option (Nat × Int32)} {mm : zzS} (p0 : Int32)  (p1 : Int32)  (p2 : Int32)  (σ : zzS) : zzCT l yX12_drawn wsX12_drawn rX12_drawn (zzA base) Z (zzM Z base PL mm) (zzM Z base PL mm) zzRL [.ref (zzad Z 36), .int p0, .int p1, .int p2] (f_X12_drawn p0 p1 p2 σ) σ :=
  zzCT_of (cc := cX12_drawn) (nL := 5) (ret := (some .long)) (by decide) rfl (Nat.le_of_ble_eq_true rfl) [(0, .ref (zzad Z 36)), (1, .int p0), (2, .int p1), (3, .int p2)] rfl (fun p e s m args below meth c C => w_X12_drawn_e C p0 p1 p2 σ)
abbrev rX12_await : Room := { frames := 2, cells := 0, slots := 0, locals := 55 }

set_option maxHeartbeats 4000000 in
set_option maxRecDepth 100000 in
theorem w_X12_await_52b {l : Launch} {Z : zzG} {base : Nat} {PL : Nat → Option (Nat × Int32)} {mm : zzS} {p : Program} {e : Env} {s : State} {m : MethodId} {args : Array Value} {below : List Frame} {meth : Method} {c : Code} (C : zzCx p m meth c s args cX12_await 9 wsX12_await RX12 (some .long) Z) (p0 : Int32)  (p1 : Int32)  (p2 : Int32)   (k52 : Int64 → Int64 → Int32 → zzS → Option (Int64 × zzS)) (hk52 : ∀ (l4 : Int64)  (l6 : Int64)  (l8 : Int32)  (σ : zzS), zzGO p l e rX12_await s m args below meth c 9 (zzA base) (zzM Z base PL mm) (zzM Z base PL mm) zzRL rX12_await.cells rX12_await.slots (k52 l4 l6 l8 σ) σ 0 0 52 [(1, .int p0), (2, .int p1), (3, .int p2), (4, .long l4), (6, .long l6), (8, .int l8)] []) (l4 : Int64)  (l6 : Int64)  (l8 : Int32)  (σ : zzS) : zzGO p l e rX12_await s m args below meth c 9 (zzA base) (zzM Z base PL mm) (zzM Z base PL mm) zzRL rX12_await.cells rX12_await.slots (f_X12_await_52b k52 p0 p1 p2 l4 l6 l8 σ) σ 0 0 52 [(1, .int p0), (2, .int p1), (3, .int p2), (4, .long l4), (6, .long l6), (8, .int l8)] [] := by
  unfold f_X12_await_52b
  refine zz_iload C dX12_await_52 5 rfl ?_
  refine zz_iload_n C dX12_await_54 rfl 1 rfl ?_
  refine zz_icmp_ge (tgt := 82) C dX12_await_55 (by decide) (fun h1 => ?_) (fun h1 => ?_)
  · refine zz_lload C dX12_await_82 4 rfl ?_
    refine zz_lload C dX12_await_84 3 rfl ?_
    refine zz_lsub C dX12_await_86 ?_
    refine zz_lload C dX12_await_87 4 rfl ?_
    refine zz_iload_n C dX12_await_89 rfl 2 rfl ?_
    refine zz_callS (As := [.long (l6 - l4), .long l6, .int p2]) (rest := []) C rfl (k_X12_partOf (l6 - l4) l6 p2 σ) (va_cwS 3 C.1.2.2.2.2 gX12_await_X12_partOf rfl rfl rfl (by decide +kernel) ⟨Nat.le_of_ble_eq_true rfl, Nat.le_of_ble_eq_true rfl⟩) rfl (Nat.le_of_ble_eq_true rfl) ⟨Nat.zero_le _, Nat.zero_le _⟩ dX12_await_90 (zz_kL rfl rfl (fun r2 σ3 => ?_))
    exact zz_lret C rfl rfl (fun _ h9 => h9) (Nat.zero_le _) (Nat.zero_le _) dX12_await_93
  · refine zz_lload C dX12_await_58 3 rfl ?_
    refine zz_bipush (v := 10) C dX12_await_60 (by decide) ?_
    refine zz_iload_n C dX12_await_62 rfl 0 rfl ?_
    refine zz_isub C dX12_await_63 ?_
    refine zz_i2l C dX12_await_64 ?_
    refine zz_lmul C dX12_await_65 ?_
    refine zz_lstoreX (locf := fun x4 => [(4, .long x4), (1, .int p0), (2, .int p1), (3, .int p2), (6, .long l6), (8, .int l8)]) C dX12_await_66 (by decide) (fun _ => rfl) (fun x4 => ?_)
    refine zz_lload C dX12_await_68 4 rfl ?_
    refine zz_ldc2 (v := 10) C (C.1.2.2.2.2 _ (List.mem_of_getElem? (i := 2) rfl)) dX12_await_70 ?_
    refine zz_lmul C dX12_await_73 ?_
    refine zz_lstoreX (locf := fun x5 => [(6, .long x5), (4, .long x4), (1, .int p0), (2, .int p1), (3, .int p2), (8, .int l8)]) C dX12_await_74 (by decide) (fun _ => rfl) (fun x5 => ?_)
    refine zz_iincX (d := 1) (locf := fun x6 => [(8, .int x6), (6, .long x5), (4, .long x4), (1, .int p0), (2, .int p1), (3, .int p2)]) C dX12_await_76 (k := 5) rfl (by decide) (by decide) (fun _ => rfl) (fun x6 => ?_)
    refine zz_goto (tgt := 52) C dX12_await_79 (by decide) ?_
    refine zz_sub (loc' := [(1, .int p0), (2, .int p1), (3, .int p2), (4, .long x4), (6, .long x5), (8, .int x6)]) [3, 4, 5, 2, 1, 0] rfl ?_
    exact hk52 x4 x5 x6 σ
set_option maxHeartbeats 4000000 in
set_option maxRecDepth 100000 in
theorem w_X12_await_52 {l : Launch} {Z : zzG} {base : Nat} {PL : Nat → Option (Nat × Int32)} {mm : zzS} {p : Program} {e : Env} {s : State} {m : MethodId} {args : Array Value} {below : List Frame} {meth : Method} {c : Code} (C : zzCx p m meth c s args cX12_await 9 wsX12_await RX12 (some .long) Z) (p0 : Int32)  (p1 : Int32)  (p2 : Int32)   (n : Nat) : ∀ (l4 : Int64)  (l6 : Int64)  (l8 : Int32)  (σ : zzS), zzGO p l e rX12_await s m args below meth c 9 (zzA base) (zzM Z base PL mm) (zzM Z base PL mm) zzRL rX12_await.cells rX12_await.slots (f_X12_await_52 p0 p1 p2 n l4 l6 l8 σ) σ 0 0 52 [(1, .int p0), (2, .int p1), (3, .int p2), (4, .long l4), (6, .long l6), (8, .int l8)] [] := by
  induction n with
  | zero => exact fun _ _ _ _ r9 s9 h9 => by cases h9
  | succ n ih => exact w_X12_await_52b C p0 p1 p2 _ ih
set_option maxHeartbeats 4000000 in
set_option maxRecDepth 100000 in
theorem w_X12_await_e {l : Launch} {Z : zzG} {base : Nat} {PL : Nat → Option (Nat × Int32)} {mm : zzS} {p : Program} {e : Env} {s : State} {m : MethodId} {args : Array Value} {below : List Frame} {meth : Method} {c : Code} (C : zzCx p m meth c s args cX12_await 9 wsX12_await RX12 (some .long) Z) (p0 : Int32)  (p1 : Int32)  (p2 : Int32)  (σ : zzS) : zzGO p l e rX12_await s m args below meth c 9 (zzA base) (zzM Z base PL mm) (zzM Z base PL mm) zzRL rX12_await.cells rX12_await.slots (f_X12_await p0 p1 p2 σ) σ 0 0 0 [(0, .ref (zzad Z 36)), (1, .int p0), (2, .int p1), (3, .int p2)] [] := by
  unfold f_X12_await
  refine zz_aload_n C dX12_await_0 rfl 0 rfl ?_
  refine zz_iconst (v := 0) C dX12_await_1 (by decide) ?_
  refine zz_put (ty := .int) C zzM_obj (fun _ h9 => List.mem_cons_of_mem _ (List.mem_append_right _ (h9))) rfl 13 (by decide) (List.mem_of_getElem? (i := 1) rfl) rfl tyX12_ok nmX12 rfl (by decide +kernel) rfl rfl (Nat.le_of_ble_eq_true rfl) (zzM_uobj (by decide)) (zzA_M (by decide)) dX12_await_2 ?_
  refine zz_ltS (fun σ1 => ?_)
  refine zz_iload_n C dX12_await_5 rfl 1 rfl ?_
  refine zz_i2l C dX12_await_6 ?_
  refine zz_lconst (v := 0) C dX12_await_7 (by decide) ?_
  refine zz_ldc2 (v := 10) C (C.1.2.2.2.2 _ (List.mem_of_getElem? (i := 2) rfl)) dX12_await_8 ?_
  refine zz_callS (As := [.long (Int32.toInt64 p0), .long (0 : Int64), .long (10 : Int64)]) (rest := []) C rfl (k_X12_in (Int32.toInt64 p0) (0 : Int64) (10 : Int64) σ1) (va_cwS 3 C.1.2.2.2.2 gX12_await_X12_in rfl rfl rfl (by decide +kernel) ⟨Nat.le_of_ble_eq_true rfl, Nat.le_of_ble_eq_true rfl⟩) rfl (Nat.le_of_ble_eq_true rfl) ⟨Nat.zero_le _, Nat.zero_le _⟩ dX12_await_11 (zz_kI rfl rfl (fun r2 σ3 => ?_))
  refine zz_if_eq (tgt := 39) C dX12_await_14 (by decide) (fun h4 => ?_) (fun h4 => ?_)
  · refine zz_ldc2 (v := 1000000001) C (C.1.2.2.2.2 _ (List.mem_of_getElem? (i := 4) rfl)) dX12_await_39 ?_
    exact zz_lret C rfl rfl (fun _ h9 => h9) (Nat.zero_le _) (Nat.zero_le _) dX12_await_42
  · refine zz_iload_n C dX12_await_17 rfl 2 rfl ?_
    refine zz_i2l C dX12_await_18 ?_
    refine zz_lconst (v := 0) C dX12_await_19 (by decide) ?_
    refine zz_ldc2 (v := 12) C (C.1.2.2.2.2 _ (List.mem_of_getElem? (i := 3) rfl)) dX12_await_20 ?_
    refine zz_callS (As := [.long (Int32.toInt64 p1), .long (0 : Int64), .long (12 : Int64)]) (rest := []) C rfl (k_X12_in (Int32.toInt64 p1) (0 : Int64) (12 : Int64) σ3) (va_cwS 3 C.1.2.2.2.2 gX12_await_X12_in rfl rfl rfl (by decide +kernel) ⟨Nat.le_of_ble_eq_true rfl, Nat.le_of_ble_eq_true rfl⟩) rfl (Nat.le_of_ble_eq_true rfl) ⟨Nat.zero_le _, Nat.zero_le _⟩ dX12_await_23 (zz_kI rfl rfl (fun r5 σ6 => ?_))
    refine zz_if_eq (tgt := 39) C dX12_await_26 (by decide) (fun h7 => ?_) (fun h7 => ?_)
    · refine zz_ldc2 (v := 1000000001) C (C.1.2.2.2.2 _ (List.mem_of_getElem? (i := 4) rfl)) dX12_await_39 ?_
      exact zz_lret C rfl rfl (fun _ h9 => h9) (Nat.zero_le _) (Nat.zero_le _) dX12_await_42
    · refine zz_iload_n C dX12_await_29 rfl 3 rfl ?_
      refine zz_i2l C dX12_await_30 ?_
      refine zz_lconst (v := 0) C dX12_await_31 (by decide) ?_
      refine zz_lconst (v := 1) C dX12_await_32 (by decide) ?_
      refine zz_callS (As := [.long (Int32.toInt64 p2), .long (0 : Int64), .long (1 : Int64)]) (rest := []) C rfl (k_X12_in (Int32.toInt64 p2) (0 : Int64) (1 : Int64) σ6) (va_cwS 3 C.1.2.2.2.2 gX12_await_X12_in rfl rfl rfl (by decide +kernel) ⟨Nat.le_of_ble_eq_true rfl, Nat.le_of_ble_eq_true rfl⟩) rfl (Nat.le_of_ble_eq_true rfl) ⟨Nat.zero_le _, Nat.zero_le _⟩ dX12_await_33 (zz_kI rfl rfl (fun r8 σ9 => ?_))
      refine zz_if_ne (tgt := 43) C dX12_await_36 (by decide) (fun h10 => ?_) (fun h10 => ?_)
      · refine zz_lconst (v := 1) C dX12_await_43 (by decide) ?_
        refine zz_lstore (loc' := [(4, .long (1 : Int64)), (0, .ref (zzad Z 36)), (1, .int p0), (2, .int p1), (3, .int p2)]) C dX12_await_44 (by decide) rfl ?_
        refine zz_lconst (v := 1) C dX12_await_46 (by decide) ?_
        refine zz_lstore (loc' := [(6, .long (1 : Int64)), (4, .long (1 : Int64)), (0, .ref (zzad Z 36)), (1, .int p0), (2, .int p1), (3, .int p2)]) C dX12_await_47 (by decide) rfl ?_
        refine zz_iconst (v := 0) C dX12_await_49 (by decide) ?_
        refine zz_istore (loc' := [(8, .int (0 : Int32)), (6, .long (1 : Int64)), (4, .long (1 : Int64)), (0, .ref (zzad Z 36)), (1, .int p0), (2, .int p1), (3, .int p2)]) C dX12_await_50 (by decide) rfl ?_
        refine zz_sub (loc' := [(1, .int p0), (2, .int p1), (3, .int p2), (4, .long (1 : Int64)), (6, .long (1 : Int64)), (8, .int (0 : Int32))]) [4, 5, 6, 2, 1, 0] rfl ?_
        exact w_X12_await_52 C p0 p1 p2 200 (1 : Int64) (1 : Int64) (0 : Int32) σ9
      · refine zz_ldc2 (v := 1000000001) C (C.1.2.2.2.2 _ (List.mem_of_getElem? (i := 4) rfl)) dX12_await_39 ?_
        exact zz_lret C rfl rfl (fun _ h9 => h9) (Nat.zero_le _) (Nat.zero_le _) dX12_await_42
set_option maxHeartbeats 4000000 in
set_option maxRecDepth 100000 in
theorem k_X12_await {l : Launch} {Z : zzG} {base : Nat} {PL : Nat → Option (Nat × Int32)} {mm : zzS} (p0 : Int32)  (p1 : Int32)  (p2 : Int32)  (σ : zzS) : zzCT l yX12_await wsX12_await rX12_await (zzA base) Z (zzM Z base PL mm) (zzM Z base PL mm) zzRL [.ref (zzad Z 36), .int p0, .int p1, .int p2] (f_X12_await p0 p1 p2 σ) σ :=
  zzCT_of (cc := cX12_await) (nL := 9) (ret := (some .long)) (by decide) rfl (Nat.le_of_ble_eq_true rfl) [(0, .ref (zzad Z 36)), (1, .int p0), (2, .int p1), (3, .int p2)] rfl (fun p e s m args below meth c C => w_X12_await_e C p0 p1 p2 σ)
abbrev rX12_daysFor : Room := { frames := 1, cells := 0, slots := 0, locals := 25 }

set_option maxHeartbeats 4000000 in
set_option maxRecDepth 100000 in
theorem w_X12_daysFor_27b {l : Launch} {Z : zzG} {base : Nat} {PL : Nat → Option (Nat × Int32)} {mm : zzS} {p : Program} {e : Env} {s : State} {m : MethodId} {args : Array Value} {below : List Frame} {meth : Method} {c : Code} (C : zzCx p m meth c s args cX12_daysFor 7 wsX12_daysFor RX12 (some .int) Z) (p0 : Int32)   (k27 : Int64 → Int64 → Int32 → zzS → Option (Int32 × zzS)) (hk27 : ∀ (l2 : Int64)  (l4 : Int64)  (l6 : Int32)  (σ : zzS), zzGO p l e rX12_daysFor s m args below meth c 7 (zzA base) (zzM Z base PL mm) (zzM Z base PL mm) zzRI rX12_daysFor.cells rX12_daysFor.slots (k27 l2 l4 l6 σ) σ 0 0 27 [(1, .int p0), (2, .long l2), (4, .long l4), (6, .int l6)] []) (l2 : Int64)  (l4 : Int64)  (l6 : Int32)  (σ : zzS) : zzGO p l e rX12_daysFor s m args below meth c 7 (zzA base) (zzM Z base PL mm) (zzM Z base PL mm) zzRI rX12_daysFor.cells rX12_daysFor.slots (f_X12_daysFor_27b k27 p0 l2 l4 l6 σ) σ 0 0 27 [(1, .int p0), (2, .long l2), (4, .long l4), (6, .int l6)] [] := by
  unfold f_X12_daysFor_27b
  refine zz_iload C dX12_daysFor_27 3 rfl ?_
  refine zz_bipush (v := 12) C dX12_daysFor_29 (by decide) ?_
  refine zz_icmp_gt (tgt := 73) C dX12_daysFor_31 (by decide) (fun h1 => ?_) (fun h1 => ?_)
  · refine zz_bipush (v := -4) C dX12_daysFor_73 (by decide) ?_
    exact zz_iret C rfl rfl (fun _ h9 => h9) (Nat.zero_le _) (Nat.zero_le _) dX12_daysFor_75
  · refine zz_ldc2 (v := 2) C (C.1.2.2.2.2 _ (List.mem_of_getElem? (i := 3) rfl)) dX12_daysFor_34 ?_
    refine zz_lload C dX12_daysFor_37 2 rfl ?_
    refine zz_lload_n C dX12_daysFor_39 rfl 1 rfl ?_
    refine zz_lsub C dX12_daysFor_40 ?_
    refine zz_lmul C dX12_daysFor_41 ?_
    refine zz_lload C dX12_daysFor_42 2 rfl ?_
    refine zz_lcmp C dX12_daysFor_44 ?_
    refine zz_if_lt (tgt := 51) C dX12_daysFor_45 (by decide) (fun h2 => ?_) (fun h2 => ?_)
    · refine zz_lload_n C dX12_daysFor_51 rfl 1 rfl ?_
      refine zz_bipush (v := 10) C dX12_daysFor_52 (by decide) ?_
      refine zz_iload_n C dX12_daysFor_54 rfl 0 rfl ?_
      refine zz_isub C dX12_daysFor_55 ?_
      refine zz_i2l C dX12_daysFor_56 ?_
      refine zz_lmul C dX12_daysFor_57 ?_
      refine zz_lstoreX_n (locf := fun x3 => [(2, .long x3), (1, .int p0), (4, .long l4), (6, .int l6)]) C dX12_daysFor_58 rfl (by decide) (fun _ => rfl) (fun x3 => ?_)
      refine zz_lload C dX12_daysFor_59 2 rfl ?_
      refine zz_ldc2 (v := 10) C (C.1.2.2.2.2 _ (List.mem_of_getElem? (i := 2) rfl)) dX12_daysFor_61 ?_
      refine zz_lmul C dX12_daysFor_64 ?_
      refine zz_lstoreX (locf := fun x4 => [(4, .long x4), (2, .long x3), (1, .int p0), (6, .int l6)]) C dX12_daysFor_65 (by decide) (fun _ => rfl) (fun x4 => ?_)
      refine zz_iincX (d := 1) (locf := fun x5 => [(6, .int x5), (4, .long x4), (2, .long x3), (1, .int p0)]) C dX12_daysFor_67 (k := 3) rfl (by decide) (by decide) (fun _ => rfl) (fun x5 => ?_)
      refine zz_goto (tgt := 27) C dX12_daysFor_70 (by decide) ?_
      refine zz_sub (loc' := [(1, .int p0), (2, .long x3), (4, .long x4), (6, .int x5)]) [3, 2, 1, 0] rfl ?_
      exact hk27 x3 x4 x5 σ
    · refine zz_iload C dX12_daysFor_48 3 rfl ?_
      exact zz_iret C rfl rfl (fun _ h9 => h9) (Nat.zero_le _) (Nat.zero_le _) dX12_daysFor_50
set_option maxHeartbeats 4000000 in
set_option maxRecDepth 100000 in
theorem w_X12_daysFor_27 {l : Launch} {Z : zzG} {base : Nat} {PL : Nat → Option (Nat × Int32)} {mm : zzS} {p : Program} {e : Env} {s : State} {m : MethodId} {args : Array Value} {below : List Frame} {meth : Method} {c : Code} (C : zzCx p m meth c s args cX12_daysFor 7 wsX12_daysFor RX12 (some .int) Z) (p0 : Int32)   (n : Nat) : ∀ (l2 : Int64)  (l4 : Int64)  (l6 : Int32)  (σ : zzS), zzGO p l e rX12_daysFor s m args below meth c 7 (zzA base) (zzM Z base PL mm) (zzM Z base PL mm) zzRI rX12_daysFor.cells rX12_daysFor.slots (f_X12_daysFor_27 p0 n l2 l4 l6 σ) σ 0 0 27 [(1, .int p0), (2, .long l2), (4, .long l4), (6, .int l6)] [] := by
  induction n with
  | zero => exact fun _ _ _ _ r9 s9 h9 => by cases h9
  | succ n ih => exact w_X12_daysFor_27b C p0 _ ih
set_option maxHeartbeats 4000000 in
set_option maxRecDepth 100000 in
theorem w_X12_daysFor_e {l : Launch} {Z : zzG} {base : Nat} {PL : Nat → Option (Nat × Int32)} {mm : zzS} {p : Program} {e : Env} {s : State} {m : MethodId} {args : Array Value} {below : List Frame} {meth : Method} {c : Code} (C : zzCx p m meth c s args cX12_daysFor 7 wsX12_daysFor RX12 (some .int) Z) (p0 : Int32)  (σ : zzS) : zzGO p l e rX12_daysFor s m args below meth c 7 (zzA base) (zzM Z base PL mm) (zzM Z base PL mm) zzRI rX12_daysFor.cells rX12_daysFor.slots (f_X12_daysFor p0 σ) σ 0 0 0 [(0, .ref (zzad Z 36)), (1, .int p0)] [] := by
  unfold f_X12_daysFor
  refine zz_aload_n C dX12_daysFor_0 rfl 0 rfl ?_
  refine zz_iconst (v := 0) C dX12_daysFor_1 (by decide) ?_
  refine zz_put (ty := .int) C zzM_obj (fun _ h9 => List.mem_cons_of_mem _ (List.mem_append_right _ (h9))) rfl 13 (by decide) (List.mem_of_getElem? (i := 1) rfl) rfl tyX12_ok nmX12 rfl (by decide +kernel) rfl rfl (Nat.le_of_ble_eq_true rfl) (zzM_uobj (by decide)) (zzA_M (by decide)) dX12_daysFor_2 ?_
  refine zz_ltS (fun σ1 => ?_)
  refine zz_iload_n C dX12_daysFor_5 rfl 1 rfl ?_
  refine zz_i2l C dX12_daysFor_6 ?_
  refine zz_lconst (v := 0) C dX12_daysFor_7 (by decide) ?_
  refine zz_ldc2 (v := 10) C (C.1.2.2.2.2 _ (List.mem_of_getElem? (i := 2) rfl)) dX12_daysFor_8 ?_
  refine zz_callS (As := [.long (Int32.toInt64 p0), .long (0 : Int64), .long (10 : Int64)]) (rest := []) C rfl (k_X12_in (Int32.toInt64 p0) (0 : Int64) (10 : Int64) σ1) (va_cwS 3 C.1.2.2.2.2 gX12_daysFor_X12_in rfl rfl rfl (by decide +kernel) ⟨Nat.le_of_ble_eq_true rfl, Nat.le_of_ble_eq_true rfl⟩) rfl (Nat.le_of_ble_eq_true rfl) ⟨Nat.zero_le _, Nat.zero_le _⟩ dX12_daysFor_11 (zz_kI rfl rfl (fun r2 σ3 => ?_))
  refine zz_if_ne (tgt := 19) C dX12_daysFor_14 (by decide) (fun h4 => ?_) (fun h4 => ?_)
  · refine zz_lconst (v := 1) C dX12_daysFor_19 (by decide) ?_
    refine zz_lstore_n (loc' := [(2, .long (1 : Int64)), (0, .ref (zzad Z 36)), (1, .int p0)]) C dX12_daysFor_20 rfl (by decide) rfl ?_
    refine zz_lconst (v := 1) C dX12_daysFor_21 (by decide) ?_
    refine zz_lstore (loc' := [(4, .long (1 : Int64)), (2, .long (1 : Int64)), (0, .ref (zzad Z 36)), (1, .int p0)]) C dX12_daysFor_22 (by decide) rfl ?_
    refine zz_iconst (v := 0) C dX12_daysFor_24 (by decide) ?_
    refine zz_istore (loc' := [(6, .int (0 : Int32)), (4, .long (1 : Int64)), (2, .long (1 : Int64)), (0, .ref (zzad Z 36)), (1, .int p0)]) C dX12_daysFor_25 (by decide) rfl ?_
    refine zz_sub (loc' := [(1, .int p0), (2, .long (1 : Int64)), (4, .long (1 : Int64)), (6, .int (0 : Int32))]) [4, 2, 1, 0] rfl ?_
    exact w_X12_daysFor_27 C p0 200 (1 : Int64) (1 : Int64) (0 : Int32) σ3
  · refine zz_iconst (v := -1) C dX12_daysFor_17 (by decide) ?_
    exact zz_iret C rfl rfl (fun _ h9 => h9) (Nat.zero_le _) (Nat.zero_le _) dX12_daysFor_18
set_option maxHeartbeats 4000000 in
set_option maxRecDepth 100000 in
theorem k_X12_daysFor {l : Launch} {Z : zzG} {base : Nat} {PL : Nat → Option (Nat × Int32)} {mm : zzS} (p0 : Int32)  (σ : zzS) : zzCT l yX12_daysFor wsX12_daysFor rX12_daysFor (zzA base) Z (zzM Z base PL mm) (zzM Z base PL mm) zzRI [.ref (zzad Z 36), .int p0] (f_X12_daysFor p0 σ) σ :=
  zzCT_of (cc := cX12_daysFor) (nL := 7) (ret := (some .int)) (by decide) rfl (Nat.le_of_ble_eq_true rfl) [(0, .ref (zzad Z 36)), (1, .int p0)] rfl (fun p e s m args below meth c C => w_X12_daysFor_e C p0 σ)
abbrev rX12_fitInAll : Room := { frames := 3, cells := 0, slots := 0, locals := 66 }

set_option maxHeartbeats 4000000 in
set_option maxRecDepth 100000 in
theorem w_X12_fitInAll_4b {l : Launch} {Z : zzG} {base : Nat} {PL : Nat → Option (Nat × Int32)} {mm : zzS} {p : Program} {e : Env} {s : State} {m : MethodId} {args : Array Value} {below : List Frame} {meth : Method} {c : Code} (C : zzCx p m meth c s args cX12_fitInAll 3 wsX12_fitInAll RX12 (some .int) Z)   (k4 : Int32 → Int32 → zzS → Option (Int32 × zzS)) (hk4 : ∀ (l1 : Int32)  (l2 : Int32)  (σ : zzS), zzGO p l e rX12_fitInAll s m args below meth c 3 (zzA base) (zzM Z base PL mm) (zzM Z base PL mm) zzRI rX12_fitInAll.cells rX12_fitInAll.slots (k4 l1 l2 σ) σ 0 0 4 [(0, .ref (zzad Z 36)), (1, .int l1), (2, .int l2)] []) (l1 : Int32)  (l2 : Int32)  (σ : zzS) : zzGO p l e rX12_fitInAll s m args below meth c 3 (zzA base) (zzM Z base PL mm) (zzM Z base PL mm) zzRI rX12_fitInAll.cells rX12_fitInAll.slots (f_X12_fitInAll_4b k4 l1 l2 σ) σ 0 0 4 [(0, .ref (zzad Z 36)), (1, .int l1), (2, .int l2)] [] := by
  unfold f_X12_fitInAll_4b
  refine zz_iload_n C dX12_fitInAll_4 rfl 2 rfl ?_
  refine zz_aload_n C dX12_fitInAll_5 rfl 0 rfl ?_
  refine zz_get C zzM_obj (fun _ h9 => List.mem_cons_of_mem _ (List.mem_append_right _ (h9))) rfl 0 (by decide) (List.mem_of_getElem? (i := 1) rfl) (Or.inl rfl) rfl dX12_fitInAll_6 ?_
  refine zz_icmp_ge (tgt := 29) C dX12_fitInAll_9 (by decide) (fun h1 => ?_) (fun h1 => ?_)
  · refine zz_iload_n C dX12_fitInAll_29 rfl 1 rfl ?_
    exact zz_iret C rfl rfl (fun _ h9 => h9) (Nat.zero_le _) (Nat.zero_le _) dX12_fitInAll_30
  · refine zz_iload_n C dX12_fitInAll_12 rfl 1 rfl ?_
    refine zz_aload_n C dX12_fitInAll_13 rfl 0 rfl ?_
    refine zz_iload_n C dX12_fitInAll_14 rfl 2 rfl ?_
    refine zz_callV C (Cn := RX12) (b := zzad Z 36) (fun H hH => zz_recv C.2.2.2 (zzM_obj H hH) rfl) (As := [.int l2]) (rest := [.int l1]) rfl (k_X12_fitFor l2 σ) (cwV 1 C.1.2.2.2.2 gX12_fitInAll_X12_fitFor rfl rfl rfl (by decide +kernel) ⟨Nat.le_of_ble_eq_true rfl, Nat.le_of_ble_eq_true rfl⟩) rfl (Nat.le_of_ble_eq_true rfl) ⟨Nat.zero_le _, Nat.zero_le _⟩ dX12_fitInAll_15 (zz_kI rfl rfl (fun r2 σ3 => ?_))
    refine zz_callS (As := [.int r2]) (rest := [.int l1]) C rfl (k_X12_onesOf r2 σ3) (va_cwS 1 C.1.2.2.2.2 gX12_fitInAll_X12_onesOf rfl rfl rfl (by decide +kernel) ⟨Nat.le_of_ble_eq_true rfl, Nat.le_of_ble_eq_true rfl⟩) rfl (Nat.le_of_ble_eq_true rfl) ⟨Nat.zero_le _, Nat.zero_le _⟩ dX12_fitInAll_18 (zz_kI rfl rfl (fun r4 σ5 => ?_))
    refine zz_iadd C dX12_fitInAll_21 ?_
    refine zz_istoreX_n (locf := fun x6 => [(1, .int x6), (0, .ref (zzad Z 36)), (2, .int l2)]) C dX12_fitInAll_22 rfl (by decide) (fun _ => rfl) (fun x6 => ?_)
    refine zz_iincX (d := 1) (locf := fun x7 => [(2, .int x7), (1, .int x6), (0, .ref (zzad Z 36))]) C dX12_fitInAll_23 (k := 2) rfl (by decide) (by decide) (fun _ => rfl) (fun x7 => ?_)
    refine zz_goto (tgt := 4) C dX12_fitInAll_26 (by decide) ?_
    refine zz_sub (loc' := [(0, .ref (zzad Z 36)), (1, .int x6), (2, .int x7)]) [2, 1, 0] rfl ?_
    exact hk4 x6 x7 σ5
set_option maxHeartbeats 4000000 in
set_option maxRecDepth 100000 in
theorem w_X12_fitInAll_4 {l : Launch} {Z : zzG} {base : Nat} {PL : Nat → Option (Nat × Int32)} {mm : zzS} {p : Program} {e : Env} {s : State} {m : MethodId} {args : Array Value} {below : List Frame} {meth : Method} {c : Code} (C : zzCx p m meth c s args cX12_fitInAll 3 wsX12_fitInAll RX12 (some .int) Z)   (n : Nat) : ∀ (l1 : Int32)  (l2 : Int32)  (σ : zzS), zzGO p l e rX12_fitInAll s m args below meth c 3 (zzA base) (zzM Z base PL mm) (zzM Z base PL mm) zzRI rX12_fitInAll.cells rX12_fitInAll.slots (f_X12_fitInAll_4 n l1 l2 σ) σ 0 0 4 [(0, .ref (zzad Z 36)), (1, .int l1), (2, .int l2)] [] := by
  induction n with
  | zero => exact fun _ _ _ r9 s9 h9 => by cases h9
  | succ n ih => exact w_X12_fitInAll_4b C _ ih
set_option maxHeartbeats 4000000 in
set_option maxRecDepth 100000 in
theorem w_X12_fitInAll_e {l : Launch} {Z : zzG} {base : Nat} {PL : Nat → Option (Nat × Int32)} {mm : zzS} {p : Program} {e : Env} {s : State} {m : MethodId} {args : Array Value} {below : List Frame} {meth : Method} {c : Code} (C : zzCx p m meth c s args cX12_fitInAll 3 wsX12_fitInAll RX12 (some .int) Z)  (σ : zzS) : zzGO p l e rX12_fitInAll s m args below meth c 3 (zzA base) (zzM Z base PL mm) (zzM Z base PL mm) zzRI rX12_fitInAll.cells rX12_fitInAll.slots (f_X12_fitInAll σ) σ 0 0 0 [(0, .ref (zzad Z 36))] [] := by
  unfold f_X12_fitInAll
  refine zz_iconst (v := 0) C dX12_fitInAll_0 (by decide) ?_
  refine zz_istore_n (loc' := [(1, .int (0 : Int32)), (0, .ref (zzad Z 36))]) C dX12_fitInAll_1 rfl (by decide) rfl ?_
  refine zz_iconst (v := 0) C dX12_fitInAll_2 (by decide) ?_
  refine zz_istore_n (loc' := [(2, .int (0 : Int32)), (1, .int (0 : Int32)), (0, .ref (zzad Z 36))]) C dX12_fitInAll_3 rfl (by decide) rfl ?_
  refine zz_sub (loc' := [(0, .ref (zzad Z 36)), (1, .int (0 : Int32)), (2, .int (0 : Int32))]) [2, 1, 0] rfl ?_
  exact w_X12_fitInAll_4 C 200 (0 : Int32) (0 : Int32) σ
set_option maxHeartbeats 4000000 in
set_option maxRecDepth 100000 in
theorem k_X12_fitInAll {l : Launch} {Z : zzG} {base : Nat} {PL : Nat → Option (Nat × Int32)} {mm : zzS}  (σ : zzS) : zzCT l yX12_fitInAll wsX12_fitInAll rX12_fitInAll (zzA base) Z (zzM Z base PL mm) (zzM Z base PL mm) zzRI [.ref (zzad Z 36)] (f_X12_fitInAll σ) σ :=
  zzCT_of (cc := cX12_fitInAll) (nL := 3) (ret := (some .int)) (by decide) rfl (Nat.le_of_ble_eq_true rfl) [(0, .ref (zzad Z 36))] rfl (fun p e s m args below meth c C => w_X12_fitInAll_e C σ)
abbrev rX12_ask : Room := { frames := 4, cells := 0, slots := 0, locals := 88 }

set_option maxHeartbeats 4000000 in
set_option maxRecDepth 100000 in
theorem w_X12_ask_117 {l : Launch} {Z : zzG} {base : Nat} {PL : Nat → Option (Nat × Int32)} {mm : zzS} {p : Program} {e : Env} {s : State} {m : MethodId} {args : Array Value} {below : List Frame} {meth : Method} {c : Code} (C : zzCx p m meth c s args cX12_ask 7 wsX12_ask RX12 (some .int) Z) (p0 : Int32)  (k37 : Int32 → Int32 → Int32 → zzS → Option (Int32 × zzS)) (hk37 : ∀ (l2 : Int32)  (l3 : Int32)  (l4 : Int32)  (σ : zzS), zzGO p l e rX12_ask s m args below meth c 7 (zzA base) (zzM Z base PL mm) (zzM Z base PL mm) zzRI rX12_ask.cells rX12_ask.slots (k37 l2 l3 l4 σ) σ 0 0 37 [(0, .ref (zzad Z 36)), (1, .int p0), (2, .int l2), (3, .int l3), (4, .int l4)] []) (l2 : Int32)  (l3 : Int32)  (l4 : Int32)  (σ : zzS) : zzGO p l e rX12_ask s m args below meth c 7 (zzA base) (zzM Z base PL mm) (zzM Z base PL mm) zzRI rX12_ask.cells rX12_ask.slots (f_X12_ask_117 k37 p0 l2 l3 l4 σ) σ 0 0 117 [(0, .ref (zzad Z 36)), (1, .int p0), (2, .int l2), (3, .int l3), (4, .int l4)] [] := by
  unfold f_X12_ask_117
  refine zz_iincX (d := 1) (locf := fun x1 => [(4, .int x1), (0, .ref (zzad Z 36)), (1, .int p0), (2, .int l2), (3, .int l3)]) C dX12_ask_117 (k := 4) rfl (by decide) (by decide) (fun _ => rfl) (fun x1 => ?_)
  refine zz_goto (tgt := 37) C dX12_ask_120 (by decide) ?_
  refine zz_sub (loc' := [(0, .ref (zzad Z 36)), (1, .int p0), (2, .int l2), (3, .int l3), (4, .int x1)]) [1, 2, 3, 4, 0] rfl ?_
  exact hk37 l2 l3 x1 σ
set_option maxHeartbeats 4000000 in
set_option maxRecDepth 100000 in
theorem w_X12_ask_109 {l : Launch} {Z : zzG} {base : Nat} {PL : Nat → Option (Nat × Int32)} {mm : zzS} {p : Program} {e : Env} {s : State} {m : MethodId} {args : Array Value} {below : List Frame} {meth : Method} {c : Code} (C : zzCx p m meth c s args cX12_ask 7 wsX12_ask RX12 (some .int) Z) (p0 : Int32)  (k37 : Int32 → Int32 → Int32 → zzS → Option (Int32 × zzS)) (hk37 : ∀ (l2 : Int32)  (l3 : Int32)  (l4 : Int32)  (σ : zzS), zzGO p l e rX12_ask s m args below meth c 7 (zzA base) (zzM Z base PL mm) (zzM Z base PL mm) zzRI rX12_ask.cells rX12_ask.slots (k37 l2 l3 l4 σ) σ 0 0 37 [(0, .ref (zzad Z 36)), (1, .int p0), (2, .int l2), (3, .int l3), (4, .int l4)] []) (l3 : Int32)  (l4 : Int32)  (l6 : Int32)  (s0 : Int32)  (σ : zzS) : zzGO p l e rX12_ask s m args below meth c 7 (zzA base) (zzM Z base PL mm) (zzM Z base PL mm) zzRI rX12_ask.cells rX12_ask.slots (f_X12_ask_109 k37 p0 l3 l4 l6 s0 σ) σ 0 0 109 [(0, .ref (zzad Z 36)), (1, .int p0), (3, .int l3), (4, .int l4), (6, .int l6)] [.int s0] := by
  unfold f_X12_ask_109
  refine zz_istore_n (loc' := [(2, .int s0), (0, .ref (zzad Z 36)), (1, .int p0), (3, .int l3), (4, .int l4), (6, .int l6)]) C dX12_ask_109 rfl (by decide) rfl ?_
  refine zz_iload_n C dX12_ask_110 rfl 3 rfl ?_
  refine zz_iload C dX12_ask_111 5 rfl ?_
  refine zz_callS (As := [.int l3, .int l6]) (rest := []) C rfl (k_X12_greater l3 l6 σ) (va_cwS 2 C.1.2.2.2.2 gX12_ask_X12_greater rfl rfl rfl (by decide +kernel) ⟨Nat.le_of_ble_eq_true rfl, Nat.le_of_ble_eq_true rfl⟩) rfl (Nat.le_of_ble_eq_true rfl) ⟨Nat.zero_le _, Nat.zero_le _⟩ dX12_ask_113 (zz_kI rfl rfl (fun r1 σ2 => ?_))
  refine zz_istore_n (loc' := [(3, .int r1), (2, .int s0), (0, .ref (zzad Z 36)), (1, .int p0), (4, .int l4), (6, .int l6)]) C dX12_ask_116 rfl (by decide) rfl ?_
  refine zz_sub (loc' := [(0, .ref (zzad Z 36)), (1, .int p0), (2, .int s0), (3, .int r1), (4, .int l4)]) [2, 3, 1, 0, 4] rfl ?_
  exact w_X12_ask_117 C p0 k37 hk37 s0 r1 l4 σ2
set_option maxHeartbeats 4000000 in
set_option maxRecDepth 100000 in
theorem w_X12_ask_37b {l : Launch} {Z : zzG} {base : Nat} {PL : Nat → Option (Nat × Int32)} {mm : zzS} {p : Program} {e : Env} {s : State} {m : MethodId} {args : Array Value} {below : List Frame} {meth : Method} {c : Code} (C : zzCx p m meth c s args cX12_ask 7 wsX12_ask RX12 (some .int) Z) (p0 : Int32)   (k37 : Int32 → Int32 → Int32 → zzS → Option (Int32 × zzS)) (hk37 : ∀ (l2 : Int32)  (l3 : Int32)  (l4 : Int32)  (σ : zzS), zzGO p l e rX12_ask s m args below meth c 7 (zzA base) (zzM Z base PL mm) (zzM Z base PL mm) zzRI rX12_ask.cells rX12_ask.slots (k37 l2 l3 l4 σ) σ 0 0 37 [(0, .ref (zzad Z 36)), (1, .int p0), (2, .int l2), (3, .int l3), (4, .int l4)] []) (l2 : Int32)  (l3 : Int32)  (l4 : Int32)  (σ : zzS) : zzGO p l e rX12_ask s m args below meth c 7 (zzA base) (zzM Z base PL mm) (zzM Z base PL mm) zzRI rX12_ask.cells rX12_ask.slots (f_X12_ask_37b k37 p0 l2 l3 l4 σ) σ 0 0 37 [(0, .ref (zzad Z 36)), (1, .int p0), (2, .int l2), (3, .int l3), (4, .int l4)] [] := by
  unfold f_X12_ask_37b
  refine zz_iload C dX12_ask_37 4 rfl ?_
  refine zz_aload_n C dX12_ask_39 rfl 0 rfl ?_
  refine zz_get C zzM_obj (fun _ h9 => List.mem_cons_of_mem _ (List.mem_append_right _ (h9))) rfl 0 (by decide) (List.mem_of_getElem? (i := 3) rfl) (Or.inl rfl) rfl dX12_ask_40 ?_
  refine zz_icmp_ge (tgt := 123) C dX12_ask_43 (by decide) (fun h1 => ?_) (fun h1 => ?_)
  · refine zz_iload_n C dX12_ask_123 rfl 2 rfl ?_
    exact zz_iret C rfl rfl (fun _ h9 => h9) (Nat.zero_le _) (Nat.zero_le _) dX12_ask_124
  · refine zz_aload_n C dX12_ask_46 rfl 0 rfl ?_
    refine zz_iload C dX12_ask_47 4 rfl ?_
    refine zz_iload_n C dX12_ask_49 rfl 1 rfl ?_
    refine zz_callV C (Cn := RX12) (b := zzad Z 36) (fun H hH => zz_recv C.2.2.2 (zzM_obj H hH) rfl) (As := [.int l4, .int p0]) (rest := []) rfl (k_X12_mayTurn l4 p0 σ) (cwV 2 C.1.2.2.2.2 gX12_ask_X12_mayTurn rfl rfl rfl (by decide +kernel) ⟨Nat.le_of_ble_eq_true rfl, Nat.le_of_ble_eq_true rfl⟩) rfl (Nat.le_of_ble_eq_true rfl) ⟨Nat.zero_le _, Nat.zero_le _⟩ dX12_ask_50 (zz_kI rfl rfl (fun r2 σ3 => ?_))
    refine zz_if_eq (tgt := 117) C dX12_ask_53 (by decide) (fun h4 => ?_) (fun h4 => ?_)
    · refine zz_sub (loc' := [(0, .ref (zzad Z 36)), (1, .int p0), (2, .int l2), (3, .int l3), (4, .int l4)]) [0, 1, 2, 3, 4] rfl ?_
      exact w_X12_ask_117 C p0 k37 hk37 l2 l3 l4 σ3
    · refine zz_aload_n C dX12_ask_56 rfl 0 rfl ?_
      refine zz_get C zzM_obj (fun _ h9 => List.mem_cons_of_mem _ (List.mem_append_right _ (h9))) rfl 4 (by decide) (List.mem_of_getElem? (i := 4) rfl) (Or.inl rfl) rfl dX12_ask_57 ?_
      refine zz_bipush (v := 7) C dX12_ask_60 (by decide) ?_
      refine zz_iload C dX12_ask_62 4 rfl ?_
      refine zz_imul C dX12_ask_64 ?_
      refine zz_iload_n C dX12_ask_65 rfl 1 rfl ?_
      refine zz_iadd C dX12_ask_66 ?_
      refine zz_gd (fun h5 => ?_)
      refine zz_iald C (zzM_arr (by decide)) h5 dX12_ask_67 ?_
      refine zz_istoreX (locf := fun x6 => [(5, .int x6), (0, .ref (zzad Z 36)), (1, .int p0), (2, .int l2), (3, .int l3), (4, .int l4)]) C dX12_ask_68 (by decide) (fun _ => rfl) (fun x6 => ?_)
      refine zz_aload_n C dX12_ask_70 rfl 1 rfl ?_
      refine zz_iload C dX12_ask_71 5 rfl ?_
      refine zz_iload_n C dX12_ask_73 rfl 2 rfl ?_
      refine zz_callV C (Cn := RX12) (b := zzad Z 36) (fun H hH => zz_recv C.2.2.2 (zzM_obj H hH) rfl) (As := [.int l4, .int p0]) (rest := []) rfl (k_X12_grow l4 p0 σ3) (cwV 2 C.1.2.2.2.2 gX12_ask_X12_grow rfl rfl rfl (by decide +kernel) ⟨Nat.le_of_ble_eq_true rfl, Nat.le_of_ble_eq_true rfl⟩) rfl (Nat.le_of_ble_eq_true rfl) ⟨Nat.zero_le _, Nat.zero_le _⟩ dX12_ask_74 (zz_kV rfl rfl (fun r7 σ8 => ?_))
      refine zz_aload_n C dX12_ask_77 rfl 1 rfl ?_
      refine zz_callV C (Cn := RX12) (b := zzad Z 36) (fun H hH => zz_recv C.2.2.2 (zzM_obj H hH) rfl) (As := []) (rest := []) rfl (k_X12_fitInAll σ8) (cwV 0 C.1.2.2.2.2 gX12_ask_X12_fitInAll rfl rfl rfl (by decide +kernel) ⟨Nat.le_of_ble_eq_true rfl, Nat.le_of_ble_eq_true rfl⟩) rfl (Nat.le_of_ble_eq_true rfl) ⟨Nat.zero_le _, Nat.zero_le _⟩ dX12_ask_78 (zz_kI rfl rfl (fun r9 σ10 => ?_))
      refine zz_istore (loc' := [(6, .int r9), (5, .int x6), (0, .ref (zzad Z 36)), (1, .int p0), (2, .int l2), (3, .int l3), (4, .int l4)]) C dX12_ask_81 (by decide) rfl ?_
      refine zz_aload_n C dX12_ask_83 rfl 2 rfl ?_
      refine zz_get C zzM_obj (fun _ h9 => List.mem_cons_of_mem _ (List.mem_append_right _ (h9))) rfl 4 (by decide) (List.mem_of_getElem? (i := 4) rfl) (Or.inl rfl) rfl dX12_ask_84 ?_
      refine zz_bipush (v := 7) C dX12_ask_87 (by decide) ?_
      refine zz_iload C dX12_ask_89 6 rfl ?_
      refine zz_imul C dX12_ask_91 ?_
      refine zz_iload_n C dX12_ask_92 rfl 3 rfl ?_
      refine zz_iadd C dX12_ask_93 ?_
      refine zz_iload C dX12_ask_94 1 rfl ?_
      refine zz_gd (fun h11 => ?_)
      refine zz_iast C (zzM_arr (by decide)) h11 (zzM_uarr (by decide)) (zzA_M (zzMarr_lt (by decide))) dX12_ask_96 ?_
      refine zz_ltS (fun σ12 => ?_)
      refine zz_iload C dX12_ask_97 0 rfl ?_
      refine zz_iload_n C dX12_ask_99 rfl 5 rfl ?_
      refine zz_icmp_le (tgt := 108) C dX12_ask_100 (by decide) (fun h13 => ?_) (fun h13 => ?_)
      · refine zz_iload_n C dX12_ask_108 rfl 4 rfl ?_
        refine zz_sub (loc' := [(0, .ref (zzad Z 36)), (1, .int p0), (3, .int l3), (4, .int l4), (6, .int r9)]) [2, 3, 5, 6, 0] rfl ?_
        exact w_X12_ask_109 C p0 k37 hk37 l3 l4 r9 l2 σ12
      · refine zz_iload C dX12_ask_103 6 rfl ?_
        refine zz_goto (tgt := 109) C dX12_ask_105 (by decide) ?_
        refine zz_sub (loc' := [(0, .ref (zzad Z 36)), (1, .int p0), (3, .int l3), (4, .int l4), (6, .int r9)]) [2, 3, 5, 6, 0] rfl ?_
        exact w_X12_ask_109 C p0 k37 hk37 l3 l4 r9 l4 σ12
set_option maxHeartbeats 4000000 in
set_option maxRecDepth 100000 in
theorem w_X12_ask_37 {l : Launch} {Z : zzG} {base : Nat} {PL : Nat → Option (Nat × Int32)} {mm : zzS} {p : Program} {e : Env} {s : State} {m : MethodId} {args : Array Value} {below : List Frame} {meth : Method} {c : Code} (C : zzCx p m meth c s args cX12_ask 7 wsX12_ask RX12 (some .int) Z) (p0 : Int32)   (n : Nat) : ∀ (l2 : Int32)  (l3 : Int32)  (l4 : Int32)  (σ : zzS), zzGO p l e rX12_ask s m args below meth c 7 (zzA base) (zzM Z base PL mm) (zzM Z base PL mm) zzRI rX12_ask.cells rX12_ask.slots (f_X12_ask_37 p0 n l2 l3 l4 σ) σ 0 0 37 [(0, .ref (zzad Z 36)), (1, .int p0), (2, .int l2), (3, .int l3), (4, .int l4)] [] := by
  induction n with
  | zero => exact fun _ _ _ _ r9 s9 h9 => by cases h9
  | succ n ih => exact w_X12_ask_37b C p0 _ ih
set_option maxHeartbeats 4000000 in
set_option maxRecDepth 100000 in
theorem w_X12_ask_e {l : Launch} {Z : zzG} {base : Nat} {PL : Nat → Option (Nat × Int32)} {mm : zzS} {p : Program} {e : Env} {s : State} {m : MethodId} {args : Array Value} {below : List Frame} {meth : Method} {c : Code} (C : zzCx p m meth c s args cX12_ask 7 wsX12_ask RX12 (some .int) Z) (p0 : Int32)  (σ : zzS) : zzGO p l e rX12_ask s m args below meth c 7 (zzA base) (zzM Z base PL mm) (zzM Z base PL mm) zzRI rX12_ask.cells rX12_ask.slots (f_X12_ask p0 σ) σ 0 0 0 [(0, .ref (zzad Z 36)), (1, .int p0)] [] := by
  unfold f_X12_ask
  refine zz_aload_n C dX12_ask_0 rfl 0 rfl ?_
  refine zz_iconst (v := 0) C dX12_ask_1 (by decide) ?_
  refine zz_put (ty := .int) C zzM_obj (fun _ h9 => List.mem_cons_of_mem _ (List.mem_append_right _ (h9))) rfl 13 (by decide) (List.mem_of_getElem? (i := 1) rfl) rfl tyX12_ok nmX12 rfl (by decide +kernel) rfl rfl (Nat.le_of_ble_eq_true rfl) (zzM_uobj (by decide)) (zzA_M (by decide)) dX12_ask_2 ?_
  refine zz_ltS (fun σ1 => ?_)
  refine zz_aload_n C dX12_ask_5 rfl 0 rfl ?_
  refine zz_iload_n C dX12_ask_6 rfl 1 rfl ?_
  refine zz_callV C (Cn := RX12) (b := zzad Z 36) (fun H hH => zz_recv C.2.2.2 (zzM_obj H hH) rfl) (As := [.int p0]) (rest := []) rfl (k_X12_isOne p0 σ1) (cwV 1 C.1.2.2.2.2 gX12_ask_X12_isOne rfl rfl rfl (by decide +kernel) ⟨Nat.le_of_ble_eq_true rfl, Nat.le_of_ble_eq_true rfl⟩) rfl (Nat.le_of_ble_eq_true rfl) ⟨Nat.zero_le _, Nat.zero_le _⟩ dX12_ask_7 (zz_kI rfl rfl (fun r2 σ3 => ?_))
  refine zz_if_ne (tgt := 15) C dX12_ask_10 (by decide) (fun h4 => ?_) (fun h4 => ?_)
  · refine zz_aload_n C dX12_ask_15 rfl 0 rfl ?_
    refine zz_get C zzM_obj (fun _ h9 => List.mem_cons_of_mem _ (List.mem_append_right _ (h9))) rfl 3 (by decide) (List.mem_of_getElem? (i := 2) rfl) (Or.inl rfl) rfl dX12_ask_16 ?_
    refine zz_iload_n C dX12_ask_19 rfl 1 rfl ?_
    refine zz_gd (fun h5 => ?_)
    refine zz_iald C (zzM_arr (by decide)) h5 dX12_ask_20 ?_
    refine zz_bipush (v := 9) C dX12_ask_21 (by decide) ?_
    refine zz_icmp_ne (tgt := 29) C dX12_ask_23 (by decide) (fun h6 => ?_) (fun h6 => ?_)
    · refine zz_bipush (v := -4) C dX12_ask_29 (by decide) ?_
      refine zz_istore_n (loc' := [(2, .int (-4 : Int32)), (0, .ref (zzad Z 36)), (1, .int p0)]) C dX12_ask_31 rfl (by decide) rfl ?_
      refine zz_iconst (v := -1) C dX12_ask_32 (by decide) ?_
      refine zz_istore_n (loc' := [(3, .int (-1 : Int32)), (2, .int (-4 : Int32)), (0, .ref (zzad Z 36)), (1, .int p0)]) C dX12_ask_33 rfl (by decide) rfl ?_
      refine zz_iconst (v := 0) C dX12_ask_34 (by decide) ?_
      refine zz_istore (loc' := [(4, .int (0 : Int32)), (3, .int (-1 : Int32)), (2, .int (-4 : Int32)), (0, .ref (zzad Z 36)), (1, .int p0)]) C dX12_ask_35 (by decide) rfl ?_
      refine zz_sub (loc' := [(0, .ref (zzad Z 36)), (1, .int p0), (2, .int (-4 : Int32)), (3, .int (-1 : Int32)), (4, .int (0 : Int32))]) [3, 4, 2, 1, 0] rfl ?_
      exact w_X12_ask_37 C p0 200 (-4 : Int32) (-1 : Int32) (0 : Int32) σ3
    · refine zz_bipush (v := -3) C dX12_ask_26 (by decide) ?_
      exact zz_iret C rfl rfl (fun _ h9 => h9) (Nat.zero_le _) (Nat.zero_le _) dX12_ask_28
  · refine zz_iconst (v := -1) C dX12_ask_13 (by decide) ?_
    exact zz_iret C rfl rfl (fun _ h9 => h9) (Nat.zero_le _) (Nat.zero_le _) dX12_ask_14
set_option maxHeartbeats 4000000 in
set_option maxRecDepth 100000 in
theorem k_X12_ask {l : Launch} {Z : zzG} {base : Nat} {PL : Nat → Option (Nat × Int32)} {mm : zzS} (p0 : Int32)  (σ : zzS) : zzCT l yX12_ask wsX12_ask rX12_ask (zzA base) Z (zzM Z base PL mm) (zzM Z base PL mm) zzRI [.ref (zzad Z 36), .int p0] (f_X12_ask p0 σ) σ :=
  zzCT_of (cc := cX12_ask) (nL := 7) (ret := (some .int)) (by decide) rfl (Nat.le_of_ble_eq_true rfl) [(0, .ref (zzad Z 36)), (1, .int p0)] rfl (fun p e s m args below meth c C => w_X12_ask_e C p0 σ)
abbrev rX12_wins : Room := { frames := 1, cells := 0, slots := 0, locals := 22 }

set_option maxHeartbeats 4000000 in
set_option maxRecDepth 100000 in
theorem w_X12_wins_e {l : Launch} {Z : zzG} {base : Nat} {PL : Nat → Option (Nat × Int32)} {mm : zzS} {p : Program} {e : Env} {s : State} {m : MethodId} {args : Array Value} {below : List Frame} {meth : Method} {c : Code} (C : zzCx p m meth c s args cX12_wins 4 wsX12_wins RX12 (some .int) Z) (p0 : Int32)  (p1 : Int32)  (p2 : Int32)  (σ : zzS) : zzGO p l e rX12_wins s m args below meth c 4 (zzA base) (zzM Z base PL mm) (zzM Z base PL mm) zzRI rX12_wins.cells rX12_wins.slots (f_X12_wins p0 p1 p2 σ) σ 0 0 0 [(0, .ref (zzad Z 36)), (1, .int p0), (2, .int p1), (3, .int p2)] [] := by
  unfold f_X12_wins
  refine zz_iconst (v := 3) C dX12_wins_0 (by decide) ?_
  refine zz_iload_n C dX12_wins_1 rfl 3 rfl ?_
  refine zz_imul C dX12_wins_2 ?_
  refine zz_aload_n C dX12_wins_3 rfl 0 rfl ?_
  refine zz_iload_n C dX12_wins_4 rfl 1 rfl ?_
  refine zz_callV C (Cn := RX12) (b := zzad Z 36) (fun H hH => zz_recv C.2.2.2 (zzM_obj H hH) rfl) (As := [.int p0]) (rest := [.int ((3 : Int32) * p2)]) rfl (k_X12_growsOf p0 σ) (cwV 1 C.1.2.2.2.2 gX12_wins_X12_growsOf rfl rfl rfl (by decide +kernel) ⟨Nat.le_of_ble_eq_true rfl, Nat.le_of_ble_eq_true rfl⟩) rfl (Nat.le_of_ble_eq_true rfl) ⟨Nat.zero_le _, Nat.zero_le _⟩ dX12_wins_5 (zz_kI rfl rfl (fun r1 σ2 => ?_))
  refine zz_iload_n C dX12_wins_8 rfl 2 rfl ?_
  refine zz_imul C dX12_wins_9 ?_
  refine zz_isub C dX12_wins_10 ?_
  refine zz_iconst (v := 2) C dX12_wins_11 (by decide) ?_
  refine zz_iload_n C dX12_wins_12 rfl 2 rfl ?_
  refine zz_imul C dX12_wins_13 ?_
  refine zz_iload_n C dX12_wins_14 rfl 3 rfl ?_
  refine zz_imul C dX12_wins_15 ?_
  refine zz_iadd C dX12_wins_16 ?_
  exact zz_iret C rfl rfl (fun _ h9 => h9) (Nat.zero_le _) (Nat.zero_le _) dX12_wins_17
set_option maxHeartbeats 4000000 in
set_option maxRecDepth 100000 in
theorem k_X12_wins {l : Launch} {Z : zzG} {base : Nat} {PL : Nat → Option (Nat × Int32)} {mm : zzS} (p0 : Int32)  (p1 : Int32)  (p2 : Int32)  (σ : zzS) : zzCT l yX12_wins wsX12_wins rX12_wins (zzA base) Z (zzM Z base PL mm) (zzM Z base PL mm) zzRI [.ref (zzad Z 36), .int p0, .int p1, .int p2] (f_X12_wins p0 p1 p2 σ) σ :=
  zzCT_of (cc := cX12_wins) (nL := 4) (ret := (some .int)) (by decide) rfl (Nat.le_of_ble_eq_true rfl) [(0, .ref (zzad Z 36)), (1, .int p0), (2, .int p1), (3, .int p2)] rfl (fun p e s m args below meth c C => w_X12_wins_e C p0 p1 p2 σ)
abbrev rX12_rests : Room := { frames := 2, cells := 0, slots := 0, locals := 45 }

set_option maxHeartbeats 4000000 in
set_option maxRecDepth 100000 in
theorem w_X12_rests_51 {l : Launch} {Z : zzG} {base : Nat} {PL : Nat → Option (Nat × Int32)} {mm : zzS} {p : Program} {e : Env} {s : State} {m : MethodId} {args : Array Value} {below : List Frame} {meth : Method} {c : Code} (C : zzCx p m meth c s args cX12_rests 7 wsX12_rests RX12 (some .boolean) Z) (p0 : Int32)  (p1 : Int32)  (p2 : Int32)  (p3 : Int32)    (σ : zzS) : zzGO p l e rX12_rests s m args below meth c 7 (zzA base) (zzM Z base PL mm) (zzM Z base PL mm) zzRI rX12_rests.cells rX12_rests.slots (f_X12_rests_51 p0 p1 p2 p3 σ) σ 0 0 51 [] [] := by
  unfold f_X12_rests_51
  refine zz_iconst (v := 1) C dX12_rests_51 (by decide) ?_
  refine zz_goto (tgt := 56) C dX12_rests_52 (by decide) ?_
  exact zz_zret C rfl (Or.inr rfl) rfl (fun _ h9 => h9) (Nat.zero_le _) (Nat.zero_le _) dX12_rests_56
set_option maxHeartbeats 4000000 in
set_option maxRecDepth 100000 in
theorem w_X12_rests_24 {l : Launch} {Z : zzG} {base : Nat} {PL : Nat → Option (Nat × Int32)} {mm : zzS} {p : Program} {e : Env} {s : State} {m : MethodId} {args : Array Value} {below : List Frame} {meth : Method} {c : Code} (C : zzCx p m meth c s args cX12_rests 7 wsX12_rests RX12 (some .boolean) Z) (p0 : Int32)  (p1 : Int32)  (p2 : Int32)  (p3 : Int32)   (l5 : Int32)  (s0 : Int32)  (σ : zzS) : zzGO p l e rX12_rests s m args below meth c 7 (zzA base) (zzM Z base PL mm) (zzM Z base PL mm) zzRI rX12_rests.cells rX12_rests.slots (f_X12_rests_24 p0 p1 p2 p3 l5 s0 σ) σ 0 0 24 [(0, .ref (zzad Z 36)), (1, .int p0), (3, .int p2), (4, .int p3), (5, .int l5)] [.int s0] := by
  unfold f_X12_rests_24
  refine zz_istore (loc' := [(6, .int s0), (0, .ref (zzad Z 36)), (1, .int p0), (3, .int p2), (4, .int p3), (5, .int l5)]) C dX12_rests_24 (by decide) rfl ?_
  refine zz_iload C dX12_rests_26 0 rfl ?_
  refine zz_if_eq (tgt := 51) C dX12_rests_28 (by decide) (fun h1 => ?_) (fun h1 => ?_)
  · refine zz_sub (loc' := []) [] rfl ?_
    exact w_X12_rests_51 C p0 p1 p2 p3 σ
  · refine zz_aload_n C dX12_rests_31 rfl 1 rfl ?_
    refine zz_iload_n C dX12_rests_32 rfl 2 rfl ?_
    refine zz_iload C dX12_rests_33 5 rfl ?_
    refine zz_iload C dX12_rests_35 4 rfl ?_
    refine zz_callV C (Cn := RX12) (b := zzad Z 36) (fun H hH => zz_recv C.2.2.2 (zzM_obj H hH) rfl) (As := [.int p0, .int l5, .int p3]) (rest := []) rfl (k_X12_wins p0 l5 p3 σ) (cwV 3 C.1.2.2.2.2 gX12_rests_X12_wins rfl rfl rfl (by decide +kernel) ⟨Nat.le_of_ble_eq_true rfl, Nat.le_of_ble_eq_true rfl⟩) rfl (Nat.le_of_ble_eq_true rfl) ⟨Nat.zero_le _, Nat.zero_le _⟩ dX12_rests_37 (zz_kI rfl rfl (fun r2 σ3 => ?_))
    refine zz_aload_n C dX12_rests_40 rfl 1 rfl ?_
    refine zz_iload_n C dX12_rests_41 rfl 2 rfl ?_
    refine zz_iload_n C dX12_rests_42 rfl 3 rfl ?_
    refine zz_iload C dX12_rests_43 4 rfl ?_
    refine zz_callV C (Cn := RX12) (b := zzad Z 36) (fun H hH => zz_recv C.2.2.2 (zzM_obj H hH) rfl) (As := [.int p0, .int p2, .int p3]) (rest := [.int r2]) rfl (k_X12_wins p0 p2 p3 σ3) (cwV 3 C.1.2.2.2.2 gX12_rests_X12_wins rfl rfl rfl (by decide +kernel) ⟨Nat.le_of_ble_eq_true rfl, Nat.le_of_ble_eq_true rfl⟩) rfl (Nat.le_of_ble_eq_true rfl) ⟨Nat.zero_le _, Nat.zero_le _⟩ dX12_rests_45 (zz_kI rfl rfl (fun r4 σ5 => ?_))
    refine zz_icmp_gt (tgt := 55) C dX12_rests_48 (by decide) (fun h6 => ?_) (fun h6 => ?_)
    · refine zz_iconst (v := 0) C dX12_rests_55 (by decide) ?_
      exact zz_zret C rfl (Or.inl rfl) rfl (fun _ h9 => h9) (Nat.zero_le _) (Nat.zero_le _) dX12_rests_56
    · refine zz_sub (loc' := []) [] rfl ?_
      exact w_X12_rests_51 C p0 p1 p2 p3 σ5
set_option maxHeartbeats 4000000 in
set_option maxRecDepth 100000 in
theorem w_X12_rests_19 {l : Launch} {Z : zzG} {base : Nat} {PL : Nat → Option (Nat × Int32)} {mm : zzS} {p : Program} {e : Env} {s : State} {m : MethodId} {args : Array Value} {below : List Frame} {meth : Method} {c : Code} (C : zzCx p m meth c s args cX12_rests 7 wsX12_rests RX12 (some .boolean) Z) (p0 : Int32)  (p1 : Int32)  (p2 : Int32)  (p3 : Int32)   (l5 : Int32)  (σ : zzS) : zzGO p l e rX12_rests s m args below meth c 7 (zzA base) (zzM Z base PL mm) (zzM Z base PL mm) zzRI rX12_rests.cells rX12_rests.slots (f_X12_rests_19 p0 p1 p2 p3 l5 σ) σ 0 0 19 [(0, .ref (zzad Z 36)), (1, .int p0), (3, .int p2), (4, .int p3), (5, .int l5)] [] := by
  unfold f_X12_rests_19
  refine zz_iconst (v := 1) C dX12_rests_19 (by decide) ?_
  refine zz_goto (tgt := 24) C dX12_rests_20 (by decide) ?_
  refine zz_sub (loc' := [(0, .ref (zzad Z 36)), (1, .int p0), (3, .int p2), (4, .int p3), (5, .int l5)]) [0, 1, 2, 3, 4] rfl ?_
  exact w_X12_rests_24 C p0 p1 p2 p3 l5 (1 : Int32) σ
set_option maxHeartbeats 4000000 in
set_option maxRecDepth 100000 in
theorem w_X12_rests_e {l : Launch} {Z : zzG} {base : Nat} {PL : Nat → Option (Nat × Int32)} {mm : zzS} {p : Program} {e : Env} {s : State} {m : MethodId} {args : Array Value} {below : List Frame} {meth : Method} {c : Code} (C : zzCx p m meth c s args cX12_rests 7 wsX12_rests RX12 (some .boolean) Z) (p0 : Int32)  (p1 : Int32)  (p2 : Int32)  (p3 : Int32)  (σ : zzS) : zzGO p l e rX12_rests s m args below meth c 7 (zzA base) (zzM Z base PL mm) (zzM Z base PL mm) zzRI rX12_rests.cells rX12_rests.slots (f_X12_rests p0 p1 p2 p3 σ) σ 0 0 0 [(0, .ref (zzad Z 36)), (1, .int p0), (2, .int p1), (3, .int p2), (4, .int p3)] [] := by
  unfold f_X12_rests
  refine zz_iconst (v := 1) C dX12_rests_0 (by decide) ?_
  refine zz_iload_n C dX12_rests_1 rfl 3 rfl ?_
  refine zz_isub C dX12_rests_2 ?_
  refine zz_istoreX (locf := fun x1 => [(5, .int x1), (0, .ref (zzad Z 36)), (1, .int p0), (2, .int p1), (3, .int p2), (4, .int p3)]) C dX12_rests_3 (by decide) (fun _ => rfl) (fun x1 => ?_)
  refine zz_iload C dX12_rests_5 0 rfl ?_
  refine zz_if_eq (tgt := 19) C dX12_rests_7 (by decide) (fun h2 => ?_) (fun h2 => ?_)
  · refine zz_sub (loc' := [(0, .ref (zzad Z 36)), (1, .int p0), (3, .int p2), (4, .int p3), (5, .int x1)]) [1, 2, 4, 5, 0] rfl ?_
    exact w_X12_rests_19 C p0 p1 p2 p3 x1 σ
  · refine zz_aload_n C dX12_rests_10 rfl 1 rfl ?_
    refine zz_iload_n C dX12_rests_11 rfl 2 rfl ?_
    refine zz_iload_n C dX12_rests_12 rfl 3 rfl ?_
    refine zz_callV C (Cn := RX12) (b := zzad Z 36) (fun H hH => zz_recv C.2.2.2 (zzM_obj H hH) rfl) (As := [.int p0, .int p1]) (rest := []) rfl (k_X12_mayTurn p0 p1 σ) (cwV 2 C.1.2.2.2.2 gX12_rests_X12_mayTurn rfl rfl rfl (by decide +kernel) ⟨Nat.le_of_ble_eq_true rfl, Nat.le_of_ble_eq_true rfl⟩) rfl (Nat.le_of_ble_eq_true rfl) ⟨Nat.zero_le _, Nat.zero_le _⟩ dX12_rests_13 (zz_kI rfl rfl (fun r3 σ4 => ?_))
    refine zz_if_eq (tgt := 23) C dX12_rests_16 (by decide) (fun h5 => ?_) (fun h5 => ?_)
    · refine zz_iconst (v := 0) C dX12_rests_23 (by decide) ?_
      refine zz_sub (loc' := [(0, .ref (zzad Z 36)), (1, .int p0), (3, .int p2), (4, .int p3), (5, .int x1)]) [1, 2, 4, 5, 0] rfl ?_
      exact w_X12_rests_24 C p0 p1 p2 p3 x1 (0 : Int32) σ4
    · refine zz_sub (loc' := [(0, .ref (zzad Z 36)), (1, .int p0), (3, .int p2), (4, .int p3), (5, .int x1)]) [1, 2, 4, 5, 0] rfl ?_
      exact w_X12_rests_19 C p0 p1 p2 p3 x1 σ4
set_option maxHeartbeats 4000000 in
set_option maxRecDepth 100000 in
theorem k_X12_rests {l : Launch} {Z : zzG} {base : Nat} {PL : Nat → Option (Nat × Int32)} {mm : zzS} (p0 : Int32)  (p1 : Int32)  (p2 : Int32)  (p3 : Int32)  (σ : zzS) : zzCT l yX12_rests wsX12_rests rX12_rests (zzA base) Z (zzM Z base PL mm) (zzM Z base PL mm) zzRI [.ref (zzad Z 36), .int p0, .int p1, .int p2, .int p3] (f_X12_rests p0 p1 p2 p3 σ) σ :=
  zzCT_of (cc := cX12_rests) (nL := 7) (ret := (some .boolean)) (by decide) rfl (Nat.le_of_ble_eq_true rfl) [(0, .ref (zzad Z 36)), (1, .int p0), (2, .int p1), (3, .int p2), (4, .int p3)] rfl (fun p e s m args below meth c C => w_X12_rests_e C p0 p1 p2 p3 σ)
abbrev rX12_game : Room := { frames := 3, cells := 0, slots := 0, locals := 71 }

set_option maxHeartbeats 4000000 in
set_option maxRecDepth 100000 in
theorem w_X12_game_108 {l : Launch} {Z : zzG} {base : Nat} {PL : Nat → Option (Nat × Int32)} {mm : zzS} {p : Program} {e : Env} {s : State} {m : MethodId} {args : Array Value} {below : List Frame} {meth : Method} {c : Code} (C : zzCx p m meth c s args cX12_game 7 wsX12_game RX12 (some .int) Z) (p0 : Int32)  (p1 : Int32)  (k18 : Int32 → zzS → Option (Int32 × zzS)) (hk18 : ∀ (l3 : Int32)  (σ : zzS), zzGO p l e rX12_game s m args below meth c 7 (zzA base) (zzM Z base PL mm) (zzM Z base PL mm) zzRI rX12_game.cells rX12_game.slots (k18 l3 σ) σ 0 0 18 [(0, .ref (zzad Z 36)), (1, .int p0), (2, .int p1), (3, .int l3)] []) (l3 : Int32)  (σ : zzS) : zzGO p l e rX12_game s m args below meth c 7 (zzA base) (zzM Z base PL mm) (zzM Z base PL mm) zzRI rX12_game.cells rX12_game.slots (f_X12_game_108 k18 p0 p1 l3 σ) σ 0 0 108 [(0, .ref (zzad Z 36)), (1, .int p0), (2, .int p1), (3, .int l3)] [] := by
  unfold f_X12_game_108
  refine zz_iincX (d := 1) (locf := fun x1 => [(3, .int x1), (0, .ref (zzad Z 36)), (1, .int p0), (2, .int p1)]) C dX12_game_108 (k := 3) rfl (by decide) (by decide) (fun _ => rfl) (fun x1 => ?_)
  refine zz_goto (tgt := 18) C dX12_game_111 (by decide) ?_
  refine zz_sub (loc' := [(0, .ref (zzad Z 36)), (1, .int p0), (2, .int p1), (3, .int x1)]) [1, 2, 3, 0] rfl ?_
  exact hk18 x1 σ
set_option maxHeartbeats 4000000 in
set_option maxRecDepth 100000 in
theorem w_X12_game_66 {l : Launch} {Z : zzG} {base : Nat} {PL : Nat → Option (Nat × Int32)} {mm : zzS} {p : Program} {e : Env} {s : State} {m : MethodId} {args : Array Value} {below : List Frame} {meth : Method} {c : Code} (C : zzCx p m meth c s args cX12_game 7 wsX12_game RX12 (some .int) Z) (p0 : Int32)  (p1 : Int32)  (k18 : Int32 → zzS → Option (Int32 × zzS)) (hk18 : ∀ (l3 : Int32)  (σ : zzS), zzGO p l e rX12_game s m args below meth c 7 (zzA base) (zzM Z base PL mm) (zzM Z base PL mm) zzRI rX12_game.cells rX12_game.slots (k18 l3 σ) σ 0 0 18 [(0, .ref (zzad Z 36)), (1, .int p0), (2, .int p1), (3, .int l3)] []) (l3 : Int32)  (l4 : Int32)  (l5 : Int32)  (s0 : Int32)  (σ : zzS) : zzGO p l e rX12_game s m args below meth c 7 (zzA base) (zzM Z base PL mm) (zzM Z base PL mm) zzRI rX12_game.cells rX12_game.slots (f_X12_game_66 k18 p0 p1 l3 l4 l5 s0 σ) σ 0 0 66 [(0, .ref (zzad Z 36)), (1, .int p0), (2, .int p1), (3, .int l3), (4, .int l4), (5, .int l5)] [.int s0] := by
  unfold f_X12_game_66
  refine zz_istore (loc' := [(6, .int s0), (0, .ref (zzad Z 36)), (1, .int p0), (2, .int p1), (3, .int l3), (4, .int l4), (5, .int l5)]) C dX12_game_66 (by decide) rfl ?_
  refine zz_iload C dX12_game_68 0 rfl ?_
  refine zz_if_eq (tgt := 108) C dX12_game_70 (by decide) (fun h1 => ?_) (fun h1 => ?_)
  · refine zz_sub (loc' := [(0, .ref (zzad Z 36)), (1, .int p0), (2, .int p1), (3, .int l3)]) [1, 2, 3, 4] rfl ?_
    exact w_X12_game_108 C p0 p1 k18 hk18 l3 σ
  · refine zz_aload_n C dX12_game_73 rfl 1 rfl ?_
    refine zz_iload_n C dX12_game_74 rfl 2 rfl ?_
    refine zz_iload_n C dX12_game_75 rfl 3 rfl ?_
    refine zz_iload C dX12_game_76 5 rfl ?_
    refine zz_iload C dX12_game_78 6 rfl ?_
    refine zz_callV C (Cn := RX12) (b := zzad Z 36) (fun H hH => zz_recv C.2.2.2 (zzM_obj H hH) rfl) (As := [.int p0, .int p1, .int l4, .int l5]) (rest := []) rfl (k_X12_rests p0 p1 l4 l5 σ) (cwV 4 C.1.2.2.2.2 gX12_game_X12_rests rfl rfl rfl (by decide +kernel) ⟨Nat.le_of_ble_eq_true rfl, Nat.le_of_ble_eq_true rfl⟩) rfl (Nat.le_of_ble_eq_true rfl) ⟨Nat.zero_le _, Nat.zero_le _⟩ dX12_game_80 (zz_kI rfl rfl (fun r2 σ3 => ?_))
    refine zz_if_eq (tgt := 108) C dX12_game_83 (by decide) (fun h4 => ?_) (fun h4 => ?_)
    · refine zz_sub (loc' := [(0, .ref (zzad Z 36)), (1, .int p0), (2, .int p1), (3, .int l3)]) [1, 2, 3, 4] rfl ?_
      exact w_X12_game_108 C p0 p1 k18 hk18 l3 σ3
    · refine zz_aload_n C dX12_game_86 rfl 1 rfl ?_
      refine zz_iload_n C dX12_game_87 rfl 3 rfl ?_
      refine zz_iload_n C dX12_game_88 rfl 2 rfl ?_
      refine zz_iload C dX12_game_89 6 rfl ?_
      refine zz_iload C dX12_game_91 5 rfl ?_
      refine zz_callV C (Cn := RX12) (b := zzad Z 36) (fun H hH => zz_recv C.2.2.2 (zzM_obj H hH) rfl) (As := [.int p1, .int p0, .int l5, .int l4]) (rest := []) rfl (k_X12_rests p1 p0 l5 l4 σ3) (cwV 4 C.1.2.2.2.2 gX12_game_X12_rests rfl rfl rfl (by decide +kernel) ⟨Nat.le_of_ble_eq_true rfl, Nat.le_of_ble_eq_true rfl⟩) rfl (Nat.le_of_ble_eq_true rfl) ⟨Nat.zero_le _, Nat.zero_le _⟩ dX12_game_93 (zz_kI rfl rfl (fun r5 σ6 => ?_))
      refine zz_if_eq (tgt := 108) C dX12_game_96 (by decide) (fun h7 => ?_) (fun h7 => ?_)
      · refine zz_sub (loc' := [(0, .ref (zzad Z 36)), (1, .int p0), (2, .int p1), (3, .int l3)]) [1, 2, 3, 4] rfl ?_
        exact w_X12_game_108 C p0 p1 k18 hk18 l3 σ6
      · refine zz_bipush (v := 10) C dX12_game_99 (by decide) ?_
        refine zz_iload C dX12_game_101 5 rfl ?_
        refine zz_imul C dX12_game_103 ?_
        refine zz_iload C dX12_game_104 6 rfl ?_
        refine zz_iadd C dX12_game_106 ?_
        exact zz_iret C rfl rfl (fun _ h9 => h9) (Nat.zero_le _) (Nat.zero_le _) dX12_game_107
set_option maxHeartbeats 4000000 in
set_option maxRecDepth 100000 in
theorem w_X12_game_61 {l : Launch} {Z : zzG} {base : Nat} {PL : Nat → Option (Nat × Int32)} {mm : zzS} {p : Program} {e : Env} {s : State} {m : MethodId} {args : Array Value} {below : List Frame} {meth : Method} {c : Code} (C : zzCx p m meth c s args cX12_game 7 wsX12_game RX12 (some .int) Z) (p0 : Int32)  (p1 : Int32)  (k18 : Int32 → zzS → Option (Int32 × zzS)) (hk18 : ∀ (l3 : Int32)  (σ : zzS), zzGO p l e rX12_game s m args below meth c 7 (zzA base) (zzM Z base PL mm) (zzM Z base PL mm) zzRI rX12_game.cells rX12_game.slots (k18 l3 σ) σ 0 0 18 [(0, .ref (zzad Z 36)), (1, .int p0), (2, .int p1), (3, .int l3)] []) (l3 : Int32)  (l4 : Int32)  (l5 : Int32)  (σ : zzS) : zzGO p l e rX12_game s m args below meth c 7 (zzA base) (zzM Z base PL mm) (zzM Z base PL mm) zzRI rX12_game.cells rX12_game.slots (f_X12_game_61 k18 p0 p1 l3 l4 l5 σ) σ 0 0 61 [(0, .ref (zzad Z 36)), (1, .int p0), (2, .int p1), (3, .int l3), (4, .int l4), (5, .int l5)] [] := by
  unfold f_X12_game_61
  refine zz_iconst (v := 1) C dX12_game_61 (by decide) ?_
  refine zz_goto (tgt := 66) C dX12_game_62 (by decide) ?_
  refine zz_sub (loc' := [(0, .ref (zzad Z 36)), (1, .int p0), (2, .int p1), (3, .int l3), (4, .int l4), (5, .int l5)]) [0, 1, 2, 3, 4, 5] rfl ?_
  exact w_X12_game_66 C p0 p1 k18 hk18 l3 l4 l5 (1 : Int32) σ
set_option maxHeartbeats 4000000 in
set_option maxRecDepth 100000 in
theorem w_X12_game_65 {l : Launch} {Z : zzG} {base : Nat} {PL : Nat → Option (Nat × Int32)} {mm : zzS} {p : Program} {e : Env} {s : State} {m : MethodId} {args : Array Value} {below : List Frame} {meth : Method} {c : Code} (C : zzCx p m meth c s args cX12_game 7 wsX12_game RX12 (some .int) Z) (p0 : Int32)  (p1 : Int32)  (k18 : Int32 → zzS → Option (Int32 × zzS)) (hk18 : ∀ (l3 : Int32)  (σ : zzS), zzGO p l e rX12_game s m args below meth c 7 (zzA base) (zzM Z base PL mm) (zzM Z base PL mm) zzRI rX12_game.cells rX12_game.slots (k18 l3 σ) σ 0 0 18 [(0, .ref (zzad Z 36)), (1, .int p0), (2, .int p1), (3, .int l3)] []) (l3 : Int32)  (l4 : Int32)  (l5 : Int32)  (σ : zzS) : zzGO p l e rX12_game s m args below meth c 7 (zzA base) (zzM Z base PL mm) (zzM Z base PL mm) zzRI rX12_game.cells rX12_game.slots (f_X12_game_65 k18 p0 p1 l3 l4 l5 σ) σ 0 0 65 [(0, .ref (zzad Z 36)), (1, .int p0), (2, .int p1), (3, .int l3), (4, .int l4), (5, .int l5)] [] := by
  unfold f_X12_game_65
  refine zz_iconst (v := 0) C dX12_game_65 (by decide) ?_
  refine zz_sub (loc' := [(0, .ref (zzad Z 36)), (1, .int p0), (2, .int p1), (3, .int l3), (4, .int l4), (5, .int l5)]) [0, 1, 2, 3, 4, 5] rfl ?_
  exact w_X12_game_66 C p0 p1 k18 hk18 l3 l4 l5 (0 : Int32) σ
set_option maxHeartbeats 4000000 in
set_option maxRecDepth 100000 in
theorem w_X12_game_47 {l : Launch} {Z : zzG} {base : Nat} {PL : Nat → Option (Nat × Int32)} {mm : zzS} {p : Program} {e : Env} {s : State} {m : MethodId} {args : Array Value} {below : List Frame} {meth : Method} {c : Code} (C : zzCx p m meth c s args cX12_game 7 wsX12_game RX12 (some .int) Z) (p0 : Int32)  (p1 : Int32)  (k18 : Int32 → zzS → Option (Int32 × zzS)) (hk18 : ∀ (l3 : Int32)  (σ : zzS), zzGO p l e rX12_game s m args below meth c 7 (zzA base) (zzM Z base PL mm) (zzM Z base PL mm) zzRI rX12_game.cells rX12_game.slots (k18 l3 σ) σ 0 0 18 [(0, .ref (zzad Z 36)), (1, .int p0), (2, .int p1), (3, .int l3)] []) (l3 : Int32)  (l4 : Int32)  (l5 : Int32)  (σ : zzS) : zzGO p l e rX12_game s m args below meth c 7 (zzA base) (zzM Z base PL mm) (zzM Z base PL mm) zzRI rX12_game.cells rX12_game.slots (f_X12_game_47 k18 p0 p1 l3 l4 l5 σ) σ 0 0 47 [(0, .ref (zzad Z 36)), (1, .int p0), (2, .int p1), (3, .int l3), (4, .int l4), (5, .int l5)] [] := by
  unfold f_X12_game_47
  refine zz_iload C dX12_game_47 5 rfl ?_
  refine zz_if_eq (tgt := 61) C dX12_game_49 (by decide) (fun h1 => ?_) (fun h1 => ?_)
  · refine zz_sub (loc' := [(0, .ref (zzad Z 36)), (1, .int p0), (2, .int p1), (3, .int l3), (4, .int l4), (5, .int l5)]) [0, 1, 2, 3, 4, 5] rfl ?_
    exact w_X12_game_61 C p0 p1 k18 hk18 l3 l4 l5 σ
  · refine zz_aload_n C dX12_game_52 rfl 0 rfl ?_
    refine zz_iload_n C dX12_game_53 rfl 2 rfl ?_
    refine zz_iload_n C dX12_game_54 rfl 1 rfl ?_
    refine zz_callV C (Cn := RX12) (b := zzad Z 36) (fun H hH => zz_recv C.2.2.2 (zzM_obj H hH) rfl) (As := [.int p1, .int p0]) (rest := []) rfl (k_X12_mayTurn p1 p0 σ) (cwV 2 C.1.2.2.2.2 gX12_game_X12_mayTurn rfl rfl rfl (by decide +kernel) ⟨Nat.le_of_ble_eq_true rfl, Nat.le_of_ble_eq_true rfl⟩) rfl (Nat.le_of_ble_eq_true rfl) ⟨Nat.zero_le _, Nat.zero_le _⟩ dX12_game_55 (zz_kI rfl rfl (fun r2 σ3 => ?_))
    refine zz_if_eq (tgt := 65) C dX12_game_58 (by decide) (fun h4 => ?_) (fun h4 => ?_)
    · refine zz_sub (loc' := [(0, .ref (zzad Z 36)), (1, .int p0), (2, .int p1), (3, .int l3), (4, .int l4), (5, .int l5)]) [0, 1, 2, 3, 4, 5] rfl ?_
      exact w_X12_game_65 C p0 p1 k18 hk18 l3 l4 l5 σ3
    · refine zz_sub (loc' := [(0, .ref (zzad Z 36)), (1, .int p0), (2, .int p1), (3, .int l3), (4, .int l4), (5, .int l5)]) [0, 1, 2, 3, 4, 5] rfl ?_
      exact w_X12_game_61 C p0 p1 k18 hk18 l3 l4 l5 σ3
set_option maxHeartbeats 4000000 in
set_option maxRecDepth 100000 in
theorem w_X12_game_18b {l : Launch} {Z : zzG} {base : Nat} {PL : Nat → Option (Nat × Int32)} {mm : zzS} {p : Program} {e : Env} {s : State} {m : MethodId} {args : Array Value} {below : List Frame} {meth : Method} {c : Code} (C : zzCx p m meth c s args cX12_game 7 wsX12_game RX12 (some .int) Z) (p0 : Int32)  (p1 : Int32)   (k18 : Int32 → zzS → Option (Int32 × zzS)) (hk18 : ∀ (l3 : Int32)  (σ : zzS), zzGO p l e rX12_game s m args below meth c 7 (zzA base) (zzM Z base PL mm) (zzM Z base PL mm) zzRI rX12_game.cells rX12_game.slots (k18 l3 σ) σ 0 0 18 [(0, .ref (zzad Z 36)), (1, .int p0), (2, .int p1), (3, .int l3)] []) (l3 : Int32)  (σ : zzS) : zzGO p l e rX12_game s m args below meth c 7 (zzA base) (zzM Z base PL mm) (zzM Z base PL mm) zzRI rX12_game.cells rX12_game.slots (f_X12_game_18b k18 p0 p1 l3 σ) σ 0 0 18 [(0, .ref (zzad Z 36)), (1, .int p0), (2, .int p1), (3, .int l3)] [] := by
  unfold f_X12_game_18b
  refine zz_iload_n C dX12_game_18 rfl 3 rfl ?_
  refine zz_iconst (v := 4) C dX12_game_19 (by decide) ?_
  refine zz_icmp_ge (tgt := 114) C dX12_game_20 (by decide) (fun h1 => ?_) (fun h1 => ?_)
  · refine zz_bipush (v := -4) C dX12_game_114 (by decide) ?_
    exact zz_iret C rfl rfl (fun _ h9 => h9) (Nat.zero_le _) (Nat.zero_le _) dX12_game_116
  · refine zz_iload_n C dX12_game_23 rfl 3 rfl ?_
    refine zz_iconst (v := 2) C dX12_game_24 (by decide) ?_
    refine zz_idiv C dX12_game_25 (by decide) ?_
    refine zz_istoreX (locf := fun x2 => [(4, .int x2), (0, .ref (zzad Z 36)), (1, .int p0), (2, .int p1), (3, .int l3)]) C dX12_game_26 (by decide) (fun _ => rfl) (fun x2 => ?_)
    refine zz_iload_n C dX12_game_28 rfl 4 rfl ?_
    refine zz_iconst (v := 2) C dX12_game_29 (by decide) ?_
    refine zz_irem C dX12_game_30 (by decide) ?_
    refine zz_istoreX (locf := fun x3 => [(5, .int x3), (4, .int x2), (0, .ref (zzad Z 36)), (1, .int p0), (2, .int p1), (3, .int l3)]) C dX12_game_31 (by decide) (fun _ => rfl) (fun x3 => ?_)
    refine zz_iload C dX12_game_33 1 rfl ?_
    refine zz_if_eq (tgt := 47) C dX12_game_35 (by decide) (fun h4 => ?_) (fun h4 => ?_)
    · refine zz_sub (loc' := [(0, .ref (zzad Z 36)), (1, .int p0), (2, .int p1), (3, .int l3), (4, .int x2), (5, .int x3)]) [2, 3, 4, 5, 1, 0] rfl ?_
      exact w_X12_game_47 C p0 p1 k18 hk18 l3 x2 x3 σ
    · refine zz_aload_n C dX12_game_38 rfl 2 rfl ?_
      refine zz_iload_n C dX12_game_39 rfl 3 rfl ?_
      refine zz_iload_n C dX12_game_40 rfl 4 rfl ?_
      refine zz_callV C (Cn := RX12) (b := zzad Z 36) (fun H hH => zz_recv C.2.2.2 (zzM_obj H hH) rfl) (As := [.int p0, .int p1]) (rest := []) rfl (k_X12_mayTurn p0 p1 σ) (cwV 2 C.1.2.2.2.2 gX12_game_X12_mayTurn rfl rfl rfl (by decide +kernel) ⟨Nat.le_of_ble_eq_true rfl, Nat.le_of_ble_eq_true rfl⟩) rfl (Nat.le_of_ble_eq_true rfl) ⟨Nat.zero_le _, Nat.zero_le _⟩ dX12_game_41 (zz_kI rfl rfl (fun r5 σ6 => ?_))
      refine zz_if_eq (tgt := 65) C dX12_game_44 (by decide) (fun h7 => ?_) (fun h7 => ?_)
      · refine zz_sub (loc' := [(0, .ref (zzad Z 36)), (1, .int p0), (2, .int p1), (3, .int l3), (4, .int x2), (5, .int x3)]) [2, 3, 4, 5, 1, 0] rfl ?_
        exact w_X12_game_65 C p0 p1 k18 hk18 l3 x2 x3 σ6
      · refine zz_sub (loc' := [(0, .ref (zzad Z 36)), (1, .int p0), (2, .int p1), (3, .int l3), (4, .int x2), (5, .int x3)]) [2, 3, 4, 5, 1, 0] rfl ?_
        exact w_X12_game_47 C p0 p1 k18 hk18 l3 x2 x3 σ6
set_option maxHeartbeats 4000000 in
set_option maxRecDepth 100000 in
theorem w_X12_game_18 {l : Launch} {Z : zzG} {base : Nat} {PL : Nat → Option (Nat × Int32)} {mm : zzS} {p : Program} {e : Env} {s : State} {m : MethodId} {args : Array Value} {below : List Frame} {meth : Method} {c : Code} (C : zzCx p m meth c s args cX12_game 7 wsX12_game RX12 (some .int) Z) (p0 : Int32)  (p1 : Int32)   (n : Nat) : ∀ (l3 : Int32)  (σ : zzS), zzGO p l e rX12_game s m args below meth c 7 (zzA base) (zzM Z base PL mm) (zzM Z base PL mm) zzRI rX12_game.cells rX12_game.slots (f_X12_game_18 p0 p1 n l3 σ) σ 0 0 18 [(0, .ref (zzad Z 36)), (1, .int p0), (2, .int p1), (3, .int l3)] [] := by
  induction n with
  | zero => exact fun _ _ r9 s9 h9 => by cases h9
  | succ n ih => exact w_X12_game_18b C p0 p1 _ ih
set_option maxHeartbeats 4000000 in
set_option maxRecDepth 100000 in
theorem w_X12_game_e {l : Launch} {Z : zzG} {base : Nat} {PL : Nat → Option (Nat × Int32)} {mm : zzS} {p : Program} {e : Env} {s : State} {m : MethodId} {args : Array Value} {below : List Frame} {meth : Method} {c : Code} (C : zzCx p m meth c s args cX12_game 7 wsX12_game RX12 (some .int) Z) (p0 : Int32)  (p1 : Int32)  (σ : zzS) : zzGO p l e rX12_game s m args below meth c 7 (zzA base) (zzM Z base PL mm) (zzM Z base PL mm) zzRI rX12_game.cells rX12_game.slots (f_X12_game p0 p1 σ) σ 0 0 0 [(0, .ref (zzad Z 36)), (1, .int p0), (2, .int p1)] [] := by
  unfold f_X12_game
  refine zz_aload_n C dX12_game_0 rfl 0 rfl ?_
  refine zz_iconst (v := 0) C dX12_game_1 (by decide) ?_
  refine zz_put (ty := .int) C zzM_obj (fun _ h9 => List.mem_cons_of_mem _ (List.mem_append_right _ (h9))) rfl 13 (by decide) (List.mem_of_getElem? (i := 1) rfl) rfl tyX12_ok nmX12 rfl (by decide +kernel) rfl rfl (Nat.le_of_ble_eq_true rfl) (zzM_uobj (by decide)) (zzA_M (by decide)) dX12_game_2 ?_
  refine zz_ltS (fun σ1 => ?_)
  refine zz_aload_n C dX12_game_5 rfl 0 rfl ?_
  refine zz_iload_n C dX12_game_6 rfl 1 rfl ?_
  refine zz_iload_n C dX12_game_7 rfl 2 rfl ?_
  refine zz_callV C (Cn := RX12) (b := zzad Z 36) (fun H hH => zz_recv C.2.2.2 (zzM_obj H hH) rfl) (As := [.int p0, .int p1]) (rest := []) rfl (k_X12_areTwo p0 p1 σ1) (cwV 2 C.1.2.2.2.2 gX12_game_X12_areTwo rfl rfl rfl (by decide +kernel) ⟨Nat.le_of_ble_eq_true rfl, Nat.le_of_ble_eq_true rfl⟩) rfl (Nat.le_of_ble_eq_true rfl) ⟨Nat.zero_le _, Nat.zero_le _⟩ dX12_game_8 (zz_kI rfl rfl (fun r2 σ3 => ?_))
  refine zz_if_ne (tgt := 16) C dX12_game_11 (by decide) (fun h4 => ?_) (fun h4 => ?_)
  · refine zz_iconst (v := 0) C dX12_game_16 (by decide) ?_
    refine zz_istore_n (loc' := [(3, .int (0 : Int32)), (0, .ref (zzad Z 36)), (1, .int p0), (2, .int p1)]) C dX12_game_17 rfl (by decide) rfl ?_
    refine zz_sub (loc' := [(0, .ref (zzad Z 36)), (1, .int p0), (2, .int p1), (3, .int (0 : Int32))]) [1, 2, 3, 0] rfl ?_
    exact w_X12_game_18 C p0 p1 200 (0 : Int32) σ3
  · refine zz_iconst (v := -1) C dX12_game_14 (by decide) ?_
    exact zz_iret C rfl rfl (fun _ h9 => h9) (Nat.zero_le _) (Nat.zero_le _) dX12_game_15
set_option maxHeartbeats 4000000 in
set_option maxRecDepth 100000 in
theorem k_X12_game {l : Launch} {Z : zzG} {base : Nat} {PL : Nat → Option (Nat × Int32)} {mm : zzS} (p0 : Int32)  (p1 : Int32)  (σ : zzS) : zzCT l yX12_game wsX12_game rX12_game (zzA base) Z (zzM Z base PL mm) (zzM Z base PL mm) zzRI [.ref (zzad Z 36), .int p0, .int p1] (f_X12_game p0 p1 σ) σ :=
  zzCT_of (cc := cX12_game) (nL := 7) (ret := (some .int)) (by decide) rfl (Nat.le_of_ble_eq_true rfl) [(0, .ref (zzad Z 36)), (1, .int p0), (2, .int p1)] rfl (fun p e s m args below meth c C => w_X12_game_e C p0 p1 σ)
abbrev rX12_skipped : Room := { frames := 0, cells := 0, slots := 0, locals := 0 }

set_option maxHeartbeats 4000000 in
set_option maxRecDepth 100000 in
theorem w_X12_skipped_e {l : Launch} {Z : zzG} {base : Nat} {PL : Nat → Option (Nat × Int32)} {mm : zzS} {p : Program} {e : Env} {s : State} {m : MethodId} {args : Array Value} {below : List Frame} {meth : Method} {c : Code} (C : zzCx p m meth c s args cX12_skipped 2 wsX12_skipped RX12 (some .long) Z) (p0 : Int32)  (σ : zzS) : zzGO p l e rX12_skipped s m args below meth c 2 (zzA base) (zzM Z base PL mm) (zzM Z base PL mm) zzRL rX12_skipped.cells rX12_skipped.slots (f_X12_skipped p0 σ) σ 0 0 0 [(0, .ref (zzad Z 36)), (1, .int p0)] [] := by
  unfold f_X12_skipped
  refine zz_aload_n C dX12_skipped_0 rfl 0 rfl ?_
  refine zz_get C zzM_obj (fun _ h9 => List.mem_cons_of_mem _ (List.mem_append_right _ (h9))) rfl 10 (by decide) (List.mem_of_getElem? (i := 1) rfl) (Or.inl rfl) rfl dX12_skipped_1 ?_
  refine zz_iload_n C dX12_skipped_4 rfl 1 rfl ?_
  refine zz_gd (fun h1 => ?_)
  refine zz_iald C (zzM_arr (by decide)) h1 dX12_skipped_5 ?_
  refine zz_if_ne (tgt := 15) C dX12_skipped_6 (by decide) (fun h2 => ?_) (fun h2 => ?_)
  · refine zz_aload_n C dX12_skipped_15 rfl 0 rfl ?_
    refine zz_get C zzM_obj (fun _ h9 => List.mem_cons_of_mem _ (List.mem_append_right _ (h9))) rfl 10 (by decide) (List.mem_of_getElem? (i := 1) rfl) (Or.inl rfl) rfl dX12_skipped_16 ?_
    refine zz_iload_n C dX12_skipped_19 rfl 1 rfl ?_
    refine zz_gd (fun h3 => ?_)
    refine zz_iald C (zzM_arr (by decide)) h3 dX12_skipped_20 ?_
    refine zz_iconst (v := 1) C dX12_skipped_21 (by decide) ?_
    refine zz_icmp_ne (tgt := 31) C dX12_skipped_22 (by decide) (fun h4 => ?_) (fun h4 => ?_)
    · refine zz_ldc2 (v := -2147483648) C (C.1.2.2.2.2 _ (List.mem_of_getElem? (i := 4) rfl)) dX12_skipped_31 ?_
      exact zz_lret C rfl rfl (fun _ h9 => h9) (Nat.zero_le _) (Nat.zero_le _) dX12_skipped_34
    · refine zz_ldc2 (v := -32768) C (C.1.2.2.2.2 _ (List.mem_of_getElem? (i := 3) rfl)) dX12_skipped_25 ?_
      refine zz_goto (tgt := 34) C dX12_skipped_28 (by decide) ?_
      exact zz_lret C rfl rfl (fun _ h9 => h9) (Nat.zero_le _) (Nat.zero_le _) dX12_skipped_34
  · refine zz_ldc2 (v := -128) C (C.1.2.2.2.2 _ (List.mem_of_getElem? (i := 2) rfl)) dX12_skipped_9 ?_
    refine zz_goto (tgt := 34) C dX12_skipped_12 (by decide) ?_
    exact zz_lret C rfl rfl (fun _ h9 => h9) (Nat.zero_le _) (Nat.zero_le _) dX12_skipped_34
set_option maxHeartbeats 4000000 in
set_option maxRecDepth 100000 in
theorem k_X12_skipped {l : Launch} {Z : zzG} {base : Nat} {PL : Nat → Option (Nat × Int32)} {mm : zzS} (p0 : Int32)  (σ : zzS) : zzCT l yX12_skipped wsX12_skipped rX12_skipped (zzA base) Z (zzM Z base PL mm) (zzM Z base PL mm) zzRL [.ref (zzad Z 36), .int p0] (f_X12_skipped p0 σ) σ :=
  zzCT_of (cc := cX12_skipped) (nL := 2) (ret := (some .long)) (by decide) rfl (Nat.le_of_ble_eq_true rfl) [(0, .ref (zzad Z 36)), (1, .int p0)] rfl (fun p e s m args below meth c C => w_X12_skipped_e C p0 σ)
abbrev rX12_wrongBlushes : Room := { frames := 2, cells := 0, slots := 0, locals := 46 }

set_option maxHeartbeats 4000000 in
set_option maxRecDepth 100000 in
theorem w_X12_wrongBlushes_17 {l : Launch} {Z : zzG} {base : Nat} {PL : Nat → Option (Nat × Int32)} {mm : zzS} {p : Program} {e : Env} {s : State} {m : MethodId} {args : Array Value} {below : List Frame} {meth : Method} {c : Code} (C : zzCx p m meth c s args cX12_wrongBlushes 4 wsX12_wrongBlushes RX12 (some .int) Z) (p0 : Int32)  (p1 : Int32)   (s0 : Int32)  (σ : zzS) : zzGO p l e rX12_wrongBlushes s m args below meth c 4 (zzA base) (zzM Z base PL mm) (zzM Z base PL mm) zzRI rX12_wrongBlushes.cells rX12_wrongBlushes.slots (f_X12_wrongBlushes_17 p0 p1 s0 σ) σ 0 0 17 [(0, .ref (zzad Z 36)), (2, .int p1)] [.int s0] := by
  unfold f_X12_wrongBlushes_17
  refine zz_istore_n (loc' := [(3, .int s0), (0, .ref (zzad Z 36)), (2, .int p1)]) C dX12_wrongBlushes_17 rfl (by decide) rfl ?_
  refine zz_iload_n C dX12_wrongBlushes_18 rfl 0 rfl ?_
  refine zz_if_ne (tgt := 40) C dX12_wrongBlushes_19 (by decide) (fun h1 => ?_) (fun h1 => ?_)
  · refine zz_iload_n C dX12_wrongBlushes_40 rfl 0 rfl ?_
    exact zz_iret C rfl rfl (fun _ h9 => h9) (Nat.zero_le _) (Nat.zero_le _) dX12_wrongBlushes_41
  · refine zz_aload_n C dX12_wrongBlushes_22 rfl 1 rfl ?_
    refine zz_get C zzM_obj (fun _ h9 => List.mem_cons_of_mem _ (List.mem_append_right _ (h9))) rfl 11 (by decide) (List.mem_of_getElem? (i := 1) rfl) (Or.inl rfl) rfl dX12_wrongBlushes_23 ?_
    refine zz_iload_n C dX12_wrongBlushes_26 rfl 2 rfl ?_
    refine zz_gd (fun h2 => ?_)
    refine zz_iald C (zzM_arr (by decide)) h2 dX12_wrongBlushes_27 ?_
    refine zz_aload_n C dX12_wrongBlushes_28 rfl 1 rfl ?_
    refine zz_get C zzM_obj (fun _ h9 => List.mem_cons_of_mem _ (List.mem_append_right _ (h9))) rfl 0 (by decide) (List.mem_of_getElem? (i := 2) rfl) (Or.inl rfl) rfl dX12_wrongBlushes_29 ?_
    refine zz_icmp_le (tgt := 40) C dX12_wrongBlushes_32 (by decide) (fun h3 => ?_) (fun h3 => ?_)
    · refine zz_iload_n C dX12_wrongBlushes_40 rfl 0 rfl ?_
      exact zz_iret C rfl rfl (fun _ h9 => h9) (Nat.zero_le _) (Nat.zero_le _) dX12_wrongBlushes_41
    · refine zz_bipush (v := -13) C dX12_wrongBlushes_35 (by decide) ?_
      refine zz_goto (tgt := 41) C dX12_wrongBlushes_37 (by decide) ?_
      exact zz_iret C rfl rfl (fun _ h9 => h9) (Nat.zero_le _) (Nat.zero_le _) dX12_wrongBlushes_41
set_option maxHeartbeats 4000000 in
set_option maxRecDepth 100000 in
theorem w_X12_wrongBlushes_e {l : Launch} {Z : zzG} {base : Nat} {PL : Nat → Option (Nat × Int32)} {mm : zzS} {p : Program} {e : Env} {s : State} {m : MethodId} {args : Array Value} {below : List Frame} {meth : Method} {c : Code} (C : zzCx p m meth c s args cX12_wrongBlushes 4 wsX12_wrongBlushes RX12 (some .int) Z) (p0 : Int32)  (p1 : Int32)  (σ : zzS) : zzGO p l e rX12_wrongBlushes s m args below meth c 4 (zzA base) (zzM Z base PL mm) (zzM Z base PL mm) zzRI rX12_wrongBlushes.cells rX12_wrongBlushes.slots (f_X12_wrongBlushes p0 p1 σ) σ 0 0 0 [(0, .ref (zzad Z 36)), (1, .int p0), (2, .int p1)] [] := by
  unfold f_X12_wrongBlushes
  refine zz_aload_n C dX12_wrongBlushes_0 rfl 0 rfl ?_
  refine zz_iload_n C dX12_wrongBlushes_1 rfl 1 rfl ?_
  refine zz_callV C (Cn := RX12) (b := zzad Z 36) (fun H hH => zz_recv C.2.2.2 (zzM_obj H hH) rfl) (As := [.int p0]) (rest := []) rfl (k_X12_isOne p0 σ) (cwV 1 C.1.2.2.2.2 gX12_wrongBlushes_X12_isOne rfl rfl rfl (by decide +kernel) ⟨Nat.le_of_ble_eq_true rfl, Nat.le_of_ble_eq_true rfl⟩) rfl (Nat.le_of_ble_eq_true rfl) ⟨Nat.zero_le _, Nat.zero_le _⟩ dX12_wrongBlushes_2 (zz_kI rfl rfl (fun r1 σ2 => ?_))
  refine zz_if_eq (tgt := 16) C dX12_wrongBlushes_5 (by decide) (fun h3 => ?_) (fun h3 => ?_)
  · refine zz_iconst (v := -1) C dX12_wrongBlushes_16 (by decide) ?_
    refine zz_sub (loc' := [(0, .ref (zzad Z 36)), (2, .int p1)]) [0, 2] rfl ?_
    exact w_X12_wrongBlushes_17 C p0 p1 (-1 : Int32) σ2
  · refine zz_aload_n C dX12_wrongBlushes_8 rfl 0 rfl ?_
    refine zz_iload_n C dX12_wrongBlushes_9 rfl 2 rfl ?_
    refine zz_callV C (Cn := RX12) (b := zzad Z 36) (fun H hH => zz_recv C.2.2.2 (zzM_obj H hH) rfl) (As := [.int p1]) (rest := []) rfl (k_X12_wrongRow p1 σ2) (cwV 1 C.1.2.2.2.2 gX12_wrongBlushes_X12_wrongRow rfl rfl rfl (by decide +kernel) ⟨Nat.le_of_ble_eq_true rfl, Nat.le_of_ble_eq_true rfl⟩) rfl (Nat.le_of_ble_eq_true rfl) ⟨Nat.zero_le _, Nat.zero_le _⟩ dX12_wrongBlushes_10 (zz_kI rfl rfl (fun r4 σ5 => ?_))
    refine zz_goto (tgt := 17) C dX12_wrongBlushes_13 (by decide) ?_
    refine zz_sub (loc' := [(0, .ref (zzad Z 36)), (2, .int p1)]) [0, 2] rfl ?_
    exact w_X12_wrongBlushes_17 C p0 p1 r4 σ5
set_option maxHeartbeats 4000000 in
set_option maxRecDepth 100000 in
theorem k_X12_wrongBlushes {l : Launch} {Z : zzG} {base : Nat} {PL : Nat → Option (Nat × Int32)} {mm : zzS} (p0 : Int32)  (p1 : Int32)  (σ : zzS) : zzCT l yX12_wrongBlushes wsX12_wrongBlushes rX12_wrongBlushes (zzA base) Z (zzM Z base PL mm) (zzM Z base PL mm) zzRI [.ref (zzad Z 36), .int p0, .int p1] (f_X12_wrongBlushes p0 p1 σ) σ :=
  zzCT_of (cc := cX12_wrongBlushes) (nL := 4) (ret := (some .int)) (by decide) rfl (Nat.le_of_ble_eq_true rfl) [(0, .ref (zzad Z 36)), (1, .int p0), (2, .int p1)] rfl (fun p e s m args below meth c C => w_X12_wrongBlushes_e C p0 p1 σ)
abbrev rX12_levelsUpTo : Room := { frames := 1, cells := 0, slots := 0, locals := 22 }

set_option maxHeartbeats 4000000 in
set_option maxRecDepth 100000 in
theorem w_X12_levelsUpTo_81 {l : Launch} {Z : zzG} {base : Nat} {PL : Nat → Option (Nat × Int32)} {mm : zzS} {p : Program} {e : Env} {s : State} {m : MethodId} {args : Array Value} {below : List Frame} {meth : Method} {c : Code} (C : zzCx p m meth c s args cX12_levelsUpTo 10 wsX12_levelsUpTo RX12 (some .int) Z) (p0 : Int32)  (p1 : Int32)  (p2 : Int32)  (k6 : Int32 → Int32 → zzS → Option (Int32 × zzS)) (hk6 : ∀ (l4 : Int32)  (l5 : Int32)  (σ : zzS), zzGO p l e rX12_levelsUpTo s m args below meth c 10 (zzA base) (zzM Z base PL mm) (zzM Z base PL mm) zzRI rX12_levelsUpTo.cells rX12_levelsUpTo.slots (k6 l4 l5 σ) σ 0 0 6 [(0, .ref (zzad Z 36)), (1, .int p0), (2, .int p1), (3, .int p2), (4, .int l4), (5, .int l5)] []) (k19 : Int32 → Int32 → Int32 → Int32 → zzS → Option (Int32 × zzS)) (hk19 : ∀ (l4 : Int32)  (l5 : Int32)  (l6 : Int32)  (l7 : Int32)  (σ : zzS), zzGO p l e rX12_levelsUpTo s m args below meth c 10 (zzA base) (zzM Z base PL mm) (zzM Z base PL mm) zzRI rX12_levelsUpTo.cells rX12_levelsUpTo.slots (k19 l4 l5 l6 l7 σ) σ 0 0 19 [(0, .ref (zzad Z 36)), (1, .int p0), (2, .int p1), (3, .int p2), (4, .int l4), (5, .int l5), (6, .int l6), (7, .int l7)] []) (l4 : Int32)  (l5 : Int32)  (l7 : Int32)  (s0 : Int32)  (σ : zzS) : zzGO p l e rX12_levelsUpTo s m args below meth c 10 (zzA base) (zzM Z base PL mm) (zzM Z base PL mm) zzRI rX12_levelsUpTo.cells rX12_levelsUpTo.slots (f_X12_levelsUpTo_81 k6 k19 p0 p1 p2 l4 l5 l7 s0 σ) σ 0 0 81 [(0, .ref (zzad Z 36)), (1, .int p0), (2, .int p1), (3, .int p2), (4, .int l4), (5, .int l5), (7, .int l7)] [.int s0] := by
  unfold f_X12_levelsUpTo_81
  refine zz_istore (loc' := [(6, .int s0), (0, .ref (zzad Z 36)), (1, .int p0), (2, .int p1), (3, .int p2), (4, .int l4), (5, .int l5), (7, .int l7)]) C dX12_levelsUpTo_81 (by decide) rfl ?_
  refine zz_iincX (d := 1) (locf := fun x1 => [(7, .int x1), (6, .int s0), (0, .ref (zzad Z 36)), (1, .int p0), (2, .int p1), (3, .int p2), (4, .int l4), (5, .int l5)]) C dX12_levelsUpTo_83 (k := 7) rfl (by decide) (by decide) (fun _ => rfl) (fun x1 => ?_)
  refine zz_goto (tgt := 19) C dX12_levelsUpTo_86 (by decide) ?_
  refine zz_sub (loc' := [(0, .ref (zzad Z 36)), (1, .int p0), (2, .int p1), (3, .int p2), (4, .int l4), (5, .int l5), (6, .int s0), (7, .int x1)]) [2, 3, 4, 5, 6, 7, 1, 0] rfl ?_
  exact hk19 l4 l5 s0 x1 σ
set_option maxHeartbeats 4000000 in
set_option maxRecDepth 100000 in
theorem w_X12_levelsUpTo_76 {l : Launch} {Z : zzG} {base : Nat} {PL : Nat → Option (Nat × Int32)} {mm : zzS} {p : Program} {e : Env} {s : State} {m : MethodId} {args : Array Value} {below : List Frame} {meth : Method} {c : Code} (C : zzCx p m meth c s args cX12_levelsUpTo 10 wsX12_levelsUpTo RX12 (some .int) Z) (p0 : Int32)  (p1 : Int32)  (p2 : Int32)  (k6 : Int32 → Int32 → zzS → Option (Int32 × zzS)) (hk6 : ∀ (l4 : Int32)  (l5 : Int32)  (σ : zzS), zzGO p l e rX12_levelsUpTo s m args below meth c 10 (zzA base) (zzM Z base PL mm) (zzM Z base PL mm) zzRI rX12_levelsUpTo.cells rX12_levelsUpTo.slots (k6 l4 l5 σ) σ 0 0 6 [(0, .ref (zzad Z 36)), (1, .int p0), (2, .int p1), (3, .int p2), (4, .int l4), (5, .int l5)] []) (k19 : Int32 → Int32 → Int32 → Int32 → zzS → Option (Int32 × zzS)) (hk19 : ∀ (l4 : Int32)  (l5 : Int32)  (l6 : Int32)  (l7 : Int32)  (σ : zzS), zzGO p l e rX12_levelsUpTo s m args below meth c 10 (zzA base) (zzM Z base PL mm) (zzM Z base PL mm) zzRI rX12_levelsUpTo.cells rX12_levelsUpTo.slots (k19 l4 l5 l6 l7 σ) σ 0 0 19 [(0, .ref (zzad Z 36)), (1, .int p0), (2, .int p1), (3, .int p2), (4, .int l4), (5, .int l5), (6, .int l6), (7, .int l7)] []) (l4 : Int32)  (l5 : Int32)  (l7 : Int32)  (σ : zzS) : zzGO p l e rX12_levelsUpTo s m args below meth c 10 (zzA base) (zzM Z base PL mm) (zzM Z base PL mm) zzRI rX12_levelsUpTo.cells rX12_levelsUpTo.slots (f_X12_levelsUpTo_76 k6 k19 p0 p1 p2 l4 l5 l7 σ) σ 0 0 76 [(0, .ref (zzad Z 36)), (1, .int p0), (2, .int p1), (3, .int p2), (4, .int l4), (5, .int l5), (7, .int l7)] [] := by
  unfold f_X12_levelsUpTo_76
  refine zz_iconst (v := 1) C dX12_levelsUpTo_76 (by decide) ?_
  refine zz_goto (tgt := 81) C dX12_levelsUpTo_77 (by decide) ?_
  refine zz_sub (loc' := [(0, .ref (zzad Z 36)), (1, .int p0), (2, .int p1), (3, .int p2), (4, .int l4), (5, .int l5), (7, .int l7)]) [0, 1, 2, 3, 4, 5, 6] rfl ?_
  exact w_X12_levelsUpTo_81 C p0 p1 p2 k6 hk6 k19 hk19 l4 l5 l7 (1 : Int32) σ
set_option maxHeartbeats 4000000 in
set_option maxRecDepth 100000 in
theorem w_X12_levelsUpTo_80 {l : Launch} {Z : zzG} {base : Nat} {PL : Nat → Option (Nat × Int32)} {mm : zzS} {p : Program} {e : Env} {s : State} {m : MethodId} {args : Array Value} {below : List Frame} {meth : Method} {c : Code} (C : zzCx p m meth c s args cX12_levelsUpTo 10 wsX12_levelsUpTo RX12 (some .int) Z) (p0 : Int32)  (p1 : Int32)  (p2 : Int32)  (k6 : Int32 → Int32 → zzS → Option (Int32 × zzS)) (hk6 : ∀ (l4 : Int32)  (l5 : Int32)  (σ : zzS), zzGO p l e rX12_levelsUpTo s m args below meth c 10 (zzA base) (zzM Z base PL mm) (zzM Z base PL mm) zzRI rX12_levelsUpTo.cells rX12_levelsUpTo.slots (k6 l4 l5 σ) σ 0 0 6 [(0, .ref (zzad Z 36)), (1, .int p0), (2, .int p1), (3, .int p2), (4, .int l4), (5, .int l5)] []) (k19 : Int32 → Int32 → Int32 → Int32 → zzS → Option (Int32 × zzS)) (hk19 : ∀ (l4 : Int32)  (l5 : Int32)  (l6 : Int32)  (l7 : Int32)  (σ : zzS), zzGO p l e rX12_levelsUpTo s m args below meth c 10 (zzA base) (zzM Z base PL mm) (zzM Z base PL mm) zzRI rX12_levelsUpTo.cells rX12_levelsUpTo.slots (k19 l4 l5 l6 l7 σ) σ 0 0 19 [(0, .ref (zzad Z 36)), (1, .int p0), (2, .int p1), (3, .int p2), (4, .int l4), (5, .int l5), (6, .int l6), (7, .int l7)] []) (l4 : Int32)  (l5 : Int32)  (l7 : Int32)  (σ : zzS) : zzGO p l e rX12_levelsUpTo s m args below meth c 10 (zzA base) (zzM Z base PL mm) (zzM Z base PL mm) zzRI rX12_levelsUpTo.cells rX12_levelsUpTo.slots (f_X12_levelsUpTo_80 k6 k19 p0 p1 p2 l4 l5 l7 σ) σ 0 0 80 [(0, .ref (zzad Z 36)), (1, .int p0), (2, .int p1), (3, .int p2), (4, .int l4), (5, .int l5), (7, .int l7)] [] := by
  unfold f_X12_levelsUpTo_80
  refine zz_iconst (v := 0) C dX12_levelsUpTo_80 (by decide) ?_
  refine zz_sub (loc' := [(0, .ref (zzad Z 36)), (1, .int p0), (2, .int p1), (3, .int p2), (4, .int l4), (5, .int l5), (7, .int l7)]) [0, 1, 2, 3, 4, 5, 6] rfl ?_
  exact w_X12_levelsUpTo_81 C p0 p1 p2 k6 hk6 k19 hk19 l4 l5 l7 (0 : Int32) σ
set_option maxHeartbeats 4000000 in
set_option maxRecDepth 100000 in
theorem w_X12_levelsUpTo_104 {l : Launch} {Z : zzG} {base : Nat} {PL : Nat → Option (Nat × Int32)} {mm : zzS} {p : Program} {e : Env} {s : State} {m : MethodId} {args : Array Value} {below : List Frame} {meth : Method} {c : Code} (C : zzCx p m meth c s args cX12_levelsUpTo 10 wsX12_levelsUpTo RX12 (some .int) Z) (p0 : Int32)  (p1 : Int32)  (p2 : Int32)  (k6 : Int32 → Int32 → zzS → Option (Int32 × zzS)) (hk6 : ∀ (l4 : Int32)  (l5 : Int32)  (σ : zzS), zzGO p l e rX12_levelsUpTo s m args below meth c 10 (zzA base) (zzM Z base PL mm) (zzM Z base PL mm) zzRI rX12_levelsUpTo.cells rX12_levelsUpTo.slots (k6 l4 l5 σ) σ 0 0 6 [(0, .ref (zzad Z 36)), (1, .int p0), (2, .int p1), (3, .int p2), (4, .int l4), (5, .int l5)] []) (l5 : Int32)  (s0 : Int32)  (s1 : Int32)  (σ : zzS) : zzGO p l e rX12_levelsUpTo s m args below meth c 10 (zzA base) (zzM Z base PL mm) (zzM Z base PL mm) zzRI rX12_levelsUpTo.cells rX12_levelsUpTo.slots (f_X12_levelsUpTo_104 k6 p0 p1 p2 l5 s0 s1 σ) σ 0 0 104 [(0, .ref (zzad Z 36)), (1, .int p0), (2, .int p1), (3, .int p2), (5, .int l5)] [.int s0, .int s1] := by
  unfold f_X12_levelsUpTo_104
  refine zz_ior C dX12_levelsUpTo_104 ?_
  refine zz_istoreX (locf := fun x1 => [(4, .int x1), (0, .ref (zzad Z 36)), (1, .int p0), (2, .int p1), (3, .int p2), (5, .int l5)]) C dX12_levelsUpTo_105 (by decide) (fun _ => rfl) (fun x1 => ?_)
  refine zz_iincX (d := 1) (locf := fun x2 => [(5, .int x2), (4, .int x1), (0, .ref (zzad Z 36)), (1, .int p0), (2, .int p1), (3, .int p2)]) C dX12_levelsUpTo_107 (k := 5) rfl (by decide) (by decide) (fun _ => rfl) (fun x2 => ?_)
  refine zz_goto (tgt := 6) C dX12_levelsUpTo_110 (by decide) ?_
  refine zz_sub (loc' := [(0, .ref (zzad Z 36)), (1, .int p0), (2, .int p1), (3, .int p2), (4, .int x1), (5, .int x2)]) [2, 3, 4, 5, 1, 0] rfl ?_
  exact hk6 x1 x2 σ
set_option maxHeartbeats 4000000 in
set_option maxRecDepth 100000 in
theorem w_X12_levelsUpTo_19b {l : Launch} {Z : zzG} {base : Nat} {PL : Nat → Option (Nat × Int32)} {mm : zzS} {p : Program} {e : Env} {s : State} {m : MethodId} {args : Array Value} {below : List Frame} {meth : Method} {c : Code} (C : zzCx p m meth c s args cX12_levelsUpTo 10 wsX12_levelsUpTo RX12 (some .int) Z) (p0 : Int32)  (p1 : Int32)  (p2 : Int32)  (k6 : Int32 → Int32 → zzS → Option (Int32 × zzS)) (hk6 : ∀ (l4 : Int32)  (l5 : Int32)  (σ : zzS), zzGO p l e rX12_levelsUpTo s m args below meth c 10 (zzA base) (zzM Z base PL mm) (zzM Z base PL mm) zzRI rX12_levelsUpTo.cells rX12_levelsUpTo.slots (k6 l4 l5 σ) σ 0 0 6 [(0, .ref (zzad Z 36)), (1, .int p0), (2, .int p1), (3, .int p2), (4, .int l4), (5, .int l5)] []) (k19 : Int32 → Int32 → Int32 → Int32 → zzS → Option (Int32 × zzS)) (hk19 : ∀ (l4 : Int32)  (l5 : Int32)  (l6 : Int32)  (l7 : Int32)  (σ : zzS), zzGO p l e rX12_levelsUpTo s m args below meth c 10 (zzA base) (zzM Z base PL mm) (zzM Z base PL mm) zzRI rX12_levelsUpTo.cells rX12_levelsUpTo.slots (k19 l4 l5 l6 l7 σ) σ 0 0 19 [(0, .ref (zzad Z 36)), (1, .int p0), (2, .int p1), (3, .int p2), (4, .int l4), (5, .int l5), (6, .int l6), (7, .int l7)] []) (l4 : Int32)  (l5 : Int32)  (l6 : Int32)  (l7 : Int32)  (σ : zzS) : zzGO p l e rX12_levelsUpTo s m args below meth c 10 (zzA base) (zzM Z base PL mm) (zzM Z base PL mm) zzRI rX12_levelsUpTo.cells rX12_levelsUpTo.slots (f_X12_levelsUpTo_19b k6 k19 p0 p1 p2 l4 l5 l6 l7 σ) σ 0 0 19 [(0, .ref (zzad Z 36)), (1, .int p0), (2, .int p1), (3, .int p2), (4, .int l4), (5, .int l5), (6, .int l6), (7, .int l7)] [] := by
  unfold f_X12_levelsUpTo_19b
  refine zz_iload C dX12_levelsUpTo_19 7 rfl ?_
  refine zz_iload_n C dX12_levelsUpTo_21 rfl 3 rfl ?_
  refine zz_icmp_ge (tgt := 89) C dX12_levelsUpTo_22 (by decide) (fun h1 => ?_) (fun h1 => ?_)
  · refine zz_iload C dX12_levelsUpTo_89 4 rfl ?_
    refine zz_iload C dX12_levelsUpTo_91 6 rfl ?_
    refine zz_if_eq (tgt := 103) C dX12_levelsUpTo_93 (by decide) (fun h2 => ?_) (fun h2 => ?_)
    · refine zz_iconst (v := 0) C dX12_levelsUpTo_103 (by decide) ?_
      refine zz_sub (loc' := [(0, .ref (zzad Z 36)), (1, .int p0), (2, .int p1), (3, .int p2), (5, .int l5)]) [0, 1, 2, 3, 5] rfl ?_
      exact w_X12_levelsUpTo_104 C p0 p1 p2 k6 hk6 l5 (0 : Int32) l4 σ
    · refine zz_iconst (v := 1) C dX12_levelsUpTo_96 (by decide) ?_
      refine zz_iload C dX12_levelsUpTo_97 5 rfl ?_
      refine zz_ishl C dX12_levelsUpTo_99 ?_
      refine zz_goto (tgt := 104) C dX12_levelsUpTo_100 (by decide) ?_
      refine zz_sub (loc' := [(0, .ref (zzad Z 36)), (1, .int p0), (2, .int p1), (3, .int p2), (5, .int l5)]) [0, 1, 2, 3, 5] rfl ?_
      exact w_X12_levelsUpTo_104 C p0 p1 p2 k6 hk6 l5 ((1 : Int32) <<< (l5 &&& 31)) l4 σ
  · refine zz_aload_n C dX12_levelsUpTo_25 rfl 0 rfl ?_
    refine zz_get C zzM_obj (fun _ h9 => List.mem_cons_of_mem _ (List.mem_append_right _ (h9))) rfl 12 (by decide) (List.mem_of_getElem? (i := 1) rfl) (Or.inl rfl) rfl dX12_levelsUpTo_26 ?_
    refine zz_bipush (v := 100) C dX12_levelsUpTo_29 (by decide) ?_
    refine zz_iload_n C dX12_levelsUpTo_31 rfl 2 rfl ?_
    refine zz_imul C dX12_levelsUpTo_32 ?_
    refine zz_iload C dX12_levelsUpTo_33 7 rfl ?_
    refine zz_iadd C dX12_levelsUpTo_35 ?_
    refine zz_gd (fun h3 => ?_)
    refine zz_lald C zzM_rows h3 dX12_levelsUpTo_36 ?_
    refine zz_lstoreX (locf := fun x4 => [(8, .long x4), (0, .ref (zzad Z 36)), (1, .int p0), (2, .int p1), (3, .int p2), (4, .int l4), (5, .int l5), (6, .int l6), (7, .int l7)]) C dX12_levelsUpTo_37 (by decide) (fun _ => rfl) (fun x4 => ?_)
    refine zz_iload C dX12_levelsUpTo_39 7 rfl ?_
    refine zz_if_eq (tgt := 80) C dX12_levelsUpTo_41 (by decide) (fun h5 => ?_) (fun h5 => ?_)
    · refine zz_sub (loc' := [(0, .ref (zzad Z 36)), (1, .int p0), (2, .int p1), (3, .int p2), (4, .int l4), (5, .int l5), (7, .int l7)]) [1, 2, 3, 4, 5, 6, 8] rfl ?_
      exact w_X12_levelsUpTo_80 C p0 p1 p2 k6 hk6 k19 hk19 l4 l5 l7 σ
    · refine zz_iload C dX12_levelsUpTo_44 8 rfl ?_
      refine zz_iload_n C dX12_levelsUpTo_46 rfl 2 rfl ?_
      refine zz_icmp_eq (tgt := 76) C dX12_levelsUpTo_47 (by decide) (fun h6 => ?_) (fun h6 => ?_)
      · refine zz_sub (loc' := [(0, .ref (zzad Z 36)), (1, .int p0), (2, .int p1), (3, .int p2), (4, .int l4), (5, .int l5), (7, .int l7)]) [1, 2, 3, 4, 5, 6, 8] rfl ?_
        exact w_X12_levelsUpTo_76 C p0 p1 p2 k6 hk6 k19 hk19 l4 l5 l7 σ
      · refine zz_lload C dX12_levelsUpTo_50 0 rfl ?_
        refine zz_aload_n C dX12_levelsUpTo_52 rfl 1 rfl ?_
        refine zz_iload_n C dX12_levelsUpTo_53 rfl 3 rfl ?_
        refine zz_callV C (Cn := RX12) (b := zzad Z 36) (fun H hH => zz_recv C.2.2.2 (zzM_obj H hH) rfl) (As := [.int p1]) (rest := [.long x4]) rfl (k_X12_skipped p1 σ) (cwV 1 C.1.2.2.2.2 gX12_levelsUpTo_X12_skipped rfl rfl rfl (by decide +kernel) ⟨Nat.le_of_ble_eq_true rfl, Nat.le_of_ble_eq_true rfl⟩) rfl (Nat.le_of_ble_eq_true rfl) ⟨Nat.zero_le _, Nat.zero_le _⟩ dX12_levelsUpTo_54 (zz_kL rfl rfl (fun r7 σ8 => ?_))
        refine zz_lcmp C dX12_levelsUpTo_57 ?_
        refine zz_if_eq (tgt := 76) C dX12_levelsUpTo_58 (by decide) (fun h9 => ?_) (fun h9 => ?_)
        · refine zz_sub (loc' := [(0, .ref (zzad Z 36)), (1, .int p0), (2, .int p1), (3, .int p2), (4, .int l4), (5, .int l5), (7, .int l7)]) [1, 2, 3, 4, 5, 6, 8] rfl ?_
          exact w_X12_levelsUpTo_76 C p0 p1 p2 k6 hk6 k19 hk19 l4 l5 l7 σ8
        · refine zz_lload C dX12_levelsUpTo_61 0 rfl ?_
          refine zz_aload_n C dX12_levelsUpTo_63 rfl 1 rfl ?_
          refine zz_iload C dX12_levelsUpTo_64 8 rfl ?_
          refine zz_iload C dX12_levelsUpTo_66 6 rfl ?_
          refine zz_callV C (Cn := RX12) (b := zzad Z 36) (fun H hH => zz_recv C.2.2.2 (zzM_obj H hH) rfl) (As := [.int l7, .int l5]) (rest := [.long x4]) rfl (k_X12_showsOf l7 l5 σ8) (cwV 2 C.1.2.2.2.2 gX12_levelsUpTo_X12_showsOf rfl rfl rfl (by decide +kernel) ⟨Nat.le_of_ble_eq_true rfl, Nat.le_of_ble_eq_true rfl⟩) rfl (Nat.le_of_ble_eq_true rfl) ⟨Nat.zero_le _, Nat.zero_le _⟩ dX12_levelsUpTo_68 (zz_kI rfl rfl (fun r10 σ11 => ?_))
          refine zz_i2l C dX12_levelsUpTo_71 ?_
          refine zz_lcmp C dX12_levelsUpTo_72 ?_
          refine zz_if_ne (tgt := 80) C dX12_levelsUpTo_73 (by decide) (fun h12 => ?_) (fun h12 => ?_)
          · refine zz_sub (loc' := [(0, .ref (zzad Z 36)), (1, .int p0), (2, .int p1), (3, .int p2), (4, .int l4), (5, .int l5), (7, .int l7)]) [1, 2, 3, 4, 5, 6, 8] rfl ?_
            exact w_X12_levelsUpTo_80 C p0 p1 p2 k6 hk6 k19 hk19 l4 l5 l7 σ11
          · refine zz_sub (loc' := [(0, .ref (zzad Z 36)), (1, .int p0), (2, .int p1), (3, .int p2), (4, .int l4), (5, .int l5), (7, .int l7)]) [1, 2, 3, 4, 5, 6, 8] rfl ?_
            exact w_X12_levelsUpTo_76 C p0 p1 p2 k6 hk6 k19 hk19 l4 l5 l7 σ11
set_option maxHeartbeats 4000000 in
set_option maxRecDepth 100000 in
theorem w_X12_levelsUpTo_19 {l : Launch} {Z : zzG} {base : Nat} {PL : Nat → Option (Nat × Int32)} {mm : zzS} {p : Program} {e : Env} {s : State} {m : MethodId} {args : Array Value} {below : List Frame} {meth : Method} {c : Code} (C : zzCx p m meth c s args cX12_levelsUpTo 10 wsX12_levelsUpTo RX12 (some .int) Z) (p0 : Int32)  (p1 : Int32)  (p2 : Int32)  (k6 : Int32 → Int32 → zzS → Option (Int32 × zzS)) (hk6 : ∀ (l4 : Int32)  (l5 : Int32)  (σ : zzS), zzGO p l e rX12_levelsUpTo s m args below meth c 10 (zzA base) (zzM Z base PL mm) (zzM Z base PL mm) zzRI rX12_levelsUpTo.cells rX12_levelsUpTo.slots (k6 l4 l5 σ) σ 0 0 6 [(0, .ref (zzad Z 36)), (1, .int p0), (2, .int p1), (3, .int p2), (4, .int l4), (5, .int l5)] []) (n : Nat) : ∀ (l4 : Int32)  (l5 : Int32)  (l6 : Int32)  (l7 : Int32)  (σ : zzS), zzGO p l e rX12_levelsUpTo s m args below meth c 10 (zzA base) (zzM Z base PL mm) (zzM Z base PL mm) zzRI rX12_levelsUpTo.cells rX12_levelsUpTo.slots (f_X12_levelsUpTo_19 k6 p0 p1 p2 n l4 l5 l6 l7 σ) σ 0 0 19 [(0, .ref (zzad Z 36)), (1, .int p0), (2, .int p1), (3, .int p2), (4, .int l4), (5, .int l5), (6, .int l6), (7, .int l7)] [] := by
  induction n with
  | zero => exact fun _ _ _ _ _ r9 s9 h9 => by cases h9
  | succ n ih => exact w_X12_levelsUpTo_19b C p0 p1 p2 k6 hk6 _ ih
set_option maxHeartbeats 4000000 in
set_option maxRecDepth 100000 in
theorem w_X12_levelsUpTo_6b {l : Launch} {Z : zzG} {base : Nat} {PL : Nat → Option (Nat × Int32)} {mm : zzS} {p : Program} {e : Env} {s : State} {m : MethodId} {args : Array Value} {below : List Frame} {meth : Method} {c : Code} (C : zzCx p m meth c s args cX12_levelsUpTo 10 wsX12_levelsUpTo RX12 (some .int) Z) (p0 : Int32)  (p1 : Int32)  (p2 : Int32)   (k6 : Int32 → Int32 → zzS → Option (Int32 × zzS)) (hk6 : ∀ (l4 : Int32)  (l5 : Int32)  (σ : zzS), zzGO p l e rX12_levelsUpTo s m args below meth c 10 (zzA base) (zzM Z base PL mm) (zzM Z base PL mm) zzRI rX12_levelsUpTo.cells rX12_levelsUpTo.slots (k6 l4 l5 σ) σ 0 0 6 [(0, .ref (zzad Z 36)), (1, .int p0), (2, .int p1), (3, .int p2), (4, .int l4), (5, .int l5)] []) (l4 : Int32)  (l5 : Int32)  (σ : zzS) : zzGO p l e rX12_levelsUpTo s m args below meth c 10 (zzA base) (zzM Z base PL mm) (zzM Z base PL mm) zzRI rX12_levelsUpTo.cells rX12_levelsUpTo.slots (f_X12_levelsUpTo_6b k6 p0 p1 p2 l4 l5 σ) σ 0 0 6 [(0, .ref (zzad Z 36)), (1, .int p0), (2, .int p1), (3, .int p2), (4, .int l4), (5, .int l5)] [] := by
  unfold f_X12_levelsUpTo_6b
  refine zz_iload C dX12_levelsUpTo_6 5 rfl ?_
  refine zz_bipush (v := 10) C dX12_levelsUpTo_8 (by decide) ?_
  refine zz_icmp_ge (tgt := 113) C dX12_levelsUpTo_10 (by decide) (fun h1 => ?_) (fun h1 => ?_)
  · refine zz_iload C dX12_levelsUpTo_113 4 rfl ?_
    exact zz_iret C rfl rfl (fun _ h9 => h9) (Nat.zero_le _) (Nat.zero_le _) dX12_levelsUpTo_115
  · refine zz_iconst (v := 1) C dX12_levelsUpTo_13 (by decide) ?_
    refine zz_istore (loc' := [(6, .int (1 : Int32)), (0, .ref (zzad Z 36)), (1, .int p0), (2, .int p1), (3, .int p2), (4, .int l4), (5, .int l5)]) C dX12_levelsUpTo_14 (by decide) rfl ?_
    refine zz_iconst (v := 0) C dX12_levelsUpTo_16 (by decide) ?_
    refine zz_istore (loc' := [(7, .int (0 : Int32)), (6, .int (1 : Int32)), (0, .ref (zzad Z 36)), (1, .int p0), (2, .int p1), (3, .int p2), (4, .int l4), (5, .int l5)]) C dX12_levelsUpTo_17 (by decide) rfl ?_
    refine zz_sub (loc' := [(0, .ref (zzad Z 36)), (1, .int p0), (2, .int p1), (3, .int p2), (4, .int l4), (5, .int l5), (6, .int (1 : Int32)), (7, .int (0 : Int32))]) [2, 3, 4, 5, 6, 7, 1, 0] rfl ?_
    exact w_X12_levelsUpTo_19 C p0 p1 p2 k6 hk6 200 l4 l5 (1 : Int32) (0 : Int32) σ
set_option maxHeartbeats 4000000 in
set_option maxRecDepth 100000 in
theorem w_X12_levelsUpTo_6 {l : Launch} {Z : zzG} {base : Nat} {PL : Nat → Option (Nat × Int32)} {mm : zzS} {p : Program} {e : Env} {s : State} {m : MethodId} {args : Array Value} {below : List Frame} {meth : Method} {c : Code} (C : zzCx p m meth c s args cX12_levelsUpTo 10 wsX12_levelsUpTo RX12 (some .int) Z) (p0 : Int32)  (p1 : Int32)  (p2 : Int32)   (n : Nat) : ∀ (l4 : Int32)  (l5 : Int32)  (σ : zzS), zzGO p l e rX12_levelsUpTo s m args below meth c 10 (zzA base) (zzM Z base PL mm) (zzM Z base PL mm) zzRI rX12_levelsUpTo.cells rX12_levelsUpTo.slots (f_X12_levelsUpTo_6 p0 p1 p2 n l4 l5 σ) σ 0 0 6 [(0, .ref (zzad Z 36)), (1, .int p0), (2, .int p1), (3, .int p2), (4, .int l4), (5, .int l5)] [] := by
  induction n with
  | zero => exact fun _ _ _ r9 s9 h9 => by cases h9
  | succ n ih => exact w_X12_levelsUpTo_6b C p0 p1 p2 _ ih
set_option maxHeartbeats 4000000 in
set_option maxRecDepth 100000 in
theorem w_X12_levelsUpTo_e {l : Launch} {Z : zzG} {base : Nat} {PL : Nat → Option (Nat × Int32)} {mm : zzS} {p : Program} {e : Env} {s : State} {m : MethodId} {args : Array Value} {below : List Frame} {meth : Method} {c : Code} (C : zzCx p m meth c s args cX12_levelsUpTo 10 wsX12_levelsUpTo RX12 (some .int) Z) (p0 : Int32)  (p1 : Int32)  (p2 : Int32)  (σ : zzS) : zzGO p l e rX12_levelsUpTo s m args below meth c 10 (zzA base) (zzM Z base PL mm) (zzM Z base PL mm) zzRI rX12_levelsUpTo.cells rX12_levelsUpTo.slots (f_X12_levelsUpTo p0 p1 p2 σ) σ 0 0 0 [(0, .ref (zzad Z 36)), (1, .int p0), (2, .int p1), (3, .int p2)] [] := by
  unfold f_X12_levelsUpTo
  refine zz_iconst (v := 0) C dX12_levelsUpTo_0 (by decide) ?_
  refine zz_istore (loc' := [(4, .int (0 : Int32)), (0, .ref (zzad Z 36)), (1, .int p0), (2, .int p1), (3, .int p2)]) C dX12_levelsUpTo_1 (by decide) rfl ?_
  refine zz_iconst (v := 0) C dX12_levelsUpTo_3 (by decide) ?_
  refine zz_istore (loc' := [(5, .int (0 : Int32)), (4, .int (0 : Int32)), (0, .ref (zzad Z 36)), (1, .int p0), (2, .int p1), (3, .int p2)]) C dX12_levelsUpTo_4 (by decide) rfl ?_
  refine zz_sub (loc' := [(0, .ref (zzad Z 36)), (1, .int p0), (2, .int p1), (3, .int p2), (4, .int (0 : Int32)), (5, .int (0 : Int32))]) [2, 3, 4, 5, 1, 0] rfl ?_
  exact w_X12_levelsUpTo_6 C p0 p1 p2 200 (0 : Int32) (0 : Int32) σ
set_option maxHeartbeats 4000000 in
set_option maxRecDepth 100000 in
theorem k_X12_levelsUpTo {l : Launch} {Z : zzG} {base : Nat} {PL : Nat → Option (Nat × Int32)} {mm : zzS} (p0 : Int32)  (p1 : Int32)  (p2 : Int32)  (σ : zzS) : zzCT l yX12_levelsUpTo wsX12_levelsUpTo rX12_levelsUpTo (zzA base) Z (zzM Z base PL mm) (zzM Z base PL mm) zzRI [.ref (zzad Z 36), .int p0, .int p1, .int p2] (f_X12_levelsUpTo p0 p1 p2 σ) σ :=
  zzCT_of (cc := cX12_levelsUpTo) (nL := 10) (ret := (some .int)) (by decide) rfl (Nat.le_of_ble_eq_true rfl) [(0, .ref (zzad Z 36)), (1, .int p0), (2, .int p1), (3, .int p2)] rfl (fun p e s m args below meth c C => w_X12_levelsUpTo_e C p0 p1 p2 σ)
