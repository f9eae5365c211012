abbrev rX12_blushes : Room := { frames := 3, cells := 0, slots := 0, locals := 69 }

set_option maxHeartbeats 4000000 in
set_option maxRecDepth 100000 in
theorem w_X12_blushes_79 {l : Launch} {Z : zzG} {base : Nat} {PL : Nat → Option (Nat × Int32)} {mm : zzS} {p : Program} {e : Env} {s : State} {m : MethodId} {args : Array Value} {below : List Frame} {meth : Method} {c : Code} (C : zzCx p m meth c s args cX12_blushes 8 wsX12_blushes RX12 (some .int) Z) (p0 : Int32)  (p1 : Int32)  (p2 : Int32)  (k57 : Int32 → Int32 → Int32 → zzS → Option (Int32 × zzS)) (hk57 : ∀ (l5 : Int32)  (l6 : Int32)  (l7 : Int32)  (σ : zzS), zzGO p l e rX12_blushes s m args below meth c 8 (zzA base) (zzM Z base PL mm) (zzM Z base PL mm) zzRI rX12_blushes.cells rX12_blushes.slots (k57 l5 l6 l7 σ) σ 0 0 57 [(3, .int p2), (5, .int l5), (6, .int l6), (7, .int l7)] []) (l5 : Int32)  (l7 : Int32)  (s0 : Int32)  (σ : zzS) : zzGO p l e rX12_blushes s m args below meth c 8 (zzA base) (zzM Z base PL mm) (zzM Z base PL mm) zzRI rX12_blushes.cells rX12_blushes.slots (f_X12_blushes_79 k57 p0 p1 p2 l5 l7 s0 σ) σ 0 0 79 [(3, .int p2), (5, .int l5), (7, .int l7)] [.int s0] := by
  unfold f_X12_blushes_79
  refine zz_istore (loc' := [(6, .int s0), (3, .int p2), (5, .int l5), (7, .int l7)]) C dX12_blushes_79 (by decide) rfl ?_
  refine zz_iincX (d := -1) (locf := fun x1 => [(7, .int x1), (6, .int s0), (3, .int p2), (5, .int l5)]) C dX12_blushes_81 (k := 3) rfl (by decide) (by decide) (fun _ => rfl) (fun x1 => ?_)
  refine zz_goto (tgt := 57) C dX12_blushes_84 (by decide) ?_
  refine zz_sub (loc' := [(3, .int p2), (5, .int l5), (6, .int s0), (7, .int x1)]) [2, 3, 1, 0] rfl ?_
  exact hk57 l5 s0 x1 σ
set_option maxHeartbeats 4000000 in
set_option maxRecDepth 100000 in
theorem w_X12_blushes_57b {l : Launch} {Z : zzG} {base : Nat} {PL : Nat → Option (Nat × Int32)} {mm : zzS} {p : Program} {e : Env} {s : State} {m : MethodId} {args : Array Value} {below : List Frame} {meth : Method} {c : Code} (C : zzCx p m meth c s args cX12_blushes 8 wsX12_blushes RX12 (some .int) Z) (p0 : Int32)  (p1 : Int32)  (p2 : Int32)   (k57 : Int32 → Int32 → Int32 → zzS → Option (Int32 × zzS)) (hk57 : ∀ (l5 : Int32)  (l6 : Int32)  (l7 : Int32)  (σ : zzS), zzGO p l e rX12_blushes s m args below meth c 8 (zzA base) (zzM Z base PL mm) (zzM Z base PL mm) zzRI rX12_blushes.cells rX12_blushes.slots (k57 l5 l6 l7 σ) σ 0 0 57 [(3, .int p2), (5, .int l5), (6, .int l6), (7, .int l7)] []) (l5 : Int32)  (l6 : Int32)  (l7 : Int32)  (σ : zzS) : zzGO p l e rX12_blushes s m args below meth c 8 (zzA base) (zzM Z base PL mm) (zzM Z base PL mm) zzRI rX12_blushes.cells rX12_blushes.slots (f_X12_blushes_57b k57 p0 p1 p2 l5 l6 l7 σ) σ 0 0 57 [(3, .int p2), (5, .int l5), (6, .int l6), (7, .int l7)] [] := by
  unfold f_X12_blushes_57b
  refine zz_iload C dX12_blushes_57 3 rfl ?_
  refine zz_if_lt (tgt := 87) C dX12_blushes_59 (by decide) (fun h1 => ?_) (fun h1 => ?_)
  · refine zz_iload_n C dX12_blushes_87 rfl 0 rfl ?_
    refine zz_if_ne (tgt := 99) C dX12_blushes_88 (by decide) (fun h2 => ?_) (fun h2 => ?_)
    · refine zz_iload C dX12_blushes_99 2 rfl ?_
      exact zz_iret C rfl rfl (fun _ h9 => h9) (Nat.zero_le _) (Nat.zero_le _) dX12_blushes_101
    · refine zz_iload C dX12_blushes_91 1 rfl ?_
      refine zz_callS (As := [.int l5]) (rest := []) C rfl (k_X12_onesOf l5 σ) (va_cwS 1 C.1.2.2.2.2 gX12_blushes_X12_onesOf rfl rfl rfl (by decide +kernel) ⟨Nat.le_of_ble_eq_true rfl, Nat.le_of_ble_eq_true rfl⟩) rfl (Nat.le_of_ble_eq_true rfl) ⟨Nat.zero_le _, Nat.zero_le _⟩ dX12_blushes_93 (zz_kI rfl rfl (fun r3 σ4 => ?_))
      refine zz_goto (tgt := 101) C dX12_blushes_96 (by decide) ?_
      exact zz_iret C rfl rfl (fun _ h9 => h9) (Nat.zero_le _) (Nat.zero_le _) dX12_blushes_101
  · refine zz_iload C dX12_blushes_62 1 rfl ?_
    refine zz_iload C dX12_blushes_64 3 rfl ?_
    refine zz_callS (As := [.int l5, .int l7]) (rest := []) C rfl (k_X12_hasBit l5 l7 σ) (va_cwS 2 C.1.2.2.2.2 gX12_blushes_X12_hasBit rfl rfl rfl (by decide +kernel) ⟨Nat.le_of_ble_eq_true rfl, Nat.le_of_ble_eq_true rfl⟩) rfl (Nat.le_of_ble_eq_true rfl) ⟨Nat.zero_le _, Nat.zero_le _⟩ dX12_blushes_66 (zz_kI rfl rfl (fun r5 σ6 => ?_))
    refine zz_if_eq (tgt := 77) C dX12_blushes_69 (by decide) (fun h7 => ?_) (fun h7 => ?_)
    · refine zz_iload C dX12_blushes_77 2 rfl ?_
      refine zz_sub (loc' := [(3, .int p2), (5, .int l5), (7, .int l7)]) [0, 1, 3] rfl ?_
      exact w_X12_blushes_79 C p0 p1 p2 k57 hk57 l5 l7 l6 σ6
    · refine zz_iload C dX12_blushes_72 3 rfl ?_
      refine zz_goto (tgt := 79) C dX12_blushes_74 (by decide) ?_
      refine zz_sub (loc' := [(3, .int p2), (5, .int l5), (7, .int l7)]) [0, 1, 3] rfl ?_
      exact w_X12_blushes_79 C p0 p1 p2 k57 hk57 l5 l7 l7 σ6
set_option maxHeartbeats 4000000 in
set_option maxRecDepth 100000 in
theorem w_X12_blushes_57 {l : Launch} {Z : zzG} {base : Nat} {PL : Nat → Option (Nat × Int32)} {mm : zzS} {p : Program} {e : Env} {s : State} {m : MethodId} {args : Array Value} {below : List Frame} {meth : Method} {c : Code} (C : zzCx p m meth c s args cX12_blushes 8 wsX12_blushes RX12 (some .int) Z) (p0 : Int32)  (p1 : Int32)  (p2 : Int32)   (n : Nat) : ∀ (l5 : Int32)  (l6 : Int32)  (l7 : Int32)  (σ : zzS), zzGO p l e rX12_blushes s m args below meth c 8 (zzA base) (zzM Z base PL mm) (zzM Z base PL mm) zzRI rX12_blushes.cells rX12_blushes.slots (f_X12_blushes_57 p0 p1 p2 n l5 l6 l7 σ) σ 0 0 57 [(3, .int p2), (5, .int l5), (6, .int l6), (7, .int l7)] [] := by
  induction n with
  | zero => exact fun _ _ _ _ r9 s9 h9 => by cases h9
  | succ n ih => exact w_X12_blushes_57b C p0 p1 p2 _ ih
set_option maxHeartbeats 4000000 in
set_option maxRecDepth 100000 in
theorem w_X12_blushes_25 {l : Launch} {Z : zzG} {base : Nat} {PL : Nat → Option (Nat × Int32)} {mm : zzS} {p : Program} {e : Env} {s : State} {m : MethodId} {args : Array Value} {below : List Frame} {meth : Method} {c : Code} (C : zzCx p m meth c s args cX12_blushes 8 wsX12_blushes RX12 (some .int) Z) (p0 : Int32)  (p1 : Int32)  (p2 : Int32)   (s0 : Int32)  (σ : zzS) : zzGO p l e rX12_blushes s m args below meth c 8 (zzA base) (zzM Z base PL mm) (zzM Z base PL mm) zzRI rX12_blushes.cells rX12_blushes.slots (f_X12_blushes_25 p0 p1 p2 s0 σ) σ 0 0 25 [(0, .ref (zzad Z 36)), (1, .int p0), (2, .int p1), (3, .int p2)] [.int s0] := by
  unfold f_X12_blushes_25
  refine zz_istore (loc' := [(4, .int s0), (0, .ref (zzad Z 36)), (1, .int p0), (2, .int p1), (3, .int p2)]) C dX12_blushes_25 (by decide) rfl ?_
  refine zz_iload C dX12_blushes_27 0 rfl ?_
  refine zz_if_ge (tgt := 35) C dX12_blushes_29 (by decide) (fun h1 => ?_) (fun h1 => ?_)
  · refine zz_aload_n C dX12_blushes_35 rfl 1 rfl ?_
    refine zz_iload_n C dX12_blushes_36 rfl 2 rfl ?_
    refine zz_iload_n C dX12_blushes_37 rfl 3 rfl ?_
    refine zz_aload_n C dX12_blushes_38 rfl 1 rfl ?_
    refine zz_get C zzM_obj (fun _ h9 => List.mem_cons_of_mem _ (List.mem_append_right _ (h9))) rfl 11 (by decide) (List.mem_of_getElem? (i := 2) rfl) (Or.inl rfl) rfl dX12_blushes_39 ?_
    refine zz_iload_n C dX12_blushes_42 rfl 3 rfl ?_
    refine zz_gd (fun h2 => ?_)
    refine zz_iald C (zzM_arr (by decide)) h2 dX12_blushes_43 ?_
    refine zz_callV C (Cn := RX12) (b := zzad Z 36) (fun H hH => zz_recv C.2.2.2 (zzM_obj H hH) rfl) (As := [.int p0, .int p1, .int (zza σ 45 (Int32.toNatClampNeg p1))]) (rest := []) rfl (k_X12_levelsUpTo p0 p1 (zza σ 45 (Int32.toNatClampNeg p1)) σ) (cwV 3 C.1.2.2.2.2 gX12_blushes_X12_levelsUpTo rfl rfl rfl (by decide +kernel) ⟨Nat.le_of_ble_eq_true rfl, Nat.le_of_ble_eq_true rfl⟩) rfl (Nat.le_of_ble_eq_true rfl) ⟨Nat.zero_le _, Nat.zero_le _⟩ dX12_blushes_44 (zz_kI rfl rfl (fun r3 σ4 => ?_))
    refine zz_istore (loc' := [(5, .int r3), (4, .int s0), (0, .ref (zzad Z 36)), (1, .int p0), (2, .int p1), (3, .int p2)]) C dX12_blushes_47 (by decide) rfl ?_
    refine zz_bipush (v := -4) C dX12_blushes_49 (by decide) ?_
    refine zz_istore (loc' := [(6, .int (-4 : Int32)), (5, .int r3), (4, .int s0), (0, .ref (zzad Z 36)), (1, .int p0), (2, .int p1), (3, .int p2)]) C dX12_blushes_51 (by decide) rfl ?_
    refine zz_bipush (v := 9) C dX12_blushes_53 (by decide) ?_
    refine zz_istore (loc' := [(7, .int (9 : Int32)), (6, .int (-4 : Int32)), (5, .int r3), (4, .int s0), (0, .ref (zzad Z 36)), (1, .int p0), (2, .int p1), (3, .int p2)]) C dX12_blushes_55 (by decide) rfl ?_
    refine zz_sub (loc' := [(3, .int p2), (5, .int r3), (6, .int (-4 : Int32)), (7, .int (9 : Int32))]) [7, 2, 1, 0] rfl ?_
    exact w_X12_blushes_57 C p0 p1 p2 200 r3 (-4 : Int32) (9 : Int32) σ4
  · refine zz_iload C dX12_blushes_32 0 rfl ?_
    exact zz_iret C rfl rfl (fun _ h9 => h9) (Nat.zero_le _) (Nat.zero_le _) dX12_blushes_34
set_option maxHeartbeats 4000000 in
set_option maxRecDepth 100000 in
theorem w_X12_blushes_e {l : Launch} {Z : zzG} {base : Nat} {PL : Nat → Option (Nat × Int32)} {mm : zzS} {p : Program} {e : Env} {s : State} {m : MethodId} {args : Array Value} {below : List Frame} {meth : Method} {c : Code} (C : zzCx p m meth c s args cX12_blushes 8 wsX12_blushes RX12 (some .int) Z) (p0 : Int32)  (p1 : Int32)  (p2 : Int32)  (σ : zzS) : zzGO p l e rX12_blushes s m args below meth c 8 (zzA base) (zzM Z base PL mm) (zzM Z base PL mm) zzRI rX12_blushes.cells rX12_blushes.slots (f_X12_blushes p0 p1 p2 σ) σ 0 0 0 [(0, .ref (zzad Z 36)), (1, .int p0), (2, .int p1), (3, .int p2)] [] := by
  unfold f_X12_blushes
  refine zz_aload_n C dX12_blushes_0 rfl 0 rfl ?_
  refine zz_iconst (v := 0) C dX12_blushes_1 (by decide) ?_
  refine zz_put (ty := .int) C zzM_obj (fun _ h9 => List.mem_cons_of_mem _ (List.mem_append_right _ (h9))) rfl 13 (by decide) (List.mem_of_getElem? (i := 1) rfl) rfl tyX12_ok nmX12 rfl (by decide +kernel) rfl rfl (Nat.le_of_ble_eq_true rfl) (zzM_uobj (by decide)) (zzA_M (by decide)) dX12_blushes_2 ?_
  refine zz_ltS (fun σ1 => ?_)
  refine zz_iload_n C dX12_blushes_5 rfl 3 rfl ?_
  refine zz_i2l C dX12_blushes_6 ?_
  refine zz_lconst (v := 0) C dX12_blushes_7 (by decide) ?_
  refine zz_lconst (v := 1) C dX12_blushes_8 (by decide) ?_
  refine zz_callS (As := [.long (Int32.toInt64 p2), .long (0 : Int64), .long (1 : Int64)]) (rest := []) C rfl (k_X12_in (Int32.toInt64 p2) (0 : Int64) (1 : Int64) σ1) (va_cwS 3 C.1.2.2.2.2 gX12_blushes_X12_in rfl rfl rfl (by decide +kernel) ⟨Nat.le_of_ble_eq_true rfl, Nat.le_of_ble_eq_true rfl⟩) rfl (Nat.le_of_ble_eq_true rfl) ⟨Nat.zero_le _, Nat.zero_le _⟩ dX12_blushes_9 (zz_kI rfl rfl (fun r2 σ3 => ?_))
  refine zz_if_eq (tgt := 24) C dX12_blushes_12 (by decide) (fun h4 => ?_) (fun h4 => ?_)
  · refine zz_iconst (v := -1) C dX12_blushes_24 (by decide) ?_
    refine zz_sub (loc' := [(0, .ref (zzad Z 36)), (1, .int p0), (2, .int p1), (3, .int p2)]) [0, 1, 2, 3] rfl ?_
    exact w_X12_blushes_25 C p0 p1 p2 (-1 : Int32) σ3
  · refine zz_aload_n C dX12_blushes_15 rfl 0 rfl ?_
    refine zz_iload_n C dX12_blushes_16 rfl 1 rfl ?_
    refine zz_iload_n C dX12_blushes_17 rfl 2 rfl ?_
    refine zz_callV C (Cn := RX12) (b := zzad Z 36) (fun H hH => zz_recv C.2.2.2 (zzM_obj H hH) rfl) (As := [.int p0, .int p1]) (rest := []) rfl (k_X12_wrongBlushes p0 p1 σ3) (cwV 2 C.1.2.2.2.2 gX12_blushes_X12_wrongBlushes rfl rfl rfl (by decide +kernel) ⟨Nat.le_of_ble_eq_true rfl, Nat.le_of_ble_eq_true rfl⟩) rfl (Nat.le_of_ble_eq_true rfl) ⟨Nat.zero_le _, Nat.zero_le _⟩ dX12_blushes_18 (zz_kI rfl rfl (fun r5 σ6 => ?_))
    refine zz_goto (tgt := 25) C dX12_blushes_21 (by decide) ?_
    refine zz_sub (loc' := [(0, .ref (zzad Z 36)), (1, .int p0), (2, .int p1), (3, .int p2)]) [0, 1, 2, 3] rfl ?_
    exact w_X12_blushes_25 C p0 p1 p2 r5 σ6
set_option maxHeartbeats 4000000 in
set_option maxRecDepth 100000 in
theorem k_X12_blushes {l : Launch} {Z : zzG} {base : Nat} {PL : Nat → Option (Nat × Int32)} {mm : zzS} (p0 : Int32)  (p1 : Int32)  (p2 : Int32)  (σ : zzS) : zzCT l yX12_blushes wsX12_blushes rX12_blushes (zzA base) Z (zzM Z base PL mm) (zzM Z base PL mm) zzRI [.ref (zzad Z 36), .int p0, .int p1, .int p2] (f_X12_blushes p0 p1 p2 σ) σ :=
  zzCT_of (cc := cX12_blushes) (nL := 8) (ret := (some .int)) (by decide) rfl (Nat.le_of_ble_eq_true rfl) [(0, .ref (zzad Z 36)), (1, .int p0), (2, .int p1), (3, .int p2)] rfl (fun p e s m args below meth c C => w_X12_blushes_e C p0 p1 p2 σ)
abbrev rX12_forged : Room := { frames := 3, cells := 0, slots := 0, locals := 69 }

set_option maxHeartbeats 4000000 in
set_option maxRecDepth 100000 in
theorem w_X12_forged_21b {l : Launch} {Z : zzG} {base : Nat} {PL : Nat → Option (Nat × Int32)} {mm : zzS} {p : Program} {e : Env} {s : State} {m : MethodId} {args : Array Value} {below : List Frame} {meth : Method} {c : Code} (C : zzCx p m meth c s args cX12_forged 5 wsX12_forged RX12 (some .int) Z) (p0 : Int32)  (p1 : Int32)   (k21 : Int32 → zzS → Option (Int32 × zzS)) (hk21 : ∀ (l4 : Int32)  (σ : zzS), zzGO p l e rX12_forged s m args below meth c 5 (zzA base) (zzM Z base PL mm) (zzM Z base PL mm) zzRI rX12_forged.cells rX12_forged.slots (k21 l4 σ) σ 0 0 21 [(0, .ref (zzad Z 36)), (1, .int p0), (2, .int p1), (4, .int l4)] []) (l4 : Int32)  (σ : zzS) : zzGO p l e rX12_forged s m args below meth c 5 (zzA base) (zzM Z base PL mm) (zzM Z base PL mm) zzRI rX12_forged.cells rX12_forged.slots (f_X12_forged_21b k21 p0 p1 l4 σ) σ 0 0 21 [(0, .ref (zzad Z 36)), (1, .int p0), (2, .int p1), (4, .int l4)] [] := by
  unfold f_X12_forged_21b
  refine zz_iload C dX12_forged_21 3 rfl ?_
  refine zz_aload_n C dX12_forged_23 rfl 0 rfl ?_
  refine zz_get C zzM_obj (fun _ h9 => List.mem_cons_of_mem _ (List.mem_append_right _ (h9))) rfl 11 (by decide) (List.mem_of_getElem? (i := 2) rfl) (Or.inl rfl) rfl dX12_forged_24 ?_
  refine zz_iload_n C dX12_forged_27 rfl 2 rfl ?_
  refine zz_gd (fun h1 => ?_)
  refine zz_iald C (zzM_arr (by decide)) h1 dX12_forged_28 ?_
  refine zz_icmp_ge (tgt := 54) C dX12_forged_29 (by decide) (fun h2 => ?_) (fun h2 => ?_)
  · refine zz_bipush (v := -4) C dX12_forged_54 (by decide) ?_
    exact zz_iret C rfl rfl (fun _ h9 => h9) (Nat.zero_le _) (Nat.zero_le _) dX12_forged_56
  · refine zz_aload_n C dX12_forged_32 rfl 0 rfl ?_
    refine zz_iload_n C dX12_forged_33 rfl 1 rfl ?_
    refine zz_iload_n C dX12_forged_34 rfl 2 rfl ?_
    refine zz_iload C dX12_forged_35 3 rfl ?_
    refine zz_iconst (v := 1) C dX12_forged_37 (by decide) ?_
    refine zz_iadd C dX12_forged_38 ?_
    refine zz_callV C (Cn := RX12) (b := zzad Z 36) (fun H hH => zz_recv C.2.2.2 (zzM_obj H hH) rfl) (As := [.int p0, .int p1, .int (l4 + (1 : Int32))]) (rest := []) rfl (k_X12_levelsUpTo p0 p1 (l4 + (1 : Int32)) σ) (cwV 3 C.1.2.2.2.2 gX12_forged_X12_levelsUpTo rfl rfl rfl (by decide +kernel) ⟨Nat.le_of_ble_eq_true rfl, Nat.le_of_ble_eq_true rfl⟩) rfl (Nat.le_of_ble_eq_true rfl) ⟨Nat.zero_le _, Nat.zero_le _⟩ dX12_forged_39 (zz_kI rfl rfl (fun r3 σ4 => ?_))
    refine zz_if_ne (tgt := 48) C dX12_forged_42 (by decide) (fun h5 => ?_) (fun h5 => ?_)
    · refine zz_iincX (d := 1) (locf := fun x6 => [(4, .int x6), (0, .ref (zzad Z 36)), (1, .int p0), (2, .int p1)]) C dX12_forged_48 (k := 3) rfl (by decide) (by decide) (fun _ => rfl) (fun x6 => ?_)
      refine zz_goto (tgt := 21) C dX12_forged_51 (by decide) ?_
      refine zz_sub (loc' := [(0, .ref (zzad Z 36)), (1, .int p0), (2, .int p1), (4, .int x6)]) [1, 2, 3, 0] rfl ?_
      exact hk21 x6 σ4
    · refine zz_iload C dX12_forged_45 3 rfl ?_
      exact zz_iret C rfl rfl (fun _ h9 => h9) (Nat.zero_le _) (Nat.zero_le _) dX12_forged_47
set_option maxHeartbeats 4000000 in
set_option maxRecDepth 100000 in
theorem w_X12_forged_21 {l : Launch} {Z : zzG} {base : Nat} {PL : Nat → Option (Nat × Int32)} {mm : zzS} {p : Program} {e : Env} {s : State} {m : MethodId} {args : Array Value} {below : List Frame} {meth : Method} {c : Code} (C : zzCx p m meth c s args cX12_forged 5 wsX12_forged RX12 (some .int) Z) (p0 : Int32)  (p1 : Int32)   (n : Nat) : ∀ (l4 : Int32)  (σ : zzS), zzGO p l e rX12_forged s m args below meth c 5 (zzA base) (zzM Z base PL mm) (zzM Z base PL mm) zzRI rX12_forged.cells rX12_forged.slots (f_X12_forged_21 p0 p1 n l4 σ) σ 0 0 21 [(0, .ref (zzad Z 36)), (1, .int p0), (2, .int p1), (4, .int l4)] [] := by
  induction n with
  | zero => exact fun _ _ r9 s9 h9 => by cases h9
  | succ n ih => exact w_X12_forged_21b C p0 p1 _ ih
set_option maxHeartbeats 4000000 in
set_option maxRecDepth 100000 in
theorem w_X12_forged_e {l : Launch} {Z : zzG} {base : Nat} {PL : Nat → Option (Nat × Int32)} {mm : zzS} {p : Program} {e : Env} {s : State} {m : MethodId} {args : Array Value} {below : List Frame} {meth : Method} {c : Code} (C : zzCx p m meth c s args cX12_forged 5 wsX12_forged RX12 (some .int) Z) (p0 : Int32)  (p1 : Int32)  (σ : zzS) : zzGO p l e rX12_forged s m args below meth c 5 (zzA base) (zzM Z base PL mm) (zzM Z base PL mm) zzRI rX12_forged.cells rX12_forged.slots (f_X12_forged p0 p1 σ) σ 0 0 0 [(0, .ref (zzad Z 36)), (1, .int p0), (2, .int p1)] [] := by
  unfold f_X12_forged
  refine zz_aload_n C dX12_forged_0 rfl 0 rfl ?_
  refine zz_iconst (v := 0) C dX12_forged_1 (by decide) ?_
  refine zz_put (ty := .int) C zzM_obj (fun _ h9 => List.mem_cons_of_mem _ (List.mem_append_right _ (h9))) rfl 13 (by decide) (List.mem_of_getElem? (i := 1) rfl) rfl tyX12_ok nmX12 rfl (by decide +kernel) rfl rfl (Nat.le_of_ble_eq_true rfl) (zzM_uobj (by decide)) (zzA_M (by decide)) dX12_forged_2 ?_
  refine zz_ltS (fun σ1 => ?_)
  refine zz_aload_n C dX12_forged_5 rfl 0 rfl ?_
  refine zz_iload_n C dX12_forged_6 rfl 1 rfl ?_
  refine zz_iload_n C dX12_forged_7 rfl 2 rfl ?_
  refine zz_callV C (Cn := RX12) (b := zzad Z 36) (fun H hH => zz_recv C.2.2.2 (zzM_obj H hH) rfl) (As := [.int p0, .int p1]) (rest := []) rfl (k_X12_wrongBlushes p0 p1 σ1) (cwV 2 C.1.2.2.2.2 gX12_forged_X12_wrongBlushes rfl rfl rfl (by decide +kernel) ⟨Nat.le_of_ble_eq_true rfl, Nat.le_of_ble_eq_true rfl⟩) rfl (Nat.le_of_ble_eq_true rfl) ⟨Nat.zero_le _, Nat.zero_le _⟩ dX12_forged_8 (zz_kI rfl rfl (fun r2 σ3 => ?_))
  refine zz_istore_n (loc' := [(3, .int r2), (0, .ref (zzad Z 36)), (1, .int p0), (2, .int p1)]) C dX12_forged_11 rfl (by decide) rfl ?_
  refine zz_iload_n C dX12_forged_12 rfl 0 rfl ?_
  refine zz_if_ge (tgt := 18) C dX12_forged_13 (by decide) (fun h4 => ?_) (fun h4 => ?_)
  · refine zz_iconst (v := 0) C dX12_forged_18 (by decide) ?_
    refine zz_istore (loc' := [(4, .int (0 : Int32)), (3, .int r2), (0, .ref (zzad Z 36)), (1, .int p0), (2, .int p1)]) C dX12_forged_19 (by decide) rfl ?_
    refine zz_sub (loc' := [(0, .ref (zzad Z 36)), (1, .int p0), (2, .int p1), (4, .int (0 : Int32))]) [2, 3, 4, 0] rfl ?_
    exact w_X12_forged_21 C p0 p1 200 (0 : Int32) σ3
  · refine zz_iload_n C dX12_forged_16 rfl 0 rfl ?_
    exact zz_iret C rfl rfl (fun _ h9 => h9) (Nat.zero_le _) (Nat.zero_le _) dX12_forged_17
set_option maxHeartbeats 4000000 in
set_option maxRecDepth 100000 in
theorem k_X12_forged {l : Launch} {Z : zzG} {base : Nat} {PL : Nat → Option (Nat × Int32)} {mm : zzS} (p0 : Int32)  (p1 : Int32)  (σ : zzS) : zzCT l yX12_forged wsX12_forged rX12_forged (zzA base) Z (zzM Z base PL mm) (zzM Z base PL mm) zzRI [.ref (zzad Z 36), .int p0, .int p1] (f_X12_forged p0 p1 σ) σ :=
  zzCT_of (cc := cX12_forged) (nL := 5) (ret := (some .int)) (by decide) rfl (Nat.le_of_ble_eq_true rfl) [(0, .ref (zzad Z 36)), (1, .int p0), (2, .int p1)] rfl (fun p e s m args below meth c C => w_X12_forged_e C p0 p1 σ)
abbrev rX12_leastTurns : Room := { frames := 3, cells := 0, slots := 0, locals := 66 }

set_option maxHeartbeats 4000000 in
set_option maxRecDepth 100000 in
theorem w_X12_leastTurns_2b {l : Launch} {Z : zzG} {base : Nat} {PL : Nat → Option (Nat × Int32)} {mm : zzS} {p : Program} {e : Env} {s : State} {m : MethodId} {args : Array Value} {below : List Frame} {meth : Method} {c : Code} (C : zzCx p m meth c s args cX12_leastTurns 3 wsX12_leastTurns RX12 (some .boolean) Z) (p0 : Int32)   (k2 : Int32 → zzS → Option (Int32 × zzS)) (hk2 : ∀ (l2 : Int32)  (σ : zzS), zzGO p l e rX12_leastTurns s m args below meth c 3 (zzA base) (zzM Z base PL mm) (zzM Z base PL mm) zzRI rX12_leastTurns.cells rX12_leastTurns.slots (k2 l2 σ) σ 0 0 2 [(0, .ref (zzad Z 36)), (1, .int p0), (2, .int l2)] []) (l2 : Int32)  (σ : zzS) : zzGO p l e rX12_leastTurns s m args below meth c 3 (zzA base) (zzM Z base PL mm) (zzM Z base PL mm) zzRI rX12_leastTurns.cells rX12_leastTurns.slots (f_X12_leastTurns_2b k2 p0 l2 σ) σ 0 0 2 [(0, .ref (zzad Z 36)), (1, .int p0), (2, .int l2)] [] := by
  unfold f_X12_leastTurns_2b
  refine zz_iload_n C dX12_leastTurns_2 rfl 2 rfl ?_
  refine zz_aload_n C dX12_leastTurns_3 rfl 0 rfl ?_
  refine zz_get C zzM_obj (fun _ h9 => List.mem_cons_of_mem _ (List.mem_append_right _ (h9))) rfl 0 (by decide) (List.mem_of_getElem? (i := 1) rfl) (Or.inl rfl) rfl dX12_leastTurns_4 ?_
  refine zz_icmp_ge (tgt := 33) C dX12_leastTurns_7 (by decide) (fun h1 => ?_) (fun h1 => ?_)
  · refine zz_iconst (v := 0) C dX12_leastTurns_33 (by decide) ?_
    exact zz_zret C rfl (Or.inl rfl) rfl (fun _ h9 => h9) (Nat.zero_le _) (Nat.zero_le _) dX12_leastTurns_34
  · refine zz_aload_n C dX12_leastTurns_10 rfl 0 rfl ?_
    refine zz_iload_n C dX12_leastTurns_11 rfl 2 rfl ?_
    refine zz_iload_n C dX12_leastTurns_12 rfl 1 rfl ?_
    refine zz_callV C (Cn := RX12) (b := zzad Z 36) (fun H hH => zz_recv C.2.2.2 (zzM_obj H hH) rfl) (As := [.int l2, .int p0]) (rest := []) rfl (k_X12_canTurn l2 p0 σ) (cwV 2 C.1.2.2.2.2 gX12_leastTurns_X12_canTurn rfl rfl rfl (by decide +kernel) ⟨Nat.le_of_ble_eq_true rfl, Nat.le_of_ble_eq_true rfl⟩) rfl (Nat.le_of_ble_eq_true rfl) ⟨Nat.zero_le _, Nat.zero_le _⟩ dX12_leastTurns_13 (zz_kI rfl rfl (fun r2 σ3 => ?_))
    refine zz_if_eq (tgt := 27) C dX12_leastTurns_16 (by decide) (fun h4 => ?_) (fun h4 => ?_)
    · refine zz_iincX (d := 1) (locf := fun x5 => [(2, .int x5), (0, .ref (zzad Z 36)), (1, .int p0)]) C dX12_leastTurns_27 (k := 2) rfl (by decide) (by decide) (fun _ => rfl) (fun x5 => ?_)
      refine zz_goto (tgt := 2) C dX12_leastTurns_30 (by decide) ?_
      refine zz_sub (loc' := [(0, .ref (zzad Z 36)), (1, .int p0), (2, .int x5)]) [1, 2, 0] rfl ?_
      exact hk2 x5 σ3
    · refine zz_aload_n C dX12_leastTurns_19 rfl 0 rfl ?_
      refine zz_iload_n C dX12_leastTurns_20 rfl 2 rfl ?_
      refine zz_iload_n C dX12_leastTurns_21 rfl 1 rfl ?_
      refine zz_callV C (Cn := RX12) (b := zzad Z 36) (fun H hH => zz_recv C.2.2.2 (zzM_obj H hH) rfl) (As := [.int l2, .int p0]) (rest := []) rfl (k_X12_turnCards l2 p0 σ3) (cwV 2 C.1.2.2.2.2 gX12_leastTurns_X12_turnCards rfl rfl rfl (by decide +kernel) ⟨Nat.le_of_ble_eq_true rfl, Nat.le_of_ble_eq_true rfl⟩) rfl (Nat.le_of_ble_eq_true rfl) ⟨Nat.zero_le _, Nat.zero_le _⟩ dX12_leastTurns_22 (zz_kV rfl rfl (fun r6 σ7 => ?_))
      refine zz_iconst (v := 1) C dX12_leastTurns_25 (by decide) ?_
      exact zz_zret C rfl (Or.inr rfl) rfl (fun _ h9 => h9) (Nat.zero_le _) (Nat.zero_le _) dX12_leastTurns_26
set_option maxHeartbeats 4000000 in
set_option maxRecDepth 100000 in
theorem w_X12_leastTurns_2 {l : Launch} {Z : zzG} {base : Nat} {PL : Nat → Option (Nat × Int32)} {mm : zzS} {p : Program} {e : Env} {s : State} {m : MethodId} {args : Array Value} {below : List Frame} {meth : Method} {c : Code} (C : zzCx p m meth c s args cX12_leastTurns 3 wsX12_leastTurns RX12 (some .boolean) Z) (p0 : Int32)   (n : Nat) : ∀ (l2 : Int32)  (σ : zzS), zzGO p l e rX12_leastTurns s m args below meth c 3 (zzA base) (zzM Z base PL mm) (zzM Z base PL mm) zzRI rX12_leastTurns.cells rX12_leastTurns.slots (f_X12_leastTurns_2 p0 n l2 σ) σ 0 0 2 [(0, .ref (zzad Z 36)), (1, .int p0), (2, .int l2)] [] := by
  induction n with
  | zero => exact fun _ _ r9 s9 h9 => by cases h9
  | succ n ih => exact w_X12_leastTurns_2b C p0 _ ih
set_option maxHeartbeats 4000000 in
set_option maxRecDepth 100000 in
theorem w_X12_leastTurns_e {l : Launch} {Z : zzG} {base : Nat} {PL : Nat → Option (Nat × Int32)} {mm : zzS} {p : Program} {e : Env} {s : State} {m : MethodId} {args : Array Value} {below : List Frame} {meth : Method} {c : Code} (C : zzCx p m meth c s args cX12_leastTurns 3 wsX12_leastTurns RX12 (some .boolean) Z) (p0 : Int32)  (σ : zzS) : zzGO p l e rX12_leastTurns s m args below meth c 3 (zzA base) (zzM Z base PL mm) (zzM Z base PL mm) zzRI rX12_leastTurns.cells rX12_leastTurns.slots (f_X12_leastTurns p0 σ) σ 0 0 0 [(0, .ref (zzad Z 36)), (1, .int p0)] [] := by
  unfold f_X12_leastTurns
  refine zz_iconst (v := 0) C dX12_leastTurns_0 (by decide) ?_
  refine zz_istore_n (loc' := [(2, .int (0 : Int32)), (0, .ref (zzad Z 36)), (1, .int p0)]) C dX12_leastTurns_1 rfl (by decide) rfl ?_
  refine zz_sub (loc' := [(0, .ref (zzad Z 36)), (1, .int p0), (2, .int (0 : Int32))]) [1, 2, 0] rfl ?_
  exact w_X12_leastTurns_2 C p0 200 (0 : Int32) σ
set_option maxHeartbeats 4000000 in
set_option maxRecDepth 100000 in
theorem k_X12_leastTurns {l : Launch} {Z : zzG} {base : Nat} {PL : Nat → Option (Nat × Int32)} {mm : zzS} (p0 : Int32)  (σ : zzS) : zzCT l yX12_leastTurns wsX12_leastTurns rX12_leastTurns (zzA base) Z (zzM Z base PL mm) (zzM Z base PL mm) zzRI [.ref (zzad Z 36), .int p0] (f_X12_leastTurns p0 σ) σ :=
  zzCT_of (cc := cX12_leastTurns) (nL := 3) (ret := (some .boolean)) (by decide) rfl (Nat.le_of_ble_eq_true rfl) [(0, .ref (zzad Z 36)), (1, .int p0)] rfl (fun p e s m args below meth c C => w_X12_leastTurns_e C p0 σ)
abbrev rX12_judge : Room := { frames := 4, cells := 0, slots := 0, locals := 88 }

set_option maxHeartbeats 4000000 in
set_option maxRecDepth 100000 in
theorem w_X12_judge_134 {l : Launch} {Z : zzG} {base : Nat} {PL : Nat → Option (Nat × Int32)} {mm : zzS} {p : Program} {e : Env} {s : State} {m : MethodId} {args : Array Value} {below : List Frame} {meth : Method} {c : Code} (C : zzCx p m meth c s args cX12_judge 9 wsX12_judge RX12 (some .int) Z) (p0 : Int32)  (p1 : Int32)  (k43 : Int32 → Int32 → Int32 → zzS → Option (Int32 × zzS)) (hk43 : ∀ (l4 : Int32)  (l5 : Int32)  (l6 : Int32)  (σ : zzS), zzGO p l e rX12_judge s m args below meth c 9 (zzA base) (zzM Z base PL mm) (zzM Z base PL mm) zzRI rX12_judge.cells rX12_judge.slots (k43 l4 l5 l6 σ) σ 0 0 43 [(0, .ref (zzad Z 36)), (1, .int p0), (2, .int p1), (4, .int l4), (5, .int l5), (6, .int l6)] []) (l5 : Int32)  (l6 : Int32)  (s0 : Int32)  (σ : zzS) : zzGO p l e rX12_judge s m args below meth c 9 (zzA base) (zzM Z base PL mm) (zzM Z base PL mm) zzRI rX12_judge.cells rX12_judge.slots (f_X12_judge_134 k43 p0 p1 l5 l6 s0 σ) σ 0 0 134 [(0, .ref (zzad Z 36)), (1, .int p0), (2, .int p1), (5, .int l5), (6, .int l6)] [.int s0] := by
  unfold f_X12_judge_134
  refine zz_istore (loc' := [(4, .int s0), (0, .ref (zzad Z 36)), (1, .int p0), (2, .int p1), (5, .int l5), (6, .int l6)]) C dX12_judge_134 (by decide) rfl ?_
  refine zz_iincX (d := 1) (locf := fun x1 => [(6, .int x1), (4, .int s0), (0, .ref (zzad Z 36)), (1, .int p0), (2, .int p1), (5, .int l5)]) C dX12_judge_136 (k := 5) rfl (by decide) (by decide) (fun _ => rfl) (fun x1 => ?_)
  refine zz_goto (tgt := 43) C dX12_judge_139 (by decide) ?_
  refine zz_sub (loc' := [(0, .ref (zzad Z 36)), (1, .int p0), (2, .int p1), (4, .int s0), (5, .int l5), (6, .int x1)]) [2, 3, 4, 1, 5, 0] rfl ?_
  exact hk43 s0 l5 x1 σ
set_option maxHeartbeats 4000000 in
set_option maxRecDepth 100000 in
theorem w_X12_judge_127 {l : Launch} {Z : zzG} {base : Nat} {PL : Nat → Option (Nat × Int32)} {mm : zzS} {p : Program} {e : Env} {s : State} {m : MethodId} {args : Array Value} {below : List Frame} {meth : Method} {c : Code} (C : zzCx p m meth c s args cX12_judge 9 wsX12_judge RX12 (some .int) Z) (p0 : Int32)  (p1 : Int32)  (k43 : Int32 → Int32 → Int32 → zzS → Option (Int32 × zzS)) (hk43 : ∀ (l4 : Int32)  (l5 : Int32)  (l6 : Int32)  (σ : zzS), zzGO p l e rX12_judge s m args below meth c 9 (zzA base) (zzM Z base PL mm) (zzM Z base PL mm) zzRI rX12_judge.cells rX12_judge.slots (k43 l4 l5 l6 σ) σ 0 0 43 [(0, .ref (zzad Z 36)), (1, .int p0), (2, .int p1), (4, .int l4), (5, .int l5), (6, .int l6)] []) (l5 : Int32)  (l6 : Int32)  (σ : zzS) : zzGO p l e rX12_judge s m args below meth c 9 (zzA base) (zzM Z base PL mm) (zzM Z base PL mm) zzRI rX12_judge.cells rX12_judge.slots (f_X12_judge_127 k43 p0 p1 l5 l6 σ) σ 0 0 127 [(0, .ref (zzad Z 36)), (1, .int p0), (2, .int p1), (5, .int l5), (6, .int l6)] [] := by
  unfold f_X12_judge_127
  refine zz_bipush (v := -4) C dX12_judge_127 (by decide) ?_
  refine zz_goto (tgt := 134) C dX12_judge_129 (by decide) ?_
  refine zz_sub (loc' := [(0, .ref (zzad Z 36)), (1, .int p0), (2, .int p1), (5, .int l5), (6, .int l6)]) [0, 1, 2, 3, 4] rfl ?_
  exact w_X12_judge_134 C p0 p1 k43 hk43 l5 l6 (-4 : Int32) σ
set_option maxHeartbeats 4000000 in
set_option maxRecDepth 100000 in
theorem w_X12_judge_132 {l : Launch} {Z : zzG} {base : Nat} {PL : Nat → Option (Nat × Int32)} {mm : zzS} {p : Program} {e : Env} {s : State} {m : MethodId} {args : Array Value} {below : List Frame} {meth : Method} {c : Code} (C : zzCx p m meth c s args cX12_judge 9 wsX12_judge RX12 (some .int) Z) (p0 : Int32)  (p1 : Int32)  (k43 : Int32 → Int32 → Int32 → zzS → Option (Int32 × zzS)) (hk43 : ∀ (l4 : Int32)  (l5 : Int32)  (l6 : Int32)  (σ : zzS), zzGO p l e rX12_judge s m args below meth c 9 (zzA base) (zzM Z base PL mm) (zzM Z base PL mm) zzRI rX12_judge.cells rX12_judge.slots (k43 l4 l5 l6 σ) σ 0 0 43 [(0, .ref (zzad Z 36)), (1, .int p0), (2, .int p1), (4, .int l4), (5, .int l5), (6, .int l6)] []) (l5 : Int32)  (l6 : Int32)  (σ : zzS) : zzGO p l e rX12_judge s m args below meth c 9 (zzA base) (zzM Z base PL mm) (zzM Z base PL mm) zzRI rX12_judge.cells rX12_judge.slots (f_X12_judge_132 k43 p0 p1 l5 l6 σ) σ 0 0 132 [(0, .ref (zzad Z 36)), (1, .int p0), (2, .int p1), (5, .int l5), (6, .int l6)] [] := by
  unfold f_X12_judge_132
  refine zz_iload C dX12_judge_132 4 rfl ?_
  refine zz_sub (loc' := [(0, .ref (zzad Z 36)), (1, .int p0), (2, .int p1), (5, .int l5), (6, .int l6)]) [0, 1, 2, 3, 4] rfl ?_
  exact w_X12_judge_134 C p0 p1 k43 hk43 l5 l6 l6 σ
set_option maxHeartbeats 4000000 in
set_option maxRecDepth 100000 in
theorem w_X12_judge_82 {l : Launch} {Z : zzG} {base : Nat} {PL : Nat → Option (Nat × Int32)} {mm : zzS} {p : Program} {e : Env} {s : State} {m : MethodId} {args : Array Value} {below : List Frame} {meth : Method} {c : Code} (C : zzCx p m meth c s args cX12_judge 9 wsX12_judge RX12 (some .int) Z) (p0 : Int32)  (p1 : Int32)  (k43 : Int32 → Int32 → Int32 → zzS → Option (Int32 × zzS)) (hk43 : ∀ (l4 : Int32)  (l5 : Int32)  (l6 : Int32)  (σ : zzS), zzGO p l e rX12_judge s m args below meth c 9 (zzA base) (zzM Z base PL mm) (zzM Z base PL mm) zzRI rX12_judge.cells rX12_judge.slots (k43 l4 l5 l6 σ) σ 0 0 43 [(0, .ref (zzad Z 36)), (1, .int p0), (2, .int p1), (4, .int l4), (5, .int l5), (6, .int l6)] []) (l6 : Int32)  (s0 : Int32)  (σ : zzS) : zzGO p l e rX12_judge s m args below meth c 9 (zzA base) (zzM Z base PL mm) (zzM Z base PL mm) zzRI rX12_judge.cells rX12_judge.slots (f_X12_judge_82 k43 p0 p1 l6 s0 σ) σ 0 0 82 [(0, .ref (zzad Z 36)), (1, .int p0), (2, .int p1), (6, .int l6)] [.int s0] := by
  unfold f_X12_judge_82
  refine zz_istore (loc' := [(5, .int s0), (0, .ref (zzad Z 36)), (1, .int p0), (2, .int p1), (6, .int l6)]) C dX12_judge_82 (by decide) rfl ?_
  refine zz_aload_n C dX12_judge_84 rfl 1 rfl ?_
  refine zz_get C zzM_obj (fun _ h9 => List.mem_cons_of_mem _ (List.mem_append_right _ (h9))) rfl 12 (by decide) (List.mem_of_getElem? (i := 3) rfl) (Or.inl rfl) rfl dX12_judge_85 ?_
  refine zz_bipush (v := 100) C dX12_judge_88 (by decide) ?_
  refine zz_iload_n C dX12_judge_90 rfl 3 rfl ?_
  refine zz_imul C dX12_judge_91 ?_
  refine zz_iload C dX12_judge_92 4 rfl ?_
  refine zz_iadd C dX12_judge_94 ?_
  refine zz_gd (fun h1 => ?_)
  refine zz_lald C zzM_rows h1 dX12_judge_95 ?_
  refine zz_lstoreX (locf := fun x2 => [(7, .long x2), (5, .int s0), (0, .ref (zzad Z 36)), (1, .int p0), (2, .int p1), (6, .int l6)]) C dX12_judge_96 (by decide) (fun _ => rfl) (fun x2 => ?_)
  refine zz_lload C dX12_judge_98 0 rfl ?_
  refine zz_aload_n C dX12_judge_100 rfl 2 rfl ?_
  refine zz_iload_n C dX12_judge_101 rfl 4 rfl ?_
  refine zz_callV C (Cn := RX12) (b := zzad Z 36) (fun H hH => zz_recv C.2.2.2 (zzM_obj H hH) rfl) (As := [.int p1]) (rest := [.long x2]) rfl (k_X12_skipped p1 σ) (cwV 1 C.1.2.2.2.2 gX12_judge_X12_skipped rfl rfl rfl (by decide +kernel) ⟨Nat.le_of_ble_eq_true rfl, Nat.le_of_ble_eq_true rfl⟩) rfl (Nat.le_of_ble_eq_true rfl) ⟨Nat.zero_le _, Nat.zero_le _⟩ dX12_judge_102 (zz_kL rfl rfl (fun r3 σ4 => ?_))
  refine zz_lcmp C dX12_judge_105 ?_
  refine zz_if_eq (tgt := 127) C dX12_judge_106 (by decide) (fun h5 => ?_) (fun h5 => ?_)
  · refine zz_sub (loc' := [(0, .ref (zzad Z 36)), (1, .int p0), (2, .int p1), (5, .int s0), (6, .int l6)]) [2, 3, 4, 1, 5] rfl ?_
    exact w_X12_judge_127 C p0 p1 k43 hk43 s0 l6 σ4
  · refine zz_iload C dX12_judge_109 1 rfl ?_
    refine zz_if_eq (tgt := 132) C dX12_judge_111 (by decide) (fun h6 => ?_) (fun h6 => ?_)
    · refine zz_sub (loc' := [(0, .ref (zzad Z 36)), (1, .int p0), (2, .int p1), (5, .int s0), (6, .int l6)]) [2, 3, 4, 1, 5] rfl ?_
      exact w_X12_judge_132 C p0 p1 k43 hk43 s0 l6 σ4
    · refine zz_lload C dX12_judge_114 0 rfl ?_
      refine zz_aload_n C dX12_judge_116 rfl 2 rfl ?_
      refine zz_get C zzM_obj (fun _ h9 => List.mem_cons_of_mem _ (List.mem_append_right _ (h9))) rfl 3 (by decide) (List.mem_of_getElem? (i := 4) rfl) (Or.inl rfl) rfl dX12_judge_117 ?_
      refine zz_iload_n C dX12_judge_120 rfl 3 rfl ?_
      refine zz_gd (fun h7 => ?_)
      refine zz_iald C (zzM_arr (by decide)) h7 dX12_judge_121 ?_
      refine zz_i2l C dX12_judge_122 ?_
      refine zz_lcmp C dX12_judge_123 ?_
      refine zz_if_ne (tgt := 132) C dX12_judge_124 (by decide) (fun h8 => ?_) (fun h8 => ?_)
      · refine zz_sub (loc' := [(0, .ref (zzad Z 36)), (1, .int p0), (2, .int p1), (5, .int s0), (6, .int l6)]) [2, 3, 4, 1, 5] rfl ?_
        exact w_X12_judge_132 C p0 p1 k43 hk43 s0 l6 σ4
      · refine zz_sub (loc' := [(0, .ref (zzad Z 36)), (1, .int p0), (2, .int p1), (5, .int s0), (6, .int l6)]) [2, 3, 4, 1, 5] rfl ?_
        exact w_X12_judge_127 C p0 p1 k43 hk43 s0 l6 σ4
set_option maxHeartbeats 4000000 in
set_option maxRecDepth 100000 in
theorem w_X12_judge_77 {l : Launch} {Z : zzG} {base : Nat} {PL : Nat → Option (Nat × Int32)} {mm : zzS} {p : Program} {e : Env} {s : State} {m : MethodId} {args : Array Value} {below : List Frame} {meth : Method} {c : Code} (C : zzCx p m meth c s args cX12_judge 9 wsX12_judge RX12 (some .int) Z) (p0 : Int32)  (p1 : Int32)  (k43 : Int32 → Int32 → Int32 → zzS → Option (Int32 × zzS)) (hk43 : ∀ (l4 : Int32)  (l5 : Int32)  (l6 : Int32)  (σ : zzS), zzGO p l e rX12_judge s m args below meth c 9 (zzA base) (zzM Z base PL mm) (zzM Z base PL mm) zzRI rX12_judge.cells rX12_judge.slots (k43 l4 l5 l6 σ) σ 0 0 43 [(0, .ref (zzad Z 36)), (1, .int p0), (2, .int p1), (4, .int l4), (5, .int l5), (6, .int l6)] []) (l6 : Int32)  (σ : zzS) : zzGO p l e rX12_judge s m args below meth c 9 (zzA base) (zzM Z base PL mm) (zzM Z base PL mm) zzRI rX12_judge.cells rX12_judge.slots (f_X12_judge_77 k43 p0 p1 l6 σ) σ 0 0 77 [(0, .ref (zzad Z 36)), (1, .int p0), (2, .int p1), (6, .int l6)] [] := by
  unfold f_X12_judge_77
  refine zz_iconst (v := 1) C dX12_judge_77 (by decide) ?_
  refine zz_goto (tgt := 82) C dX12_judge_78 (by decide) ?_
  refine zz_sub (loc' := [(0, .ref (zzad Z 36)), (1, .int p0), (2, .int p1), (6, .int l6)]) [0, 1, 2, 3] rfl ?_
  exact w_X12_judge_82 C p0 p1 k43 hk43 l6 (1 : Int32) σ
set_option maxHeartbeats 4000000 in
set_option maxRecDepth 100000 in
theorem w_X12_judge_81 {l : Launch} {Z : zzG} {base : Nat} {PL : Nat → Option (Nat × Int32)} {mm : zzS} {p : Program} {e : Env} {s : State} {m : MethodId} {args : Array Value} {below : List Frame} {meth : Method} {c : Code} (C : zzCx p m meth c s args cX12_judge 9 wsX12_judge RX12 (some .int) Z) (p0 : Int32)  (p1 : Int32)  (k43 : Int32 → Int32 → Int32 → zzS → Option (Int32 × zzS)) (hk43 : ∀ (l4 : Int32)  (l5 : Int32)  (l6 : Int32)  (σ : zzS), zzGO p l e rX12_judge s m args below meth c 9 (zzA base) (zzM Z base PL mm) (zzM Z base PL mm) zzRI rX12_judge.cells rX12_judge.slots (k43 l4 l5 l6 σ) σ 0 0 43 [(0, .ref (zzad Z 36)), (1, .int p0), (2, .int p1), (4, .int l4), (5, .int l5), (6, .int l6)] []) (l6 : Int32)  (σ : zzS) : zzGO p l e rX12_judge s m args below meth c 9 (zzA base) (zzM Z base PL mm) (zzM Z base PL mm) zzRI rX12_judge.cells rX12_judge.slots (f_X12_judge_81 k43 p0 p1 l6 σ) σ 0 0 81 [(0, .ref (zzad Z 36)), (1, .int p0), (2, .int p1), (6, .int l6)] [] := by
  unfold f_X12_judge_81
  refine zz_iconst (v := 0) C dX12_judge_81 (by decide) ?_
  refine zz_sub (loc' := [(0, .ref (zzad Z 36)), (1, .int p0), (2, .int p1), (6, .int l6)]) [0, 1, 2, 3] rfl ?_
  exact w_X12_judge_82 C p0 p1 k43 hk43 l6 (0 : Int32) σ
set_option maxHeartbeats 4000000 in
set_option maxRecDepth 100000 in
theorem w_X12_judge_142 {l : Launch} {Z : zzG} {base : Nat} {PL : Nat → Option (Nat × Int32)} {mm : zzS} {p : Program} {e : Env} {s : State} {m : MethodId} {args : Array Value} {below : List Frame} {meth : Method} {c : Code} (C : zzCx p m meth c s args cX12_judge 9 wsX12_judge RX12 (some .int) Z) (p0 : Int32)  (p1 : Int32)   (l4 : Int32)  (σ : zzS) : zzGO p l e rX12_judge s m args below meth c 9 (zzA base) (zzM Z base PL mm) (zzM Z base PL mm) zzRI rX12_judge.cells rX12_judge.slots (f_X12_judge_142 p0 p1 l4 σ) σ 0 0 142 [(0, .ref (zzad Z 36)), (4, .int l4)] [] := by
  unfold f_X12_judge_142
  refine zz_aload_n C dX12_judge_142 rfl 0 rfl ?_
  refine zz_callV C (Cn := RX12) (b := zzad Z 36) (fun H hH => zz_recv C.2.2.2 (zzM_obj H hH) rfl) (As := []) (rest := []) rfl (k_X12_close σ) (cwV 0 C.1.2.2.2.2 gX12_judge_X12_close rfl rfl rfl (by decide +kernel) ⟨Nat.le_of_ble_eq_true rfl, Nat.le_of_ble_eq_true rfl⟩) rfl (Nat.le_of_ble_eq_true rfl) ⟨Nat.zero_le _, Nat.zero_le _⟩ dX12_judge_143 (zz_kV rfl rfl (fun r1 σ2 => ?_))
  refine zz_iload C dX12_judge_146 1 rfl ?_
  exact zz_iret C rfl rfl (fun _ h9 => h9) (Nat.zero_le _) (Nat.zero_le _) dX12_judge_148
set_option maxHeartbeats 4000000 in
set_option maxRecDepth 100000 in
theorem w_X12_judge_43b {l : Launch} {Z : zzG} {base : Nat} {PL : Nat → Option (Nat × Int32)} {mm : zzS} {p : Program} {e : Env} {s : State} {m : MethodId} {args : Array Value} {below : List Frame} {meth : Method} {c : Code} (C : zzCx p m meth c s args cX12_judge 9 wsX12_judge RX12 (some .int) Z) (p0 : Int32)  (p1 : Int32)   (k43 : Int32 → Int32 → Int32 → zzS → Option (Int32 × zzS)) (hk43 : ∀ (l4 : Int32)  (l5 : Int32)  (l6 : Int32)  (σ : zzS), zzGO p l e rX12_judge s m args below meth c 9 (zzA base) (zzM Z base PL mm) (zzM Z base PL mm) zzRI rX12_judge.cells rX12_judge.slots (k43 l4 l5 l6 σ) σ 0 0 43 [(0, .ref (zzad Z 36)), (1, .int p0), (2, .int p1), (4, .int l4), (5, .int l5), (6, .int l6)] []) (l4 : Int32)  (l5 : Int32)  (l6 : Int32)  (σ : zzS) : zzGO p l e rX12_judge s m args below meth c 9 (zzA base) (zzM Z base PL mm) (zzM Z base PL mm) zzRI rX12_judge.cells rX12_judge.slots (f_X12_judge_43b k43 p0 p1 l4 l5 l6 σ) σ 0 0 43 [(0, .ref (zzad Z 36)), (1, .int p0), (2, .int p1), (4, .int l4), (5, .int l5), (6, .int l6)] [] := by
  unfold f_X12_judge_43b
  refine zz_iload C dX12_judge_43 5 rfl ?_
  refine zz_aload_n C dX12_judge_45 rfl 0 rfl ?_
  refine zz_get C zzM_obj (fun _ h9 => List.mem_cons_of_mem _ (List.mem_append_right _ (h9))) rfl 11 (by decide) (List.mem_of_getElem? (i := 2) rfl) (Or.inl rfl) rfl dX12_judge_46 ?_
  refine zz_iload_n C dX12_judge_49 rfl 2 rfl ?_
  refine zz_gd (fun h1 => ?_)
  refine zz_iald C (zzM_arr (by decide)) h1 dX12_judge_50 ?_
  refine zz_icmp_ge (tgt := 142) C dX12_judge_51 (by decide) (fun h2 => ?_) (fun h2 => ?_)
  · refine zz_sub (loc' := [(0, .ref (zzad Z 36)), (4, .int l4)]) [0, 3] rfl ?_
    exact w_X12_judge_142 C p0 p1 l4 σ
  · refine zz_iload C dX12_judge_54 3 rfl ?_
    refine zz_if_ge (tgt := 142) C dX12_judge_56 (by decide) (fun h3 => ?_) (fun h3 => ?_)
    · refine zz_sub (loc' := [(0, .ref (zzad Z 36)), (4, .int l4)]) [0, 3] rfl ?_
      exact w_X12_judge_142 C p0 p1 l4 σ
    · refine zz_iload C dX12_judge_59 4 rfl ?_
      refine zz_if_eq (tgt := 81) C dX12_judge_61 (by decide) (fun h4 => ?_) (fun h4 => ?_)
      · refine zz_sub (loc' := [(0, .ref (zzad Z 36)), (1, .int p0), (2, .int p1), (6, .int l6)]) [0, 1, 2, 5] rfl ?_
        exact w_X12_judge_81 C p0 p1 k43 hk43 l6 σ
      · refine zz_iload C dX12_judge_64 5 rfl ?_
        refine zz_if_eq (tgt := 77) C dX12_judge_66 (by decide) (fun h5 => ?_) (fun h5 => ?_)
        · refine zz_sub (loc' := [(0, .ref (zzad Z 36)), (1, .int p0), (2, .int p1), (6, .int l6)]) [0, 1, 2, 5] rfl ?_
          exact w_X12_judge_77 C p0 p1 k43 hk43 l6 σ
        · refine zz_aload_n C dX12_judge_69 rfl 0 rfl ?_
          refine zz_iload_n C dX12_judge_70 rfl 1 rfl ?_
          refine zz_callV C (Cn := RX12) (b := zzad Z 36) (fun H hH => zz_recv C.2.2.2 (zzM_obj H hH) rfl) (As := [.int p0]) (rest := []) rfl (k_X12_leastTurns p0 σ) (cwV 1 C.1.2.2.2.2 gX12_judge_X12_leastTurns rfl rfl rfl (by decide +kernel) ⟨Nat.le_of_ble_eq_true rfl, Nat.le_of_ble_eq_true rfl⟩) rfl (Nat.le_of_ble_eq_true rfl) ⟨Nat.zero_le _, Nat.zero_le _⟩ dX12_judge_71 (zz_kI rfl rfl (fun r6 σ7 => ?_))
          refine zz_if_eq (tgt := 81) C dX12_judge_74 (by decide) (fun h8 => ?_) (fun h8 => ?_)
          · refine zz_sub (loc' := [(0, .ref (zzad Z 36)), (1, .int p0), (2, .int p1), (6, .int l6)]) [0, 1, 2, 5] rfl ?_
            exact w_X12_judge_81 C p0 p1 k43 hk43 l6 σ7
          · refine zz_sub (loc' := [(0, .ref (zzad Z 36)), (1, .int p0), (2, .int p1), (6, .int l6)]) [0, 1, 2, 5] rfl ?_
            exact w_X12_judge_77 C p0 p1 k43 hk43 l6 σ7
set_option maxHeartbeats 4000000 in
set_option maxRecDepth 100000 in
theorem w_X12_judge_43 {l : Launch} {Z : zzG} {base : Nat} {PL : Nat → Option (Nat × Int32)} {mm : zzS} {p : Program} {e : Env} {s : State} {m : MethodId} {args : Array Value} {below : List Frame} {meth : Method} {c : Code} (C : zzCx p m meth c s args cX12_judge 9 wsX12_judge RX12 (some .int) Z) (p0 : Int32)  (p1 : Int32)   (n : Nat) : ∀ (l4 : Int32)  (l5 : Int32)  (l6 : Int32)  (σ : zzS), zzGO p l e rX12_judge s m args below meth c 9 (zzA base) (zzM Z base PL mm) (zzM Z base PL mm) zzRI rX12_judge.cells rX12_judge.slots (f_X12_judge_43 p0 p1 n l4 l5 l6 σ) σ 0 0 43 [(0, .ref (zzad Z 36)), (1, .int p0), (2, .int p1), (4, .int l4), (5, .int l5), (6, .int l6)] [] := by
  induction n with
  | zero => exact fun _ _ _ _ r9 s9 h9 => by cases h9
  | succ n ih => exact w_X12_judge_43b C p0 p1 _ ih
set_option maxHeartbeats 4000000 in
set_option maxRecDepth 100000 in
theorem w_X12_judge_22 {l : Launch} {Z : zzG} {base : Nat} {PL : Nat → Option (Nat × Int32)} {mm : zzS} {p : Program} {e : Env} {s : State} {m : MethodId} {args : Array Value} {below : List Frame} {meth : Method} {c : Code} (C : zzCx p m meth c s args cX12_judge 9 wsX12_judge RX12 (some .int) Z) (p0 : Int32)  (p1 : Int32)   (s0 : Int32)  (σ : zzS) : zzGO p l e rX12_judge s m args below meth c 9 (zzA base) (zzM Z base PL mm) (zzM Z base PL mm) zzRI rX12_judge.cells rX12_judge.slots (f_X12_judge_22 p0 p1 s0 σ) σ 0 0 22 [(0, .ref (zzad Z 36)), (1, .int p0), (2, .int p1)] [.int s0] := by
  unfold f_X12_judge_22
  refine zz_istore_n (loc' := [(3, .int s0), (0, .ref (zzad Z 36)), (1, .int p0), (2, .int p1)]) C dX12_judge_22 rfl (by decide) rfl ?_
  refine zz_iload_n C dX12_judge_23 rfl 0 rfl ?_
  refine zz_if_ge (tgt := 29) C dX12_judge_24 (by decide) (fun h1 => ?_) (fun h1 => ?_)
  · refine zz_bipush (v := -4) C dX12_judge_29 (by decide) ?_
    refine zz_istore (loc' := [(4, .int (-4 : Int32)), (3, .int s0), (0, .ref (zzad Z 36)), (1, .int p0), (2, .int p1)]) C dX12_judge_31 (by decide) rfl ?_
    refine zz_iconst (v := 1) C dX12_judge_33 (by decide) ?_
    refine zz_istore (loc' := [(5, .int (1 : Int32)), (4, .int (-4 : Int32)), (3, .int s0), (0, .ref (zzad Z 36)), (1, .int p0), (2, .int p1)]) C dX12_judge_34 (by decide) rfl ?_
    refine zz_aload_n C dX12_judge_36 rfl 3 rfl ?_
    refine zz_callV C (Cn := RX12) (b := zzad Z 36) (fun H hH => zz_recv C.2.2.2 (zzM_obj H hH) rfl) (As := []) (rest := []) rfl (k_X12_open σ) (cwV 0 C.1.2.2.2.2 gX12_judge_X12_open rfl rfl rfl (by decide +kernel) ⟨Nat.le_of_ble_eq_true rfl, Nat.le_of_ble_eq_true rfl⟩) rfl (Nat.le_of_ble_eq_true rfl) ⟨Nat.zero_le _, Nat.zero_le _⟩ dX12_judge_37 (zz_kV rfl rfl (fun r2 σ3 => ?_))
    refine zz_iconst (v := 0) C dX12_judge_40 (by decide) ?_
    refine zz_istore (loc' := [(6, .int (0 : Int32)), (5, .int (1 : Int32)), (4, .int (-4 : Int32)), (3, .int s0), (0, .ref (zzad Z 36)), (1, .int p0), (2, .int p1)]) C dX12_judge_41 (by decide) rfl ?_
    refine zz_sub (loc' := [(0, .ref (zzad Z 36)), (1, .int p0), (2, .int p1), (4, .int (-4 : Int32)), (5, .int (1 : Int32)), (6, .int (0 : Int32))]) [4, 5, 6, 2, 1, 0] rfl ?_
    exact w_X12_judge_43 C p0 p1 200 (-4 : Int32) (1 : Int32) (0 : Int32) σ3
  · refine zz_iload_n C dX12_judge_27 rfl 0 rfl ?_
    exact zz_iret C rfl rfl (fun _ h9 => h9) (Nat.zero_le _) (Nat.zero_le _) dX12_judge_28
set_option maxHeartbeats 4000000 in
set_option maxRecDepth 100000 in
theorem w_X12_judge_e {l : Launch} {Z : zzG} {base : Nat} {PL : Nat → Option (Nat × Int32)} {mm : zzS} {p : Program} {e : Env} {s : State} {m : MethodId} {args : Array Value} {below : List Frame} {meth : Method} {c : Code} (C : zzCx p m meth c s args cX12_judge 9 wsX12_judge RX12 (some .int) Z) (p0 : Int32)  (p1 : Int32)  (σ : zzS) : zzGO p l e rX12_judge s m args below meth c 9 (zzA base) (zzM Z base PL mm) (zzM Z base PL mm) zzRI rX12_judge.cells rX12_judge.slots (f_X12_judge p0 p1 σ) σ 0 0 0 [(0, .ref (zzad Z 36)), (1, .int p0), (2, .int p1)] [] := by
  unfold f_X12_judge
  refine zz_aload_n C dX12_judge_0 rfl 0 rfl ?_
  refine zz_iconst (v := 0) C dX12_judge_1 (by decide) ?_
  refine zz_put (ty := .int) C zzM_obj (fun _ h9 => List.mem_cons_of_mem _ (List.mem_append_right _ (h9))) rfl 13 (by decide) (List.mem_of_getElem? (i := 1) rfl) rfl tyX12_ok nmX12 rfl (by decide +kernel) rfl rfl (Nat.le_of_ble_eq_true rfl) (zzM_uobj (by decide)) (zzA_M (by decide)) dX12_judge_2 ?_
  refine zz_ltS (fun σ1 => ?_)
  refine zz_aload_n C dX12_judge_5 rfl 0 rfl ?_
  refine zz_iload_n C dX12_judge_6 rfl 1 rfl ?_
  refine zz_callV C (Cn := RX12) (b := zzad Z 36) (fun H hH => zz_recv C.2.2.2 (zzM_obj H hH) rfl) (As := [.int p0]) (rest := []) rfl (k_X12_isOne p0 σ1) (cwV 1 C.1.2.2.2.2 gX12_judge_X12_isOne rfl rfl rfl (by decide +kernel) ⟨Nat.le_of_ble_eq_true rfl, Nat.le_of_ble_eq_true rfl⟩) rfl (Nat.le_of_ble_eq_true rfl) ⟨Nat.zero_le _, Nat.zero_le _⟩ dX12_judge_7 (zz_kI rfl rfl (fun r2 σ3 => ?_))
  refine zz_if_eq (tgt := 21) C dX12_judge_10 (by decide) (fun h4 => ?_) (fun h4 => ?_)
  · refine zz_iconst (v := -1) C dX12_judge_21 (by decide) ?_
    refine zz_sub (loc' := [(0, .ref (zzad Z 36)), (1, .int p0), (2, .int p1)]) [0, 1, 2] rfl ?_
    exact w_X12_judge_22 C p0 p1 (-1 : Int32) σ3
  · refine zz_aload_n C dX12_judge_13 rfl 0 rfl ?_
    refine zz_iload_n C dX12_judge_14 rfl 2 rfl ?_
    refine zz_callV C (Cn := RX12) (b := zzad Z 36) (fun H hH => zz_recv C.2.2.2 (zzM_obj H hH) rfl) (As := [.int p1]) (rest := []) rfl (k_X12_wrongRow p1 σ3) (cwV 1 C.1.2.2.2.2 gX12_judge_X12_wrongRow rfl rfl rfl (by decide +kernel) ⟨Nat.le_of_ble_eq_true rfl, Nat.le_of_ble_eq_true rfl⟩) rfl (Nat.le_of_ble_eq_true rfl) ⟨Nat.zero_le _, Nat.zero_le _⟩ dX12_judge_15 (zz_kI rfl rfl (fun r5 σ6 => ?_))
    refine zz_goto (tgt := 22) C dX12_judge_18 (by decide) ?_
    refine zz_sub (loc' := [(0, .ref (zzad Z 36)), (1, .int p0), (2, .int p1)]) [0, 1, 2] rfl ?_
    exact w_X12_judge_22 C p0 p1 r5 σ6
set_option maxHeartbeats 4000000 in
set_option maxRecDepth 100000 in
theorem k_X12_judge {l : Launch} {Z : zzG} {base : Nat} {PL : Nat → Option (Nat × Int32)} {mm : zzS} (p0 : Int32)  (p1 : Int32)  (σ : zzS) : zzCT l yX12_judge wsX12_judge rX12_judge (zzA base) Z (zzM Z base PL mm) (zzM Z base PL mm) zzRI [.ref (zzad Z 36), .int p0, .int p1] (f_X12_judge p0 p1 σ) σ :=
  zzCT_of (cc := cX12_judge) (nL := 9) (ret := (some .int)) (by decide) rfl (Nat.le_of_ble_eq_true rfl) [(0, .ref (zzad Z 36)), (1, .int p0), (2, .int p1)] rfl (fun p e s m args below meth c C => w_X12_judge_e C p0 p1 σ)
abbrev rX12_drawBelow : Room := { frames := 0, cells := 0, slots := 0, locals := 0 }

set_option maxHeartbeats 4000000 in
set_option maxRecDepth 100000 in
theorem w_X12_drawBelow_e {l : Launch} {Z : zzG} {base : Nat} {PL : Nat → Option (Nat × Int32)} {mm : zzS} {p : Program} {e : Env} {s : State} {m : MethodId} {args : Array Value} {below : List Frame} {meth : Method} {c : Code} (C : zzCx p m meth c s args cX12_drawBelow 2 wsX12_drawBelow RX12 (some .int) Z) (p0 : Int32)  (σ : zzS) : zzGO p l e rX12_drawBelow s m args below meth c 2 (zzA base) (zzM Z base PL mm) (zzM Z base PL mm) zzRI rX12_drawBelow.cells rX12_drawBelow.slots (f_X12_drawBelow p0 σ) σ 0 0 0 [(0, .ref (zzad Z 36)), (1, .int p0)] [] := by
  unfold f_X12_drawBelow
  refine zz_aload_n C dX12_drawBelow_0 rfl 0 rfl ?_
  refine zz_aload_n C dX12_drawBelow_1 rfl 0 rfl ?_
  refine zz_get C zzM_obj (fun _ h9 => List.mem_cons_of_mem _ (List.mem_append_right _ (h9))) rfl 29 (by decide) (List.mem_of_getElem? (i := 1) rfl) (Or.inl rfl) rfl dX12_drawBelow_2 ?_
  refine zz_ldcw (v := 1103515245) C (C.1.2.2.2.2 _ (List.mem_of_getElem? (i := 2) rfl)) dX12_drawBelow_5 ?_
  refine zz_imul C dX12_drawBelow_8 ?_
  refine zz_sipush (v := 12345) C dX12_drawBelow_9 (by decide) ?_
  refine zz_iadd C dX12_drawBelow_12 ?_
  refine zz_put (ty := .int) C zzM_obj (fun _ h9 => List.mem_cons_of_mem _ (List.mem_append_right _ (h9))) rfl 29 (by decide) (List.mem_of_getElem? (i := 1) rfl) rfl tyX12_ok nmX12 rfl (by decide +kernel) rfl rfl (Nat.le_of_ble_eq_true rfl) (zzM_uobj (by decide)) (zzA_M (by decide)) dX12_drawBelow_13 ?_
  refine zz_ltS (fun σ1 => ?_)
  refine zz_aload_n C dX12_drawBelow_16 rfl 0 rfl ?_
  refine zz_get C zzM_obj (fun _ h9 => List.mem_cons_of_mem _ (List.mem_append_right _ (h9))) rfl 29 (by decide) (List.mem_of_getElem? (i := 1) rfl) (Or.inl rfl) rfl dX12_drawBelow_17 ?_
  refine zz_ldcw (v := 2147483647) C (C.1.2.2.2.2 _ (List.mem_of_getElem? (i := 3) rfl)) dX12_drawBelow_20 ?_
  refine zz_iand C dX12_drawBelow_23 ?_
  refine zz_ldcw (v := 65536) C (C.1.2.2.2.2 _ (List.mem_of_getElem? (i := 4) rfl)) dX12_drawBelow_24 ?_
  refine zz_idiv C dX12_drawBelow_27 (by decide) ?_
  refine zz_iload_n C dX12_drawBelow_28 rfl 1 rfl ?_
  refine zz_gd (fun h2 => ?_)
  refine zz_irem C dX12_drawBelow_29 h2 ?_
  exact zz_iret C rfl rfl (fun _ h9 => h9) (Nat.zero_le _) (Nat.zero_le _) dX12_drawBelow_30
set_option maxHeartbeats 4000000 in
set_option maxRecDepth 100000 in
theorem k_X12_drawBelow {l : Launch} {Z : zzG} {base : Nat} {PL : Nat → Option (Nat × Int32)} {mm : zzS} (p0 : Int32)  (σ : zzS) : zzCT l yX12_drawBelow wsX12_drawBelow rX12_drawBelow (zzA base) Z (zzM Z base PL mm) (zzM Z base PL mm) zzRI [.ref (zzad Z 36), .int p0] (f_X12_drawBelow p0 σ) σ :=
  zzCT_of (cc := cX12_drawBelow) (nL := 2) (ret := (some .int)) (by decide) rfl (Nat.le_of_ble_eq_true rfl) [(0, .ref (zzad Z 36)), (1, .int p0)] rfl (fun p e s m args below meth c C => w_X12_drawBelow_e C p0 σ)
abbrev rX12_allTurned : Room := { frames := 0, cells := 0, slots := 0, locals := 0 }

set_option maxHeartbeats 4000000 in
set_option maxRecDepth 100000 in
theorem w_X12_allTurned_4b {l : Launch} {Z : zzG} {base : Nat} {PL : Nat → Option (Nat × Int32)} {mm : zzS} {p : Program} {e : Env} {s : State} {m : MethodId} {args : Array Value} {below : List Frame} {meth : Method} {c : Code} (C : zzCx p m meth c s args cX12_allTurned 3 wsX12_allTurned RX12 (some .int) Z)   (k4 : Int32 → Int32 → zzS → Option (Int32 × zzS)) (hk4 : ∀ (l1 : Int32)  (l2 : Int32)  (σ : zzS), zzGO p l e rX12_allTurned s m args below meth c 3 (zzA base) (zzM Z base PL mm) (zzM Z base PL mm) zzRI rX12_allTurned.cells rX12_allTurned.slots (k4 l1 l2 σ) σ 0 0 4 [(0, .ref (zzad Z 36)), (1, .int l1), (2, .int l2)] []) (l1 : Int32)  (l2 : Int32)  (σ : zzS) : zzGO p l e rX12_allTurned s m args below meth c 3 (zzA base) (zzM Z base PL mm) (zzM Z base PL mm) zzRI rX12_allTurned.cells rX12_allTurned.slots (f_X12_allTurned_4b k4 l1 l2 σ) σ 0 0 4 [(0, .ref (zzad Z 36)), (1, .int l1), (2, .int l2)] [] := by
  unfold f_X12_allTurned_4b
  refine zz_iload_n C dX12_allTurned_4 rfl 2 rfl ?_
  refine zz_aload_n C dX12_allTurned_5 rfl 0 rfl ?_
  refine zz_get C zzM_obj (fun _ h9 => List.mem_cons_of_mem _ (List.mem_append_right _ (h9))) rfl 0 (by decide) (List.mem_of_getElem? (i := 1) rfl) (Or.inl rfl) rfl dX12_allTurned_6 ?_
  refine zz_icmp_ge (tgt := 27) C dX12_allTurned_9 (by decide) (fun h1 => ?_) (fun h1 => ?_)
  · refine zz_iload_n C dX12_allTurned_27 rfl 1 rfl ?_
    exact zz_iret C rfl rfl (fun _ h9 => h9) (Nat.zero_le _) (Nat.zero_le _) dX12_allTurned_28
  · refine zz_iload_n C dX12_allTurned_12 rfl 1 rfl ?_
    refine zz_aload_n C dX12_allTurned_13 rfl 0 rfl ?_
    refine zz_get C zzM_obj (fun _ h9 => List.mem_cons_of_mem _ (List.mem_append_right _ (h9))) rfl 3 (by decide) (List.mem_of_getElem? (i := 2) rfl) (Or.inl rfl) rfl dX12_allTurned_14 ?_
    refine zz_iload_n C dX12_allTurned_17 rfl 2 rfl ?_
    refine zz_gd (fun h2 => ?_)
    refine zz_iald C (zzM_arr (by decide)) h2 dX12_allTurned_18 ?_
    refine zz_iadd C dX12_allTurned_19 ?_
    refine zz_istoreX_n (locf := fun x3 => [(1, .int x3), (0, .ref (zzad Z 36)), (2, .int l2)]) C dX12_allTurned_20 rfl (by decide) (fun _ => rfl) (fun x3 => ?_)
    refine zz_iincX (d := 1) (locf := fun x4 => [(2, .int x4), (1, .int x3), (0, .ref (zzad Z 36))]) C dX12_allTurned_21 (k := 2) rfl (by decide) (by decide) (fun _ => rfl) (fun x4 => ?_)
    refine zz_goto (tgt := 4) C dX12_allTurned_24 (by decide) ?_
    refine zz_sub (loc' := [(0, .ref (zzad Z 36)), (1, .int x3), (2, .int x4)]) [2, 1, 0] rfl ?_
    exact hk4 x3 x4 σ
set_option maxHeartbeats 4000000 in
set_option maxRecDepth 100000 in
theorem w_X12_allTurned_4 {l : Launch} {Z : zzG} {base : Nat} {PL : Nat → Option (Nat × Int32)} {mm : zzS} {p : Program} {e : Env} {s : State} {m : MethodId} {args : Array Value} {below : List Frame} {meth : Method} {c : Code} (C : zzCx p m meth c s args cX12_allTurned 3 wsX12_allTurned RX12 (some .int) Z)   (n : Nat) : ∀ (l1 : Int32)  (l2 : Int32)  (σ : zzS), zzGO p l e rX12_allTurned s m args below meth c 3 (zzA base) (zzM Z base PL mm) (zzM Z base PL mm) zzRI rX12_allTurned.cells rX12_allTurned.slots (f_X12_allTurned_4 n l1 l2 σ) σ 0 0 4 [(0, .ref (zzad Z 36)), (1, .int l1), (2, .int l2)] [] := by
  induction n with
  | zero => exact fun _ _ _ r9 s9 h9 => by cases h9
  | succ n ih => exact w_X12_allTurned_4b C _ ih
set_option maxHeartbeats 4000000 in
set_option maxRecDepth 100000 in
theorem w_X12_allTurned_e {l : Launch} {Z : zzG} {base : Nat} {PL : Nat → Option (Nat × Int32)} {mm : zzS} {p : Program} {e : Env} {s : State} {m : MethodId} {args : Array Value} {below : List Frame} {meth : Method} {c : Code} (C : zzCx p m meth c s args cX12_allTurned 3 wsX12_allTurned RX12 (some .int) Z)  (σ : zzS) : zzGO p l e rX12_allTurned s m args below meth c 3 (zzA base) (zzM Z base PL mm) (zzM Z base PL mm) zzRI rX12_allTurned.cells rX12_allTurned.slots (f_X12_allTurned σ) σ 0 0 0 [(0, .ref (zzad Z 36))] [] := by
  unfold f_X12_allTurned
  refine zz_iconst (v := 0) C dX12_allTurned_0 (by decide) ?_
  refine zz_istore_n (loc' := [(1, .int (0 : Int32)), (0, .ref (zzad Z 36))]) C dX12_allTurned_1 rfl (by decide) rfl ?_
  refine zz_iconst (v := 0) C dX12_allTurned_2 (by decide) ?_
  refine zz_istore_n (loc' := [(2, .int (0 : Int32)), (1, .int (0 : Int32)), (0, .ref (zzad Z 36))]) C dX12_allTurned_3 rfl (by decide) rfl ?_
  refine zz_sub (loc' := [(0, .ref (zzad Z 36)), (1, .int (0 : Int32)), (2, .int (0 : Int32))]) [2, 1, 0] rfl ?_
  exact w_X12_allTurned_4 C 200 (0 : Int32) (0 : Int32) σ
set_option maxHeartbeats 4000000 in
set_option maxRecDepth 100000 in
theorem k_X12_allTurned {l : Launch} {Z : zzG} {base : Nat} {PL : Nat → Option (Nat × Int32)} {mm : zzS}  (σ : zzS) : zzCT l yX12_allTurned wsX12_allTurned rX12_allTurned (zzA base) Z (zzM Z base PL mm) (zzM Z base PL mm) zzRI [.ref (zzad Z 36)] (f_X12_allTurned σ) σ :=
  zzCT_of (cc := cX12_allTurned) (nL := 3) (ret := (some .int)) (by decide) rfl (Nat.le_of_ble_eq_true rfl) [(0, .ref (zzad Z 36))] rfl (fun p e s m args below meth c C => w_X12_allTurned_e C σ)
abbrev rX12_months : Room := { frames := 3, cells := 0, slots := 0, locals := 66 }

set_option maxHeartbeats 4000000 in
set_option maxRecDepth 100000 in
theorem w_X12_months_146 {l : Launch} {Z : zzG} {base : Nat} {PL : Nat → Option (Nat × Int32)} {mm : zzS} {p : Program} {e : Env} {s : State} {m : MethodId} {args : Array Value} {below : List Frame} {meth : Method} {c : Code} (C : zzCx p m meth c s args cX12_months 11 wsX12_months RX12 (some .int) Z) (p0 : Int32)  (p1 : Int32)  (p2 : Int32)  (k57 : Int32 → Int32 → Int32 → zzS → Option (Int32 × zzS)) (hk57 : ∀ (l4 : Int32)  (l5 : Int32)  (l6 : Int32)  (σ : zzS), zzGO p l e rX12_months s m args below meth c 11 (zzA base) (zzM Z base PL mm) (zzM Z base PL mm) zzRI rX12_months.cells rX12_months.slots (k57 l4 l5 l6 σ) σ 0 0 57 [(0, .ref (zzad Z 36)), (1, .int p0), (3, .int p2), (4, .int l4), (5, .int l5), (6, .int l6)] []) (k66 : Int32 → Int32 → Int32 → Int32 → zzS → Option (Int32 × zzS)) (hk66 : ∀ (l4 : Int32)  (l5 : Int32)  (l6 : Int32)  (l7 : Int32)  (σ : zzS), zzGO p l e rX12_months s m args below meth c 11 (zzA base) (zzM Z base PL mm) (zzM Z base PL mm) zzRI rX12_months.cells rX12_months.slots (k66 l4 l5 l6 l7 σ) σ 0 0 66 [(0, .ref (zzad Z 36)), (1, .int p0), (3, .int p2), (4, .int l4), (5, .int l5), (6, .int l6), (7, .int l7)] []) (l4 : Int32)  (l6 : Int32)  (l7 : Int32)  (s0 : Int32)  (s1 : Int32)  (σ : zzS) : zzGO p l e rX12_months s m args below meth c 11 (zzA base) (zzM Z base PL mm) (zzM Z base PL mm) zzRI rX12_months.cells rX12_months.slots (f_X12_months_146 k57 k66 p0 p1 p2 l4 l6 l7 s0 s1 σ) σ 0 0 146 [(0, .ref (zzad Z 36)), (1, .int p0), (3, .int p2), (4, .int l4), (6, .int l6), (7, .int l7)] [.int s0, .int s1] := by
  unfold f_X12_months_146
  refine zz_iadd C dX12_months_146 ?_
  refine zz_istoreX (locf := fun x1 => [(5, .int x1), (0, .ref (zzad Z 36)), (1, .int p0), (3, .int p2), (4, .int l4), (6, .int l6), (7, .int l7)]) C dX12_months_147 (by decide) (fun _ => rfl) (fun x1 => ?_)
  refine zz_iincX (d := 1) (locf := fun x2 => [(7, .int x2), (5, .int x1), (0, .ref (zzad Z 36)), (1, .int p0), (3, .int p2), (4, .int l4), (6, .int l6)]) C dX12_months_149 (k := 6) rfl (by decide) (by decide) (fun _ => rfl) (fun x2 => ?_)
  refine zz_goto (tgt := 66) C dX12_months_152 (by decide) ?_
  refine zz_sub (loc' := [(0, .ref (zzad Z 36)), (1, .int p0), (3, .int p2), (4, .int l4), (5, .int x1), (6, .int l6), (7, .int x2)]) [2, 3, 4, 5, 1, 6, 0] rfl ?_
  exact hk66 l4 x1 l6 x2 σ
set_option maxHeartbeats 4000000 in
set_option maxRecDepth 100000 in
theorem w_X12_months_134 {l : Launch} {Z : zzG} {base : Nat} {PL : Nat → Option (Nat × Int32)} {mm : zzS} {p : Program} {e : Env} {s : State} {m : MethodId} {args : Array Value} {below : List Frame} {meth : Method} {c : Code} (C : zzCx p m meth c s args cX12_months 11 wsX12_months RX12 (some .int) Z) (p0 : Int32)  (p1 : Int32)  (p2 : Int32)  (k57 : Int32 → Int32 → Int32 → zzS → Option (Int32 × zzS)) (hk57 : ∀ (l4 : Int32)  (l5 : Int32)  (l6 : Int32)  (σ : zzS), zzGO p l e rX12_months s m args below meth c 11 (zzA base) (zzM Z base PL mm) (zzM Z base PL mm) zzRI rX12_months.cells rX12_months.slots (k57 l4 l5 l6 σ) σ 0 0 57 [(0, .ref (zzad Z 36)), (1, .int p0), (3, .int p2), (4, .int l4), (5, .int l5), (6, .int l6)] []) (k66 : Int32 → Int32 → Int32 → Int32 → zzS → Option (Int32 × zzS)) (hk66 : ∀ (l4 : Int32)  (l5 : Int32)  (l6 : Int32)  (l7 : Int32)  (σ : zzS), zzGO p l e rX12_months s m args below meth c 11 (zzA base) (zzM Z base PL mm) (zzM Z base PL mm) zzRI rX12_months.cells rX12_months.slots (k66 l4 l5 l6 l7 σ) σ 0 0 66 [(0, .ref (zzad Z 36)), (1, .int p0), (3, .int p2), (4, .int l4), (5, .int l5), (6, .int l6), (7, .int l7)] []) (l4 : Int32)  (l5 : Int32)  (l6 : Int32)  (l7 : Int32)  (l10 : Int32)  (σ : zzS) : zzGO p l e rX12_months s m args below meth c 11 (zzA base) (zzM Z base PL mm) (zzM Z base PL mm) zzRI rX12_months.cells rX12_months.slots (f_X12_months_134 k57 k66 p0 p1 p2 l4 l5 l6 l7 l10 σ) σ 0 0 134 [(0, .ref (zzad Z 36)), (1, .int p0), (3, .int p2), (4, .int l4), (5, .int l5), (6, .int l6), (7, .int l7), (10, .int l10)] [] := by
  unfold f_X12_months_134
  refine zz_iload C dX12_months_134 4 rfl ?_
  refine zz_iload C dX12_months_136 7 rfl ?_
  refine zz_if_eq (tgt := 145) C dX12_months_138 (by decide) (fun h1 => ?_) (fun h1 => ?_)
  · refine zz_iconst (v := 0) C dX12_months_145 (by decide) ?_
    refine zz_sub (loc' := [(0, .ref (zzad Z 36)), (1, .int p0), (3, .int p2), (4, .int l4), (6, .int l6), (7, .int l7)]) [0, 1, 2, 3, 5, 6] rfl ?_
    exact w_X12_months_146 C p0 p1 p2 k57 hk57 k66 hk66 l4 l6 l7 (0 : Int32) l5 σ
  · refine zz_iconst (v := 1) C dX12_months_141 (by decide) ?_
    refine zz_goto (tgt := 146) C dX12_months_142 (by decide) ?_
    refine zz_sub (loc' := [(0, .ref (zzad Z 36)), (1, .int p0), (3, .int p2), (4, .int l4), (6, .int l6), (7, .int l7)]) [0, 1, 2, 3, 5, 6] rfl ?_
    exact w_X12_months_146 C p0 p1 p2 k57 hk57 k66 hk66 l4 l6 l7 (1 : Int32) l5 σ
set_option maxHeartbeats 4000000 in
set_option maxRecDepth 100000 in
theorem w_X12_months_66b {l : Launch} {Z : zzG} {base : Nat} {PL : Nat → Option (Nat × Int32)} {mm : zzS} {p : Program} {e : Env} {s : State} {m : MethodId} {args : Array Value} {below : List Frame} {meth : Method} {c : Code} (C : zzCx p m meth c s args cX12_months 11 wsX12_months RX12 (some .int) Z) (p0 : Int32)  (p1 : Int32)  (p2 : Int32)  (k57 : Int32 → Int32 → Int32 → zzS → Option (Int32 × zzS)) (hk57 : ∀ (l4 : Int32)  (l5 : Int32)  (l6 : Int32)  (σ : zzS), zzGO p l e rX12_months s m args below meth c 11 (zzA base) (zzM Z base PL mm) (zzM Z base PL mm) zzRI rX12_months.cells rX12_months.slots (k57 l4 l5 l6 σ) σ 0 0 57 [(0, .ref (zzad Z 36)), (1, .int p0), (3, .int p2), (4, .int l4), (5, .int l5), (6, .int l6)] []) (k66 : Int32 → Int32 → Int32 → Int32 → zzS → Option (Int32 × zzS)) (hk66 : ∀ (l4 : Int32)  (l5 : Int32)  (l6 : Int32)  (l7 : Int32)  (σ : zzS), zzGO p l e rX12_months s m args below meth c 11 (zzA base) (zzM Z base PL mm) (zzM Z base PL mm) zzRI rX12_months.cells rX12_months.slots (k66 l4 l5 l6 l7 σ) σ 0 0 66 [(0, .ref (zzad Z 36)), (1, .int p0), (3, .int p2), (4, .int l4), (5, .int l5), (6, .int l6), (7, .int l7)] []) (l4 : Int32)  (l5 : Int32)  (l6 : Int32)  (l7 : Int32)  (σ : zzS) : zzGO p l e rX12_months s m args below meth c 11 (zzA base) (zzM Z base PL mm) (zzM Z base PL mm) zzRI rX12_months.cells rX12_months.slots (f_X12_months_66b k57 k66 p0 p1 p2 l4 l5 l6 l7 σ) σ 0 0 66 [(0, .ref (zzad Z 36)), (1, .int p0), (3, .int p2), (4, .int l4), (5, .int l5), (6, .int l6), (7, .int l7)] [] := by
  unfold f_X12_months_66b
  refine zz_iload C dX12_months_66 6 rfl ?_
  refine zz_bipush (v := 10) C dX12_months_68 (by decide) ?_
  refine zz_icmp_ge (tgt := 155) C dX12_months_70 (by decide) (fun h1 => ?_) (fun h1 => ?_)
  · refine zz_iload C dX12_months_155 3 rfl ?_
    refine zz_aload_n C dX12_months_157 rfl 0 rfl ?_
    refine zz_callV C (Cn := RX12) (b := zzad Z 36) (fun H hH => zz_recv C.2.2.2 (zzM_obj H hH) rfl) (As := []) (rest := [.int l4]) rfl (k_X12_allTurned σ) (cwV 0 C.1.2.2.2.2 gX12_months_X12_allTurned rfl rfl rfl (by decide +kernel) ⟨Nat.le_of_ble_eq_true rfl, Nat.le_of_ble_eq_true rfl⟩) rfl (Nat.le_of_ble_eq_true rfl) ⟨Nat.zero_le _, Nat.zero_le _⟩ dX12_months_158 (zz_kI rfl rfl (fun r2 σ3 => ?_))
    refine zz_iadd C dX12_months_161 ?_
    refine zz_istoreX (locf := fun x4 => [(4, .int x4), (0, .ref (zzad Z 36)), (1, .int p0), (3, .int p2), (5, .int l5), (6, .int l6), (7, .int l7)]) C dX12_months_162 (by decide) (fun _ => rfl) (fun x4 => ?_)
    refine zz_aload_n C dX12_months_164 rfl 1 rfl ?_
    refine zz_callV C (Cn := RX12) (b := zzad Z 36) (fun H hH => zz_recv C.2.2.2 (zzM_obj H hH) rfl) (As := []) (rest := []) rfl (k_X12_close σ3) (cwV 0 C.1.2.2.2.2 gX12_months_X12_close rfl rfl rfl (by decide +kernel) ⟨Nat.le_of_ble_eq_true rfl, Nat.le_of_ble_eq_true rfl⟩) rfl (Nat.le_of_ble_eq_true rfl) ⟨Nat.zero_le _, Nat.zero_le _⟩ dX12_months_165 (zz_kV rfl rfl (fun r5 σ6 => ?_))
    refine zz_iincX (d := 1) (locf := fun x7 => [(6, .int x7), (4, .int x4), (0, .ref (zzad Z 36)), (1, .int p0), (3, .int p2), (5, .int l5), (7, .int l7)]) C dX12_months_168 (k := 5) rfl (by decide) (by decide) (fun _ => rfl) (fun x7 => ?_)
    refine zz_goto (tgt := 57) C dX12_months_171 (by decide) ?_
    refine zz_sub (loc' := [(0, .ref (zzad Z 36)), (1, .int p0), (3, .int p2), (4, .int x4), (5, .int l5), (6, .int x7)]) [2, 3, 4, 1, 5, 0] rfl ?_
    exact hk57 x4 l5 x7 σ6
  · refine zz_aload_n C dX12_months_73 rfl 0 rfl ?_
    refine zz_aload_n C dX12_months_74 rfl 0 rfl ?_
    refine zz_get C zzM_obj (fun _ h9 => List.mem_cons_of_mem _ (List.mem_append_right _ (h9))) rfl 0 (by decide) (List.mem_of_getElem? (i := 3) rfl) (Or.inl rfl) rfl dX12_months_75 ?_
    refine zz_callV C (Cn := RX12) (b := zzad Z 36) (fun H hH => zz_recv C.2.2.2 (zzM_obj H hH) rfl) (As := [.int (zzi σ 36 0)]) (rest := []) rfl (k_X12_drawBelow (zzi σ 36 0) σ) (cwV 1 C.1.2.2.2.2 gX12_months_X12_drawBelow rfl rfl rfl (by decide +kernel) ⟨Nat.le_of_ble_eq_true rfl, Nat.le_of_ble_eq_true rfl⟩) rfl (Nat.le_of_ble_eq_true rfl) ⟨Nat.zero_le _, Nat.zero_le _⟩ dX12_months_78 (zz_kI rfl rfl (fun r8 σ9 => ?_))
    refine zz_istore (loc' := [(8, .int r8), (0, .ref (zzad Z 36)), (1, .int p0), (3, .int p2), (4, .int l4), (5, .int l5), (6, .int l6), (7, .int l7)]) C dX12_months_81 (by decide) rfl ?_
    refine zz_aload_n C dX12_months_83 rfl 1 rfl ?_
    refine zz_aload_n C dX12_months_84 rfl 1 rfl ?_
    refine zz_get C zzM_obj (fun _ h9 => List.mem_cons_of_mem _ (List.mem_append_right _ (h9))) rfl 0 (by decide) (List.mem_of_getElem? (i := 3) rfl) (Or.inl rfl) rfl dX12_months_85 ?_
    refine zz_callV C (Cn := RX12) (b := zzad Z 36) (fun H hH => zz_recv C.2.2.2 (zzM_obj H hH) rfl) (As := [.int (zzi σ9 36 0)]) (rest := []) rfl (k_X12_drawBelow (zzi σ9 36 0) σ9) (cwV 1 C.1.2.2.2.2 gX12_months_X12_drawBelow rfl rfl rfl (by decide +kernel) ⟨Nat.le_of_ble_eq_true rfl, Nat.le_of_ble_eq_true rfl⟩) rfl (Nat.le_of_ble_eq_true rfl) ⟨Nat.zero_le _, Nat.zero_le _⟩ dX12_months_88 (zz_kI rfl rfl (fun r10 σ11 => ?_))
    refine zz_istore (loc' := [(9, .int r10), (8, .int r8), (0, .ref (zzad Z 36)), (1, .int p0), (3, .int p2), (4, .int l4), (5, .int l5), (6, .int l6), (7, .int l7)]) C dX12_months_91 (by decide) rfl ?_
    refine zz_aload_n C dX12_months_93 rfl 2 rfl ?_
    refine zz_iload C dX12_months_94 1 rfl ?_
    refine zz_iload C dX12_months_96 0 rfl ?_
    refine zz_callV C (Cn := RX12) (b := zzad Z 36) (fun H hH => zz_recv C.2.2.2 (zzM_obj H hH) rfl) (As := [.int r8, .int r10]) (rest := []) rfl (k_X12_canTurn r8 r10 σ11) (cwV 2 C.1.2.2.2.2 gX12_months_X12_canTurn rfl rfl rfl (by decide +kernel) ⟨Nat.le_of_ble_eq_true rfl, Nat.le_of_ble_eq_true rfl⟩) rfl (Nat.le_of_ble_eq_true rfl) ⟨Nat.zero_le _, Nat.zero_le _⟩ dX12_months_98 (zz_kI rfl rfl (fun r12 σ13 => ?_))
    refine zz_istore (loc' := [(10, .int r12), (9, .int r10), (8, .int r8), (0, .ref (zzad Z 36)), (1, .int p0), (3, .int p2), (4, .int l4), (5, .int l5), (6, .int l6), (7, .int l7)]) C dX12_months_101 (by decide) rfl ?_
    refine zz_iload C dX12_months_103 0 rfl ?_
    refine zz_if_eq (tgt := 119) C dX12_months_105 (by decide) (fun h14 => ?_) (fun h14 => ?_)
    · refine zz_iload C dX12_months_119 2 rfl ?_
      refine zz_iload C dX12_months_121 1 rfl ?_
      refine zz_icmp_eq (tgt := 134) C dX12_months_123 (by decide) (fun h15 => ?_) (fun h15 => ?_)
      · refine zz_sub (loc' := [(0, .ref (zzad Z 36)), (1, .int p0), (3, .int p2), (4, .int l4), (5, .int l5), (6, .int l6), (7, .int l7), (10, .int r12)]) [3, 4, 5, 6, 7, 8, 9, 0] rfl ?_
        exact w_X12_months_134 C p0 p1 p2 k57 hk57 k66 hk66 l4 l5 l6 l7 r12 σ13
      · refine zz_aload_n C dX12_months_126 rfl 3 rfl ?_
        refine zz_iload C dX12_months_127 2 rfl ?_
        refine zz_iload C dX12_months_129 1 rfl ?_
        refine zz_callV C (Cn := RX12) (b := zzad Z 36) (fun H hH => zz_recv C.2.2.2 (zzM_obj H hH) rfl) (As := [.int r8, .int r10]) (rest := []) rfl (k_X12_grow r8 r10 σ13) (cwV 2 C.1.2.2.2.2 gX12_months_X12_grow rfl rfl rfl (by decide +kernel) ⟨Nat.le_of_ble_eq_true rfl, Nat.le_of_ble_eq_true rfl⟩) rfl (Nat.le_of_ble_eq_true rfl) ⟨Nat.zero_le _, Nat.zero_le _⟩ dX12_months_131 (zz_kV rfl rfl (fun r16 σ17 => ?_))
        refine zz_sub (loc' := [(0, .ref (zzad Z 36)), (1, .int p0), (3, .int p2), (4, .int l4), (5, .int l5), (6, .int l6), (7, .int l7), (10, .int r12)]) [3, 4, 5, 6, 7, 8, 9, 0] rfl ?_
        exact w_X12_months_134 C p0 p1 p2 k57 hk57 k66 hk66 l4 l5 l6 l7 r12 σ17
    · refine zz_aload_n C dX12_months_108 rfl 3 rfl ?_
      refine zz_iload C dX12_months_109 2 rfl ?_
      refine zz_iload C dX12_months_111 1 rfl ?_
      refine zz_callV C (Cn := RX12) (b := zzad Z 36) (fun H hH => zz_recv C.2.2.2 (zzM_obj H hH) rfl) (As := [.int r8, .int r10]) (rest := []) rfl (k_X12_turnCards r8 r10 σ13) (cwV 2 C.1.2.2.2.2 gX12_months_X12_turnCards rfl rfl rfl (by decide +kernel) ⟨Nat.le_of_ble_eq_true rfl, Nat.le_of_ble_eq_true rfl⟩) rfl (Nat.le_of_ble_eq_true rfl) ⟨Nat.zero_le _, Nat.zero_le _⟩ dX12_months_113 (zz_kV rfl rfl (fun r18 σ19 => ?_))
      refine zz_goto (tgt := 134) C dX12_months_116 (by decide) ?_
      refine zz_sub (loc' := [(0, .ref (zzad Z 36)), (1, .int p0), (3, .int p2), (4, .int l4), (5, .int l5), (6, .int l6), (7, .int l7), (10, .int r12)]) [3, 4, 5, 6, 7, 8, 9, 0] rfl ?_
      exact w_X12_months_134 C p0 p1 p2 k57 hk57 k66 hk66 l4 l5 l6 l7 r12 σ19
set_option maxHeartbeats 4000000 in
set_option maxRecDepth 100000 in
theorem w_X12_months_66 {l : Launch} {Z : zzG} {base : Nat} {PL : Nat → Option (Nat × Int32)} {mm : zzS} {p : Program} {e : Env} {s : State} {m : MethodId} {args : Array Value} {below : List Frame} {meth : Method} {c : Code} (C : zzCx p m meth c s args cX12_months 11 wsX12_months RX12 (some .int) Z) (p0 : Int32)  (p1 : Int32)  (p2 : Int32)  (k57 : Int32 → Int32 → Int32 → zzS → Option (Int32 × zzS)) (hk57 : ∀ (l4 : Int32)  (l5 : Int32)  (l6 : Int32)  (σ : zzS), zzGO p l e rX12_months s m args below meth c 11 (zzA base) (zzM Z base PL mm) (zzM Z base PL mm) zzRI rX12_months.cells rX12_months.slots (k57 l4 l5 l6 σ) σ 0 0 57 [(0, .ref (zzad Z 36)), (1, .int p0), (3, .int p2), (4, .int l4), (5, .int l5), (6, .int l6)] []) (n : Nat) : ∀ (l4 : Int32)  (l5 : Int32)  (l6 : Int32)  (l7 : Int32)  (σ : zzS), zzGO p l e rX12_months s m args below meth c 11 (zzA base) (zzM Z base PL mm) (zzM Z base PL mm) zzRI rX12_months.cells rX12_months.slots (f_X12_months_66 k57 p0 p1 p2 n l4 l5 l6 l7 σ) σ 0 0 66 [(0, .ref (zzad Z 36)), (1, .int p0), (3, .int p2), (4, .int l4), (5, .int l5), (6, .int l6), (7, .int l7)] [] := by
  induction n with
  | zero => exact fun _ _ _ _ _ r9 s9 h9 => by cases h9
  | succ n ih => exact w_X12_months_66b C p0 p1 p2 k57 hk57 _ ih
set_option maxHeartbeats 4000000 in
set_option maxRecDepth 100000 in
theorem w_X12_months_57b {l : Launch} {Z : zzG} {base : Nat} {PL : Nat → Option (Nat × Int32)} {mm : zzS} {p : Program} {e : Env} {s : State} {m : MethodId} {args : Array Value} {below : List Frame} {meth : Method} {c : Code} (C : zzCx p m meth c s args cX12_months 11 wsX12_months RX12 (some .int) Z) (p0 : Int32)  (p1 : Int32)  (p2 : Int32)   (k57 : Int32 → Int32 → Int32 → zzS → Option (Int32 × zzS)) (hk57 : ∀ (l4 : Int32)  (l5 : Int32)  (l6 : Int32)  (σ : zzS), zzGO p l e rX12_months s m args below meth c 11 (zzA base) (zzM Z base PL mm) (zzM Z base PL mm) zzRI rX12_months.cells rX12_months.slots (k57 l4 l5 l6 σ) σ 0 0 57 [(0, .ref (zzad Z 36)), (1, .int p0), (3, .int p2), (4, .int l4), (5, .int l5), (6, .int l6)] []) (l4 : Int32)  (l5 : Int32)  (l6 : Int32)  (σ : zzS) : zzGO p l e rX12_months s m args below meth c 11 (zzA base) (zzM Z base PL mm) (zzM Z base PL mm) zzRI rX12_months.cells rX12_months.slots (f_X12_months_57b k57 p0 p1 p2 l4 l5 l6 σ) σ 0 0 57 [(0, .ref (zzad Z 36)), (1, .int p0), (3, .int p2), (4, .int l4), (5, .int l5), (6, .int l6)] [] := by
  unfold f_X12_months_57b
  refine zz_iload C dX12_months_57 5 rfl ?_
  refine zz_iload_n C dX12_months_59 rfl 1 rfl ?_
  refine zz_icmp_ge (tgt := 174) C dX12_months_60 (by decide) (fun h1 => ?_) (fun h1 => ?_)
  · refine zz_iload_n C dX12_months_174 rfl 2 rfl ?_
    refine zz_if_ne (tgt := 183) C dX12_months_175 (by decide) (fun h2 => ?_) (fun h2 => ?_)
    · refine zz_iload C dX12_months_183 4 rfl ?_
      exact zz_iret C rfl rfl (fun _ h9 => h9) (Nat.zero_le _) (Nat.zero_le _) dX12_months_185
    · refine zz_iload C dX12_months_178 3 rfl ?_
      refine zz_goto (tgt := 185) C dX12_months_180 (by decide) ?_
      exact zz_iret C rfl rfl (fun _ h9 => h9) (Nat.zero_le _) (Nat.zero_le _) dX12_months_185
  · refine zz_iconst (v := 0) C dX12_months_63 (by decide) ?_
    refine zz_istore (loc' := [(7, .int (0 : Int32)), (0, .ref (zzad Z 36)), (1, .int p0), (3, .int p2), (4, .int l4), (5, .int l5), (6, .int l6)]) C dX12_months_64 (by decide) rfl ?_
    refine zz_sub (loc' := [(0, .ref (zzad Z 36)), (1, .int p0), (3, .int p2), (4, .int l4), (5, .int l5), (6, .int l6), (7, .int (0 : Int32))]) [1, 2, 3, 4, 5, 6, 0] rfl ?_
    exact w_X12_months_66 C p0 p1 p2 k57 hk57 200 l4 l5 l6 (0 : Int32) σ
set_option maxHeartbeats 4000000 in
set_option maxRecDepth 100000 in
theorem w_X12_months_57 {l : Launch} {Z : zzG} {base : Nat} {PL : Nat → Option (Nat × Int32)} {mm : zzS} {p : Program} {e : Env} {s : State} {m : MethodId} {args : Array Value} {below : List Frame} {meth : Method} {c : Code} (C : zzCx p m meth c s args cX12_months 11 wsX12_months RX12 (some .int) Z) (p0 : Int32)  (p1 : Int32)  (p2 : Int32)   (n : Nat) : ∀ (l4 : Int32)  (l5 : Int32)  (l6 : Int32)  (σ : zzS), zzGO p l e rX12_months s m args below meth c 11 (zzA base) (zzM Z base PL mm) (zzM Z base PL mm) zzRI rX12_months.cells rX12_months.slots (f_X12_months_57 p0 p1 p2 n l4 l5 l6 σ) σ 0 0 57 [(0, .ref (zzad Z 36)), (1, .int p0), (3, .int p2), (4, .int l4), (5, .int l5), (6, .int l6)] [] := by
  induction n with
  | zero => exact fun _ _ _ _ r9 s9 h9 => by cases h9
  | succ n ih => exact w_X12_months_57b C p0 p1 p2 _ ih
set_option maxHeartbeats 4000000 in
set_option maxRecDepth 100000 in
theorem w_X12_months_e {l : Launch} {Z : zzG} {base : Nat} {PL : Nat → Option (Nat × Int32)} {mm : zzS} {p : Program} {e : Env} {s : State} {m : MethodId} {args : Array Value} {below : List Frame} {meth : Method} {c : Code} (C : zzCx p m meth c s args cX12_months 11 wsX12_months RX12 (some .int) Z) (p0 : Int32)  (p1 : Int32)  (p2 : Int32)  (σ : zzS) : zzGO p l e rX12_months s m args below meth c 11 (zzA base) (zzM Z base PL mm) (zzM Z base PL mm) zzRI rX12_months.cells rX12_months.slots (f_X12_months p0 p1 p2 σ) σ 0 0 0 [(0, .ref (zzad Z 36)), (1, .int p0), (2, .int p1), (3, .int p2)] [] := by
  unfold f_X12_months
  refine zz_aload_n C dX12_months_0 rfl 0 rfl ?_
  refine zz_iconst (v := 0) C dX12_months_1 (by decide) ?_
  refine zz_put (ty := .int) C zzM_obj (fun _ h9 => List.mem_cons_of_mem _ (List.mem_append_right _ (h9))) rfl 13 (by decide) (List.mem_of_getElem? (i := 1) rfl) rfl tyX12_ok nmX12 rfl (by decide +kernel) rfl rfl (Nat.le_of_ble_eq_true rfl) (zzM_uobj (by decide)) (zzA_M (by decide)) dX12_months_2 ?_
  refine zz_ltS (fun σ1 => ?_)
  refine zz_iload_n C dX12_months_5 rfl 1 rfl ?_
  refine zz_i2l C dX12_months_6 ?_
  refine zz_lconst (v := 1) C dX12_months_7 (by decide) ?_
  refine zz_ldc2 (v := 20) C (C.1.2.2.2.2 _ (List.mem_of_getElem? (i := 2) rfl)) dX12_months_8 ?_
  refine zz_callS (As := [.long (Int32.toInt64 p0), .long (1 : Int64), .long (20 : Int64)]) (rest := []) C rfl (k_X12_in (Int32.toInt64 p0) (1 : Int64) (20 : Int64) σ1) (va_cwS 3 C.1.2.2.2.2 gX12_months_X12_in rfl rfl rfl (by decide +kernel) ⟨Nat.le_of_ble_eq_true rfl, Nat.le_of_ble_eq_true rfl⟩) rfl (Nat.le_of_ble_eq_true rfl) ⟨Nat.zero_le _, Nat.zero_le _⟩ dX12_months_11 (zz_kI rfl rfl (fun r2 σ3 => ?_))
  refine zz_if_eq (tgt := 27) C dX12_months_14 (by decide) (fun h4 => ?_) (fun h4 => ?_)
  · refine zz_iconst (v := -1) C dX12_months_27 (by decide) ?_
    exact zz_iret C rfl rfl (fun _ h9 => h9) (Nat.zero_le _) (Nat.zero_le _) dX12_months_28
  · refine zz_iload_n C dX12_months_17 rfl 3 rfl ?_
    refine zz_i2l C dX12_months_18 ?_
    refine zz_lconst (v := 0) C dX12_months_19 (by decide) ?_
    refine zz_lconst (v := 1) C dX12_months_20 (by decide) ?_
    refine zz_callS (As := [.long (Int32.toInt64 p2), .long (0 : Int64), .long (1 : Int64)]) (rest := []) C rfl (k_X12_in (Int32.toInt64 p2) (0 : Int64) (1 : Int64) σ3) (va_cwS 3 C.1.2.2.2.2 gX12_months_X12_in rfl rfl rfl (by decide +kernel) ⟨Nat.le_of_ble_eq_true rfl, Nat.le_of_ble_eq_true rfl⟩) rfl (Nat.le_of_ble_eq_true rfl) ⟨Nat.zero_le _, Nat.zero_le _⟩ dX12_months_21 (zz_kI rfl rfl (fun r5 σ6 => ?_))
    refine zz_if_ne (tgt := 29) C dX12_months_24 (by decide) (fun h7 => ?_) (fun h7 => ?_)
    · refine zz_aload_n C dX12_months_29 rfl 0 rfl ?_
      refine zz_get C zzM_obj (fun _ h9 => List.mem_cons_of_mem _ (List.mem_append_right _ (h9))) rfl 0 (by decide) (List.mem_of_getElem? (i := 3) rfl) (Or.inl rfl) rfl dX12_months_30 ?_
      refine zz_if_ne (tgt := 39) C dX12_months_33 (by decide) (fun h8 => ?_) (fun h8 => ?_)
      · refine zz_aload_n C dX12_months_39 rfl 0 rfl ?_
        refine zz_iload_n C dX12_months_40 rfl 2 rfl ?_
        refine zz_put (ty := .int) C zzM_obj (fun _ h9 => List.mem_cons_of_mem _ (List.mem_append_right _ (h9))) rfl 29 (by decide) (List.mem_of_getElem? (i := 4) rfl) rfl tyX12_ok nmX12 rfl (by decide +kernel) rfl rfl (Nat.le_of_ble_eq_true rfl) (zzM_uobj (by decide)) (zzA_M (by decide)) dX12_months_41 ?_
        refine zz_ltS (fun σ9 => ?_)
        refine zz_iconst (v := 0) C dX12_months_44 (by decide) ?_
        refine zz_istore (loc' := [(4, .int (0 : Int32)), (0, .ref (zzad Z 36)), (1, .int p0), (2, .int p1), (3, .int p2)]) C dX12_months_45 (by decide) rfl ?_
        refine zz_iconst (v := 0) C dX12_months_47 (by decide) ?_
        refine zz_istore (loc' := [(5, .int (0 : Int32)), (4, .int (0 : Int32)), (0, .ref (zzad Z 36)), (1, .int p0), (2, .int p1), (3, .int p2)]) C dX12_months_48 (by decide) rfl ?_
        refine zz_aload_n C dX12_months_50 rfl 2 rfl ?_
        refine zz_callV C (Cn := RX12) (b := zzad Z 36) (fun H hH => zz_recv C.2.2.2 (zzM_obj H hH) rfl) (As := []) (rest := []) rfl (k_X12_open σ9) (cwV 0 C.1.2.2.2.2 gX12_months_X12_open rfl rfl rfl (by decide +kernel) ⟨Nat.le_of_ble_eq_true rfl, Nat.le_of_ble_eq_true rfl⟩) rfl (Nat.le_of_ble_eq_true rfl) ⟨Nat.zero_le _, Nat.zero_le _⟩ dX12_months_51 (zz_kV rfl rfl (fun r10 σ11 => ?_))
        refine zz_iconst (v := 0) C dX12_months_54 (by decide) ?_
        refine zz_istore (loc' := [(6, .int (0 : Int32)), (5, .int (0 : Int32)), (4, .int (0 : Int32)), (0, .ref (zzad Z 36)), (1, .int p0), (2, .int p1), (3, .int p2)]) C dX12_months_55 (by decide) rfl ?_
        refine zz_sub (loc' := [(0, .ref (zzad Z 36)), (1, .int p0), (3, .int p2), (4, .int (0 : Int32)), (5, .int (0 : Int32)), (6, .int (0 : Int32))]) [3, 4, 6, 2, 1, 0] rfl ?_
        exact w_X12_months_57 C p0 p1 p2 200 (0 : Int32) (0 : Int32) (0 : Int32) σ11
      · refine zz_bipush (v := -3) C dX12_months_36 (by decide) ?_
        exact zz_iret C rfl rfl (fun _ h9 => h9) (Nat.zero_le _) (Nat.zero_le _) dX12_months_38
    · refine zz_iconst (v := -1) C dX12_months_27 (by decide) ?_
      exact zz_iret C rfl rfl (fun _ h9 => h9) (Nat.zero_le _) (Nat.zero_le _) dX12_months_28
set_option maxHeartbeats 4000000 in
set_option maxRecDepth 100000 in
theorem k_X12_months {l : Launch} {Z : zzG} {base : Nat} {PL : Nat → Option (Nat × Int32)} {mm : zzS} (p0 : Int32)  (p1 : Int32)  (p2 : Int32)  (σ : zzS) : zzCT l yX12_months wsX12_months rX12_months (zzA base) Z (zzM Z base PL mm) (zzM Z base PL mm) zzRI [.ref (zzad Z 36), .int p0, .int p1, .int p2] (f_X12_months p0 p1 p2 σ) σ :=
  zzCT_of (cc := cX12_months) (nL := 11) (ret := (some .int)) (by decide) rfl (Nat.le_of_ble_eq_true rfl) [(0, .ref (zzad Z 36)), (1, .int p0), (2, .int p1), (3, .int p2)] rfl (fun p e s m args below meth c C => w_X12_months_e C p0 p1 p2 σ)
abbrev rX12_count : Room := { frames := 1, cells := 0, slots := 0, locals := 23 }

set_option maxHeartbeats 4000000 in
set_option maxRecDepth 100000 in
theorem w_X12_count_70b {l : Launch} {Z : zzG} {base : Nat} {PL : Nat → Option (Nat × Int32)} {mm : zzS} {p : Program} {e : Env} {s : State} {m : MethodId} {args : Array Value} {below : List Frame} {meth : Method} {c : Code} (C : zzCx p m meth c s args cX12_count 4 wsX12_count RX12 (some .int) Z) (p0 : Int32)   (k70 : Int32 → Int32 → zzS → Option (Int32 × zzS)) (hk70 : ∀ (l2 : Int32)  (l3 : Int32)  (σ : zzS), zzGO p l e rX12_count s m args below meth c 4 (zzA base) (zzM Z base PL mm) (zzM Z base PL mm) zzRI rX12_count.cells rX12_count.slots (k70 l2 l3 σ) σ 0 0 70 [(0, .ref (zzad Z 36)), (2, .int l2), (3, .int l3)] []) (l2 : Int32)  (l3 : Int32)  (σ : zzS) : zzGO p l e rX12_count s m args below meth c 4 (zzA base) (zzM Z base PL mm) (zzM Z base PL mm) zzRI rX12_count.cells rX12_count.slots (f_X12_count_70b k70 p0 l2 l3 σ) σ 0 0 70 [(0, .ref (zzad Z 36)), (2, .int l2), (3, .int l3)] [] := by
  unfold f_X12_count_70b
  refine zz_iload_n C dX12_count_70 rfl 2 rfl ?_
  refine zz_aload_n C dX12_count_71 rfl 0 rfl ?_
  refine zz_get C zzM_obj (fun _ h9 => List.mem_cons_of_mem _ (List.mem_append_right _ (h9))) rfl 0 (by decide) (List.mem_of_getElem? (i := 2) rfl) (Or.inl rfl) rfl dX12_count_72 ?_
  refine zz_icmp_ge (tgt := 92) C dX12_count_75 (by decide) (fun h1 => ?_) (fun h1 => ?_)
  · refine zz_iload_n C dX12_count_92 rfl 1 rfl ?_
    exact zz_iret C rfl rfl (fun _ h9 => h9) (Nat.zero_le _) (Nat.zero_le _) dX12_count_93
  · refine zz_iload_n C dX12_count_78 rfl 1 rfl ?_
    refine zz_aload_n C dX12_count_79 rfl 0 rfl ?_
    refine zz_iload_n C dX12_count_80 rfl 2 rfl ?_
    refine zz_callV C (Cn := RX12) (b := zzad Z 36) (fun H hH => zz_recv C.2.2.2 (zzM_obj H hH) rfl) (As := [.int l3]) (rest := [.int l2]) rfl (k_X12_lovedBy l3 σ) (cwV 1 C.1.2.2.2.2 gX12_count_X12_lovedBy rfl rfl rfl (by decide +kernel) ⟨Nat.le_of_ble_eq_true rfl, Nat.le_of_ble_eq_true rfl⟩) rfl (Nat.le_of_ble_eq_true rfl) ⟨Nat.zero_le _, Nat.zero_le _⟩ dX12_count_81 (zz_kI rfl rfl (fun r2 σ3 => ?_))
    refine zz_iadd C dX12_count_84 ?_
    refine zz_istoreX_n (locf := fun x4 => [(2, .int x4), (0, .ref (zzad Z 36)), (3, .int l3)]) C dX12_count_85 rfl (by decide) (fun _ => rfl) (fun x4 => ?_)
    refine zz_iincX (d := 1) (locf := fun x5 => [(3, .int x5), (2, .int x4), (0, .ref (zzad Z 36))]) C dX12_count_86 (k := 2) rfl (by decide) (by decide) (fun _ => rfl) (fun x5 => ?_)
    refine zz_goto (tgt := 70) C dX12_count_89 (by decide) ?_
    refine zz_sub (loc' := [(0, .ref (zzad Z 36)), (2, .int x4), (3, .int x5)]) [2, 1, 0] rfl ?_
    exact hk70 x4 x5 σ3
set_option maxHeartbeats 4000000 in
set_option maxRecDepth 100000 in
theorem w_X12_count_70 {l : Launch} {Z : zzG} {base : Nat} {PL : Nat → Option (Nat × Int32)} {mm : zzS} {p : Program} {e : Env} {s : State} {m : MethodId} {args : Array Value} {below : List Frame} {meth : Method} {c : Code} (C : zzCx p m meth c s args cX12_count 4 wsX12_count RX12 (some .int) Z) (p0 : Int32)   (n : Nat) : ∀ (l2 : Int32)  (l3 : Int32)  (σ : zzS), zzGO p l e rX12_count s m args below meth c 4 (zzA base) (zzM Z base PL mm) (zzM Z base PL mm) zzRI rX12_count.cells rX12_count.slots (f_X12_count_70 p0 n l2 l3 σ) σ 0 0 70 [(0, .ref (zzad Z 36)), (2, .int l2), (3, .int l3)] [] := by
  induction n with
  | zero => exact fun _ _ _ r9 s9 h9 => by cases h9
  | succ n ih => exact w_X12_count_70b C p0 _ ih
set_option maxHeartbeats 4000000 in
set_option maxRecDepth 100000 in
theorem w_X12_count_123 {l : Launch} {Z : zzG} {base : Nat} {PL : Nat → Option (Nat × Int32)} {mm : zzS} {p : Program} {e : Env} {s : State} {m : MethodId} {args : Array Value} {below : List Frame} {meth : Method} {c : Code} (C : zzCx p m meth c s args cX12_count 4 wsX12_count RX12 (some .int) Z) (p0 : Int32)  (k96 : Int32 → Int32 → zzS → Option (Int32 × zzS)) (hk96 : ∀ (l2 : Int32)  (l3 : Int32)  (σ : zzS), zzGO p l e rX12_count s m args below meth c 4 (zzA base) (zzM Z base PL mm) (zzM Z base PL mm) zzRI rX12_count.cells rX12_count.slots (k96 l2 l3 σ) σ 0 0 96 [(0, .ref (zzad Z 36)), (2, .int l2), (3, .int l3)] []) (l3 : Int32)  (s0 : Int32)  (s1 : Int32)  (σ : zzS) : zzGO p l e rX12_count s m args below meth c 4 (zzA base) (zzM Z base PL mm) (zzM Z base PL mm) zzRI rX12_count.cells rX12_count.slots (f_X12_count_123 k96 p0 l3 s0 s1 σ) σ 0 0 123 [(0, .ref (zzad Z 36)), (3, .int l3)] [.int s0, .int s1] := by
  unfold f_X12_count_123
  refine zz_ior C dX12_count_123 ?_
  refine zz_istoreX_n (locf := fun x1 => [(2, .int x1), (0, .ref (zzad Z 36)), (3, .int l3)]) C dX12_count_124 rfl (by decide) (fun _ => rfl) (fun x1 => ?_)
  refine zz_iincX (d := 1) (locf := fun x2 => [(3, .int x2), (2, .int x1), (0, .ref (zzad Z 36))]) C dX12_count_125 (k := 2) rfl (by decide) (by decide) (fun _ => rfl) (fun x2 => ?_)
  refine zz_goto (tgt := 96) C dX12_count_128 (by decide) ?_
  refine zz_sub (loc' := [(0, .ref (zzad Z 36)), (2, .int x1), (3, .int x2)]) [2, 1, 0] rfl ?_
  exact hk96 x1 x2 σ
set_option maxHeartbeats 4000000 in
set_option maxRecDepth 100000 in
theorem w_X12_count_96b {l : Launch} {Z : zzG} {base : Nat} {PL : Nat → Option (Nat × Int32)} {mm : zzS} {p : Program} {e : Env} {s : State} {m : MethodId} {args : Array Value} {below : List Frame} {meth : Method} {c : Code} (C : zzCx p m meth c s args cX12_count 4 wsX12_count RX12 (some .int) Z) (p0 : Int32)   (k96 : Int32 → Int32 → zzS → Option (Int32 × zzS)) (hk96 : ∀ (l2 : Int32)  (l3 : Int32)  (σ : zzS), zzGO p l e rX12_count s m args below meth c 4 (zzA base) (zzM Z base PL mm) (zzM Z base PL mm) zzRI rX12_count.cells rX12_count.slots (k96 l2 l3 σ) σ 0 0 96 [(0, .ref (zzad Z 36)), (2, .int l2), (3, .int l3)] []) (l2 : Int32)  (l3 : Int32)  (σ : zzS) : zzGO p l e rX12_count s m args below meth c 4 (zzA base) (zzM Z base PL mm) (zzM Z base PL mm) zzRI rX12_count.cells rX12_count.slots (f_X12_count_96b k96 p0 l2 l3 σ) σ 0 0 96 [(0, .ref (zzad Z 36)), (2, .int l2), (3, .int l3)] [] := by
  unfold f_X12_count_96b
  refine zz_iload_n C dX12_count_96 rfl 2 rfl ?_
  refine zz_aload_n C dX12_count_97 rfl 0 rfl ?_
  refine zz_get C zzM_obj (fun _ h9 => List.mem_cons_of_mem _ (List.mem_append_right _ (h9))) rfl 0 (by decide) (List.mem_of_getElem? (i := 2) rfl) (Or.inl rfl) rfl dX12_count_98 ?_
  refine zz_icmp_ge (tgt := 131) C dX12_count_101 (by decide) (fun h1 => ?_) (fun h1 => ?_)
  · refine zz_iload_n C dX12_count_131 rfl 1 rfl ?_
    exact zz_iret C rfl rfl (fun _ h9 => h9) (Nat.zero_le _) (Nat.zero_le _) dX12_count_132
  · refine zz_iload_n C dX12_count_104 rfl 1 rfl ?_
    refine zz_aload_n C dX12_count_105 rfl 0 rfl ?_
    refine zz_get C zzM_obj (fun _ h9 => List.mem_cons_of_mem _ (List.mem_append_right _ (h9))) rfl 3 (by decide) (List.mem_of_getElem? (i := 5) rfl) (Or.inl rfl) rfl dX12_count_106 ?_
    refine zz_iload_n C dX12_count_109 rfl 2 rfl ?_
    refine zz_gd (fun h2 => ?_)
    refine zz_iald C (zzM_arr (by decide)) h2 dX12_count_110 ?_
    refine zz_bipush (v := 9) C dX12_count_111 (by decide) ?_
    refine zz_icmp_ne (tgt := 122) C dX12_count_113 (by decide) (fun h3 => ?_) (fun h3 => ?_)
    · refine zz_iconst (v := 0) C dX12_count_122 (by decide) ?_
      refine zz_sub (loc' := [(0, .ref (zzad Z 36)), (3, .int l3)]) [0, 2] rfl ?_
      exact w_X12_count_123 C p0 k96 hk96 l3 (0 : Int32) l2 σ
    · refine zz_iconst (v := 1) C dX12_count_116 (by decide) ?_
      refine zz_iload_n C dX12_count_117 rfl 2 rfl ?_
      refine zz_ishl C dX12_count_118 ?_
      refine zz_goto (tgt := 123) C dX12_count_119 (by decide) ?_
      refine zz_sub (loc' := [(0, .ref (zzad Z 36)), (3, .int l3)]) [0, 2] rfl ?_
      exact w_X12_count_123 C p0 k96 hk96 l3 ((1 : Int32) <<< (l3 &&& 31)) l2 σ
set_option maxHeartbeats 4000000 in
set_option maxRecDepth 100000 in
theorem w_X12_count_96 {l : Launch} {Z : zzG} {base : Nat} {PL : Nat → Option (Nat × Int32)} {mm : zzS} {p : Program} {e : Env} {s : State} {m : MethodId} {args : Array Value} {below : List Frame} {meth : Method} {c : Code} (C : zzCx p m meth c s args cX12_count 4 wsX12_count RX12 (some .int) Z) (p0 : Int32)   (n : Nat) : ∀ (l2 : Int32)  (l3 : Int32)  (σ : zzS), zzGO p l e rX12_count s m args below meth c 4 (zzA base) (zzM Z base PL mm) (zzM Z base PL mm) zzRI rX12_count.cells rX12_count.slots (f_X12_count_96 p0 n l2 l3 σ) σ 0 0 96 [(0, .ref (zzad Z 36)), (2, .int l2), (3, .int l3)] [] := by
  induction n with
  | zero => exact fun _ _ _ r9 s9 h9 => by cases h9
  | succ n ih => exact w_X12_count_96b C p0 _ ih
set_option maxHeartbeats 4000000 in
set_option maxRecDepth 100000 in
theorem w_X12_count_e {l : Launch} {Z : zzG} {base : Nat} {PL : Nat → Option (Nat × Int32)} {mm : zzS} {p : Program} {e : Env} {s : State} {m : MethodId} {args : Array Value} {below : List Frame} {meth : Method} {c : Code} (C : zzCx p m meth c s args cX12_count 4 wsX12_count RX12 (some .int) Z) (p0 : Int32)  (σ : zzS) : zzGO p l e rX12_count s m args below meth c 4 (zzA base) (zzM Z base PL mm) (zzM Z base PL mm) zzRI rX12_count.cells rX12_count.slots (f_X12_count p0 σ) σ 0 0 0 [(0, .ref (zzad Z 36)), (1, .int p0)] [] := by
  unfold f_X12_count
  refine zz_aload_n C dX12_count_0 rfl 0 rfl ?_
  refine zz_iconst (v := 0) C dX12_count_1 (by decide) ?_
  refine zz_put (ty := .int) C zzM_obj (fun _ h9 => List.mem_cons_of_mem _ (List.mem_append_right _ (h9))) rfl 13 (by decide) (List.mem_of_getElem? (i := 1) rfl) rfl tyX12_ok nmX12 rfl (by decide +kernel) rfl rfl (Nat.le_of_ble_eq_true rfl) (zzM_uobj (by decide)) (zzA_M (by decide)) dX12_count_2 ?_
  refine zz_ltS (fun σ1 => ?_)
  refine zz_iconst (v := 0) C dX12_count_5 (by decide) ?_
  refine zz_istore_n (loc' := [(2, .int (0 : Int32)), (0, .ref (zzad Z 36)), (1, .int p0)]) C dX12_count_6 rfl (by decide) rfl ?_
  refine zz_iload_n C dX12_count_7 rfl 2 rfl ?_
  refine zz_ite (fun h2 => ?_) (fun h2 => ?_)
  · refine zz_tblIn (off := 40) (tgt := 48) C dX12_count_8 (by rw [h2]; decide) (by rw [h2]; decide) (by rw [h2]; rfl) (by decide) ?_
    refine zz_aload_n C dX12_count_48 rfl 1 rfl ?_
    refine zz_get C zzM_obj (fun _ h9 => List.mem_cons_of_mem _ (List.mem_append_right _ (h9))) rfl 0 (by decide) (List.mem_of_getElem? (i := 2) rfl) (Or.inl rfl) rfl dX12_count_49 ?_
    exact zz_iret C rfl rfl (fun _ h9 => h9) (Nat.zero_le _) (Nat.zero_le _) dX12_count_52
  · skip
    refine zz_ite (fun h3 => ?_) (fun h3 => ?_)
    · refine zz_tblIn (off := 45) (tgt := 53) C dX12_count_8 (by rw [h3]; decide) (by rw [h3]; decide) (by rw [h3]; rfl) (by decide) ?_
      refine zz_aload_n C dX12_count_53 rfl 1 rfl ?_
      refine zz_get C zzM_obj (fun _ h9 => List.mem_cons_of_mem _ (List.mem_append_right _ (h9))) rfl 6 (by decide) (List.mem_of_getElem? (i := 3) rfl) (Or.inl rfl) rfl dX12_count_54 ?_
      exact zz_iret C rfl rfl (fun _ h9 => h9) (Nat.zero_le _) (Nat.zero_le _) dX12_count_57
    · skip
      refine zz_ite (fun h4 => ?_) (fun h4 => ?_)
      · refine zz_tblIn (off := 50) (tgt := 58) C dX12_count_8 (by rw [h4]; decide) (by rw [h4]; decide) (by rw [h4]; rfl) (by decide) ?_
        refine zz_aload_n C dX12_count_58 rfl 1 rfl ?_
        refine zz_get C zzM_obj (fun _ h9 => List.mem_cons_of_mem _ (List.mem_append_right _ (h9))) rfl 5 (by decide) (List.mem_of_getElem? (i := 4) rfl) (Or.inl rfl) rfl dX12_count_59 ?_
        exact zz_iret C rfl rfl (fun _ h9 => h9) (Nat.zero_le _) (Nat.zero_le _) dX12_count_62
      · skip
        refine zz_ite (fun h5 => ?_) (fun h5 => ?_)
        · refine zz_tblIn (off := 55) (tgt := 63) C dX12_count_8 (by rw [h5]; decide) (by rw [h5]; decide) (by rw [h5]; rfl) (by decide) ?_
          refine zz_aload_n C dX12_count_63 rfl 1 rfl ?_
          refine zz_callV C (Cn := RX12) (b := zzad Z 36) (fun H hH => zz_recv C.2.2.2 (zzM_obj H hH) rfl) (As := []) (rest := []) rfl (k_X12_allTurned σ1) (cwV 0 C.1.2.2.2.2 gX12_count_X12_allTurned rfl rfl rfl (by decide +kernel) ⟨Nat.le_of_ble_eq_true rfl, Nat.le_of_ble_eq_true rfl⟩) rfl (Nat.le_of_ble_eq_true rfl) ⟨Nat.zero_le _, Nat.zero_le _⟩ dX12_count_64 (zz_kI rfl rfl (fun r8 σ9 => ?_))
          exact zz_iret C rfl rfl (fun _ h9 => h9) (Nat.zero_le _) (Nat.zero_le _) dX12_count_67
        · skip
          refine zz_ite (fun h6 => ?_) (fun h6 => ?_)
          · refine zz_tblIn (off := 60) (tgt := 68) C dX12_count_8 (by rw [h6]; decide) (by rw [h6]; decide) (by rw [h6]; rfl) (by decide) ?_
            refine zz_iconst (v := 0) C dX12_count_68 (by decide) ?_
            refine zz_istore_n (loc' := [(3, .int (0 : Int32)), (2, .int (0 : Int32)), (0, .ref (zzad Z 36)), (1, .int p0)]) C dX12_count_69 rfl (by decide) rfl ?_
            refine zz_sub (loc' := [(0, .ref (zzad Z 36)), (2, .int (0 : Int32)), (3, .int (0 : Int32))]) [2, 1, 0] rfl ?_
            exact w_X12_count_70 C p0 200 (0 : Int32) (0 : Int32) σ1
          · skip
            refine zz_ite (fun h7 => ?_) (fun h7 => ?_)
            · refine zz_tblIn (off := 86) (tgt := 94) C dX12_count_8 (by rw [h7]; decide) (by rw [h7]; decide) (by rw [h7]; rfl) (by decide) ?_
              refine zz_iconst (v := 0) C dX12_count_94 (by decide) ?_
              refine zz_istore_n (loc' := [(3, .int (0 : Int32)), (2, .int (0 : Int32)), (0, .ref (zzad Z 36)), (1, .int p0)]) C dX12_count_95 rfl (by decide) rfl ?_
              refine zz_sub (loc' := [(0, .ref (zzad Z 36)), (2, .int (0 : Int32)), (3, .int (0 : Int32))]) [2, 1, 0] rfl ?_
              exact w_X12_count_96 C p0 200 (0 : Int32) (0 : Int32) σ1
            · skip
              refine zz_tblOut (tgt := 133) C dX12_count_8 (by have := lv_neT h2 (a := 0) (by decide); have := lv_neT h3 (a := 1) (by decide); have := lv_neT h4 (a := 2) (by decide); have := lv_neT h5 (a := 3) (by decide); have := lv_neT h6 (a := 4) (by decide); have := lv_neT h7 (a := 5) (by decide); omega) (by decide) ?_
              refine zz_iconst (v := -1) C dX12_count_133 (by decide) ?_
              exact zz_iret C rfl rfl (fun _ h9 => h9) (Nat.zero_le _) (Nat.zero_le _) dX12_count_134
set_option maxHeartbeats 4000000 in
set_option maxRecDepth 100000 in
theorem k_X12_count {l : Launch} {Z : zzG} {base : Nat} {PL : Nat → Option (Nat × Int32)} {mm : zzS} (p0 : Int32)  (σ : zzS) : zzCT l yX12_count wsX12_count rX12_count (zzA base) Z (zzM Z base PL mm) (zzM Z base PL mm) zzRI [.ref (zzad Z 36), .int p0] (f_X12_count p0 σ) σ :=
  zzCT_of (cc := cX12_count) (nL := 4) (ret := (some .int)) (by decide) rfl (Nat.le_of_ble_eq_true rfl) [(0, .ref (zzad Z 36)), (1, .int p0)] rfl (fun p e s m args below meth c C => w_X12_count_e C p0 σ)
abbrev rX12_keep : Room := { frames := 1, cells := 0, slots := 0, locals := 25 }

set_option maxHeartbeats 4000000 in
set_option maxRecDepth 100000 in
theorem w_X12_keep_81 {l : Launch} {Z : zzG} {base : Nat} {PL : Nat → Option (Nat × Int32)} {mm : zzS} {p : Program} {e : Env} {s : State} {m : MethodId} {args : Array Value} {below : List Frame} {meth : Method} {c : Code} (C : zzCx p m meth c s args cX12_keep 5 wsX12_keep RX12 (some .int) Z) (p0 : Int32)  (p1 : Int32)  (p2 : Int32)  (p3 : Int32)   (s0 : Int32)  (s1 : Int32)  (σ : zzS) : zzGO p l e rX12_keep s m args below meth c 5 (zzA base) (zzM Z base PL mm) (zzM Z base PL mm) zzRI rX12_keep.cells rX12_keep.slots (f_X12_keep_81 p0 p1 p2 p3 s0 s1 σ) σ 0 0 81 [(0, .ref (zzad Z 36)), (1, .int p0), (2, .int p1), (4, .int p3)] [.int s0, .int s1, .ref (zzad Z 42)] := by
  unfold f_X12_keep_81
  refine zz_gd (fun h1 => ?_)
  refine zz_iast C (zzM_arr (by decide)) h1 (zzM_uarr (by decide)) (zzA_M (zzMarr_lt (by decide))) dX12_keep_81 ?_
  refine zz_ltS (fun σ2 => ?_)
  refine zz_aload_n C dX12_keep_82 rfl 0 rfl ?_
  refine zz_get C zzM_obj (fun _ h9 => List.mem_cons_of_mem _ (List.mem_append_right _ (h9))) rfl 9 (by decide) (List.mem_of_getElem? (i := 6) rfl) (Or.inl rfl) rfl dX12_keep_83 ?_
  refine zz_iload_n C dX12_keep_86 rfl 1 rfl ?_
  refine zz_iload_n C dX12_keep_87 rfl 2 rfl ?_
  refine zz_iconst (v := 1) C dX12_keep_88 (by decide) ?_
  refine zz_icmp_ne (tgt := 97) C dX12_keep_89 (by decide) (fun h3 => ?_) (fun h3 => ?_)
  · refine zz_iconst (v := 0) C dX12_keep_97 (by decide) ?_
    refine zz_gd (fun h4 => ?_)
    refine zz_iast C (zzM_arr (by decide)) h4 (zzM_uarr (by decide)) (zzA_M (zzMarr_lt (by decide))) dX12_keep_98 ?_
    refine zz_ltS (fun σ5 => ?_)
    refine zz_iconst (v := 0) C dX12_keep_99 (by decide) ?_
    exact zz_iret C rfl rfl (fun _ h9 => h9) (Nat.zero_le _) (Nat.zero_le _) dX12_keep_100
  · refine zz_iload C dX12_keep_92 3 rfl ?_
    refine zz_goto (tgt := 98) C dX12_keep_94 (by decide) ?_
    refine zz_gd (fun h6 => ?_)
    refine zz_iast C (zzM_arr (by decide)) h6 (zzM_uarr (by decide)) (zzA_M (zzMarr_lt (by decide))) dX12_keep_98 ?_
    refine zz_ltS (fun σ7 => ?_)
    refine zz_iconst (v := 0) C dX12_keep_99 (by decide) ?_
    exact zz_iret C rfl rfl (fun _ h9 => h9) (Nat.zero_le _) (Nat.zero_le _) dX12_keep_100
set_option maxHeartbeats 4000000 in
set_option maxRecDepth 100000 in
theorem w_X12_keep_59 {l : Launch} {Z : zzG} {base : Nat} {PL : Nat → Option (Nat × Int32)} {mm : zzS} {p : Program} {e : Env} {s : State} {m : MethodId} {args : Array Value} {below : List Frame} {meth : Method} {c : Code} (C : zzCx p m meth c s args cX12_keep 5 wsX12_keep RX12 (some .int) Z) (p0 : Int32)  (p1 : Int32)  (p2 : Int32)  (p3 : Int32)    (σ : zzS) : zzGO p l e rX12_keep s m args below meth c 5 (zzA base) (zzM Z base PL mm) (zzM Z base PL mm) zzRI rX12_keep.cells rX12_keep.slots (f_X12_keep_59 p0 p1 p2 p3 σ) σ 0 0 59 [(0, .ref (zzad Z 36)), (1, .int p0), (2, .int p1), (3, .int p2), (4, .int p3)] [] := by
  unfold f_X12_keep_59
  refine zz_aload_n C dX12_keep_59 rfl 0 rfl ?_
  refine zz_get C zzM_obj (fun _ h9 => List.mem_cons_of_mem _ (List.mem_append_right _ (h9))) rfl 7 (by decide) (List.mem_of_getElem? (i := 4) rfl) (Or.inl rfl) rfl dX12_keep_60 ?_
  refine zz_iload_n C dX12_keep_63 rfl 1 rfl ?_
  refine zz_iload_n C dX12_keep_64 rfl 2 rfl ?_
  refine zz_gd (fun h1 => ?_)
  refine zz_iast C (zzM_arr (by decide)) h1 (zzM_uarr (by decide)) (zzA_M (zzMarr_lt (by decide))) dX12_keep_65 ?_
  refine zz_ltS (fun σ2 => ?_)
  refine zz_aload_n C dX12_keep_66 rfl 0 rfl ?_
  refine zz_get C zzM_obj (fun _ h9 => List.mem_cons_of_mem _ (List.mem_append_right _ (h9))) rfl 8 (by decide) (List.mem_of_getElem? (i := 5) rfl) (Or.inl rfl) rfl dX12_keep_67 ?_
  refine zz_iload_n C dX12_keep_70 rfl 1 rfl ?_
  refine zz_iload_n C dX12_keep_71 rfl 2 rfl ?_
  refine zz_iconst (v := 1) C dX12_keep_72 (by decide) ?_
  refine zz_icmp_ne (tgt := 80) C dX12_keep_73 (by decide) (fun h3 => ?_) (fun h3 => ?_)
  · refine zz_iconst (v := 0) C dX12_keep_80 (by decide) ?_
    refine zz_sub (loc' := [(0, .ref (zzad Z 36)), (1, .int p0), (2, .int p1), (4, .int p3)]) [0, 1, 2, 4] rfl ?_
    exact w_X12_keep_81 C p0 p1 p2 p3 (0 : Int32) p0 σ2
  · refine zz_iload_n C dX12_keep_76 rfl 3 rfl ?_
    refine zz_goto (tgt := 81) C dX12_keep_77 (by decide) ?_
    refine zz_sub (loc' := [(0, .ref (zzad Z 36)), (1, .int p0), (2, .int p1), (4, .int p3)]) [0, 1, 2, 4] rfl ?_
    exact w_X12_keep_81 C p0 p1 p2 p3 p2 p0 σ2
set_option maxHeartbeats 4000000 in
set_option maxRecDepth 100000 in
theorem w_X12_keep_e {l : Launch} {Z : zzG} {base : Nat} {PL : Nat → Option (Nat × Int32)} {mm : zzS} {p : Program} {e : Env} {s : State} {m : MethodId} {args : Array Value} {below : List Frame} {meth : Method} {c : Code} (C : zzCx p m meth c s args cX12_keep 5 wsX12_keep RX12 (some .int) Z) (p0 : Int32)  (p1 : Int32)  (p2 : Int32)  (p3 : Int32)  (σ : zzS) : zzGO p l e rX12_keep s m args below meth c 5 (zzA base) (zzM Z base PL mm) (zzM Z base PL mm) zzRI rX12_keep.cells rX12_keep.slots (f_X12_keep p0 p1 p2 p3 σ) σ 0 0 0 [(0, .ref (zzad Z 36)), (1, .int p0), (2, .int p1), (3, .int p2), (4, .int p3)] [] := by
  unfold f_X12_keep
  refine zz_aload_n C dX12_keep_0 rfl 0 rfl ?_
  refine zz_iconst (v := 0) C dX12_keep_1 (by decide) ?_
  refine zz_put (ty := .int) C zzM_obj (fun _ h9 => List.mem_cons_of_mem _ (List.mem_append_right _ (h9))) rfl 13 (by decide) (List.mem_of_getElem? (i := 1) rfl) rfl tyX12_ok nmX12 rfl (by decide +kernel) rfl rfl (Nat.le_of_ble_eq_true rfl) (zzM_uobj (by decide)) (zzA_M (by decide)) dX12_keep_2 ?_
  refine zz_ltS (fun σ1 => ?_)
  refine zz_iload_n C dX12_keep_5 rfl 1 rfl ?_
  refine zz_i2l C dX12_keep_6 ?_
  refine zz_lconst (v := 0) C dX12_keep_7 (by decide) ?_
  refine zz_ldc2 (v := 7) C (C.1.2.2.2.2 _ (List.mem_of_getElem? (i := 2) rfl)) dX12_keep_8 ?_
  refine zz_callS (As := [.long (Int32.toInt64 p0), .long (0 : Int64), .long (7 : Int64)]) (rest := []) C rfl (k_X12_in (Int32.toInt64 p0) (0 : Int64) (7 : Int64) σ1) (va_cwS 3 C.1.2.2.2.2 gX12_keep_X12_in rfl rfl rfl (by decide +kernel) ⟨Nat.le_of_ble_eq_true rfl, Nat.le_of_ble_eq_true rfl⟩) rfl (Nat.le_of_ble_eq_true rfl) ⟨Nat.zero_le _, Nat.zero_le _⟩ dX12_keep_11 (zz_kI rfl rfl (fun r2 σ3 => ?_))
  refine zz_if_eq (tgt := 57) C dX12_keep_14 (by decide) (fun h4 => ?_) (fun h4 => ?_)
  · refine zz_iconst (v := -1) C dX12_keep_57 (by decide) ?_
    exact zz_iret C rfl rfl (fun _ h9 => h9) (Nat.zero_le _) (Nat.zero_le _) dX12_keep_58
  · refine zz_iload_n C dX12_keep_17 rfl 2 rfl ?_
    refine zz_i2l C dX12_keep_18 ?_
    refine zz_lconst (v := 0) C dX12_keep_19 (by decide) ?_
    refine zz_lconst (v := 1) C dX12_keep_20 (by decide) ?_
    refine zz_callS (As := [.long (Int32.toInt64 p1), .long (0 : Int64), .long (1 : Int64)]) (rest := []) C rfl (k_X12_in (Int32.toInt64 p1) (0 : Int64) (1 : Int64) σ3) (va_cwS 3 C.1.2.2.2.2 gX12_keep_X12_in rfl rfl rfl (by decide +kernel) ⟨Nat.le_of_ble_eq_true rfl, Nat.le_of_ble_eq_true rfl⟩) rfl (Nat.le_of_ble_eq_true rfl) ⟨Nat.zero_le _, Nat.zero_le _⟩ dX12_keep_21 (zz_kI rfl rfl (fun r5 σ6 => ?_))
    refine zz_if_eq (tgt := 57) C dX12_keep_24 (by decide) (fun h7 => ?_) (fun h7 => ?_)
    · refine zz_iconst (v := -1) C dX12_keep_57 (by decide) ?_
      exact zz_iret C rfl rfl (fun _ h9 => h9) (Nat.zero_le _) (Nat.zero_le _) dX12_keep_58
    · refine zz_iload_n C dX12_keep_27 rfl 2 rfl ?_
      refine zz_iconst (v := 1) C dX12_keep_28 (by decide) ?_
      refine zz_icmp_ne (tgt := 59) C dX12_keep_29 (by decide) (fun h8 => ?_) (fun h8 => ?_)
      · refine zz_sub (loc' := [(0, .ref (zzad Z 36)), (1, .int p0), (2, .int p1), (3, .int p2), (4, .int p3)]) [0, 1, 2, 3, 4] rfl ?_
        exact w_X12_keep_59 C p0 p1 p2 p3 σ6
      · refine zz_iload_n C dX12_keep_32 rfl 3 rfl ?_
        refine zz_i2l C dX12_keep_33 ?_
        refine zz_lconst (v := 0) C dX12_keep_34 (by decide) ?_
        refine zz_ldc2 (v := 7) C (C.1.2.2.2.2 _ (List.mem_of_getElem? (i := 2) rfl)) dX12_keep_35 ?_
        refine zz_callS (As := [.long (Int32.toInt64 p2), .long (0 : Int64), .long (7 : Int64)]) (rest := []) C rfl (k_X12_in (Int32.toInt64 p2) (0 : Int64) (7 : Int64) σ6) (va_cwS 3 C.1.2.2.2.2 gX12_keep_X12_in rfl rfl rfl (by decide +kernel) ⟨Nat.le_of_ble_eq_true rfl, Nat.le_of_ble_eq_true rfl⟩) rfl (Nat.le_of_ble_eq_true rfl) ⟨Nat.zero_le _, Nat.zero_le _⟩ dX12_keep_38 (zz_kI rfl rfl (fun r9 σ10 => ?_))
        refine zz_if_eq (tgt := 57) C dX12_keep_41 (by decide) (fun h11 => ?_) (fun h11 => ?_)
        · refine zz_iconst (v := -1) C dX12_keep_57 (by decide) ?_
          exact zz_iret C rfl rfl (fun _ h9 => h9) (Nat.zero_le _) (Nat.zero_le _) dX12_keep_58
        · refine zz_iload C dX12_keep_44 4 rfl ?_
          refine zz_i2l C dX12_keep_46 ?_
          refine zz_lconst (v := 0) C dX12_keep_47 (by decide) ?_
          refine zz_ldc2 (v := 9) C (C.1.2.2.2.2 _ (List.mem_of_getElem? (i := 3) rfl)) dX12_keep_48 ?_
          refine zz_callS (As := [.long (Int32.toInt64 p3), .long (0 : Int64), .long (9 : Int64)]) (rest := []) C rfl (k_X12_in (Int32.toInt64 p3) (0 : Int64) (9 : Int64) σ10) (va_cwS 3 C.1.2.2.2.2 gX12_keep_X12_in rfl rfl rfl (by decide +kernel) ⟨Nat.le_of_ble_eq_true rfl, Nat.le_of_ble_eq_true rfl⟩) rfl (Nat.le_of_ble_eq_true rfl) ⟨Nat.zero_le _, Nat.zero_le _⟩ dX12_keep_51 (zz_kI rfl rfl (fun r12 σ13 => ?_))
          refine zz_if_ne (tgt := 59) C dX12_keep_54 (by decide) (fun h14 => ?_) (fun h14 => ?_)
          · refine zz_sub (loc' := [(0, .ref (zzad Z 36)), (1, .int p0), (2, .int p1), (3, .int p2), (4, .int p3)]) [0, 1, 2, 3, 4] rfl ?_
            exact w_X12_keep_59 C p0 p1 p2 p3 σ13
          · refine zz_iconst (v := -1) C dX12_keep_57 (by decide) ?_
            exact zz_iret C rfl rfl (fun _ h9 => h9) (Nat.zero_le _) (Nat.zero_le _) dX12_keep_58
set_option maxHeartbeats 4000000 in
set_option maxRecDepth 100000 in
theorem k_X12_keep {l : Launch} {Z : zzG} {base : Nat} {PL : Nat → Option (Nat × Int32)} {mm : zzS} (p0 : Int32)  (p1 : Int32)  (p2 : Int32)  (p3 : Int32)  (σ : zzS) : zzCT l yX12_keep wsX12_keep rX12_keep (zzA base) Z (zzM Z base PL mm) (zzM Z base PL mm) zzRI [.ref (zzad Z 36), .int p0, .int p1, .int p2, .int p3] (f_X12_keep p0 p1 p2 p3 σ) σ :=
  zzCT_of (cc := cX12_keep) (nL := 5) (ret := (some .int)) (by decide) rfl (Nat.le_of_ble_eq_true rfl) [(0, .ref (zzad Z 36)), (1, .int p0), (2, .int p1), (3, .int p2), (4, .int p3)] rfl (fun p e s m args below meth c C => w_X12_keep_e C p0 p1 p2 p3 σ)
abbrev rX12_narrowed : Room := { frames := 0, cells := 0, slots := 0, locals := 0 }

set_option maxHeartbeats 4000000 in
set_option maxRecDepth 100000 in
theorem w_X12_narrowed_e {l : Launch} {Z : zzG} {base : Nat} {PL : Nat → Option (Nat × Int32)} {mm : zzS} {p : Program} {e : Env} {s : State} {m : MethodId} {args : Array Value} {below : List Frame} {meth : Method} {c : Code} (C : zzCx p m meth c s args cX12_narrowed 2 wsX12_narrowed RX12 (some .long) Z) (p0 : Int32)  (p1 : Int32)  (σ : zzS) : zzGO p l e rX12_narrowed s m args below meth c 2 (zzA base) (zzM Z base PL mm) (zzM Z base PL mm) zzRL rX12_narrowed.cells rX12_narrowed.slots (f_X12_narrowed p0 p1 σ) σ 0 0 0 [(0, .int p0), (1, .int p1)] [] := by
  unfold f_X12_narrowed
  refine zz_iload_n C dX12_narrowed_0 rfl 1 rfl ?_
  refine zz_if_ne (tgt := 10) C dX12_narrowed_1 (by decide) (fun h1 => ?_) (fun h1 => ?_)
  · refine zz_iload_n C dX12_narrowed_10 rfl 1 rfl ?_
    refine zz_iconst (v := 1) C dX12_narrowed_11 (by decide) ?_
    refine zz_icmp_ne (tgt := 21) C dX12_narrowed_12 (by decide) (fun h2 => ?_) (fun h2 => ?_)
    · refine zz_iload_n C dX12_narrowed_21 rfl 0 rfl ?_
      refine zz_i2l C dX12_narrowed_22 ?_
      exact zz_lret C rfl rfl (fun _ h9 => h9) (Nat.zero_le _) (Nat.zero_le _) dX12_narrowed_23
    · refine zz_iload_n C dX12_narrowed_15 rfl 0 rfl ?_
      refine zz_i2s C dX12_narrowed_16 ?_
      refine zz_i2l C dX12_narrowed_17 ?_
      refine zz_goto (tgt := 23) C dX12_narrowed_18 (by decide) ?_
      exact zz_lret C rfl rfl (fun _ h9 => h9) (Nat.zero_le _) (Nat.zero_le _) dX12_narrowed_23
  · refine zz_iload_n C dX12_narrowed_4 rfl 0 rfl ?_
    refine zz_i2b C dX12_narrowed_5 ?_
    refine zz_i2l C dX12_narrowed_6 ?_
    refine zz_goto (tgt := 23) C dX12_narrowed_7 (by decide) ?_
    exact zz_lret C rfl rfl (fun _ h9 => h9) (Nat.zero_le _) (Nat.zero_le _) dX12_narrowed_23
set_option maxHeartbeats 4000000 in
set_option maxRecDepth 100000 in
theorem k_X12_narrowed {l : Launch} {Z : zzG} {base : Nat} {PL : Nat → Option (Nat × Int32)} {mm : zzS} (p0 : Int32)  (p1 : Int32)  (σ : zzS) : zzCT l yX12_narrowed wsX12_narrowed rX12_narrowed (zzA base) Z (zzM Z base PL mm) (zzM Z base PL mm) zzRL [.int p0, .int p1] (f_X12_narrowed p0 p1 σ) σ :=
  zzCT_of (cc := cX12_narrowed) (nL := 2) (ret := (some .long)) (by decide) rfl (Nat.le_of_ble_eq_true rfl) [(0, .int p0), (1, .int p1)] rfl (fun p e s m args below meth c C => w_X12_narrowed_e C p0 p1 σ)
abbrev rX12_row : Room := { frames := 1, cells := 0, slots := 0, locals := 25 }

set_option maxHeartbeats 4000000 in
set_option maxRecDepth 100000 in
theorem w_X12_row_68b {l : Launch} {Z : zzG} {base : Nat} {PL : Nat → Option (Nat × Int32)} {mm : zzS} {p : Program} {e : Env} {s : State} {m : MethodId} {args : Array Value} {below : List Frame} {meth : Method} {c : Code} (C : zzCx p m meth c s args cX12_row 5 wsX12_row RX12 (some .int) Z) (p0 : Int32)  (p1 : Int32)  (p2 : Int32)   (k68 : Int32 → zzS → Option (Int32 × zzS)) (hk68 : ∀ (l4 : Int32)  (σ : zzS), zzGO p l e rX12_row s m args below meth c 5 (zzA base) (zzM Z base PL mm) (zzM Z base PL mm) zzRI rX12_row.cells rX12_row.slots (k68 l4 σ) σ 0 0 68 [(0, .ref (zzad Z 36)), (1, .int p0), (4, .int l4)] []) (l4 : Int32)  (σ : zzS) : zzGO p l e rX12_row s m args below meth c 5 (zzA base) (zzM Z base PL mm) (zzM Z base PL mm) zzRI rX12_row.cells rX12_row.slots (f_X12_row_68b k68 p0 p1 p2 l4 σ) σ 0 0 68 [(0, .ref (zzad Z 36)), (1, .int p0), (4, .int l4)] [] := by
  unfold f_X12_row_68b
  refine zz_iload C dX12_row_68 2 rfl ?_
  refine zz_bipush (v := 100) C dX12_row_70 (by decide) ?_
  refine zz_icmp_ge (tgt := 94) C dX12_row_72 (by decide) (fun h1 => ?_) (fun h1 => ?_)
  · refine zz_iconst (v := 0) C dX12_row_94 (by decide) ?_
    exact zz_iret C rfl rfl (fun _ h9 => h9) (Nat.zero_le _) (Nat.zero_le _) dX12_row_95
  · refine zz_aload_n C dX12_row_75 rfl 0 rfl ?_
    refine zz_get C zzM_obj (fun _ h9 => List.mem_cons_of_mem _ (List.mem_append_right _ (h9))) rfl 12 (by decide) (List.mem_of_getElem? (i := 7) rfl) (Or.inl rfl) rfl dX12_row_76 ?_
    refine zz_bipush (v := 100) C dX12_row_79 (by decide) ?_
    refine zz_iload_n C dX12_row_81 rfl 1 rfl ?_
    refine zz_imul C dX12_row_82 ?_
    refine zz_iload C dX12_row_83 2 rfl ?_
    refine zz_iadd C dX12_row_85 ?_
    refine zz_lconst (v := 0) C dX12_row_86 (by decide) ?_
    refine zz_gd (fun h2 => ?_)
    refine zz_last C zzM_rows h2 zzM_urows (zzA_M (by decide)) dX12_row_87 ?_
    refine zz_ltS (fun σ3 => ?_)
    refine zz_iincX (d := 1) (locf := fun x4 => [(4, .int x4), (0, .ref (zzad Z 36)), (1, .int p0)]) C dX12_row_88 (k := 2) rfl (by decide) (by decide) (fun _ => rfl) (fun x4 => ?_)
    refine zz_goto (tgt := 68) C dX12_row_91 (by decide) ?_
    refine zz_sub (loc' := [(0, .ref (zzad Z 36)), (1, .int p0), (4, .int x4)]) [1, 2, 0] rfl ?_
    exact hk68 x4 σ3
set_option maxHeartbeats 4000000 in
set_option maxRecDepth 100000 in
theorem w_X12_row_68 {l : Launch} {Z : zzG} {base : Nat} {PL : Nat → Option (Nat × Int32)} {mm : zzS} {p : Program} {e : Env} {s : State} {m : MethodId} {args : Array Value} {below : List Frame} {meth : Method} {c : Code} (C : zzCx p m meth c s args cX12_row 5 wsX12_row RX12 (some .int) Z) (p0 : Int32)  (p1 : Int32)  (p2 : Int32)   (n : Nat) : ∀ (l4 : Int32)  (σ : zzS), zzGO p l e rX12_row s m args below meth c 5 (zzA base) (zzM Z base PL mm) (zzM Z base PL mm) zzRI rX12_row.cells rX12_row.slots (f_X12_row_68 p0 p1 p2 n l4 σ) σ 0 0 68 [(0, .ref (zzad Z 36)), (1, .int p0), (4, .int l4)] [] := by
  induction n with
  | zero => exact fun _ _ r9 s9 h9 => by cases h9
  | succ n ih => exact w_X12_row_68b C p0 p1 p2 _ ih
set_option maxHeartbeats 4000000 in
set_option maxRecDepth 100000 in
theorem w_X12_row_e {l : Launch} {Z : zzG} {base : Nat} {PL : Nat → Option (Nat × Int32)} {mm : zzS} {p : Program} {e : Env} {s : State} {m : MethodId} {args : Array Value} {below : List Frame} {meth : Method} {c : Code} (C : zzCx p m meth c s args cX12_row 5 wsX12_row RX12 (some .int) Z) (p0 : Int32)  (p1 : Int32)  (p2 : Int32)  (σ : zzS) : zzGO p l e rX12_row s m args below meth c 5 (zzA base) (zzM Z base PL mm) (zzM Z base PL mm) zzRI rX12_row.cells rX12_row.slots (f_X12_row p0 p1 p2 σ) σ 0 0 0 [(0, .ref (zzad Z 36)), (1, .int p0), (2, .int p1), (3, .int p2)] [] := by
  unfold f_X12_row
  refine zz_aload_n C dX12_row_0 rfl 0 rfl ?_
  refine zz_iconst (v := 0) C dX12_row_1 (by decide) ?_
  refine zz_put (ty := .int) C zzM_obj (fun _ h9 => List.mem_cons_of_mem _ (List.mem_append_right _ (h9))) rfl 13 (by decide) (List.mem_of_getElem? (i := 1) rfl) rfl tyX12_ok nmX12 rfl (by decide +kernel) rfl rfl (Nat.le_of_ble_eq_true rfl) (zzM_uobj (by decide)) (zzA_M (by decide)) dX12_row_2 ?_
  refine zz_ltS (fun σ1 => ?_)
  refine zz_iload_n C dX12_row_5 rfl 1 rfl ?_
  refine zz_i2l C dX12_row_6 ?_
  refine zz_lconst (v := 0) C dX12_row_7 (by decide) ?_
  refine zz_ldc2 (v := 7) C (C.1.2.2.2.2 _ (List.mem_of_getElem? (i := 2) rfl)) dX12_row_8 ?_
  refine zz_callS (As := [.long (Int32.toInt64 p0), .long (0 : Int64), .long (7 : Int64)]) (rest := []) C rfl (k_X12_in (Int32.toInt64 p0) (0 : Int64) (7 : Int64) σ1) (va_cwS 3 C.1.2.2.2.2 gX12_row_X12_in rfl rfl rfl (by decide +kernel) ⟨Nat.le_of_ble_eq_true rfl, Nat.le_of_ble_eq_true rfl⟩) rfl (Nat.le_of_ble_eq_true rfl) ⟨Nat.zero_le _, Nat.zero_le _⟩ dX12_row_11 (zz_kI rfl rfl (fun r2 σ3 => ?_))
  refine zz_if_eq (tgt := 35) C dX12_row_14 (by decide) (fun h4 => ?_) (fun h4 => ?_)
  · refine zz_iconst (v := -1) C dX12_row_35 (by decide) ?_
    exact zz_iret C rfl rfl (fun _ h9 => h9) (Nat.zero_le _) (Nat.zero_le _) dX12_row_36
  · refine zz_iload_n C dX12_row_17 rfl 2 rfl ?_
    refine zz_i2l C dX12_row_18 ?_
    refine zz_lconst (v := 0) C dX12_row_19 (by decide) ?_
    refine zz_ldc2 (v := 2) C (C.1.2.2.2.2 _ (List.mem_of_getElem? (i := 3) rfl)) dX12_row_20 ?_
    refine zz_callS (As := [.long (Int32.toInt64 p1), .long (0 : Int64), .long (2 : Int64)]) (rest := []) C rfl (k_X12_in (Int32.toInt64 p1) (0 : Int64) (2 : Int64) σ3) (va_cwS 3 C.1.2.2.2.2 gX12_row_X12_in rfl rfl rfl (by decide +kernel) ⟨Nat.le_of_ble_eq_true rfl, Nat.le_of_ble_eq_true rfl⟩) rfl (Nat.le_of_ble_eq_true rfl) ⟨Nat.zero_le _, Nat.zero_le _⟩ dX12_row_23 (zz_kI rfl rfl (fun r5 σ6 => ?_))
    refine zz_if_eq (tgt := 35) C dX12_row_26 (by decide) (fun h7 => ?_) (fun h7 => ?_)
    · refine zz_iconst (v := -1) C dX12_row_35 (by decide) ?_
      exact zz_iret C rfl rfl (fun _ h9 => h9) (Nat.zero_le _) (Nat.zero_le _) dX12_row_36
    · refine zz_iload_n C dX12_row_29 rfl 3 rfl ?_
      refine zz_bipush (v := 100) C dX12_row_30 (by decide) ?_
      refine zz_icmp_le (tgt := 37) C dX12_row_32 (by decide) (fun h8 => ?_) (fun h8 => ?_)
      · refine zz_iload_n C dX12_row_37 rfl 3 rfl ?_
        refine zz_if_ge (tgt := 44) C dX12_row_38 (by decide) (fun h9 => ?_) (fun h9 => ?_)
        · refine zz_aload_n C dX12_row_44 rfl 0 rfl ?_
          refine zz_get C zzM_obj (fun _ h9 => List.mem_cons_of_mem _ (List.mem_append_right _ (h9))) rfl 7 (by decide) (List.mem_of_getElem? (i := 4) rfl) (Or.inl rfl) rfl dX12_row_45 ?_
          refine zz_iload_n C dX12_row_48 rfl 1 rfl ?_
          refine zz_iconst (v := 2) C dX12_row_49 (by decide) ?_
          refine zz_gd (fun h10 => ?_)
          refine zz_iast C (zzM_arr (by decide)) h10 (zzM_uarr (by decide)) (zzA_M (zzMarr_lt (by decide))) dX12_row_50 ?_
          refine zz_ltS (fun σ11 => ?_)
          refine zz_aload_n C dX12_row_51 rfl 0 rfl ?_
          refine zz_get C zzM_obj (fun _ h9 => List.mem_cons_of_mem _ (List.mem_append_right _ (h9))) rfl 10 (by decide) (List.mem_of_getElem? (i := 5) rfl) (Or.inl rfl) rfl dX12_row_52 ?_
          refine zz_iload_n C dX12_row_55 rfl 1 rfl ?_
          refine zz_iload_n C dX12_row_56 rfl 2 rfl ?_
          refine zz_gd (fun h12 => ?_)
          refine zz_iast C (zzM_arr (by decide)) h12 (zzM_uarr (by decide)) (zzA_M (zzMarr_lt (by decide))) dX12_row_57 ?_
          refine zz_ltS (fun σ13 => ?_)
          refine zz_aload_n C dX12_row_58 rfl 0 rfl ?_
          refine zz_get C zzM_obj (fun _ h9 => List.mem_cons_of_mem _ (List.mem_append_right _ (h9))) rfl 11 (by decide) (List.mem_of_getElem? (i := 6) rfl) (Or.inl rfl) rfl dX12_row_59 ?_
          refine zz_iload_n C dX12_row_62 rfl 1 rfl ?_
          refine zz_iload_n C dX12_row_63 rfl 3 rfl ?_
          refine zz_gd (fun h14 => ?_)
          refine zz_iast C (zzM_arr (by decide)) h14 (zzM_uarr (by decide)) (zzA_M (zzMarr_lt (by decide))) dX12_row_64 ?_
          refine zz_ltS (fun σ15 => ?_)
          refine zz_iconst (v := 0) C dX12_row_65 (by decide) ?_
          refine zz_istore (loc' := [(4, .int (0 : Int32)), (0, .ref (zzad Z 36)), (1, .int p0), (2, .int p1), (3, .int p2)]) C dX12_row_66 (by decide) rfl ?_
          refine zz_sub (loc' := [(0, .ref (zzad Z 36)), (1, .int p0), (4, .int (0 : Int32))]) [1, 2, 0] rfl ?_
          exact w_X12_row_68 C p0 p1 p2 200 (0 : Int32) σ15
        · refine zz_bipush (v := -14) C dX12_row_41 (by decide) ?_
          exact zz_iret C rfl rfl (fun _ h9 => h9) (Nat.zero_le _) (Nat.zero_le _) dX12_row_43
      · refine zz_iconst (v := -1) C dX12_row_35 (by decide) ?_
        exact zz_iret C rfl rfl (fun _ h9 => h9) (Nat.zero_le _) (Nat.zero_le _) dX12_row_36
set_option maxHeartbeats 4000000 in
set_option maxRecDepth 100000 in
theorem k_X12_row {l : Launch} {Z : zzG} {base : Nat} {PL : Nat → Option (Nat × Int32)} {mm : zzS} (p0 : Int32)  (p1 : Int32)  (p2 : Int32)  (σ : zzS) : zzCT l yX12_row wsX12_row rX12_row (zzA base) Z (zzM Z base PL mm) (zzM Z base PL mm) zzRI [.ref (zzad Z 36), .int p0, .int p1, .int p2] (f_X12_row p0 p1 p2 σ) σ :=
  zzCT_of (cc := cX12_row) (nL := 5) (ret := (some .int)) (by decide) rfl (Nat.le_of_ble_eq_true rfl) [(0, .ref (zzad Z 36)), (1, .int p0), (2, .int p1), (3, .int p2)] rfl (fun p e s m args below meth c C => w_X12_row_e C p0 p1 p2 σ)
abbrev rX12_put : Room := { frames := 2, cells := 0, slots := 0, locals := 46 }

set_option maxHeartbeats 4000000 in
set_option maxRecDepth 100000 in
theorem w_X12_put_e {l : Launch} {Z : zzG} {base : Nat} {PL : Nat → Option (Nat × Int32)} {mm : zzS} {p : Program} {e : Env} {s : State} {m : MethodId} {args : Array Value} {below : List Frame} {meth : Method} {c : Code} (C : zzCx p m meth c s args cX12_put 5 wsX12_put RX12 (some .int) Z) (p0 : Int32)  (p1 : Int32)  (p2 : Int32)  (σ : zzS) : zzGO p l e rX12_put s m args below meth c 5 (zzA base) (zzM Z base PL mm) (zzM Z base PL mm) zzRI rX12_put.cells rX12_put.slots (f_X12_put p0 p1 p2 σ) σ 0 0 0 [(0, .ref (zzad Z 36)), (1, .int p0), (2, .int p1), (3, .int p2)] [] := by
  unfold f_X12_put
  refine zz_aload_n C dX12_put_0 rfl 0 rfl ?_
  refine zz_iconst (v := 0) C dX12_put_1 (by decide) ?_
  refine zz_put (ty := .int) C zzM_obj (fun _ h9 => List.mem_cons_of_mem _ (List.mem_append_right _ (h9))) rfl 13 (by decide) (List.mem_of_getElem? (i := 1) rfl) rfl tyX12_ok nmX12 rfl (by decide +kernel) rfl rfl (Nat.le_of_ble_eq_true rfl) (zzM_uobj (by decide)) (zzA_M (by decide)) dX12_put_2 ?_
  refine zz_ltS (fun σ1 => ?_)
  refine zz_aload_n C dX12_put_5 rfl 0 rfl ?_
  refine zz_iload_n C dX12_put_6 rfl 1 rfl ?_
  refine zz_callV C (Cn := RX12) (b := zzad Z 36) (fun H hH => zz_recv C.2.2.2 (zzM_obj H hH) rfl) (As := [.int p0]) (rest := []) rfl (k_X12_wrongRow p0 σ1) (cwV 1 C.1.2.2.2.2 gX12_put_X12_wrongRow rfl rfl rfl (by decide +kernel) ⟨Nat.le_of_ble_eq_true rfl, Nat.le_of_ble_eq_true rfl⟩) rfl (Nat.le_of_ble_eq_true rfl) ⟨Nat.zero_le _, Nat.zero_le _⟩ dX12_put_7 (zz_kI rfl rfl (fun r2 σ3 => ?_))
  refine zz_istore (loc' := [(4, .int r2), (0, .ref (zzad Z 36)), (1, .int p0), (2, .int p1), (3, .int p2)]) C dX12_put_10 (by decide) rfl ?_
  refine zz_iload C dX12_put_12 0 rfl ?_
  refine zz_if_ge (tgt := 20) C dX12_put_14 (by decide) (fun h4 => ?_) (fun h4 => ?_)
  · refine zz_iload_n C dX12_put_20 rfl 3 rfl ?_
    refine zz_i2l C dX12_put_21 ?_
    refine zz_lconst (v := 0) C dX12_put_22 (by decide) ?_
    refine zz_aload_n C dX12_put_23 rfl 1 rfl ?_
    refine zz_get C zzM_obj (fun _ h9 => List.mem_cons_of_mem _ (List.mem_append_right _ (h9))) rfl 11 (by decide) (List.mem_of_getElem? (i := 2) rfl) (Or.inl rfl) rfl dX12_put_24 ?_
    refine zz_iload_n C dX12_put_27 rfl 2 rfl ?_
    refine zz_gd (fun h5 => ?_)
    refine zz_iald C (zzM_arr (by decide)) h5 dX12_put_28 ?_
    refine zz_iconst (v := 1) C dX12_put_29 (by decide) ?_
    refine zz_isub C dX12_put_30 ?_
    refine zz_i2l C dX12_put_31 ?_
    refine zz_callS (As := [.long (Int32.toInt64 p1), .long (0 : Int64), .long (Int32.toInt64 ((zza σ3 45 (Int32.toNatClampNeg p0)) - (1 : Int32)))]) (rest := []) C rfl (k_X12_in (Int32.toInt64 p1) (0 : Int64) (Int32.toInt64 ((zza σ3 45 (Int32.toNatClampNeg p0)) - (1 : Int32))) σ3) (va_cwS 3 C.1.2.2.2.2 gX12_put_X12_in rfl rfl rfl (by decide +kernel) ⟨Nat.le_of_ble_eq_true rfl, Nat.le_of_ble_eq_true rfl⟩) rfl (Nat.le_of_ble_eq_true rfl) ⟨Nat.zero_le _, Nat.zero_le _⟩ dX12_put_32 (zz_kI rfl rfl (fun r6 σ7 => ?_))
    refine zz_if_ne (tgt := 41) C dX12_put_35 (by decide) (fun h8 => ?_) (fun h8 => ?_)
    · refine zz_aload_n C dX12_put_41 rfl 1 rfl ?_
      refine zz_get C zzM_obj (fun _ h9 => List.mem_cons_of_mem _ (List.mem_append_right _ (h9))) rfl 12 (by decide) (List.mem_of_getElem? (i := 3) rfl) (Or.inl rfl) rfl dX12_put_42 ?_
      refine zz_bipush (v := 100) C dX12_put_45 (by decide) ?_
      refine zz_iload_n C dX12_put_47 rfl 2 rfl ?_
      refine zz_imul C dX12_put_48 ?_
      refine zz_iload_n C dX12_put_49 rfl 3 rfl ?_
      refine zz_iadd C dX12_put_50 ?_
      refine zz_iload_n C dX12_put_51 rfl 4 rfl ?_
      refine zz_aload_n C dX12_put_52 rfl 1 rfl ?_
      refine zz_get C zzM_obj (fun _ h9 => List.mem_cons_of_mem _ (List.mem_append_right _ (h9))) rfl 10 (by decide) (List.mem_of_getElem? (i := 4) rfl) (Or.inl rfl) rfl dX12_put_53 ?_
      refine zz_iload_n C dX12_put_56 rfl 2 rfl ?_
      refine zz_gd (fun h9 => ?_)
      refine zz_iald C (zzM_arr (by decide)) h9 dX12_put_57 ?_
      refine zz_callS (As := [.int p2, .int (zza σ7 44 (Int32.toNatClampNeg p0))]) (rest := [.int (((100 : Int32) * p0) + p1), .ref (zzad Z 53)]) C rfl (k_X12_narrowed p2 (zza σ7 44 (Int32.toNatClampNeg p0)) σ7) (va_cwS 2 C.1.2.2.2.2 gX12_put_X12_narrowed rfl rfl rfl (by decide +kernel) ⟨Nat.le_of_ble_eq_true rfl, Nat.le_of_ble_eq_true rfl⟩) rfl (Nat.le_of_ble_eq_true rfl) ⟨Nat.zero_le _, Nat.zero_le _⟩ dX12_put_58 (zz_kL rfl rfl (fun r10 σ11 => ?_))
      refine zz_gd (fun h12 => ?_)
      refine zz_last C zzM_rows h12 zzM_urows (zzA_M (by decide)) dX12_put_61 ?_
      refine zz_ltS (fun σ13 => ?_)
      refine zz_iconst (v := 0) C dX12_put_62 (by decide) ?_
      exact zz_iret C rfl rfl (fun _ h9 => h9) (Nat.zero_le _) (Nat.zero_le _) dX12_put_63
    · refine zz_bipush (v := -13) C dX12_put_38 (by decide) ?_
      exact zz_iret C rfl rfl (fun _ h9 => h9) (Nat.zero_le _) (Nat.zero_le _) dX12_put_40
  · refine zz_iload C dX12_put_17 0 rfl ?_
    exact zz_iret C rfl rfl (fun _ h9 => h9) (Nat.zero_le _) (Nat.zero_le _) dX12_put_19
set_option maxHeartbeats 4000000 in
set_option maxRecDepth 100000 in
theorem k_X12_put {l : Launch} {Z : zzG} {base : Nat} {PL : Nat → Option (Nat × Int32)} {mm : zzS} (p0 : Int32)  (p1 : Int32)  (p2 : Int32)  (σ : zzS) : zzCT l yX12_put wsX12_put rX12_put (zzA base) Z (zzM Z base PL mm) (zzM Z base PL mm) zzRI [.ref (zzad Z 36), .int p0, .int p1, .int p2] (f_X12_put p0 p1 p2 σ) σ :=
  zzCT_of (cc := cX12_put) (nL := 5) (ret := (some .int)) (by decide) rfl (Nat.le_of_ble_eq_true rfl) [(0, .ref (zzad Z 36)), (1, .int p0), (2, .int p1), (3, .int p2)] rfl (fun p e s m args below meth c C => w_X12_put_e C p0 p1 p2 σ)
abbrev rX12_element : Room := { frames := 2, cells := 0, slots := 0, locals := 46 }

set_option maxHeartbeats 4000000 in
set_option maxRecDepth 100000 in
theorem w_X12_element_43 {l : Launch} {Z : zzG} {base : Nat} {PL : Nat → Option (Nat × Int32)} {mm : zzS} {p : Program} {e : Env} {s : State} {m : MethodId} {args : Array Value} {below : List Frame} {meth : Method} {c : Code} (C : zzCx p m meth c s args cX12_element 4 wsX12_element RX12 (some .long) Z) (p0 : Int32)  (p1 : Int32)   (s0 : Int32)  (σ : zzS) : zzGO p l e rX12_element s m args below meth c 4 (zzA base) (zzM Z base PL mm) (zzM Z base PL mm) zzRL rX12_element.cells rX12_element.slots (f_X12_element_43 p0 p1 s0 σ) σ 0 0 43 [(0, .ref (zzad Z 36)), (1, .int p0), (2, .int p1)] [.int s0, .ref (zzad Z 36)] := by
  unfold f_X12_element_43
  refine zz_put (ty := .int) C zzM_obj (fun _ h9 => List.mem_cons_of_mem _ (List.mem_append_right _ (h9))) rfl 13 (by decide) (List.mem_of_getElem? (i := 2) rfl) rfl tyX12_ok nmX12 rfl (by decide +kernel) rfl rfl (Nat.le_of_ble_eq_true rfl) (zzM_uobj (by decide)) (zzA_M (by decide)) dX12_element_43 ?_
  refine zz_ltS (fun σ1 => ?_)
  refine zz_aload_n C dX12_element_46 rfl 0 rfl ?_
  refine zz_get C zzM_obj (fun _ h9 => List.mem_cons_of_mem _ (List.mem_append_right _ (h9))) rfl 13 (by decide) (List.mem_of_getElem? (i := 2) rfl) (Or.inl rfl) rfl dX12_element_47 ?_
  refine zz_if_le (tgt := 57) C dX12_element_50 (by decide) (fun h2 => ?_) (fun h2 => ?_)
  · refine zz_aload_n C dX12_element_57 rfl 0 rfl ?_
    refine zz_get C zzM_obj (fun _ h9 => List.mem_cons_of_mem _ (List.mem_append_right _ (h9))) rfl 12 (by decide) (List.mem_of_getElem? (i := 3) rfl) (Or.inl rfl) rfl dX12_element_58 ?_
    refine zz_bipush (v := 100) C dX12_element_61 (by decide) ?_
    refine zz_iload_n C dX12_element_63 rfl 1 rfl ?_
    refine zz_imul C dX12_element_64 ?_
    refine zz_iload_n C dX12_element_65 rfl 2 rfl ?_
    refine zz_iadd C dX12_element_66 ?_
    refine zz_gd (fun h3 => ?_)
    refine zz_lald C zzM_rows h3 dX12_element_67 ?_
    exact zz_lret C rfl rfl (fun _ h9 => h9) (Nat.zero_le _) (Nat.zero_le _) dX12_element_68
  · refine zz_lconst (v := 0) C dX12_element_53 (by decide) ?_
    refine zz_goto (tgt := 68) C dX12_element_54 (by decide) ?_
    exact zz_lret C rfl rfl (fun _ h9 => h9) (Nat.zero_le _) (Nat.zero_le _) dX12_element_68
set_option maxHeartbeats 4000000 in
set_option maxRecDepth 100000 in
theorem w_X12_element_38 {l : Launch} {Z : zzG} {base : Nat} {PL : Nat → Option (Nat × Int32)} {mm : zzS} {p : Program} {e : Env} {s : State} {m : MethodId} {args : Array Value} {below : List Frame} {meth : Method} {c : Code} (C : zzCx p m meth c s args cX12_element 4 wsX12_element RX12 (some .long) Z) (p0 : Int32)  (p1 : Int32)    (σ : zzS) : zzGO p l e rX12_element s m args below meth c 4 (zzA base) (zzM Z base PL mm) (zzM Z base PL mm) zzRL rX12_element.cells rX12_element.slots (f_X12_element_38 p0 p1 σ) σ 0 0 38 [(0, .ref (zzad Z 36)), (1, .int p0), (2, .int p1)] [.ref (zzad Z 36)] := by
  unfold f_X12_element_38
  refine zz_iconst (v := 2) C dX12_element_38 (by decide) ?_
  refine zz_goto (tgt := 43) C dX12_element_39 (by decide) ?_
  refine zz_sub (loc' := [(0, .ref (zzad Z 36)), (1, .int p0), (2, .int p1)]) [0, 1, 2] rfl ?_
  exact w_X12_element_43 C p0 p1 (2 : Int32) σ
set_option maxHeartbeats 4000000 in
set_option maxRecDepth 100000 in
theorem w_X12_element_e {l : Launch} {Z : zzG} {base : Nat} {PL : Nat → Option (Nat × Int32)} {mm : zzS} {p : Program} {e : Env} {s : State} {m : MethodId} {args : Array Value} {below : List Frame} {meth : Method} {c : Code} (C : zzCx p m meth c s args cX12_element 4 wsX12_element RX12 (some .long) Z) (p0 : Int32)  (p1 : Int32)  (σ : zzS) : zzGO p l e rX12_element s m args below meth c 4 (zzA base) (zzM Z base PL mm) (zzM Z base PL mm) zzRL rX12_element.cells rX12_element.slots (f_X12_element p0 p1 σ) σ 0 0 0 [(0, .ref (zzad Z 36)), (1, .int p0), (2, .int p1)] [] := by
  unfold f_X12_element
  refine zz_aload_n C dX12_element_0 rfl 0 rfl ?_
  refine zz_iload_n C dX12_element_1 rfl 1 rfl ?_
  refine zz_callV C (Cn := RX12) (b := zzad Z 36) (fun H hH => zz_recv C.2.2.2 (zzM_obj H hH) rfl) (As := [.int p0]) (rest := []) rfl (k_X12_wrongRow p0 σ) (cwV 1 C.1.2.2.2.2 gX12_element_X12_wrongRow rfl rfl rfl (by decide +kernel) ⟨Nat.le_of_ble_eq_true rfl, Nat.le_of_ble_eq_true rfl⟩) rfl (Nat.le_of_ble_eq_true rfl) ⟨Nat.zero_le _, Nat.zero_le _⟩ dX12_element_2 (zz_kI rfl rfl (fun r1 σ2 => ?_))
  refine zz_istore_n (loc' := [(3, .int r1), (0, .ref (zzad Z 36)), (1, .int p0), (2, .int p1)]) C dX12_element_5 rfl (by decide) rfl ?_
  refine zz_aload_n C dX12_element_6 rfl 1 rfl ?_
  refine zz_iload_n C dX12_element_7 rfl 0 rfl ?_
  refine zz_iconst (v := -1) C dX12_element_8 (by decide) ?_
  refine zz_icmp_ne (tgt := 16) C dX12_element_9 (by decide) (fun h3 => ?_) (fun h3 => ?_)
  · refine zz_iload_n C dX12_element_16 rfl 0 rfl ?_
    refine zz_if_lt (tgt := 38) C dX12_element_17 (by decide) (fun h4 => ?_) (fun h4 => ?_)
    · refine zz_sub (loc' := [(0, .ref (zzad Z 36)), (1, .int p0), (2, .int p1)]) [1, 2, 3] rfl ?_
      exact w_X12_element_38 C p0 p1 σ2
    · refine zz_iload_n C dX12_element_20 rfl 3 rfl ?_
      refine zz_i2l C dX12_element_21 ?_
      refine zz_lconst (v := 0) C dX12_element_22 (by decide) ?_
      refine zz_aload_n C dX12_element_23 rfl 1 rfl ?_
      refine zz_get C zzM_obj (fun _ h9 => List.mem_cons_of_mem _ (List.mem_append_right _ (h9))) rfl 11 (by decide) (List.mem_of_getElem? (i := 1) rfl) (Or.inl rfl) rfl dX12_element_24 ?_
      refine zz_iload_n C dX12_element_27 rfl 2 rfl ?_
      refine zz_gd (fun h5 => ?_)
      refine zz_iald C (zzM_arr (by decide)) h5 dX12_element_28 ?_
      refine zz_iconst (v := 1) C dX12_element_29 (by decide) ?_
      refine zz_isub C dX12_element_30 ?_
      refine zz_i2l C dX12_element_31 ?_
      refine zz_callS (As := [.long (Int32.toInt64 p1), .long (0 : Int64), .long (Int32.toInt64 ((zza σ2 45 (Int32.toNatClampNeg p0)) - (1 : Int32)))]) (rest := [.ref (zzad Z 36)]) C rfl (k_X12_in (Int32.toInt64 p1) (0 : Int64) (Int32.toInt64 ((zza σ2 45 (Int32.toNatClampNeg p0)) - (1 : Int32))) σ2) (va_cwS 3 C.1.2.2.2.2 gX12_element_X12_in rfl rfl rfl (by decide +kernel) ⟨Nat.le_of_ble_eq_true rfl, Nat.le_of_ble_eq_true rfl⟩) rfl (Nat.le_of_ble_eq_true rfl) ⟨Nat.zero_le _, Nat.zero_le _⟩ dX12_element_32 (zz_kI rfl rfl (fun r6 σ7 => ?_))
      refine zz_if_ne (tgt := 42) C dX12_element_35 (by decide) (fun h8 => ?_) (fun h8 => ?_)
      · refine zz_iconst (v := 0) C dX12_element_42 (by decide) ?_
        refine zz_sub (loc' := [(0, .ref (zzad Z 36)), (1, .int p0), (2, .int p1)]) [1, 2, 3] rfl ?_
        exact w_X12_element_43 C p0 p1 (0 : Int32) σ7
      · refine zz_sub (loc' := [(0, .ref (zzad Z 36)), (1, .int p0), (2, .int p1)]) [1, 2, 3] rfl ?_
        exact w_X12_element_38 C p0 p1 σ7
  · refine zz_iconst (v := 1) C dX12_element_12 (by decide) ?_
    refine zz_goto (tgt := 43) C dX12_element_13 (by decide) ?_
    refine zz_sub (loc' := [(0, .ref (zzad Z 36)), (1, .int p0), (2, .int p1)]) [1, 2, 3] rfl ?_
    exact w_X12_element_43 C p0 p1 (1 : Int32) σ2
set_option maxHeartbeats 4000000 in
set_option maxRecDepth 100000 in
theorem k_X12_element {l : Launch} {Z : zzG} {base : Nat} {PL : Nat → Option (Nat × Int32)} {mm : zzS} (p0 : Int32)  (p1 : Int32)  (σ : zzS) : zzCT l yX12_element wsX12_element rX12_element (zzA base) Z (zzM Z base PL mm) (zzM Z base PL mm) zzRL [.ref (zzad Z 36), .int p0, .int p1] (f_X12_element p0 p1 σ) σ :=
  zzCT_of (cc := cX12_element) (nL := 4) (ret := (some .long)) (by decide) rfl (Nat.le_of_ble_eq_true rfl) [(0, .ref (zzad Z 36)), (1, .int p0), (2, .int p1)] rfl (fun p e s m args below meth c C => w_X12_element_e C p0 p1 σ)
abbrev rX12_copy : Room := { frames := 1, cells := 0, slots := 0, locals := 25 }

set_option maxHeartbeats 4000000 in
set_option maxRecDepth 100000 in
theorem w_X12_copy_174b {l : Launch} {Z : zzG} {base : Nat} {PL : Nat → Option (Nat × Int32)} {mm : zzS} {p : Program} {e : Env} {s : State} {m : MethodId} {args : Array Value} {below : List Frame} {meth : Method} {c : Code} (C : zzCx p m meth c s args cX12_copy 7 wsX12_copy RX12 (some .int) Z) (p0 : Int32)  (p1 : Int32)  (p2 : Int32)  (p3 : Int32)  (p4 : Int32)   (k174 : Int32 → zzS → Option (Int32 × zzS)) (hk174 : ∀ (l6 : Int32)  (σ : zzS), zzGO p l e rX12_copy s m args below meth c 7 (zzA base) (zzM Z base PL mm) (zzM Z base PL mm) zzRI rX12_copy.cells rX12_copy.slots (k174 l6 σ) σ 0 0 174 [(0, .ref (zzad Z 36)), (3, .int p2), (4, .int p3), (5, .int p4), (6, .int l6)] []) (l6 : Int32)  (σ : zzS) : zzGO p l e rX12_copy s m args below meth c 7 (zzA base) (zzM Z base PL mm) (zzM Z base PL mm) zzRI rX12_copy.cells rX12_copy.slots (f_X12_copy_174b k174 p0 p1 p2 p3 p4 l6 σ) σ 0 0 174 [(0, .ref (zzad Z 36)), (3, .int p2), (4, .int p3), (5, .int p4), (6, .int l6)] [] := by
  unfold f_X12_copy_174b
  refine zz_iload C dX12_copy_174 4 rfl ?_
  refine zz_iload C dX12_copy_176 3 rfl ?_
  refine zz_icmp_ge (tgt := 209) C dX12_copy_178 (by decide) (fun h1 => ?_) (fun h1 => ?_)
  · refine zz_iload C dX12_copy_209 3 rfl ?_
    exact zz_iret C rfl rfl (fun _ h9 => h9) (Nat.zero_le _) (Nat.zero_le _) dX12_copy_211
  · refine zz_aload_n C dX12_copy_181 rfl 0 rfl ?_
    refine zz_get C zzM_obj (fun _ h9 => List.mem_cons_of_mem _ (List.mem_append_right _ (h9))) rfl 12 (by decide) (List.mem_of_getElem? (i := 7) rfl) (Or.inl rfl) rfl dX12_copy_182 ?_
    refine zz_bipush (v := 100) C dX12_copy_185 (by decide) ?_
    refine zz_iload_n C dX12_copy_187 rfl 1 rfl ?_
    refine zz_imul C dX12_copy_188 ?_
    refine zz_iload C dX12_copy_189 2 rfl ?_
    refine zz_iadd C dX12_copy_191 ?_
    refine zz_iload C dX12_copy_192 4 rfl ?_
    refine zz_iadd C dX12_copy_194 ?_
    refine zz_aload_n C dX12_copy_195 rfl 0 rfl ?_
    refine zz_get C zzM_obj (fun _ h9 => List.mem_cons_of_mem _ (List.mem_append_right _ (h9))) rfl 30 (by decide) (List.mem_of_getElem? (i := 6) rfl) (Or.inl rfl) rfl dX12_copy_196 ?_
    refine zz_iload C dX12_copy_199 4 rfl ?_
    refine zz_gd (fun h2 => ?_)
    refine zz_lald C zzM_betw h2 dX12_copy_201 ?_
    refine zz_gd (fun h3 => ?_)
    refine zz_last C zzM_rows h3 zzM_urows (zzA_M (by decide)) dX12_copy_202 ?_
    refine zz_ltS (fun σ4 => ?_)
    refine zz_iincX (d := 1) (locf := fun x5 => [(6, .int x5), (0, .ref (zzad Z 36)), (3, .int p2), (4, .int p3), (5, .int p4)]) C dX12_copy_203 (k := 4) rfl (by decide) (by decide) (fun _ => rfl) (fun x5 => ?_)
    refine zz_goto (tgt := 174) C dX12_copy_206 (by decide) ?_
    refine zz_sub (loc' := [(0, .ref (zzad Z 36)), (3, .int p2), (4, .int p3), (5, .int p4), (6, .int x5)]) [1, 2, 3, 4, 0] rfl ?_
    exact hk174 x5 σ4
set_option maxHeartbeats 4000000 in
set_option maxRecDepth 100000 in
theorem w_X12_copy_174 {l : Launch} {Z : zzG} {base : Nat} {PL : Nat → Option (Nat × Int32)} {mm : zzS} {p : Program} {e : Env} {s : State} {m : MethodId} {args : Array Value} {below : List Frame} {meth : Method} {c : Code} (C : zzCx p m meth c s args cX12_copy 7 wsX12_copy RX12 (some .int) Z) (p0 : Int32)  (p1 : Int32)  (p2 : Int32)  (p3 : Int32)  (p4 : Int32)   (n : Nat) : ∀ (l6 : Int32)  (σ : zzS), zzGO p l e rX12_copy s m args below meth c 7 (zzA base) (zzM Z base PL mm) (zzM Z base PL mm) zzRI rX12_copy.cells rX12_copy.slots (f_X12_copy_174 p0 p1 p2 p3 p4 n l6 σ) σ 0 0 174 [(0, .ref (zzad Z 36)), (3, .int p2), (4, .int p3), (5, .int p4), (6, .int l6)] [] := by
  induction n with
  | zero => exact fun _ _ r9 s9 h9 => by cases h9
  | succ n ih => exact w_X12_copy_174b C p0 p1 p2 p3 p4 _ ih
set_option maxHeartbeats 4000000 in
set_option maxRecDepth 100000 in
theorem w_X12_copy_137b {l : Launch} {Z : zzG} {base : Nat} {PL : Nat → Option (Nat × Int32)} {mm : zzS} {p : Program} {e : Env} {s : State} {m : MethodId} {args : Array Value} {below : List Frame} {meth : Method} {c : Code} (C : zzCx p m meth c s args cX12_copy 7 wsX12_copy RX12 (some .int) Z) (p0 : Int32)  (p1 : Int32)  (p2 : Int32)  (p3 : Int32)  (p4 : Int32)   (k137 : Int32 → zzS → Option (Int32 × zzS)) (hk137 : ∀ (l6 : Int32)  (σ : zzS), zzGO p l e rX12_copy s m args below meth c 7 (zzA base) (zzM Z base PL mm) (zzM Z base PL mm) zzRI rX12_copy.cells rX12_copy.slots (k137 l6 σ) σ 0 0 137 [(0, .ref (zzad Z 36)), (1, .int p0), (2, .int p1), (3, .int p2), (4, .int p3), (5, .int p4), (6, .int l6)] []) (l6 : Int32)  (σ : zzS) : zzGO p l e rX12_copy s m args below meth c 7 (zzA base) (zzM Z base PL mm) (zzM Z base PL mm) zzRI rX12_copy.cells rX12_copy.slots (f_X12_copy_137b k137 p0 p1 p2 p3 p4 l6 σ) σ 0 0 137 [(0, .ref (zzad Z 36)), (1, .int p0), (2, .int p1), (3, .int p2), (4, .int p3), (5, .int p4), (6, .int l6)] [] := by
  unfold f_X12_copy_137b
  refine zz_iload C dX12_copy_137 6 rfl ?_
  refine zz_iload C dX12_copy_139 5 rfl ?_
  refine zz_icmp_ge (tgt := 171) C dX12_copy_141 (by decide) (fun h1 => ?_) (fun h1 => ?_)
  · refine zz_iconst (v := 0) C dX12_copy_171 (by decide) ?_
    refine zz_istore (loc' := [(6, .int (0 : Int32)), (0, .ref (zzad Z 36)), (1, .int p0), (2, .int p1), (3, .int p2), (4, .int p3), (5, .int p4)]) C dX12_copy_172 (by decide) rfl ?_
    refine zz_sub (loc' := [(0, .ref (zzad Z 36)), (3, .int p2), (4, .int p3), (5, .int p4), (6, .int (0 : Int32))]) [1, 4, 5, 6, 0] rfl ?_
    exact w_X12_copy_174 C p0 p1 p2 p3 p4 200 (0 : Int32) σ
  · refine zz_aload_n C dX12_copy_144 rfl 0 rfl ?_
    refine zz_get C zzM_obj (fun _ h9 => List.mem_cons_of_mem _ (List.mem_append_right _ (h9))) rfl 30 (by decide) (List.mem_of_getElem? (i := 6) rfl) (Or.inl rfl) rfl dX12_copy_145 ?_
    refine zz_iload C dX12_copy_148 6 rfl ?_
    refine zz_aload_n C dX12_copy_150 rfl 0 rfl ?_
    refine zz_get C zzM_obj (fun _ h9 => List.mem_cons_of_mem _ (List.mem_append_right _ (h9))) rfl 12 (by decide) (List.mem_of_getElem? (i := 7) rfl) (Or.inl rfl) rfl dX12_copy_151 ?_
    refine zz_bipush (v := 100) C dX12_copy_154 (by decide) ?_
    refine zz_iload_n C dX12_copy_156 rfl 1 rfl ?_
    refine zz_imul C dX12_copy_157 ?_
    refine zz_iload_n C dX12_copy_158 rfl 2 rfl ?_
    refine zz_iadd C dX12_copy_159 ?_
    refine zz_iload C dX12_copy_160 6 rfl ?_
    refine zz_iadd C dX12_copy_162 ?_
    refine zz_gd (fun h2 => ?_)
    refine zz_lald C zzM_rows h2 dX12_copy_163 ?_
    refine zz_gd (fun h3 => ?_)
    refine zz_last C zzM_betw h3 zzM_ubetw (zzA_M (by decide)) dX12_copy_164 ?_
    refine zz_ltS (fun σ4 => ?_)
    refine zz_iincX (d := 1) (locf := fun x5 => [(6, .int x5), (0, .ref (zzad Z 36)), (1, .int p0), (2, .int p1), (3, .int p2), (4, .int p3), (5, .int p4)]) C dX12_copy_165 (k := 6) rfl (by decide) (by decide) (fun _ => rfl) (fun x5 => ?_)
    refine zz_goto (tgt := 137) C dX12_copy_168 (by decide) ?_
    refine zz_sub (loc' := [(0, .ref (zzad Z 36)), (1, .int p0), (2, .int p1), (3, .int p2), (4, .int p3), (5, .int p4), (6, .int x5)]) [1, 2, 3, 4, 5, 6, 0] rfl ?_
    exact hk137 x5 σ4
set_option maxHeartbeats 4000000 in
set_option maxRecDepth 100000 in
theorem w_X12_copy_137 {l : Launch} {Z : zzG} {base : Nat} {PL : Nat → Option (Nat × Int32)} {mm : zzS} {p : Program} {e : Env} {s : State} {m : MethodId} {args : Array Value} {below : List Frame} {meth : Method} {c : Code} (C : zzCx p m meth c s args cX12_copy 7 wsX12_copy RX12 (some .int) Z) (p0 : Int32)  (p1 : Int32)  (p2 : Int32)  (p3 : Int32)  (p4 : Int32)   (n : Nat) : ∀ (l6 : Int32)  (σ : zzS), zzGO p l e rX12_copy s m args below meth c 7 (zzA base) (zzM Z base PL mm) (zzM Z base PL mm) zzRI rX12_copy.cells rX12_copy.slots (f_X12_copy_137 p0 p1 p2 p3 p4 n l6 σ) σ 0 0 137 [(0, .ref (zzad Z 36)), (1, .int p0), (2, .int p1), (3, .int p2), (4, .int p3), (5, .int p4), (6, .int l6)] [] := by
  induction n with
  | zero => exact fun _ _ r9 s9 h9 => by cases h9
  | succ n ih => exact w_X12_copy_137b C p0 p1 p2 p3 p4 _ ih
set_option maxHeartbeats 4000000 in
set_option maxRecDepth 100000 in
theorem w_X12_copy_e {l : Launch} {Z : zzG} {base : Nat} {PL : Nat → Option (Nat × Int32)} {mm : zzS} {p : Program} {e : Env} {s : State} {m : MethodId} {args : Array Value} {below : List Frame} {meth : Method} {c : Code} (C : zzCx p m meth c s args cX12_copy 7 wsX12_copy RX12 (some .int) Z) (p0 : Int32)  (p1 : Int32)  (p2 : Int32)  (p3 : Int32)  (p4 : Int32)  (σ : zzS) : zzGO p l e rX12_copy s m args below meth c 7 (zzA base) (zzM Z base PL mm) (zzM Z base PL mm) zzRI rX12_copy.cells rX12_copy.slots (f_X12_copy p0 p1 p2 p3 p4 σ) σ 0 0 0 [(0, .ref (zzad Z 36)), (1, .int p0), (2, .int p1), (3, .int p2), (4, .int p3), (5, .int p4)] [] := by
  unfold f_X12_copy
  refine zz_aload_n C dX12_copy_0 rfl 0 rfl ?_
  refine zz_iconst (v := 0) C dX12_copy_1 (by decide) ?_
  refine zz_put (ty := .int) C zzM_obj (fun _ h9 => List.mem_cons_of_mem _ (List.mem_append_right _ (h9))) rfl 13 (by decide) (List.mem_of_getElem? (i := 1) rfl) rfl tyX12_ok nmX12 rfl (by decide +kernel) rfl rfl (Nat.le_of_ble_eq_true rfl) (zzM_uobj (by decide)) (zzA_M (by decide)) dX12_copy_2 ?_
  refine zz_ltS (fun σ1 => ?_)
  refine zz_iload_n C dX12_copy_5 rfl 1 rfl ?_
  refine zz_i2l C dX12_copy_6 ?_
  refine zz_lconst (v := 0) C dX12_copy_7 (by decide) ?_
  refine zz_ldc2 (v := 7) C (C.1.2.2.2.2 _ (List.mem_of_getElem? (i := 2) rfl)) dX12_copy_8 ?_
  refine zz_callS (As := [.long (Int32.toInt64 p0), .long (0 : Int64), .long (7 : Int64)]) (rest := []) C rfl (k_X12_in (Int32.toInt64 p0) (0 : Int64) (7 : Int64) σ1) (va_cwS 3 C.1.2.2.2.2 gX12_copy_X12_in rfl rfl rfl (by decide +kernel) ⟨Nat.le_of_ble_eq_true rfl, Nat.le_of_ble_eq_true rfl⟩) rfl (Nat.le_of_ble_eq_true rfl) ⟨Nat.zero_le _, Nat.zero_le _⟩ dX12_copy_11 (zz_kI rfl rfl (fun r2 σ3 => ?_))
  refine zz_if_eq (tgt := 29) C dX12_copy_14 (by decide) (fun h4 => ?_) (fun h4 => ?_)
  · refine zz_iconst (v := -1) C dX12_copy_29 (by decide) ?_
    exact zz_iret C rfl rfl (fun _ h9 => h9) (Nat.zero_le _) (Nat.zero_le _) dX12_copy_30
  · refine zz_iload_n C dX12_copy_17 rfl 3 rfl ?_
    refine zz_i2l C dX12_copy_18 ?_
    refine zz_lconst (v := 0) C dX12_copy_19 (by decide) ?_
    refine zz_ldc2 (v := 7) C (C.1.2.2.2.2 _ (List.mem_of_getElem? (i := 2) rfl)) dX12_copy_20 ?_
    refine zz_callS (As := [.long (Int32.toInt64 p2), .long (0 : Int64), .long (7 : Int64)]) (rest := []) C rfl (k_X12_in (Int32.toInt64 p2) (0 : Int64) (7 : Int64) σ3) (va_cwS 3 C.1.2.2.2.2 gX12_copy_X12_in rfl rfl rfl (by decide +kernel) ⟨Nat.le_of_ble_eq_true rfl, Nat.le_of_ble_eq_true rfl⟩) rfl (Nat.le_of_ble_eq_true rfl) ⟨Nat.zero_le _, Nat.zero_le _⟩ dX12_copy_23 (zz_kI rfl rfl (fun r5 σ6 => ?_))
    refine zz_if_ne (tgt := 31) C dX12_copy_26 (by decide) (fun h7 => ?_) (fun h7 => ?_)
    · refine zz_aload_n C dX12_copy_31 rfl 0 rfl ?_
      refine zz_get C zzM_obj (fun _ h9 => List.mem_cons_of_mem _ (List.mem_append_right _ (h9))) rfl 7 (by decide) (List.mem_of_getElem? (i := 3) rfl) (Or.inl rfl) rfl dX12_copy_32 ?_
      refine zz_iload_n C dX12_copy_35 rfl 1 rfl ?_
      refine zz_gd (fun h8 => ?_)
      refine zz_iald C (zzM_arr (by decide)) h8 dX12_copy_36 ?_
      refine zz_if_eq (tgt := 49) C dX12_copy_37 (by decide) (fun h9 => ?_) (fun h9 => ?_)
      · refine zz_bipush (v := -11) C dX12_copy_49 (by decide) ?_
        exact zz_iret C rfl rfl (fun _ h9 => h9) (Nat.zero_le _) (Nat.zero_le _) dX12_copy_51
      · refine zz_aload_n C dX12_copy_40 rfl 0 rfl ?_
        refine zz_get C zzM_obj (fun _ h9 => List.mem_cons_of_mem _ (List.mem_append_right _ (h9))) rfl 7 (by decide) (List.mem_of_getElem? (i := 3) rfl) (Or.inl rfl) rfl dX12_copy_41 ?_
        refine zz_iload_n C dX12_copy_44 rfl 3 rfl ?_
        refine zz_gd (fun h10 => ?_)
        refine zz_iald C (zzM_arr (by decide)) h10 dX12_copy_45 ?_
        refine zz_if_ne (tgt := 52) C dX12_copy_46 (by decide) (fun h11 => ?_) (fun h11 => ?_)
        · refine zz_aload_n C dX12_copy_52 rfl 0 rfl ?_
          refine zz_get C zzM_obj (fun _ h9 => List.mem_cons_of_mem _ (List.mem_append_right _ (h9))) rfl 7 (by decide) (List.mem_of_getElem? (i := 3) rfl) (Or.inl rfl) rfl dX12_copy_53 ?_
          refine zz_iload_n C dX12_copy_56 rfl 1 rfl ?_
          refine zz_gd (fun h12 => ?_)
          refine zz_iald C (zzM_arr (by decide)) h12 dX12_copy_57 ?_
          refine zz_iconst (v := 2) C dX12_copy_58 (by decide) ?_
          refine zz_icmp_ne (tgt := 87) C dX12_copy_59 (by decide) (fun h13 => ?_) (fun h13 => ?_)
          · refine zz_bipush (v := -12) C dX12_copy_87 (by decide) ?_
            exact zz_iret C rfl rfl (fun _ h9 => h9) (Nat.zero_le _) (Nat.zero_le _) dX12_copy_89
          · refine zz_aload_n C dX12_copy_62 rfl 0 rfl ?_
            refine zz_get C zzM_obj (fun _ h9 => List.mem_cons_of_mem _ (List.mem_append_right _ (h9))) rfl 7 (by decide) (List.mem_of_getElem? (i := 3) rfl) (Or.inl rfl) rfl dX12_copy_63 ?_
            refine zz_iload_n C dX12_copy_66 rfl 3 rfl ?_
            refine zz_gd (fun h14 => ?_)
            refine zz_iald C (zzM_arr (by decide)) h14 dX12_copy_67 ?_
            refine zz_iconst (v := 2) C dX12_copy_68 (by decide) ?_
            refine zz_icmp_ne (tgt := 87) C dX12_copy_69 (by decide) (fun h15 => ?_) (fun h15 => ?_)
            · refine zz_bipush (v := -12) C dX12_copy_87 (by decide) ?_
              exact zz_iret C rfl rfl (fun _ h9 => h9) (Nat.zero_le _) (Nat.zero_le _) dX12_copy_89
            · refine zz_aload_n C dX12_copy_72 rfl 0 rfl ?_
              refine zz_get C zzM_obj (fun _ h9 => List.mem_cons_of_mem _ (List.mem_append_right _ (h9))) rfl 10 (by decide) (List.mem_of_getElem? (i := 4) rfl) (Or.inl rfl) rfl dX12_copy_73 ?_
              refine zz_iload_n C dX12_copy_76 rfl 1 rfl ?_
              refine zz_gd (fun h16 => ?_)
              refine zz_iald C (zzM_arr (by decide)) h16 dX12_copy_77 ?_
              refine zz_aload_n C dX12_copy_78 rfl 0 rfl ?_
              refine zz_get C zzM_obj (fun _ h9 => List.mem_cons_of_mem _ (List.mem_append_right _ (h9))) rfl 10 (by decide) (List.mem_of_getElem? (i := 4) rfl) (Or.inl rfl) rfl dX12_copy_79 ?_
              refine zz_iload_n C dX12_copy_82 rfl 3 rfl ?_
              refine zz_gd (fun h17 => ?_)
              refine zz_iald C (zzM_arr (by decide)) h17 dX12_copy_83 ?_
              refine zz_icmp_eq (tgt := 90) C dX12_copy_84 (by decide) (fun h18 => ?_) (fun h18 => ?_)
              · refine zz_iload C dX12_copy_90 5 rfl ?_
                refine zz_if_lt (tgt := 131) C dX12_copy_92 (by decide) (fun h19 => ?_) (fun h19 => ?_)
                · refine zz_bipush (v := -13) C dX12_copy_131 (by decide) ?_
                  exact zz_iret C rfl rfl (fun _ h9 => h9) (Nat.zero_le _) (Nat.zero_le _) dX12_copy_133
                · refine zz_iload_n C dX12_copy_95 rfl 2 rfl ?_
                  refine zz_if_lt (tgt := 131) C dX12_copy_96 (by decide) (fun h20 => ?_) (fun h20 => ?_)
                  · refine zz_bipush (v := -13) C dX12_copy_131 (by decide) ?_
                    exact zz_iret C rfl rfl (fun _ h9 => h9) (Nat.zero_le _) (Nat.zero_le _) dX12_copy_133
                  · refine zz_iload C dX12_copy_99 4 rfl ?_
                    refine zz_if_lt (tgt := 131) C dX12_copy_101 (by decide) (fun h21 => ?_) (fun h21 => ?_)
                    · refine zz_bipush (v := -13) C dX12_copy_131 (by decide) ?_
                      exact zz_iret C rfl rfl (fun _ h9 => h9) (Nat.zero_le _) (Nat.zero_le _) dX12_copy_133
                    · refine zz_iload_n C dX12_copy_104 rfl 2 rfl ?_
                      refine zz_aload_n C dX12_copy_105 rfl 0 rfl ?_
                      refine zz_get C zzM_obj (fun _ h9 => List.mem_cons_of_mem _ (List.mem_append_right _ (h9))) rfl 11 (by decide) (List.mem_of_getElem? (i := 5) rfl) (Or.inl rfl) rfl dX12_copy_106 ?_
                      refine zz_iload_n C dX12_copy_109 rfl 1 rfl ?_
                      refine zz_gd (fun h22 => ?_)
                      refine zz_iald C (zzM_arr (by decide)) h22 dX12_copy_110 ?_
                      refine zz_iload C dX12_copy_111 5 rfl ?_
                      refine zz_isub C dX12_copy_113 ?_
                      refine zz_icmp_gt (tgt := 131) C dX12_copy_114 (by decide) (fun h23 => ?_) (fun h23 => ?_)
                      · refine zz_bipush (v := -13) C dX12_copy_131 (by decide) ?_
                        exact zz_iret C rfl rfl (fun _ h9 => h9) (Nat.zero_le _) (Nat.zero_le _) dX12_copy_133
                      · refine zz_iload C dX12_copy_117 4 rfl ?_
                        refine zz_aload_n C dX12_copy_119 rfl 0 rfl ?_
                        refine zz_get C zzM_obj (fun _ h9 => List.mem_cons_of_mem _ (List.mem_append_right _ (h9))) rfl 11 (by decide) (List.mem_of_getElem? (i := 5) rfl) (Or.inl rfl) rfl dX12_copy_120 ?_
                        refine zz_iload_n C dX12_copy_123 rfl 3 rfl ?_
                        refine zz_gd (fun h24 => ?_)
                        refine zz_iald C (zzM_arr (by decide)) h24 dX12_copy_124 ?_
                        refine zz_iload C dX12_copy_125 5 rfl ?_
                        refine zz_isub C dX12_copy_127 ?_
                        refine zz_icmp_le (tgt := 134) C dX12_copy_128 (by decide) (fun h25 => ?_) (fun h25 => ?_)
                        · refine zz_iconst (v := 0) C dX12_copy_134 (by decide) ?_
                          refine zz_istore (loc' := [(6, .int (0 : Int32)), (0, .ref (zzad Z 36)), (1, .int p0), (2, .int p1), (3, .int p2), (4, .int p3), (5, .int p4)]) C dX12_copy_135 (by decide) rfl ?_
                          refine zz_sub (loc' := [(0, .ref (zzad Z 36)), (1, .int p0), (2, .int p1), (3, .int p2), (4, .int p3), (5, .int p4), (6, .int (0 : Int32))]) [1, 2, 3, 4, 5, 6, 0] rfl ?_
                          exact w_X12_copy_137 C p0 p1 p2 p3 p4 200 (0 : Int32) σ6
                        · refine zz_bipush (v := -13) C dX12_copy_131 (by decide) ?_
                          exact zz_iret C rfl rfl (fun _ h9 => h9) (Nat.zero_le _) (Nat.zero_le _) dX12_copy_133
              · refine zz_bipush (v := -12) C dX12_copy_87 (by decide) ?_
                exact zz_iret C rfl rfl (fun _ h9 => h9) (Nat.zero_le _) (Nat.zero_le _) dX12_copy_89
        · refine zz_bipush (v := -11) C dX12_copy_49 (by decide) ?_
          exact zz_iret C rfl rfl (fun _ h9 => h9) (Nat.zero_le _) (Nat.zero_le _) dX12_copy_51
    · refine zz_iconst (v := -1) C dX12_copy_29 (by decide) ?_
      exact zz_iret C rfl rfl (fun _ h9 => h9) (Nat.zero_le _) (Nat.zero_le _) dX12_copy_30
set_option maxHeartbeats 4000000 in
set_option maxRecDepth 100000 in
theorem k_X12_copy {l : Launch} {Z : zzG} {base : Nat} {PL : Nat → Option (Nat × Int32)} {mm : zzS} (p0 : Int32)  (p1 : Int32)  (p2 : Int32)  (p3 : Int32)  (p4 : Int32)  (σ : zzS) : zzCT l yX12_copy wsX12_copy rX12_copy (zzA base) Z (zzM Z base PL mm) (zzM Z base PL mm) zzRI [.ref (zzad Z 36), .int p0, .int p1, .int p2, .int p3, .int p4] (f_X12_copy p0 p1 p2 p3 p4 σ) σ :=
  zzCT_of (cc := cX12_copy) (nL := 7) (ret := (some .int)) (by decide) rfl (Nat.le_of_ble_eq_true rfl) [(0, .ref (zzad Z 36)), (1, .int p0), (2, .int p1), (3, .int p2), (4, .int p3), (5, .int p4)] rfl (fun p e s m args below meth c C => w_X12_copy_e C p0 p1 p2 p3 p4 σ)
