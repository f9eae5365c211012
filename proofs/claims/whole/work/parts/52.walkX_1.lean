abbrev rX7_firstWrongByte : Room := { frames := 2, cells := 0, slots := 0, locals := 43 }

set_option maxHeartbeats 4000000 in
set_option maxRecDepth 100000 in
theorem w_X7_firstWrongByte_73 {l : Launch} {Z : zzG} {base : Nat} {PL : Nat → Option (Nat × Int32)} {mm : zzS} {p : Program} {e : Env} {s : State} {m : MethodId} {args : Array Value} {below : List Frame} {meth : Method} {c : Code} (C : zzCx p m meth c s args cX7_firstWrongByte 5 wsX7_firstWrongByte RX7 (some .int) Z) (r0 : Nat) (hr0 : zzrow r0) (k6 : Int32 → Int32 → Int32 → zzS → Option (Int32 × zzS)) (hk6 : ∀ (l1 : Int32)  (l2 : Int32)  (l3 : Int32)  (σ : zzS), zzGO p l e rX7_firstWrongByte s m args below meth c 5 (zzA base) (zzX Z base PL mm) (zzX Z base PL mm) zzRI rX7_firstWrongByte.cells rX7_firstWrongByte.slots (k6 l1 l2 l3 σ) σ 0 0 6 [(0, .ref (zzad Z r0)), (1, .int l1), (2, .int l2), (3, .int l3)] []) (l1 : Int32)  (l2 : Int32)  (l3 : Int32)  (σ : zzS) : zzGO p l e rX7_firstWrongByte s m args below meth c 5 (zzA base) (zzX Z base PL mm) (zzX Z base PL mm) zzRI rX7_firstWrongByte.cells rX7_firstWrongByte.slots (f_X7_firstWrongByte_73 k6 r0 l1 l2 l3 σ) σ 0 0 73 [(0, .ref (zzad Z r0)), (1, .int l1), (2, .int l2), (3, .int l3)] [] := by
  unfold f_X7_firstWrongByte_73
  refine zz_iincX (d := 1) (locf := fun x1 => [(3, .int x1), (0, .ref (zzad Z r0)), (1, .int l1), (2, .int l2)]) C dX7_firstWrongByte_73 (k := 3) rfl (by decide) (by decide) (fun _ => rfl) (fun x1 => ?_)
  refine zz_goto (tgt := 6) C dX7_firstWrongByte_76 (by decide) ?_
  refine zz_sub (loc' := [(0, .ref (zzad Z r0)), (1, .int l1), (2, .int l2), (3, .int x1)]) [1, 2, 3, 0] rfl ?_
  exact hk6 l1 l2 x1 σ
set_option maxHeartbeats 4000000 in
set_option maxRecDepth 100000 in
theorem w_X7_firstWrongByte_6b {l : Launch} {Z : zzG} {base : Nat} {PL : Nat → Option (Nat × Int32)} {mm : zzS} {p : Program} {e : Env} {s : State} {m : MethodId} {args : Array Value} {below : List Frame} {meth : Method} {c : Code} (C : zzCx p m meth c s args cX7_firstWrongByte 5 wsX7_firstWrongByte RX7 (some .int) Z) (r0 : Nat) (hr0 : zzrow r0)  (k6 : Int32 → Int32 → Int32 → zzS → Option (Int32 × zzS)) (hk6 : ∀ (l1 : Int32)  (l2 : Int32)  (l3 : Int32)  (σ : zzS), zzGO p l e rX7_firstWrongByte s m args below meth c 5 (zzA base) (zzX Z base PL mm) (zzX Z base PL mm) zzRI rX7_firstWrongByte.cells rX7_firstWrongByte.slots (k6 l1 l2 l3 σ) σ 0 0 6 [(0, .ref (zzad Z r0)), (1, .int l1), (2, .int l2), (3, .int l3)] []) (l1 : Int32)  (l2 : Int32)  (l3 : Int32)  (σ : zzS) : zzGO p l e rX7_firstWrongByte s m args below meth c 5 (zzA base) (zzX Z base PL mm) (zzX Z base PL mm) zzRI rX7_firstWrongByte.cells rX7_firstWrongByte.slots (f_X7_firstWrongByte_6b k6 r0 l1 l2 l3 σ) σ 0 0 6 [(0, .ref (zzad Z r0)), (1, .int l1), (2, .int l2), (3, .int l3)] [] := by
  unfold f_X7_firstWrongByte_6b
  refine zz_iload_n C dX7_firstWrongByte_6 rfl 3 rfl ?_
  refine zz_aload_n C dX7_firstWrongByte_7 rfl 0 rfl ?_
  refine zz_get C (zzX_row hr0) (fun _ h9 => List.mem_cons_of_mem _ (List.mem_append_right _ (h9))) rfl 2 (by decide) (List.mem_of_getElem? (i := 1) rfl) (Or.inl rfl) rfl dX7_firstWrongByte_8 ?_
  refine zz_icmp_ge (tgt := 79) C dX7_firstWrongByte_11 (by decide) (fun h1 => ?_) (fun h1 => ?_)
  · refine zz_iload_n C dX7_firstWrongByte_79 rfl 1 rfl ?_
    refine zz_if_eq (tgt := 95) C dX7_firstWrongByte_80 (by decide) (fun h2 => ?_) (fun h2 => ?_)
    · refine zz_aload_n C dX7_firstWrongByte_95 rfl 0 rfl ?_
      refine zz_get C (zzX_row hr0) (fun _ h9 => List.mem_cons_of_mem _ (List.mem_append_right _ (h9))) rfl 2 (by decide) (List.mem_of_getElem? (i := 1) rfl) (Or.inl rfl) rfl dX7_firstWrongByte_96 ?_
      exact zz_iret C rfl rfl (fun _ h9 => h9) (Nat.zero_le _) (Nat.zero_le _) dX7_firstWrongByte_99
    · refine zz_aload_n C dX7_firstWrongByte_83 rfl 0 rfl ?_
      refine zz_get C (zzX_row hr0) (fun _ h9 => List.mem_cons_of_mem _ (List.mem_append_right _ (h9))) rfl 2 (by decide) (List.mem_of_getElem? (i := 1) rfl) (Or.inl rfl) rfl dX7_firstWrongByte_84 ?_
      refine zz_if_le (tgt := 95) C dX7_firstWrongByte_87 (by decide) (fun h3 => ?_) (fun h3 => ?_)
      · refine zz_aload_n C dX7_firstWrongByte_95 rfl 0 rfl ?_
        refine zz_get C (zzX_row hr0) (fun _ h9 => List.mem_cons_of_mem _ (List.mem_append_right _ (h9))) rfl 2 (by decide) (List.mem_of_getElem? (i := 1) rfl) (Or.inl rfl) rfl dX7_firstWrongByte_96 ?_
        exact zz_iret C rfl rfl (fun _ h9 => h9) (Nat.zero_le _) (Nat.zero_le _) dX7_firstWrongByte_99
      · refine zz_bipush (v := -4) C dX7_firstWrongByte_90 (by decide) ?_
        refine zz_goto (tgt := 99) C dX7_firstWrongByte_92 (by decide) ?_
        exact zz_iret C rfl rfl (fun _ h9 => h9) (Nat.zero_le _) (Nat.zero_le _) dX7_firstWrongByte_99
  · refine zz_aload_n C dX7_firstWrongByte_14 rfl 0 rfl ?_
    refine zz_iload_n C dX7_firstWrongByte_15 rfl 3 rfl ?_
    refine zz_callV C (Cn := RX7) (b := zzad Z r0) (fun H hH => zz_recv C.2.2.2 ((zzX_row hr0) H hH) rfl) (As := [.int l3]) (rest := []) rfl (k_X7_at r0 hr0 l3 σ) (cwV 1 C.1.2.2.2.2 gX7_firstWrongByte_X7_at rfl rfl rfl (by decide +kernel) ⟨Nat.le_of_ble_eq_true rfl, Nat.le_of_ble_eq_true rfl⟩) rfl (Nat.le_of_ble_eq_true rfl) ⟨Nat.zero_le _, Nat.zero_le _⟩ dX7_firstWrongByte_16 (zz_kI rfl rfl (fun r4 σ5 => ?_))
    refine zz_istore (loc' := [(4, .int r4), (0, .ref (zzad Z r0)), (1, .int l1), (2, .int l2), (3, .int l3)]) C dX7_firstWrongByte_19 (by decide) rfl ?_
    refine zz_iload_n C dX7_firstWrongByte_21 rfl 2 rfl ?_
    refine zz_if_eq (tgt := 42) C dX7_firstWrongByte_22 (by decide) (fun h6 => ?_) (fun h6 => ?_)
    · refine zz_iload_n C dX7_firstWrongByte_42 rfl 3 rfl ?_
      refine zz_if_le (tgt := 62) C dX7_firstWrongByte_43 (by decide) (fun h7 => ?_) (fun h7 => ?_)
      · refine zz_iload C dX7_firstWrongByte_62 0 rfl ?_
        refine zz_bipush (v := 59) C dX7_firstWrongByte_64 (by decide) ?_
        refine zz_icmp_eq (tgt := 71) C dX7_firstWrongByte_66 (by decide) (fun h8 => ?_) (fun h8 => ?_)
        · refine zz_iconst (v := 1) C dX7_firstWrongByte_71 (by decide) ?_
          refine zz_istore_n (loc' := [(1, .int (1 : Int32)), (4, .int r4), (0, .ref (zzad Z r0)), (2, .int l2), (3, .int l3)]) C dX7_firstWrongByte_72 rfl (by decide) rfl ?_
          refine zz_sub (loc' := [(0, .ref (zzad Z r0)), (1, .int (1 : Int32)), (2, .int l2), (3, .int l3)]) [2, 0, 3, 4] rfl ?_
          exact w_X7_firstWrongByte_73 C r0 hr0 k6 hk6 (1 : Int32) l2 l3 σ5
        · refine zz_iload_n C dX7_firstWrongByte_69 rfl 4 rfl ?_
          exact zz_iret C rfl rfl (fun _ h9 => h9) (Nat.zero_le _) (Nat.zero_le _) dX7_firstWrongByte_70
      · refine zz_iload C dX7_firstWrongByte_46 0 rfl ?_
        refine zz_callSN (As := [.int r4]) (rest := []) C rfl (k_X11_isDigit r4 σ5) ⟨va_cnB 1 C.1.2.2.2.2 gX7_firstWrongByte_X11_isDigit_n42 rfl rfl rfl (C.2.2.2.2 _ (List.mem_of_getElem? (i := 5) rfl)) (C.1.2.2.2.2 _ (List.mem_of_getElem? (i := 13) rfl)) (by decide +kernel) ⟨Nat.le_of_ble_eq_true rfl, Nat.le_of_ble_eq_true rfl⟩, C.1.2.2.2.2 _ (List.mem_of_getElem? (i := 17) rfl), trivial⟩ rfl (Nat.le_of_ble_eq_true rfl) ⟨Nat.zero_le _, Nat.zero_le _⟩ dX7_firstWrongByte_48 (zz_kI rfl rfl (fun r9 σ10 => ?_))
        refine zz_if_ne (tgt := 56) C dX7_firstWrongByte_51 (by decide) (fun h11 => ?_) (fun h11 => ?_)
        · refine zz_iincX (d := -1) (locf := fun x12 => [(2, .int x12), (4, .int r4), (0, .ref (zzad Z r0)), (1, .int l1), (3, .int l3)]) C dX7_firstWrongByte_56 (k := 3) rfl (by decide) (by decide) (fun _ => rfl) (fun x12 => ?_)
          refine zz_goto (tgt := 73) C dX7_firstWrongByte_59 (by decide) ?_
          refine zz_sub (loc' := [(0, .ref (zzad Z r0)), (1, .int l1), (2, .int x12), (3, .int l3)]) [2, 3, 0, 4] rfl ?_
          exact w_X7_firstWrongByte_73 C r0 hr0 k6 hk6 l1 x12 l3 σ10
        · refine zz_iload_n C dX7_firstWrongByte_54 rfl 4 rfl ?_
          exact zz_iret C rfl rfl (fun _ h9 => h9) (Nat.zero_le _) (Nat.zero_le _) dX7_firstWrongByte_55
    · refine zz_iload C dX7_firstWrongByte_25 0 rfl ?_
      refine zz_callSN (As := [.int r4]) (rest := []) C rfl (k_X11_digitsBehind r4 σ5) ⟨va_cnB 1 C.1.2.2.2.2 gX7_firstWrongByte_X11_digitsBehind_n39 rfl rfl rfl (C.2.2.2.2 _ (List.mem_of_getElem? (i := 4) rfl)) (C.1.2.2.2.2 _ (List.mem_of_getElem? (i := 13) rfl)) (by decide +kernel) ⟨Nat.le_of_ble_eq_true rfl, Nat.le_of_ble_eq_true rfl⟩, C.1.2.2.2.2 _ (List.mem_of_getElem? (i := 15) rfl), trivial⟩ rfl (Nat.le_of_ble_eq_true rfl) ⟨Nat.zero_le _, Nat.zero_le _⟩ dX7_firstWrongByte_27 (zz_kI rfl rfl (fun r13 σ14 => ?_))
      refine zz_istore_n (loc' := [(2, .int r13), (4, .int r4), (0, .ref (zzad Z r0)), (1, .int l1), (3, .int l3)]) C dX7_firstWrongByte_30 rfl (by decide) rfl ?_
      refine zz_iload_n C dX7_firstWrongByte_31 rfl 0 rfl ?_
      refine zz_if_ne (tgt := 37) C dX7_firstWrongByte_32 (by decide) (fun h15 => ?_) (fun h15 => ?_)
      · refine zz_iconst (v := 0) C dX7_firstWrongByte_37 (by decide) ?_
        refine zz_istore_n (loc' := [(1, .int (0 : Int32)), (2, .int r13), (4, .int r4), (0, .ref (zzad Z r0)), (3, .int l3)]) C dX7_firstWrongByte_38 rfl (by decide) rfl ?_
        refine zz_goto (tgt := 73) C dX7_firstWrongByte_39 (by decide) ?_
        refine zz_sub (loc' := [(0, .ref (zzad Z r0)), (1, .int (0 : Int32)), (2, .int r13), (3, .int l3)]) [3, 0, 1, 4] rfl ?_
        exact w_X7_firstWrongByte_73 C r0 hr0 k6 hk6 (0 : Int32) r13 l3 σ14
      · refine zz_iload_n C dX7_firstWrongByte_35 rfl 4 rfl ?_
        exact zz_iret C rfl rfl (fun _ h9 => h9) (Nat.zero_le _) (Nat.zero_le _) dX7_firstWrongByte_36
set_option maxHeartbeats 4000000 in
set_option maxRecDepth 100000 in
theorem w_X7_firstWrongByte_6 {l : Launch} {Z : zzG} {base : Nat} {PL : Nat → Option (Nat × Int32)} {mm : zzS} {p : Program} {e : Env} {s : State} {m : MethodId} {args : Array Value} {below : List Frame} {meth : Method} {c : Code} (C : zzCx p m meth c s args cX7_firstWrongByte 5 wsX7_firstWrongByte RX7 (some .int) Z) (r0 : Nat) (hr0 : zzrow r0)  (n : Nat) : ∀ (l1 : Int32)  (l2 : Int32)  (l3 : Int32)  (σ : zzS), zzGO p l e rX7_firstWrongByte s m args below meth c 5 (zzA base) (zzX Z base PL mm) (zzX Z base PL mm) zzRI rX7_firstWrongByte.cells rX7_firstWrongByte.slots (f_X7_firstWrongByte_6 r0 n l1 l2 l3 σ) σ 0 0 6 [(0, .ref (zzad Z r0)), (1, .int l1), (2, .int l2), (3, .int l3)] [] := by
  induction n with
  | zero => exact fun _ _ _ _ r9 s9 h9 => by cases h9
  | succ n ih => exact w_X7_firstWrongByte_6b C r0 hr0 _ ih
set_option maxHeartbeats 4000000 in
set_option maxRecDepth 100000 in
theorem w_X7_firstWrongByte_e {l : Launch} {Z : zzG} {base : Nat} {PL : Nat → Option (Nat × Int32)} {mm : zzS} {p : Program} {e : Env} {s : State} {m : MethodId} {args : Array Value} {below : List Frame} {meth : Method} {c : Code} (C : zzCx p m meth c s args cX7_firstWrongByte 5 wsX7_firstWrongByte RX7 (some .int) Z) (r0 : Nat) (hr0 : zzrow r0) (σ : zzS) : zzGO p l e rX7_firstWrongByte s m args below meth c 5 (zzA base) (zzX Z base PL mm) (zzX Z base PL mm) zzRI rX7_firstWrongByte.cells rX7_firstWrongByte.slots (f_X7_firstWrongByte r0 σ) σ 0 0 0 [(0, .ref (zzad Z r0))] [] := by
  unfold f_X7_firstWrongByte
  refine zz_iconst (v := 1) C dX7_firstWrongByte_0 (by decide) ?_
  refine zz_istore_n (loc' := [(1, .int (1 : Int32)), (0, .ref (zzad Z r0))]) C dX7_firstWrongByte_1 rfl (by decide) rfl ?_
  refine zz_iconst (v := 0) C dX7_firstWrongByte_2 (by decide) ?_
  refine zz_istore_n (loc' := [(2, .int (0 : Int32)), (1, .int (1 : Int32)), (0, .ref (zzad Z r0))]) C dX7_firstWrongByte_3 rfl (by decide) rfl ?_
  refine zz_iconst (v := 0) C dX7_firstWrongByte_4 (by decide) ?_
  refine zz_istore_n (loc' := [(3, .int (0 : Int32)), (2, .int (0 : Int32)), (1, .int (1 : Int32)), (0, .ref (zzad Z r0))]) C dX7_firstWrongByte_5 rfl (by decide) rfl ?_
  refine zz_sub (loc' := [(0, .ref (zzad Z r0)), (1, .int (1 : Int32)), (2, .int (0 : Int32)), (3, .int (0 : Int32))]) [3, 2, 1, 0] rfl ?_
  exact w_X7_firstWrongByte_6 C r0 hr0 200 (1 : Int32) (0 : Int32) (0 : Int32) σ
set_option maxHeartbeats 4000000 in
set_option maxRecDepth 100000 in
theorem k_X7_firstWrongByte {l : Launch} {Z : zzG} {base : Nat} {PL : Nat → Option (Nat × Int32)} {mm : zzS} (r0 : Nat) (hr0 : zzrow r0) (σ : zzS) : zzCT l yX7_firstWrongByte wsX7_firstWrongByte rX7_firstWrongByte (zzA base) Z (zzX Z base PL mm) (zzX Z base PL mm) zzRI [.ref (zzad Z r0)] (f_X7_firstWrongByte r0 σ) σ :=
  zzCT_of (cc := cX7_firstWrongByte) (nL := 5) (ret := (some .int)) (by decide) rfl (Nat.le_of_ble_eq_true rfl) [(0, .ref (zzad Z r0))] rfl (fun p e s m args below meth c C => w_X7_firstWrongByte_e C r0 hr0 σ)
abbrev rX10_become : Room := { frames := 1, cells := 0, slots := 0, locals := 22 }

set_option maxHeartbeats 4000000 in
set_option maxRecDepth 100000 in
theorem w_X10_become_46b {l : Launch} {Z : zzG} {base : Nat} {PL : Nat → Option (Nat × Int32)} {mm : zzS} {p : Program} {e : Env} {s : State} {m : MethodId} {args : Array Value} {below : List Frame} {meth : Method} {c : Code} (C : zzCx p m meth c s args cX10_become 3 wsX10_become RX10 none Z) (t0 : Nat) (ht0 : zztown t0) (p0 : Nat) (hp0 : zztown p0)  (k46 : Int32 → zzS → Option (Unit × zzS)) (hk46 : ∀ (l2 : Int32)  (σ : zzS), zzGO p l e rX10_become s m args below meth c 3 (zzA base) (zzX Z base PL mm) (zzX Z base PL mm) zzRV rX10_become.cells rX10_become.slots (k46 l2 σ) σ 0 0 46 [(0, .ref (zzad Z t0)), (1, .ref (zzad Z p0)), (2, .int l2)] []) (l2 : Int32)  (σ : zzS) : zzGO p l e rX10_become s m args below meth c 3 (zzA base) (zzX Z base PL mm) (zzX Z base PL mm) zzRV rX10_become.cells rX10_become.slots (f_X10_become_46b k46 t0 p0 l2 σ) σ 0 0 46 [(0, .ref (zzad Z t0)), (1, .ref (zzad Z p0)), (2, .int l2)] [] := by
  unfold f_X10_become_46b
  refine zz_iload_n C dX10_become_46 rfl 2 rfl ?_
  refine zz_aload_n C dX10_become_47 rfl 0 rfl ?_
  refine zz_get C (zzX_town ht0) (fun _ h9 => List.mem_cons_of_mem _ (List.mem_append_right _ (h9))) rfl 2 (by decide) (List.mem_of_getElem? (i := 3) rfl) (Or.inl rfl) rfl dX10_become_48 ?_
  refine zz_alen (v := (Int32.ofNat (zzlen (t0 + 3)))) C (zzX_arr (zzXarr3 ht0)) rfl rfl dX10_become_51 ?_
  refine zz_icmp_ge (tgt := 75) C dX10_become_52 (by decide) (fun h1 => ?_) (fun h1 => ?_)
  · refine zz_aload_n C dX10_become_75 rfl 0 rfl ?_
    refine zz_aload_n C dX10_become_76 rfl 1 rfl ?_
    refine zz_get C (zzX_town hp0) (fun _ h9 => List.mem_cons_of_mem _ (List.mem_append_right _ (h9))) rfl 4 (by decide) (List.mem_of_getElem? (i := 4) rfl) (Or.inl rfl) rfl dX10_become_77 ?_
    refine zz_put (ty := .int) C (zzX_town ht0) (fun _ h9 => List.mem_cons_of_mem _ (List.mem_append_right _ (h9))) rfl 4 (by decide) (List.mem_of_getElem? (i := 4) rfl) rfl tyX10_ok nmX10 rfl (by decide +kernel) rfl rfl (Nat.le_of_ble_eq_true rfl) (zzX_utown ht0 (by decide)) (zzA_X (zztown_lt' ht0)) dX10_become_80 ?_
    refine zz_ltS (fun σ2 => ?_)
    refine zz_aload_n C dX10_become_83 rfl 0 rfl ?_
    refine zz_aload_n C dX10_become_84 rfl 1 rfl ?_
    refine zz_get C (zzX_town hp0) (fun _ h9 => List.mem_cons_of_mem _ (List.mem_append_right _ (h9))) rfl 5 (by decide) (List.mem_of_getElem? (i := 5) rfl) (Or.inl rfl) rfl dX10_become_85 ?_
    refine zz_put (ty := .int) C (zzX_town ht0) (fun _ h9 => List.mem_cons_of_mem _ (List.mem_append_right _ (h9))) rfl 5 (by decide) (List.mem_of_getElem? (i := 5) rfl) rfl tyX10_ok nmX10 rfl (by decide +kernel) rfl rfl (Nat.le_of_ble_eq_true rfl) (zzX_utown ht0 (by decide)) (zzA_X (zztown_lt' ht0)) dX10_become_88 ?_
    refine zz_ltS (fun σ3 => ?_)
    refine zz_aload_n C dX10_become_91 rfl 0 rfl ?_
    refine zz_aload_n C dX10_become_92 rfl 1 rfl ?_
    refine zz_get C (zzX_town hp0) (fun _ h9 => List.mem_cons_of_mem _ (List.mem_append_right _ (h9))) rfl 6 (by decide) (List.mem_of_getElem? (i := 6) rfl) (Or.inl rfl) rfl dX10_become_93 ?_
    refine zz_put (ty := .int) C (zzX_town ht0) (fun _ h9 => List.mem_cons_of_mem _ (List.mem_append_right _ (h9))) rfl 6 (by decide) (List.mem_of_getElem? (i := 6) rfl) rfl tyX10_ok nmX10 rfl (by decide +kernel) rfl rfl (Nat.le_of_ble_eq_true rfl) (zzX_utown ht0 (by decide)) (zzA_X (zztown_lt' ht0)) dX10_become_96 ?_
    refine zz_ltS (fun σ4 => ?_)
    exact zz_vret C rfl rfl (fun _ h9 => h9) (Nat.zero_le _) (Nat.zero_le _) dX10_become_99
  · refine zz_aload_n C dX10_become_55 rfl 0 rfl ?_
    refine zz_get C (zzX_town ht0) (fun _ h9 => List.mem_cons_of_mem _ (List.mem_append_right _ (h9))) rfl 2 (by decide) (List.mem_of_getElem? (i := 3) rfl) (Or.inl rfl) rfl dX10_become_56 ?_
    refine zz_iload_n C dX10_become_59 rfl 2 rfl ?_
    refine zz_aload_n C dX10_become_60 rfl 1 rfl ?_
    refine zz_get C (zzX_town hp0) (fun _ h9 => List.mem_cons_of_mem _ (List.mem_append_right _ (h9))) rfl 2 (by decide) (List.mem_of_getElem? (i := 3) rfl) (Or.inl rfl) rfl dX10_become_61 ?_
    refine zz_iload_n C dX10_become_64 rfl 2 rfl ?_
    refine zz_callSN (As := [.ref (zzad Z (p0 + 3)), .int l2]) (rest := [.int l2, .ref (zzad Z (t0 + 3))]) C rfl (k_X11_read (p0 + 3) (zzXarr3 hp0) l2 σ) ⟨va_cnB 2 C.1.2.2.2.2 gX10_become_X11_read_n45 rfl rfl rfl (C.2.2.2.2 _ (List.mem_of_getElem? (i := 7) rfl)) (C.1.2.2.2.2 _ (List.mem_of_getElem? (i := 14) rfl)) (by decide +kernel) ⟨Nat.le_of_ble_eq_true rfl, Nat.le_of_ble_eq_true rfl⟩, C.1.2.2.2.2 _ (List.mem_of_getElem? (i := 13) rfl), trivial⟩ rfl (Nat.le_of_ble_eq_true rfl) ⟨Nat.zero_le _, Nat.zero_le _⟩ dX10_become_65 (zz_kI rfl rfl (fun r5 σ6 => ?_))
    refine zz_gd (fun h7 => ?_)
    refine zz_iast C (zzX_arr (zzXarr3 ht0)) h7 (zzX_uarr (zzXarr3 ht0)) (zzA_X (zzXarr_lt (zzXarr3 ht0))) dX10_become_68 ?_
    refine zz_ltS (fun σ8 => ?_)
    refine zz_iincX (d := 1) (locf := fun x9 => [(2, .int x9), (0, .ref (zzad Z t0)), (1, .ref (zzad Z p0))]) C dX10_become_69 (k := 2) rfl (by decide) (by decide) (fun _ => rfl) (fun x9 => ?_)
    refine zz_goto (tgt := 46) C dX10_become_72 (by decide) ?_
    refine zz_sub (loc' := [(0, .ref (zzad Z t0)), (1, .ref (zzad Z p0)), (2, .int x9)]) [1, 2, 0] rfl ?_
    exact hk46 x9 σ8
set_option maxHeartbeats 4000000 in
set_option maxRecDepth 100000 in
theorem w_X10_become_46 {l : Launch} {Z : zzG} {base : Nat} {PL : Nat → Option (Nat × Int32)} {mm : zzS} {p : Program} {e : Env} {s : State} {m : MethodId} {args : Array Value} {below : List Frame} {meth : Method} {c : Code} (C : zzCx p m meth c s args cX10_become 3 wsX10_become RX10 none Z) (t0 : Nat) (ht0 : zztown t0) (p0 : Nat) (hp0 : zztown p0)  (n : Nat) : ∀ (l2 : Int32)  (σ : zzS), zzGO p l e rX10_become s m args below meth c 3 (zzA base) (zzX Z base PL mm) (zzX Z base PL mm) zzRV rX10_become.cells rX10_become.slots (f_X10_become_46 t0 p0 n l2 σ) σ 0 0 46 [(0, .ref (zzad Z t0)), (1, .ref (zzad Z p0)), (2, .int l2)] [] := by
  induction n with
  | zero => exact fun _ _ r9 s9 h9 => by cases h9
  | succ n ih => exact w_X10_become_46b C t0 ht0 p0 hp0 _ ih
set_option maxHeartbeats 4000000 in
set_option maxRecDepth 100000 in
theorem w_X10_become_2b {l : Launch} {Z : zzG} {base : Nat} {PL : Nat → Option (Nat × Int32)} {mm : zzS} {p : Program} {e : Env} {s : State} {m : MethodId} {args : Array Value} {below : List Frame} {meth : Method} {c : Code} (C : zzCx p m meth c s args cX10_become 3 wsX10_become RX10 none Z) (t0 : Nat) (ht0 : zztown t0) (p0 : Nat) (hp0 : zztown p0)  (k2 : Int32 → zzS → Option (Unit × zzS)) (hk2 : ∀ (l2 : Int32)  (σ : zzS), zzGO p l e rX10_become s m args below meth c 3 (zzA base) (zzX Z base PL mm) (zzX Z base PL mm) zzRV rX10_become.cells rX10_become.slots (k2 l2 σ) σ 0 0 2 [(0, .ref (zzad Z t0)), (1, .ref (zzad Z p0)), (2, .int l2)] []) (l2 : Int32)  (σ : zzS) : zzGO p l e rX10_become s m args below meth c 3 (zzA base) (zzX Z base PL mm) (zzX Z base PL mm) zzRV rX10_become.cells rX10_become.slots (f_X10_become_2b k2 t0 p0 l2 σ) σ 0 0 2 [(0, .ref (zzad Z t0)), (1, .ref (zzad Z p0)), (2, .int l2)] [] := by
  unfold f_X10_become_2b
  refine zz_iload_n C dX10_become_2 rfl 2 rfl ?_
  refine zz_aload_n C dX10_become_3 rfl 0 rfl ?_
  refine zz_get C (zzX_town ht0) (fun _ h9 => List.mem_cons_of_mem _ (List.mem_append_right _ (h9))) rfl 0 (by decide) (List.mem_of_getElem? (i := 1) rfl) (Or.inl rfl) rfl dX10_become_4 ?_
  refine zz_alenP C (zzpk1 ht0) dX10_become_7 ?_
  refine zz_icmp_ge (tgt := 44) C dX10_become_8 (by decide) (fun h1 => ?_) (fun h1 => ?_)
  · refine zz_iconst (v := 0) C dX10_become_44 (by decide) ?_
    refine zz_istore_n (loc' := [(2, .int (0 : Int32)), (0, .ref (zzad Z t0)), (1, .ref (zzad Z p0))]) C dX10_become_45 rfl (by decide) rfl ?_
    refine zz_sub (loc' := [(0, .ref (zzad Z t0)), (1, .ref (zzad Z p0)), (2, .int (0 : Int32))]) [1, 2, 0] rfl ?_
    exact w_X10_become_46 C t0 ht0 p0 hp0 200 (0 : Int32) σ
  · refine zz_aload_n C dX10_become_11 rfl 0 rfl ?_
    refine zz_get C (zzX_town ht0) (fun _ h9 => List.mem_cons_of_mem _ (List.mem_append_right _ (h9))) rfl 0 (by decide) (List.mem_of_getElem? (i := 1) rfl) (Or.inl rfl) rfl dX10_become_12 ?_
    refine zz_iload_n C dX10_become_15 rfl 2 rfl ?_
    refine zz_aload_n C dX10_become_16 rfl 1 rfl ?_
    refine zz_iload_n C dX10_become_17 rfl 2 rfl ?_
    refine zz_callV C (Cn := RX10) (b := zzad Z p0) (fun H hH => zz_recv C.2.2.2 ((zzX_town hp0) H hH) rfl) (As := [.int l2]) (rest := [.int l2, .ref (zzad Z (t0 + 1))]) rfl (k_X10_at p0 hp0 l2 σ) (cwV 1 C.1.2.2.2.2 gX10_become_X10_at rfl rfl rfl (by decide +kernel) ⟨Nat.le_of_ble_eq_true rfl, Nat.le_of_ble_eq_true rfl⟩) rfl (Nat.le_of_ble_eq_true rfl) ⟨Nat.zero_le _, Nat.zero_le _⟩ dX10_become_18 (zz_kP rfl rfl (fun r2 σ3 c4 hp5 => ?_))
    refine zz_gd (fun h6 => ?_)
    refine zz_aast (c0 := c4) (tk := 2) (Cn := "DealtByOpposite$Person") C rfl h6 (zzX_upers (zzpk1 ht0) hp5) (zzX_any C.2.2.2 hp5) (zzA_X (zzpk_lt' (zzpk1 ht0))) dX10_become_21 ?_
    refine zz_ltS (fun σ7 => ?_)
    refine zz_aload_n C dX10_become_22 rfl 0 rfl ?_
    refine zz_get C (zzX_town ht0) (fun _ h9 => List.mem_cons_of_mem _ (List.mem_append_right _ (h9))) rfl 1 (by decide) (List.mem_of_getElem? (i := 2) rfl) (Or.inl rfl) rfl dX10_become_23 ?_
    refine zz_iload_n C dX10_become_26 rfl 2 rfl ?_
    refine zz_aload_n C dX10_become_27 rfl 1 rfl ?_
    refine zz_get C (zzX_town hp0) (fun _ h9 => List.mem_cons_of_mem _ (List.mem_append_right _ (h9))) rfl 1 (by decide) (List.mem_of_getElem? (i := 2) rfl) (Or.inl rfl) rfl dX10_become_28 ?_
    refine zz_iload_n C dX10_become_31 rfl 2 rfl ?_
    refine zz_callSN (As := [.ref (zzad Z (p0 + 2)), .int l2]) (rest := [.int l2, .ref (zzad Z (t0 + 2))]) C rfl (k_X11_read (p0 + 2) (zzXarr2 hp0) l2 σ7) ⟨va_cnB 2 C.1.2.2.2.2 gX10_become_X11_read_n45 rfl rfl rfl (C.2.2.2.2 _ (List.mem_of_getElem? (i := 7) rfl)) (C.1.2.2.2.2 _ (List.mem_of_getElem? (i := 14) rfl)) (by decide +kernel) ⟨Nat.le_of_ble_eq_true rfl, Nat.le_of_ble_eq_true rfl⟩, C.1.2.2.2.2 _ (List.mem_of_getElem? (i := 13) rfl), trivial⟩ rfl (Nat.le_of_ble_eq_true rfl) ⟨Nat.zero_le _, Nat.zero_le _⟩ dX10_become_32 (zz_kI rfl rfl (fun r8 σ9 => ?_))
    refine zz_callSN (As := [.ref (zzad Z (t0 + 2)), .int l2, .int r8]) (rest := []) C rfl (k_X11_write (t0 + 2) (zzXarr2 ht0) l2 r8 σ9) ⟨va_cnB 3 C.1.2.2.2.2 gX10_become_X11_write_n49 rfl rfl rfl (C.2.2.2.2 _ (List.mem_of_getElem? (i := 8) rfl)) (C.1.2.2.2.2 _ (List.mem_of_getElem? (i := 14) rfl)) (by decide +kernel) ⟨Nat.le_of_ble_eq_true rfl, Nat.le_of_ble_eq_true rfl⟩, C.1.2.2.2.2 _ (List.mem_of_getElem? (i := 16) rfl), trivial⟩ rfl (Nat.le_of_ble_eq_true rfl) ⟨Nat.zero_le _, Nat.zero_le _⟩ dX10_become_35 (zz_kV rfl rfl (fun r10 σ11 => ?_))
    refine zz_iincX (d := 1) (locf := fun x12 => [(2, .int x12), (0, .ref (zzad Z t0)), (1, .ref (zzad Z p0))]) C dX10_become_38 (k := 2) rfl (by decide) (by decide) (fun _ => rfl) (fun x12 => ?_)
    refine zz_goto (tgt := 2) C dX10_become_41 (by decide) ?_
    refine zz_sub (loc' := [(0, .ref (zzad Z t0)), (1, .ref (zzad Z p0)), (2, .int x12)]) [1, 2, 0] rfl ?_
    exact hk2 x12 σ11
set_option maxHeartbeats 4000000 in
set_option maxRecDepth 100000 in
theorem w_X10_become_2 {l : Launch} {Z : zzG} {base : Nat} {PL : Nat → Option (Nat × Int32)} {mm : zzS} {p : Program} {e : Env} {s : State} {m : MethodId} {args : Array Value} {below : List Frame} {meth : Method} {c : Code} (C : zzCx p m meth c s args cX10_become 3 wsX10_become RX10 none Z) (t0 : Nat) (ht0 : zztown t0) (p0 : Nat) (hp0 : zztown p0)  (n : Nat) : ∀ (l2 : Int32)  (σ : zzS), zzGO p l e rX10_become s m args below meth c 3 (zzA base) (zzX Z base PL mm) (zzX Z base PL mm) zzRV rX10_become.cells rX10_become.slots (f_X10_become_2 t0 p0 n l2 σ) σ 0 0 2 [(0, .ref (zzad Z t0)), (1, .ref (zzad Z p0)), (2, .int l2)] [] := by
  induction n with
  | zero => exact fun _ _ r9 s9 h9 => by cases h9
  | succ n ih => exact w_X10_become_2b C t0 ht0 p0 hp0 _ ih
set_option maxHeartbeats 4000000 in
set_option maxRecDepth 100000 in
theorem w_X10_become_e {l : Launch} {Z : zzG} {base : Nat} {PL : Nat → Option (Nat × Int32)} {mm : zzS} {p : Program} {e : Env} {s : State} {m : MethodId} {args : Array Value} {below : List Frame} {meth : Method} {c : Code} (C : zzCx p m meth c s args cX10_become 3 wsX10_become RX10 none Z) (t0 : Nat) (ht0 : zztown t0) (p0 : Nat) (hp0 : zztown p0) (σ : zzS) : zzGO p l e rX10_become s m args below meth c 3 (zzA base) (zzX Z base PL mm) (zzX Z base PL mm) zzRV rX10_become.cells rX10_become.slots (f_X10_become t0 p0 σ) σ 0 0 0 [(0, .ref (zzad Z t0)), (1, .ref (zzad Z p0))] [] := by
  unfold f_X10_become
  refine zz_iconst (v := 0) C dX10_become_0 (by decide) ?_
  refine zz_istore_n (loc' := [(2, .int (0 : Int32)), (0, .ref (zzad Z t0)), (1, .ref (zzad Z p0))]) C dX10_become_1 rfl (by decide) rfl ?_
  refine zz_sub (loc' := [(0, .ref (zzad Z t0)), (1, .ref (zzad Z p0)), (2, .int (0 : Int32))]) [1, 2, 0] rfl ?_
  exact w_X10_become_2 C t0 ht0 p0 hp0 200 (0 : Int32) σ
set_option maxHeartbeats 4000000 in
set_option maxRecDepth 100000 in
theorem k_X10_become {l : Launch} {Z : zzG} {base : Nat} {PL : Nat → Option (Nat × Int32)} {mm : zzS} (t0 : Nat) (ht0 : zztown t0) (p0 : Nat) (hp0 : zztown p0) (σ : zzS) : zzCT l yX10_become wsX10_become rX10_become (zzA base) Z (zzX Z base PL mm) (zzX Z base PL mm) zzRV [.ref (zzad Z t0), .ref (zzad Z p0)] (f_X10_become t0 p0 σ) σ :=
  zzCT_of (cc := cX10_become) (nL := 3) (ret := none) (by decide) rfl (Nat.le_of_ble_eq_true rfl) [(0, .ref (zzad Z t0)), (1, .ref (zzad Z p0))] rfl (fun p e s m args below meth c C => w_X10_become_e C t0 ht0 p0 hp0 σ)
abbrev rX10_turnedOf : Room := { frames := 1, cells := 0, slots := 0, locals := 21 }

set_option maxHeartbeats 4000000 in
set_option maxRecDepth 100000 in
theorem w_X10_turnedOf_e {l : Launch} {Z : zzG} {base : Nat} {PL : Nat → Option (Nat × Int32)} {mm : zzS} {p : Program} {e : Env} {s : State} {m : MethodId} {args : Array Value} {below : List Frame} {meth : Method} {c : Code} (C : zzCx p m meth c s args cX10_turnedOf 2 wsX10_turnedOf RX10 (some .int) Z) (t0 : Nat) (ht0 : zztown t0) (p0 : Int32)  (σ : zzS) : zzGO p l e rX10_turnedOf s m args below meth c 2 (zzA base) (zzX Z base PL mm) (zzX Z base PL mm) zzRI rX10_turnedOf.cells rX10_turnedOf.slots (f_X10_turnedOf t0 p0 σ) σ 0 0 0 [(0, .ref (zzad Z t0)), (1, .int p0)] [] := by
  unfold f_X10_turnedOf
  refine zz_aload_n C dX10_turnedOf_0 rfl 0 rfl ?_
  refine zz_iload_n C dX10_turnedOf_1 rfl 1 rfl ?_
  refine zz_callV C (Cn := RX10) (b := zzad Z t0) (fun H hH => zz_recv C.2.2.2 ((zzX_town ht0) H hH) rfl) (As := [.int p0]) (rest := []) rfl (k_X10_has t0 ht0 p0 σ) (cwV 1 C.1.2.2.2.2 gX10_turnedOf_X10_has rfl rfl rfl (by decide +kernel) ⟨Nat.le_of_ble_eq_true rfl, Nat.le_of_ble_eq_true rfl⟩) rfl (Nat.le_of_ble_eq_true rfl) ⟨Nat.zero_le _, Nat.zero_le _⟩ dX10_turnedOf_2 (zz_kI rfl rfl (fun r1 σ2 => ?_))
  refine zz_if_eq (tgt := 19) C dX10_turnedOf_5 (by decide) (fun h3 => ?_) (fun h3 => ?_)
  · refine zz_iconst (v := 0) C dX10_turnedOf_19 (by decide) ?_
    exact zz_iret C rfl rfl (fun _ h9 => h9) (Nat.zero_le _) (Nat.zero_le _) dX10_turnedOf_20
  · refine zz_aload_n C dX10_turnedOf_8 rfl 0 rfl ?_
    refine zz_get C (zzX_town ht0) (fun _ h9 => List.mem_cons_of_mem _ (List.mem_append_right _ (h9))) rfl 1 (by decide) (List.mem_of_getElem? (i := 1) rfl) (Or.inl rfl) rfl dX10_turnedOf_9 ?_
    refine zz_iload_n C dX10_turnedOf_12 rfl 1 rfl ?_
    refine zz_callSN (As := [.ref (zzad Z (t0 + 2)), .int p0]) (rest := []) C rfl (k_X11_read (t0 + 2) (zzXarr2 ht0) p0 σ2) ⟨va_cnB 2 C.1.2.2.2.2 gX10_turnedOf_X11_read_n45 rfl rfl rfl (C.2.2.2.2 _ (List.mem_of_getElem? (i := 7) rfl)) (C.1.2.2.2.2 _ (List.mem_of_getElem? (i := 9) rfl)) (by decide +kernel) ⟨Nat.le_of_ble_eq_true rfl, Nat.le_of_ble_eq_true rfl⟩, C.1.2.2.2.2 _ (List.mem_of_getElem? (i := 8) rfl), trivial⟩ rfl (Nat.le_of_ble_eq_true rfl) ⟨Nat.zero_le _, Nat.zero_le _⟩ dX10_turnedOf_13 (zz_kI rfl rfl (fun r4 σ5 => ?_))
    refine zz_goto (tgt := 20) C dX10_turnedOf_16 (by decide) ?_
    exact zz_iret C rfl rfl (fun _ h9 => h9) (Nat.zero_le _) (Nat.zero_le _) dX10_turnedOf_20
set_option maxHeartbeats 4000000 in
set_option maxRecDepth 100000 in
theorem k_X10_turnedOf {l : Launch} {Z : zzG} {base : Nat} {PL : Nat → Option (Nat × Int32)} {mm : zzS} (t0 : Nat) (ht0 : zztown t0) (p0 : Int32)  (σ : zzS) : zzCT l yX10_turnedOf wsX10_turnedOf rX10_turnedOf (zzA base) Z (zzX Z base PL mm) (zzX Z base PL mm) zzRI [.ref (zzad Z t0), .int p0] (f_X10_turnedOf t0 p0 σ) σ :=
  zzCT_of (cc := cX10_turnedOf) (nL := 2) (ret := (some .int)) (by decide) rfl (Nat.le_of_ble_eq_true rfl) [(0, .ref (zzad Z t0)), (1, .int p0)] rfl (fun p e s m args below meth c C => w_X10_turnedOf_e C t0 ht0 p0 σ)
abbrev rX10_admit : Room := { frames := 0, cells := 0, slots := 0, locals := 0 }

set_option maxHeartbeats 4000000 in
set_option maxRecDepth 100000 in
theorem w_X10_admit_e {l : Launch} {Z : zzG} {base : Nat} {PL : Nat → Option (Nat × Int32)} {mm : zzS} {p : Program} {e : Env} {s : State} {m : MethodId} {args : Array Value} {below : List Frame} {meth : Method} {c : Code} (C : zzCx p m meth c s args cX10_admit 2 wsX10_admit RX10 (some .boolean) Z) (t0 : Nat) (ht0 : zztown t0) (p0 : (Option (Nat × Int32))) (cp0 : Option Nat) (hp0 : zzpr PL p0 cp0) (σ : zzS) : zzGO p l e rX10_admit s m args below meth c 2 (zzA base) (zzX Z base PL mm) (zzX Z base PL mm) zzRI rX10_admit.cells rX10_admit.slots (f_X10_admit t0 p0 σ) σ 0 0 0 [(0, .ref (zzad Z t0)), (1, va_rf cp0)] [] := by
  unfold f_X10_admit
  refine zz_aload_n C dX10_admit_0 rfl 0 rfl ?_
  refine zz_get C (zzX_town ht0) (fun _ h9 => List.mem_cons_of_mem _ (List.mem_append_right _ (h9))) rfl 4 (by decide) (List.mem_of_getElem? (i := 1) rfl) (Or.inl rfl) rfl dX10_admit_1 ?_
  refine zz_if_lt (tgt := 19) C dX10_admit_4 (by decide) (fun h1 => ?_) (fun h1 => ?_)
  · refine zz_iconst (v := 0) C dX10_admit_19 (by decide) ?_
    exact zz_zret C rfl (Or.inl rfl) rfl (fun _ h9 => h9) (Nat.zero_le _) (Nat.zero_le _) dX10_admit_20
  · refine zz_aload_n C dX10_admit_7 rfl 0 rfl ?_
    refine zz_get C (zzX_town ht0) (fun _ h9 => List.mem_cons_of_mem _ (List.mem_append_right _ (h9))) rfl 4 (by decide) (List.mem_of_getElem? (i := 1) rfl) (Or.inl rfl) rfl dX10_admit_8 ?_
    refine zz_aload_n C dX10_admit_11 rfl 0 rfl ?_
    refine zz_get C (zzX_town ht0) (fun _ h9 => List.mem_cons_of_mem _ (List.mem_append_right _ (h9))) rfl 0 (by decide) (List.mem_of_getElem? (i := 2) rfl) (Or.inl rfl) rfl dX10_admit_12 ?_
    refine zz_alenP C (zzpk1 ht0) dX10_admit_15 ?_
    refine zz_icmp_lt (tgt := 21) C dX10_admit_16 (by decide) (fun h2 => ?_) (fun h2 => ?_)
    · refine zz_aload_n C dX10_admit_21 rfl 0 rfl ?_
      refine zz_get C (zzX_town ht0) (fun _ h9 => List.mem_cons_of_mem _ (List.mem_append_right _ (h9))) rfl 0 (by decide) (List.mem_of_getElem? (i := 2) rfl) (Or.inl rfl) rfl dX10_admit_22 ?_
      refine zz_aload_n C dX10_admit_25 rfl 0 rfl ?_
      refine zz_get C (zzX_town ht0) (fun _ h9 => List.mem_cons_of_mem _ (List.mem_append_right _ (h9))) rfl 4 (by decide) (List.mem_of_getElem? (i := 1) rfl) (Or.inl rfl) rfl dX10_admit_26 ?_
      refine zz_aloadq_n C dX10_admit_29 rfl 1 rfl ?_
      refine zz_gd (fun h3 => ?_)
      refine zz_aast (c0 := cp0) (tk := 2) (Cn := "DealtByOpposite$Person") C rfl h3 (zzX_upers (zzpk1 ht0) hp0) (zzX_any C.2.2.2 hp0) (zzA_X (zzpk_lt' (zzpk1 ht0))) dX10_admit_30 ?_
      refine zz_ltS (fun σ4 => ?_)
      refine zz_aload_n C dX10_admit_31 rfl 0 rfl ?_
      refine zz_dup C dX10_admit_32 rfl ?_
      refine zz_get C (zzX_town ht0) (fun _ h9 => List.mem_cons_of_mem _ (List.mem_append_right _ (h9))) rfl 4 (by decide) (List.mem_of_getElem? (i := 1) rfl) (Or.inl rfl) rfl dX10_admit_33 ?_
      refine zz_iconst (v := 1) C dX10_admit_36 (by decide) ?_
      refine zz_iadd C dX10_admit_37 ?_
      refine zz_put (ty := .int) C (zzX_town ht0) (fun _ h9 => List.mem_cons_of_mem _ (List.mem_append_right _ (h9))) rfl 4 (by decide) (List.mem_of_getElem? (i := 1) rfl) rfl tyX10_ok nmX10 rfl (by decide +kernel) rfl rfl (Nat.le_of_ble_eq_true rfl) (zzX_utown ht0 (by decide)) (zzA_X (zztown_lt' ht0)) dX10_admit_38 ?_
      refine zz_ltS (fun σ5 => ?_)
      refine zz_iconst (v := 1) C dX10_admit_41 (by decide) ?_
      exact zz_zret C rfl (Or.inr rfl) rfl (fun _ h9 => h9) (Nat.zero_le _) (Nat.zero_le _) dX10_admit_42
    · refine zz_iconst (v := 0) C dX10_admit_19 (by decide) ?_
      exact zz_zret C rfl (Or.inl rfl) rfl (fun _ h9 => h9) (Nat.zero_le _) (Nat.zero_le _) dX10_admit_20
set_option maxHeartbeats 4000000 in
set_option maxRecDepth 100000 in
theorem k_X10_admit {l : Launch} {Z : zzG} {base : Nat} {PL : Nat → Option (Nat × Int32)} {mm : zzS} (t0 : Nat) (ht0 : zztown t0) (p0 : (Option (Nat × Int32))) (cp0 : Option Nat) (hp0 : zzpr PL p0 cp0) (σ : zzS) : zzCT l yX10_admit wsX10_admit rX10_admit (zzA base) Z (zzX Z base PL mm) (zzX Z base PL mm) zzRI [.ref (zzad Z t0), va_rf cp0] (f_X10_admit t0 p0 σ) σ :=
  zzCT_of (cc := cX10_admit) (nL := 2) (ret := (some .boolean)) (by decide) rfl (by cases cp0 <;> exact Nat.le_of_ble_eq_true rfl) [(0, .ref (zzad Z t0)), (1, va_rf cp0)] (by cases cp0 <;> rfl) (fun p e s m args below meth c C => w_X10_admit_e C t0 ht0 p0 cp0 hp0 σ)
abbrev rX10_setFond : Room := { frames := 2, cells := 0, slots := 0, locals := 43 }

set_option maxHeartbeats 4000000 in
set_option maxRecDepth 100000 in
theorem w_X10_setFond_e {l : Launch} {Z : zzG} {base : Nat} {PL : Nat → Option (Nat × Int32)} {mm : zzS} {p : Program} {e : Env} {s : State} {m : MethodId} {args : Array Value} {below : List Frame} {meth : Method} {c : Code} (C : zzCx p m meth c s args cX10_setFond 4 wsX10_setFond RX10 (some .boolean) Z) (t0 : Nat) (ht0 : zztown t0) (p0 : Int32)  (p1 : Int32)  (p2 : Int32)  (σ : zzS) : zzGO p l e rX10_setFond s m args below meth c 4 (zzA base) (zzX Z base PL mm) (zzX Z base PL mm) zzRI rX10_setFond.cells rX10_setFond.slots (f_X10_setFond t0 p0 p1 p2 σ) σ 0 0 0 [(0, .ref (zzad Z t0)), (1, .int p0), (2, .int p1), (3, .int p2)] [] := by
  unfold f_X10_setFond
  refine zz_aload_n C dX10_setFond_0 rfl 0 rfl ?_
  refine zz_iload_n C dX10_setFond_1 rfl 1 rfl ?_
  refine zz_iload_n C dX10_setFond_2 rfl 2 rfl ?_
  refine zz_callV C (Cn := RX10) (b := zzad Z t0) (fun H hH => zz_recv C.2.2.2 ((zzX_town ht0) H hH) rfl) (As := [.int p0, .int p1]) (rest := []) rfl (k_X10_areTwo t0 ht0 p0 p1 σ) (cwV 2 C.1.2.2.2.2 gX10_setFond_X10_areTwo rfl rfl rfl (by decide +kernel) ⟨Nat.le_of_ble_eq_true rfl, Nat.le_of_ble_eq_true rfl⟩) rfl (Nat.le_of_ble_eq_true rfl) ⟨Nat.zero_le _, Nat.zero_le _⟩ dX10_setFond_3 (zz_kI rfl rfl (fun r1 σ2 => ?_))
  refine zz_if_eq (tgt := 19) C dX10_setFond_6 (by decide) (fun h3 => ?_) (fun h3 => ?_)
  · refine zz_iconst (v := 0) C dX10_setFond_19 (by decide) ?_
    exact zz_zret C rfl (Or.inl rfl) rfl (fun _ h9 => h9) (Nat.zero_le _) (Nat.zero_le _) dX10_setFond_20
  · refine zz_iload_n C dX10_setFond_9 rfl 3 rfl ?_
    refine zz_if_lt (tgt := 19) C dX10_setFond_10 (by decide) (fun h4 => ?_) (fun h4 => ?_)
    · refine zz_iconst (v := 0) C dX10_setFond_19 (by decide) ?_
      exact zz_zret C rfl (Or.inl rfl) rfl (fun _ h9 => h9) (Nat.zero_le _) (Nat.zero_le _) dX10_setFond_20
    · refine zz_iload_n C dX10_setFond_13 rfl 3 rfl ?_
      refine zz_bipush (v := 9) C dX10_setFond_14 (by decide) ?_
      refine zz_icmp_le (tgt := 21) C dX10_setFond_16 (by decide) (fun h5 => ?_) (fun h5 => ?_)
      · refine zz_aload_n C dX10_setFond_21 rfl 0 rfl ?_
        refine zz_get C (zzX_town ht0) (fun _ h9 => List.mem_cons_of_mem _ (List.mem_append_right _ (h9))) rfl 2 (by decide) (List.mem_of_getElem? (i := 1) rfl) (Or.inl rfl) rfl dX10_setFond_22 ?_
        refine zz_iload_n C dX10_setFond_25 rfl 1 rfl ?_
        refine zz_bipush (v := 7) C dX10_setFond_26 (by decide) ?_
        refine zz_imul C dX10_setFond_28 ?_
        refine zz_iload_n C dX10_setFond_29 rfl 2 rfl ?_
        refine zz_iadd C dX10_setFond_30 ?_
        refine zz_iload_n C dX10_setFond_31 rfl 3 rfl ?_
        refine zz_callSN (As := [.ref (zzad Z (t0 + 3)), .int ((p0 * (7 : Int32)) + p1), .int p2]) (rest := []) C rfl (k_X11_write (t0 + 3) (zzXarr3 ht0) ((p0 * (7 : Int32)) + p1) p2 σ2) ⟨va_cnB 3 C.1.2.2.2.2 gX10_setFond_X11_write_n49 rfl rfl rfl (C.2.2.2.2 _ (List.mem_of_getElem? (i := 8) rfl)) (C.1.2.2.2.2 _ (List.mem_of_getElem? (i := 13) rfl)) (by decide +kernel) ⟨Nat.le_of_ble_eq_true rfl, Nat.le_of_ble_eq_true rfl⟩, C.1.2.2.2.2 _ (List.mem_of_getElem? (i := 12) rfl), trivial⟩ rfl (Nat.le_of_ble_eq_true rfl) ⟨Nat.zero_le _, Nat.zero_le _⟩ dX10_setFond_32 (zz_kV rfl rfl (fun r6 σ7 => ?_))
        refine zz_iconst (v := 1) C dX10_setFond_35 (by decide) ?_
        exact zz_zret C rfl (Or.inr rfl) rfl (fun _ h9 => h9) (Nat.zero_le _) (Nat.zero_le _) dX10_setFond_36
      · refine zz_iconst (v := 0) C dX10_setFond_19 (by decide) ?_
        exact zz_zret C rfl (Or.inl rfl) rfl (fun _ h9 => h9) (Nat.zero_le _) (Nat.zero_le _) dX10_setFond_20
set_option maxHeartbeats 4000000 in
set_option maxRecDepth 100000 in
theorem k_X10_setFond {l : Launch} {Z : zzG} {base : Nat} {PL : Nat → Option (Nat × Int32)} {mm : zzS} (t0 : Nat) (ht0 : zztown t0) (p0 : Int32)  (p1 : Int32)  (p2 : Int32)  (σ : zzS) : zzCT l yX10_setFond wsX10_setFond rX10_setFond (zzA base) Z (zzX Z base PL mm) (zzX Z base PL mm) zzRI [.ref (zzad Z t0), .int p0, .int p1, .int p2] (f_X10_setFond t0 p0 p1 p2 σ) σ :=
  zzCT_of (cc := cX10_setFond) (nL := 4) (ret := (some .boolean)) (by decide) rfl (Nat.le_of_ble_eq_true rfl) [(0, .ref (zzad Z t0)), (1, .int p0), (2, .int p1), (3, .int p2)] rfl (fun p e s m args below meth c C => w_X10_setFond_e C t0 ht0 p0 p1 p2 σ)
abbrev rX10_setLimit : Room := { frames := 0, cells := 0, slots := 0, locals := 0 }

set_option maxHeartbeats 4000000 in
set_option maxRecDepth 100000 in
theorem w_X10_setLimit_e {l : Launch} {Z : zzG} {base : Nat} {PL : Nat → Option (Nat × Int32)} {mm : zzS} {p : Program} {e : Env} {s : State} {m : MethodId} {args : Array Value} {below : List Frame} {meth : Method} {c : Code} (C : zzCx p m meth c s args cX10_setLimit 2 wsX10_setLimit RX10 (some .boolean) Z) (t0 : Nat) (ht0 : zztown t0) (p0 : Int32)  (σ : zzS) : zzGO p l e rX10_setLimit s m args below meth c 2 (zzA base) (zzX Z base PL mm) (zzX Z base PL mm) zzRI rX10_setLimit.cells rX10_setLimit.slots (f_X10_setLimit t0 p0 σ) σ 0 0 0 [(0, .ref (zzad Z t0)), (1, .int p0)] [] := by
  unfold f_X10_setLimit
  refine zz_iload_n C dX10_setLimit_0 rfl 1 rfl ?_
  refine zz_if_lt (tgt := 10) C dX10_setLimit_1 (by decide) (fun h1 => ?_) (fun h1 => ?_)
  · refine zz_iconst (v := 0) C dX10_setLimit_10 (by decide) ?_
    exact zz_zret C rfl (Or.inl rfl) rfl (fun _ h9 => h9) (Nat.zero_le _) (Nat.zero_le _) dX10_setLimit_11
  · refine zz_iload_n C dX10_setLimit_4 rfl 1 rfl ?_
    refine zz_bipush (v := 9) C dX10_setLimit_5 (by decide) ?_
    refine zz_icmp_le (tgt := 12) C dX10_setLimit_7 (by decide) (fun h2 => ?_) (fun h2 => ?_)
    · refine zz_aload_n C dX10_setLimit_12 rfl 0 rfl ?_
      refine zz_iload_n C dX10_setLimit_13 rfl 1 rfl ?_
      refine zz_put (ty := .int) C (zzX_town ht0) (fun _ h9 => List.mem_cons_of_mem _ (List.mem_append_right _ (h9))) rfl 5 (by decide) (List.mem_of_getElem? (i := 1) rfl) rfl tyX10_ok nmX10 rfl (by decide +kernel) rfl rfl (Nat.le_of_ble_eq_true rfl) (zzX_utown ht0 (by decide)) (zzA_X (zztown_lt' ht0)) dX10_setLimit_14 ?_
      refine zz_ltS (fun σ3 => ?_)
      refine zz_iconst (v := 1) C dX10_setLimit_17 (by decide) ?_
      exact zz_zret C rfl (Or.inr rfl) rfl (fun _ h9 => h9) (Nat.zero_le _) (Nat.zero_le _) dX10_setLimit_18
    · refine zz_iconst (v := 0) C dX10_setLimit_10 (by decide) ?_
      exact zz_zret C rfl (Or.inl rfl) rfl (fun _ h9 => h9) (Nat.zero_le _) (Nat.zero_le _) dX10_setLimit_11
set_option maxHeartbeats 4000000 in
set_option maxRecDepth 100000 in
theorem k_X10_setLimit {l : Launch} {Z : zzG} {base : Nat} {PL : Nat → Option (Nat × Int32)} {mm : zzS} (t0 : Nat) (ht0 : zztown t0) (p0 : Int32)  (σ : zzS) : zzCT l yX10_setLimit wsX10_setLimit rX10_setLimit (zzA base) Z (zzX Z base PL mm) (zzX Z base PL mm) zzRI [.ref (zzad Z t0), .int p0] (f_X10_setLimit t0 p0 σ) σ :=
  zzCT_of (cc := cX10_setLimit) (nL := 2) (ret := (some .boolean)) (by decide) rfl (Nat.le_of_ble_eq_true rfl) [(0, .ref (zzad Z t0)), (1, .int p0)] rfl (fun p e s m args below meth c C => w_X10_setLimit_e C t0 ht0 p0 σ)
abbrev rX10_pass : Room := { frames := 0, cells := 0, slots := 0, locals := 0 }

set_option maxHeartbeats 4000000 in
set_option maxRecDepth 100000 in
theorem w_X10_pass_e {l : Launch} {Z : zzG} {base : Nat} {PL : Nat → Option (Nat × Int32)} {mm : zzS} {p : Program} {e : Env} {s : State} {m : MethodId} {args : Array Value} {below : List Frame} {meth : Method} {c : Code} (C : zzCx p m meth c s args cX10_pass 2 wsX10_pass RX10 (some .boolean) Z) (t0 : Nat) (ht0 : zztown t0) (p0 : Int32)  (σ : zzS) : zzGO p l e rX10_pass s m args below meth c 2 (zzA base) (zzX Z base PL mm) (zzX Z base PL mm) zzRI rX10_pass.cells rX10_pass.slots (f_X10_pass t0 p0 σ) σ 0 0 0 [(0, .ref (zzad Z t0)), (1, .int p0)] [] := by
  unfold f_X10_pass
  refine zz_iload_n C dX10_pass_0 rfl 1 rfl ?_
  refine zz_iconst (v := 1) C dX10_pass_1 (by decide) ?_
  refine zz_icmp_lt (tgt := 23) C dX10_pass_2 (by decide) (fun h1 => ?_) (fun h1 => ?_)
  · refine zz_iconst (v := 0) C dX10_pass_23 (by decide) ?_
    exact zz_zret C rfl (Or.inl rfl) rfl (fun _ h9 => h9) (Nat.zero_le _) (Nat.zero_le _) dX10_pass_24
  · refine zz_iload_n C dX10_pass_5 rfl 1 rfl ?_
    refine zz_bipush (v := 99) C dX10_pass_6 (by decide) ?_
    refine zz_icmp_gt (tgt := 23) C dX10_pass_8 (by decide) (fun h2 => ?_) (fun h2 => ?_)
    · refine zz_iconst (v := 0) C dX10_pass_23 (by decide) ?_
      exact zz_zret C rfl (Or.inl rfl) rfl (fun _ h9 => h9) (Nat.zero_le _) (Nat.zero_le _) dX10_pass_24
    · refine zz_aload_n C dX10_pass_11 rfl 0 rfl ?_
      refine zz_get C (zzX_town ht0) (fun _ h9 => List.mem_cons_of_mem _ (List.mem_append_right _ (h9))) rfl 6 (by decide) (List.mem_of_getElem? (i := 1) rfl) (Or.inl rfl) rfl dX10_pass_12 ?_
      refine zz_iload_n C dX10_pass_15 rfl 1 rfl ?_
      refine zz_iadd C dX10_pass_16 ?_
      refine zz_sipush (v := 999) C dX10_pass_17 (by decide) ?_
      refine zz_icmp_le (tgt := 25) C dX10_pass_20 (by decide) (fun h3 => ?_) (fun h3 => ?_)
      · refine zz_aload_n C dX10_pass_25 rfl 0 rfl ?_
        refine zz_dup C dX10_pass_26 rfl ?_
        refine zz_get C (zzX_town ht0) (fun _ h9 => List.mem_cons_of_mem _ (List.mem_append_right _ (h9))) rfl 6 (by decide) (List.mem_of_getElem? (i := 1) rfl) (Or.inl rfl) rfl dX10_pass_27 ?_
        refine zz_iload_n C dX10_pass_30 rfl 1 rfl ?_
        refine zz_iadd C dX10_pass_31 ?_
        refine zz_put (ty := .int) C (zzX_town ht0) (fun _ h9 => List.mem_cons_of_mem _ (List.mem_append_right _ (h9))) rfl 6 (by decide) (List.mem_of_getElem? (i := 1) rfl) rfl tyX10_ok nmX10 rfl (by decide +kernel) rfl rfl (Nat.le_of_ble_eq_true rfl) (zzX_utown ht0 (by decide)) (zzA_X (zztown_lt' ht0)) dX10_pass_32 ?_
        refine zz_ltS (fun σ4 => ?_)
        refine zz_iconst (v := 1) C dX10_pass_35 (by decide) ?_
        exact zz_zret C rfl (Or.inr rfl) rfl (fun _ h9 => h9) (Nat.zero_le _) (Nat.zero_le _) dX10_pass_36
      · refine zz_iconst (v := 0) C dX10_pass_23 (by decide) ?_
        exact zz_zret C rfl (Or.inl rfl) rfl (fun _ h9 => h9) (Nat.zero_le _) (Nat.zero_le _) dX10_pass_24
set_option maxHeartbeats 4000000 in
set_option maxRecDepth 100000 in
theorem k_X10_pass {l : Launch} {Z : zzG} {base : Nat} {PL : Nat → Option (Nat × Int32)} {mm : zzS} (t0 : Nat) (ht0 : zztown t0) (p0 : Int32)  (σ : zzS) : zzCT l yX10_pass wsX10_pass rX10_pass (zzA base) Z (zzX Z base PL mm) (zzX Z base PL mm) zzRI [.ref (zzad Z t0), .int p0] (f_X10_pass t0 p0 σ) σ :=
  zzCT_of (cc := cX10_pass) (nL := 2) (ret := (some .boolean)) (by decide) rfl (Nat.le_of_ble_eq_true rfl) [(0, .ref (zzad Z t0)), (1, .int p0)] rfl (fun p e s m args below meth c C => w_X10_pass_e C t0 ht0 p0 σ)
abbrev rX10_becomeFonder : Room := { frames := 3, cells := 0, slots := 0, locals := 66 }
set_option maxHeartbeats 4000000 in
set_option maxRecDepth 100000 in
theorem vr_X10_becomeFonder_16 {l : Launch} {Z : zzG} {base : Nat} {PL : Nat → Option (Nat × Int32)} {mm : zzS} {p : Program} {e : Env} {s : State} {m : MethodId} {args : Array Value} {below : List Frame} {meth : Method} {c : Code} {cells slots : Nat} {σ : zzS} {loc : List (Nat × Value)} {rest : List Value} (C : zzCx p m meth c s args cX10_becomeFonder 3 wsX10_becomeFonder RX10 none Z) {q : Nat} {kf : Nat × Int32} (hq : PL q = some kf) (hroom : (rest.map fun v => v.category).sum ≤ 8) (hcs : cells + 0 ≤ (rX10_becomeFonder).cells ∧ slots + 0 ≤ (rX10_becomeFonder).slots := by exact ⟨Nat.zero_le _, Nat.zero_le _⟩) :
    ∀ r1 σ2, some (zzgrows kf, σ) = some (r1, σ2) → ∀ (H : Heap) (locs : List Loc) (ls : Array Slot), zzX Z base PL mm σ H → lv_has ls 3 loc → va_Run p l e rX10_becomeFonder s m args below meth c H locs cells slots 0 0 (F0 m 16 ls (.ref q :: rest)) rest (zzQ zzRI (zzX Z base PL mm) (zzA base) r1 σ2 #[.ref q]) (zzA base) := by
  intro r1 σ2 hr H locs ls hW hl
  have h8 := zz_kind8 (hW.1.2.2.1 q kf hq).1
  obtain ⟨k9, f9⟩ := kf
  rcases h8 with h8 | h8 | h8 | h8 | h8 | h8 | h8 | h8
  · have h8 : k9 = 0 := h8
    subst h8
    have ct := k_X6_grows (l := l) (Z := Z) (base := base) (PL := PL) (mm := mm) (0, f9) q hq σ r1 σ2 hr
    exact va_runV (As := []) (C := RX6) C.1 ct (cwV 0 C.1.2.2.2.2 gX10_becomeFonder_X6_grows rfl rfl rfl (by decide +kernel) ⟨Nat.le_of_ble_eq_true rfl, Nat.le_of_ble_eq_true rfl⟩) ⟨zzPc_blind, zz_recv C.2.2.2 (zzX_pers1 hq H hW) rfl, fun U hU hWm => zzPc_at C.2.2.2 hU hWm hW⟩ rfl rfl hl.1 rfl (lv_room hroom) dX10_becomeFonder_16 hcs
  · have h8 : k9 = 1 := h8
    subst h8
    have ct := k_X9_grows (l := l) (Z := Z) (base := base) (PL := PL) (mm := mm) (1, f9) q hq (Or.inl rfl) σ r1 σ2 hr
    exact va_runU (As := []) (C := RX9) C.1 ct (va_cwO 0 C.1.2.2.2.2 gX10_becomeFonder_X9_grows_u115X9 rfl rfl rfl (List.mem_of_getElem? (i := 42) rfl) (by decide +kernel) ⟨Nat.le_of_ble_eq_true rfl, Nat.le_of_ble_eq_true rfl⟩) ⟨zzPc_blind, zz_recv C.2.2.2 (zzX_pers1 hq H hW) rfl, fun U hU hWm => zzPc_at C.2.2.2 hU hWm hW⟩ rfl rfl hl.1 rfl (lv_room hroom) dX10_becomeFonder_16 hcs
  · have h8 : k9 = 2 := h8
    subst h8
    have ct := k_X0_grows (l := l) (Z := Z) (base := base) (PL := PL) (mm := mm) (2, f9) q hq (Or.inl rfl) σ r1 σ2 hr
    exact va_runU (As := []) (C := RX0) C.1 ct (va_cwO 0 C.1.2.2.2.2 gX10_becomeFonder_X0_grows_u115X0 rfl rfl rfl (List.mem_of_getElem? (i := 42) rfl) (by decide +kernel) ⟨Nat.le_of_ble_eq_true rfl, Nat.le_of_ble_eq_true rfl⟩) ⟨zzPc_blind, zz_recv C.2.2.2 (zzX_pers1 hq H hW) rfl, fun U hU hWm => zzPc_at C.2.2.2 hU hWm hW⟩ rfl rfl hl.1 rfl (lv_room hroom) dX10_becomeFonder_16 hcs
  · have h8 : k9 = 3 := h8
    subst h8
    have ct := k_X1_grows (l := l) (Z := Z) (base := base) (PL := PL) (mm := mm) (3, f9) q hq rfl σ r1 σ2 hr
    exact va_runU (As := []) (C := RX1) C.1 ct (va_cwO 0 C.1.2.2.2.2 gX10_becomeFonder_X1_grows_u115X1 rfl rfl rfl (List.mem_of_getElem? (i := 42) rfl) (by decide +kernel) ⟨Nat.le_of_ble_eq_true rfl, Nat.le_of_ble_eq_true rfl⟩) ⟨zzPc_blind, zz_recv C.2.2.2 (zzX_pers1 hq H hW) rfl, fun U hU hWm => zzPc_at C.2.2.2 hU hWm hW⟩ rfl rfl hl.1 rfl (lv_room hroom) dX10_becomeFonder_16 hcs
  · have h8 : k9 = 4 := h8
    subst h8
    have ct := k_X4_grows (l := l) (Z := Z) (base := base) (PL := PL) (mm := mm) (4, f9) q hq rfl σ r1 σ2 hr
    exact va_runU (As := []) (C := RX4) C.1 ct (va_cwO 0 C.1.2.2.2.2 gX10_becomeFonder_X4_grows_u115X4 rfl rfl rfl (List.mem_of_getElem? (i := 42) rfl) (by decide +kernel) ⟨Nat.le_of_ble_eq_true rfl, Nat.le_of_ble_eq_true rfl⟩) ⟨zzPc_blind, zz_recv C.2.2.2 (zzX_pers1 hq H hW) rfl, fun U hU hWm => zzPc_at C.2.2.2 hU hWm hW⟩ rfl rfl hl.1 rfl (lv_room hroom) dX10_becomeFonder_16 hcs
  · have h8 : k9 = 5 := h8
    subst h8
    have ct := k_X5_grows (l := l) (Z := Z) (base := base) (PL := PL) (mm := mm) (5, f9) q hq rfl σ r1 σ2 hr
    exact va_runU (As := []) (C := RX5) C.1 ct (va_cwO 0 C.1.2.2.2.2 gX10_becomeFonder_X5_grows_u115X5 rfl rfl rfl (List.mem_of_getElem? (i := 42) rfl) (by decide +kernel) ⟨Nat.le_of_ble_eq_true rfl, Nat.le_of_ble_eq_true rfl⟩) ⟨zzPc_blind, zz_recv C.2.2.2 (zzX_pers1 hq H hW) rfl, fun U hU hWm => zzPc_at C.2.2.2 hU hWm hW⟩ rfl rfl hl.1 rfl (lv_room hroom) dX10_becomeFonder_16 hcs
  · have h8 : k9 = 6 := h8
    subst h8
    have ct := k_X3_grows (l := l) (Z := Z) (base := base) (PL := PL) (mm := mm) (6, f9) q hq rfl σ r1 σ2 hr
    exact va_runU (As := []) (C := RX3) C.1 ct (va_cwO 0 C.1.2.2.2.2 gX10_becomeFonder_X3_grows_u115X3 rfl rfl rfl (List.mem_of_getElem? (i := 42) rfl) (by decide +kernel) ⟨Nat.le_of_ble_eq_true rfl, Nat.le_of_ble_eq_true rfl⟩) ⟨zzPc_blind, zz_recv C.2.2.2 (zzX_pers1 hq H hW) rfl, fun U hU hWm => zzPc_at C.2.2.2 hU hWm hW⟩ rfl rfl hl.1 rfl (lv_room hroom) dX10_becomeFonder_16 hcs
  · have h8 : k9 = 7 := h8
    subst h8
    have ct := k_X8_grows (l := l) (Z := Z) (base := base) (PL := PL) (mm := mm) (7, f9) q hq rfl σ r1 σ2 hr
    exact va_runU (As := []) (C := RX8) C.1 ct (va_cwO 0 C.1.2.2.2.2 gX10_becomeFonder_X8_grows_u115X8 rfl rfl rfl (List.mem_of_getElem? (i := 42) rfl) (by decide +kernel) ⟨Nat.le_of_ble_eq_true rfl, Nat.le_of_ble_eq_true rfl⟩) ⟨zzPc_blind, zz_recv C.2.2.2 (zzX_pers1 hq H hW) rfl, fun U hU hWm => zzPc_at C.2.2.2 hU hWm hW⟩ rfl rfl hl.1 rfl (lv_room hroom) dX10_becomeFonder_16 hcs

set_option maxHeartbeats 4000000 in
set_option maxRecDepth 100000 in
theorem w_X10_becomeFonder_e {l : Launch} {Z : zzG} {base : Nat} {PL : Nat → Option (Nat × Int32)} {mm : zzS} {p : Program} {e : Env} {s : State} {m : MethodId} {args : Array Value} {below : List Frame} {meth : Method} {c : Code} (C : zzCx p m meth c s args cX10_becomeFonder 3 wsX10_becomeFonder RX10 none Z) (t0 : Nat) (ht0 : zztown t0) (p0 : Int32)  (p1 : Int32)  (σ : zzS) : zzGO p l e rX10_becomeFonder s m args below meth c 3 (zzA base) (zzX Z base PL mm) (zzX Z base PL mm) zzRV rX10_becomeFonder.cells rX10_becomeFonder.slots (f_X10_becomeFonder t0 p0 p1 σ) σ 0 0 0 [(0, .ref (zzad Z t0)), (1, .int p0), (2, .int p1)] [] := by
  unfold f_X10_becomeFonder
  refine zz_aload_n C dX10_becomeFonder_0 rfl 0 rfl ?_
  refine zz_iload_n C dX10_becomeFonder_1 rfl 1 rfl ?_
  refine zz_iload_n C dX10_becomeFonder_2 rfl 2 rfl ?_
  refine zz_bipush (v := 9) C dX10_becomeFonder_3 (by decide) ?_
  refine zz_aload_n C dX10_becomeFonder_5 rfl 0 rfl ?_
  refine zz_iload_n C dX10_becomeFonder_6 rfl 1 rfl ?_
  refine zz_iload_n C dX10_becomeFonder_7 rfl 2 rfl ?_
  refine zz_callV C (Cn := RX10) (b := zzad Z t0) (fun H hH => zz_recv C.2.2.2 ((zzX_town ht0) H hH) rfl) (As := [.int p0, .int p1]) (rest := [.int (9 : Int32), .int p1, .int p0, .ref (zzad Z t0)]) rfl (k_X10_fondOf t0 ht0 p0 p1 σ) (cwV 2 C.1.2.2.2.2 gX10_becomeFonder_X10_fondOf rfl rfl rfl (by decide +kernel) ⟨Nat.le_of_ble_eq_true rfl, Nat.le_of_ble_eq_true rfl⟩) rfl (Nat.le_of_ble_eq_true rfl) ⟨Nat.zero_le _, Nat.zero_le _⟩ dX10_becomeFonder_8 (zz_kI rfl rfl (fun r1 σ2 => ?_))
  refine zz_aload_n C dX10_becomeFonder_11 rfl 0 rfl ?_
  refine zz_iload_n C dX10_becomeFonder_12 rfl 1 rfl ?_
  refine zz_callV C (Cn := RX10) (b := zzad Z t0) (fun H hH => zz_recv C.2.2.2 ((zzX_town ht0) H hH) rfl) (As := [.int p0]) (rest := [.int r1, .int (9 : Int32), .int p1, .int p0, .ref (zzad Z t0)]) rfl (k_X10_at t0 ht0 p0 σ2) (cwV 1 C.1.2.2.2.2 gX10_becomeFonder_X10_at rfl rfl rfl (by decide +kernel) ⟨Nat.le_of_ble_eq_true rfl, Nat.le_of_ble_eq_true rfl⟩) rfl (Nat.le_of_ble_eq_true rfl) ⟨Nat.zero_le _, Nat.zero_le _⟩ dX10_becomeFonder_13 (zz_kP rfl rfl (fun r3 σ4 c5 hp6 => ?_))
  refine zz_nnP hp6 (fun kf7 q8 h9 h10 hq11 => ?_)
  subst h10
  refine zz_call (av := #[.ref q8]) (rest := [.int r1, .int (9 : Int32), .int p1, .int p0, .ref (zzad Z t0)]) (mcc := 0) (msc := 0) (relc := zzRI) (vr_X10_becomeFonder_16 C hq11 (Nat.le_of_ble_eq_true rfl)) (zz_kI rfl rfl (fun r12 σ13 => ?_))
  refine zz_iadd C dX10_becomeFonder_19 ?_
  refine zz_mmin C (C.1.2.2.2.2 _ (List.mem_of_getElem? (i := 1) rfl)) (C.1.2.2.2.2 _ (List.mem_of_getElem? (i := 2) rfl)) (C.1.2.2.2.2 _ (List.mem_of_getElem? (i := 3) rfl)) (C.1.2.2.2.2 _ (List.mem_of_getElem? (i := 4) rfl)) (Nat.le_of_ble_eq_true rfl) (Nat.le_of_ble_eq_true rfl) (Nat.zero_le _) (Nat.zero_le _) dX10_becomeFonder_20 ?_
  refine zz_callV C (Cn := RX10) (b := zzad Z t0) (fun H hH => zz_recv C.2.2.2 ((zzX_town ht0) H hH) rfl) (As := [.int p0, .int p1, .int (zzmin (9 : Int32) (r1 + r12))]) (rest := []) rfl (k_X10_setFond t0 ht0 p0 p1 (zzmin (9 : Int32) (r1 + r12)) σ13) (cwV 3 C.1.2.2.2.2 gX10_becomeFonder_X10_setFond rfl rfl rfl (by decide +kernel) ⟨Nat.le_of_ble_eq_true rfl, Nat.le_of_ble_eq_true rfl⟩) rfl (Nat.le_of_ble_eq_true rfl) ⟨Nat.zero_le _, Nat.zero_le _⟩ dX10_becomeFonder_23 (zz_kI rfl rfl (fun r14 σ15 => ?_))
  refine zz_pop C dX10_becomeFonder_26 rfl ?_
  exact zz_vret C rfl rfl (fun _ h9 => h9) (Nat.zero_le _) (Nat.zero_le _) dX10_becomeFonder_27
set_option maxHeartbeats 4000000 in
set_option maxRecDepth 100000 in
theorem k_X10_becomeFonder {l : Launch} {Z : zzG} {base : Nat} {PL : Nat → Option (Nat × Int32)} {mm : zzS} (t0 : Nat) (ht0 : zztown t0) (p0 : Int32)  (p1 : Int32)  (σ : zzS) : zzCT l yX10_becomeFonder wsX10_becomeFonder rX10_becomeFonder (zzA base) Z (zzX Z base PL mm) (zzX Z base PL mm) zzRV [.ref (zzad Z t0), .int p0, .int p1] (f_X10_becomeFonder t0 p0 p1 σ) σ :=
  zzCT_of (cc := cX10_becomeFonder) (nL := 3) (ret := none) (by decide) rfl (Nat.le_of_ble_eq_true rfl) [(0, .ref (zzad Z t0)), (1, .int p0), (2, .int p1)] rfl (fun p e s m args below meth c C => w_X10_becomeFonder_e C t0 ht0 p0 p1 σ)
abbrev rX10_see : Room := { frames := 4, cells := 0, slots := 0, locals := 88 }

set_option maxHeartbeats 4000000 in
set_option maxRecDepth 100000 in
theorem w_X10_see_e {l : Launch} {Z : zzG} {base : Nat} {PL : Nat → Option (Nat × Int32)} {mm : zzS} {p : Program} {e : Env} {s : State} {m : MethodId} {args : Array Value} {below : List Frame} {meth : Method} {c : Code} (C : zzCx p m meth c s args cX10_see 3 wsX10_see RX10 (some .boolean) Z) (t0 : Nat) (ht0 : zztown t0) (p0 : Int32)  (p1 : Int32)  (σ : zzS) : zzGO p l e rX10_see s m args below meth c 3 (zzA base) (zzX Z base PL mm) (zzX Z base PL mm) zzRI rX10_see.cells rX10_see.slots (f_X10_see t0 p0 p1 σ) σ 0 0 0 [(0, .ref (zzad Z t0)), (1, .int p0), (2, .int p1)] [] := by
  unfold f_X10_see
  refine zz_aload_n C dX10_see_0 rfl 0 rfl ?_
  refine zz_iload_n C dX10_see_1 rfl 1 rfl ?_
  refine zz_iload_n C dX10_see_2 rfl 2 rfl ?_
  refine zz_callV C (Cn := RX10) (b := zzad Z t0) (fun H hH => zz_recv C.2.2.2 ((zzX_town ht0) H hH) rfl) (As := [.int p0, .int p1]) (rest := []) rfl (k_X10_areTwo t0 ht0 p0 p1 σ) (cwV 2 C.1.2.2.2.2 gX10_see_X10_areTwo rfl rfl rfl (by decide +kernel) ⟨Nat.le_of_ble_eq_true rfl, Nat.le_of_ble_eq_true rfl⟩) rfl (Nat.le_of_ble_eq_true rfl) ⟨Nat.zero_le _, Nat.zero_le _⟩ dX10_see_3 (zz_kI rfl rfl (fun r1 σ2 => ?_))
  refine zz_if_eq (tgt := 19) C dX10_see_6 (by decide) (fun h3 => ?_) (fun h3 => ?_)
  · refine zz_iconst (v := 0) C dX10_see_19 (by decide) ?_
    exact zz_zret C rfl (Or.inl rfl) rfl (fun _ h9 => h9) (Nat.zero_le _) (Nat.zero_le _) dX10_see_20
  · refine zz_aload_n C dX10_see_9 rfl 0 rfl ?_
    refine zz_get C (zzX_town ht0) (fun _ h9 => List.mem_cons_of_mem _ (List.mem_append_left _ (List.mem_append_left _ (List.mem_append_left _ (List.mem_append_left _ (List.mem_append_left _ (List.mem_append_left _ (List.mem_append_left _ (List.mem_append_left _ (List.mem_append_right _ (h9))))))))))) rfl 6 (by decide) (List.mem_of_getElem? (i := 1) rfl) (Or.inl rfl) rfl dX10_see_10 ?_
    refine zz_sipush (v := 999) C dX10_see_13 (by decide) ?_
    refine zz_icmp_lt (tgt := 21) C dX10_see_16 (by decide) (fun h4 => ?_) (fun h4 => ?_)
    · refine zz_aload_n C dX10_see_21 rfl 0 rfl ?_
      refine zz_iload_n C dX10_see_22 rfl 1 rfl ?_
      refine zz_iload_n C dX10_see_23 rfl 2 rfl ?_
      refine zz_callV C (Cn := RX10) (b := zzad Z t0) (fun H hH => zz_recv C.2.2.2 ((zzX_town ht0) H hH) rfl) (As := [.int p0, .int p1]) (rest := []) rfl (k_X10_becomeFonder t0 ht0 p0 p1 σ2) (cwV 2 C.1.2.2.2.2 gX10_see_X10_becomeFonder rfl rfl rfl (by decide +kernel) ⟨Nat.le_of_ble_eq_true rfl, Nat.le_of_ble_eq_true rfl⟩) rfl (Nat.le_of_ble_eq_true rfl) ⟨Nat.zero_le _, Nat.zero_le _⟩ dX10_see_24 (zz_kV rfl rfl (fun r5 σ6 => ?_))
      refine zz_aload_n C dX10_see_27 rfl 0 rfl ?_
      refine zz_dup C dX10_see_28 rfl ?_
      refine zz_get C (zzX_town ht0) (fun _ h9 => List.mem_cons_of_mem _ (List.mem_append_left _ (List.mem_append_left _ (List.mem_append_left _ (List.mem_append_left _ (List.mem_append_left _ (List.mem_append_left _ (List.mem_append_left _ (List.mem_append_left _ (List.mem_append_right _ (h9))))))))))) rfl 6 (by decide) (List.mem_of_getElem? (i := 1) rfl) (Or.inl rfl) rfl dX10_see_29 ?_
      refine zz_iconst (v := 1) C dX10_see_32 (by decide) ?_
      refine zz_iadd C dX10_see_33 ?_
      refine zz_put (ty := .int) C (zzX_town ht0) (fun _ h9 => List.mem_cons_of_mem _ (List.mem_append_left _ (List.mem_append_left _ (List.mem_append_left _ (List.mem_append_left _ (List.mem_append_left _ (List.mem_append_left _ (List.mem_append_left _ (List.mem_append_left _ (List.mem_append_right _ (h9))))))))))) rfl 6 (by decide) (List.mem_of_getElem? (i := 1) rfl) rfl tyX10_ok nmX10 rfl (by decide +kernel) rfl rfl (Nat.le_of_ble_eq_true rfl) (zzX_utown ht0 (by decide)) (zzA_X (zztown_lt' ht0)) dX10_see_34 ?_
      refine zz_ltS (fun σ7 => ?_)
      refine zz_iconst (v := 1) C dX10_see_37 (by decide) ?_
      exact zz_zret C rfl (Or.inr rfl) rfl (fun _ h9 => h9) (Nat.zero_le _) (Nat.zero_le _) dX10_see_38
    · refine zz_iconst (v := 0) C dX10_see_19 (by decide) ?_
      exact zz_zret C rfl (Or.inl rfl) rfl (fun _ h9 => h9) (Nat.zero_le _) (Nat.zero_le _) dX10_see_20
set_option maxHeartbeats 4000000 in
set_option maxRecDepth 100000 in
theorem k_X10_see {l : Launch} {Z : zzG} {base : Nat} {PL : Nat → Option (Nat × Int32)} {mm : zzS} (t0 : Nat) (ht0 : zztown t0) (p0 : Int32)  (p1 : Int32)  (σ : zzS) : zzCT l yX10_see wsX10_see rX10_see (zzA base) Z (zzX Z base PL mm) (zzX Z base PL mm) zzRI [.ref (zzad Z t0), .int p0, .int p1] (f_X10_see t0 p0 p1 σ) σ :=
  zzCT_of (cc := cX10_see) (nL := 3) (ret := (some .boolean)) (by decide) rfl (Nat.le_of_ble_eq_true rfl) [(0, .ref (zzad Z t0)), (1, .int p0), (2, .int p1)] rfl (fun p e s m args below meth c C => w_X10_see_e C t0 ht0 p0 p1 σ)
abbrev rX10_turnCards : Room := { frames := 4, cells := 0, slots := 0, locals := 88 }
set_option maxHeartbeats 4000000 in
set_option maxRecDepth 100000 in
theorem vr_X10_turnCards_17 {l : Launch} {Z : zzG} {base : Nat} {PL : Nat → Option (Nat × Int32)} {mm : zzS} {p : Program} {e : Env} {s : State} {m : MethodId} {args : Array Value} {below : List Frame} {meth : Method} {c : Code} {cells slots : Nat} {σ : zzS} {loc : List (Nat × Value)} {rest : List Value} (C : zzCx p m meth c s args cX10_turnCards 3 wsX10_turnCards RX10 none Z) {q : Nat} {kf : Nat × Int32} (hq : PL q = some kf) (hroom : (rest.map fun v => v.category).sum ≤ 8) (hcs : cells + 0 ≤ (rX10_turnCards).cells ∧ slots + 0 ≤ (rX10_turnCards).slots := by exact ⟨Nat.zero_le _, Nat.zero_le _⟩) :
    ∀ r1 σ2, some (zzturns kf, σ) = some (r1, σ2) → ∀ (H : Heap) (locs : List Loc) (ls : Array Slot), zzX Z base PL mm σ H → lv_has ls 3 loc → va_Run p l e rX10_turnCards s m args below meth c H locs cells slots 0 0 (F0 m 17 ls (.ref q :: rest)) rest (zzQ zzRI (zzX Z base PL mm) (zzA base) r1 σ2 #[.ref q]) (zzA base) := by
  intro r1 σ2 hr H locs ls hW hl
  have h8 := zz_kind8 (hW.1.2.2.1 q kf hq).1
  obtain ⟨k9, f9⟩ := kf
  rcases h8 with h8 | h8 | h8 | h8 | h8 | h8 | h8 | h8
  · have h8 : k9 = 0 := h8
    subst h8
    have ct := k_X6_turns (l := l) (Z := Z) (base := base) (PL := PL) (mm := mm) (0, f9) q hq σ r1 σ2 hr
    exact va_runV (As := []) (C := RX6) C.1 ct (cwV 0 C.1.2.2.2.2 gX10_turnCards_X6_turns rfl rfl rfl (by decide +kernel) ⟨Nat.le_of_ble_eq_true rfl, Nat.le_of_ble_eq_true rfl⟩) ⟨zzPc_blind, zz_recv C.2.2.2 (zzX_pers1 hq H hW) rfl, fun U hU hWm => zzPc_at C.2.2.2 hU hWm hW⟩ rfl rfl hl.1 rfl (lv_room hroom) dX10_turnCards_17 hcs
  · have h8 : k9 = 1 := h8
    subst h8
    have ct := k_X6_turns (l := l) (Z := Z) (base := base) (PL := PL) (mm := mm) (1, f9) q hq σ r1 σ2 hr
    exact va_runU (As := []) (C := RX9) C.1 ct (va_cwU 0 C.1.2.2.2.2 gX10_turnCards_X6_turns_u107X9 rfl rfl rfl (by decide +kernel) (by decide +kernel) ⟨Nat.le_of_ble_eq_true rfl, Nat.le_of_ble_eq_true rfl⟩) ⟨zzPc_blind, zz_recv C.2.2.2 (zzX_pers1 hq H hW) rfl, fun U hU hWm => zzPc_at C.2.2.2 hU hWm hW⟩ rfl rfl hl.1 rfl (lv_room hroom) dX10_turnCards_17 hcs
  · have h8 : k9 = 2 := h8
    subst h8
    have ct := k_X0_turns (l := l) (Z := Z) (base := base) (PL := PL) (mm := mm) (2, f9) q hq (Or.inl rfl) σ r1 σ2 hr
    exact va_runU (As := []) (C := RX0) C.1 ct (va_cwO 0 C.1.2.2.2.2 gX10_turnCards_X0_turns_u107X0 rfl rfl rfl (List.mem_of_getElem? (i := 36) rfl) (by decide +kernel) ⟨Nat.le_of_ble_eq_true rfl, Nat.le_of_ble_eq_true rfl⟩) ⟨zzPc_blind, zz_recv C.2.2.2 (zzX_pers1 hq H hW) rfl, fun U hU hWm => zzPc_at C.2.2.2 hU hWm hW⟩ rfl rfl hl.1 rfl (lv_room hroom) dX10_turnCards_17 hcs
  · have h8 : k9 = 3 := h8
    subst h8
    have ct := k_X1_turns (l := l) (Z := Z) (base := base) (PL := PL) (mm := mm) (3, f9) q hq rfl σ r1 σ2 hr
    exact va_runU (As := []) (C := RX1) C.1 ct (va_cwO 0 C.1.2.2.2.2 gX10_turnCards_X1_turns_u107X1 rfl rfl rfl (List.mem_of_getElem? (i := 36) rfl) (by decide +kernel) ⟨Nat.le_of_ble_eq_true rfl, Nat.le_of_ble_eq_true rfl⟩) ⟨zzPc_blind, zz_recv C.2.2.2 (zzX_pers1 hq H hW) rfl, fun U hU hWm => zzPc_at C.2.2.2 hU hWm hW⟩ rfl rfl hl.1 rfl (lv_room hroom) dX10_turnCards_17 hcs
  · have h8 : k9 = 4 := h8
    subst h8
    have ct := k_X6_turns (l := l) (Z := Z) (base := base) (PL := PL) (mm := mm) (4, f9) q hq σ r1 σ2 hr
    exact va_runU (As := []) (C := RX4) C.1 ct (va_cwU 0 C.1.2.2.2.2 gX10_turnCards_X6_turns_u107X4 rfl rfl rfl (by decide +kernel) (by decide +kernel) ⟨Nat.le_of_ble_eq_true rfl, Nat.le_of_ble_eq_true rfl⟩) ⟨zzPc_blind, zz_recv C.2.2.2 (zzX_pers1 hq H hW) rfl, fun U hU hWm => zzPc_at C.2.2.2 hU hWm hW⟩ rfl rfl hl.1 rfl (lv_room hroom) dX10_turnCards_17 hcs
  · have h8 : k9 = 5 := h8
    subst h8
    have ct := k_X5_turns (l := l) (Z := Z) (base := base) (PL := PL) (mm := mm) (5, f9) q hq rfl σ r1 σ2 hr
    exact va_runU (As := []) (C := RX5) C.1 ct (va_cwO 0 C.1.2.2.2.2 gX10_turnCards_X5_turns_u107X5 rfl rfl rfl (List.mem_of_getElem? (i := 36) rfl) (by decide +kernel) ⟨Nat.le_of_ble_eq_true rfl, Nat.le_of_ble_eq_true rfl⟩) ⟨zzPc_blind, zz_recv C.2.2.2 (zzX_pers1 hq H hW) rfl, fun U hU hWm => zzPc_at C.2.2.2 hU hWm hW⟩ rfl rfl hl.1 rfl (lv_room hroom) dX10_turnCards_17 hcs
  · have h8 : k9 = 6 := h8
    subst h8
    have ct := k_X3_turns (l := l) (Z := Z) (base := base) (PL := PL) (mm := mm) (6, f9) q hq rfl σ r1 σ2 hr
    exact va_runU (As := []) (C := RX3) C.1 ct (va_cwO 0 C.1.2.2.2.2 gX10_turnCards_X3_turns_u107X3 rfl rfl rfl (List.mem_of_getElem? (i := 36) rfl) (by decide +kernel) ⟨Nat.le_of_ble_eq_true rfl, Nat.le_of_ble_eq_true rfl⟩) ⟨zzPc_blind, zz_recv C.2.2.2 (zzX_pers1 hq H hW) rfl, fun U hU hWm => zzPc_at C.2.2.2 hU hWm hW⟩ rfl rfl hl.1 rfl (lv_room hroom) dX10_turnCards_17 hcs
  · have h8 : k9 = 7 := h8
    subst h8
    have ct := k_X8_turns (l := l) (Z := Z) (base := base) (PL := PL) (mm := mm) (7, f9) q hq rfl σ r1 σ2 hr
    exact va_runU (As := []) (C := RX8) C.1 ct (va_cwO 0 C.1.2.2.2.2 gX10_turnCards_X8_turns_u107X8 rfl rfl rfl (List.mem_of_getElem? (i := 36) rfl) (by decide +kernel) ⟨Nat.le_of_ble_eq_true rfl, Nat.le_of_ble_eq_true rfl⟩) ⟨zzPc_blind, zz_recv C.2.2.2 (zzX_pers1 hq H hW) rfl, fun U hU hWm => zzPc_at C.2.2.2 hU hWm hW⟩ rfl rfl hl.1 rfl (lv_room hroom) dX10_turnCards_17 hcs

set_option maxHeartbeats 4000000 in
set_option maxRecDepth 100000 in
theorem w_X10_turnCards_e {l : Launch} {Z : zzG} {base : Nat} {PL : Nat → Option (Nat × Int32)} {mm : zzS} {p : Program} {e : Env} {s : State} {m : MethodId} {args : Array Value} {below : List Frame} {meth : Method} {c : Code} (C : zzCx p m meth c s args cX10_turnCards 3 wsX10_turnCards RX10 none Z) (t0 : Nat) (ht0 : zztown t0) (p0 : Int32)  (p1 : Int32)  (σ : zzS) : zzGO p l e rX10_turnCards s m args below meth c 3 (zzA base) (zzX Z base PL mm) (zzX Z base PL mm) zzRV rX10_turnCards.cells rX10_turnCards.slots (f_X10_turnCards t0 p0 p1 σ) σ 0 0 0 [(0, .ref (zzad Z t0)), (1, .int p0), (2, .int p1)] [] := by
  unfold f_X10_turnCards
  refine zz_aload_n C dX10_turnCards_0 rfl 0 rfl ?_
  refine zz_get C (zzX_town ht0) (fun _ h9 => List.mem_cons_of_mem _ (List.mem_append_left _ (List.mem_append_left _ (List.mem_append_left _ (List.mem_append_left _ (List.mem_append_left _ (List.mem_append_left _ (List.mem_append_left _ (List.mem_append_left _ (List.mem_append_right _ (h9))))))))))) rfl 1 (by decide) (List.mem_of_getElem? (i := 1) rfl) (Or.inl rfl) rfl dX10_turnCards_1 ?_
  refine zz_iload_n C dX10_turnCards_4 rfl 2 rfl ?_
  refine zz_bipush (v := 9) C dX10_turnCards_5 (by decide) ?_
  refine zz_aload_n C dX10_turnCards_7 rfl 0 rfl ?_
  refine zz_iload_n C dX10_turnCards_8 rfl 2 rfl ?_
  refine zz_callV C (Cn := RX10) (b := zzad Z t0) (fun H hH => zz_recv C.2.2.2 ((zzX_town ht0) H hH) rfl) (As := [.int p1]) (rest := [.int (9 : Int32), .int p1, .ref (zzad Z (t0 + 2))]) rfl (k_X10_turnedOf t0 ht0 p1 σ) (cwV 1 C.1.2.2.2.2 gX10_turnCards_X10_turnedOf rfl rfl rfl (by decide +kernel) ⟨Nat.le_of_ble_eq_true rfl, Nat.le_of_ble_eq_true rfl⟩) rfl (Nat.le_of_ble_eq_true rfl) ⟨Nat.zero_le _, Nat.zero_le _⟩ dX10_turnCards_9 (zz_kI rfl rfl (fun r1 σ2 => ?_))
  refine zz_aload_n C dX10_turnCards_12 rfl 0 rfl ?_
  refine zz_iload_n C dX10_turnCards_13 rfl 1 rfl ?_
  refine zz_callV C (Cn := RX10) (b := zzad Z t0) (fun H hH => zz_recv C.2.2.2 ((zzX_town ht0) H hH) rfl) (As := [.int p0]) (rest := [.int r1, .int (9 : Int32), .int p1, .ref (zzad Z (t0 + 2))]) rfl (k_X10_at t0 ht0 p0 σ2) (cwV 1 C.1.2.2.2.2 gX10_turnCards_X10_at rfl rfl rfl (by decide +kernel) ⟨Nat.le_of_ble_eq_true rfl, Nat.le_of_ble_eq_true rfl⟩) rfl (Nat.le_of_ble_eq_true rfl) ⟨Nat.zero_le _, Nat.zero_le _⟩ dX10_turnCards_14 (zz_kP rfl rfl (fun r3 σ4 c5 hp6 => ?_))
  refine zz_nnP hp6 (fun kf7 q8 h9 h10 hq11 => ?_)
  subst h10
  refine zz_call (av := #[.ref q8]) (rest := [.int r1, .int (9 : Int32), .int p1, .ref (zzad Z (t0 + 2))]) (mcc := 0) (msc := 0) (relc := zzRI) (vr_X10_turnCards_17 C hq11 (Nat.le_of_ble_eq_true rfl)) (zz_kI rfl rfl (fun r12 σ13 => ?_))
  refine zz_iadd C dX10_turnCards_20 ?_
  refine zz_mmin C (C.1.2.2.2.2 _ (List.mem_of_getElem? (i := 2) rfl)) (C.1.2.2.2.2 _ (List.mem_of_getElem? (i := 3) rfl)) (C.1.2.2.2.2 _ (List.mem_of_getElem? (i := 4) rfl)) (C.1.2.2.2.2 _ (List.mem_of_getElem? (i := 5) rfl)) (Nat.le_of_ble_eq_true rfl) (Nat.le_of_ble_eq_true rfl) (Nat.zero_le _) (Nat.zero_le _) dX10_turnCards_21 ?_
  refine zz_callSN (As := [.ref (zzad Z (t0 + 2)), .int p1, .int (zzmin (9 : Int32) (r1 + r12))]) (rest := []) C rfl (k_X11_write (t0 + 2) (zzXarr2 ht0) p1 (zzmin (9 : Int32) (r1 + r12)) σ13) ⟨va_cnB 3 C.1.2.2.2.2 gX10_turnCards_X11_write_n49 rfl rfl rfl (C.2.2.2.2 _ (List.mem_of_getElem? (i := 8) rfl)) (C.1.2.2.2.2 _ (List.mem_of_getElem? (i := 17) rfl)) (by decide +kernel) ⟨Nat.le_of_ble_eq_true rfl, Nat.le_of_ble_eq_true rfl⟩, C.1.2.2.2.2 _ (List.mem_of_getElem? (i := 62) rfl), trivial⟩ rfl (Nat.le_of_ble_eq_true rfl) ⟨Nat.zero_le _, Nat.zero_le _⟩ dX10_turnCards_24 (zz_kV rfl rfl (fun r14 σ15 => ?_))
  refine zz_aload_n C dX10_turnCards_27 rfl 0 rfl ?_
  refine zz_iload_n C dX10_turnCards_28 rfl 1 rfl ?_
  refine zz_iload_n C dX10_turnCards_29 rfl 2 rfl ?_
  refine zz_callV C (Cn := RX10) (b := zzad Z t0) (fun H hH => zz_recv C.2.2.2 ((zzX_town ht0) H hH) rfl) (As := [.int p0, .int p1]) (rest := []) rfl (k_X10_becomeFonder t0 ht0 p0 p1 σ15) (cwV 2 C.1.2.2.2.2 gX10_turnCards_X10_becomeFonder rfl rfl rfl (by decide +kernel) ⟨Nat.le_of_ble_eq_true rfl, Nat.le_of_ble_eq_true rfl⟩) rfl (Nat.le_of_ble_eq_true rfl) ⟨Nat.zero_le _, Nat.zero_le _⟩ dX10_turnCards_30 (zz_kV rfl rfl (fun r16 σ17 => ?_))
  exact zz_vret C rfl rfl (fun _ h9 => h9) (Nat.zero_le _) (Nat.zero_le _) dX10_turnCards_33
set_option maxHeartbeats 4000000 in
set_option maxRecDepth 100000 in
theorem k_X10_turnCards {l : Launch} {Z : zzG} {base : Nat} {PL : Nat → Option (Nat × Int32)} {mm : zzS} (t0 : Nat) (ht0 : zztown t0) (p0 : Int32)  (p1 : Int32)  (σ : zzS) : zzCT l yX10_turnCards wsX10_turnCards rX10_turnCards (zzA base) Z (zzX Z base PL mm) (zzX Z base PL mm) zzRV [.ref (zzad Z t0), .int p0, .int p1] (f_X10_turnCards t0 p0 p1 σ) σ :=
  zzCT_of (cc := cX10_turnCards) (nL := 3) (ret := none) (by decide) rfl (Nat.le_of_ble_eq_true rfl) [(0, .ref (zzad Z t0)), (1, .int p0), (2, .int p1)] rfl (fun p e s m args below meth c C => w_X10_turnCards_e C t0 ht0 p0 p1 σ)
abbrev rX10_turn : Room := { frames := 5, cells := 0, slots := 0, locals := 110 }

set_option maxHeartbeats 4000000 in
set_option maxRecDepth 100000 in
theorem w_X10_turn_e {l : Launch} {Z : zzG} {base : Nat} {PL : Nat → Option (Nat × Int32)} {mm : zzS} {p : Program} {e : Env} {s : State} {m : MethodId} {args : Array Value} {below : List Frame} {meth : Method} {c : Code} (C : zzCx p m meth c s args cX10_turn 3 wsX10_turn RX10 (some .boolean) Z) (t0 : Nat) (ht0 : zztown t0) (p0 : Int32)  (p1 : Int32)  (σ : zzS) : zzGO p l e rX10_turn s m args below meth c 3 (zzA base) (zzX Z base PL mm) (zzX Z base PL mm) zzRI rX10_turn.cells rX10_turn.slots (f_X10_turn t0 p0 p1 σ) σ 0 0 0 [(0, .ref (zzad Z t0)), (1, .int p0), (2, .int p1)] [] := by
  unfold f_X10_turn
  refine zz_aload_n C dX10_turn_0 rfl 0 rfl ?_
  refine zz_iload_n C dX10_turn_1 rfl 1 rfl ?_
  refine zz_iload_n C dX10_turn_2 rfl 2 rfl ?_
  refine zz_aload_n C dX10_turn_3 rfl 0 rfl ?_
  refine zz_get C (zzX_town ht0) (fun _ h9 => List.mem_cons_of_mem _ (List.mem_append_left _ (List.mem_append_left _ (List.mem_append_left _ (List.mem_append_left _ (List.mem_append_left _ (List.mem_append_left _ (List.mem_append_left _ (List.mem_append_left _ (List.mem_append_right _ (h9))))))))))) rfl 5 (by decide) (List.mem_of_getElem? (i := 1) rfl) (Or.inl rfl) rfl dX10_turn_4 ?_
  refine zz_callV C (Cn := RX10) (b := zzad Z t0) (fun H hH => zz_recv C.2.2.2 ((zzX_town ht0) H hH) rfl) (As := [.int p0, .int p1, .int (zzi σ t0 5)]) (rest := []) rfl (k_X10_may t0 ht0 p0 p1 (zzi σ t0 5) σ) (cwV 3 C.1.2.2.2.2 gX10_turn_X10_may rfl rfl rfl (by decide +kernel) ⟨Nat.le_of_ble_eq_true rfl, Nat.le_of_ble_eq_true rfl⟩) rfl (Nat.le_of_ble_eq_true rfl) ⟨Nat.zero_le _, Nat.zero_le _⟩ dX10_turn_7 (zz_kI rfl rfl (fun r1 σ2 => ?_))
  refine zz_if_eq (tgt := 33) C dX10_turn_10 (by decide) (fun h3 => ?_) (fun h3 => ?_)
  · refine zz_iconst (v := 0) C dX10_turn_33 (by decide) ?_
    exact zz_zret C rfl (Or.inl rfl) rfl (fun _ h9 => h9) (Nat.zero_le _) (Nat.zero_le _) dX10_turn_34
  · refine zz_aload_n C dX10_turn_13 rfl 0 rfl ?_
    refine zz_iload_n C dX10_turn_14 rfl 2 rfl ?_
    refine zz_callV C (Cn := RX10) (b := zzad Z t0) (fun H hH => zz_recv C.2.2.2 ((zzX_town ht0) H hH) rfl) (As := [.int p1]) (rest := []) rfl (k_X10_turnedOf t0 ht0 p1 σ2) (cwV 1 C.1.2.2.2.2 gX10_turn_X10_turnedOf rfl rfl rfl (by decide +kernel) ⟨Nat.le_of_ble_eq_true rfl, Nat.le_of_ble_eq_true rfl⟩) rfl (Nat.le_of_ble_eq_true rfl) ⟨Nat.zero_le _, Nat.zero_le _⟩ dX10_turn_15 (zz_kI rfl rfl (fun r4 σ5 => ?_))
    refine zz_bipush (v := 9) C dX10_turn_18 (by decide) ?_
    refine zz_icmp_ge (tgt := 33) C dX10_turn_20 (by decide) (fun h6 => ?_) (fun h6 => ?_)
    · refine zz_iconst (v := 0) C dX10_turn_33 (by decide) ?_
      exact zz_zret C rfl (Or.inl rfl) rfl (fun _ h9 => h9) (Nat.zero_le _) (Nat.zero_le _) dX10_turn_34
    · refine zz_aload_n C dX10_turn_23 rfl 0 rfl ?_
      refine zz_get C (zzX_town ht0) (fun _ h9 => List.mem_cons_of_mem _ (List.mem_append_left _ (List.mem_append_left _ (List.mem_append_left _ (List.mem_append_left _ (List.mem_append_left _ (List.mem_append_left _ (List.mem_append_left _ (List.mem_append_left _ (List.mem_append_right _ (h9))))))))))) rfl 6 (by decide) (List.mem_of_getElem? (i := 2) rfl) (Or.inl rfl) rfl dX10_turn_24 ?_
      refine zz_sipush (v := 999) C dX10_turn_27 (by decide) ?_
      refine zz_icmp_lt (tgt := 35) C dX10_turn_30 (by decide) (fun h7 => ?_) (fun h7 => ?_)
      · refine zz_aload_n C dX10_turn_35 rfl 0 rfl ?_
        refine zz_iload_n C dX10_turn_36 rfl 1 rfl ?_
        refine zz_iload_n C dX10_turn_37 rfl 2 rfl ?_
        refine zz_callV C (Cn := RX10) (b := zzad Z t0) (fun H hH => zz_recv C.2.2.2 ((zzX_town ht0) H hH) rfl) (As := [.int p0, .int p1]) (rest := []) rfl (k_X10_turnCards t0 ht0 p0 p1 σ5) (cwV 2 C.1.2.2.2.2 gX10_turn_X10_turnCards rfl rfl rfl (by decide +kernel) ⟨Nat.le_of_ble_eq_true rfl, Nat.le_of_ble_eq_true rfl⟩) rfl (Nat.le_of_ble_eq_true rfl) ⟨Nat.zero_le _, Nat.zero_le _⟩ dX10_turn_38 (zz_kV rfl rfl (fun r8 σ9 => ?_))
        refine zz_aload_n C dX10_turn_41 rfl 0 rfl ?_
        refine zz_dup C dX10_turn_42 rfl ?_
        refine zz_get C (zzX_town ht0) (fun _ h9 => List.mem_cons_of_mem _ (List.mem_append_left _ (List.mem_append_left _ (List.mem_append_left _ (List.mem_append_left _ (List.mem_append_left _ (List.mem_append_left _ (List.mem_append_left _ (List.mem_append_left _ (List.mem_append_right _ (h9))))))))))) rfl 6 (by decide) (List.mem_of_getElem? (i := 2) rfl) (Or.inl rfl) rfl dX10_turn_43 ?_
        refine zz_iconst (v := 1) C dX10_turn_46 (by decide) ?_
        refine zz_iadd C dX10_turn_47 ?_
        refine zz_put (ty := .int) C (zzX_town ht0) (fun _ h9 => List.mem_cons_of_mem _ (List.mem_append_left _ (List.mem_append_left _ (List.mem_append_left _ (List.mem_append_left _ (List.mem_append_left _ (List.mem_append_left _ (List.mem_append_left _ (List.mem_append_left _ (List.mem_append_right _ (h9))))))))))) rfl 6 (by decide) (List.mem_of_getElem? (i := 2) rfl) rfl tyX10_ok nmX10 rfl (by decide +kernel) rfl rfl (Nat.le_of_ble_eq_true rfl) (zzX_utown ht0 (by decide)) (zzA_X (zztown_lt' ht0)) dX10_turn_48 ?_
        refine zz_ltS (fun σ10 => ?_)
        refine zz_iconst (v := 1) C dX10_turn_51 (by decide) ?_
        exact zz_zret C rfl (Or.inr rfl) rfl (fun _ h9 => h9) (Nat.zero_le _) (Nat.zero_le _) dX10_turn_52
      · refine zz_iconst (v := 0) C dX10_turn_33 (by decide) ?_
        exact zz_zret C rfl (Or.inl rfl) rfl (fun _ h9 => h9) (Nat.zero_le _) (Nat.zero_le _) dX10_turn_34
set_option maxHeartbeats 4000000 in
set_option maxRecDepth 100000 in
theorem k_X10_turn {l : Launch} {Z : zzG} {base : Nat} {PL : Nat → Option (Nat × Int32)} {mm : zzS} (t0 : Nat) (ht0 : zztown t0) (p0 : Int32)  (p1 : Int32)  (σ : zzS) : zzCT l yX10_turn wsX10_turn rX10_turn (zzA base) Z (zzX Z base PL mm) (zzX Z base PL mm) zzRI [.ref (zzad Z t0), .int p0, .int p1] (f_X10_turn t0 p0 p1 σ) σ :=
  zzCT_of (cc := cX10_turn) (nL := 3) (ret := (some .boolean)) (by decide) rfl (Nat.le_of_ble_eq_true rfl) [(0, .ref (zzad Z t0)), (1, .int p0), (2, .int p1)] rfl (fun p e s m args below meth c C => w_X10_turn_e C t0 ht0 p0 p1 σ)
abbrev rX10_turnByTheLeast : Room := { frames := 5, cells := 0, slots := 0, locals := 110 }

set_option maxHeartbeats 4000000 in
set_option maxRecDepth 100000 in
theorem w_X10_turnByTheLeast_41 {l : Launch} {Z : zzG} {base : Nat} {PL : Nat → Option (Nat × Int32)} {mm : zzS} {p : Program} {e : Env} {s : State} {m : MethodId} {args : Array Value} {below : List Frame} {meth : Method} {c : Code} (C : zzCx p m meth c s args cX10_turnByTheLeast 3 wsX10_turnByTheLeast RX10 (some .boolean) Z) (t0 : Nat) (ht0 : zztown t0) (p0 : Int32)  (k2 : Int32 → zzS → Option (Int32 × zzS)) (hk2 : ∀ (l2 : Int32)  (σ : zzS), zzGO p l e rX10_turnByTheLeast s m args below meth c 3 (zzA base) (zzX Z base PL mm) (zzX Z base PL mm) zzRI rX10_turnByTheLeast.cells rX10_turnByTheLeast.slots (k2 l2 σ) σ 0 0 2 [(0, .ref (zzad Z t0)), (1, .int p0), (2, .int l2)] []) (l2 : Int32)  (σ : zzS) : zzGO p l e rX10_turnByTheLeast s m args below meth c 3 (zzA base) (zzX Z base PL mm) (zzX Z base PL mm) zzRI rX10_turnByTheLeast.cells rX10_turnByTheLeast.slots (f_X10_turnByTheLeast_41 k2 t0 p0 l2 σ) σ 0 0 41 [(0, .ref (zzad Z t0)), (1, .int p0), (2, .int l2)] [] := by
  unfold f_X10_turnByTheLeast_41
  refine zz_iincX (d := 1) (locf := fun x1 => [(2, .int x1), (0, .ref (zzad Z t0)), (1, .int p0)]) C dX10_turnByTheLeast_41 (k := 2) rfl (by decide) (by decide) (fun _ => rfl) (fun x1 => ?_)
  refine zz_goto (tgt := 2) C dX10_turnByTheLeast_44 (by decide) ?_
  refine zz_sub (loc' := [(0, .ref (zzad Z t0)), (1, .int p0), (2, .int x1)]) [1, 2, 0] rfl ?_
  exact hk2 x1 σ
set_option maxHeartbeats 4000000 in
set_option maxRecDepth 100000 in
theorem w_X10_turnByTheLeast_2b {l : Launch} {Z : zzG} {base : Nat} {PL : Nat → Option (Nat × Int32)} {mm : zzS} {p : Program} {e : Env} {s : State} {m : MethodId} {args : Array Value} {below : List Frame} {meth : Method} {c : Code} (C : zzCx p m meth c s args cX10_turnByTheLeast 3 wsX10_turnByTheLeast RX10 (some .boolean) Z) (t0 : Nat) (ht0 : zztown t0) (p0 : Int32)   (k2 : Int32 → zzS → Option (Int32 × zzS)) (hk2 : ∀ (l2 : Int32)  (σ : zzS), zzGO p l e rX10_turnByTheLeast s m args below meth c 3 (zzA base) (zzX Z base PL mm) (zzX Z base PL mm) zzRI rX10_turnByTheLeast.cells rX10_turnByTheLeast.slots (k2 l2 σ) σ 0 0 2 [(0, .ref (zzad Z t0)), (1, .int p0), (2, .int l2)] []) (l2 : Int32)  (σ : zzS) : zzGO p l e rX10_turnByTheLeast s m args below meth c 3 (zzA base) (zzX Z base PL mm) (zzX Z base PL mm) zzRI rX10_turnByTheLeast.cells rX10_turnByTheLeast.slots (f_X10_turnByTheLeast_2b k2 t0 p0 l2 σ) σ 0 0 2 [(0, .ref (zzad Z t0)), (1, .int p0), (2, .int l2)] [] := by
  unfold f_X10_turnByTheLeast_2b
  refine zz_iload_n C dX10_turnByTheLeast_2 rfl 2 rfl ?_
  refine zz_aload_n C dX10_turnByTheLeast_3 rfl 0 rfl ?_
  refine zz_get C (zzX_town ht0) (fun _ h9 => List.mem_cons_of_mem _ (List.mem_append_left _ (List.mem_append_left _ (List.mem_append_left _ (List.mem_append_left _ (List.mem_append_left _ (List.mem_append_left _ (List.mem_append_left _ (List.mem_append_left _ (List.mem_append_right _ (h9))))))))))) rfl 4 (by decide) (List.mem_of_getElem? (i := 1) rfl) (Or.inl rfl) rfl dX10_turnByTheLeast_4 ?_
  refine zz_icmp_ge (tgt := 47) C dX10_turnByTheLeast_7 (by decide) (fun h1 => ?_) (fun h1 => ?_)
  · refine zz_iconst (v := 0) C dX10_turnByTheLeast_47 (by decide) ?_
    exact zz_zret C rfl (Or.inl rfl) rfl (fun _ h9 => h9) (Nat.zero_le _) (Nat.zero_le _) dX10_turnByTheLeast_48
  · refine zz_aload_n C dX10_turnByTheLeast_10 rfl 0 rfl ?_
    refine zz_iload_n C dX10_turnByTheLeast_11 rfl 2 rfl ?_
    refine zz_iload_n C dX10_turnByTheLeast_12 rfl 1 rfl ?_
    refine zz_aload_n C dX10_turnByTheLeast_13 rfl 0 rfl ?_
    refine zz_get C (zzX_town ht0) (fun _ h9 => List.mem_cons_of_mem _ (List.mem_append_left _ (List.mem_append_left _ (List.mem_append_left _ (List.mem_append_left _ (List.mem_append_left _ (List.mem_append_left _ (List.mem_append_left _ (List.mem_append_left _ (List.mem_append_right _ (h9))))))))))) rfl 5 (by decide) (List.mem_of_getElem? (i := 2) rfl) (Or.inl rfl) rfl dX10_turnByTheLeast_14 ?_
    refine zz_callV C (Cn := RX10) (b := zzad Z t0) (fun H hH => zz_recv C.2.2.2 ((zzX_town ht0) H hH) rfl) (As := [.int l2, .int p0, .int (zzi σ t0 5)]) (rest := []) rfl (k_X10_may t0 ht0 l2 p0 (zzi σ t0 5) σ) (cwV 3 C.1.2.2.2.2 gX10_turnByTheLeast_X10_may rfl rfl rfl (by decide +kernel) ⟨Nat.le_of_ble_eq_true rfl, Nat.le_of_ble_eq_true rfl⟩) rfl (Nat.le_of_ble_eq_true rfl) ⟨Nat.zero_le _, Nat.zero_le _⟩ dX10_turnByTheLeast_17 (zz_kI rfl rfl (fun r2 σ3 => ?_))
    refine zz_if_eq (tgt := 41) C dX10_turnByTheLeast_20 (by decide) (fun h4 => ?_) (fun h4 => ?_)
    · refine zz_sub (loc' := [(0, .ref (zzad Z t0)), (1, .int p0), (2, .int l2)]) [0, 1, 2] rfl ?_
      exact w_X10_turnByTheLeast_41 C t0 ht0 p0 k2 hk2 l2 σ3
    · refine zz_aload_n C dX10_turnByTheLeast_23 rfl 0 rfl ?_
      refine zz_iload_n C dX10_turnByTheLeast_24 rfl 1 rfl ?_
      refine zz_callV C (Cn := RX10) (b := zzad Z t0) (fun H hH => zz_recv C.2.2.2 ((zzX_town ht0) H hH) rfl) (As := [.int p0]) (rest := []) rfl (k_X10_turnedOf t0 ht0 p0 σ3) (cwV 1 C.1.2.2.2.2 gX10_turnByTheLeast_X10_turnedOf rfl rfl rfl (by decide +kernel) ⟨Nat.le_of_ble_eq_true rfl, Nat.le_of_ble_eq_true rfl⟩) rfl (Nat.le_of_ble_eq_true rfl) ⟨Nat.zero_le _, Nat.zero_le _⟩ dX10_turnByTheLeast_25 (zz_kI rfl rfl (fun r5 σ6 => ?_))
      refine zz_bipush (v := 9) C dX10_turnByTheLeast_28 (by decide) ?_
      refine zz_icmp_ge (tgt := 41) C dX10_turnByTheLeast_30 (by decide) (fun h7 => ?_) (fun h7 => ?_)
      · refine zz_sub (loc' := [(0, .ref (zzad Z t0)), (1, .int p0), (2, .int l2)]) [0, 1, 2] rfl ?_
        exact w_X10_turnByTheLeast_41 C t0 ht0 p0 k2 hk2 l2 σ6
      · refine zz_aload_n C dX10_turnByTheLeast_33 rfl 0 rfl ?_
        refine zz_iload_n C dX10_turnByTheLeast_34 rfl 2 rfl ?_
        refine zz_iload_n C dX10_turnByTheLeast_35 rfl 1 rfl ?_
        refine zz_callV C (Cn := RX10) (b := zzad Z t0) (fun H hH => zz_recv C.2.2.2 ((zzX_town ht0) H hH) rfl) (As := [.int l2, .int p0]) (rest := []) rfl (k_X10_turnCards t0 ht0 l2 p0 σ6) (cwV 2 C.1.2.2.2.2 gX10_turnByTheLeast_X10_turnCards rfl rfl rfl (by decide +kernel) ⟨Nat.le_of_ble_eq_true rfl, Nat.le_of_ble_eq_true rfl⟩) rfl (Nat.le_of_ble_eq_true rfl) ⟨Nat.zero_le _, Nat.zero_le _⟩ dX10_turnByTheLeast_36 (zz_kV rfl rfl (fun r8 σ9 => ?_))
        refine zz_iconst (v := 1) C dX10_turnByTheLeast_39 (by decide) ?_
        exact zz_zret C rfl (Or.inr rfl) rfl (fun _ h9 => h9) (Nat.zero_le _) (Nat.zero_le _) dX10_turnByTheLeast_40
set_option maxHeartbeats 4000000 in
set_option maxRecDepth 100000 in
theorem w_X10_turnByTheLeast_2 {l : Launch} {Z : zzG} {base : Nat} {PL : Nat → Option (Nat × Int32)} {mm : zzS} {p : Program} {e : Env} {s : State} {m : MethodId} {args : Array Value} {below : List Frame} {meth : Method} {c : Code} (C : zzCx p m meth c s args cX10_turnByTheLeast 3 wsX10_turnByTheLeast RX10 (some .boolean) Z) (t0 : Nat) (ht0 : zztown t0) (p0 : Int32)   (n : Nat) : ∀ (l2 : Int32)  (σ : zzS), zzGO p l e rX10_turnByTheLeast s m args below meth c 3 (zzA base) (zzX Z base PL mm) (zzX Z base PL mm) zzRI rX10_turnByTheLeast.cells rX10_turnByTheLeast.slots (f_X10_turnByTheLeast_2 t0 p0 n l2 σ) σ 0 0 2 [(0, .ref (zzad Z t0)), (1, .int p0), (2, .int l2)] [] := by
  induction n with
  | zero => exact fun _ _ r9 s9 h9 => by cases h9
  | succ n ih => exact w_X10_turnByTheLeast_2b C t0 ht0 p0 _ ih
set_option maxHeartbeats 4000000 in
set_option maxRecDepth 100000 in
theorem w_X10_turnByTheLeast_e {l : Launch} {Z : zzG} {base : Nat} {PL : Nat → Option (Nat × Int32)} {mm : zzS} {p : Program} {e : Env} {s : State} {m : MethodId} {args : Array Value} {below : List Frame} {meth : Method} {c : Code} (C : zzCx p m meth c s args cX10_turnByTheLeast 3 wsX10_turnByTheLeast RX10 (some .boolean) Z) (t0 : Nat) (ht0 : zztown t0) (p0 : Int32)  (σ : zzS) : zzGO p l e rX10_turnByTheLeast s m args below meth c 3 (zzA base) (zzX Z base PL mm) (zzX Z base PL mm) zzRI rX10_turnByTheLeast.cells rX10_turnByTheLeast.slots (f_X10_turnByTheLeast t0 p0 σ) σ 0 0 0 [(0, .ref (zzad Z t0)), (1, .int p0)] [] := by
  unfold f_X10_turnByTheLeast
  refine zz_iconst (v := 0) C dX10_turnByTheLeast_0 (by decide) ?_
  refine zz_istore_n (loc' := [(2, .int (0 : Int32)), (0, .ref (zzad Z t0)), (1, .int p0)]) C dX10_turnByTheLeast_1 rfl (by decide) rfl ?_
  refine zz_sub (loc' := [(0, .ref (zzad Z t0)), (1, .int p0), (2, .int (0 : Int32))]) [1, 2, 0] rfl ?_
  exact w_X10_turnByTheLeast_2 C t0 ht0 p0 200 (0 : Int32) σ
set_option maxHeartbeats 4000000 in
set_option maxRecDepth 100000 in
theorem k_X10_turnByTheLeast {l : Launch} {Z : zzG} {base : Nat} {PL : Nat → Option (Nat × Int32)} {mm : zzS} (t0 : Nat) (ht0 : zztown t0) (p0 : Int32)  (σ : zzS) : zzCT l yX10_turnByTheLeast wsX10_turnByTheLeast rX10_turnByTheLeast (zzA base) Z (zzX Z base PL mm) (zzX Z base PL mm) zzRI [.ref (zzad Z t0), .int p0] (f_X10_turnByTheLeast t0 p0 σ) σ :=
  zzCT_of (cc := cX10_turnByTheLeast) (nL := 3) (ret := (some .boolean)) (by decide) rfl (Nat.le_of_ble_eq_true rfl) [(0, .ref (zzad Z t0)), (1, .int p0)] rfl (fun p e s m args below meth c C => w_X10_turnByTheLeast_e C t0 ht0 p0 σ)
abbrev rX10_turnElseSee : Room := { frames := 5, cells := 0, slots := 0, locals := 110 }

set_option maxHeartbeats 4000000 in
set_option maxRecDepth 100000 in
theorem w_X10_turnElseSee_31 {l : Launch} {Z : zzG} {base : Nat} {PL : Nat → Option (Nat × Int32)} {mm : zzS} {p : Program} {e : Env} {s : State} {m : MethodId} {args : Array Value} {below : List Frame} {meth : Method} {c : Code} (C : zzCx p m meth c s args cX10_turnElseSee 3 wsX10_turnElseSee RX10 (some .boolean) Z) (t0 : Nat) (ht0 : zztown t0) (p0 : Int32)  (p1 : Int32)    (σ : zzS) : zzGO p l e rX10_turnElseSee s m args below meth c 3 (zzA base) (zzX Z base PL mm) (zzX Z base PL mm) zzRI rX10_turnElseSee.cells rX10_turnElseSee.slots (f_X10_turnElseSee_31 t0 p0 p1 σ) σ 0 0 31 [(0, .ref (zzad Z t0)), (1, .int p0), (2, .int p1)] [] := by
  unfold f_X10_turnElseSee_31
  refine zz_aload_n C dX10_turnElseSee_31 rfl 0 rfl ?_
  refine zz_iload_n C dX10_turnElseSee_32 rfl 1 rfl ?_
  refine zz_iload_n C dX10_turnElseSee_33 rfl 2 rfl ?_
  refine zz_callV C (Cn := RX10) (b := zzad Z t0) (fun H hH => zz_recv C.2.2.2 ((zzX_town ht0) H hH) rfl) (As := [.int p0, .int p1]) (rest := []) rfl (k_X10_areTwo t0 ht0 p0 p1 σ) (cwV 2 C.1.2.2.2.2 gX10_turnElseSee_X10_areTwo rfl rfl rfl (by decide +kernel) ⟨Nat.le_of_ble_eq_true rfl, Nat.le_of_ble_eq_true rfl⟩) rfl (Nat.le_of_ble_eq_true rfl) ⟨Nat.zero_le _, Nat.zero_le _⟩ dX10_turnElseSee_34 (zz_kI rfl rfl (fun r1 σ2 => ?_))
  refine zz_if_eq (tgt := 46) C dX10_turnElseSee_37 (by decide) (fun h3 => ?_) (fun h3 => ?_)
  · refine zz_iconst (v := 0) C dX10_turnElseSee_46 (by decide) ?_
    exact zz_zret C rfl (Or.inl rfl) rfl (fun _ h9 => h9) (Nat.zero_le _) (Nat.zero_le _) dX10_turnElseSee_47
  · refine zz_aload_n C dX10_turnElseSee_40 rfl 0 rfl ?_
    refine zz_iload_n C dX10_turnElseSee_41 rfl 1 rfl ?_
    refine zz_iload_n C dX10_turnElseSee_42 rfl 2 rfl ?_
    refine zz_callV C (Cn := RX10) (b := zzad Z t0) (fun H hH => zz_recv C.2.2.2 ((zzX_town ht0) H hH) rfl) (As := [.int p0, .int p1]) (rest := []) rfl (k_X10_becomeFonder t0 ht0 p0 p1 σ2) (cwV 2 C.1.2.2.2.2 gX10_turnElseSee_X10_becomeFonder rfl rfl rfl (by decide +kernel) ⟨Nat.le_of_ble_eq_true rfl, Nat.le_of_ble_eq_true rfl⟩) rfl (Nat.le_of_ble_eq_true rfl) ⟨Nat.zero_le _, Nat.zero_le _⟩ dX10_turnElseSee_43 (zz_kV rfl rfl (fun r4 σ5 => ?_))
    refine zz_iconst (v := 0) C dX10_turnElseSee_46 (by decide) ?_
    exact zz_zret C rfl (Or.inl rfl) rfl (fun _ h9 => h9) (Nat.zero_le _) (Nat.zero_le _) dX10_turnElseSee_47
set_option maxHeartbeats 4000000 in
set_option maxRecDepth 100000 in
theorem w_X10_turnElseSee_e {l : Launch} {Z : zzG} {base : Nat} {PL : Nat → Option (Nat × Int32)} {mm : zzS} {p : Program} {e : Env} {s : State} {m : MethodId} {args : Array Value} {below : List Frame} {meth : Method} {c : Code} (C : zzCx p m meth c s args cX10_turnElseSee 3 wsX10_turnElseSee RX10 (some .boolean) Z) (t0 : Nat) (ht0 : zztown t0) (p0 : Int32)  (p1 : Int32)  (σ : zzS) : zzGO p l e rX10_turnElseSee s m args below meth c 3 (zzA base) (zzX Z base PL mm) (zzX Z base PL mm) zzRI rX10_turnElseSee.cells rX10_turnElseSee.slots (f_X10_turnElseSee t0 p0 p1 σ) σ 0 0 0 [(0, .ref (zzad Z t0)), (1, .int p0), (2, .int p1)] [] := by
  unfold f_X10_turnElseSee
  refine zz_aload_n C dX10_turnElseSee_0 rfl 0 rfl ?_
  refine zz_iload_n C dX10_turnElseSee_1 rfl 1 rfl ?_
  refine zz_iload_n C dX10_turnElseSee_2 rfl 2 rfl ?_
  refine zz_aload_n C dX10_turnElseSee_3 rfl 0 rfl ?_
  refine zz_get C (zzX_town ht0) (fun _ h9 => List.mem_cons_of_mem _ (List.mem_append_left _ (List.mem_append_left _ (List.mem_append_left _ (List.mem_append_left _ (List.mem_append_left _ (List.mem_append_left _ (List.mem_append_left _ (List.mem_append_left _ (List.mem_append_right _ (h9))))))))))) rfl 5 (by decide) (List.mem_of_getElem? (i := 1) rfl) (Or.inl rfl) rfl dX10_turnElseSee_4 ?_
  refine zz_callV C (Cn := RX10) (b := zzad Z t0) (fun H hH => zz_recv C.2.2.2 ((zzX_town ht0) H hH) rfl) (As := [.int p0, .int p1, .int (zzi σ t0 5)]) (rest := []) rfl (k_X10_may t0 ht0 p0 p1 (zzi σ t0 5) σ) (cwV 3 C.1.2.2.2.2 gX10_turnElseSee_X10_may rfl rfl rfl (by decide +kernel) ⟨Nat.le_of_ble_eq_true rfl, Nat.le_of_ble_eq_true rfl⟩) rfl (Nat.le_of_ble_eq_true rfl) ⟨Nat.zero_le _, Nat.zero_le _⟩ dX10_turnElseSee_7 (zz_kI rfl rfl (fun r1 σ2 => ?_))
  refine zz_if_eq (tgt := 31) C dX10_turnElseSee_10 (by decide) (fun h3 => ?_) (fun h3 => ?_)
  · refine zz_sub (loc' := [(0, .ref (zzad Z t0)), (1, .int p0), (2, .int p1)]) [0, 1, 2] rfl ?_
    exact w_X10_turnElseSee_31 C t0 ht0 p0 p1 σ2
  · refine zz_aload_n C dX10_turnElseSee_13 rfl 0 rfl ?_
    refine zz_iload_n C dX10_turnElseSee_14 rfl 2 rfl ?_
    refine zz_callV C (Cn := RX10) (b := zzad Z t0) (fun H hH => zz_recv C.2.2.2 ((zzX_town ht0) H hH) rfl) (As := [.int p1]) (rest := []) rfl (k_X10_turnedOf t0 ht0 p1 σ2) (cwV 1 C.1.2.2.2.2 gX10_turnElseSee_X10_turnedOf rfl rfl rfl (by decide +kernel) ⟨Nat.le_of_ble_eq_true rfl, Nat.le_of_ble_eq_true rfl⟩) rfl (Nat.le_of_ble_eq_true rfl) ⟨Nat.zero_le _, Nat.zero_le _⟩ dX10_turnElseSee_15 (zz_kI rfl rfl (fun r4 σ5 => ?_))
    refine zz_bipush (v := 9) C dX10_turnElseSee_18 (by decide) ?_
    refine zz_icmp_ge (tgt := 31) C dX10_turnElseSee_20 (by decide) (fun h6 => ?_) (fun h6 => ?_)
    · refine zz_sub (loc' := [(0, .ref (zzad Z t0)), (1, .int p0), (2, .int p1)]) [0, 1, 2] rfl ?_
      exact w_X10_turnElseSee_31 C t0 ht0 p0 p1 σ5
    · refine zz_aload_n C dX10_turnElseSee_23 rfl 0 rfl ?_
      refine zz_iload_n C dX10_turnElseSee_24 rfl 1 rfl ?_
      refine zz_iload_n C dX10_turnElseSee_25 rfl 2 rfl ?_
      refine zz_callV C (Cn := RX10) (b := zzad Z t0) (fun H hH => zz_recv C.2.2.2 ((zzX_town ht0) H hH) rfl) (As := [.int p0, .int p1]) (rest := []) rfl (k_X10_turnCards t0 ht0 p0 p1 σ5) (cwV 2 C.1.2.2.2.2 gX10_turnElseSee_X10_turnCards rfl rfl rfl (by decide +kernel) ⟨Nat.le_of_ble_eq_true rfl, Nat.le_of_ble_eq_true rfl⟩) rfl (Nat.le_of_ble_eq_true rfl) ⟨Nat.zero_le _, Nat.zero_le _⟩ dX10_turnElseSee_26 (zz_kV rfl rfl (fun r7 σ8 => ?_))
      refine zz_iconst (v := 1) C dX10_turnElseSee_29 (by decide) ?_
      exact zz_zret C rfl (Or.inr rfl) rfl (fun _ h9 => h9) (Nat.zero_le _) (Nat.zero_le _) dX10_turnElseSee_30
set_option maxHeartbeats 4000000 in
set_option maxRecDepth 100000 in
theorem k_X10_turnElseSee {l : Launch} {Z : zzG} {base : Nat} {PL : Nat → Option (Nat × Int32)} {mm : zzS} (t0 : Nat) (ht0 : zztown t0) (p0 : Int32)  (p1 : Int32)  (σ : zzS) : zzCT l yX10_turnElseSee wsX10_turnElseSee rX10_turnElseSee (zzA base) Z (zzX Z base PL mm) (zzX Z base PL mm) zzRI [.ref (zzad Z t0), .int p0, .int p1] (f_X10_turnElseSee t0 p0 p1 σ) σ :=
  zzCT_of (cc := cX10_turnElseSee) (nL := 3) (ret := (some .boolean)) (by decide) rfl (Nat.le_of_ble_eq_true rfl) [(0, .ref (zzad Z t0)), (1, .int p0), (2, .int p1)] rfl (fun p e s m args below meth c C => w_X10_turnElseSee_e C t0 ht0 p0 p1 σ)
abbrev rX10_fitForAll : Room := { frames := 5, cells := 0, slots := 0, locals := 112 }

set_option maxHeartbeats 4000000 in
set_option maxRecDepth 100000 in
theorem w_X10_fitForAll_4b {l : Launch} {Z : zzG} {base : Nat} {PL : Nat → Option (Nat × Int32)} {mm : zzS} {p : Program} {e : Env} {s : State} {m : MethodId} {args : Array Value} {below : List Frame} {meth : Method} {c : Code} (C : zzCx p m meth c s args cX10_fitForAll 3 wsX10_fitForAll RX10 (some .int) Z) (t0 : Nat) (ht0 : zztown t0)  (k4 : Int32 → Int32 → zzS → Option (Int32 × zzS)) (hk4 : ∀ (l1 : Int32)  (l2 : Int32)  (σ : zzS), zzGO p l e rX10_fitForAll s m args below meth c 3 (zzA base) (zzX Z base PL mm) (zzX Z base PL mm) zzRI rX10_fitForAll.cells rX10_fitForAll.slots (k4 l1 l2 σ) σ 0 0 4 [(0, .ref (zzad Z t0)), (1, .int l1), (2, .int l2)] []) (l1 : Int32)  (l2 : Int32)  (σ : zzS) : zzGO p l e rX10_fitForAll s m args below meth c 3 (zzA base) (zzX Z base PL mm) (zzX Z base PL mm) zzRI rX10_fitForAll.cells rX10_fitForAll.slots (f_X10_fitForAll_4b k4 t0 l1 l2 σ) σ 0 0 4 [(0, .ref (zzad Z t0)), (1, .int l1), (2, .int l2)] [] := by
  unfold f_X10_fitForAll_4b
  refine zz_iload_n C dX10_fitForAll_4 rfl 2 rfl ?_
  refine zz_aload_n C dX10_fitForAll_5 rfl 0 rfl ?_
  refine zz_get C (zzX_town ht0) (fun _ h9 => List.mem_cons_of_mem _ (List.mem_append_right _ (h9))) rfl 4 (by decide) (List.mem_of_getElem? (i := 1) rfl) (Or.inl rfl) rfl dX10_fitForAll_6 ?_
  refine zz_icmp_ge (tgt := 33) C dX10_fitForAll_9 (by decide) (fun h1 => ?_) (fun h1 => ?_)
  · refine zz_iload_n C dX10_fitForAll_33 rfl 1 rfl ?_
    exact zz_iret C rfl rfl (fun _ h9 => h9) (Nat.zero_le _) (Nat.zero_le _) dX10_fitForAll_34
  · refine zz_iload_n C dX10_fitForAll_12 rfl 1 rfl ?_
    refine zz_aload_n C dX10_fitForAll_13 rfl 0 rfl ?_
    refine zz_iload_n C dX10_fitForAll_14 rfl 2 rfl ?_
    refine zz_aload_n C dX10_fitForAll_15 rfl 0 rfl ?_
    refine zz_get C (zzX_town ht0) (fun _ h9 => List.mem_cons_of_mem _ (List.mem_append_right _ (h9))) rfl 5 (by decide) (List.mem_of_getElem? (i := 2) rfl) (Or.inl rfl) rfl dX10_fitForAll_16 ?_
    refine zz_callV C (Cn := RX10) (b := zzad Z t0) (fun H hH => zz_recv C.2.2.2 ((zzX_town ht0) H hH) rfl) (As := [.int l2, .int (zzi σ t0 5)]) (rest := [.int l1]) rfl (k_X10_fitFor t0 ht0 l2 (zzi σ t0 5) σ) (cwV 2 C.1.2.2.2.2 gX10_fitForAll_X10_fitFor rfl rfl rfl (by decide +kernel) ⟨Nat.le_of_ble_eq_true rfl, Nat.le_of_ble_eq_true rfl⟩) rfl (Nat.le_of_ble_eq_true rfl) ⟨Nat.zero_le _, Nat.zero_le _⟩ dX10_fitForAll_19 (zz_kI rfl rfl (fun r2 σ3 => ?_))
    refine zz_callS (As := [.int r2]) (rest := [.int l1]) C rfl (k_J6_bitCount_0f7a4 r2 σ3) (va_cwS 1 C.1.2.2.2.2 gX10_fitForAll_J6_bitCount_0f7a4 rfl rfl rfl (by decide +kernel) ⟨Nat.le_of_ble_eq_true rfl, Nat.le_of_ble_eq_true rfl⟩) rfl (Nat.le_of_ble_eq_true rfl) ⟨Nat.zero_le _, Nat.zero_le _⟩ dX10_fitForAll_22 (zz_kI rfl rfl (fun r4 σ5 => ?_))
    refine zz_iadd C dX10_fitForAll_25 ?_
    refine zz_istoreX_n (locf := fun x6 => [(1, .int x6), (0, .ref (zzad Z t0)), (2, .int l2)]) C dX10_fitForAll_26 rfl (by decide) (fun _ => rfl) (fun x6 => ?_)
    refine zz_iincX (d := 1) (locf := fun x7 => [(2, .int x7), (1, .int x6), (0, .ref (zzad Z t0))]) C dX10_fitForAll_27 (k := 2) rfl (by decide) (by decide) (fun _ => rfl) (fun x7 => ?_)
    refine zz_goto (tgt := 4) C dX10_fitForAll_30 (by decide) ?_
    refine zz_sub (loc' := [(0, .ref (zzad Z t0)), (1, .int x6), (2, .int x7)]) [2, 1, 0] rfl ?_
    exact hk4 x6 x7 σ5
set_option maxHeartbeats 4000000 in
set_option maxRecDepth 100000 in
theorem w_X10_fitForAll_4 {l : Launch} {Z : zzG} {base : Nat} {PL : Nat → Option (Nat × Int32)} {mm : zzS} {p : Program} {e : Env} {s : State} {m : MethodId} {args : Array Value} {below : List Frame} {meth : Method} {c : Code} (C : zzCx p m meth c s args cX10_fitForAll 3 wsX10_fitForAll RX10 (some .int) Z) (t0 : Nat) (ht0 : zztown t0)  (n : Nat) : ∀ (l1 : Int32)  (l2 : Int32)  (σ : zzS), zzGO p l e rX10_fitForAll s m args below meth c 3 (zzA base) (zzX Z base PL mm) (zzX Z base PL mm) zzRI rX10_fitForAll.cells rX10_fitForAll.slots (f_X10_fitForAll_4 t0 n l1 l2 σ) σ 0 0 4 [(0, .ref (zzad Z t0)), (1, .int l1), (2, .int l2)] [] := by
  induction n with
  | zero => exact fun _ _ _ r9 s9 h9 => by cases h9
  | succ n ih => exact w_X10_fitForAll_4b C t0 ht0 _ ih
set_option maxHeartbeats 4000000 in
set_option maxRecDepth 100000 in
theorem w_X10_fitForAll_e {l : Launch} {Z : zzG} {base : Nat} {PL : Nat → Option (Nat × Int32)} {mm : zzS} {p : Program} {e : Env} {s : State} {m : MethodId} {args : Array Value} {below : List Frame} {meth : Method} {c : Code} (C : zzCx p m meth c s args cX10_fitForAll 3 wsX10_fitForAll RX10 (some .int) Z) (t0 : Nat) (ht0 : zztown t0) (σ : zzS) : zzGO p l e rX10_fitForAll s m args below meth c 3 (zzA base) (zzX Z base PL mm) (zzX Z base PL mm) zzRI rX10_fitForAll.cells rX10_fitForAll.slots (f_X10_fitForAll t0 σ) σ 0 0 0 [(0, .ref (zzad Z t0))] [] := by
  unfold f_X10_fitForAll
  refine zz_iconst (v := 0) C dX10_fitForAll_0 (by decide) ?_
  refine zz_istore_n (loc' := [(1, .int (0 : Int32)), (0, .ref (zzad Z t0))]) C dX10_fitForAll_1 rfl (by decide) rfl ?_
  refine zz_iconst (v := 0) C dX10_fitForAll_2 (by decide) ?_
  refine zz_istore_n (loc' := [(2, .int (0 : Int32)), (1, .int (0 : Int32)), (0, .ref (zzad Z t0))]) C dX10_fitForAll_3 rfl (by decide) rfl ?_
  refine zz_sub (loc' := [(0, .ref (zzad Z t0)), (1, .int (0 : Int32)), (2, .int (0 : Int32))]) [2, 1, 0] rfl ?_
  exact w_X10_fitForAll_4 C t0 ht0 200 (0 : Int32) (0 : Int32) σ
set_option maxHeartbeats 4000000 in
set_option maxRecDepth 100000 in
theorem k_X10_fitForAll {l : Launch} {Z : zzG} {base : Nat} {PL : Nat → Option (Nat × Int32)} {mm : zzS} (t0 : Nat) (ht0 : zztown t0) (σ : zzS) : zzCT l yX10_fitForAll wsX10_fitForAll rX10_fitForAll (zzA base) Z (zzX Z base PL mm) (zzX Z base PL mm) zzRI [.ref (zzad Z t0)] (f_X10_fitForAll t0 σ) σ :=
  zzCT_of (cc := cX10_fitForAll) (nL := 3) (ret := (some .int)) (by decide) rfl (Nat.le_of_ble_eq_true rfl) [(0, .ref (zzad Z t0))] rfl (fun p e s m args below meth c C => w_X10_fitForAll_e C t0 ht0 σ)
abbrev rX10_turningsTillUnfit : Room := { frames := 3, cells := 0, slots := 0, locals := 65 }
set_option maxHeartbeats 4000000 in
set_option maxRecDepth 100000 in
theorem vr_X10_turningsTillUnfit_19 {l : Launch} {Z : zzG} {base : Nat} {PL : Nat → Option (Nat × Int32)} {mm : zzS} {p : Program} {e : Env} {s : State} {m : MethodId} {args : Array Value} {below : List Frame} {meth : Method} {c : Code} {cells slots : Nat} {σ : zzS} {loc : List (Nat × Value)} {rest : List Value} (C : zzCx p m meth c s args cX10_turningsTillUnfit 7 wsX10_turningsTillUnfit RX10 (some .int) Z) {q : Nat} {kf : Nat × Int32} (hq : PL q = some kf) (hroom : (rest.map fun v => v.category).sum ≤ 8) (hcs : cells + 0 ≤ (rX10_turningsTillUnfit).cells ∧ slots + 0 ≤ (rX10_turningsTillUnfit).slots := by exact ⟨Nat.zero_le _, Nat.zero_le _⟩) :
    ∀ r1 σ2, some (zzgrows kf, σ) = some (r1, σ2) → ∀ (H : Heap) (locs : List Loc) (ls : Array Slot), zzX Z base PL mm σ H → lv_has ls 7 loc → va_Run p l e rX10_turningsTillUnfit s m args below meth c H locs cells slots 0 0 (F0 m 19 ls (.ref q :: rest)) rest (zzQ zzRI (zzX Z base PL mm) (zzA base) r1 σ2 #[.ref q]) (zzA base) := by
  intro r1 σ2 hr H locs ls hW hl
  have h8 := zz_kind8 (hW.1.2.2.1 q kf hq).1
  obtain ⟨k9, f9⟩ := kf
  rcases h8 with h8 | h8 | h8 | h8 | h8 | h8 | h8 | h8
  · have h8 : k9 = 0 := h8
    subst h8
    have ct := k_X6_grows (l := l) (Z := Z) (base := base) (PL := PL) (mm := mm) (0, f9) q hq σ r1 σ2 hr
    exact va_runV (As := []) (C := RX6) C.1 ct (cwV 0 C.1.2.2.2.2 gX10_turningsTillUnfit_X6_grows rfl rfl rfl (by decide +kernel) ⟨Nat.le_of_ble_eq_true rfl, Nat.le_of_ble_eq_true rfl⟩) ⟨zzPc_blind, zz_recv C.2.2.2 (zzX_pers1 hq H hW) rfl, fun U hU hWm => zzPc_at C.2.2.2 hU hWm hW⟩ rfl rfl hl.1 rfl (lv_room hroom) dX10_turningsTillUnfit_19 hcs
  · have h8 : k9 = 1 := h8
    subst h8
    have ct := k_X9_grows (l := l) (Z := Z) (base := base) (PL := PL) (mm := mm) (1, f9) q hq (Or.inl rfl) σ r1 σ2 hr
    exact va_runU (As := []) (C := RX9) C.1 ct (va_cwO 0 C.1.2.2.2.2 gX10_turningsTillUnfit_X9_grows_u115X9 rfl rfl rfl (List.mem_of_getElem? (i := 64) rfl) (by decide +kernel) ⟨Nat.le_of_ble_eq_true rfl, Nat.le_of_ble_eq_true rfl⟩) ⟨zzPc_blind, zz_recv C.2.2.2 (zzX_pers1 hq H hW) rfl, fun U hU hWm => zzPc_at C.2.2.2 hU hWm hW⟩ rfl rfl hl.1 rfl (lv_room hroom) dX10_turningsTillUnfit_19 hcs
  · have h8 : k9 = 2 := h8
    subst h8
    have ct := k_X0_grows (l := l) (Z := Z) (base := base) (PL := PL) (mm := mm) (2, f9) q hq (Or.inl rfl) σ r1 σ2 hr
    exact va_runU (As := []) (C := RX0) C.1 ct (va_cwO 0 C.1.2.2.2.2 gX10_turningsTillUnfit_X0_grows_u115X0 rfl rfl rfl (List.mem_of_getElem? (i := 64) rfl) (by decide +kernel) ⟨Nat.le_of_ble_eq_true rfl, Nat.le_of_ble_eq_true rfl⟩) ⟨zzPc_blind, zz_recv C.2.2.2 (zzX_pers1 hq H hW) rfl, fun U hU hWm => zzPc_at C.2.2.2 hU hWm hW⟩ rfl rfl hl.1 rfl (lv_room hroom) dX10_turningsTillUnfit_19 hcs
  · have h8 : k9 = 3 := h8
    subst h8
    have ct := k_X1_grows (l := l) (Z := Z) (base := base) (PL := PL) (mm := mm) (3, f9) q hq rfl σ r1 σ2 hr
    exact va_runU (As := []) (C := RX1) C.1 ct (va_cwO 0 C.1.2.2.2.2 gX10_turningsTillUnfit_X1_grows_u115X1 rfl rfl rfl (List.mem_of_getElem? (i := 64) rfl) (by decide +kernel) ⟨Nat.le_of_ble_eq_true rfl, Nat.le_of_ble_eq_true rfl⟩) ⟨zzPc_blind, zz_recv C.2.2.2 (zzX_pers1 hq H hW) rfl, fun U hU hWm => zzPc_at C.2.2.2 hU hWm hW⟩ rfl rfl hl.1 rfl (lv_room hroom) dX10_turningsTillUnfit_19 hcs
  · have h8 : k9 = 4 := h8
    subst h8
    have ct := k_X4_grows (l := l) (Z := Z) (base := base) (PL := PL) (mm := mm) (4, f9) q hq rfl σ r1 σ2 hr
    exact va_runU (As := []) (C := RX4) C.1 ct (va_cwO 0 C.1.2.2.2.2 gX10_turningsTillUnfit_X4_grows_u115X4 rfl rfl rfl (List.mem_of_getElem? (i := 64) rfl) (by decide +kernel) ⟨Nat.le_of_ble_eq_true rfl, Nat.le_of_ble_eq_true rfl⟩) ⟨zzPc_blind, zz_recv C.2.2.2 (zzX_pers1 hq H hW) rfl, fun U hU hWm => zzPc_at C.2.2.2 hU hWm hW⟩ rfl rfl hl.1 rfl (lv_room hroom) dX10_turningsTillUnfit_19 hcs
  · have h8 : k9 = 5 := h8
    subst h8
    have ct := k_X5_grows (l := l) (Z := Z) (base := base) (PL := PL) (mm := mm) (5, f9) q hq rfl σ r1 σ2 hr
    exact va_runU (As := []) (C := RX5) C.1 ct (va_cwO 0 C.1.2.2.2.2 gX10_turningsTillUnfit_X5_grows_u115X5 rfl rfl rfl (List.mem_of_getElem? (i := 64) rfl) (by decide +kernel) ⟨Nat.le_of_ble_eq_true rfl, Nat.le_of_ble_eq_true rfl⟩) ⟨zzPc_blind, zz_recv C.2.2.2 (zzX_pers1 hq H hW) rfl, fun U hU hWm => zzPc_at C.2.2.2 hU hWm hW⟩ rfl rfl hl.1 rfl (lv_room hroom) dX10_turningsTillUnfit_19 hcs
  · have h8 : k9 = 6 := h8
    subst h8
    have ct := k_X3_grows (l := l) (Z := Z) (base := base) (PL := PL) (mm := mm) (6, f9) q hq rfl σ r1 σ2 hr
    exact va_runU (As := []) (C := RX3) C.1 ct (va_cwO 0 C.1.2.2.2.2 gX10_turningsTillUnfit_X3_grows_u115X3 rfl rfl rfl (List.mem_of_getElem? (i := 64) rfl) (by decide +kernel) ⟨Nat.le_of_ble_eq_true rfl, Nat.le_of_ble_eq_true rfl⟩) ⟨zzPc_blind, zz_recv C.2.2.2 (zzX_pers1 hq H hW) rfl, fun U hU hWm => zzPc_at C.2.2.2 hU hWm hW⟩ rfl rfl hl.1 rfl (lv_room hroom) dX10_turningsTillUnfit_19 hcs
  · have h8 : k9 = 7 := h8
    subst h8
    have ct := k_X8_grows (l := l) (Z := Z) (base := base) (PL := PL) (mm := mm) (7, f9) q hq rfl σ r1 σ2 hr
    exact va_runU (As := []) (C := RX8) C.1 ct (va_cwO 0 C.1.2.2.2.2 gX10_turningsTillUnfit_X8_grows_u115X8 rfl rfl rfl (List.mem_of_getElem? (i := 64) rfl) (by decide +kernel) ⟨Nat.le_of_ble_eq_true rfl, Nat.le_of_ble_eq_true rfl⟩) ⟨zzPc_blind, zz_recv C.2.2.2 (zzX_pers1 hq H hW) rfl, fun U hU hWm => zzPc_at C.2.2.2 hU hWm hW⟩ rfl rfl hl.1 rfl (lv_room hroom) dX10_turningsTillUnfit_19 hcs

set_option maxHeartbeats 4000000 in
set_option maxRecDepth 100000 in
theorem vr_X10_turningsTillUnfit_5 {l : Launch} {Z : zzG} {base : Nat} {PL : Nat → Option (Nat × Int32)} {mm : zzS} {p : Program} {e : Env} {s : State} {m : MethodId} {args : Array Value} {below : List Frame} {meth : Method} {c : Code} {cells slots : Nat} {σ : zzS} {loc : List (Nat × Value)} {rest : List Value} (C : zzCx p m meth c s args cX10_turningsTillUnfit 7 wsX10_turningsTillUnfit RX10 (some .int) Z) {q : Nat} {kf : Nat × Int32} (hq : PL q = some kf) (hroom : (rest.map fun v => v.category).sum ≤ 8) (hcs : cells + 0 ≤ (rX10_turningsTillUnfit).cells ∧ slots + 0 ≤ (rX10_turningsTillUnfit).slots := by exact ⟨Nat.zero_le _, Nat.zero_le _⟩) :
    ∀ r1 σ2, some (zzbears kf, σ) = some (r1, σ2) → ∀ (H : Heap) (locs : List Loc) (ls : Array Slot), zzX Z base PL mm σ H → lv_has ls 7 loc → va_Run p l e rX10_turningsTillUnfit s m args below meth c H locs cells slots 0 0 (F0 m 5 ls (.ref q :: rest)) rest (zzQ zzRI (zzX Z base PL mm) (zzA base) r1 σ2 #[.ref q]) (zzA base) := by
  intro r1 σ2 hr H locs ls hW hl
  have h8 := zz_kind8 (hW.1.2.2.1 q kf hq).1
  obtain ⟨k9, f9⟩ := kf
  rcases h8 with h8 | h8 | h8 | h8 | h8 | h8 | h8 | h8
  · have h8 : k9 = 0 := h8
    subst h8
    have ct := k_X6_bears (l := l) (Z := Z) (base := base) (PL := PL) (mm := mm) (0, f9) q hq σ r1 σ2 hr
    exact va_runV (As := []) (C := RX6) C.1 ct (cwV 0 C.1.2.2.2.2 gX10_turningsTillUnfit_X6_bears rfl rfl rfl (by decide +kernel) ⟨Nat.le_of_ble_eq_true rfl, Nat.le_of_ble_eq_true rfl⟩) ⟨zzPc_blind, zz_recv C.2.2.2 (zzX_pers1 hq H hW) rfl, fun U hU hWm => zzPc_at C.2.2.2 hU hWm hW⟩ rfl rfl hl.1 rfl (lv_room hroom) dX10_turningsTillUnfit_5 hcs
  · have h8 : k9 = 1 := h8
    subst h8
    have ct := k_X9_bears (l := l) (Z := Z) (base := base) (PL := PL) (mm := mm) (1, f9) q hq (Or.inl rfl) σ r1 σ2 hr
    exact va_runU (As := []) (C := RX9) C.1 ct (va_cwO 0 C.1.2.2.2.2 gX10_turningsTillUnfit_X9_bears_u103X9 rfl rfl rfl (List.mem_of_getElem? (i := 18) rfl) (by decide +kernel) ⟨Nat.le_of_ble_eq_true rfl, Nat.le_of_ble_eq_true rfl⟩) ⟨zzPc_blind, zz_recv C.2.2.2 (zzX_pers1 hq H hW) rfl, fun U hU hWm => zzPc_at C.2.2.2 hU hWm hW⟩ rfl rfl hl.1 rfl (lv_room hroom) dX10_turningsTillUnfit_5 hcs
  · have h8 : k9 = 2 := h8
    subst h8
    have ct := k_X6_bears (l := l) (Z := Z) (base := base) (PL := PL) (mm := mm) (2, f9) q hq σ r1 σ2 hr
    exact va_runU (As := []) (C := RX0) C.1 ct (va_cwU 0 C.1.2.2.2.2 gX10_turningsTillUnfit_X6_bears_u103X0 rfl rfl rfl (by decide +kernel) (by decide +kernel) ⟨Nat.le_of_ble_eq_true rfl, Nat.le_of_ble_eq_true rfl⟩) ⟨zzPc_blind, zz_recv C.2.2.2 (zzX_pers1 hq H hW) rfl, fun U hU hWm => zzPc_at C.2.2.2 hU hWm hW⟩ rfl rfl hl.1 rfl (lv_room hroom) dX10_turningsTillUnfit_5 hcs
  · have h8 : k9 = 3 := h8
    subst h8
    have ct := k_X1_bears (l := l) (Z := Z) (base := base) (PL := PL) (mm := mm) (3, f9) q hq rfl σ r1 σ2 hr
    exact va_runU (As := []) (C := RX1) C.1 ct (va_cwO 0 C.1.2.2.2.2 gX10_turningsTillUnfit_X1_bears_u103X1 rfl rfl rfl (List.mem_of_getElem? (i := 18) rfl) (by decide +kernel) ⟨Nat.le_of_ble_eq_true rfl, Nat.le_of_ble_eq_true rfl⟩) ⟨zzPc_blind, zz_recv C.2.2.2 (zzX_pers1 hq H hW) rfl, fun U hU hWm => zzPc_at C.2.2.2 hU hWm hW⟩ rfl rfl hl.1 rfl (lv_room hroom) dX10_turningsTillUnfit_5 hcs
  · have h8 : k9 = 4 := h8
    subst h8
    have ct := k_X4_bears (l := l) (Z := Z) (base := base) (PL := PL) (mm := mm) (4, f9) q hq rfl σ r1 σ2 hr
    exact va_runU (As := []) (C := RX4) C.1 ct (va_cwO 0 C.1.2.2.2.2 gX10_turningsTillUnfit_X4_bears_u103X4 rfl rfl rfl (List.mem_of_getElem? (i := 18) rfl) (by decide +kernel) ⟨Nat.le_of_ble_eq_true rfl, Nat.le_of_ble_eq_true rfl⟩) ⟨zzPc_blind, zz_recv C.2.2.2 (zzX_pers1 hq H hW) rfl, fun U hU hWm => zzPc_at C.2.2.2 hU hWm hW⟩ rfl rfl hl.1 rfl (lv_room hroom) dX10_turningsTillUnfit_5 hcs
  · have h8 : k9 = 5 := h8
    subst h8
    have ct := k_X5_bears (l := l) (Z := Z) (base := base) (PL := PL) (mm := mm) (5, f9) q hq rfl σ r1 σ2 hr
    exact va_runU (As := []) (C := RX5) C.1 ct (va_cwO 0 C.1.2.2.2.2 gX10_turningsTillUnfit_X5_bears_u103X5 rfl rfl rfl (List.mem_of_getElem? (i := 18) rfl) (by decide +kernel) ⟨Nat.le_of_ble_eq_true rfl, Nat.le_of_ble_eq_true rfl⟩) ⟨zzPc_blind, zz_recv C.2.2.2 (zzX_pers1 hq H hW) rfl, fun U hU hWm => zzPc_at C.2.2.2 hU hWm hW⟩ rfl rfl hl.1 rfl (lv_room hroom) dX10_turningsTillUnfit_5 hcs
  · have h8 : k9 = 6 := h8
    subst h8
    have ct := k_X6_bears (l := l) (Z := Z) (base := base) (PL := PL) (mm := mm) (6, f9) q hq σ r1 σ2 hr
    exact va_runU (As := []) (C := RX3) C.1 ct (va_cwU 0 C.1.2.2.2.2 gX10_turningsTillUnfit_X6_bears_u103X3 rfl rfl rfl (by decide +kernel) (by decide +kernel) ⟨Nat.le_of_ble_eq_true rfl, Nat.le_of_ble_eq_true rfl⟩) ⟨zzPc_blind, zz_recv C.2.2.2 (zzX_pers1 hq H hW) rfl, fun U hU hWm => zzPc_at C.2.2.2 hU hWm hW⟩ rfl rfl hl.1 rfl (lv_room hroom) dX10_turningsTillUnfit_5 hcs
  · have h8 : k9 = 7 := h8
    subst h8
    have ct := k_X8_bears (l := l) (Z := Z) (base := base) (PL := PL) (mm := mm) (7, f9) q hq rfl σ r1 σ2 hr
    exact va_runU (As := []) (C := RX8) C.1 ct (va_cwO 0 C.1.2.2.2.2 gX10_turningsTillUnfit_X8_bears_u103X8 rfl rfl rfl (List.mem_of_getElem? (i := 18) rfl) (by decide +kernel) ⟨Nat.le_of_ble_eq_true rfl, Nat.le_of_ble_eq_true rfl⟩) ⟨zzPc_blind, zz_recv C.2.2.2 (zzX_pers1 hq H hW) rfl, fun U hU hWm => zzPc_at C.2.2.2 hU hWm hW⟩ rfl rfl hl.1 rfl (lv_room hroom) dX10_turningsTillUnfit_5 hcs

set_option maxHeartbeats 4000000 in
set_option maxRecDepth 100000 in
theorem w_X10_turningsTillUnfit_35b {l : Launch} {Z : zzG} {base : Nat} {PL : Nat → Option (Nat × Int32)} {mm : zzS} {p : Program} {e : Env} {s : State} {m : MethodId} {args : Array Value} {below : List Frame} {meth : Method} {c : Code} (C : zzCx p m meth c s args cX10_turningsTillUnfit 7 wsX10_turningsTillUnfit RX10 (some .int) Z) (t0 : Nat) (ht0 : zztown t0) (p0 : Int32)  (p1 : Int32)   (k35 : Int32 → Int32 → Int32 → Int32 → zzS → Option (Int32 × zzS)) (hk35 : ∀ (l3 : Int32)  (l4 : Int32)  (l5 : Int32)  (l6 : Int32)  (σ : zzS), zzGO p l e rX10_turningsTillUnfit s m args below meth c 7 (zzA base) (zzX Z base PL mm) (zzX Z base PL mm) zzRI rX10_turningsTillUnfit.cells rX10_turningsTillUnfit.slots (k35 l3 l4 l5 l6 σ) σ 0 0 35 [(3, .int l3), (4, .int l4), (5, .int l5), (6, .int l6)] []) (l3 : Int32)  (l4 : Int32)  (l5 : Int32)  (l6 : Int32)  (σ : zzS) : zzGO p l e rX10_turningsTillUnfit s m args below meth c 7 (zzA base) (zzX Z base PL mm) (zzX Z base PL mm) zzRI rX10_turningsTillUnfit.cells rX10_turningsTillUnfit.slots (f_X10_turningsTillUnfit_35b k35 t0 p0 p1 l3 l4 l5 l6 σ) σ 0 0 35 [(3, .int l3), (4, .int l4), (5, .int l5), (6, .int l6)] [] := by
  unfold f_X10_turningsTillUnfit_35b
  refine zz_iload C dX10_turningsTillUnfit_35 3 rfl ?_
  refine zz_bipush (v := 99) C dX10_turningsTillUnfit_37 (by decide) ?_
  refine zz_icmp_ge (tgt := 69) C dX10_turningsTillUnfit_39 (by decide) (fun h1 => ?_) (fun h1 => ?_)
  · refine zz_bipush (v := 99) C dX10_turningsTillUnfit_69 (by decide) ?_
    exact zz_iret C rfl rfl (fun _ h9 => h9) (Nat.zero_le _) (Nat.zero_le _) dX10_turningsTillUnfit_71
  · refine zz_iload C dX10_turningsTillUnfit_42 2 rfl ?_
    refine zz_iload_n C dX10_turningsTillUnfit_44 rfl 0 rfl ?_
    refine zz_icmp_le (tgt := 51) C dX10_turningsTillUnfit_45 (by decide) (fun h2 => ?_) (fun h2 => ?_)
    · refine zz_bipush (v := 9) C dX10_turningsTillUnfit_51 (by decide) ?_
      refine zz_iload C dX10_turningsTillUnfit_53 2 rfl ?_
      refine zz_iload C dX10_turningsTillUnfit_55 1 rfl ?_
      refine zz_iadd C dX10_turningsTillUnfit_57 ?_
      refine zz_mmin C (C.1.2.2.2.2 _ (List.mem_of_getElem? (i := 2) rfl)) (C.1.2.2.2.2 _ (List.mem_of_getElem? (i := 3) rfl)) (C.1.2.2.2.2 _ (List.mem_of_getElem? (i := 4) rfl)) (C.1.2.2.2.2 _ (List.mem_of_getElem? (i := 5) rfl)) (Nat.le_of_ble_eq_true rfl) (Nat.le_of_ble_eq_true rfl) (Nat.zero_le _) (Nat.zero_le _) dX10_turningsTillUnfit_58 ?_
      refine zz_istoreX (locf := fun x3 => [(5, .int x3), (3, .int l3), (4, .int l4), (6, .int l6)]) C dX10_turningsTillUnfit_61 (by decide) (fun _ => rfl) (fun x3 => ?_)
      refine zz_iincX (d := 1) (locf := fun x4 => [(6, .int x4), (5, .int x3), (3, .int l3), (4, .int l4)]) C dX10_turningsTillUnfit_63 (k := 3) rfl (by decide) (by decide) (fun _ => rfl) (fun x4 => ?_)
      refine zz_goto (tgt := 35) C dX10_turningsTillUnfit_66 (by decide) ?_
      refine zz_sub (loc' := [(3, .int l3), (4, .int l4), (5, .int x3), (6, .int x4)]) [2, 3, 1, 0] rfl ?_
      exact hk35 l3 l4 x3 x4 σ
    · refine zz_iload C dX10_turningsTillUnfit_48 3 rfl ?_
      exact zz_iret C rfl rfl (fun _ h9 => h9) (Nat.zero_le _) (Nat.zero_le _) dX10_turningsTillUnfit_50
set_option maxHeartbeats 4000000 in
set_option maxRecDepth 100000 in
theorem w_X10_turningsTillUnfit_35 {l : Launch} {Z : zzG} {base : Nat} {PL : Nat → Option (Nat × Int32)} {mm : zzS} {p : Program} {e : Env} {s : State} {m : MethodId} {args : Array Value} {below : List Frame} {meth : Method} {c : Code} (C : zzCx p m meth c s args cX10_turningsTillUnfit 7 wsX10_turningsTillUnfit RX10 (some .int) Z) (t0 : Nat) (ht0 : zztown t0) (p0 : Int32)  (p1 : Int32)   (n : Nat) : ∀ (l3 : Int32)  (l4 : Int32)  (l5 : Int32)  (l6 : Int32)  (σ : zzS), zzGO p l e rX10_turningsTillUnfit s m args below meth c 7 (zzA base) (zzX Z base PL mm) (zzX Z base PL mm) zzRI rX10_turningsTillUnfit.cells rX10_turningsTillUnfit.slots (f_X10_turningsTillUnfit_35 t0 p0 p1 n l3 l4 l5 l6 σ) σ 0 0 35 [(3, .int l3), (4, .int l4), (5, .int l5), (6, .int l6)] [] := by
  induction n with
  | zero => exact fun _ _ _ _ _ r9 s9 h9 => by cases h9
  | succ n ih => exact w_X10_turningsTillUnfit_35b C t0 ht0 p0 p1 _ ih
set_option maxHeartbeats 4000000 in
set_option maxRecDepth 100000 in
theorem w_X10_turningsTillUnfit_e {l : Launch} {Z : zzG} {base : Nat} {PL : Nat → Option (Nat × Int32)} {mm : zzS} {p : Program} {e : Env} {s : State} {m : MethodId} {args : Array Value} {below : List Frame} {meth : Method} {c : Code} (C : zzCx p m meth c s args cX10_turningsTillUnfit 7 wsX10_turningsTillUnfit RX10 (some .int) Z) (t0 : Nat) (ht0 : zztown t0) (p0 : Int32)  (p1 : Int32)  (σ : zzS) : zzGO p l e rX10_turningsTillUnfit s m args below meth c 7 (zzA base) (zzX Z base PL mm) (zzX Z base PL mm) zzRI rX10_turningsTillUnfit.cells rX10_turningsTillUnfit.slots (f_X10_turningsTillUnfit t0 p0 p1 σ) σ 0 0 0 [(0, .ref (zzad Z t0)), (1, .int p0), (2, .int p1)] [] := by
  unfold f_X10_turningsTillUnfit
  refine zz_aload_n C dX10_turningsTillUnfit_0 rfl 0 rfl ?_
  refine zz_iload_n C dX10_turningsTillUnfit_1 rfl 1 rfl ?_
  refine zz_callV C (Cn := RX10) (b := zzad Z t0) (fun H hH => zz_recv C.2.2.2 ((zzX_town ht0) H hH) rfl) (As := [.int p0]) (rest := []) rfl (k_X10_at t0 ht0 p0 σ) (cwV 1 C.1.2.2.2.2 gX10_turningsTillUnfit_X10_at rfl rfl rfl (by decide +kernel) ⟨Nat.le_of_ble_eq_true rfl, Nat.le_of_ble_eq_true rfl⟩) rfl (Nat.le_of_ble_eq_true rfl) ⟨Nat.zero_le _, Nat.zero_le _⟩ dX10_turningsTillUnfit_2 (zz_kP rfl rfl (fun r1 σ2 c3 hp4 => ?_))
  refine zz_nnP hp4 (fun kf5 q6 h7 h8 hq9 => ?_)
  subst h8
  refine zz_call (av := #[.ref q6]) (rest := []) (mcc := 0) (msc := 0) (relc := zzRI) (vr_X10_turningsTillUnfit_5 C hq9 (Nat.le_of_ble_eq_true rfl)) (zz_kI rfl rfl (fun r10 σ11 => ?_))
  refine zz_aload_n C dX10_turningsTillUnfit_8 rfl 0 rfl ?_
  refine zz_get C (zzX_town ht0) (fun _ h9 => List.mem_cons_of_mem _ (List.mem_append_left _ (List.mem_append_left _ (List.mem_append_left _ (List.mem_append_left _ (List.mem_append_left _ (List.mem_append_left _ (List.mem_append_left _ (List.mem_append_left _ (List.mem_append_right _ (h9))))))))))) rfl 5 (by decide) (List.mem_of_getElem? (i := 1) rfl) (Or.inl rfl) rfl dX10_turningsTillUnfit_9 ?_
  refine zz_iadd C dX10_turningsTillUnfit_12 ?_
  refine zz_istoreX_n (locf := fun x12 => [(3, .int x12), (0, .ref (zzad Z t0)), (1, .int p0), (2, .int p1)]) C dX10_turningsTillUnfit_13 rfl (by decide) (fun _ => rfl) (fun x12 => ?_)
  refine zz_aload_n C dX10_turningsTillUnfit_14 rfl 1 rfl ?_
  refine zz_iload_n C dX10_turningsTillUnfit_15 rfl 2 rfl ?_
  refine zz_callV C (Cn := RX10) (b := zzad Z t0) (fun H hH => zz_recv C.2.2.2 ((zzX_town ht0) H hH) rfl) (As := [.int p0]) (rest := []) rfl (k_X10_at t0 ht0 p0 σ11) (cwV 1 C.1.2.2.2.2 gX10_turningsTillUnfit_X10_at rfl rfl rfl (by decide +kernel) ⟨Nat.le_of_ble_eq_true rfl, Nat.le_of_ble_eq_true rfl⟩) rfl (Nat.le_of_ble_eq_true rfl) ⟨Nat.zero_le _, Nat.zero_le _⟩ dX10_turningsTillUnfit_16 (zz_kP rfl rfl (fun r13 σ14 c15 hp16 => ?_))
  refine zz_nnP hp16 (fun kf17 q18 h19 h20 hq21 => ?_)
  subst h20
  refine zz_call (av := #[.ref q18]) (rest := []) (mcc := 0) (msc := 0) (relc := zzRI) (vr_X10_turningsTillUnfit_19 C hq21 (Nat.le_of_ble_eq_true rfl)) (zz_kI rfl rfl (fun r22 σ23 => ?_))
  refine zz_istore (loc' := [(4, .int r22), (3, .int x12), (0, .ref (zzad Z t0)), (1, .int p0), (2, .int p1)]) C dX10_turningsTillUnfit_22 (by decide) rfl ?_
  refine zz_aload_n C dX10_turningsTillUnfit_24 rfl 2 rfl ?_
  refine zz_iload_n C dX10_turningsTillUnfit_25 rfl 3 rfl ?_
  refine zz_iload_n C dX10_turningsTillUnfit_26 rfl 4 rfl ?_
  refine zz_callV C (Cn := RX10) (b := zzad Z t0) (fun H hH => zz_recv C.2.2.2 ((zzX_town ht0) H hH) rfl) (As := [.int p0, .int p1]) (rest := []) rfl (k_X10_fondOf t0 ht0 p0 p1 σ23) (cwV 2 C.1.2.2.2.2 gX10_turningsTillUnfit_X10_fondOf rfl rfl rfl (by decide +kernel) ⟨Nat.le_of_ble_eq_true rfl, Nat.le_of_ble_eq_true rfl⟩) rfl (Nat.le_of_ble_eq_true rfl) ⟨Nat.zero_le _, Nat.zero_le _⟩ dX10_turningsTillUnfit_27 (zz_kI rfl rfl (fun r24 σ25 => ?_))
  refine zz_istore (loc' := [(5, .int r24), (4, .int r22), (3, .int x12), (0, .ref (zzad Z t0)), (1, .int p0), (2, .int p1)]) C dX10_turningsTillUnfit_30 (by decide) rfl ?_
  refine zz_iconst (v := 0) C dX10_turningsTillUnfit_32 (by decide) ?_
  refine zz_istore (loc' := [(6, .int (0 : Int32)), (5, .int r24), (4, .int r22), (3, .int x12), (0, .ref (zzad Z t0)), (1, .int p0), (2, .int p1)]) C dX10_turningsTillUnfit_33 (by decide) rfl ?_
  refine zz_sub (loc' := [(3, .int x12), (4, .int r22), (5, .int r24), (6, .int (0 : Int32))]) [3, 2, 1, 0] rfl ?_
  exact w_X10_turningsTillUnfit_35 C t0 ht0 p0 p1 200 x12 r22 r24 (0 : Int32) σ25
set_option maxHeartbeats 4000000 in
set_option maxRecDepth 100000 in
theorem k_X10_turningsTillUnfit {l : Launch} {Z : zzG} {base : Nat} {PL : Nat → Option (Nat × Int32)} {mm : zzS} (t0 : Nat) (ht0 : zztown t0) (p0 : Int32)  (p1 : Int32)  (σ : zzS) : zzCT l yX10_turningsTillUnfit wsX10_turningsTillUnfit rX10_turningsTillUnfit (zzA base) Z (zzX Z base PL mm) (zzX Z base PL mm) zzRI [.ref (zzad Z t0), .int p0, .int p1] (f_X10_turningsTillUnfit t0 p0 p1 σ) σ :=
  zzCT_of (cc := cX10_turningsTillUnfit) (nL := 7) (ret := (some .int)) (by decide) rfl (Nat.le_of_ble_eq_true rfl) [(0, .ref (zzad Z t0)), (1, .int p0), (2, .int p1)] rfl (fun p e s m args below meth c C => w_X10_turningsTillUnfit_e C t0 ht0 p0 p1 σ)
abbrev rX10_allTurned : Room := { frames := 2, cells := 0, slots := 0, locals := 42 }

set_option maxHeartbeats 4000000 in
set_option maxRecDepth 100000 in
theorem w_X10_allTurned_4b {l : Launch} {Z : zzG} {base : Nat} {PL : Nat → Option (Nat × Int32)} {mm : zzS} {p : Program} {e : Env} {s : State} {m : MethodId} {args : Array Value} {below : List Frame} {meth : Method} {c : Code} (C : zzCx p m meth c s args cX10_allTurned 3 wsX10_allTurned RX10 (some .int) Z) (t0 : Nat) (ht0 : zztown t0)  (k4 : Int32 → Int32 → zzS → Option (Int32 × zzS)) (hk4 : ∀ (l1 : Int32)  (l2 : Int32)  (σ : zzS), zzGO p l e rX10_allTurned s m args below meth c 3 (zzA base) (zzX Z base PL mm) (zzX Z base PL mm) zzRI rX10_allTurned.cells rX10_allTurned.slots (k4 l1 l2 σ) σ 0 0 4 [(0, .ref (zzad Z t0)), (1, .int l1), (2, .int l2)] []) (l1 : Int32)  (l2 : Int32)  (σ : zzS) : zzGO p l e rX10_allTurned s m args below meth c 3 (zzA base) (zzX Z base PL mm) (zzX Z base PL mm) zzRI rX10_allTurned.cells rX10_allTurned.slots (f_X10_allTurned_4b k4 t0 l1 l2 σ) σ 0 0 4 [(0, .ref (zzad Z t0)), (1, .int l1), (2, .int l2)] [] := by
  unfold f_X10_allTurned_4b
  refine zz_iload_n C dX10_allTurned_4 rfl 2 rfl ?_
  refine zz_aload_n C dX10_allTurned_5 rfl 0 rfl ?_
  refine zz_get C (zzX_town ht0) (fun _ h9 => List.mem_cons_of_mem _ (List.mem_append_right _ (h9))) rfl 4 (by decide) (List.mem_of_getElem? (i := 1) rfl) (Or.inl rfl) rfl dX10_allTurned_6 ?_
  refine zz_icmp_ge (tgt := 26) C dX10_allTurned_9 (by decide) (fun h1 => ?_) (fun h1 => ?_)
  · refine zz_iload_n C dX10_allTurned_26 rfl 1 rfl ?_
    exact zz_iret C rfl rfl (fun _ h9 => h9) (Nat.zero_le _) (Nat.zero_le _) dX10_allTurned_27
  · refine zz_iload_n C dX10_allTurned_12 rfl 1 rfl ?_
    refine zz_aload_n C dX10_allTurned_13 rfl 0 rfl ?_
    refine zz_iload_n C dX10_allTurned_14 rfl 2 rfl ?_
    refine zz_callV C (Cn := RX10) (b := zzad Z t0) (fun H hH => zz_recv C.2.2.2 ((zzX_town ht0) H hH) rfl) (As := [.int l2]) (rest := [.int l1]) rfl (k_X10_turnedOf t0 ht0 l2 σ) (cwV 1 C.1.2.2.2.2 gX10_allTurned_X10_turnedOf rfl rfl rfl (by decide +kernel) ⟨Nat.le_of_ble_eq_true rfl, Nat.le_of_ble_eq_true rfl⟩) rfl (Nat.le_of_ble_eq_true rfl) ⟨Nat.zero_le _, Nat.zero_le _⟩ dX10_allTurned_15 (zz_kI rfl rfl (fun r2 σ3 => ?_))
    refine zz_iadd C dX10_allTurned_18 ?_
    refine zz_istoreX_n (locf := fun x4 => [(1, .int x4), (0, .ref (zzad Z t0)), (2, .int l2)]) C dX10_allTurned_19 rfl (by decide) (fun _ => rfl) (fun x4 => ?_)
    refine zz_iincX (d := 1) (locf := fun x5 => [(2, .int x5), (1, .int x4), (0, .ref (zzad Z t0))]) C dX10_allTurned_20 (k := 2) rfl (by decide) (by decide) (fun _ => rfl) (fun x5 => ?_)
    refine zz_goto (tgt := 4) C dX10_allTurned_23 (by decide) ?_
    refine zz_sub (loc' := [(0, .ref (zzad Z t0)), (1, .int x4), (2, .int x5)]) [2, 1, 0] rfl ?_
    exact hk4 x4 x5 σ3
set_option maxHeartbeats 4000000 in
set_option maxRecDepth 100000 in
theorem w_X10_allTurned_4 {l : Launch} {Z : zzG} {base : Nat} {PL : Nat → Option (Nat × Int32)} {mm : zzS} {p : Program} {e : Env} {s : State} {m : MethodId} {args : Array Value} {below : List Frame} {meth : Method} {c : Code} (C : zzCx p m meth c s args cX10_allTurned 3 wsX10_allTurned RX10 (some .int) Z) (t0 : Nat) (ht0 : zztown t0)  (n : Nat) : ∀ (l1 : Int32)  (l2 : Int32)  (σ : zzS), zzGO p l e rX10_allTurned s m args below meth c 3 (zzA base) (zzX Z base PL mm) (zzX Z base PL mm) zzRI rX10_allTurned.cells rX10_allTurned.slots (f_X10_allTurned_4 t0 n l1 l2 σ) σ 0 0 4 [(0, .ref (zzad Z t0)), (1, .int l1), (2, .int l2)] [] := by
  induction n with
  | zero => exact fun _ _ _ r9 s9 h9 => by cases h9
  | succ n ih => exact w_X10_allTurned_4b C t0 ht0 _ ih
set_option maxHeartbeats 4000000 in
set_option maxRecDepth 100000 in
theorem w_X10_allTurned_e {l : Launch} {Z : zzG} {base : Nat} {PL : Nat → Option (Nat × Int32)} {mm : zzS} {p : Program} {e : Env} {s : State} {m : MethodId} {args : Array Value} {below : List Frame} {meth : Method} {c : Code} (C : zzCx p m meth c s args cX10_allTurned 3 wsX10_allTurned RX10 (some .int) Z) (t0 : Nat) (ht0 : zztown t0) (σ : zzS) : zzGO p l e rX10_allTurned s m args below meth c 3 (zzA base) (zzX Z base PL mm) (zzX Z base PL mm) zzRI rX10_allTurned.cells rX10_allTurned.slots (f_X10_allTurned t0 σ) σ 0 0 0 [(0, .ref (zzad Z t0))] [] := by
  unfold f_X10_allTurned
  refine zz_iconst (v := 0) C dX10_allTurned_0 (by decide) ?_
  refine zz_istore_n (loc' := [(1, .int (0 : Int32)), (0, .ref (zzad Z t0))]) C dX10_allTurned_1 rfl (by decide) rfl ?_
  refine zz_iconst (v := 0) C dX10_allTurned_2 (by decide) ?_
  refine zz_istore_n (loc' := [(2, .int (0 : Int32)), (1, .int (0 : Int32)), (0, .ref (zzad Z t0))]) C dX10_allTurned_3 rfl (by decide) rfl ?_
  refine zz_sub (loc' := [(0, .ref (zzad Z t0)), (1, .int (0 : Int32)), (2, .int (0 : Int32))]) [2, 1, 0] rfl ?_
  exact w_X10_allTurned_4 C t0 ht0 200 (0 : Int32) (0 : Int32) σ
set_option maxHeartbeats 4000000 in
set_option maxRecDepth 100000 in
theorem k_X10_allTurned {l : Launch} {Z : zzG} {base : Nat} {PL : Nat → Option (Nat × Int32)} {mm : zzS} (t0 : Nat) (ht0 : zztown t0) (σ : zzS) : zzCT l yX10_allTurned wsX10_allTurned rX10_allTurned (zzA base) Z (zzX Z base PL mm) (zzX Z base PL mm) zzRI [.ref (zzad Z t0)] (f_X10_allTurned t0 σ) σ :=
  zzCT_of (cc := cX10_allTurned) (nL := 3) (ret := (some .int)) (by decide) rfl (Nat.le_of_ble_eq_true rfl) [(0, .ref (zzad Z t0))] rfl (fun p e s m args below meth c C => w_X10_allTurned_e C t0 ht0 σ)
abbrev rX10_allFond : Room := { frames := 3, cells := 0, slots := 0, locals := 65 }

set_option maxHeartbeats 4000000 in
set_option maxRecDepth 100000 in
theorem w_X10_allFond_14b {l : Launch} {Z : zzG} {base : Nat} {PL : Nat → Option (Nat × Int32)} {mm : zzS} {p : Program} {e : Env} {s : State} {m : MethodId} {args : Array Value} {below : List Frame} {meth : Method} {c : Code} (C : zzCx p m meth c s args cX10_allFond 4 wsX10_allFond RX10 (some .int) Z) (t0 : Nat) (ht0 : zztown t0) (k4 : Int32 → Int32 → zzS → Option (Int32 × zzS)) (hk4 : ∀ (l1 : Int32)  (l2 : Int32)  (σ : zzS), zzGO p l e rX10_allFond s m args below meth c 4 (zzA base) (zzX Z base PL mm) (zzX Z base PL mm) zzRI rX10_allFond.cells rX10_allFond.slots (k4 l1 l2 σ) σ 0 0 4 [(0, .ref (zzad Z t0)), (1, .int l1), (2, .int l2)] []) (k14 : Int32 → Int32 → Int32 → zzS → Option (Int32 × zzS)) (hk14 : ∀ (l1 : Int32)  (l2 : Int32)  (l3 : Int32)  (σ : zzS), zzGO p l e rX10_allFond s m args below meth c 4 (zzA base) (zzX Z base PL mm) (zzX Z base PL mm) zzRI rX10_allFond.cells rX10_allFond.slots (k14 l1 l2 l3 σ) σ 0 0 14 [(0, .ref (zzad Z t0)), (1, .int l1), (2, .int l2), (3, .int l3)] []) (l1 : Int32)  (l2 : Int32)  (l3 : Int32)  (σ : zzS) : zzGO p l e rX10_allFond s m args below meth c 4 (zzA base) (zzX Z base PL mm) (zzX Z base PL mm) zzRI rX10_allFond.cells rX10_allFond.slots (f_X10_allFond_14b k4 k14 t0 l1 l2 l3 σ) σ 0 0 14 [(0, .ref (zzad Z t0)), (1, .int l1), (2, .int l2), (3, .int l3)] [] := by
  unfold f_X10_allFond_14b
  refine zz_iload_n C dX10_allFond_14 rfl 3 rfl ?_
  refine zz_aload_n C dX10_allFond_15 rfl 0 rfl ?_
  refine zz_get C (zzX_town ht0) (fun _ h9 => List.mem_cons_of_mem _ (List.mem_append_right _ (h9))) rfl 4 (by decide) (List.mem_of_getElem? (i := 1) rfl) (Or.inl rfl) rfl dX10_allFond_16 ?_
  refine zz_icmp_ge (tgt := 37) C dX10_allFond_19 (by decide) (fun h1 => ?_) (fun h1 => ?_)
  · refine zz_iincX (d := 1) (locf := fun x2 => [(2, .int x2), (0, .ref (zzad Z t0)), (1, .int l1), (3, .int l3)]) C dX10_allFond_37 (k := 2) rfl (by decide) (by decide) (fun _ => rfl) (fun x2 => ?_)
    refine zz_goto (tgt := 4) C dX10_allFond_40 (by decide) ?_
    refine zz_sub (loc' := [(0, .ref (zzad Z t0)), (1, .int l1), (2, .int x2)]) [1, 2, 0] rfl ?_
    exact hk4 l1 x2 σ
  · refine zz_iload_n C dX10_allFond_22 rfl 1 rfl ?_
    refine zz_aload_n C dX10_allFond_23 rfl 0 rfl ?_
    refine zz_iload_n C dX10_allFond_24 rfl 2 rfl ?_
    refine zz_iload_n C dX10_allFond_25 rfl 3 rfl ?_
    refine zz_callV C (Cn := RX10) (b := zzad Z t0) (fun H hH => zz_recv C.2.2.2 ((zzX_town ht0) H hH) rfl) (As := [.int l2, .int l3]) (rest := [.int l1]) rfl (k_X10_fondOf t0 ht0 l2 l3 σ) (cwV 2 C.1.2.2.2.2 gX10_allFond_X10_fondOf rfl rfl rfl (by decide +kernel) ⟨Nat.le_of_ble_eq_true rfl, Nat.le_of_ble_eq_true rfl⟩) rfl (Nat.le_of_ble_eq_true rfl) ⟨Nat.zero_le _, Nat.zero_le _⟩ dX10_allFond_26 (zz_kI rfl rfl (fun r3 σ4 => ?_))
    refine zz_iadd C dX10_allFond_29 ?_
    refine zz_istoreX_n (locf := fun x5 => [(1, .int x5), (0, .ref (zzad Z t0)), (2, .int l2), (3, .int l3)]) C dX10_allFond_30 rfl (by decide) (fun _ => rfl) (fun x5 => ?_)
    refine zz_iincX (d := 1) (locf := fun x6 => [(3, .int x6), (1, .int x5), (0, .ref (zzad Z t0)), (2, .int l2)]) C dX10_allFond_31 (k := 3) rfl (by decide) (by decide) (fun _ => rfl) (fun x6 => ?_)
    refine zz_goto (tgt := 14) C dX10_allFond_34 (by decide) ?_
    refine zz_sub (loc' := [(0, .ref (zzad Z t0)), (1, .int x5), (2, .int l2), (3, .int x6)]) [2, 1, 3, 0] rfl ?_
    exact hk14 x5 l2 x6 σ4
set_option maxHeartbeats 4000000 in
set_option maxRecDepth 100000 in
theorem w_X10_allFond_14 {l : Launch} {Z : zzG} {base : Nat} {PL : Nat → Option (Nat × Int32)} {mm : zzS} {p : Program} {e : Env} {s : State} {m : MethodId} {args : Array Value} {below : List Frame} {meth : Method} {c : Code} (C : zzCx p m meth c s args cX10_allFond 4 wsX10_allFond RX10 (some .int) Z) (t0 : Nat) (ht0 : zztown t0) (k4 : Int32 → Int32 → zzS → Option (Int32 × zzS)) (hk4 : ∀ (l1 : Int32)  (l2 : Int32)  (σ : zzS), zzGO p l e rX10_allFond s m args below meth c 4 (zzA base) (zzX Z base PL mm) (zzX Z base PL mm) zzRI rX10_allFond.cells rX10_allFond.slots (k4 l1 l2 σ) σ 0 0 4 [(0, .ref (zzad Z t0)), (1, .int l1), (2, .int l2)] []) (n : Nat) : ∀ (l1 : Int32)  (l2 : Int32)  (l3 : Int32)  (σ : zzS), zzGO p l e rX10_allFond s m args below meth c 4 (zzA base) (zzX Z base PL mm) (zzX Z base PL mm) zzRI rX10_allFond.cells rX10_allFond.slots (f_X10_allFond_14 k4 t0 n l1 l2 l3 σ) σ 0 0 14 [(0, .ref (zzad Z t0)), (1, .int l1), (2, .int l2), (3, .int l3)] [] := by
  induction n with
  | zero => exact fun _ _ _ _ r9 s9 h9 => by cases h9
  | succ n ih => exact w_X10_allFond_14b C t0 ht0 k4 hk4 _ ih
set_option maxHeartbeats 4000000 in
set_option maxRecDepth 100000 in
theorem w_X10_allFond_4b {l : Launch} {Z : zzG} {base : Nat} {PL : Nat → Option (Nat × Int32)} {mm : zzS} {p : Program} {e : Env} {s : State} {m : MethodId} {args : Array Value} {below : List Frame} {meth : Method} {c : Code} (C : zzCx p m meth c s args cX10_allFond 4 wsX10_allFond RX10 (some .int) Z) (t0 : Nat) (ht0 : zztown t0)  (k4 : Int32 → Int32 → zzS → Option (Int32 × zzS)) (hk4 : ∀ (l1 : Int32)  (l2 : Int32)  (σ : zzS), zzGO p l e rX10_allFond s m args below meth c 4 (zzA base) (zzX Z base PL mm) (zzX Z base PL mm) zzRI rX10_allFond.cells rX10_allFond.slots (k4 l1 l2 σ) σ 0 0 4 [(0, .ref (zzad Z t0)), (1, .int l1), (2, .int l2)] []) (l1 : Int32)  (l2 : Int32)  (σ : zzS) : zzGO p l e rX10_allFond s m args below meth c 4 (zzA base) (zzX Z base PL mm) (zzX Z base PL mm) zzRI rX10_allFond.cells rX10_allFond.slots (f_X10_allFond_4b k4 t0 l1 l2 σ) σ 0 0 4 [(0, .ref (zzad Z t0)), (1, .int l1), (2, .int l2)] [] := by
  unfold f_X10_allFond_4b
  refine zz_iload_n C dX10_allFond_4 rfl 2 rfl ?_
  refine zz_aload_n C dX10_allFond_5 rfl 0 rfl ?_
  refine zz_get C (zzX_town ht0) (fun _ h9 => List.mem_cons_of_mem _ (List.mem_append_right _ (h9))) rfl 4 (by decide) (List.mem_of_getElem? (i := 1) rfl) (Or.inl rfl) rfl dX10_allFond_6 ?_
  refine zz_icmp_ge (tgt := 43) C dX10_allFond_9 (by decide) (fun h1 => ?_) (fun h1 => ?_)
  · refine zz_iload_n C dX10_allFond_43 rfl 1 rfl ?_
    exact zz_iret C rfl rfl (fun _ h9 => h9) (Nat.zero_le _) (Nat.zero_le _) dX10_allFond_44
  · refine zz_iconst (v := 0) C dX10_allFond_12 (by decide) ?_
    refine zz_istore_n (loc' := [(3, .int (0 : Int32)), (0, .ref (zzad Z t0)), (1, .int l1), (2, .int l2)]) C dX10_allFond_13 rfl (by decide) rfl ?_
    refine zz_sub (loc' := [(0, .ref (zzad Z t0)), (1, .int l1), (2, .int l2), (3, .int (0 : Int32))]) [1, 2, 3, 0] rfl ?_
    exact w_X10_allFond_14 C t0 ht0 k4 hk4 200 l1 l2 (0 : Int32) σ
set_option maxHeartbeats 4000000 in
set_option maxRecDepth 100000 in
theorem w_X10_allFond_4 {l : Launch} {Z : zzG} {base : Nat} {PL : Nat → Option (Nat × Int32)} {mm : zzS} {p : Program} {e : Env} {s : State} {m : MethodId} {args : Array Value} {below : List Frame} {meth : Method} {c : Code} (C : zzCx p m meth c s args cX10_allFond 4 wsX10_allFond RX10 (some .int) Z) (t0 : Nat) (ht0 : zztown t0)  (n : Nat) : ∀ (l1 : Int32)  (l2 : Int32)  (σ : zzS), zzGO p l e rX10_allFond s m args below meth c 4 (zzA base) (zzX Z base PL mm) (zzX Z base PL mm) zzRI rX10_allFond.cells rX10_allFond.slots (f_X10_allFond_4 t0 n l1 l2 σ) σ 0 0 4 [(0, .ref (zzad Z t0)), (1, .int l1), (2, .int l2)] [] := by
  induction n with
  | zero => exact fun _ _ _ r9 s9 h9 => by cases h9
  | succ n ih => exact w_X10_allFond_4b C t0 ht0 _ ih
set_option maxHeartbeats 4000000 in
set_option maxRecDepth 100000 in
theorem w_X10_allFond_e {l : Launch} {Z : zzG} {base : Nat} {PL : Nat → Option (Nat × Int32)} {mm : zzS} {p : Program} {e : Env} {s : State} {m : MethodId} {args : Array Value} {below : List Frame} {meth : Method} {c : Code} (C : zzCx p m meth c s args cX10_allFond 4 wsX10_allFond RX10 (some .int) Z) (t0 : Nat) (ht0 : zztown t0) (σ : zzS) : zzGO p l e rX10_allFond s m args below meth c 4 (zzA base) (zzX Z base PL mm) (zzX Z base PL mm) zzRI rX10_allFond.cells rX10_allFond.slots (f_X10_allFond t0 σ) σ 0 0 0 [(0, .ref (zzad Z t0))] [] := by
  unfold f_X10_allFond
  refine zz_iconst (v := 0) C dX10_allFond_0 (by decide) ?_
  refine zz_istore_n (loc' := [(1, .int (0 : Int32)), (0, .ref (zzad Z t0))]) C dX10_allFond_1 rfl (by decide) rfl ?_
  refine zz_iconst (v := 0) C dX10_allFond_2 (by decide) ?_
  refine zz_istore_n (loc' := [(2, .int (0 : Int32)), (1, .int (0 : Int32)), (0, .ref (zzad Z t0))]) C dX10_allFond_3 rfl (by decide) rfl ?_
  refine zz_sub (loc' := [(0, .ref (zzad Z t0)), (1, .int (0 : Int32)), (2, .int (0 : Int32))]) [2, 1, 0] rfl ?_
  exact w_X10_allFond_4 C t0 ht0 200 (0 : Int32) (0 : Int32) σ
set_option maxHeartbeats 4000000 in
set_option maxRecDepth 100000 in
theorem k_X10_allFond {l : Launch} {Z : zzG} {base : Nat} {PL : Nat → Option (Nat × Int32)} {mm : zzS} (t0 : Nat) (ht0 : zztown t0) (σ : zzS) : zzCT l yX10_allFond wsX10_allFond rX10_allFond (zzA base) Z (zzX Z base PL mm) (zzX Z base PL mm) zzRI [.ref (zzad Z t0)] (f_X10_allFond t0 σ) σ :=
  zzCT_of (cc := cX10_allFond) (nL := 4) (ret := (some .int)) (by decide) rfl (Nat.le_of_ble_eq_true rfl) [(0, .ref (zzad Z t0))] rfl (fun p e s m args below meth c C => w_X10_allFond_e C t0 ht0 σ)
abbrev rX10_toldWhole : Room := { frames := 2, cells := 0, slots := 0, locals := 42 }

set_option maxHeartbeats 4000000 in
set_option maxRecDepth 100000 in
theorem w_X10_toldWhole_28 {l : Launch} {Z : zzG} {base : Nat} {PL : Nat → Option (Nat × Int32)} {mm : zzS} {p : Program} {e : Env} {s : State} {m : MethodId} {args : Array Value} {below : List Frame} {meth : Method} {c : Code} (C : zzCx p m meth c s args cX10_toldWhole 3 wsX10_toldWhole RX10 (some .int) Z) (t0 : Nat) (ht0 : zztown t0) (k4 : Int32 → Int32 → zzS → Option (Int32 × zzS)) (hk4 : ∀ (l1 : Int32)  (l2 : Int32)  (σ : zzS), zzGO p l e rX10_toldWhole s m args below meth c 3 (zzA base) (zzX Z base PL mm) (zzX Z base PL mm) zzRI rX10_toldWhole.cells rX10_toldWhole.slots (k4 l1 l2 σ) σ 0 0 4 [(0, .ref (zzad Z t0)), (1, .int l1), (2, .int l2)] []) (l1 : Int32)  (l2 : Int32)  (σ : zzS) : zzGO p l e rX10_toldWhole s m args below meth c 3 (zzA base) (zzX Z base PL mm) (zzX Z base PL mm) zzRI rX10_toldWhole.cells rX10_toldWhole.slots (f_X10_toldWhole_28 k4 t0 l1 l2 σ) σ 0 0 28 [(0, .ref (zzad Z t0)), (1, .int l1), (2, .int l2)] [] := by
  unfold f_X10_toldWhole_28
  refine zz_iincX (d := 1) (locf := fun x1 => [(2, .int x1), (0, .ref (zzad Z t0)), (1, .int l1)]) C dX10_toldWhole_28 (k := 2) rfl (by decide) (by decide) (fun _ => rfl) (fun x1 => ?_)
  refine zz_goto (tgt := 4) C dX10_toldWhole_31 (by decide) ?_
  refine zz_sub (loc' := [(0, .ref (zzad Z t0)), (1, .int l1), (2, .int x1)]) [1, 2, 0] rfl ?_
  exact hk4 l1 x1 σ
set_option maxHeartbeats 4000000 in
set_option maxRecDepth 100000 in
theorem w_X10_toldWhole_4b {l : Launch} {Z : zzG} {base : Nat} {PL : Nat → Option (Nat × Int32)} {mm : zzS} {p : Program} {e : Env} {s : State} {m : MethodId} {args : Array Value} {below : List Frame} {meth : Method} {c : Code} (C : zzCx p m meth c s args cX10_toldWhole 3 wsX10_toldWhole RX10 (some .int) Z) (t0 : Nat) (ht0 : zztown t0)  (k4 : Int32 → Int32 → zzS → Option (Int32 × zzS)) (hk4 : ∀ (l1 : Int32)  (l2 : Int32)  (σ : zzS), zzGO p l e rX10_toldWhole s m args below meth c 3 (zzA base) (zzX Z base PL mm) (zzX Z base PL mm) zzRI rX10_toldWhole.cells rX10_toldWhole.slots (k4 l1 l2 σ) σ 0 0 4 [(0, .ref (zzad Z t0)), (1, .int l1), (2, .int l2)] []) (l1 : Int32)  (l2 : Int32)  (σ : zzS) : zzGO p l e rX10_toldWhole s m args below meth c 3 (zzA base) (zzX Z base PL mm) (zzX Z base PL mm) zzRI rX10_toldWhole.cells rX10_toldWhole.slots (f_X10_toldWhole_4b k4 t0 l1 l2 σ) σ 0 0 4 [(0, .ref (zzad Z t0)), (1, .int l1), (2, .int l2)] [] := by
  unfold f_X10_toldWhole_4b
  refine zz_iload_n C dX10_toldWhole_4 rfl 2 rfl ?_
  refine zz_aload_n C dX10_toldWhole_5 rfl 0 rfl ?_
  refine zz_get C (zzX_town ht0) (fun _ h9 => List.mem_cons_of_mem _ (List.mem_append_right _ (h9))) rfl 4 (by decide) (List.mem_of_getElem? (i := 1) rfl) (Or.inl rfl) rfl dX10_toldWhole_6 ?_
  refine zz_icmp_ge (tgt := 34) C dX10_toldWhole_9 (by decide) (fun h1 => ?_) (fun h1 => ?_)
  · refine zz_iload_n C dX10_toldWhole_34 rfl 1 rfl ?_
    exact zz_iret C rfl rfl (fun _ h9 => h9) (Nat.zero_le _) (Nat.zero_le _) dX10_toldWhole_35
  · refine zz_aload_n C dX10_toldWhole_12 rfl 0 rfl ?_
    refine zz_iload_n C dX10_toldWhole_13 rfl 2 rfl ?_
    refine zz_callV C (Cn := RX10) (b := zzad Z t0) (fun H hH => zz_recv C.2.2.2 ((zzX_town ht0) H hH) rfl) (As := [.int l2]) (rest := []) rfl (k_X10_turnedOf t0 ht0 l2 σ) (cwV 1 C.1.2.2.2.2 gX10_toldWhole_X10_turnedOf rfl rfl rfl (by decide +kernel) ⟨Nat.le_of_ble_eq_true rfl, Nat.le_of_ble_eq_true rfl⟩) rfl (Nat.le_of_ble_eq_true rfl) ⟨Nat.zero_le _, Nat.zero_le _⟩ dX10_toldWhole_14 (zz_kI rfl rfl (fun r2 σ3 => ?_))
    refine zz_bipush (v := 9) C dX10_toldWhole_17 (by decide) ?_
    refine zz_icmp_lt (tgt := 28) C dX10_toldWhole_19 (by decide) (fun h4 => ?_) (fun h4 => ?_)
    · refine zz_sub (loc' := [(0, .ref (zzad Z t0)), (1, .int l1), (2, .int l2)]) [0, 1, 2] rfl ?_
      exact w_X10_toldWhole_28 C t0 ht0 k4 hk4 l1 l2 σ3
    · refine zz_iload_n C dX10_toldWhole_22 rfl 1 rfl ?_
      refine zz_iconst (v := 1) C dX10_toldWhole_23 (by decide) ?_
      refine zz_iload_n C dX10_toldWhole_24 rfl 2 rfl ?_
      refine zz_ishl C dX10_toldWhole_25 ?_
      refine zz_ior C dX10_toldWhole_26 ?_
      refine zz_istoreX_n (locf := fun x5 => [(1, .int x5), (0, .ref (zzad Z t0)), (2, .int l2)]) C dX10_toldWhole_27 rfl (by decide) (fun _ => rfl) (fun x5 => ?_)
      refine zz_sub (loc' := [(0, .ref (zzad Z t0)), (1, .int x5), (2, .int l2)]) [1, 0, 2] rfl ?_
      exact w_X10_toldWhole_28 C t0 ht0 k4 hk4 x5 l2 σ3
set_option maxHeartbeats 4000000 in
set_option maxRecDepth 100000 in
theorem w_X10_toldWhole_4 {l : Launch} {Z : zzG} {base : Nat} {PL : Nat → Option (Nat × Int32)} {mm : zzS} {p : Program} {e : Env} {s : State} {m : MethodId} {args : Array Value} {below : List Frame} {meth : Method} {c : Code} (C : zzCx p m meth c s args cX10_toldWhole 3 wsX10_toldWhole RX10 (some .int) Z) (t0 : Nat) (ht0 : zztown t0)  (n : Nat) : ∀ (l1 : Int32)  (l2 : Int32)  (σ : zzS), zzGO p l e rX10_toldWhole s m args below meth c 3 (zzA base) (zzX Z base PL mm) (zzX Z base PL mm) zzRI rX10_toldWhole.cells rX10_toldWhole.slots (f_X10_toldWhole_4 t0 n l1 l2 σ) σ 0 0 4 [(0, .ref (zzad Z t0)), (1, .int l1), (2, .int l2)] [] := by
  induction n with
  | zero => exact fun _ _ _ r9 s9 h9 => by cases h9
  | succ n ih => exact w_X10_toldWhole_4b C t0 ht0 _ ih
set_option maxHeartbeats 4000000 in
set_option maxRecDepth 100000 in
theorem w_X10_toldWhole_e {l : Launch} {Z : zzG} {base : Nat} {PL : Nat → Option (Nat × Int32)} {mm : zzS} {p : Program} {e : Env} {s : State} {m : MethodId} {args : Array Value} {below : List Frame} {meth : Method} {c : Code} (C : zzCx p m meth c s args cX10_toldWhole 3 wsX10_toldWhole RX10 (some .int) Z) (t0 : Nat) (ht0 : zztown t0) (σ : zzS) : zzGO p l e rX10_toldWhole s m args below meth c 3 (zzA base) (zzX Z base PL mm) (zzX Z base PL mm) zzRI rX10_toldWhole.cells rX10_toldWhole.slots (f_X10_toldWhole t0 σ) σ 0 0 0 [(0, .ref (zzad Z t0))] [] := by
  unfold f_X10_toldWhole
  refine zz_iconst (v := 0) C dX10_toldWhole_0 (by decide) ?_
  refine zz_istore_n (loc' := [(1, .int (0 : Int32)), (0, .ref (zzad Z t0))]) C dX10_toldWhole_1 rfl (by decide) rfl ?_
  refine zz_iconst (v := 0) C dX10_toldWhole_2 (by decide) ?_
  refine zz_istore_n (loc' := [(2, .int (0 : Int32)), (1, .int (0 : Int32)), (0, .ref (zzad Z t0))]) C dX10_toldWhole_3 rfl (by decide) rfl ?_
  refine zz_sub (loc' := [(0, .ref (zzad Z t0)), (1, .int (0 : Int32)), (2, .int (0 : Int32))]) [2, 1, 0] rfl ?_
  exact w_X10_toldWhole_4 C t0 ht0 200 (0 : Int32) (0 : Int32) σ
set_option maxHeartbeats 4000000 in
set_option maxRecDepth 100000 in
theorem k_X10_toldWhole {l : Launch} {Z : zzG} {base : Nat} {PL : Nat → Option (Nat × Int32)} {mm : zzS} (t0 : Nat) (ht0 : zztown t0) (σ : zzS) : zzCT l yX10_toldWhole wsX10_toldWhole rX10_toldWhole (zzA base) Z (zzX Z base PL mm) (zzX Z base PL mm) zzRI [.ref (zzad Z t0)] (f_X10_toldWhole t0 σ) σ :=
  zzCT_of (cc := cX10_toldWhole) (nL := 3) (ret := (some .int)) (by decide) rfl (Nat.le_of_ble_eq_true rfl) [(0, .ref (zzad Z t0))] rfl (fun p e s m args below meth c C => w_X10_toldWhole_e C t0 ht0 σ)
