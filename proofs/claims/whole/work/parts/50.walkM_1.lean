abbrev rX12_carry : Room := { frames := 0, cells := 0, slots := 0, locals := 0 }

set_option maxHeartbeats 4000000 in
set_option maxRecDepth 100000 in
theorem w_X12_carry_17 {l : Launch} {Z : zzG} {base : Nat} {PL : Nat → Option (Nat × Int32)} {mm : zzS} {p : Program} {e : Env} {s : State} {m : MethodId} {args : Array Value} {below : List Frame} {meth : Method} {c : Code} (C : zzCx p m meth c s args cX12_carry 2 wsX12_carry RX12 (some .int) Z) (p0 : Int32)    (σ : zzS) : zzGO p l e rX12_carry s m args below meth c 2 (zzA base) (zzM Z base PL mm) (zzM Z base PL mm) zzRI rX12_carry.cells rX12_carry.slots (f_X12_carry_17 p0 σ) σ 0 0 17 [(0, .ref (zzad Z 36))] [] := by
  unfold f_X12_carry_17
  refine zz_aload_n C dX12_carry_17 rfl 0 rfl ?_
  refine zz_dup C dX12_carry_18 rfl ?_
  refine zz_get C zzM_obj (fun _ h9 => List.mem_cons_of_mem _ (List.mem_append_right _ (h9))) rfl 24 (by decide) (List.mem_of_getElem? (i := 3) rfl) (Or.inl rfl) rfl dX12_carry_19 ?_
  refine zz_iconst (v := 1) C dX12_carry_22 (by decide) ?_
  refine zz_iadd C dX12_carry_23 ?_
  refine zz_put (ty := .int) C zzM_obj (fun _ h9 => List.mem_cons_of_mem _ (List.mem_append_right _ (h9))) rfl 24 (by decide) (List.mem_of_getElem? (i := 3) rfl) rfl tyX12_ok nmX12 rfl (by decide +kernel) rfl rfl (Nat.le_of_ble_eq_true rfl) (zzM_uobj (by decide)) (zzA_M (by decide)) dX12_carry_24 ?_
  refine zz_ltS (fun σ1 => ?_)
  refine zz_aload_n C dX12_carry_27 rfl 0 rfl ?_
  refine zz_get C zzM_obj (fun _ h9 => List.mem_cons_of_mem _ (List.mem_append_right _ (h9))) rfl 26 (by decide) (List.mem_of_getElem? (i := 2) rfl) (Or.inl rfl) rfl dX12_carry_28 ?_
  refine zz_nnQ (fun j2 h3 => ?_)
  refine zz_gd (fun h4 => ?_)
  refine zz_aload_n C dX12_carry_31 rfl 0 rfl ?_
  refine zz_get C zzM_obj (fun _ h9 => List.mem_cons_of_mem _ (List.mem_append_right _ (h9))) rfl 24 (by decide) (List.mem_of_getElem? (i := 3) rfl) (Or.inl rfl) rfl dX12_carry_32 ?_
  refine zz_iconst (v := 1) C dX12_carry_35 (by decide) ?_
  refine zz_isub C dX12_carry_36 ?_
  refine zz_gd (fun h5 => ?_)
  refine zz_iald C (zzM_arr h4) h5 dX12_carry_37 ?_
  exact zz_iret C rfl rfl (fun _ h9 => h9) (Nat.zero_le _) (Nat.zero_le _) dX12_carry_38
set_option maxHeartbeats 4000000 in
set_option maxRecDepth 100000 in
theorem w_X12_carry_e {l : Launch} {Z : zzG} {base : Nat} {PL : Nat → Option (Nat × Int32)} {mm : zzS} {p : Program} {e : Env} {s : State} {m : MethodId} {args : Array Value} {below : List Frame} {meth : Method} {c : Code} (C : zzCx p m meth c s args cX12_carry 2 wsX12_carry RX12 (some .int) Z) (p0 : Int32)  (σ : zzS) : zzGO p l e rX12_carry s m args below meth c 2 (zzA base) (zzM Z base PL mm) (zzM Z base PL mm) zzRI rX12_carry.cells rX12_carry.slots (f_X12_carry p0 σ) σ 0 0 0 [(0, .ref (zzad Z 36)), (1, .int p0)] [] := by
  unfold f_X12_carry
  refine zz_aload_n C dX12_carry_0 rfl 0 rfl ?_
  refine zz_get C zzM_obj (fun _ h9 => List.mem_cons_of_mem _ (List.mem_append_right _ (h9))) rfl 25 (by decide) (List.mem_of_getElem? (i := 1) rfl) (Or.inl rfl) rfl dX12_carry_1 ?_
  refine zz_if_eq (tgt := 17) C dX12_carry_4 (by decide) (fun h1 => ?_) (fun h1 => ?_)
  · refine zz_sub (loc' := [(0, .ref (zzad Z 36))]) [0] rfl ?_
    exact w_X12_carry_17 C p0 σ
  · refine zz_aload_n C dX12_carry_7 rfl 0 rfl ?_
    refine zz_get C zzM_obj (fun _ h9 => List.mem_cons_of_mem _ (List.mem_append_right _ (h9))) rfl 26 (by decide) (List.mem_of_getElem? (i := 2) rfl) (Or.inl rfl) rfl dX12_carry_8 ?_
    refine zz_nnQ (fun j2 h3 => ?_)
    refine zz_gd (fun h4 => ?_)
    refine zz_aload_n C dX12_carry_11 rfl 0 rfl ?_
    refine zz_get C zzM_obj (fun _ h9 => List.mem_cons_of_mem _ (List.mem_append_right _ (h9))) rfl 24 (by decide) (List.mem_of_getElem? (i := 3) rfl) (Or.inl rfl) rfl dX12_carry_12 ?_
    refine zz_iload_n C dX12_carry_15 rfl 1 rfl ?_
    refine zz_gd (fun h5 => ?_)
    refine zz_iast C (zzM_arr h4) h5 (zzM_uarr h4) (zzA_M (zzMarr_lt h4)) dX12_carry_16 ?_
    refine zz_ltS (fun σ6 => ?_)
    refine zz_sub (loc' := [(0, .ref (zzad Z 36))]) [0] rfl ?_
    exact w_X12_carry_17 C p0 σ6
set_option maxHeartbeats 4000000 in
set_option maxRecDepth 100000 in
theorem k_X12_carry {l : Launch} {Z : zzG} {base : Nat} {PL : Nat → Option (Nat × Int32)} {mm : zzS} (p0 : Int32)  (σ : zzS) : zzCT l yX12_carry wsX12_carry rX12_carry (zzA base) Z (zzM Z base PL mm) (zzM Z base PL mm) zzRI [.ref (zzad Z 36), .int p0] (f_X12_carry p0 σ) σ :=
  zzCT_of (cc := cX12_carry) (nL := 2) (ret := (some .int)) (by decide) rfl (Nat.le_of_ble_eq_true rfl) [(0, .ref (zzad Z 36)), (1, .int p0)] rfl (fun p e s m args below meth c C => w_X12_carry_e C p0 σ)
abbrev rX12_carryAll : Room := { frames := 1, cells := 0, slots := 0, locals := 21 }

set_option maxHeartbeats 4000000 in
set_option maxRecDepth 100000 in
theorem w_X12_carryAll_115b {l : Launch} {Z : zzG} {base : Nat} {PL : Nat → Option (Nat × Int32)} {mm : zzS} {p : Program} {e : Env} {s : State} {m : MethodId} {args : Array Value} {below : List Frame} {meth : Method} {c : Code} (C : zzCx p m meth c s args cX12_carryAll 4 wsX12_carryAll RX12 none Z) (p0 : Nat) (hp0 : zzMarr p0) (p1 : Int32)   (k115 : Int32 → zzS → Option (Unit × zzS)) (hk115 : ∀ (l3 : Int32)  (σ : zzS), zzGO p l e rX12_carryAll s m args below meth c 4 (zzA base) (zzM Z base PL mm) (zzM Z base PL mm) zzRV rX12_carryAll.cells rX12_carryAll.slots (k115 l3 σ) σ 0 0 115 [(0, .ref (zzad Z 36)), (3, .int l3)] []) (l3 : Int32)  (σ : zzS) : zzGO p l e rX12_carryAll s m args below meth c 4 (zzA base) (zzM Z base PL mm) (zzM Z base PL mm) zzRV rX12_carryAll.cells rX12_carryAll.slots (f_X12_carryAll_115b k115 p0 p1 l3 σ) σ 0 0 115 [(0, .ref (zzad Z 36)), (3, .int l3)] [] := by
  unfold f_X12_carryAll_115b
  refine zz_iload_n C dX12_carryAll_115 rfl 1 rfl ?_
  refine zz_bipush (v := 49) C dX12_carryAll_116 (by decide) ?_
  refine zz_icmp_ge (tgt := 143) C dX12_carryAll_118 (by decide) (fun h1 => ?_) (fun h1 => ?_)
  · exact zz_vret C rfl rfl (fun _ h9 => h9) (Nat.zero_le _) (Nat.zero_le _) dX12_carryAll_143
  · refine zz_aload_n C dX12_carryAll_121 rfl 0 rfl ?_
    refine zz_get C zzM_obj (fun _ h9 => List.mem_cons_of_mem _ (List.mem_append_right _ (h9))) rfl 4 (by decide) (List.mem_of_getElem? (i := 10) rfl) (Or.inl rfl) rfl dX12_carryAll_122 ?_
    refine zz_iload_n C dX12_carryAll_125 rfl 1 rfl ?_
    refine zz_aload_n C dX12_carryAll_126 rfl 0 rfl ?_
    refine zz_aload_n C dX12_carryAll_127 rfl 0 rfl ?_
    refine zz_get C zzM_obj (fun _ h9 => List.mem_cons_of_mem _ (List.mem_append_right _ (h9))) rfl 4 (by decide) (List.mem_of_getElem? (i := 10) rfl) (Or.inl rfl) rfl dX12_carryAll_128 ?_
    refine zz_iload_n C dX12_carryAll_131 rfl 1 rfl ?_
    refine zz_gd (fun h2 => ?_)
    refine zz_iald C (zzM_arr (by decide)) h2 dX12_carryAll_132 ?_
    refine zz_callV C (Cn := RX12) (b := zzad Z 36) (fun H hH => zz_recv C.2.2.2 (zzM_obj H hH) rfl) (As := [.int (zza σ 40 (Int32.toNatClampNeg l3))]) (rest := [.int l3, .ref (zzad Z 40)]) rfl (k_X12_carry (zza σ 40 (Int32.toNatClampNeg l3)) σ) (cwV 1 C.1.2.2.2.2 gX12_carryAll_X12_carry rfl rfl rfl (by decide +kernel) ⟨Nat.le_of_ble_eq_true rfl, Nat.le_of_ble_eq_true rfl⟩) rfl (Nat.le_of_ble_eq_true rfl) ⟨Nat.zero_le _, Nat.zero_le _⟩ dX12_carryAll_133 (zz_kI rfl rfl (fun r3 σ4 => ?_))
    refine zz_gd (fun h5 => ?_)
    refine zz_iast C (zzM_arr (by decide)) h5 (zzM_uarr (by decide)) (zzA_M (zzMarr_lt (by decide))) dX12_carryAll_136 ?_
    refine zz_ltS (fun σ6 => ?_)
    refine zz_iincX (d := 1) (locf := fun x7 => [(3, .int x7), (0, .ref (zzad Z 36))]) C dX12_carryAll_137 (k := 1) rfl (by decide) (by decide) (fun _ => rfl) (fun x7 => ?_)
    refine zz_goto (tgt := 115) C dX12_carryAll_140 (by decide) ?_
    refine zz_sub (loc' := [(0, .ref (zzad Z 36)), (3, .int x7)]) [1, 0] rfl ?_
    exact hk115 x7 σ6
set_option maxHeartbeats 4000000 in
set_option maxRecDepth 100000 in
theorem w_X12_carryAll_115 {l : Launch} {Z : zzG} {base : Nat} {PL : Nat → Option (Nat × Int32)} {mm : zzS} {p : Program} {e : Env} {s : State} {m : MethodId} {args : Array Value} {below : List Frame} {meth : Method} {c : Code} (C : zzCx p m meth c s args cX12_carryAll 4 wsX12_carryAll RX12 none Z) (p0 : Nat) (hp0 : zzMarr p0) (p1 : Int32)   (n : Nat) : ∀ (l3 : Int32)  (σ : zzS), zzGO p l e rX12_carryAll s m args below meth c 4 (zzA base) (zzM Z base PL mm) (zzM Z base PL mm) zzRV rX12_carryAll.cells rX12_carryAll.slots (f_X12_carryAll_115 p0 p1 n l3 σ) σ 0 0 115 [(0, .ref (zzad Z 36)), (3, .int l3)] [] := by
  induction n with
  | zero => exact fun _ _ r9 s9 h9 => by cases h9
  | succ n ih => exact w_X12_carryAll_115b C p0 hp0 p1 _ ih
set_option maxHeartbeats 4000000 in
set_option maxRecDepth 100000 in
theorem w_X12_carryAll_53b {l : Launch} {Z : zzG} {base : Nat} {PL : Nat → Option (Nat × Int32)} {mm : zzS} {p : Program} {e : Env} {s : State} {m : MethodId} {args : Array Value} {below : List Frame} {meth : Method} {c : Code} (C : zzCx p m meth c s args cX12_carryAll 4 wsX12_carryAll RX12 none Z) (p0 : Nat) (hp0 : zzMarr p0) (p1 : Int32)   (k53 : Int32 → zzS → Option (Unit × zzS)) (hk53 : ∀ (l3 : Int32)  (σ : zzS), zzGO p l e rX12_carryAll s m args below meth c 4 (zzA base) (zzM Z base PL mm) (zzM Z base PL mm) zzRV rX12_carryAll.cells rX12_carryAll.slots (k53 l3 σ) σ 0 0 53 [(0, .ref (zzad Z 36)), (3, .int l3)] []) (l3 : Int32)  (σ : zzS) : zzGO p l e rX12_carryAll s m args below meth c 4 (zzA base) (zzM Z base PL mm) (zzM Z base PL mm) zzRV rX12_carryAll.cells rX12_carryAll.slots (f_X12_carryAll_53b k53 p0 p1 l3 σ) σ 0 0 53 [(0, .ref (zzad Z 36)), (3, .int l3)] [] := by
  unfold f_X12_carryAll_53b
  refine zz_iload_n C dX12_carryAll_53 rfl 1 rfl ?_
  refine zz_bipush (v := 7) C dX12_carryAll_54 (by decide) ?_
  refine zz_icmp_ge (tgt := 113) C dX12_carryAll_56 (by decide) (fun h1 => ?_) (fun h1 => ?_)
  · refine zz_iconst (v := 0) C dX12_carryAll_113 (by decide) ?_
    refine zz_istore_n (loc' := [(3, .int (0 : Int32)), (0, .ref (zzad Z 36))]) C dX12_carryAll_114 rfl (by decide) rfl ?_
    refine zz_sub (loc' := [(0, .ref (zzad Z 36)), (3, .int (0 : Int32))]) [1, 0] rfl ?_
    exact w_X12_carryAll_115 C p0 hp0 p1 200 (0 : Int32) σ
  · refine zz_aload_n C dX12_carryAll_59 rfl 0 rfl ?_
    refine zz_get C zzM_obj (fun _ h9 => List.mem_cons_of_mem _ (List.mem_append_right _ (h9))) rfl 1 (by decide) (List.mem_of_getElem? (i := 7) rfl) (Or.inl rfl) rfl dX12_carryAll_60 ?_
    refine zz_iload_n C dX12_carryAll_63 rfl 1 rfl ?_
    refine zz_aload_n C dX12_carryAll_64 rfl 0 rfl ?_
    refine zz_aload_n C dX12_carryAll_65 rfl 0 rfl ?_
    refine zz_get C zzM_obj (fun _ h9 => List.mem_cons_of_mem _ (List.mem_append_right _ (h9))) rfl 1 (by decide) (List.mem_of_getElem? (i := 7) rfl) (Or.inl rfl) rfl dX12_carryAll_66 ?_
    refine zz_iload_n C dX12_carryAll_69 rfl 1 rfl ?_
    refine zz_gd (fun h2 => ?_)
    refine zz_iald C (zzM_arr (by decide)) h2 dX12_carryAll_70 ?_
    refine zz_callV C (Cn := RX12) (b := zzad Z 36) (fun H hH => zz_recv C.2.2.2 (zzM_obj H hH) rfl) (As := [.int (zza σ 37 (Int32.toNatClampNeg l3))]) (rest := [.int l3, .ref (zzad Z 37)]) rfl (k_X12_carry (zza σ 37 (Int32.toNatClampNeg l3)) σ) (cwV 1 C.1.2.2.2.2 gX12_carryAll_X12_carry rfl rfl rfl (by decide +kernel) ⟨Nat.le_of_ble_eq_true rfl, Nat.le_of_ble_eq_true rfl⟩) rfl (Nat.le_of_ble_eq_true rfl) ⟨Nat.zero_le _, Nat.zero_le _⟩ dX12_carryAll_71 (zz_kI rfl rfl (fun r3 σ4 => ?_))
    refine zz_gd (fun h5 => ?_)
    refine zz_iast C (zzM_arr (by decide)) h5 (zzM_uarr (by decide)) (zzA_M (zzMarr_lt (by decide))) dX12_carryAll_74 ?_
    refine zz_ltS (fun σ6 => ?_)
    refine zz_aload_n C dX12_carryAll_75 rfl 0 rfl ?_
    refine zz_get C zzM_obj (fun _ h9 => List.mem_cons_of_mem _ (List.mem_append_right _ (h9))) rfl 2 (by decide) (List.mem_of_getElem? (i := 8) rfl) (Or.inl rfl) rfl dX12_carryAll_76 ?_
    refine zz_iload_n C dX12_carryAll_79 rfl 1 rfl ?_
    refine zz_aload_n C dX12_carryAll_80 rfl 0 rfl ?_
    refine zz_aload_n C dX12_carryAll_81 rfl 0 rfl ?_
    refine zz_get C zzM_obj (fun _ h9 => List.mem_cons_of_mem _ (List.mem_append_right _ (h9))) rfl 2 (by decide) (List.mem_of_getElem? (i := 8) rfl) (Or.inl rfl) rfl dX12_carryAll_82 ?_
    refine zz_iload_n C dX12_carryAll_85 rfl 1 rfl ?_
    refine zz_gd (fun h7 => ?_)
    refine zz_iald C (zzM_arr (by decide)) h7 dX12_carryAll_86 ?_
    refine zz_callV C (Cn := RX12) (b := zzad Z 36) (fun H hH => zz_recv C.2.2.2 (zzM_obj H hH) rfl) (As := [.int (zza σ6 38 (Int32.toNatClampNeg l3))]) (rest := [.int l3, .ref (zzad Z 38)]) rfl (k_X12_carry (zza σ6 38 (Int32.toNatClampNeg l3)) σ6) (cwV 1 C.1.2.2.2.2 gX12_carryAll_X12_carry rfl rfl rfl (by decide +kernel) ⟨Nat.le_of_ble_eq_true rfl, Nat.le_of_ble_eq_true rfl⟩) rfl (Nat.le_of_ble_eq_true rfl) ⟨Nat.zero_le _, Nat.zero_le _⟩ dX12_carryAll_87 (zz_kI rfl rfl (fun r8 σ9 => ?_))
    refine zz_gd (fun h10 => ?_)
    refine zz_iast C (zzM_arr (by decide)) h10 (zzM_uarr (by decide)) (zzA_M (zzMarr_lt (by decide))) dX12_carryAll_90 ?_
    refine zz_ltS (fun σ11 => ?_)
    refine zz_aload_n C dX12_carryAll_91 rfl 0 rfl ?_
    refine zz_get C zzM_obj (fun _ h9 => List.mem_cons_of_mem _ (List.mem_append_right _ (h9))) rfl 3 (by decide) (List.mem_of_getElem? (i := 9) rfl) (Or.inl rfl) rfl dX12_carryAll_92 ?_
    refine zz_iload_n C dX12_carryAll_95 rfl 1 rfl ?_
    refine zz_aload_n C dX12_carryAll_96 rfl 0 rfl ?_
    refine zz_aload_n C dX12_carryAll_97 rfl 0 rfl ?_
    refine zz_get C zzM_obj (fun _ h9 => List.mem_cons_of_mem _ (List.mem_append_right _ (h9))) rfl 3 (by decide) (List.mem_of_getElem? (i := 9) rfl) (Or.inl rfl) rfl dX12_carryAll_98 ?_
    refine zz_iload_n C dX12_carryAll_101 rfl 1 rfl ?_
    refine zz_gd (fun h12 => ?_)
    refine zz_iald C (zzM_arr (by decide)) h12 dX12_carryAll_102 ?_
    refine zz_callV C (Cn := RX12) (b := zzad Z 36) (fun H hH => zz_recv C.2.2.2 (zzM_obj H hH) rfl) (As := [.int (zza σ11 39 (Int32.toNatClampNeg l3))]) (rest := [.int l3, .ref (zzad Z 39)]) rfl (k_X12_carry (zza σ11 39 (Int32.toNatClampNeg l3)) σ11) (cwV 1 C.1.2.2.2.2 gX12_carryAll_X12_carry rfl rfl rfl (by decide +kernel) ⟨Nat.le_of_ble_eq_true rfl, Nat.le_of_ble_eq_true rfl⟩) rfl (Nat.le_of_ble_eq_true rfl) ⟨Nat.zero_le _, Nat.zero_le _⟩ dX12_carryAll_103 (zz_kI rfl rfl (fun r13 σ14 => ?_))
    refine zz_gd (fun h15 => ?_)
    refine zz_iast C (zzM_arr (by decide)) h15 (zzM_uarr (by decide)) (zzA_M (zzMarr_lt (by decide))) dX12_carryAll_106 ?_
    refine zz_ltS (fun σ16 => ?_)
    refine zz_iincX (d := 1) (locf := fun x17 => [(3, .int x17), (0, .ref (zzad Z 36))]) C dX12_carryAll_107 (k := 1) rfl (by decide) (by decide) (fun _ => rfl) (fun x17 => ?_)
    refine zz_goto (tgt := 53) C dX12_carryAll_110 (by decide) ?_
    refine zz_sub (loc' := [(0, .ref (zzad Z 36)), (3, .int x17)]) [1, 0] rfl ?_
    exact hk53 x17 σ16
set_option maxHeartbeats 4000000 in
set_option maxRecDepth 100000 in
theorem w_X12_carryAll_53 {l : Launch} {Z : zzG} {base : Nat} {PL : Nat → Option (Nat × Int32)} {mm : zzS} {p : Program} {e : Env} {s : State} {m : MethodId} {args : Array Value} {below : List Frame} {meth : Method} {c : Code} (C : zzCx p m meth c s args cX12_carryAll 4 wsX12_carryAll RX12 none Z) (p0 : Nat) (hp0 : zzMarr p0) (p1 : Int32)   (n : Nat) : ∀ (l3 : Int32)  (σ : zzS), zzGO p l e rX12_carryAll s m args below meth c 4 (zzA base) (zzM Z base PL mm) (zzM Z base PL mm) zzRV rX12_carryAll.cells rX12_carryAll.slots (f_X12_carryAll_53 p0 p1 n l3 σ) σ 0 0 53 [(0, .ref (zzad Z 36)), (3, .int l3)] [] := by
  induction n with
  | zero => exact fun _ _ r9 s9 h9 => by cases h9
  | succ n ih => exact w_X12_carryAll_53b C p0 hp0 p1 _ ih
set_option maxHeartbeats 4000000 in
set_option maxRecDepth 100000 in
theorem w_X12_carryAll_e {l : Launch} {Z : zzG} {base : Nat} {PL : Nat → Option (Nat × Int32)} {mm : zzS} {p : Program} {e : Env} {s : State} {m : MethodId} {args : Array Value} {below : List Frame} {meth : Method} {c : Code} (C : zzCx p m meth c s args cX12_carryAll 4 wsX12_carryAll RX12 none Z) (p0 : Nat) (hp0 : zzMarr p0) (p1 : Int32)  (σ : zzS) : zzGO p l e rX12_carryAll s m args below meth c 4 (zzA base) (zzM Z base PL mm) (zzM Z base PL mm) zzRV rX12_carryAll.cells rX12_carryAll.slots (f_X12_carryAll p0 p1 σ) σ 0 0 0 [(0, .ref (zzad Z 36)), (1, .ref (zzad Z p0)), (2, .int p1)] [] := by
  unfold f_X12_carryAll
  refine zz_aload_n C dX12_carryAll_0 rfl 0 rfl ?_
  refine zz_aload_n C dX12_carryAll_1 rfl 1 rfl ?_
  refine zz_put (ty := .array .int) C zzM_obj (fun _ h9 => List.mem_cons_of_mem _ (List.mem_append_right _ (h9))) rfl 26 (by decide) (List.mem_of_getElem? (i := 1) rfl) rfl tyX12_ok nmX12 rfl (by decide +kernel) rfl rfl (Nat.le_of_ble_eq_true rfl) (zzM_ukept (v := some p0)) (zzA_M (by decide)) dX12_carryAll_2 ?_
  refine zz_ltS (fun σ1 => ?_)
  refine zz_aload_n C dX12_carryAll_5 rfl 0 rfl ?_
  refine zz_iload_n C dX12_carryAll_6 rfl 2 rfl ?_
  refine zz_gd (fun h3 => ?_)
  refine zz_put (ty := .boolean) C zzM_obj (fun _ h9 => List.mem_cons_of_mem _ (List.mem_append_right _ (h9))) rfl 25 (by decide) (List.mem_of_getElem? (i := 2) rfl) rfl tyX12_ok nmX12 rfl (by decide +kernel) (zznarB h3) (zzfitB h3) (Nat.le_of_ble_eq_true rfl) (zzM_uobj (by decide)) (zzA_M (by decide)) dX12_carryAll_7 ?_
  refine zz_ltS (fun σ2 => ?_)
  refine zz_aload_n C dX12_carryAll_10 rfl 0 rfl ?_
  refine zz_iconst (v := 0) C dX12_carryAll_11 (by decide) ?_
  refine zz_put (ty := .int) C zzM_obj (fun _ h9 => List.mem_cons_of_mem _ (List.mem_append_right _ (h9))) rfl 24 (by decide) (List.mem_of_getElem? (i := 3) rfl) rfl tyX12_ok nmX12 rfl (by decide +kernel) rfl rfl (Nat.le_of_ble_eq_true rfl) (zzM_uobj (by decide)) (zzA_M (by decide)) dX12_carryAll_12 ?_
  refine zz_ltS (fun σ4 => ?_)
  refine zz_aload_n C dX12_carryAll_15 rfl 0 rfl ?_
  refine zz_aload_n C dX12_carryAll_16 rfl 0 rfl ?_
  refine zz_aload_n C dX12_carryAll_17 rfl 0 rfl ?_
  refine zz_get C zzM_obj (fun _ h9 => List.mem_cons_of_mem _ (List.mem_append_right _ (h9))) rfl 0 (by decide) (List.mem_of_getElem? (i := 4) rfl) (Or.inl rfl) rfl dX12_carryAll_18 ?_
  refine zz_callV C (Cn := RX12) (b := zzad Z 36) (fun H hH => zz_recv C.2.2.2 (zzM_obj H hH) rfl) (As := [.int (zzi σ4 36 0)]) (rest := [.ref (zzad Z 36)]) rfl (k_X12_carry (zzi σ4 36 0) σ4) (cwV 1 C.1.2.2.2.2 gX12_carryAll_X12_carry rfl rfl rfl (by decide +kernel) ⟨Nat.le_of_ble_eq_true rfl, Nat.le_of_ble_eq_true rfl⟩) rfl (Nat.le_of_ble_eq_true rfl) ⟨Nat.zero_le _, Nat.zero_le _⟩ dX12_carryAll_21 (zz_kI rfl rfl (fun r5 σ6 => ?_))
  refine zz_put (ty := .int) C zzM_obj (fun _ h9 => List.mem_cons_of_mem _ (List.mem_append_right _ (h9))) rfl 0 (by decide) (List.mem_of_getElem? (i := 4) rfl) rfl tyX12_ok nmX12 rfl (by decide +kernel) rfl rfl (Nat.le_of_ble_eq_true rfl) (zzM_uobj (by decide)) (zzA_M (by decide)) dX12_carryAll_24 ?_
  refine zz_ltS (fun σ7 => ?_)
  refine zz_aload_n C dX12_carryAll_27 rfl 0 rfl ?_
  refine zz_aload_n C dX12_carryAll_28 rfl 0 rfl ?_
  refine zz_aload_n C dX12_carryAll_29 rfl 0 rfl ?_
  refine zz_get C zzM_obj (fun _ h9 => List.mem_cons_of_mem _ (List.mem_append_right _ (h9))) rfl 5 (by decide) (List.mem_of_getElem? (i := 5) rfl) (Or.inl rfl) rfl dX12_carryAll_30 ?_
  refine zz_callV C (Cn := RX12) (b := zzad Z 36) (fun H hH => zz_recv C.2.2.2 (zzM_obj H hH) rfl) (As := [.int (zzi σ7 36 5)]) (rest := [.ref (zzad Z 36)]) rfl (k_X12_carry (zzi σ7 36 5) σ7) (cwV 1 C.1.2.2.2.2 gX12_carryAll_X12_carry rfl rfl rfl (by decide +kernel) ⟨Nat.le_of_ble_eq_true rfl, Nat.le_of_ble_eq_true rfl⟩) rfl (Nat.le_of_ble_eq_true rfl) ⟨Nat.zero_le _, Nat.zero_le _⟩ dX12_carryAll_33 (zz_kI rfl rfl (fun r8 σ9 => ?_))
  refine zz_put (ty := .int) C zzM_obj (fun _ h9 => List.mem_cons_of_mem _ (List.mem_append_right _ (h9))) rfl 5 (by decide) (List.mem_of_getElem? (i := 5) rfl) rfl tyX12_ok nmX12 rfl (by decide +kernel) rfl rfl (Nat.le_of_ble_eq_true rfl) (zzM_uobj (by decide)) (zzA_M (by decide)) dX12_carryAll_36 ?_
  refine zz_ltS (fun σ10 => ?_)
  refine zz_aload_n C dX12_carryAll_39 rfl 0 rfl ?_
  refine zz_aload_n C dX12_carryAll_40 rfl 0 rfl ?_
  refine zz_aload_n C dX12_carryAll_41 rfl 0 rfl ?_
  refine zz_get C zzM_obj (fun _ h9 => List.mem_cons_of_mem _ (List.mem_append_right _ (h9))) rfl 6 (by decide) (List.mem_of_getElem? (i := 6) rfl) (Or.inl rfl) rfl dX12_carryAll_42 ?_
  refine zz_callV C (Cn := RX12) (b := zzad Z 36) (fun H hH => zz_recv C.2.2.2 (zzM_obj H hH) rfl) (As := [.int (zzi σ10 36 6)]) (rest := [.ref (zzad Z 36)]) rfl (k_X12_carry (zzi σ10 36 6) σ10) (cwV 1 C.1.2.2.2.2 gX12_carryAll_X12_carry rfl rfl rfl (by decide +kernel) ⟨Nat.le_of_ble_eq_true rfl, Nat.le_of_ble_eq_true rfl⟩) rfl (Nat.le_of_ble_eq_true rfl) ⟨Nat.zero_le _, Nat.zero_le _⟩ dX12_carryAll_45 (zz_kI rfl rfl (fun r11 σ12 => ?_))
  refine zz_put (ty := .int) C zzM_obj (fun _ h9 => List.mem_cons_of_mem _ (List.mem_append_right _ (h9))) rfl 6 (by decide) (List.mem_of_getElem? (i := 6) rfl) rfl tyX12_ok nmX12 rfl (by decide +kernel) rfl rfl (Nat.le_of_ble_eq_true rfl) (zzM_uobj (by decide)) (zzA_M (by decide)) dX12_carryAll_48 ?_
  refine zz_ltS (fun σ13 => ?_)
  refine zz_iconst (v := 0) C dX12_carryAll_51 (by decide) ?_
  refine zz_istore_n (loc' := [(3, .int (0 : Int32)), (0, .ref (zzad Z 36)), (1, .ref (zzad Z p0)), (2, .int p1)]) C dX12_carryAll_52 rfl (by decide) rfl ?_
  refine zz_sub (loc' := [(0, .ref (zzad Z 36)), (3, .int (0 : Int32))]) [1, 0] rfl ?_
  exact w_X12_carryAll_53 C p0 hp0 p1 200 (0 : Int32) σ13
set_option maxHeartbeats 4000000 in
set_option maxRecDepth 100000 in
theorem k_X12_carryAll {l : Launch} {Z : zzG} {base : Nat} {PL : Nat → Option (Nat × Int32)} {mm : zzS} (p0 : Nat) (hp0 : zzMarr p0) (p1 : Int32)  (σ : zzS) : zzCT l yX12_carryAll wsX12_carryAll rX12_carryAll (zzA base) Z (zzM Z base PL mm) (zzM Z base PL mm) zzRV [.ref (zzad Z 36), .ref (zzad Z p0), .int p1] (f_X12_carryAll p0 p1 σ) σ :=
  zzCT_of (cc := cX12_carryAll) (nL := 4) (ret := none) (by decide) rfl (Nat.le_of_ble_eq_true rfl) [(0, .ref (zzad Z 36)), (1, .ref (zzad Z p0)), (2, .int p1)] rfl (fun p e s m args below meth c C => w_X12_carryAll_e C p0 hp0 p1 σ)
abbrev rX12_close : Room := { frames := 2, cells := 0, slots := 0, locals := 44 }

set_option maxHeartbeats 4000000 in
set_option maxRecDepth 100000 in
theorem w_X12_close_e {l : Launch} {Z : zzG} {base : Nat} {PL : Nat → Option (Nat × Int32)} {mm : zzS} {p : Program} {e : Env} {s : State} {m : MethodId} {args : Array Value} {below : List Frame} {meth : Method} {c : Code} (C : zzCx p m meth c s args cX12_close 1 wsX12_close RX12 none Z)  (σ : zzS) : zzGO p l e rX12_close s m args below meth c 1 (zzA base) (zzM Z base PL mm) (zzM Z base PL mm) zzRV rX12_close.cells rX12_close.slots (f_X12_close σ) σ 0 0 0 [(0, .ref (zzad Z 36))] [] := by
  unfold f_X12_close
  refine zz_aload_n C dX12_close_0 rfl 0 rfl ?_
  refine zz_aload_n C dX12_close_1 rfl 0 rfl ?_
  refine zz_get C zzM_obj (fun _ h9 => List.mem_cons_of_mem _ (List.mem_append_right _ (h9))) rfl 21 (by decide) (List.mem_of_getElem? (i := 1) rfl) (Or.inl rfl) rfl dX12_close_2 ?_
  refine zz_iconst (v := 0) C dX12_close_5 (by decide) ?_
  refine zz_callV C (Cn := RX12) (b := zzad Z 36) (fun H hH => zz_recv C.2.2.2 (zzM_obj H hH) rfl) (As := [.ref (zzad Z 49), .int (0 : Int32)]) (rest := []) rfl (k_X12_carryAll 49 (by decide) (0 : Int32) σ) (cwV 2 C.1.2.2.2.2 gX12_close_X12_carryAll rfl rfl rfl (by decide +kernel) ⟨Nat.le_of_ble_eq_true rfl, Nat.le_of_ble_eq_true rfl⟩) rfl (Nat.le_of_ble_eq_true rfl) ⟨Nat.zero_le _, Nat.zero_le _⟩ dX12_close_6 (zz_kV rfl rfl (fun r1 σ2 => ?_))
  exact zz_vret C rfl rfl (fun _ h9 => h9) (Nat.zero_le _) (Nat.zero_le _) dX12_close_9
set_option maxHeartbeats 4000000 in
set_option maxRecDepth 100000 in
theorem k_X12_close {l : Launch} {Z : zzG} {base : Nat} {PL : Nat → Option (Nat × Int32)} {mm : zzS}  (σ : zzS) : zzCT l yX12_close wsX12_close rX12_close (zzA base) Z (zzM Z base PL mm) (zzM Z base PL mm) zzRV [.ref (zzad Z 36)] (f_X12_close σ) σ :=
  zzCT_of (cc := cX12_close) (nL := 1) (ret := none) (by decide) rfl (Nat.le_of_ble_eq_true rfl) [(0, .ref (zzad Z 36))] rfl (fun p e s m args below meth c C => w_X12_close_e C σ)
abbrev rX12_open : Room := { frames := 2, cells := 0, slots := 0, locals := 44 }

set_option maxHeartbeats 4000000 in
set_option maxRecDepth 100000 in
theorem w_X12_open_e {l : Launch} {Z : zzG} {base : Nat} {PL : Nat → Option (Nat × Int32)} {mm : zzS} {p : Program} {e : Env} {s : State} {m : MethodId} {args : Array Value} {below : List Frame} {meth : Method} {c : Code} (C : zzCx p m meth c s args cX12_open 1 wsX12_open RX12 none Z)  (σ : zzS) : zzGO p l e rX12_open s m args below meth c 1 (zzA base) (zzM Z base PL mm) (zzM Z base PL mm) zzRV rX12_open.cells rX12_open.slots (f_X12_open σ) σ 0 0 0 [(0, .ref (zzad Z 36))] [] := by
  unfold f_X12_open
  refine zz_aload_n C dX12_open_0 rfl 0 rfl ?_
  refine zz_aload_n C dX12_open_1 rfl 0 rfl ?_
  refine zz_get C zzM_obj (fun _ h9 => List.mem_cons_of_mem _ (List.mem_append_right _ (h9))) rfl 21 (by decide) (List.mem_of_getElem? (i := 1) rfl) (Or.inl rfl) rfl dX12_open_2 ?_
  refine zz_iconst (v := 1) C dX12_open_5 (by decide) ?_
  refine zz_callV C (Cn := RX12) (b := zzad Z 36) (fun H hH => zz_recv C.2.2.2 (zzM_obj H hH) rfl) (As := [.ref (zzad Z 49), .int (1 : Int32)]) (rest := []) rfl (k_X12_carryAll 49 (by decide) (1 : Int32) σ) (cwV 2 C.1.2.2.2.2 gX12_open_X12_carryAll rfl rfl rfl (by decide +kernel) ⟨Nat.le_of_ble_eq_true rfl, Nat.le_of_ble_eq_true rfl⟩) rfl (Nat.le_of_ble_eq_true rfl) ⟨Nat.zero_le _, Nat.zero_le _⟩ dX12_open_6 (zz_kV rfl rfl (fun r1 σ2 => ?_))
  exact zz_vret C rfl rfl (fun _ h9 => h9) (Nat.zero_le _) (Nat.zero_le _) dX12_open_9
set_option maxHeartbeats 4000000 in
set_option maxRecDepth 100000 in
theorem k_X12_open {l : Launch} {Z : zzG} {base : Nat} {PL : Nat → Option (Nat × Int32)} {mm : zzS}  (σ : zzS) : zzCT l yX12_open wsX12_open rX12_open (zzA base) Z (zzM Z base PL mm) (zzM Z base PL mm) zzRV [.ref (zzad Z 36)] (f_X12_open σ) σ :=
  zzCT_of (cc := cX12_open) (nL := 1) (ret := none) (by decide) rfl (Nat.le_of_ble_eq_true rfl) [(0, .ref (zzad Z 36))] rfl (fun p e s m args below meth c C => w_X12_open_e C σ)
abbrev rX12_wrongRow : Room := { frames := 1, cells := 0, slots := 0, locals := 25 }

set_option maxHeartbeats 4000000 in
set_option maxRecDepth 100000 in
theorem w_X12_wrongRow_e {l : Launch} {Z : zzG} {base : Nat} {PL : Nat → Option (Nat × Int32)} {mm : zzS} {p : Program} {e : Env} {s : State} {m : MethodId} {args : Array Value} {below : List Frame} {meth : Method} {c : Code} (C : zzCx p m meth c s args cX12_wrongRow 2 wsX12_wrongRow RX12 (some .int) Z) (p0 : Int32)  (σ : zzS) : zzGO p l e rX12_wrongRow s m args below meth c 2 (zzA base) (zzM Z base PL mm) (zzM Z base PL mm) zzRI rX12_wrongRow.cells rX12_wrongRow.slots (f_X12_wrongRow p0 σ) σ 0 0 0 [(0, .ref (zzad Z 36)), (1, .int p0)] [] := by
  unfold f_X12_wrongRow
  refine zz_iload_n C dX12_wrongRow_0 rfl 1 rfl ?_
  refine zz_i2l C dX12_wrongRow_1 ?_
  refine zz_lconst (v := 0) C dX12_wrongRow_2 (by decide) ?_
  refine zz_ldc2 (v := 7) C (C.1.2.2.2.2 _ (List.mem_of_getElem? (i := 1) rfl)) dX12_wrongRow_3 ?_
  refine zz_callS (As := [.long (Int32.toInt64 p0), .long (0 : Int64), .long (7 : Int64)]) (rest := []) C rfl (k_X12_in (Int32.toInt64 p0) (0 : Int64) (7 : Int64) σ) (va_cwS 3 C.1.2.2.2.2 gX12_wrongRow_X12_in rfl rfl rfl (by decide +kernel) ⟨Nat.le_of_ble_eq_true rfl, Nat.le_of_ble_eq_true rfl⟩) rfl (Nat.le_of_ble_eq_true rfl) ⟨Nat.zero_le _, Nat.zero_le _⟩ dX12_wrongRow_6 (zz_kI rfl rfl (fun r1 σ2 => ?_))
  refine zz_if_ne (tgt := 16) C dX12_wrongRow_9 (by decide) (fun h3 => ?_) (fun h3 => ?_)
  · refine zz_aload_n C dX12_wrongRow_16 rfl 0 rfl ?_
    refine zz_get C zzM_obj (fun _ h9 => List.mem_cons_of_mem _ (List.mem_append_right _ (h9))) rfl 7 (by decide) (List.mem_of_getElem? (i := 2) rfl) (Or.inl rfl) rfl dX12_wrongRow_17 ?_
    refine zz_iload_n C dX12_wrongRow_20 rfl 1 rfl ?_
    refine zz_gd (fun h4 => ?_)
    refine zz_iald C (zzM_arr (by decide)) h4 dX12_wrongRow_21 ?_
    refine zz_if_ne (tgt := 30) C dX12_wrongRow_22 (by decide) (fun h5 => ?_) (fun h5 => ?_)
    · refine zz_aload_n C dX12_wrongRow_30 rfl 0 rfl ?_
      refine zz_get C zzM_obj (fun _ h9 => List.mem_cons_of_mem _ (List.mem_append_right _ (h9))) rfl 7 (by decide) (List.mem_of_getElem? (i := 2) rfl) (Or.inl rfl) rfl dX12_wrongRow_31 ?_
      refine zz_iload_n C dX12_wrongRow_34 rfl 1 rfl ?_
      refine zz_gd (fun h6 => ?_)
      refine zz_iald C (zzM_arr (by decide)) h6 dX12_wrongRow_35 ?_
      refine zz_iconst (v := 2) C dX12_wrongRow_36 (by decide) ?_
      refine zz_icmp_eq (tgt := 45) C dX12_wrongRow_37 (by decide) (fun h7 => ?_) (fun h7 => ?_)
      · refine zz_iconst (v := 0) C dX12_wrongRow_45 (by decide) ?_
        exact zz_iret C rfl rfl (fun _ h9 => h9) (Nat.zero_le _) (Nat.zero_le _) dX12_wrongRow_46
      · refine zz_bipush (v := -12) C dX12_wrongRow_40 (by decide) ?_
        refine zz_goto (tgt := 46) C dX12_wrongRow_42 (by decide) ?_
        exact zz_iret C rfl rfl (fun _ h9 => h9) (Nat.zero_le _) (Nat.zero_le _) dX12_wrongRow_46
    · refine zz_bipush (v := -11) C dX12_wrongRow_25 (by decide) ?_
      refine zz_goto (tgt := 46) C dX12_wrongRow_27 (by decide) ?_
      exact zz_iret C rfl rfl (fun _ h9 => h9) (Nat.zero_le _) (Nat.zero_le _) dX12_wrongRow_46
  · refine zz_iconst (v := -1) C dX12_wrongRow_12 (by decide) ?_
    refine zz_goto (tgt := 46) C dX12_wrongRow_13 (by decide) ?_
    exact zz_iret C rfl rfl (fun _ h9 => h9) (Nat.zero_le _) (Nat.zero_le _) dX12_wrongRow_46
set_option maxHeartbeats 4000000 in
set_option maxRecDepth 100000 in
theorem k_X12_wrongRow {l : Launch} {Z : zzG} {base : Nat} {PL : Nat → Option (Nat × Int32)} {mm : zzS} (p0 : Int32)  (σ : zzS) : zzCT l yX12_wrongRow wsX12_wrongRow rX12_wrongRow (zzA base) Z (zzM Z base PL mm) (zzM Z base PL mm) zzRI [.ref (zzad Z 36), .int p0] (f_X12_wrongRow p0 σ) σ :=
  zzCT_of (cc := cX12_wrongRow) (nL := 2) (ret := (some .int)) (by decide) rfl (Nat.le_of_ble_eq_true rfl) [(0, .ref (zzad Z 36)), (1, .int p0)] rfl (fun p e s m args below meth c C => w_X12_wrongRow_e C p0 σ)
abbrev rX12_town : Room := { frames := 5, cells := 0, slots := 0, locals := 115 }

set_option maxHeartbeats 4000000 in
set_option maxRecDepth 100000 in
theorem w_X12_town_84 {l : Launch} {Z : zzG} {base : Nat} {PL : Nat → Option (Nat × Int32)} {mm : zzS} {p : Program} {e : Env} {s : State} {m : MethodId} {args : Array Value} {below : List Frame} {meth : Method} {c : Code} (C : zzCx p m meth c s args cX12_town 4 wsX12_town RX12 (some .int) Z) (p0 : Int32)  (k57 : zzS → Option (Int32 × zzS)) (hk57 : ∀  (σ : zzS), zzGO p l e rX12_town s m args below meth c 4 (zzA base) (zzM Z base PL mm) (zzM Z base PL mm) zzRI rX12_town.cells rX12_town.slots (k57 σ) σ 0 0 57 [(0, .ref (zzad Z 36)), (1, .int p0)] [])  (σ : zzS) : zzGO p l e rX12_town s m args below meth c 4 (zzA base) (zzM Z base PL mm) (zzM Z base PL mm) zzRI rX12_town.cells rX12_town.slots (f_X12_town_84 k57 p0 σ) σ 0 0 84 [(0, .ref (zzad Z 36)), (1, .int p0)] [] := by
  unfold f_X12_town_84
  refine zz_aload_n C dX12_town_84 rfl 0 rfl ?_
  refine zz_callV C (Cn := RX12) (b := zzad Z 36) (fun H hH => zz_recv C.2.2.2 (zzM_obj H hH) rfl) (As := []) (rest := []) rfl (k_X12_readStatement σ) (cwV 0 C.1.2.2.2.2 gX12_town_X12_readStatement rfl rfl rfl (by decide +kernel) ⟨Nat.le_of_ble_eq_true rfl, Nat.le_of_ble_eq_true rfl⟩) rfl (Nat.le_of_ble_eq_true rfl) ⟨Nat.zero_le _, Nat.zero_le _⟩ dX12_town_85 (zz_kV rfl rfl (fun r1 σ2 => ?_))
  refine zz_goto (tgt := 57) C dX12_town_88 (by decide) ?_
  refine zz_sub (loc' := [(0, .ref (zzad Z 36)), (1, .int p0)]) [0, 1] rfl ?_
  exact hk57 σ2
set_option maxHeartbeats 4000000 in
set_option maxRecDepth 100000 in
theorem w_X12_town_113b {l : Launch} {Z : zzG} {base : Nat} {PL : Nat → Option (Nat × Int32)} {mm : zzS} {p : Program} {e : Env} {s : State} {m : MethodId} {args : Array Value} {below : List Frame} {meth : Method} {c : Code} (C : zzCx p m meth c s args cX12_town 4 wsX12_town RX12 (some .int) Z) (p0 : Int32)   (k113 : Int32 → zzS → Option (Int32 × zzS)) (hk113 : ∀ (l3 : Int32)  (σ : zzS), zzGO p l e rX12_town s m args below meth c 4 (zzA base) (zzM Z base PL mm) (zzM Z base PL mm) zzRI rX12_town.cells rX12_town.slots (k113 l3 σ) σ 0 0 113 [(0, .ref (zzad Z 36)), (3, .int l3)] []) (l3 : Int32)  (σ : zzS) : zzGO p l e rX12_town s m args below meth c 4 (zzA base) (zzM Z base PL mm) (zzM Z base PL mm) zzRI rX12_town.cells rX12_town.slots (f_X12_town_113b k113 p0 l3 σ) σ 0 0 113 [(0, .ref (zzad Z 36)), (3, .int l3)] [] := by
  unfold f_X12_town_113b
  refine zz_iload_n C dX12_town_113 rfl 1 rfl ?_
  refine zz_aload_n C dX12_town_114 rfl 0 rfl ?_
  refine zz_get C zzM_obj (fun _ h9 => List.mem_cons_of_mem _ (List.mem_append_right _ (h9))) rfl 17 (by decide) (List.mem_of_getElem? (i := 6) rfl) (Or.inl rfl) rfl dX12_town_115 ?_
  refine zz_icmp_ge (tgt := 150) C dX12_town_118 (by decide) (fun h1 => ?_) (fun h1 => ?_)
  · refine zz_aload_n C dX12_town_150 rfl 0 rfl ?_
    refine zz_get C zzM_obj (fun _ h9 => List.mem_cons_of_mem _ (List.mem_append_right _ (h9))) rfl 17 (by decide) (List.mem_of_getElem? (i := 6) rfl) (Or.inl rfl) rfl dX12_town_151 ?_
    exact zz_iret C rfl rfl (fun _ h9 => h9) (Nat.zero_le _) (Nat.zero_le _) dX12_town_154
  · refine zz_aload_n C dX12_town_121 rfl 0 rfl ?_
    refine zz_iload_n C dX12_town_122 rfl 1 rfl ?_
    refine zz_callV C (Cn := RX12) (b := zzad Z 36) (fun H hH => zz_recv C.2.2.2 (zzM_obj H hH) rfl) (As := [.int l3]) (rest := []) rfl (k_X12_comesTold l3 σ) (cwV 1 C.1.2.2.2.2 gX12_town_X12_comesTold rfl rfl rfl (by decide +kernel) ⟨Nat.le_of_ble_eq_true rfl, Nat.le_of_ble_eq_true rfl⟩) rfl (Nat.le_of_ble_eq_true rfl) ⟨Nat.zero_le _, Nat.zero_le _⟩ dX12_town_123 (zz_kI rfl rfl (fun r2 σ3 => ?_))
    refine zz_if_ne (tgt := 144) C dX12_town_126 (by decide) (fun h4 => ?_) (fun h4 => ?_)
    · refine zz_iincX (d := 1) (locf := fun x5 => [(3, .int x5), (0, .ref (zzad Z 36))]) C dX12_town_144 (k := 1) rfl (by decide) (by decide) (fun _ => rfl) (fun x5 => ?_)
      refine zz_goto (tgt := 113) C dX12_town_147 (by decide) ?_
      refine zz_sub (loc' := [(0, .ref (zzad Z 36)), (3, .int x5)]) [1, 0] rfl ?_
      exact hk113 x5 σ3
    · refine zz_aload_n C dX12_town_129 rfl 0 rfl ?_
      refine zz_callV C (Cn := RX12) (b := zzad Z 36) (fun H hH => zz_recv C.2.2.2 (zzM_obj H hH) rfl) (As := []) (rest := []) rfl (k_X12_close σ3) (cwV 0 C.1.2.2.2.2 gX12_town_X12_close rfl rfl rfl (by decide +kernel) ⟨Nat.le_of_ble_eq_true rfl, Nat.le_of_ble_eq_true rfl⟩) rfl (Nat.le_of_ble_eq_true rfl) ⟨Nat.zero_le _, Nat.zero_le _⟩ dX12_town_130 (zz_kV rfl rfl (fun r6 σ7 => ?_))
      refine zz_sipush (v := -2000) C dX12_town_133 (by decide) ?_
      refine zz_aload_n C dX12_town_136 rfl 0 rfl ?_
      refine zz_get C zzM_obj (fun _ h9 => List.mem_cons_of_mem _ (List.mem_append_right _ (h9))) rfl 18 (by decide) (List.mem_of_getElem? (i := 8) rfl) (Or.inl rfl) rfl dX12_town_137 ?_
      refine zz_iload_n C dX12_town_140 rfl 1 rfl ?_
      refine zz_gd (fun h8 => ?_)
      refine zz_iald C (zzM_arr (by decide)) h8 dX12_town_141 ?_
      refine zz_isub C dX12_town_142 ?_
      exact zz_iret C rfl rfl (fun _ h9 => h9) (Nat.zero_le _) (Nat.zero_le _) dX12_town_143
set_option maxHeartbeats 4000000 in
set_option maxRecDepth 100000 in
theorem w_X12_town_113 {l : Launch} {Z : zzG} {base : Nat} {PL : Nat → Option (Nat × Int32)} {mm : zzS} {p : Program} {e : Env} {s : State} {m : MethodId} {args : Array Value} {below : List Frame} {meth : Method} {c : Code} (C : zzCx p m meth c s args cX12_town 4 wsX12_town RX12 (some .int) Z) (p0 : Int32)   (n : Nat) : ∀ (l3 : Int32)  (σ : zzS), zzGO p l e rX12_town s m args below meth c 4 (zzA base) (zzM Z base PL mm) (zzM Z base PL mm) zzRI rX12_town.cells rX12_town.slots (f_X12_town_113 p0 n l3 σ) σ 0 0 113 [(0, .ref (zzad Z 36)), (3, .int l3)] [] := by
  induction n with
  | zero => exact fun _ _ r9 s9 h9 => by cases h9
  | succ n ih => exact w_X12_town_113b C p0 _ ih
set_option maxHeartbeats 4000000 in
set_option maxRecDepth 100000 in
theorem w_X12_town_91 {l : Launch} {Z : zzG} {base : Nat} {PL : Nat → Option (Nat × Int32)} {mm : zzS} {p : Program} {e : Env} {s : State} {m : MethodId} {args : Array Value} {below : List Frame} {meth : Method} {c : Code} (C : zzCx p m meth c s args cX12_town 4 wsX12_town RX12 (some .int) Z) (p0 : Int32)    (σ : zzS) : zzGO p l e rX12_town s m args below meth c 4 (zzA base) (zzM Z base PL mm) (zzM Z base PL mm) zzRI rX12_town.cells rX12_town.slots (f_X12_town_91 p0 σ) σ 0 0 91 [(0, .ref (zzad Z 36))] [] := by
  unfold f_X12_town_91
  refine zz_aload_n C dX12_town_91 rfl 0 rfl ?_
  refine zz_get C zzM_obj (fun _ h9 => List.mem_cons_of_mem _ (List.mem_append_right _ (h9))) rfl 16 (by decide) (List.mem_of_getElem? (i := 5) rfl) (Or.inl rfl) rfl dX12_town_92 ?_
  refine zz_if_eq (tgt := 107) C dX12_town_95 (by decide) (fun h1 => ?_) (fun h1 => ?_)
  · refine zz_aload_n C dX12_town_107 rfl 0 rfl ?_
    refine zz_callV C (Cn := RX12) (b := zzad Z 36) (fun H hH => zz_recv C.2.2.2 (zzM_obj H hH) rfl) (As := []) (rest := []) rfl (k_X12_open σ) (cwV 0 C.1.2.2.2.2 gX12_town_X12_open rfl rfl rfl (by decide +kernel) ⟨Nat.le_of_ble_eq_true rfl, Nat.le_of_ble_eq_true rfl⟩) rfl (Nat.le_of_ble_eq_true rfl) ⟨Nat.zero_le _, Nat.zero_le _⟩ dX12_town_108 (zz_kV rfl rfl (fun r2 σ3 => ?_))
    refine zz_iconst (v := 0) C dX12_town_111 (by decide) ?_
    refine zz_istore_n (loc' := [(3, .int (0 : Int32)), (0, .ref (zzad Z 36))]) C dX12_town_112 rfl (by decide) rfl ?_
    refine zz_sub (loc' := [(0, .ref (zzad Z 36)), (3, .int (0 : Int32))]) [1, 0] rfl ?_
    exact w_X12_town_113 C p0 200 (0 : Int32) σ3
  · refine zz_sipush (v := -1000) C dX12_town_98 (by decide) ?_
    refine zz_aload_n C dX12_town_101 rfl 0 rfl ?_
    refine zz_get C zzM_obj (fun _ h9 => List.mem_cons_of_mem _ (List.mem_append_right _ (h9))) rfl 15 (by decide) (List.mem_of_getElem? (i := 4) rfl) (Or.inl rfl) rfl dX12_town_102 ?_
    refine zz_isub C dX12_town_105 ?_
    exact zz_iret C rfl rfl (fun _ h9 => h9) (Nat.zero_le _) (Nat.zero_le _) dX12_town_106
set_option maxHeartbeats 4000000 in
set_option maxRecDepth 100000 in
theorem w_X12_town_57b {l : Launch} {Z : zzG} {base : Nat} {PL : Nat → Option (Nat × Int32)} {mm : zzS} {p : Program} {e : Env} {s : State} {m : MethodId} {args : Array Value} {below : List Frame} {meth : Method} {c : Code} (C : zzCx p m meth c s args cX12_town 4 wsX12_town RX12 (some .int) Z) (p0 : Int32)   (k57 : zzS → Option (Int32 × zzS)) (hk57 : ∀  (σ : zzS), zzGO p l e rX12_town s m args below meth c 4 (zzA base) (zzM Z base PL mm) (zzM Z base PL mm) zzRI rX12_town.cells rX12_town.slots (k57 σ) σ 0 0 57 [(0, .ref (zzad Z 36)), (1, .int p0)] [])  (σ : zzS) : zzGO p l e rX12_town s m args below meth c 4 (zzA base) (zzM Z base PL mm) (zzM Z base PL mm) zzRI rX12_town.cells rX12_town.slots (f_X12_town_57b k57 p0 σ) σ 0 0 57 [(0, .ref (zzad Z 36)), (1, .int p0)] [] := by
  unfold f_X12_town_57b
  refine zz_aload_n C dX12_town_57 rfl 0 rfl ?_
  refine zz_get C zzM_obj (fun _ h9 => List.mem_cons_of_mem _ (List.mem_append_right _ (h9))) rfl 16 (by decide) (List.mem_of_getElem? (i := 5) rfl) (Or.inl rfl) rfl dX12_town_58 ?_
  refine zz_if_ne (tgt := 91) C dX12_town_61 (by decide) (fun h1 => ?_) (fun h1 => ?_)
  · refine zz_sub (loc' := [(0, .ref (zzad Z 36))]) [0] rfl ?_
    exact w_X12_town_91 C p0 σ
  · refine zz_aload_n C dX12_town_64 rfl 0 rfl ?_
    refine zz_get C zzM_obj (fun _ h9 => List.mem_cons_of_mem _ (List.mem_append_right _ (h9))) rfl 17 (by decide) (List.mem_of_getElem? (i := 6) rfl) (Or.inl rfl) rfl dX12_town_65 ?_
    refine zz_if_eq (tgt := 84) C dX12_town_68 (by decide) (fun h2 => ?_) (fun h2 => ?_)
    · refine zz_sub (loc' := [(0, .ref (zzad Z 36)), (1, .int p0)]) [0, 1] rfl ?_
      exact w_X12_town_84 C p0 k57 hk57 σ
    · refine zz_aload_n C dX12_town_71 rfl 0 rfl ?_
      refine zz_get C zzM_obj (fun _ h9 => List.mem_cons_of_mem _ (List.mem_append_right _ (h9))) rfl 15 (by decide) (List.mem_of_getElem? (i := 4) rfl) (Or.inl rfl) rfl dX12_town_72 ?_
      refine zz_aload_n C dX12_town_75 rfl 0 rfl ?_
      refine zz_get C zzM_obj (fun _ h9 => List.mem_cons_of_mem _ (List.mem_append_right _ (h9))) rfl 11 (by decide) (List.mem_of_getElem? (i := 7) rfl) (Or.inl rfl) rfl dX12_town_76 ?_
      refine zz_iload_n C dX12_town_79 rfl 1 rfl ?_
      refine zz_gd (fun h3 => ?_)
      refine zz_iald C (zzM_arr (by decide)) h3 dX12_town_80 ?_
      refine zz_icmp_ge (tgt := 91) C dX12_town_81 (by decide) (fun h4 => ?_) (fun h4 => ?_)
      · refine zz_sub (loc' := [(0, .ref (zzad Z 36))]) [0] rfl ?_
        exact w_X12_town_91 C p0 σ
      · refine zz_sub (loc' := [(0, .ref (zzad Z 36)), (1, .int p0)]) [0, 1] rfl ?_
        exact w_X12_town_84 C p0 k57 hk57 σ
set_option maxHeartbeats 4000000 in
set_option maxRecDepth 100000 in
theorem w_X12_town_57 {l : Launch} {Z : zzG} {base : Nat} {PL : Nat → Option (Nat × Int32)} {mm : zzS} {p : Program} {e : Env} {s : State} {m : MethodId} {args : Array Value} {below : List Frame} {meth : Method} {c : Code} (C : zzCx p m meth c s args cX12_town 4 wsX12_town RX12 (some .int) Z) (p0 : Int32)   (n : Nat) : ∀  (σ : zzS), zzGO p l e rX12_town s m args below meth c 4 (zzA base) (zzM Z base PL mm) (zzM Z base PL mm) zzRI rX12_town.cells rX12_town.slots (f_X12_town_57 p0 n σ) σ 0 0 57 [(0, .ref (zzad Z 36)), (1, .int p0)] [] := by
  induction n with
  | zero => exact fun _ r9 s9 h9 => by cases h9
  | succ n ih => exact w_X12_town_57b C p0 _ ih
set_option maxHeartbeats 4000000 in
set_option maxRecDepth 100000 in
theorem w_X12_town_30 {l : Launch} {Z : zzG} {base : Nat} {PL : Nat → Option (Nat × Int32)} {mm : zzS} {p : Program} {e : Env} {s : State} {m : MethodId} {args : Array Value} {below : List Frame} {meth : Method} {c : Code} (C : zzCx p m meth c s args cX12_town 4 wsX12_town RX12 (some .int) Z) (p0 : Int32)   (s0 : Int32)  (σ : zzS) : zzGO p l e rX12_town s m args below meth c 4 (zzA base) (zzM Z base PL mm) (zzM Z base PL mm) zzRI rX12_town.cells rX12_town.slots (f_X12_town_30 p0 s0 σ) σ 0 0 30 [(0, .ref (zzad Z 36)), (1, .int p0)] [.int s0] := by
  unfold f_X12_town_30
  refine zz_istore_n (loc' := [(2, .int s0), (0, .ref (zzad Z 36)), (1, .int p0)]) C dX12_town_30 rfl (by decide) rfl ?_
  refine zz_iload_n C dX12_town_31 rfl 0 rfl ?_
  refine zz_if_ge (tgt := 37) C dX12_town_32 (by decide) (fun h1 => ?_) (fun h1 => ?_)
  · refine zz_aload_n C dX12_town_37 rfl 1 rfl ?_
    refine zz_iload_n C dX12_town_38 rfl 2 rfl ?_
    refine zz_put (ty := .int) C zzM_obj (fun _ h9 => List.mem_cons_of_mem _ (List.mem_append_right _ (h9))) rfl 14 (by decide) (List.mem_of_getElem? (i := 3) rfl) rfl tyX12_ok nmX12 rfl (by decide +kernel) rfl rfl (Nat.le_of_ble_eq_true rfl) (zzM_uobj (by decide)) (zzA_M (by decide)) dX12_town_39 ?_
    refine zz_ltS (fun σ2 => ?_)
    refine zz_aload_n C dX12_town_42 rfl 1 rfl ?_
    refine zz_iconst (v := 0) C dX12_town_43 (by decide) ?_
    refine zz_put (ty := .int) C zzM_obj (fun _ h9 => List.mem_cons_of_mem _ (List.mem_append_right _ (h9))) rfl 15 (by decide) (List.mem_of_getElem? (i := 4) rfl) rfl tyX12_ok nmX12 rfl (by decide +kernel) rfl rfl (Nat.le_of_ble_eq_true rfl) (zzM_uobj (by decide)) (zzA_M (by decide)) dX12_town_44 ?_
    refine zz_ltS (fun σ3 => ?_)
    refine zz_aload_n C dX12_town_47 rfl 1 rfl ?_
    refine zz_iconst (v := 0) C dX12_town_48 (by decide) ?_
    refine zz_put (ty := .boolean) C zzM_obj (fun _ h9 => List.mem_cons_of_mem _ (List.mem_append_right _ (h9))) rfl 16 (by decide) (List.mem_of_getElem? (i := 5) rfl) rfl tyX12_ok nmX12 rfl (by decide +kernel) rfl rfl (Nat.le_of_ble_eq_true rfl) (zzM_uobj (by decide)) (zzA_M (by decide)) dX12_town_49 ?_
    refine zz_ltS (fun σ4 => ?_)
    refine zz_aload_n C dX12_town_52 rfl 1 rfl ?_
    refine zz_iconst (v := 0) C dX12_town_53 (by decide) ?_
    refine zz_put (ty := .int) C zzM_obj (fun _ h9 => List.mem_cons_of_mem _ (List.mem_append_right _ (h9))) rfl 17 (by decide) (List.mem_of_getElem? (i := 6) rfl) rfl tyX12_ok nmX12 rfl (by decide +kernel) rfl rfl (Nat.le_of_ble_eq_true rfl) (zzM_uobj (by decide)) (zzA_M (by decide)) dX12_town_54 ?_
    refine zz_ltS (fun σ5 => ?_)
    refine zz_sub (loc' := [(0, .ref (zzad Z 36)), (1, .int p0)]) [1, 2] rfl ?_
    exact w_X12_town_57 C p0 200 σ5
  · refine zz_iload_n C dX12_town_35 rfl 0 rfl ?_
    exact zz_iret C rfl rfl (fun _ h9 => h9) (Nat.zero_le _) (Nat.zero_le _) dX12_town_36
set_option maxHeartbeats 4000000 in
set_option maxRecDepth 100000 in
theorem w_X12_town_29 {l : Launch} {Z : zzG} {base : Nat} {PL : Nat → Option (Nat × Int32)} {mm : zzS} {p : Program} {e : Env} {s : State} {m : MethodId} {args : Array Value} {below : List Frame} {meth : Method} {c : Code} (C : zzCx p m meth c s args cX12_town 4 wsX12_town RX12 (some .int) Z) (p0 : Int32)   (l2 : Int32)  (σ : zzS) : zzGO p l e rX12_town s m args below meth c 4 (zzA base) (zzM Z base PL mm) (zzM Z base PL mm) zzRI rX12_town.cells rX12_town.slots (f_X12_town_29 p0 l2 σ) σ 0 0 29 [(0, .ref (zzad Z 36)), (1, .int p0), (2, .int l2)] [] := by
  unfold f_X12_town_29
  refine zz_iload_n C dX12_town_29 rfl 2 rfl ?_
  refine zz_sub (loc' := [(0, .ref (zzad Z 36)), (1, .int p0)]) [0, 1] rfl ?_
  exact w_X12_town_30 C p0 l2 σ
set_option maxHeartbeats 4000000 in
set_option maxRecDepth 100000 in
theorem w_X12_town_e {l : Launch} {Z : zzG} {base : Nat} {PL : Nat → Option (Nat × Int32)} {mm : zzS} {p : Program} {e : Env} {s : State} {m : MethodId} {args : Array Value} {below : List Frame} {meth : Method} {c : Code} (C : zzCx p m meth c s args cX12_town 4 wsX12_town RX12 (some .int) Z) (p0 : Int32)  (σ : zzS) : zzGO p l e rX12_town s m args below meth c 4 (zzA base) (zzM Z base PL mm) (zzM Z base PL mm) zzRI rX12_town.cells rX12_town.slots (f_X12_town p0 σ) σ 0 0 0 [(0, .ref (zzad Z 36)), (1, .int p0)] [] := by
  unfold f_X12_town
  refine zz_aload_n C dX12_town_0 rfl 0 rfl ?_
  refine zz_iconst (v := 0) C dX12_town_1 (by decide) ?_
  refine zz_put (ty := .int) C zzM_obj (fun _ h9 => List.mem_cons_of_mem _ (List.mem_append_right _ (h9))) rfl 13 (by decide) (List.mem_of_getElem? (i := 1) rfl) rfl tyX12_ok nmX12 rfl (by decide +kernel) rfl rfl (Nat.le_of_ble_eq_true rfl) (zzM_uobj (by decide)) (zzA_M (by decide)) dX12_town_2 ?_
  refine zz_ltS (fun σ1 => ?_)
  refine zz_aload_n C dX12_town_5 rfl 0 rfl ?_
  refine zz_iload_n C dX12_town_6 rfl 1 rfl ?_
  refine zz_callV C (Cn := RX12) (b := zzad Z 36) (fun H hH => zz_recv C.2.2.2 (zzM_obj H hH) rfl) (As := [.int p0]) (rest := []) rfl (k_X12_wrongRow p0 σ1) (cwV 1 C.1.2.2.2.2 gX12_town_X12_wrongRow rfl rfl rfl (by decide +kernel) ⟨Nat.le_of_ble_eq_true rfl, Nat.le_of_ble_eq_true rfl⟩) rfl (Nat.le_of_ble_eq_true rfl) ⟨Nat.zero_le _, Nat.zero_le _⟩ dX12_town_7 (zz_kI rfl rfl (fun r2 σ3 => ?_))
  refine zz_istore_n (loc' := [(2, .int r2), (0, .ref (zzad Z 36)), (1, .int p0)]) C dX12_town_10 rfl (by decide) rfl ?_
  refine zz_iload_n C dX12_town_11 rfl 0 rfl ?_
  refine zz_if_ne (tgt := 29) C dX12_town_12 (by decide) (fun h4 => ?_) (fun h4 => ?_)
  · refine zz_sub (loc' := [(0, .ref (zzad Z 36)), (1, .int p0), (2, .int r2)]) [1, 2, 0] rfl ?_
    exact w_X12_town_29 C p0 r2 σ3
  · refine zz_aload_n C dX12_town_15 rfl 1 rfl ?_
    refine zz_get C zzM_obj (fun _ h9 => List.mem_cons_of_mem _ (List.mem_append_right _ (h9))) rfl 10 (by decide) (List.mem_of_getElem? (i := 2) rfl) (Or.inl rfl) rfl dX12_town_16 ?_
    refine zz_iload_n C dX12_town_19 rfl 2 rfl ?_
    refine zz_gd (fun h5 => ?_)
    refine zz_iald C (zzM_arr (by decide)) h5 dX12_town_20 ?_
    refine zz_if_eq (tgt := 29) C dX12_town_21 (by decide) (fun h6 => ?_) (fun h6 => ?_)
    · refine zz_sub (loc' := [(0, .ref (zzad Z 36)), (1, .int p0), (2, .int r2)]) [1, 2, 0] rfl ?_
      exact w_X12_town_29 C p0 r2 σ3
    · refine zz_bipush (v := -12) C dX12_town_24 (by decide) ?_
      refine zz_goto (tgt := 30) C dX12_town_26 (by decide) ?_
      refine zz_sub (loc' := [(0, .ref (zzad Z 36)), (1, .int p0)]) [1, 2] rfl ?_
      exact w_X12_town_30 C p0 (-12 : Int32) σ3
set_option maxHeartbeats 4000000 in
set_option maxRecDepth 100000 in
theorem k_X12_town {l : Launch} {Z : zzG} {base : Nat} {PL : Nat → Option (Nat × Int32)} {mm : zzS} (p0 : Int32)  (σ : zzS) : zzCT l yX12_town wsX12_town rX12_town (zzA base) Z (zzM Z base PL mm) (zzM Z base PL mm) zzRI [.ref (zzad Z 36), .int p0] (f_X12_town p0 σ) σ :=
  zzCT_of (cc := cX12_town) (nL := 4) (ret := (some .int)) (by decide) rfl (Nat.le_of_ble_eq_true rfl) [(0, .ref (zzad Z 36)), (1, .int p0)] rfl (fun p e s m args below meth c C => w_X12_town_e C p0 σ)
abbrev rX12_image : Room := { frames := 2, cells := 0, slots := 0, locals := 44 }

set_option maxHeartbeats 4000000 in
set_option maxRecDepth 100000 in
theorem w_X12_image_e {l : Launch} {Z : zzG} {base : Nat} {PL : Nat → Option (Nat × Int32)} {mm : zzS} {p : Program} {e : Env} {s : State} {m : MethodId} {args : Array Value} {below : List Frame} {meth : Method} {c : Code} (C : zzCx p m meth c s args cX12_image 1 wsX12_image RX12 (some .int) Z)  (σ : zzS) : zzGO p l e rX12_image s m args below meth c 1 (zzA base) (zzM Z base PL mm) (zzM Z base PL mm) zzRI rX12_image.cells rX12_image.slots (f_X12_image σ) σ 0 0 0 [(0, .ref (zzad Z 36))] [] := by
  unfold f_X12_image
  refine zz_aload_n C dX12_image_0 rfl 0 rfl ?_
  refine zz_iconst (v := 0) C dX12_image_1 (by decide) ?_
  refine zz_put (ty := .int) C zzM_obj (fun _ h9 => List.mem_cons_of_mem _ (List.mem_append_right _ (h9))) rfl 13 (by decide) (List.mem_of_getElem? (i := 1) rfl) rfl tyX12_ok nmX12 rfl (by decide +kernel) rfl rfl (Nat.le_of_ble_eq_true rfl) (zzM_uobj (by decide)) (zzA_M (by decide)) dX12_image_2 ?_
  refine zz_ltS (fun σ1 => ?_)
  refine zz_aload_n C dX12_image_5 rfl 0 rfl ?_
  refine zz_iconst (v := 1) C dX12_image_6 (by decide) ?_
  refine zz_put (ty := .boolean) C zzM_obj (fun _ h9 => List.mem_cons_of_mem _ (List.mem_append_right _ (h9))) rfl 23 (by decide) (List.mem_of_getElem? (i := 2) rfl) rfl tyX12_ok nmX12 rfl (by decide +kernel) rfl rfl (Nat.le_of_ble_eq_true rfl) (zzM_uobj (by decide)) (zzA_M (by decide)) dX12_image_7 ?_
  refine zz_ltS (fun σ2 => ?_)
  refine zz_aload_n C dX12_image_10 rfl 0 rfl ?_
  refine zz_aload_n C dX12_image_11 rfl 0 rfl ?_
  refine zz_get C zzM_obj (fun _ h9 => List.mem_cons_of_mem _ (List.mem_append_right _ (h9))) rfl 22 (by decide) (List.mem_of_getElem? (i := 3) rfl) (Or.inl rfl) rfl dX12_image_12 ?_
  refine zz_iconst (v := 1) C dX12_image_15 (by decide) ?_
  refine zz_callV C (Cn := RX12) (b := zzad Z 36) (fun H hH => zz_recv C.2.2.2 (zzM_obj H hH) rfl) (As := [.ref (zzad Z 50), .int (1 : Int32)]) (rest := []) rfl (k_X12_carryAll 50 (by decide) (1 : Int32) σ2) (cwV 2 C.1.2.2.2.2 gX12_image_X12_carryAll rfl rfl rfl (by decide +kernel) ⟨Nat.le_of_ble_eq_true rfl, Nat.le_of_ble_eq_true rfl⟩) rfl (Nat.le_of_ble_eq_true rfl) ⟨Nat.zero_le _, Nat.zero_le _⟩ dX12_image_16 (zz_kV rfl rfl (fun r3 σ4 => ?_))
  refine zz_aload_n C dX12_image_19 rfl 0 rfl ?_
  refine zz_get C zzM_obj (fun _ h9 => List.mem_cons_of_mem _ (List.mem_append_right _ (h9))) rfl 6 (by decide) (List.mem_of_getElem? (i := 4) rfl) (Or.inl rfl) rfl dX12_image_20 ?_
  exact zz_iret C rfl rfl (fun _ h9 => h9) (Nat.zero_le _) (Nat.zero_le _) dX12_image_23
set_option maxHeartbeats 4000000 in
set_option maxRecDepth 100000 in
theorem k_X12_image {l : Launch} {Z : zzG} {base : Nat} {PL : Nat → Option (Nat × Int32)} {mm : zzS}  (σ : zzS) : zzCT l yX12_image wsX12_image rX12_image (zzA base) Z (zzM Z base PL mm) (zzM Z base PL mm) zzRI [.ref (zzad Z 36)] (f_X12_image σ) σ :=
  zzCT_of (cc := cX12_image) (nL := 1) (ret := (some .int)) (by decide) rfl (Nat.le_of_ble_eq_true rfl) [(0, .ref (zzad Z 36))] rfl (fun p e s m args below meth c C => w_X12_image_e C σ)
abbrev rX12_restore : Room := { frames := 2, cells := 0, slots := 0, locals := 44 }

set_option maxHeartbeats 4000000 in
set_option maxRecDepth 100000 in
theorem w_X12_restore_e {l : Launch} {Z : zzG} {base : Nat} {PL : Nat → Option (Nat × Int32)} {mm : zzS} {p : Program} {e : Env} {s : State} {m : MethodId} {args : Array Value} {below : List Frame} {meth : Method} {c : Code} (C : zzCx p m meth c s args cX12_restore 1 wsX12_restore RX12 (some .int) Z)  (σ : zzS) : zzGO p l e rX12_restore s m args below meth c 1 (zzA base) (zzM Z base PL mm) (zzM Z base PL mm) zzRI rX12_restore.cells rX12_restore.slots (f_X12_restore σ) σ 0 0 0 [(0, .ref (zzad Z 36))] [] := by
  unfold f_X12_restore
  refine zz_aload_n C dX12_restore_0 rfl 0 rfl ?_
  refine zz_iconst (v := 0) C dX12_restore_1 (by decide) ?_
  refine zz_put (ty := .int) C zzM_obj (fun _ h9 => List.mem_cons_of_mem _ (List.mem_append_right _ (h9))) rfl 13 (by decide) (List.mem_of_getElem? (i := 1) rfl) rfl tyX12_ok nmX12 rfl (by decide +kernel) rfl rfl (Nat.le_of_ble_eq_true rfl) (zzM_uobj (by decide)) (zzA_M (by decide)) dX12_restore_2 ?_
  refine zz_ltS (fun σ1 => ?_)
  refine zz_aload_n C dX12_restore_5 rfl 0 rfl ?_
  refine zz_get C zzM_obj (fun _ h9 => List.mem_cons_of_mem _ (List.mem_append_right _ (h9))) rfl 23 (by decide) (List.mem_of_getElem? (i := 2) rfl) (Or.inl rfl) rfl dX12_restore_6 ?_
  refine zz_if_ne (tgt := 15) C dX12_restore_9 (by decide) (fun h2 => ?_) (fun h2 => ?_)
  · refine zz_aload_n C dX12_restore_15 rfl 0 rfl ?_
    refine zz_aload_n C dX12_restore_16 rfl 0 rfl ?_
    refine zz_get C zzM_obj (fun _ h9 => List.mem_cons_of_mem _ (List.mem_append_right _ (h9))) rfl 22 (by decide) (List.mem_of_getElem? (i := 3) rfl) (Or.inl rfl) rfl dX12_restore_17 ?_
    refine zz_iconst (v := 0) C dX12_restore_20 (by decide) ?_
    refine zz_callV C (Cn := RX12) (b := zzad Z 36) (fun H hH => zz_recv C.2.2.2 (zzM_obj H hH) rfl) (As := [.ref (zzad Z 50), .int (0 : Int32)]) (rest := []) rfl (k_X12_carryAll 50 (by decide) (0 : Int32) σ1) (cwV 2 C.1.2.2.2.2 gX12_restore_X12_carryAll rfl rfl rfl (by decide +kernel) ⟨Nat.le_of_ble_eq_true rfl, Nat.le_of_ble_eq_true rfl⟩) rfl (Nat.le_of_ble_eq_true rfl) ⟨Nat.zero_le _, Nat.zero_le _⟩ dX12_restore_21 (zz_kV rfl rfl (fun r3 σ4 => ?_))
    refine zz_aload_n C dX12_restore_24 rfl 0 rfl ?_
    refine zz_get C zzM_obj (fun _ h9 => List.mem_cons_of_mem _ (List.mem_append_right _ (h9))) rfl 6 (by decide) (List.mem_of_getElem? (i := 4) rfl) (Or.inl rfl) rfl dX12_restore_25 ?_
    exact zz_iret C rfl rfl (fun _ h9 => h9) (Nat.zero_le _) (Nat.zero_le _) dX12_restore_28
  · refine zz_bipush (v := -3) C dX12_restore_12 (by decide) ?_
    exact zz_iret C rfl rfl (fun _ h9 => h9) (Nat.zero_le _) (Nat.zero_le _) dX12_restore_14
set_option maxHeartbeats 4000000 in
set_option maxRecDepth 100000 in
theorem k_X12_restore {l : Launch} {Z : zzG} {base : Nat} {PL : Nat → Option (Nat × Int32)} {mm : zzS}  (σ : zzS) : zzCT l yX12_restore wsX12_restore rX12_restore (zzA base) Z (zzM Z base PL mm) (zzM Z base PL mm) zzRI [.ref (zzad Z 36)] (f_X12_restore σ) σ :=
  zzCT_of (cc := cX12_restore) (nL := 1) (ret := (some .int)) (by decide) rfl (Nat.le_of_ble_eq_true rfl) [(0, .ref (zzad Z 36))] rfl (fun p e s m args below meth c C => w_X12_restore_e C σ)
abbrev rX12_person : Room := { frames := 2, cells := 0, slots := 0, locals := 46 }

set_option maxHeartbeats 4000000 in
set_option maxRecDepth 100000 in
theorem w_X12_person_e {l : Launch} {Z : zzG} {base : Nat} {PL : Nat → Option (Nat × Int32)} {mm : zzS} {p : Program} {e : Env} {s : State} {m : MethodId} {args : Array Value} {below : List Frame} {meth : Method} {c : Code} (C : zzCx p m meth c s args cX12_person 3 wsX12_person RX12 (some .int) Z) (p0 : Int32)  (p1 : Int32)  (σ : zzS) : zzGO p l e rX12_person s m args below meth c 3 (zzA base) (zzM Z base PL mm) (zzM Z base PL mm) zzRI rX12_person.cells rX12_person.slots (f_X12_person p0 p1 σ) σ 0 0 0 [(0, .ref (zzad Z 36)), (1, .int p0), (2, .int p1)] [] := by
  unfold f_X12_person
  refine zz_aload_n C dX12_person_0 rfl 0 rfl ?_
  refine zz_iconst (v := 0) C dX12_person_1 (by decide) ?_
  refine zz_put (ty := .int) C zzM_obj (fun _ h9 => List.mem_cons_of_mem _ (List.mem_append_right _ (h9))) rfl 13 (by decide) (List.mem_of_getElem? (i := 1) rfl) rfl tyX12_ok nmX12 rfl (by decide +kernel) rfl rfl (Nat.le_of_ble_eq_true rfl) (zzM_uobj (by decide)) (zzA_M (by decide)) dX12_person_2 ?_
  refine zz_ltS (fun σ1 => ?_)
  refine zz_aload_n C dX12_person_5 rfl 0 rfl ?_
  refine zz_iload_n C dX12_person_6 rfl 1 rfl ?_
  refine zz_callV C (Cn := RX12) (b := zzad Z 36) (fun H hH => zz_recv C.2.2.2 (zzM_obj H hH) rfl) (As := [.int p0]) (rest := []) rfl (k_X12_isOne p0 σ1) (cwV 1 C.1.2.2.2.2 gX12_person_X12_isOne rfl rfl rfl (by decide +kernel) ⟨Nat.le_of_ble_eq_true rfl, Nat.le_of_ble_eq_true rfl⟩) rfl (Nat.le_of_ble_eq_true rfl) ⟨Nat.zero_le _, Nat.zero_le _⟩ dX12_person_7 (zz_kI rfl rfl (fun r2 σ3 => ?_))
  refine zz_if_ne (tgt := 15) C dX12_person_10 (by decide) (fun h4 => ?_) (fun h4 => ?_)
  · refine zz_iload_n C dX12_person_15 rfl 2 rfl ?_
    refine zz_ite (fun h5 => ?_) (fun h5 => ?_)
    · refine zz_tblIn (off := 40) (tgt := 56) C dX12_person_16 (by rw [h5]; decide) (by rw [h5]; decide) (by rw [h5]; rfl) (by decide) ?_
      refine zz_aload_n C dX12_person_56 rfl 0 rfl ?_
      refine zz_get C zzM_obj (fun _ h9 => List.mem_cons_of_mem _ (List.mem_append_right _ (h9))) rfl 1 (by decide) (List.mem_of_getElem? (i := 2) rfl) (Or.inl rfl) rfl dX12_person_57 ?_
      refine zz_iload_n C dX12_person_60 rfl 1 rfl ?_
      refine zz_gd (fun h11 => ?_)
      refine zz_iald C (zzM_arr (by decide)) h11 dX12_person_61 ?_
      exact zz_iret C rfl rfl (fun _ h9 => h9) (Nat.zero_le _) (Nat.zero_le _) dX12_person_62
    · skip
      refine zz_ite (fun h6 => ?_) (fun h6 => ?_)
      · refine zz_tblIn (off := 47) (tgt := 63) C dX12_person_16 (by rw [h6]; decide) (by rw [h6]; decide) (by rw [h6]; rfl) (by decide) ?_
        refine zz_aload_n C dX12_person_63 rfl 0 rfl ?_
        refine zz_get C zzM_obj (fun _ h9 => List.mem_cons_of_mem _ (List.mem_append_right _ (h9))) rfl 2 (by decide) (List.mem_of_getElem? (i := 3) rfl) (Or.inl rfl) rfl dX12_person_64 ?_
        refine zz_iload_n C dX12_person_67 rfl 1 rfl ?_
        refine zz_gd (fun h12 => ?_)
        refine zz_iald C (zzM_arr (by decide)) h12 dX12_person_68 ?_
        exact zz_iret C rfl rfl (fun _ h9 => h9) (Nat.zero_le _) (Nat.zero_le _) dX12_person_69
      · skip
        refine zz_ite (fun h7 => ?_) (fun h7 => ?_)
        · refine zz_tblIn (off := 54) (tgt := 70) C dX12_person_16 (by rw [h7]; decide) (by rw [h7]; decide) (by rw [h7]; rfl) (by decide) ?_
          refine zz_aload_n C dX12_person_70 rfl 0 rfl ?_
          refine zz_get C zzM_obj (fun _ h9 => List.mem_cons_of_mem _ (List.mem_append_right _ (h9))) rfl 3 (by decide) (List.mem_of_getElem? (i := 4) rfl) (Or.inl rfl) rfl dX12_person_71 ?_
          refine zz_iload_n C dX12_person_74 rfl 1 rfl ?_
          refine zz_gd (fun h13 => ?_)
          refine zz_iald C (zzM_arr (by decide)) h13 dX12_person_75 ?_
          exact zz_iret C rfl rfl (fun _ h9 => h9) (Nat.zero_le _) (Nat.zero_le _) dX12_person_76
        · skip
          refine zz_ite (fun h8 => ?_) (fun h8 => ?_)
          · refine zz_tblIn (off := 61) (tgt := 77) C dX12_person_16 (by rw [h8]; decide) (by rw [h8]; decide) (by rw [h8]; rfl) (by decide) ?_
            refine zz_aload_n C dX12_person_77 rfl 0 rfl ?_
            refine zz_iload_n C dX12_person_78 rfl 1 rfl ?_
            refine zz_callV C (Cn := RX12) (b := zzad Z 36) (fun H hH => zz_recv C.2.2.2 (zzM_obj H hH) rfl) (As := [.int p0]) (rest := []) rfl (k_X12_growsOf p0 σ3) (cwV 1 C.1.2.2.2.2 gX12_person_X12_growsOf rfl rfl rfl (by decide +kernel) ⟨Nat.le_of_ble_eq_true rfl, Nat.le_of_ble_eq_true rfl⟩) rfl (Nat.le_of_ble_eq_true rfl) ⟨Nat.zero_le _, Nat.zero_le _⟩ dX12_person_79 (zz_kI rfl rfl (fun r14 σ15 => ?_))
            exact zz_iret C rfl rfl (fun _ h9 => h9) (Nat.zero_le _) (Nat.zero_le _) dX12_person_82
          · skip
            refine zz_ite (fun h9 => ?_) (fun h9 => ?_)
            · refine zz_tblIn (off := 67) (tgt := 83) C dX12_person_16 (by rw [h9]; decide) (by rw [h9]; decide) (by rw [h9]; rfl) (by decide) ?_
              refine zz_aload_n C dX12_person_83 rfl 0 rfl ?_
              refine zz_iload_n C dX12_person_84 rfl 1 rfl ?_
              refine zz_callV C (Cn := RX12) (b := zzad Z 36) (fun H hH => zz_recv C.2.2.2 (zzM_obj H hH) rfl) (As := [.int p0]) (rest := []) rfl (k_X12_bearsOf p0 σ3) (cwV 1 C.1.2.2.2.2 gX12_person_X12_bearsOf rfl rfl rfl (by decide +kernel) ⟨Nat.le_of_ble_eq_true rfl, Nat.le_of_ble_eq_true rfl⟩) rfl (Nat.le_of_ble_eq_true rfl) ⟨Nat.zero_le _, Nat.zero_le _⟩ dX12_person_85 (zz_kI rfl rfl (fun r16 σ17 => ?_))
              refine zz_bipush (v := 10) C dX12_person_88 (by decide) ?_
              refine zz_iadd C dX12_person_90 ?_
              exact zz_iret C rfl rfl (fun _ h9 => h9) (Nat.zero_le _) (Nat.zero_le _) dX12_person_91
            · skip
              refine zz_ite (fun h10 => ?_) (fun h10 => ?_)
              · refine zz_tblIn (off := 76) (tgt := 92) C dX12_person_16 (by rw [h10]; decide) (by rw [h10]; decide) (by rw [h10]; rfl) (by decide) ?_
                refine zz_aload_n C dX12_person_92 rfl 0 rfl ?_
                refine zz_iload_n C dX12_person_93 rfl 1 rfl ?_
                refine zz_callV C (Cn := RX12) (b := zzad Z 36) (fun H hH => zz_recv C.2.2.2 (zzM_obj H hH) rfl) (As := [.int p0]) (rest := []) rfl (k_X12_turnsOf p0 σ3) (cwV 1 C.1.2.2.2.2 gX12_person_X12_turnsOf rfl rfl rfl (by decide +kernel) ⟨Nat.le_of_ble_eq_true rfl, Nat.le_of_ble_eq_true rfl⟩) rfl (Nat.le_of_ble_eq_true rfl) ⟨Nat.zero_le _, Nat.zero_le _⟩ dX12_person_94 (zz_kI rfl rfl (fun r18 σ19 => ?_))
                exact zz_iret C rfl rfl (fun _ h9 => h9) (Nat.zero_le _) (Nat.zero_le _) dX12_person_97
              · skip
                refine zz_tblOut (tgt := 98) C dX12_person_16 (by have := lv_neT h5 (a := 0) (by decide); have := lv_neT h6 (a := 1) (by decide); have := lv_neT h7 (a := 2) (by decide); have := lv_neT h8 (a := 3) (by decide); have := lv_neT h9 (a := 4) (by decide); have := lv_neT h10 (a := 5) (by decide); omega) (by decide) ?_
                refine zz_iconst (v := -1) C dX12_person_98 (by decide) ?_
                exact zz_iret C rfl rfl (fun _ h9 => h9) (Nat.zero_le _) (Nat.zero_le _) dX12_person_99
  · refine zz_iconst (v := -1) C dX12_person_13 (by decide) ?_
    exact zz_iret C rfl rfl (fun _ h9 => h9) (Nat.zero_le _) (Nat.zero_le _) dX12_person_14
set_option maxHeartbeats 4000000 in
set_option maxRecDepth 100000 in
theorem k_X12_person {l : Launch} {Z : zzG} {base : Nat} {PL : Nat → Option (Nat × Int32)} {mm : zzS} (p0 : Int32)  (p1 : Int32)  (σ : zzS) : zzCT l yX12_person wsX12_person rX12_person (zzA base) Z (zzM Z base PL mm) (zzM Z base PL mm) zzRI [.ref (zzad Z 36), .int p0, .int p1] (f_X12_person p0 p1 σ) σ :=
  zzCT_of (cc := cX12_person) (nL := 3) (ret := (some .int)) (by decide) rfl (Nat.le_of_ble_eq_true rfl) [(0, .ref (zzad Z 36)), (1, .int p0), (2, .int p1)] rfl (fun p e s m args below meth c C => w_X12_person_e C p0 p1 σ)
abbrev rX12_fond : Room := { frames := 3, cells := 0, slots := 0, locals := 68 }

set_option maxHeartbeats 4000000 in
set_option maxRecDepth 100000 in
theorem w_X12_fond_e {l : Launch} {Z : zzG} {base : Nat} {PL : Nat → Option (Nat × Int32)} {mm : zzS} {p : Program} {e : Env} {s : State} {m : MethodId} {args : Array Value} {below : List Frame} {meth : Method} {c : Code} (C : zzCx p m meth c s args cX12_fond 3 wsX12_fond RX12 (some .int) Z) (p0 : Int32)  (p1 : Int32)  (σ : zzS) : zzGO p l e rX12_fond s m args below meth c 3 (zzA base) (zzM Z base PL mm) (zzM Z base PL mm) zzRI rX12_fond.cells rX12_fond.slots (f_X12_fond p0 p1 σ) σ 0 0 0 [(0, .ref (zzad Z 36)), (1, .int p0), (2, .int p1)] [] := by
  unfold f_X12_fond
  refine zz_aload_n C dX12_fond_0 rfl 0 rfl ?_
  refine zz_iconst (v := 0) C dX12_fond_1 (by decide) ?_
  refine zz_put (ty := .int) C zzM_obj (fun _ h9 => List.mem_cons_of_mem _ (List.mem_append_right _ (h9))) rfl 13 (by decide) (List.mem_of_getElem? (i := 1) rfl) rfl tyX12_ok nmX12 rfl (by decide +kernel) rfl rfl (Nat.le_of_ble_eq_true rfl) (zzM_uobj (by decide)) (zzA_M (by decide)) dX12_fond_2 ?_
  refine zz_ltS (fun σ1 => ?_)
  refine zz_aload_n C dX12_fond_5 rfl 0 rfl ?_
  refine zz_iload_n C dX12_fond_6 rfl 1 rfl ?_
  refine zz_iload_n C dX12_fond_7 rfl 2 rfl ?_
  refine zz_callV C (Cn := RX12) (b := zzad Z 36) (fun H hH => zz_recv C.2.2.2 (zzM_obj H hH) rfl) (As := [.int p0, .int p1]) (rest := []) rfl (k_X12_areTwo p0 p1 σ1) (cwV 2 C.1.2.2.2.2 gX12_fond_X12_areTwo rfl rfl rfl (by decide +kernel) ⟨Nat.le_of_ble_eq_true rfl, Nat.le_of_ble_eq_true rfl⟩) rfl (Nat.le_of_ble_eq_true rfl) ⟨Nat.zero_le _, Nat.zero_le _⟩ dX12_fond_8 (zz_kI rfl rfl (fun r2 σ3 => ?_))
  refine zz_if_eq (tgt := 28) C dX12_fond_11 (by decide) (fun h4 => ?_) (fun h4 => ?_)
  · refine zz_iconst (v := -1) C dX12_fond_28 (by decide) ?_
    exact zz_iret C rfl rfl (fun _ h9 => h9) (Nat.zero_le _) (Nat.zero_le _) dX12_fond_29
  · refine zz_aload_n C dX12_fond_14 rfl 0 rfl ?_
    refine zz_get C zzM_obj (fun _ h9 => List.mem_cons_of_mem _ (List.mem_append_right _ (h9))) rfl 4 (by decide) (List.mem_of_getElem? (i := 2) rfl) (Or.inl rfl) rfl dX12_fond_15 ?_
    refine zz_bipush (v := 7) C dX12_fond_18 (by decide) ?_
    refine zz_iload_n C dX12_fond_20 rfl 1 rfl ?_
    refine zz_imul C dX12_fond_21 ?_
    refine zz_iload_n C dX12_fond_22 rfl 2 rfl ?_
    refine zz_iadd C dX12_fond_23 ?_
    refine zz_gd (fun h5 => ?_)
    refine zz_iald C (zzM_arr (by decide)) h5 dX12_fond_24 ?_
    refine zz_goto (tgt := 29) C dX12_fond_25 (by decide) ?_
    exact zz_iret C rfl rfl (fun _ h9 => h9) (Nat.zero_le _) (Nat.zero_le _) dX12_fond_29
set_option maxHeartbeats 4000000 in
set_option maxRecDepth 100000 in
theorem k_X12_fond {l : Launch} {Z : zzG} {base : Nat} {PL : Nat → Option (Nat × Int32)} {mm : zzS} (p0 : Int32)  (p1 : Int32)  (σ : zzS) : zzCT l yX12_fond wsX12_fond rX12_fond (zzA base) Z (zzM Z base PL mm) (zzM Z base PL mm) zzRI [.ref (zzad Z 36), .int p0, .int p1] (f_X12_fond p0 p1 σ) σ :=
  zzCT_of (cc := cX12_fond) (nL := 3) (ret := (some .int)) (by decide) rfl (Nat.le_of_ble_eq_true rfl) [(0, .ref (zzad Z 36)), (1, .int p0), (2, .int p1)] rfl (fun p e s m args below meth c C => w_X12_fond_e C p0 p1 σ)
abbrev rX12_wrongKept : Room := { frames := 1, cells := 0, slots := 0, locals := 25 }

set_option maxHeartbeats 4000000 in
set_option maxRecDepth 100000 in
theorem w_X12_wrongKept_e {l : Launch} {Z : zzG} {base : Nat} {PL : Nat → Option (Nat × Int32)} {mm : zzS} {p : Program} {e : Env} {s : State} {m : MethodId} {args : Array Value} {below : List Frame} {meth : Method} {c : Code} (C : zzCx p m meth c s args cX12_wrongKept 2 wsX12_wrongKept RX12 (some .int) Z) (p0 : Int32)  (σ : zzS) : zzGO p l e rX12_wrongKept s m args below meth c 2 (zzA base) (zzM Z base PL mm) (zzM Z base PL mm) zzRI rX12_wrongKept.cells rX12_wrongKept.slots (f_X12_wrongKept p0 σ) σ 0 0 0 [(0, .ref (zzad Z 36)), (1, .int p0)] [] := by
  unfold f_X12_wrongKept
  refine zz_iload_n C dX12_wrongKept_0 rfl 1 rfl ?_
  refine zz_i2l C dX12_wrongKept_1 ?_
  refine zz_lconst (v := 0) C dX12_wrongKept_2 (by decide) ?_
  refine zz_ldc2 (v := 7) C (C.1.2.2.2.2 _ (List.mem_of_getElem? (i := 1) rfl)) dX12_wrongKept_3 ?_
  refine zz_callS (As := [.long (Int32.toInt64 p0), .long (0 : Int64), .long (7 : Int64)]) (rest := []) C rfl (k_X12_in (Int32.toInt64 p0) (0 : Int64) (7 : Int64) σ) (va_cwS 3 C.1.2.2.2.2 gX12_wrongKept_X12_in rfl rfl rfl (by decide +kernel) ⟨Nat.le_of_ble_eq_true rfl, Nat.le_of_ble_eq_true rfl⟩) rfl (Nat.le_of_ble_eq_true rfl) ⟨Nat.zero_le _, Nat.zero_le _⟩ dX12_wrongKept_6 (zz_kI rfl rfl (fun r1 σ2 => ?_))
  refine zz_if_ne (tgt := 16) C dX12_wrongKept_9 (by decide) (fun h3 => ?_) (fun h3 => ?_)
  · refine zz_aload_n C dX12_wrongKept_16 rfl 0 rfl ?_
    refine zz_get C zzM_obj (fun _ h9 => List.mem_cons_of_mem _ (List.mem_append_right _ (h9))) rfl 7 (by decide) (List.mem_of_getElem? (i := 2) rfl) (Or.inl rfl) rfl dX12_wrongKept_17 ?_
    refine zz_iload_n C dX12_wrongKept_20 rfl 1 rfl ?_
    refine zz_gd (fun h4 => ?_)
    refine zz_iald C (zzM_arr (by decide)) h4 dX12_wrongKept_21 ?_
    refine zz_if_ne (tgt := 30) C dX12_wrongKept_22 (by decide) (fun h5 => ?_) (fun h5 => ?_)
    · refine zz_aload_n C dX12_wrongKept_30 rfl 0 rfl ?_
      refine zz_get C zzM_obj (fun _ h9 => List.mem_cons_of_mem _ (List.mem_append_right _ (h9))) rfl 7 (by decide) (List.mem_of_getElem? (i := 2) rfl) (Or.inl rfl) rfl dX12_wrongKept_31 ?_
      refine zz_iload_n C dX12_wrongKept_34 rfl 1 rfl ?_
      refine zz_gd (fun h6 => ?_)
      refine zz_iald C (zzM_arr (by decide)) h6 dX12_wrongKept_35 ?_
      refine zz_iconst (v := 1) C dX12_wrongKept_36 (by decide) ?_
      refine zz_icmp_eq (tgt := 45) C dX12_wrongKept_37 (by decide) (fun h7 => ?_) (fun h7 => ?_)
      · refine zz_iconst (v := 0) C dX12_wrongKept_45 (by decide) ?_
        exact zz_iret C rfl rfl (fun _ h9 => h9) (Nat.zero_le _) (Nat.zero_le _) dX12_wrongKept_46
      · refine zz_bipush (v := -12) C dX12_wrongKept_40 (by decide) ?_
        refine zz_goto (tgt := 46) C dX12_wrongKept_42 (by decide) ?_
        exact zz_iret C rfl rfl (fun _ h9 => h9) (Nat.zero_le _) (Nat.zero_le _) dX12_wrongKept_46
    · refine zz_bipush (v := -11) C dX12_wrongKept_25 (by decide) ?_
      refine zz_goto (tgt := 46) C dX12_wrongKept_27 (by decide) ?_
      exact zz_iret C rfl rfl (fun _ h9 => h9) (Nat.zero_le _) (Nat.zero_le _) dX12_wrongKept_46
  · refine zz_iconst (v := -1) C dX12_wrongKept_12 (by decide) ?_
    refine zz_goto (tgt := 46) C dX12_wrongKept_13 (by decide) ?_
    exact zz_iret C rfl rfl (fun _ h9 => h9) (Nat.zero_le _) (Nat.zero_le _) dX12_wrongKept_46
set_option maxHeartbeats 4000000 in
set_option maxRecDepth 100000 in
theorem k_X12_wrongKept {l : Launch} {Z : zzG} {base : Nat} {PL : Nat → Option (Nat × Int32)} {mm : zzS} (p0 : Int32)  (σ : zzS) : zzCT l yX12_wrongKept wsX12_wrongKept rX12_wrongKept (zzA base) Z (zzM Z base PL mm) (zzM Z base PL mm) zzRI [.ref (zzad Z 36), .int p0] (f_X12_wrongKept p0 σ) σ :=
  zzCT_of (cc := cX12_wrongKept) (nL := 2) (ret := (some .int)) (by decide) rfl (Nat.le_of_ble_eq_true rfl) [(0, .ref (zzad Z 36)), (1, .int p0)] rfl (fun p e s m args below meth c C => w_X12_wrongKept_e C p0 σ)
abbrev rX12_comes : Room := { frames := 2, cells := 0, slots := 0, locals := 46 }

set_option maxHeartbeats 4000000 in
set_option maxRecDepth 100000 in
theorem w_X12_comes_e {l : Launch} {Z : zzG} {base : Nat} {PL : Nat → Option (Nat × Int32)} {mm : zzS} {p : Program} {e : Env} {s : State} {m : MethodId} {args : Array Value} {below : List Frame} {meth : Method} {c : Code} (C : zzCx p m meth c s args cX12_comes 2 wsX12_comes RX12 (some .int) Z) (p0 : Int32)  (σ : zzS) : zzGO p l e rX12_comes s m args below meth c 2 (zzA base) (zzM Z base PL mm) (zzM Z base PL mm) zzRI rX12_comes.cells rX12_comes.slots (f_X12_comes p0 σ) σ 0 0 0 [(0, .ref (zzad Z 36)), (1, .int p0)] [] := by
  unfold f_X12_comes
  refine zz_aload_n C dX12_comes_0 rfl 0 rfl ?_
  refine zz_iconst (v := 0) C dX12_comes_1 (by decide) ?_
  refine zz_put (ty := .int) C zzM_obj (fun _ h9 => List.mem_cons_of_mem _ (List.mem_append_right _ (h9))) rfl 13 (by decide) (List.mem_of_getElem? (i := 1) rfl) rfl tyX12_ok nmX12 rfl (by decide +kernel) rfl rfl (Nat.le_of_ble_eq_true rfl) (zzM_uobj (by decide)) (zzA_M (by decide)) dX12_comes_2 ?_
  refine zz_ltS (fun σ1 => ?_)
  refine zz_aload_n C dX12_comes_5 rfl 0 rfl ?_
  refine zz_iload_n C dX12_comes_6 rfl 1 rfl ?_
  refine zz_callV C (Cn := RX12) (b := zzad Z 36) (fun H hH => zz_recv C.2.2.2 (zzM_obj H hH) rfl) (As := [.int p0]) (rest := []) rfl (k_X12_wrongKept p0 σ1) (cwV 1 C.1.2.2.2.2 gX12_comes_X12_wrongKept rfl rfl rfl (by decide +kernel) ⟨Nat.le_of_ble_eq_true rfl, Nat.le_of_ble_eq_true rfl⟩) rfl (Nat.le_of_ble_eq_true rfl) ⟨Nat.zero_le _, Nat.zero_le _⟩ dX12_comes_7 (zz_kI rfl rfl (fun r2 σ3 => ?_))
  refine zz_if_ge (tgt := 19) C dX12_comes_10 (by decide) (fun h4 => ?_) (fun h4 => ?_)
  · refine zz_aload_n C dX12_comes_19 rfl 0 rfl ?_
    refine zz_aload_n C dX12_comes_20 rfl 0 rfl ?_
    refine zz_get C zzM_obj (fun _ h9 => List.mem_cons_of_mem _ (List.mem_append_right _ (h9))) rfl 8 (by decide) (List.mem_of_getElem? (i := 2) rfl) (Or.inl rfl) rfl dX12_comes_21 ?_
    refine zz_iload_n C dX12_comes_24 rfl 1 rfl ?_
    refine zz_gd (fun h5 => ?_)
    refine zz_iald C (zzM_arr (by decide)) h5 dX12_comes_25 ?_
    refine zz_aload_n C dX12_comes_26 rfl 0 rfl ?_
    refine zz_get C zzM_obj (fun _ h9 => List.mem_cons_of_mem _ (List.mem_append_right _ (h9))) rfl 9 (by decide) (List.mem_of_getElem? (i := 3) rfl) (Or.inl rfl) rfl dX12_comes_27 ?_
    refine zz_iload_n C dX12_comes_30 rfl 1 rfl ?_
    refine zz_gd (fun h6 => ?_)
    refine zz_iald C (zzM_arr (by decide)) h6 dX12_comes_31 ?_
    refine zz_callV C (Cn := RX12) (b := zzad Z 36) (fun H hH => zz_recv C.2.2.2 (zzM_obj H hH) rfl) (As := [.int (zza σ3 42 (Int32.toNatClampNeg p0)), .int (zza σ3 43 (Int32.toNatClampNeg p0))]) (rest := []) rfl (k_X12_personComes (zza σ3 42 (Int32.toNatClampNeg p0)) (zza σ3 43 (Int32.toNatClampNeg p0)) σ3) (cwV 2 C.1.2.2.2.2 gX12_comes_X12_personComes rfl rfl rfl (by decide +kernel) ⟨Nat.le_of_ble_eq_true rfl, Nat.le_of_ble_eq_true rfl⟩) rfl (Nat.le_of_ble_eq_true rfl) ⟨Nat.zero_le _, Nat.zero_le _⟩ dX12_comes_32 (zz_kI rfl rfl (fun r7 σ8 => ?_))
    refine zz_if_eq (tgt := 47) C dX12_comes_35 (by decide) (fun h9 => ?_) (fun h9 => ?_)
    · refine zz_bipush (v := -2) C dX12_comes_47 (by decide) ?_
      exact zz_iret C rfl rfl (fun _ h9 => h9) (Nat.zero_le _) (Nat.zero_le _) dX12_comes_49
    · refine zz_aload_n C dX12_comes_38 rfl 0 rfl ?_
      refine zz_get C zzM_obj (fun _ h9 => List.mem_cons_of_mem _ (List.mem_append_right _ (h9))) rfl 0 (by decide) (List.mem_of_getElem? (i := 4) rfl) (Or.inl rfl) rfl dX12_comes_39 ?_
      refine zz_iconst (v := 1) C dX12_comes_42 (by decide) ?_
      refine zz_isub C dX12_comes_43 ?_
      refine zz_goto (tgt := 49) C dX12_comes_44 (by decide) ?_
      exact zz_iret C rfl rfl (fun _ h9 => h9) (Nat.zero_le _) (Nat.zero_le _) dX12_comes_49
  · refine zz_aload_n C dX12_comes_13 rfl 0 rfl ?_
    refine zz_iload_n C dX12_comes_14 rfl 1 rfl ?_
    refine zz_callV C (Cn := RX12) (b := zzad Z 36) (fun H hH => zz_recv C.2.2.2 (zzM_obj H hH) rfl) (As := [.int p0]) (rest := []) rfl (k_X12_wrongKept p0 σ3) (cwV 1 C.1.2.2.2.2 gX12_comes_X12_wrongKept rfl rfl rfl (by decide +kernel) ⟨Nat.le_of_ble_eq_true rfl, Nat.le_of_ble_eq_true rfl⟩) rfl (Nat.le_of_ble_eq_true rfl) ⟨Nat.zero_le _, Nat.zero_le _⟩ dX12_comes_15 (zz_kI rfl rfl (fun r10 σ11 => ?_))
    exact zz_iret C rfl rfl (fun _ h9 => h9) (Nat.zero_le _) (Nat.zero_le _) dX12_comes_18
set_option maxHeartbeats 4000000 in
set_option maxRecDepth 100000 in
theorem k_X12_comes {l : Launch} {Z : zzG} {base : Nat} {PL : Nat → Option (Nat × Int32)} {mm : zzS} (p0 : Int32)  (σ : zzS) : zzCT l yX12_comes wsX12_comes rX12_comes (zzA base) Z (zzM Z base PL mm) (zzM Z base PL mm) zzRI [.ref (zzad Z 36), .int p0] (f_X12_comes p0 σ) σ :=
  zzCT_of (cc := cX12_comes) (nL := 2) (ret := (some .int)) (by decide) rfl (Nat.le_of_ble_eq_true rfl) [(0, .ref (zzad Z 36)), (1, .int p0)] rfl (fun p e s m args below meth c C => w_X12_comes_e C p0 σ)
abbrev rX12_feels : Room := { frames := 3, cells := 0, slots := 0, locals := 68 }

set_option maxHeartbeats 4000000 in
set_option maxRecDepth 100000 in
theorem w_X12_feels_e {l : Launch} {Z : zzG} {base : Nat} {PL : Nat → Option (Nat × Int32)} {mm : zzS} {p : Program} {e : Env} {s : State} {m : MethodId} {args : Array Value} {below : List Frame} {meth : Method} {c : Code} (C : zzCx p m meth c s args cX12_feels 5 wsX12_feels RX12 (some .int) Z) (p0 : Int32)  (p1 : Int32)  (p2 : Int32)  (σ : zzS) : zzGO p l e rX12_feels s m args below meth c 5 (zzA base) (zzM Z base PL mm) (zzM Z base PL mm) zzRI rX12_feels.cells rX12_feels.slots (f_X12_feels p0 p1 p2 σ) σ 0 0 0 [(0, .ref (zzad Z 36)), (1, .int p0), (2, .int p1), (3, .int p2)] [] := by
  unfold f_X12_feels
  refine zz_aload_n C dX12_feels_0 rfl 0 rfl ?_
  refine zz_iconst (v := 0) C dX12_feels_1 (by decide) ?_
  refine zz_put (ty := .int) C zzM_obj (fun _ h9 => List.mem_cons_of_mem _ (List.mem_append_right _ (h9))) rfl 13 (by decide) (List.mem_of_getElem? (i := 1) rfl) rfl tyX12_ok nmX12 rfl (by decide +kernel) rfl rfl (Nat.le_of_ble_eq_true rfl) (zzM_uobj (by decide)) (zzA_M (by decide)) dX12_feels_2 ?_
  refine zz_ltS (fun σ1 => ?_)
  refine zz_aload_n C dX12_feels_5 rfl 0 rfl ?_
  refine zz_iload_n C dX12_feels_6 rfl 1 rfl ?_
  refine zz_iload_n C dX12_feels_7 rfl 2 rfl ?_
  refine zz_callV C (Cn := RX12) (b := zzad Z 36) (fun H hH => zz_recv C.2.2.2 (zzM_obj H hH) rfl) (As := [.int p0, .int p1]) (rest := []) rfl (k_X12_areTwo p0 p1 σ1) (cwV 2 C.1.2.2.2.2 gX12_feels_X12_areTwo rfl rfl rfl (by decide +kernel) ⟨Nat.le_of_ble_eq_true rfl, Nat.le_of_ble_eq_true rfl⟩) rfl (Nat.le_of_ble_eq_true rfl) ⟨Nat.zero_le _, Nat.zero_le _⟩ dX12_feels_8 (zz_kI rfl rfl (fun r2 σ3 => ?_))
  refine zz_if_eq (tgt := 26) C dX12_feels_11 (by decide) (fun h4 => ?_) (fun h4 => ?_)
  · refine zz_iconst (v := -1) C dX12_feels_26 (by decide) ?_
    exact zz_iret C rfl rfl (fun _ h9 => h9) (Nat.zero_le _) (Nat.zero_le _) dX12_feels_27
  · refine zz_iload_n C dX12_feels_14 rfl 3 rfl ?_
    refine zz_i2l C dX12_feels_15 ?_
    refine zz_lconst (v := 0) C dX12_feels_16 (by decide) ?_
    refine zz_ldc2 (v := 9) C (C.1.2.2.2.2 _ (List.mem_of_getElem? (i := 2) rfl)) dX12_feels_17 ?_
    refine zz_callS (As := [.long (Int32.toInt64 p2), .long (0 : Int64), .long (9 : Int64)]) (rest := []) C rfl (k_X12_in (Int32.toInt64 p2) (0 : Int64) (9 : Int64) σ3) (va_cwS 3 C.1.2.2.2.2 gX12_feels_X12_in rfl rfl rfl (by decide +kernel) ⟨Nat.le_of_ble_eq_true rfl, Nat.le_of_ble_eq_true rfl⟩) rfl (Nat.le_of_ble_eq_true rfl) ⟨Nat.zero_le _, Nat.zero_le _⟩ dX12_feels_20 (zz_kI rfl rfl (fun r5 σ6 => ?_))
    refine zz_if_ne (tgt := 28) C dX12_feels_23 (by decide) (fun h7 => ?_) (fun h7 => ?_)
    · refine zz_aload_n C dX12_feels_28 rfl 0 rfl ?_
      refine zz_get C zzM_obj (fun _ h9 => List.mem_cons_of_mem _ (List.mem_append_right _ (h9))) rfl 4 (by decide) (List.mem_of_getElem? (i := 3) rfl) (Or.inl rfl) rfl dX12_feels_29 ?_
      refine zz_bipush (v := 7) C dX12_feels_32 (by decide) ?_
      refine zz_iload_n C dX12_feels_34 rfl 1 rfl ?_
      refine zz_imul C dX12_feels_35 ?_
      refine zz_iload_n C dX12_feels_36 rfl 2 rfl ?_
      refine zz_iadd C dX12_feels_37 ?_
      refine zz_gd (fun h8 => ?_)
      refine zz_iald C (zzM_arr (by decide)) h8 dX12_feels_38 ?_
      refine zz_istoreX (locf := fun x9 => [(4, .int x9), (0, .ref (zzad Z 36)), (1, .int p0), (2, .int p1), (3, .int p2)]) C dX12_feels_39 (by decide) (fun _ => rfl) (fun x9 => ?_)
      refine zz_aload_n C dX12_feels_41 rfl 1 rfl ?_
      refine zz_get C zzM_obj (fun _ h9 => List.mem_cons_of_mem _ (List.mem_append_right _ (h9))) rfl 4 (by decide) (List.mem_of_getElem? (i := 3) rfl) (Or.inl rfl) rfl dX12_feels_42 ?_
      refine zz_bipush (v := 7) C dX12_feels_45 (by decide) ?_
      refine zz_iload_n C dX12_feels_47 rfl 2 rfl ?_
      refine zz_imul C dX12_feels_48 ?_
      refine zz_iload_n C dX12_feels_49 rfl 3 rfl ?_
      refine zz_iadd C dX12_feels_50 ?_
      refine zz_iload_n C dX12_feels_51 rfl 4 rfl ?_
      refine zz_gd (fun h10 => ?_)
      refine zz_iast C (zzM_arr (by decide)) h10 (zzM_uarr (by decide)) (zzA_M (zzMarr_lt (by decide))) dX12_feels_52 ?_
      refine zz_ltS (fun σ11 => ?_)
      refine zz_iload C dX12_feels_53 0 rfl ?_
      exact zz_iret C rfl rfl (fun _ h9 => h9) (Nat.zero_le _) (Nat.zero_le _) dX12_feels_55
    · refine zz_iconst (v := -1) C dX12_feels_26 (by decide) ?_
      exact zz_iret C rfl rfl (fun _ h9 => h9) (Nat.zero_le _) (Nat.zero_le _) dX12_feels_27
set_option maxHeartbeats 4000000 in
set_option maxRecDepth 100000 in
theorem k_X12_feels {l : Launch} {Z : zzG} {base : Nat} {PL : Nat → Option (Nat × Int32)} {mm : zzS} (p0 : Int32)  (p1 : Int32)  (p2 : Int32)  (σ : zzS) : zzCT l yX12_feels wsX12_feels rX12_feels (zzA base) Z (zzM Z base PL mm) (zzM Z base PL mm) zzRI [.ref (zzad Z 36), .int p0, .int p1, .int p2] (f_X12_feels p0 p1 p2 σ) σ :=
  zzCT_of (cc := cX12_feels) (nL := 5) (ret := (some .int)) (by decide) rfl (Nat.le_of_ble_eq_true rfl) [(0, .ref (zzad Z 36)), (1, .int p0), (2, .int p1), (3, .int p2)] rfl (fun p e s m args below meth c C => w_X12_feels_e C p0 p1 p2 σ)
abbrev rX12_limit : Room := { frames := 1, cells := 0, slots := 0, locals := 25 }

set_option maxHeartbeats 4000000 in
set_option maxRecDepth 100000 in
theorem w_X12_limit_e {l : Launch} {Z : zzG} {base : Nat} {PL : Nat → Option (Nat × Int32)} {mm : zzS} {p : Program} {e : Env} {s : State} {m : MethodId} {args : Array Value} {below : List Frame} {meth : Method} {c : Code} (C : zzCx p m meth c s args cX12_limit 3 wsX12_limit RX12 (some .int) Z) (p0 : Int32)  (σ : zzS) : zzGO p l e rX12_limit s m args below meth c 3 (zzA base) (zzM Z base PL mm) (zzM Z base PL mm) zzRI rX12_limit.cells rX12_limit.slots (f_X12_limit p0 σ) σ 0 0 0 [(0, .ref (zzad Z 36)), (1, .int p0)] [] := by
  unfold f_X12_limit
  refine zz_aload_n C dX12_limit_0 rfl 0 rfl ?_
  refine zz_iconst (v := 0) C dX12_limit_1 (by decide) ?_
  refine zz_put (ty := .int) C zzM_obj (fun _ h9 => List.mem_cons_of_mem _ (List.mem_append_right _ (h9))) rfl 13 (by decide) (List.mem_of_getElem? (i := 1) rfl) rfl tyX12_ok nmX12 rfl (by decide +kernel) rfl rfl (Nat.le_of_ble_eq_true rfl) (zzM_uobj (by decide)) (zzA_M (by decide)) dX12_limit_2 ?_
  refine zz_ltS (fun σ1 => ?_)
  refine zz_iload_n C dX12_limit_5 rfl 1 rfl ?_
  refine zz_i2l C dX12_limit_6 ?_
  refine zz_lconst (v := 0) C dX12_limit_7 (by decide) ?_
  refine zz_ldc2 (v := 9) C (C.1.2.2.2.2 _ (List.mem_of_getElem? (i := 2) rfl)) dX12_limit_8 ?_
  refine zz_callS (As := [.long (Int32.toInt64 p0), .long (0 : Int64), .long (9 : Int64)]) (rest := []) C rfl (k_X12_in (Int32.toInt64 p0) (0 : Int64) (9 : Int64) σ1) (va_cwS 3 C.1.2.2.2.2 gX12_limit_X12_in rfl rfl rfl (by decide +kernel) ⟨Nat.le_of_ble_eq_true rfl, Nat.le_of_ble_eq_true rfl⟩) rfl (Nat.le_of_ble_eq_true rfl) ⟨Nat.zero_le _, Nat.zero_le _⟩ dX12_limit_11 (zz_kI rfl rfl (fun r2 σ3 => ?_))
  refine zz_if_ne (tgt := 19) C dX12_limit_14 (by decide) (fun h4 => ?_) (fun h4 => ?_)
  · refine zz_aload_n C dX12_limit_19 rfl 0 rfl ?_
    refine zz_get C zzM_obj (fun _ h9 => List.mem_cons_of_mem _ (List.mem_append_right _ (h9))) rfl 5 (by decide) (List.mem_of_getElem? (i := 3) rfl) (Or.inl rfl) rfl dX12_limit_20 ?_
    refine zz_istoreX_n (locf := fun x5 => [(2, .int x5), (0, .ref (zzad Z 36)), (1, .int p0)]) C dX12_limit_23 rfl (by decide) (fun _ => rfl) (fun x5 => ?_)
    refine zz_aload_n C dX12_limit_24 rfl 1 rfl ?_
    refine zz_iload_n C dX12_limit_25 rfl 2 rfl ?_
    refine zz_put (ty := .int) C zzM_obj (fun _ h9 => List.mem_cons_of_mem _ (List.mem_append_right _ (h9))) rfl 5 (by decide) (List.mem_of_getElem? (i := 3) rfl) rfl tyX12_ok nmX12 rfl (by decide +kernel) rfl rfl (Nat.le_of_ble_eq_true rfl) (zzM_uobj (by decide)) (zzA_M (by decide)) dX12_limit_26 ?_
    refine zz_ltS (fun σ6 => ?_)
    refine zz_iload_n C dX12_limit_29 rfl 0 rfl ?_
    exact zz_iret C rfl rfl (fun _ h9 => h9) (Nat.zero_le _) (Nat.zero_le _) dX12_limit_30
  · refine zz_iconst (v := -1) C dX12_limit_17 (by decide) ?_
    exact zz_iret C rfl rfl (fun _ h9 => h9) (Nat.zero_le _) (Nat.zero_le _) dX12_limit_18
set_option maxHeartbeats 4000000 in
set_option maxRecDepth 100000 in
theorem k_X12_limit {l : Launch} {Z : zzG} {base : Nat} {PL : Nat → Option (Nat × Int32)} {mm : zzS} (p0 : Int32)  (σ : zzS) : zzCT l yX12_limit wsX12_limit rX12_limit (zzA base) Z (zzM Z base PL mm) (zzM Z base PL mm) zzRI [.ref (zzad Z 36), .int p0] (f_X12_limit p0 σ) σ :=
  zzCT_of (cc := cX12_limit) (nL := 3) (ret := (some .int)) (by decide) rfl (Nat.le_of_ble_eq_true rfl) [(0, .ref (zzad Z 36)), (1, .int p0)] rfl (fun p e s m args below meth c C => w_X12_limit_e C p0 σ)
abbrev rX12_sees : Room := { frames := 3, cells := 0, slots := 0, locals := 68 }

set_option maxHeartbeats 4000000 in
set_option maxRecDepth 100000 in
theorem w_X12_sees_e {l : Launch} {Z : zzG} {base : Nat} {PL : Nat → Option (Nat × Int32)} {mm : zzS} {p : Program} {e : Env} {s : State} {m : MethodId} {args : Array Value} {below : List Frame} {meth : Method} {c : Code} (C : zzCx p m meth c s args cX12_sees 3 wsX12_sees RX12 (some .int) Z) (p0 : Int32)  (p1 : Int32)  (σ : zzS) : zzGO p l e rX12_sees s m args below meth c 3 (zzA base) (zzM Z base PL mm) (zzM Z base PL mm) zzRI rX12_sees.cells rX12_sees.slots (f_X12_sees p0 p1 σ) σ 0 0 0 [(0, .ref (zzad Z 36)), (1, .int p0), (2, .int p1)] [] := by
  unfold f_X12_sees
  refine zz_aload_n C dX12_sees_0 rfl 0 rfl ?_
  refine zz_iconst (v := 0) C dX12_sees_1 (by decide) ?_
  refine zz_put (ty := .int) C zzM_obj (fun _ h9 => List.mem_cons_of_mem _ (List.mem_append_right _ (h9))) rfl 13 (by decide) (List.mem_of_getElem? (i := 1) rfl) rfl tyX12_ok nmX12 rfl (by decide +kernel) rfl rfl (Nat.le_of_ble_eq_true rfl) (zzM_uobj (by decide)) (zzA_M (by decide)) dX12_sees_2 ?_
  refine zz_ltS (fun σ1 => ?_)
  refine zz_aload_n C dX12_sees_5 rfl 0 rfl ?_
  refine zz_iload_n C dX12_sees_6 rfl 1 rfl ?_
  refine zz_iload_n C dX12_sees_7 rfl 2 rfl ?_
  refine zz_callV C (Cn := RX12) (b := zzad Z 36) (fun H hH => zz_recv C.2.2.2 (zzM_obj H hH) rfl) (As := [.int p0, .int p1]) (rest := []) rfl (k_X12_areTwo p0 p1 σ1) (cwV 2 C.1.2.2.2.2 gX12_sees_X12_areTwo rfl rfl rfl (by decide +kernel) ⟨Nat.le_of_ble_eq_true rfl, Nat.le_of_ble_eq_true rfl⟩) rfl (Nat.le_of_ble_eq_true rfl) ⟨Nat.zero_le _, Nat.zero_le _⟩ dX12_sees_8 (zz_kI rfl rfl (fun r2 σ3 => ?_))
  refine zz_if_ne (tgt := 16) C dX12_sees_11 (by decide) (fun h4 => ?_) (fun h4 => ?_)
  · refine zz_aload_n C dX12_sees_16 rfl 0 rfl ?_
    refine zz_iconst (v := 1) C dX12_sees_17 (by decide) ?_
    refine zz_callV C (Cn := RX12) (b := zzad Z 36) (fun H hH => zz_recv C.2.2.2 (zzM_obj H hH) rfl) (As := [.int (1 : Int32)]) (rest := []) rfl (k_X12_daysPass (1 : Int32) σ3) (cwV 1 C.1.2.2.2.2 gX12_sees_X12_daysPass rfl rfl rfl (by decide +kernel) ⟨Nat.le_of_ble_eq_true rfl, Nat.le_of_ble_eq_true rfl⟩) rfl (Nat.le_of_ble_eq_true rfl) ⟨Nat.zero_le _, Nat.zero_le _⟩ dX12_sees_18 (zz_kI rfl rfl (fun r5 σ6 => ?_))
    refine zz_if_ne (tgt := 27) C dX12_sees_21 (by decide) (fun h7 => ?_) (fun h7 => ?_)
    · refine zz_aload_n C dX12_sees_27 rfl 0 rfl ?_
      refine zz_iload_n C dX12_sees_28 rfl 1 rfl ?_
      refine zz_iload_n C dX12_sees_29 rfl 2 rfl ?_
      refine zz_callV C (Cn := RX12) (b := zzad Z 36) (fun H hH => zz_recv C.2.2.2 (zzM_obj H hH) rfl) (As := [.int p0, .int p1]) (rest := []) rfl (k_X12_grow p0 p1 σ6) (cwV 2 C.1.2.2.2.2 gX12_sees_X12_grow rfl rfl rfl (by decide +kernel) ⟨Nat.le_of_ble_eq_true rfl, Nat.le_of_ble_eq_true rfl⟩) rfl (Nat.le_of_ble_eq_true rfl) ⟨Nat.zero_le _, Nat.zero_le _⟩ dX12_sees_30 (zz_kV rfl rfl (fun r8 σ9 => ?_))
      refine zz_aload_n C dX12_sees_33 rfl 0 rfl ?_
      refine zz_get C zzM_obj (fun _ h9 => List.mem_cons_of_mem _ (List.mem_append_right _ (h9))) rfl 4 (by decide) (List.mem_of_getElem? (i := 2) rfl) (Or.inl rfl) rfl dX12_sees_34 ?_
      refine zz_bipush (v := 7) C dX12_sees_37 (by decide) ?_
      refine zz_iload_n C dX12_sees_39 rfl 1 rfl ?_
      refine zz_imul C dX12_sees_40 ?_
      refine zz_iload_n C dX12_sees_41 rfl 2 rfl ?_
      refine zz_iadd C dX12_sees_42 ?_
      refine zz_gd (fun h10 => ?_)
      refine zz_iald C (zzM_arr (by decide)) h10 dX12_sees_43 ?_
      exact zz_iret C rfl rfl (fun _ h9 => h9) (Nat.zero_le _) (Nat.zero_le _) dX12_sees_44
    · refine zz_bipush (v := -3) C dX12_sees_24 (by decide) ?_
      exact zz_iret C rfl rfl (fun _ h9 => h9) (Nat.zero_le _) (Nat.zero_le _) dX12_sees_26
  · refine zz_iconst (v := -1) C dX12_sees_14 (by decide) ?_
    exact zz_iret C rfl rfl (fun _ h9 => h9) (Nat.zero_le _) (Nat.zero_le _) dX12_sees_15
set_option maxHeartbeats 4000000 in
set_option maxRecDepth 100000 in
theorem k_X12_sees {l : Launch} {Z : zzG} {base : Nat} {PL : Nat → Option (Nat × Int32)} {mm : zzS} (p0 : Int32)  (p1 : Int32)  (σ : zzS) : zzCT l yX12_sees wsX12_sees rX12_sees (zzA base) Z (zzM Z base PL mm) (zzM Z base PL mm) zzRI [.ref (zzad Z 36), .int p0, .int p1] (f_X12_sees p0 p1 σ) σ :=
  zzCT_of (cc := cX12_sees) (nL := 3) (ret := (some .int)) (by decide) rfl (Nat.le_of_ble_eq_true rfl) [(0, .ref (zzad Z 36)), (1, .int p0), (2, .int p1)] rfl (fun p e s m args below meth c C => w_X12_sees_e C p0 p1 σ)
abbrev rX12_turnsFor : Room := { frames := 4, cells := 0, slots := 0, locals := 91 }

set_option maxHeartbeats 4000000 in
set_option maxRecDepth 100000 in
theorem w_X12_turnsFor_e {l : Launch} {Z : zzG} {base : Nat} {PL : Nat → Option (Nat × Int32)} {mm : zzS} {p : Program} {e : Env} {s : State} {m : MethodId} {args : Array Value} {below : List Frame} {meth : Method} {c : Code} (C : zzCx p m meth c s args cX12_turnsFor 3 wsX12_turnsFor RX12 (some .int) Z) (p0 : Int32)  (p1 : Int32)  (σ : zzS) : zzGO p l e rX12_turnsFor s m args below meth c 3 (zzA base) (zzM Z base PL mm) (zzM Z base PL mm) zzRI rX12_turnsFor.cells rX12_turnsFor.slots (f_X12_turnsFor p0 p1 σ) σ 0 0 0 [(0, .ref (zzad Z 36)), (1, .int p0), (2, .int p1)] [] := by
  unfold f_X12_turnsFor
  refine zz_aload_n C dX12_turnsFor_0 rfl 0 rfl ?_
  refine zz_iconst (v := 0) C dX12_turnsFor_1 (by decide) ?_
  refine zz_put (ty := .int) C zzM_obj (fun _ h9 => List.mem_cons_of_mem _ (List.mem_append_right _ (h9))) rfl 13 (by decide) (List.mem_of_getElem? (i := 1) rfl) rfl tyX12_ok nmX12 rfl (by decide +kernel) rfl rfl (Nat.le_of_ble_eq_true rfl) (zzM_uobj (by decide)) (zzA_M (by decide)) dX12_turnsFor_2 ?_
  refine zz_ltS (fun σ1 => ?_)
  refine zz_aload_n C dX12_turnsFor_5 rfl 0 rfl ?_
  refine zz_iload_n C dX12_turnsFor_6 rfl 1 rfl ?_
  refine zz_iload_n C dX12_turnsFor_7 rfl 2 rfl ?_
  refine zz_callV C (Cn := RX12) (b := zzad Z 36) (fun H hH => zz_recv C.2.2.2 (zzM_obj H hH) rfl) (As := [.int p0, .int p1]) (rest := []) rfl (k_X12_areTwo p0 p1 σ1) (cwV 2 C.1.2.2.2.2 gX12_turnsFor_X12_areTwo rfl rfl rfl (by decide +kernel) ⟨Nat.le_of_ble_eq_true rfl, Nat.le_of_ble_eq_true rfl⟩) rfl (Nat.le_of_ble_eq_true rfl) ⟨Nat.zero_le _, Nat.zero_le _⟩ dX12_turnsFor_8 (zz_kI rfl rfl (fun r2 σ3 => ?_))
  refine zz_if_ne (tgt := 16) C dX12_turnsFor_11 (by decide) (fun h4 => ?_) (fun h4 => ?_)
  · refine zz_aload_n C dX12_turnsFor_16 rfl 0 rfl ?_
    refine zz_iload_n C dX12_turnsFor_17 rfl 1 rfl ?_
    refine zz_iload_n C dX12_turnsFor_18 rfl 2 rfl ?_
    refine zz_callV C (Cn := RX12) (b := zzad Z 36) (fun H hH => zz_recv C.2.2.2 (zzM_obj H hH) rfl) (As := [.int p0, .int p1]) (rest := []) rfl (k_X12_turning p0 p1 σ3) (cwV 2 C.1.2.2.2.2 gX12_turnsFor_X12_turning rfl rfl rfl (by decide +kernel) ⟨Nat.le_of_ble_eq_true rfl, Nat.le_of_ble_eq_true rfl⟩) rfl (Nat.le_of_ble_eq_true rfl) ⟨Nat.zero_le _, Nat.zero_le _⟩ dX12_turnsFor_19 (zz_kI rfl rfl (fun r5 σ6 => ?_))
    refine zz_if_eq (tgt := 34) C dX12_turnsFor_22 (by decide) (fun h7 => ?_) (fun h7 => ?_)
    · refine zz_bipush (v := -3) C dX12_turnsFor_34 (by decide) ?_
      exact zz_iret C rfl rfl (fun _ h9 => h9) (Nat.zero_le _) (Nat.zero_le _) dX12_turnsFor_36
    · refine zz_aload_n C dX12_turnsFor_25 rfl 0 rfl ?_
      refine zz_get C zzM_obj (fun _ h9 => List.mem_cons_of_mem _ (List.mem_append_right _ (h9))) rfl 3 (by decide) (List.mem_of_getElem? (i := 2) rfl) (Or.inl rfl) rfl dX12_turnsFor_26 ?_
      refine zz_iload_n C dX12_turnsFor_29 rfl 2 rfl ?_
      refine zz_gd (fun h8 => ?_)
      refine zz_iald C (zzM_arr (by decide)) h8 dX12_turnsFor_30 ?_
      refine zz_goto (tgt := 36) C dX12_turnsFor_31 (by decide) ?_
      exact zz_iret C rfl rfl (fun _ h9 => h9) (Nat.zero_le _) (Nat.zero_le _) dX12_turnsFor_36
  · refine zz_iconst (v := -1) C dX12_turnsFor_14 (by decide) ?_
    exact zz_iret C rfl rfl (fun _ h9 => h9) (Nat.zero_le _) (Nat.zero_le _) dX12_turnsFor_15
set_option maxHeartbeats 4000000 in
set_option maxRecDepth 100000 in
theorem k_X12_turnsFor {l : Launch} {Z : zzG} {base : Nat} {PL : Nat → Option (Nat × Int32)} {mm : zzS} (p0 : Int32)  (p1 : Int32)  (σ : zzS) : zzCT l yX12_turnsFor wsX12_turnsFor rX12_turnsFor (zzA base) Z (zzM Z base PL mm) (zzM Z base PL mm) zzRI [.ref (zzad Z 36), .int p0, .int p1] (f_X12_turnsFor p0 p1 σ) σ :=
  zzCT_of (cc := cX12_turnsFor) (nL := 3) (ret := (some .int)) (by decide) rfl (Nat.le_of_ble_eq_true rfl) [(0, .ref (zzad Z 36)), (1, .int p0), (2, .int p1)] rfl (fun p e s m args below meth c C => w_X12_turnsFor_e C p0 p1 σ)
abbrev rX12_days : Room := { frames := 1, cells := 0, slots := 0, locals := 25 }

set_option maxHeartbeats 4000000 in
set_option maxRecDepth 100000 in
theorem w_X12_days_e {l : Launch} {Z : zzG} {base : Nat} {PL : Nat → Option (Nat × Int32)} {mm : zzS} {p : Program} {e : Env} {s : State} {m : MethodId} {args : Array Value} {below : List Frame} {meth : Method} {c : Code} (C : zzCx p m meth c s args cX12_days 2 wsX12_days RX12 (some .int) Z) (p0 : Int32)  (σ : zzS) : zzGO p l e rX12_days s m args below meth c 2 (zzA base) (zzM Z base PL mm) (zzM Z base PL mm) zzRI rX12_days.cells rX12_days.slots (f_X12_days p0 σ) σ 0 0 0 [(0, .ref (zzad Z 36)), (1, .int p0)] [] := by
  unfold f_X12_days
  refine zz_aload_n C dX12_days_0 rfl 0 rfl ?_
  refine zz_iconst (v := 0) C dX12_days_1 (by decide) ?_
  refine zz_put (ty := .int) C zzM_obj (fun _ h9 => List.mem_cons_of_mem _ (List.mem_append_right _ (h9))) rfl 13 (by decide) (List.mem_of_getElem? (i := 1) rfl) rfl tyX12_ok nmX12 rfl (by decide +kernel) rfl rfl (Nat.le_of_ble_eq_true rfl) (zzM_uobj (by decide)) (zzA_M (by decide)) dX12_days_2 ?_
  refine zz_ltS (fun σ1 => ?_)
  refine zz_iload_n C dX12_days_5 rfl 1 rfl ?_
  refine zz_i2l C dX12_days_6 ?_
  refine zz_lconst (v := 1) C dX12_days_7 (by decide) ?_
  refine zz_ldc2 (v := 99) C (C.1.2.2.2.2 _ (List.mem_of_getElem? (i := 2) rfl)) dX12_days_8 ?_
  refine zz_callS (As := [.long (Int32.toInt64 p0), .long (1 : Int64), .long (99 : Int64)]) (rest := []) C rfl (k_X12_in (Int32.toInt64 p0) (1 : Int64) (99 : Int64) σ1) (va_cwS 3 C.1.2.2.2.2 gX12_days_X12_in rfl rfl rfl (by decide +kernel) ⟨Nat.le_of_ble_eq_true rfl, Nat.le_of_ble_eq_true rfl⟩) rfl (Nat.le_of_ble_eq_true rfl) ⟨Nat.zero_le _, Nat.zero_le _⟩ dX12_days_11 (zz_kI rfl rfl (fun r2 σ3 => ?_))
  refine zz_if_ne (tgt := 19) C dX12_days_14 (by decide) (fun h4 => ?_) (fun h4 => ?_)
  · refine zz_aload_n C dX12_days_19 rfl 0 rfl ?_
    refine zz_iload_n C dX12_days_20 rfl 1 rfl ?_
    refine zz_callV C (Cn := RX12) (b := zzad Z 36) (fun H hH => zz_recv C.2.2.2 (zzM_obj H hH) rfl) (As := [.int p0]) (rest := []) rfl (k_X12_daysPass p0 σ3) (cwV 1 C.1.2.2.2.2 gX12_days_X12_daysPass rfl rfl rfl (by decide +kernel) ⟨Nat.le_of_ble_eq_true rfl, Nat.le_of_ble_eq_true rfl⟩) rfl (Nat.le_of_ble_eq_true rfl) ⟨Nat.zero_le _, Nat.zero_le _⟩ dX12_days_21 (zz_kI rfl rfl (fun r5 σ6 => ?_))
    refine zz_if_eq (tgt := 34) C dX12_days_24 (by decide) (fun h7 => ?_) (fun h7 => ?_)
    · refine zz_bipush (v := -3) C dX12_days_34 (by decide) ?_
      exact zz_iret C rfl rfl (fun _ h9 => h9) (Nat.zero_le _) (Nat.zero_le _) dX12_days_36
    · refine zz_aload_n C dX12_days_27 rfl 0 rfl ?_
      refine zz_get C zzM_obj (fun _ h9 => List.mem_cons_of_mem _ (List.mem_append_right _ (h9))) rfl 6 (by decide) (List.mem_of_getElem? (i := 3) rfl) (Or.inl rfl) rfl dX12_days_28 ?_
      refine zz_goto (tgt := 36) C dX12_days_31 (by decide) ?_
      exact zz_iret C rfl rfl (fun _ h9 => h9) (Nat.zero_le _) (Nat.zero_le _) dX12_days_36
  · refine zz_iconst (v := -1) C dX12_days_17 (by decide) ?_
    exact zz_iret C rfl rfl (fun _ h9 => h9) (Nat.zero_le _) (Nat.zero_le _) dX12_days_18
set_option maxHeartbeats 4000000 in
set_option maxRecDepth 100000 in
theorem k_X12_days {l : Launch} {Z : zzG} {base : Nat} {PL : Nat → Option (Nat × Int32)} {mm : zzS} (p0 : Int32)  (σ : zzS) : zzCT l yX12_days wsX12_days rX12_days (zzA base) Z (zzM Z base PL mm) (zzM Z base PL mm) zzRI [.ref (zzad Z 36), .int p0] (f_X12_days p0 σ) σ :=
  zzCT_of (cc := cX12_days) (nL := 2) (ret := (some .int)) (by decide) rfl (Nat.le_of_ble_eq_true rfl) [(0, .ref (zzad Z 36)), (1, .int p0)] rfl (fun p e s m args below meth c C => w_X12_days_e C p0 σ)
abbrev rX12_fitFor : Room := { frames := 2, cells := 0, slots := 0, locals := 43 }

set_option maxHeartbeats 4000000 in
set_option maxRecDepth 100000 in
theorem w_X12_fitFor_29 {l : Launch} {Z : zzG} {base : Nat} {PL : Nat → Option (Nat × Int32)} {mm : zzS} {p : Program} {e : Env} {s : State} {m : MethodId} {args : Array Value} {below : List Frame} {meth : Method} {c : Code} (C : zzCx p m meth c s args cX12_fitFor 4 wsX12_fitFor RX12 (some .int) Z) (p0 : Int32)  (k4 : Int32 → Int32 → zzS → Option (Int32 × zzS)) (hk4 : ∀ (l2 : Int32)  (l3 : Int32)  (σ : zzS), zzGO p l e rX12_fitFor s m args below meth c 4 (zzA base) (zzM Z base PL mm) (zzM Z base PL mm) zzRI rX12_fitFor.cells rX12_fitFor.slots (k4 l2 l3 σ) σ 0 0 4 [(0, .ref (zzad Z 36)), (1, .int p0), (2, .int l2), (3, .int l3)] []) (l3 : Int32)  (s0 : Int32)  (s1 : Int32)  (σ : zzS) : zzGO p l e rX12_fitFor s m args below meth c 4 (zzA base) (zzM Z base PL mm) (zzM Z base PL mm) zzRI rX12_fitFor.cells rX12_fitFor.slots (f_X12_fitFor_29 k4 p0 l3 s0 s1 σ) σ 0 0 29 [(0, .ref (zzad Z 36)), (1, .int p0), (3, .int l3)] [.int s0, .int s1] := by
  unfold f_X12_fitFor_29
  refine zz_ior C dX12_fitFor_29 ?_
  refine zz_istoreX_n (locf := fun x1 => [(2, .int x1), (0, .ref (zzad Z 36)), (1, .int p0), (3, .int l3)]) C dX12_fitFor_30 rfl (by decide) (fun _ => rfl) (fun x1 => ?_)
  refine zz_iincX (d := 1) (locf := fun x2 => [(3, .int x2), (2, .int x1), (0, .ref (zzad Z 36)), (1, .int p0)]) C dX12_fitFor_31 (k := 3) rfl (by decide) (by decide) (fun _ => rfl) (fun x2 => ?_)
  refine zz_goto (tgt := 4) C dX12_fitFor_34 (by decide) ?_
  refine zz_sub (loc' := [(0, .ref (zzad Z 36)), (1, .int p0), (2, .int x1), (3, .int x2)]) [2, 3, 1, 0] rfl ?_
  exact hk4 x1 x2 σ
set_option maxHeartbeats 4000000 in
set_option maxRecDepth 100000 in
theorem w_X12_fitFor_4b {l : Launch} {Z : zzG} {base : Nat} {PL : Nat → Option (Nat × Int32)} {mm : zzS} {p : Program} {e : Env} {s : State} {m : MethodId} {args : Array Value} {below : List Frame} {meth : Method} {c : Code} (C : zzCx p m meth c s args cX12_fitFor 4 wsX12_fitFor RX12 (some .int) Z) (p0 : Int32)   (k4 : Int32 → Int32 → zzS → Option (Int32 × zzS)) (hk4 : ∀ (l2 : Int32)  (l3 : Int32)  (σ : zzS), zzGO p l e rX12_fitFor s m args below meth c 4 (zzA base) (zzM Z base PL mm) (zzM Z base PL mm) zzRI rX12_fitFor.cells rX12_fitFor.slots (k4 l2 l3 σ) σ 0 0 4 [(0, .ref (zzad Z 36)), (1, .int p0), (2, .int l2), (3, .int l3)] []) (l2 : Int32)  (l3 : Int32)  (σ : zzS) : zzGO p l e rX12_fitFor s m args below meth c 4 (zzA base) (zzM Z base PL mm) (zzM Z base PL mm) zzRI rX12_fitFor.cells rX12_fitFor.slots (f_X12_fitFor_4b k4 p0 l2 l3 σ) σ 0 0 4 [(0, .ref (zzad Z 36)), (1, .int p0), (2, .int l2), (3, .int l3)] [] := by
  unfold f_X12_fitFor_4b
  refine zz_iload_n C dX12_fitFor_4 rfl 3 rfl ?_
  refine zz_aload_n C dX12_fitFor_5 rfl 0 rfl ?_
  refine zz_get C zzM_obj (fun _ h9 => List.mem_cons_of_mem _ (List.mem_append_right _ (h9))) rfl 0 (by decide) (List.mem_of_getElem? (i := 1) rfl) (Or.inl rfl) rfl dX12_fitFor_6 ?_
  refine zz_icmp_ge (tgt := 37) C dX12_fitFor_9 (by decide) (fun h1 => ?_) (fun h1 => ?_)
  · refine zz_iload_n C dX12_fitFor_37 rfl 2 rfl ?_
    exact zz_iret C rfl rfl (fun _ h9 => h9) (Nat.zero_le _) (Nat.zero_le _) dX12_fitFor_38
  · refine zz_iload_n C dX12_fitFor_12 rfl 2 rfl ?_
    refine zz_aload_n C dX12_fitFor_13 rfl 0 rfl ?_
    refine zz_iload_n C dX12_fitFor_14 rfl 3 rfl ?_
    refine zz_iload_n C dX12_fitFor_15 rfl 1 rfl ?_
    refine zz_callV C (Cn := RX12) (b := zzad Z 36) (fun H hH => zz_recv C.2.2.2 (zzM_obj H hH) rfl) (As := [.int l3, .int p0]) (rest := [.int l2]) rfl (k_X12_mayTurn l3 p0 σ) (cwV 2 C.1.2.2.2.2 gX12_fitFor_X12_mayTurn rfl rfl rfl (by decide +kernel) ⟨Nat.le_of_ble_eq_true rfl, Nat.le_of_ble_eq_true rfl⟩) rfl (Nat.le_of_ble_eq_true rfl) ⟨Nat.zero_le _, Nat.zero_le _⟩ dX12_fitFor_16 (zz_kI rfl rfl (fun r2 σ3 => ?_))
    refine zz_if_eq (tgt := 28) C dX12_fitFor_19 (by decide) (fun h4 => ?_) (fun h4 => ?_)
    · refine zz_iconst (v := 0) C dX12_fitFor_28 (by decide) ?_
      refine zz_sub (loc' := [(0, .ref (zzad Z 36)), (1, .int p0), (3, .int l3)]) [0, 1, 3] rfl ?_
      exact w_X12_fitFor_29 C p0 k4 hk4 l3 (0 : Int32) l2 σ3
    · refine zz_iconst (v := 1) C dX12_fitFor_22 (by decide) ?_
      refine zz_iload_n C dX12_fitFor_23 rfl 3 rfl ?_
      refine zz_ishl C dX12_fitFor_24 ?_
      refine zz_goto (tgt := 29) C dX12_fitFor_25 (by decide) ?_
      refine zz_sub (loc' := [(0, .ref (zzad Z 36)), (1, .int p0), (3, .int l3)]) [0, 1, 3] rfl ?_
      exact w_X12_fitFor_29 C p0 k4 hk4 l3 ((1 : Int32) <<< (l3 &&& 31)) l2 σ3
set_option maxHeartbeats 4000000 in
set_option maxRecDepth 100000 in
theorem w_X12_fitFor_4 {l : Launch} {Z : zzG} {base : Nat} {PL : Nat → Option (Nat × Int32)} {mm : zzS} {p : Program} {e : Env} {s : State} {m : MethodId} {args : Array Value} {below : List Frame} {meth : Method} {c : Code} (C : zzCx p m meth c s args cX12_fitFor 4 wsX12_fitFor RX12 (some .int) Z) (p0 : Int32)   (n : Nat) : ∀ (l2 : Int32)  (l3 : Int32)  (σ : zzS), zzGO p l e rX12_fitFor s m args below meth c 4 (zzA base) (zzM Z base PL mm) (zzM Z base PL mm) zzRI rX12_fitFor.cells rX12_fitFor.slots (f_X12_fitFor_4 p0 n l2 l3 σ) σ 0 0 4 [(0, .ref (zzad Z 36)), (1, .int p0), (2, .int l2), (3, .int l3)] [] := by
  induction n with
  | zero => exact fun _ _ _ r9 s9 h9 => by cases h9
  | succ n ih => exact w_X12_fitFor_4b C p0 _ ih
set_option maxHeartbeats 4000000 in
set_option maxRecDepth 100000 in
theorem w_X12_fitFor_e {l : Launch} {Z : zzG} {base : Nat} {PL : Nat → Option (Nat × Int32)} {mm : zzS} {p : Program} {e : Env} {s : State} {m : MethodId} {args : Array Value} {below : List Frame} {meth : Method} {c : Code} (C : zzCx p m meth c s args cX12_fitFor 4 wsX12_fitFor RX12 (some .int) Z) (p0 : Int32)  (σ : zzS) : zzGO p l e rX12_fitFor s m args below meth c 4 (zzA base) (zzM Z base PL mm) (zzM Z base PL mm) zzRI rX12_fitFor.cells rX12_fitFor.slots (f_X12_fitFor p0 σ) σ 0 0 0 [(0, .ref (zzad Z 36)), (1, .int p0)] [] := by
  unfold f_X12_fitFor
  refine zz_iconst (v := 0) C dX12_fitFor_0 (by decide) ?_
  refine zz_istore_n (loc' := [(2, .int (0 : Int32)), (0, .ref (zzad Z 36)), (1, .int p0)]) C dX12_fitFor_1 rfl (by decide) rfl ?_
  refine zz_iconst (v := 0) C dX12_fitFor_2 (by decide) ?_
  refine zz_istore_n (loc' := [(3, .int (0 : Int32)), (2, .int (0 : Int32)), (0, .ref (zzad Z 36)), (1, .int p0)]) C dX12_fitFor_3 rfl (by decide) rfl ?_
  refine zz_sub (loc' := [(0, .ref (zzad Z 36)), (1, .int p0), (2, .int (0 : Int32)), (3, .int (0 : Int32))]) [2, 3, 1, 0] rfl ?_
  exact w_X12_fitFor_4 C p0 200 (0 : Int32) (0 : Int32) σ
set_option maxHeartbeats 4000000 in
set_option maxRecDepth 100000 in
theorem k_X12_fitFor {l : Launch} {Z : zzG} {base : Nat} {PL : Nat → Option (Nat × Int32)} {mm : zzS} (p0 : Int32)  (σ : zzS) : zzCT l yX12_fitFor wsX12_fitFor rX12_fitFor (zzA base) Z (zzM Z base PL mm) (zzM Z base PL mm) zzRI [.ref (zzad Z 36), .int p0] (f_X12_fitFor p0 σ) σ :=
  zzCT_of (cc := cX12_fitFor) (nL := 4) (ret := (some .int)) (by decide) rfl (Nat.le_of_ble_eq_true rfl) [(0, .ref (zzad Z 36)), (1, .int p0)] rfl (fun p e s m args below meth c C => w_X12_fitFor_e C p0 σ)
abbrev rX12_fit : Room := { frames := 3, cells := 0, slots := 0, locals := 66 }

set_option maxHeartbeats 4000000 in
set_option maxRecDepth 100000 in
theorem w_X12_fit_e {l : Launch} {Z : zzG} {base : Nat} {PL : Nat → Option (Nat × Int32)} {mm : zzS} {p : Program} {e : Env} {s : State} {m : MethodId} {args : Array Value} {below : List Frame} {meth : Method} {c : Code} (C : zzCx p m meth c s args cX12_fit 2 wsX12_fit RX12 (some .int) Z) (p0 : Int32)  (σ : zzS) : zzGO p l e rX12_fit s m args below meth c 2 (zzA base) (zzM Z base PL mm) (zzM Z base PL mm) zzRI rX12_fit.cells rX12_fit.slots (f_X12_fit p0 σ) σ 0 0 0 [(0, .ref (zzad Z 36)), (1, .int p0)] [] := by
  unfold f_X12_fit
  refine zz_aload_n C dX12_fit_0 rfl 0 rfl ?_
  refine zz_iconst (v := 0) C dX12_fit_1 (by decide) ?_
  refine zz_put (ty := .int) C zzM_obj (fun _ h9 => List.mem_cons_of_mem _ (List.mem_append_right _ (h9))) rfl 13 (by decide) (List.mem_of_getElem? (i := 1) rfl) rfl tyX12_ok nmX12 rfl (by decide +kernel) rfl rfl (Nat.le_of_ble_eq_true rfl) (zzM_uobj (by decide)) (zzA_M (by decide)) dX12_fit_2 ?_
  refine zz_ltS (fun σ1 => ?_)
  refine zz_aload_n C dX12_fit_5 rfl 0 rfl ?_
  refine zz_iload_n C dX12_fit_6 rfl 1 rfl ?_
  refine zz_callV C (Cn := RX12) (b := zzad Z 36) (fun H hH => zz_recv C.2.2.2 (zzM_obj H hH) rfl) (As := [.int p0]) (rest := []) rfl (k_X12_isOne p0 σ1) (cwV 1 C.1.2.2.2.2 gX12_fit_X12_isOne rfl rfl rfl (by decide +kernel) ⟨Nat.le_of_ble_eq_true rfl, Nat.le_of_ble_eq_true rfl⟩) rfl (Nat.le_of_ble_eq_true rfl) ⟨Nat.zero_le _, Nat.zero_le _⟩ dX12_fit_7 (zz_kI rfl rfl (fun r2 σ3 => ?_))
  refine zz_if_eq (tgt := 21) C dX12_fit_10 (by decide) (fun h4 => ?_) (fun h4 => ?_)
  · refine zz_iconst (v := -1) C dX12_fit_21 (by decide) ?_
    exact zz_iret C rfl rfl (fun _ h9 => h9) (Nat.zero_le _) (Nat.zero_le _) dX12_fit_22
  · refine zz_aload_n C dX12_fit_13 rfl 0 rfl ?_
    refine zz_iload_n C dX12_fit_14 rfl 1 rfl ?_
    refine zz_callV C (Cn := RX12) (b := zzad Z 36) (fun H hH => zz_recv C.2.2.2 (zzM_obj H hH) rfl) (As := [.int p0]) (rest := []) rfl (k_X12_fitFor p0 σ3) (cwV 1 C.1.2.2.2.2 gX12_fit_X12_fitFor rfl rfl rfl (by decide +kernel) ⟨Nat.le_of_ble_eq_true rfl, Nat.le_of_ble_eq_true rfl⟩) rfl (Nat.le_of_ble_eq_true rfl) ⟨Nat.zero_le _, Nat.zero_le _⟩ dX12_fit_15 (zz_kI rfl rfl (fun r5 σ6 => ?_))
    refine zz_goto (tgt := 22) C dX12_fit_18 (by decide) ?_
    exact zz_iret C rfl rfl (fun _ h9 => h9) (Nat.zero_le _) (Nat.zero_le _) dX12_fit_22
set_option maxHeartbeats 4000000 in
set_option maxRecDepth 100000 in
theorem k_X12_fit {l : Launch} {Z : zzG} {base : Nat} {PL : Nat → Option (Nat × Int32)} {mm : zzS} (p0 : Int32)  (σ : zzS) : zzCT l yX12_fit wsX12_fit rX12_fit (zzA base) Z (zzM Z base PL mm) (zzM Z base PL mm) zzRI [.ref (zzad Z 36), .int p0] (f_X12_fit p0 σ) σ :=
  zzCT_of (cc := cX12_fit) (nL := 2) (ret := (some .int)) (by decide) rfl (Nat.le_of_ble_eq_true rfl) [(0, .ref (zzad Z 36)), (1, .int p0)] rfl (fun p e s m args below meth c C => w_X12_fit_e C p0 σ)
abbrev rX12_layTold : Room := { frames := 3, cells := 0, slots := 0, locals := 66 }

set_option maxHeartbeats 4000000 in
set_option maxRecDepth 100000 in
theorem w_X12_layTold_168 {l : Launch} {Z : zzG} {base : Nat} {PL : Nat → Option (Nat × Int32)} {mm : zzS} {p : Program} {e : Env} {s : State} {m : MethodId} {args : Array Value} {below : List Frame} {meth : Method} {c : Code} (C : zzCx p m meth c s args cX12_layTold 8 wsX12_layTold RX12 (some .int) Z)  (k54 : Int32 → zzS → Option (Int32 × zzS)) (hk54 : ∀ (l1 : Int32)  (σ : zzS), zzGO p l e rX12_layTold s m args below meth c 8 (zzA base) (zzM Z base PL mm) (zzM Z base PL mm) zzRI rX12_layTold.cells rX12_layTold.slots (k54 l1 σ) σ 0 0 54 [(0, .ref (zzad Z 36)), (1, .int l1)] []) (k66 : Int32 → Int32 → Int32 → zzS → Option (Int32 × zzS)) (hk66 : ∀ (l1 : Int32)  (l2 : Int32)  (l3 : Int32)  (σ : zzS), zzGO p l e rX12_layTold s m args below meth c 8 (zzA base) (zzM Z base PL mm) (zzM Z base PL mm) zzRI rX12_layTold.cells rX12_layTold.slots (k66 l1 l2 l3 σ) σ 0 0 66 [(0, .ref (zzad Z 36)), (1, .int l1), (2, .int l2), (3, .int l3)] []) (k100 : Int32 → Int32 → Int32 → Int32 → Int32 → Int32 → zzS → Option (Int32 × zzS)) (hk100 : ∀ (l1 : Int32)  (l2 : Int32)  (l3 : Int32)  (l4 : Int32)  (l5 : Int32)  (l6 : Int32)  (σ : zzS), zzGO p l e rX12_layTold s m args below meth c 8 (zzA base) (zzM Z base PL mm) (zzM Z base PL mm) zzRI rX12_layTold.cells rX12_layTold.slots (k100 l1 l2 l3 l4 l5 l6 σ) σ 0 0 100 [(0, .ref (zzad Z 36)), (1, .int l1), (2, .int l2), (3, .int l3), (4, .int l4), (5, .int l5), (6, .int l6)] []) (l1 : Int32)  (l2 : Int32)  (l3 : Int32)  (l4 : Int32)  (l5 : Int32)  (l6 : Int32)  (σ : zzS) : zzGO p l e rX12_layTold s m args below meth c 8 (zzA base) (zzM Z base PL mm) (zzM Z base PL mm) zzRI rX12_layTold.cells rX12_layTold.slots (f_X12_layTold_168 k54 k66 k100 l1 l2 l3 l4 l5 l6 σ) σ 0 0 168 [(0, .ref (zzad Z 36)), (1, .int l1), (2, .int l2), (3, .int l3), (4, .int l4), (5, .int l5), (6, .int l6)] [] := by
  unfold f_X12_layTold_168
  refine zz_iincX (d := 1) (locf := fun x1 => [(6, .int x1), (0, .ref (zzad Z 36)), (1, .int l1), (2, .int l2), (3, .int l3), (4, .int l4), (5, .int l5)]) C dX12_layTold_168 (k := 6) rfl (by decide) (by decide) (fun _ => rfl) (fun x1 => ?_)
  refine zz_goto (tgt := 100) C dX12_layTold_171 (by decide) ?_
  refine zz_sub (loc' := [(0, .ref (zzad Z 36)), (1, .int l1), (2, .int l2), (3, .int l3), (4, .int l4), (5, .int l5), (6, .int x1)]) [1, 2, 3, 4, 5, 6, 0] rfl ?_
  exact hk100 l1 l2 l3 l4 l5 x1 σ
set_option maxHeartbeats 4000000 in
set_option maxRecDepth 100000 in
theorem w_X12_layTold_100b {l : Launch} {Z : zzG} {base : Nat} {PL : Nat → Option (Nat × Int32)} {mm : zzS} {p : Program} {e : Env} {s : State} {m : MethodId} {args : Array Value} {below : List Frame} {meth : Method} {c : Code} (C : zzCx p m meth c s args cX12_layTold 8 wsX12_layTold RX12 (some .int) Z)  (k54 : Int32 → zzS → Option (Int32 × zzS)) (hk54 : ∀ (l1 : Int32)  (σ : zzS), zzGO p l e rX12_layTold s m args below meth c 8 (zzA base) (zzM Z base PL mm) (zzM Z base PL mm) zzRI rX12_layTold.cells rX12_layTold.slots (k54 l1 σ) σ 0 0 54 [(0, .ref (zzad Z 36)), (1, .int l1)] []) (k66 : Int32 → Int32 → Int32 → zzS → Option (Int32 × zzS)) (hk66 : ∀ (l1 : Int32)  (l2 : Int32)  (l3 : Int32)  (σ : zzS), zzGO p l e rX12_layTold s m args below meth c 8 (zzA base) (zzM Z base PL mm) (zzM Z base PL mm) zzRI rX12_layTold.cells rX12_layTold.slots (k66 l1 l2 l3 σ) σ 0 0 66 [(0, .ref (zzad Z 36)), (1, .int l1), (2, .int l2), (3, .int l3)] []) (k100 : Int32 → Int32 → Int32 → Int32 → Int32 → Int32 → zzS → Option (Int32 × zzS)) (hk100 : ∀ (l1 : Int32)  (l2 : Int32)  (l3 : Int32)  (l4 : Int32)  (l5 : Int32)  (l6 : Int32)  (σ : zzS), zzGO p l e rX12_layTold s m args below meth c 8 (zzA base) (zzM Z base PL mm) (zzM Z base PL mm) zzRI rX12_layTold.cells rX12_layTold.slots (k100 l1 l2 l3 l4 l5 l6 σ) σ 0 0 100 [(0, .ref (zzad Z 36)), (1, .int l1), (2, .int l2), (3, .int l3), (4, .int l4), (5, .int l5), (6, .int l6)] []) (l1 : Int32)  (l2 : Int32)  (l3 : Int32)  (l4 : Int32)  (l5 : Int32)  (l6 : Int32)  (σ : zzS) : zzGO p l e rX12_layTold s m args below meth c 8 (zzA base) (zzM Z base PL mm) (zzM Z base PL mm) zzRI rX12_layTold.cells rX12_layTold.slots (f_X12_layTold_100b k54 k66 k100 l1 l2 l3 l4 l5 l6 σ) σ 0 0 100 [(0, .ref (zzad Z 36)), (1, .int l1), (2, .int l2), (3, .int l3), (4, .int l4), (5, .int l5), (6, .int l6)] [] := by
  unfold f_X12_layTold_100b
  refine zz_iload C dX12_layTold_100 6 rfl ?_
  refine zz_aload_n C dX12_layTold_102 rfl 0 rfl ?_
  refine zz_get C zzM_obj (fun _ h9 => List.mem_cons_of_mem _ (List.mem_append_right _ (h9))) rfl 0 (by decide) (List.mem_of_getElem? (i := 2) rfl) (Or.inl rfl) rfl dX12_layTold_103 ?_
  refine zz_icmp_ge (tgt := 174) C dX12_layTold_106 (by decide) (fun h1 => ?_) (fun h1 => ?_)
  · refine zz_aload_n C dX12_layTold_174 rfl 0 rfl ?_
    refine zz_get C zzM_obj (fun _ h9 => List.mem_cons_of_mem _ (List.mem_append_right _ (h9))) rfl 27 (by decide) (List.mem_of_getElem? (i := 1) rfl) (Or.inl rfl) rfl dX12_layTold_175 ?_
    refine zz_sipush (v := 128) C dX12_layTold_178 (by decide) ?_
    refine zz_iload_n C dX12_layTold_181 rfl 1 rfl ?_
    refine zz_imul C dX12_layTold_182 ?_
    refine zz_iload_n C dX12_layTold_183 rfl 3 rfl ?_
    refine zz_iadd C dX12_layTold_184 ?_
    refine zz_iload C dX12_layTold_185 4 rfl ?_
    refine zz_gd (fun h2 => ?_)
    refine zz_iast C (zzM_arr (by decide)) h2 (zzM_uarr (by decide)) (zzA_M (zzMarr_lt (by decide))) dX12_layTold_187 ?_
    refine zz_ltS (fun σ3 => ?_)
    refine zz_aload_n C dX12_layTold_188 rfl 0 rfl ?_
    refine zz_get C zzM_obj (fun _ h9 => List.mem_cons_of_mem _ (List.mem_append_right _ (h9))) rfl 28 (by decide) (List.mem_of_getElem? (i := 3) rfl) (Or.inl rfl) rfl dX12_layTold_189 ?_
    refine zz_sipush (v := 128) C dX12_layTold_192 (by decide) ?_
    refine zz_iload_n C dX12_layTold_195 rfl 1 rfl ?_
    refine zz_imul C dX12_layTold_196 ?_
    refine zz_iload_n C dX12_layTold_197 rfl 3 rfl ?_
    refine zz_iadd C dX12_layTold_198 ?_
    refine zz_iload C dX12_layTold_199 5 rfl ?_
    refine zz_gd (fun h4 => ?_)
    refine zz_iast C (zzM_arr (by decide)) h4 (zzM_uarr (by decide)) (zzA_M (zzMarr_lt (by decide))) dX12_layTold_201 ?_
    refine zz_ltS (fun σ5 => ?_)
    refine zz_iincX (d := 1) (locf := fun x6 => [(3, .int x6), (0, .ref (zzad Z 36)), (1, .int l1), (2, .int l2), (4, .int l4), (5, .int l5), (6, .int l6)]) C dX12_layTold_202 (k := 3) rfl (by decide) (by decide) (fun _ => rfl) (fun x6 => ?_)
    refine zz_goto (tgt := 66) C dX12_layTold_205 (by decide) ?_
    refine zz_sub (loc' := [(0, .ref (zzad Z 36)), (1, .int l1), (2, .int l2), (3, .int x6)]) [1, 2, 3, 0] rfl ?_
    exact hk66 l1 l2 x6 σ5
  · refine zz_iload_n C dX12_layTold_109 rfl 2 rfl ?_
    refine zz_iload_n C dX12_layTold_110 rfl 3 rfl ?_
    refine zz_iconst (v := -1) C dX12_layTold_111 (by decide) ?_
    refine zz_ixor C dX12_layTold_112 ?_
    refine zz_iand C dX12_layTold_113 ?_
    refine zz_iload C dX12_layTold_114 6 rfl ?_
    refine zz_callS (As := [.int (l2 &&& (l3 ^^^ (-1 : Int32))), .int l6]) (rest := []) C rfl (k_X12_hasBit (l2 &&& (l3 ^^^ (-1 : Int32))) l6 σ) (va_cwS 2 C.1.2.2.2.2 gX12_layTold_X12_hasBit rfl rfl rfl (by decide +kernel) ⟨Nat.le_of_ble_eq_true rfl, Nat.le_of_ble_eq_true rfl⟩) rfl (Nat.le_of_ble_eq_true rfl) ⟨Nat.zero_le _, Nat.zero_le _⟩ dX12_layTold_116 (zz_kI rfl rfl (fun r7 σ8 => ?_))
    refine zz_if_eq (tgt := 168) C dX12_layTold_119 (by decide) (fun h9 => ?_) (fun h9 => ?_)
    · refine zz_sub (loc' := [(0, .ref (zzad Z 36)), (1, .int l1), (2, .int l2), (3, .int l3), (4, .int l4), (5, .int l5), (6, .int l6)]) [0, 1, 2, 3, 4, 5, 6] rfl ?_
      exact w_X12_layTold_168 C k54 hk54 k66 hk66 k100 hk100 l1 l2 l3 l4 l5 l6 σ8
    · refine zz_sipush (v := 128) C dX12_layTold_122 (by decide) ?_
      refine zz_iload_n C dX12_layTold_125 rfl 1 rfl ?_
      refine zz_imul C dX12_layTold_126 ?_
      refine zz_sipush (v := 128) C dX12_layTold_127 (by decide) ?_
      refine zz_iadd C dX12_layTold_130 ?_
      refine zz_iload_n C dX12_layTold_131 rfl 3 rfl ?_
      refine zz_iconst (v := 1) C dX12_layTold_132 (by decide) ?_
      refine zz_iload C dX12_layTold_133 6 rfl ?_
      refine zz_ishl C dX12_layTold_135 ?_
      refine zz_ior C dX12_layTold_136 ?_
      refine zz_iadd C dX12_layTold_137 ?_
      refine zz_istoreX (locf := fun x10 => [(7, .int x10), (0, .ref (zzad Z 36)), (1, .int l1), (2, .int l2), (3, .int l3), (4, .int l4), (5, .int l5), (6, .int l6)]) C dX12_layTold_138 (by decide) (fun _ => rfl) (fun x10 => ?_)
      refine zz_iload C dX12_layTold_140 5 rfl ?_
      refine zz_aload_n C dX12_layTold_142 rfl 1 rfl ?_
      refine zz_get C zzM_obj (fun _ h9 => List.mem_cons_of_mem _ (List.mem_append_right _ (h9))) rfl 27 (by decide) (List.mem_of_getElem? (i := 1) rfl) (Or.inl rfl) rfl dX12_layTold_143 ?_
      refine zz_iload C dX12_layTold_146 0 rfl ?_
      refine zz_gd (fun h11 => ?_)
      refine zz_iald C (zzM_arr (by decide)) h11 dX12_layTold_148 ?_
      refine zz_iconst (v := 1) C dX12_layTold_149 (by decide) ?_
      refine zz_iadd C dX12_layTold_150 ?_
      refine zz_callS (As := [.int l4, .int ((zza σ8 51 (Int32.toNatClampNeg x10)) + (1 : Int32))]) (rest := []) C rfl (k_X12_greater l4 ((zza σ8 51 (Int32.toNatClampNeg x10)) + (1 : Int32)) σ8) (va_cwS 2 C.1.2.2.2.2 gX12_layTold_X12_greater rfl rfl rfl (by decide +kernel) ⟨Nat.le_of_ble_eq_true rfl, Nat.le_of_ble_eq_true rfl⟩) rfl (Nat.le_of_ble_eq_true rfl) ⟨Nat.zero_le _, Nat.zero_le _⟩ dX12_layTold_151 (zz_kI rfl rfl (fun r12 σ13 => ?_))
      refine zz_istore (loc' := [(4, .int r12), (7, .int x10), (0, .ref (zzad Z 36)), (1, .int l1), (2, .int l2), (3, .int l3), (5, .int l5), (6, .int l6)]) C dX12_layTold_154 (by decide) rfl ?_
      refine zz_iload C dX12_layTold_156 6 rfl ?_
      refine zz_aload_n C dX12_layTold_158 rfl 2 rfl ?_
      refine zz_get C zzM_obj (fun _ h9 => List.mem_cons_of_mem _ (List.mem_append_right _ (h9))) rfl 28 (by decide) (List.mem_of_getElem? (i := 3) rfl) (Or.inl rfl) rfl dX12_layTold_159 ?_
      refine zz_iload C dX12_layTold_162 1 rfl ?_
      refine zz_gd (fun h14 => ?_)
      refine zz_iald C (zzM_arr (by decide)) h14 dX12_layTold_164 ?_
      refine zz_iadd C dX12_layTold_165 ?_
      refine zz_istoreX (locf := fun x15 => [(5, .int x15), (4, .int r12), (7, .int x10), (0, .ref (zzad Z 36)), (1, .int l1), (2, .int l2), (3, .int l3), (6, .int l6)]) C dX12_layTold_166 (by decide) (fun _ => rfl) (fun x15 => ?_)
      refine zz_sub (loc' := [(0, .ref (zzad Z 36)), (1, .int l1), (2, .int l2), (3, .int l3), (4, .int r12), (5, .int x15), (6, .int l6)]) [3, 4, 5, 6, 1, 0, 7] rfl ?_
      exact w_X12_layTold_168 C k54 hk54 k66 hk66 k100 hk100 l1 l2 l3 r12 x15 l6 σ13
set_option maxHeartbeats 4000000 in
set_option maxRecDepth 100000 in
theorem w_X12_layTold_100 {l : Launch} {Z : zzG} {base : Nat} {PL : Nat → Option (Nat × Int32)} {mm : zzS} {p : Program} {e : Env} {s : State} {m : MethodId} {args : Array Value} {below : List Frame} {meth : Method} {c : Code} (C : zzCx p m meth c s args cX12_layTold 8 wsX12_layTold RX12 (some .int) Z)  (k54 : Int32 → zzS → Option (Int32 × zzS)) (hk54 : ∀ (l1 : Int32)  (σ : zzS), zzGO p l e rX12_layTold s m args below meth c 8 (zzA base) (zzM Z base PL mm) (zzM Z base PL mm) zzRI rX12_layTold.cells rX12_layTold.slots (k54 l1 σ) σ 0 0 54 [(0, .ref (zzad Z 36)), (1, .int l1)] []) (k66 : Int32 → Int32 → Int32 → zzS → Option (Int32 × zzS)) (hk66 : ∀ (l1 : Int32)  (l2 : Int32)  (l3 : Int32)  (σ : zzS), zzGO p l e rX12_layTold s m args below meth c 8 (zzA base) (zzM Z base PL mm) (zzM Z base PL mm) zzRI rX12_layTold.cells rX12_layTold.slots (k66 l1 l2 l3 σ) σ 0 0 66 [(0, .ref (zzad Z 36)), (1, .int l1), (2, .int l2), (3, .int l3)] []) (n : Nat) : ∀ (l1 : Int32)  (l2 : Int32)  (l3 : Int32)  (l4 : Int32)  (l5 : Int32)  (l6 : Int32)  (σ : zzS), zzGO p l e rX12_layTold s m args below meth c 8 (zzA base) (zzM Z base PL mm) (zzM Z base PL mm) zzRI rX12_layTold.cells rX12_layTold.slots (f_X12_layTold_100 k54 k66 n l1 l2 l3 l4 l5 l6 σ) σ 0 0 100 [(0, .ref (zzad Z 36)), (1, .int l1), (2, .int l2), (3, .int l3), (4, .int l4), (5, .int l5), (6, .int l6)] [] := by
  induction n with
  | zero => exact fun _ _ _ _ _ _ _ r9 s9 h9 => by cases h9
  | succ n ih => exact w_X12_layTold_100b C k54 hk54 k66 hk66 _ ih
set_option maxHeartbeats 4000000 in
set_option maxRecDepth 100000 in
theorem w_X12_layTold_66b {l : Launch} {Z : zzG} {base : Nat} {PL : Nat → Option (Nat × Int32)} {mm : zzS} {p : Program} {e : Env} {s : State} {m : MethodId} {args : Array Value} {below : List Frame} {meth : Method} {c : Code} (C : zzCx p m meth c s args cX12_layTold 8 wsX12_layTold RX12 (some .int) Z)  (k54 : Int32 → zzS → Option (Int32 × zzS)) (hk54 : ∀ (l1 : Int32)  (σ : zzS), zzGO p l e rX12_layTold s m args below meth c 8 (zzA base) (zzM Z base PL mm) (zzM Z base PL mm) zzRI rX12_layTold.cells rX12_layTold.slots (k54 l1 σ) σ 0 0 54 [(0, .ref (zzad Z 36)), (1, .int l1)] []) (k66 : Int32 → Int32 → Int32 → zzS → Option (Int32 × zzS)) (hk66 : ∀ (l1 : Int32)  (l2 : Int32)  (l3 : Int32)  (σ : zzS), zzGO p l e rX12_layTold s m args below meth c 8 (zzA base) (zzM Z base PL mm) (zzM Z base PL mm) zzRI rX12_layTold.cells rX12_layTold.slots (k66 l1 l2 l3 σ) σ 0 0 66 [(0, .ref (zzad Z 36)), (1, .int l1), (2, .int l2), (3, .int l3)] []) (l1 : Int32)  (l2 : Int32)  (l3 : Int32)  (σ : zzS) : zzGO p l e rX12_layTold s m args below meth c 8 (zzA base) (zzM Z base PL mm) (zzM Z base PL mm) zzRI rX12_layTold.cells rX12_layTold.slots (f_X12_layTold_66b k54 k66 l1 l2 l3 σ) σ 0 0 66 [(0, .ref (zzad Z 36)), (1, .int l1), (2, .int l2), (3, .int l3)] [] := by
  unfold f_X12_layTold_66b
  refine zz_iload_n C dX12_layTold_66 rfl 3 rfl ?_
  refine zz_iconst (v := 1) C dX12_layTold_67 (by decide) ?_
  refine zz_aload_n C dX12_layTold_68 rfl 0 rfl ?_
  refine zz_get C zzM_obj (fun _ h9 => List.mem_cons_of_mem _ (List.mem_append_right _ (h9))) rfl 0 (by decide) (List.mem_of_getElem? (i := 2) rfl) (Or.inl rfl) rfl dX12_layTold_69 ?_
  refine zz_ishl C dX12_layTold_72 ?_
  refine zz_icmp_ge (tgt := 208) C dX12_layTold_73 (by decide) (fun h1 => ?_) (fun h1 => ?_)
  · refine zz_iincX (d := -1) (locf := fun x2 => [(1, .int x2), (0, .ref (zzad Z 36)), (2, .int l2), (3, .int l3)]) C dX12_layTold_208 (k := 1) rfl (by decide) (by decide) (fun _ => rfl) (fun x2 => ?_)
    refine zz_goto (tgt := 54) C dX12_layTold_211 (by decide) ?_
    refine zz_sub (loc' := [(0, .ref (zzad Z 36)), (1, .int x2)]) [1, 0] rfl ?_
    exact hk54 x2 σ
  · refine zz_aload_n C dX12_layTold_76 rfl 0 rfl ?_
    refine zz_get C zzM_obj (fun _ h9 => List.mem_cons_of_mem _ (List.mem_append_right _ (h9))) rfl 27 (by decide) (List.mem_of_getElem? (i := 1) rfl) (Or.inl rfl) rfl dX12_layTold_77 ?_
    refine zz_sipush (v := 128) C dX12_layTold_80 (by decide) ?_
    refine zz_iload_n C dX12_layTold_83 rfl 1 rfl ?_
    refine zz_imul C dX12_layTold_84 ?_
    refine zz_sipush (v := 128) C dX12_layTold_85 (by decide) ?_
    refine zz_iadd C dX12_layTold_88 ?_
    refine zz_iload_n C dX12_layTold_89 rfl 3 rfl ?_
    refine zz_iadd C dX12_layTold_90 ?_
    refine zz_gd (fun h3 => ?_)
    refine zz_iald C (zzM_arr (by decide)) h3 dX12_layTold_91 ?_
    refine zz_istoreX (locf := fun x4 => [(4, .int x4), (0, .ref (zzad Z 36)), (1, .int l1), (2, .int l2), (3, .int l3)]) C dX12_layTold_92 (by decide) (fun _ => rfl) (fun x4 => ?_)
    refine zz_iconst (v := 0) C dX12_layTold_94 (by decide) ?_
    refine zz_istore (loc' := [(5, .int (0 : Int32)), (4, .int x4), (0, .ref (zzad Z 36)), (1, .int l1), (2, .int l2), (3, .int l3)]) C dX12_layTold_95 (by decide) rfl ?_
    refine zz_iconst (v := 0) C dX12_layTold_97 (by decide) ?_
    refine zz_istore (loc' := [(6, .int (0 : Int32)), (5, .int (0 : Int32)), (4, .int x4), (0, .ref (zzad Z 36)), (1, .int l1), (2, .int l2), (3, .int l3)]) C dX12_layTold_98 (by decide) rfl ?_
    refine zz_sub (loc' := [(0, .ref (zzad Z 36)), (1, .int l1), (2, .int l2), (3, .int l3), (4, .int x4), (5, .int (0 : Int32)), (6, .int (0 : Int32))]) [3, 4, 5, 6, 2, 1, 0] rfl ?_
    exact w_X12_layTold_100 C k54 hk54 k66 hk66 200 l1 l2 l3 x4 (0 : Int32) (0 : Int32) σ
set_option maxHeartbeats 4000000 in
set_option maxRecDepth 100000 in
theorem w_X12_layTold_66 {l : Launch} {Z : zzG} {base : Nat} {PL : Nat → Option (Nat × Int32)} {mm : zzS} {p : Program} {e : Env} {s : State} {m : MethodId} {args : Array Value} {below : List Frame} {meth : Method} {c : Code} (C : zzCx p m meth c s args cX12_layTold 8 wsX12_layTold RX12 (some .int) Z)  (k54 : Int32 → zzS → Option (Int32 × zzS)) (hk54 : ∀ (l1 : Int32)  (σ : zzS), zzGO p l e rX12_layTold s m args below meth c 8 (zzA base) (zzM Z base PL mm) (zzM Z base PL mm) zzRI rX12_layTold.cells rX12_layTold.slots (k54 l1 σ) σ 0 0 54 [(0, .ref (zzad Z 36)), (1, .int l1)] []) (n : Nat) : ∀ (l1 : Int32)  (l2 : Int32)  (l3 : Int32)  (σ : zzS), zzGO p l e rX12_layTold s m args below meth c 8 (zzA base) (zzM Z base PL mm) (zzM Z base PL mm) zzRI rX12_layTold.cells rX12_layTold.slots (f_X12_layTold_66 k54 n l1 l2 l3 σ) σ 0 0 66 [(0, .ref (zzad Z 36)), (1, .int l1), (2, .int l2), (3, .int l3)] [] := by
  induction n with
  | zero => exact fun _ _ _ _ r9 s9 h9 => by cases h9
  | succ n ih => exact w_X12_layTold_66b C k54 hk54 _ ih
set_option maxHeartbeats 4000000 in
set_option maxRecDepth 100000 in
theorem w_X12_layTold_54b {l : Launch} {Z : zzG} {base : Nat} {PL : Nat → Option (Nat × Int32)} {mm : zzS} {p : Program} {e : Env} {s : State} {m : MethodId} {args : Array Value} {below : List Frame} {meth : Method} {c : Code} (C : zzCx p m meth c s args cX12_layTold 8 wsX12_layTold RX12 (some .int) Z)   (k54 : Int32 → zzS → Option (Int32 × zzS)) (hk54 : ∀ (l1 : Int32)  (σ : zzS), zzGO p l e rX12_layTold s m args below meth c 8 (zzA base) (zzM Z base PL mm) (zzM Z base PL mm) zzRI rX12_layTold.cells rX12_layTold.slots (k54 l1 σ) σ 0 0 54 [(0, .ref (zzad Z 36)), (1, .int l1)] []) (l1 : Int32)  (σ : zzS) : zzGO p l e rX12_layTold s m args below meth c 8 (zzA base) (zzM Z base PL mm) (zzM Z base PL mm) zzRI rX12_layTold.cells rX12_layTold.slots (f_X12_layTold_54b k54 l1 σ) σ 0 0 54 [(0, .ref (zzad Z 36)), (1, .int l1)] [] := by
  unfold f_X12_layTold_54b
  refine zz_iload_n C dX12_layTold_54 rfl 1 rfl ?_
  refine zz_if_lt (tgt := 214) C dX12_layTold_55 (by decide) (fun h1 => ?_) (fun h1 => ?_)
  · refine zz_aload_n C dX12_layTold_214 rfl 0 rfl ?_
    refine zz_get C zzM_obj (fun _ h9 => List.mem_cons_of_mem _ (List.mem_append_right _ (h9))) rfl 27 (by decide) (List.mem_of_getElem? (i := 1) rfl) (Or.inl rfl) rfl dX12_layTold_215 ?_
    refine zz_iconst (v := 0) C dX12_layTold_218 (by decide) ?_
    refine zz_gd (fun h2 => ?_)
    refine zz_iald C (zzM_arr (by decide)) h2 dX12_layTold_219 ?_
    exact zz_iret C rfl rfl (fun _ h9 => h9) (Nat.zero_le _) (Nat.zero_le _) dX12_layTold_220
  · refine zz_aload_n C dX12_layTold_58 rfl 0 rfl ?_
    refine zz_iload_n C dX12_layTold_59 rfl 1 rfl ?_
    refine zz_callV C (Cn := RX12) (b := zzad Z 36) (fun H hH => zz_recv C.2.2.2 (zzM_obj H hH) rfl) (As := [.int l1]) (rest := []) rfl (k_X12_fitFor l1 σ) (cwV 1 C.1.2.2.2.2 gX12_layTold_X12_fitFor rfl rfl rfl (by decide +kernel) ⟨Nat.le_of_ble_eq_true rfl, Nat.le_of_ble_eq_true rfl⟩) rfl (Nat.le_of_ble_eq_true rfl) ⟨Nat.zero_le _, Nat.zero_le _⟩ dX12_layTold_60 (zz_kI rfl rfl (fun r3 σ4 => ?_))
    refine zz_istore_n (loc' := [(2, .int r3), (0, .ref (zzad Z 36)), (1, .int l1)]) C dX12_layTold_63 rfl (by decide) rfl ?_
    refine zz_iconst (v := 0) C dX12_layTold_64 (by decide) ?_
    refine zz_istore_n (loc' := [(3, .int (0 : Int32)), (2, .int r3), (0, .ref (zzad Z 36)), (1, .int l1)]) C dX12_layTold_65 rfl (by decide) rfl ?_
    refine zz_sub (loc' := [(0, .ref (zzad Z 36)), (1, .int l1), (2, .int r3), (3, .int (0 : Int32))]) [2, 3, 1, 0] rfl ?_
    exact w_X12_layTold_66 C k54 hk54 200 l1 r3 (0 : Int32) σ4
set_option maxHeartbeats 4000000 in
set_option maxRecDepth 100000 in
theorem w_X12_layTold_54 {l : Launch} {Z : zzG} {base : Nat} {PL : Nat → Option (Nat × Int32)} {mm : zzS} {p : Program} {e : Env} {s : State} {m : MethodId} {args : Array Value} {below : List Frame} {meth : Method} {c : Code} (C : zzCx p m meth c s args cX12_layTold 8 wsX12_layTold RX12 (some .int) Z)   (n : Nat) : ∀ (l1 : Int32)  (σ : zzS), zzGO p l e rX12_layTold s m args below meth c 8 (zzA base) (zzM Z base PL mm) (zzM Z base PL mm) zzRI rX12_layTold.cells rX12_layTold.slots (f_X12_layTold_54 n l1 σ) σ 0 0 54 [(0, .ref (zzad Z 36)), (1, .int l1)] [] := by
  induction n with
  | zero => exact fun _ _ r9 s9 h9 => by cases h9
  | succ n ih => exact w_X12_layTold_54b C _ ih
set_option maxHeartbeats 4000000 in
set_option maxRecDepth 100000 in
theorem w_X12_layTold_2b {l : Launch} {Z : zzG} {base : Nat} {PL : Nat → Option (Nat × Int32)} {mm : zzS} {p : Program} {e : Env} {s : State} {m : MethodId} {args : Array Value} {below : List Frame} {meth : Method} {c : Code} (C : zzCx p m meth c s args cX12_layTold 8 wsX12_layTold RX12 (some .int) Z)   (k2 : Int32 → zzS → Option (Int32 × zzS)) (hk2 : ∀ (l1 : Int32)  (σ : zzS), zzGO p l e rX12_layTold s m args below meth c 8 (zzA base) (zzM Z base PL mm) (zzM Z base PL mm) zzRI rX12_layTold.cells rX12_layTold.slots (k2 l1 σ) σ 0 0 2 [(0, .ref (zzad Z 36)), (1, .int l1)] []) (l1 : Int32)  (σ : zzS) : zzGO p l e rX12_layTold s m args below meth c 8 (zzA base) (zzM Z base PL mm) (zzM Z base PL mm) zzRI rX12_layTold.cells rX12_layTold.slots (f_X12_layTold_2b k2 l1 σ) σ 0 0 2 [(0, .ref (zzad Z 36)), (1, .int l1)] [] := by
  unfold f_X12_layTold_2b
  refine zz_iload_n C dX12_layTold_2 rfl 1 rfl ?_
  refine zz_sipush (v := 128) C dX12_layTold_3 (by decide) ?_
  refine zz_icmp_ge (tgt := 47) C dX12_layTold_6 (by decide) (fun h1 => ?_) (fun h1 => ?_)
  · refine zz_aload_n C dX12_layTold_47 rfl 0 rfl ?_
    refine zz_get C zzM_obj (fun _ h9 => List.mem_cons_of_mem _ (List.mem_append_right _ (h9))) rfl 0 (by decide) (List.mem_of_getElem? (i := 2) rfl) (Or.inl rfl) rfl dX12_layTold_48 ?_
    refine zz_iconst (v := 1) C dX12_layTold_51 (by decide) ?_
    refine zz_isub C dX12_layTold_52 ?_
    refine zz_istoreX_n (locf := fun x2 => [(1, .int x2), (0, .ref (zzad Z 36))]) C dX12_layTold_53 rfl (by decide) (fun _ => rfl) (fun x2 => ?_)
    refine zz_sub (loc' := [(0, .ref (zzad Z 36)), (1, .int x2)]) [1, 0] rfl ?_
    exact w_X12_layTold_54 C 200 x2 σ
  · refine zz_aload_n C dX12_layTold_9 rfl 0 rfl ?_
    refine zz_get C zzM_obj (fun _ h9 => List.mem_cons_of_mem _ (List.mem_append_right _ (h9))) rfl 27 (by decide) (List.mem_of_getElem? (i := 1) rfl) (Or.inl rfl) rfl dX12_layTold_10 ?_
    refine zz_sipush (v := 128) C dX12_layTold_13 (by decide) ?_
    refine zz_aload_n C dX12_layTold_16 rfl 0 rfl ?_
    refine zz_get C zzM_obj (fun _ h9 => List.mem_cons_of_mem _ (List.mem_append_right _ (h9))) rfl 0 (by decide) (List.mem_of_getElem? (i := 2) rfl) (Or.inl rfl) rfl dX12_layTold_17 ?_
    refine zz_imul C dX12_layTold_20 ?_
    refine zz_iload_n C dX12_layTold_21 rfl 1 rfl ?_
    refine zz_iadd C dX12_layTold_22 ?_
    refine zz_iconst (v := 0) C dX12_layTold_23 (by decide) ?_
    refine zz_gd (fun h3 => ?_)
    refine zz_iast C (zzM_arr (by decide)) h3 (zzM_uarr (by decide)) (zzA_M (zzMarr_lt (by decide))) dX12_layTold_24 ?_
    refine zz_ltS (fun σ4 => ?_)
    refine zz_aload_n C dX12_layTold_25 rfl 0 rfl ?_
    refine zz_get C zzM_obj (fun _ h9 => List.mem_cons_of_mem _ (List.mem_append_right _ (h9))) rfl 28 (by decide) (List.mem_of_getElem? (i := 3) rfl) (Or.inl rfl) rfl dX12_layTold_26 ?_
    refine zz_sipush (v := 128) C dX12_layTold_29 (by decide) ?_
    refine zz_aload_n C dX12_layTold_32 rfl 0 rfl ?_
    refine zz_get C zzM_obj (fun _ h9 => List.mem_cons_of_mem _ (List.mem_append_right _ (h9))) rfl 0 (by decide) (List.mem_of_getElem? (i := 2) rfl) (Or.inl rfl) rfl dX12_layTold_33 ?_
    refine zz_imul C dX12_layTold_36 ?_
    refine zz_iload_n C dX12_layTold_37 rfl 1 rfl ?_
    refine zz_iadd C dX12_layTold_38 ?_
    refine zz_iconst (v := 1) C dX12_layTold_39 (by decide) ?_
    refine zz_gd (fun h5 => ?_)
    refine zz_iast C (zzM_arr (by decide)) h5 (zzM_uarr (by decide)) (zzA_M (zzMarr_lt (by decide))) dX12_layTold_40 ?_
    refine zz_ltS (fun σ6 => ?_)
    refine zz_iincX (d := 1) (locf := fun x7 => [(1, .int x7), (0, .ref (zzad Z 36))]) C dX12_layTold_41 (k := 1) rfl (by decide) (by decide) (fun _ => rfl) (fun x7 => ?_)
    refine zz_goto (tgt := 2) C dX12_layTold_44 (by decide) ?_
    refine zz_sub (loc' := [(0, .ref (zzad Z 36)), (1, .int x7)]) [1, 0] rfl ?_
    exact hk2 x7 σ6
set_option maxHeartbeats 4000000 in
set_option maxRecDepth 100000 in
theorem w_X12_layTold_2 {l : Launch} {Z : zzG} {base : Nat} {PL : Nat → Option (Nat × Int32)} {mm : zzS} {p : Program} {e : Env} {s : State} {m : MethodId} {args : Array Value} {below : List Frame} {meth : Method} {c : Code} (C : zzCx p m meth c s args cX12_layTold 8 wsX12_layTold RX12 (some .int) Z)   (n : Nat) : ∀ (l1 : Int32)  (σ : zzS), zzGO p l e rX12_layTold s m args below meth c 8 (zzA base) (zzM Z base PL mm) (zzM Z base PL mm) zzRI rX12_layTold.cells rX12_layTold.slots (f_X12_layTold_2 n l1 σ) σ 0 0 2 [(0, .ref (zzad Z 36)), (1, .int l1)] [] := by
  induction n with
  | zero => exact fun _ _ r9 s9 h9 => by cases h9
  | succ n ih => exact w_X12_layTold_2b C _ ih
set_option maxHeartbeats 4000000 in
set_option maxRecDepth 100000 in
theorem w_X12_layTold_e {l : Launch} {Z : zzG} {base : Nat} {PL : Nat → Option (Nat × Int32)} {mm : zzS} {p : Program} {e : Env} {s : State} {m : MethodId} {args : Array Value} {below : List Frame} {meth : Method} {c : Code} (C : zzCx p m meth c s args cX12_layTold 8 wsX12_layTold RX12 (some .int) Z)  (σ : zzS) : zzGO p l e rX12_layTold s m args below meth c 8 (zzA base) (zzM Z base PL mm) (zzM Z base PL mm) zzRI rX12_layTold.cells rX12_layTold.slots (f_X12_layTold σ) σ 0 0 0 [(0, .ref (zzad Z 36))] [] := by
  unfold f_X12_layTold
  refine zz_iconst (v := 0) C dX12_layTold_0 (by decide) ?_
  refine zz_istore_n (loc' := [(1, .int (0 : Int32)), (0, .ref (zzad Z 36))]) C dX12_layTold_1 rfl (by decide) rfl ?_
  refine zz_sub (loc' := [(0, .ref (zzad Z 36)), (1, .int (0 : Int32))]) [1, 0] rfl ?_
  exact w_X12_layTold_2 C 200 (0 : Int32) σ
set_option maxHeartbeats 4000000 in
set_option maxRecDepth 100000 in
theorem k_X12_layTold {l : Launch} {Z : zzG} {base : Nat} {PL : Nat → Option (Nat × Int32)} {mm : zzS}  (σ : zzS) : zzCT l yX12_layTold wsX12_layTold rX12_layTold (zzA base) Z (zzM Z base PL mm) (zzM Z base PL mm) zzRI [.ref (zzad Z 36)] (f_X12_layTold σ) σ :=
  zzCT_of (cc := cX12_layTold) (nL := 8) (ret := (some .int)) (by decide) rfl (Nat.le_of_ble_eq_true rfl) [(0, .ref (zzad Z 36))] rfl (fun p e s m args below meth c C => w_X12_layTold_e C σ)
