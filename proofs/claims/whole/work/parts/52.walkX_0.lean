abbrev rX10_has : Room := { frames := 0, cells := 0, slots := 0, locals := 0 }

set_option maxHeartbeats 4000000 in
set_option maxRecDepth 100000 in
theorem w_X10_has_e {l : Launch} {Z : zzG} {base : Nat} {PL : Nat → Option (Nat × Int32)} {mm : zzS} {p : Program} {e : Env} {s : State} {m : MethodId} {args : Array Value} {below : List Frame} {meth : Method} {c : Code} (C : zzCx p m meth c s args cX10_has 2 wsX10_has RX10 (some .boolean) Z) (t0 : Nat) (ht0 : zztown t0) (p0 : Int32)  (σ : zzS) : zzGO p l e rX10_has s m args below meth c 2 (zzA base) (zzX Z base PL mm) (zzX Z base PL mm) zzRI rX10_has.cells rX10_has.slots (f_X10_has t0 p0 σ) σ 0 0 0 [(0, .ref (zzad Z t0)), (1, .int p0)] [] := by
  unfold f_X10_has
  refine zz_iload_n C dX10_has_0 rfl 1 rfl ?_
  refine zz_if_lt (tgt := 16) C dX10_has_1 (by decide) (fun h1 => ?_) (fun h1 => ?_)
  · refine zz_iconst (v := 0) C dX10_has_16 (by decide) ?_
    exact zz_zret C rfl (Or.inl rfl) rfl (fun _ h9 => h9) (Nat.zero_le _) (Nat.zero_le _) dX10_has_17
  · refine zz_iload_n C dX10_has_4 rfl 1 rfl ?_
    refine zz_aload_n C dX10_has_5 rfl 0 rfl ?_
    refine zz_get C (zzX_town ht0) (fun _ h9 => List.mem_cons_of_mem _ (List.mem_append_right _ (h9))) rfl 4 (by decide) (List.mem_of_getElem? (i := 1) rfl) (Or.inl rfl) rfl dX10_has_6 ?_
    refine zz_icmp_ge (tgt := 16) C dX10_has_9 (by decide) (fun h2 => ?_) (fun h2 => ?_)
    · refine zz_iconst (v := 0) C dX10_has_16 (by decide) ?_
      exact zz_zret C rfl (Or.inl rfl) rfl (fun _ h9 => h9) (Nat.zero_le _) (Nat.zero_le _) dX10_has_17
    · refine zz_iconst (v := 1) C dX10_has_12 (by decide) ?_
      refine zz_goto (tgt := 17) C dX10_has_13 (by decide) ?_
      exact zz_zret C rfl (Or.inr rfl) rfl (fun _ h9 => h9) (Nat.zero_le _) (Nat.zero_le _) dX10_has_17
set_option maxHeartbeats 4000000 in
set_option maxRecDepth 100000 in
theorem k_X10_has {l : Launch} {Z : zzG} {base : Nat} {PL : Nat → Option (Nat × Int32)} {mm : zzS} (t0 : Nat) (ht0 : zztown t0) (p0 : Int32)  (σ : zzS) : zzCT l yX10_has wsX10_has rX10_has (zzA base) Z (zzX Z base PL mm) (zzX Z base PL mm) zzRI [.ref (zzad Z t0), .int p0] (f_X10_has t0 p0 σ) σ :=
  zzCT_of (cc := cX10_has) (nL := 2) (ret := (some .boolean)) (by decide) rfl (Nat.le_of_ble_eq_true rfl) [(0, .ref (zzad Z t0)), (1, .int p0)] rfl (fun p e s m args below meth c C => w_X10_has_e C t0 ht0 p0 σ)
abbrev rX10_areTwo : Room := { frames := 1, cells := 0, slots := 0, locals := 21 }

set_option maxHeartbeats 4000000 in
set_option maxRecDepth 100000 in
theorem w_X10_areTwo_e {l : Launch} {Z : zzG} {base : Nat} {PL : Nat → Option (Nat × Int32)} {mm : zzS} {p : Program} {e : Env} {s : State} {m : MethodId} {args : Array Value} {below : List Frame} {meth : Method} {c : Code} (C : zzCx p m meth c s args cX10_areTwo 3 wsX10_areTwo RX10 (some .boolean) Z) (t0 : Nat) (ht0 : zztown t0) (p0 : Int32)  (p1 : Int32)  (σ : zzS) : zzGO p l e rX10_areTwo s m args below meth c 3 (zzA base) (zzX Z base PL mm) (zzX Z base PL mm) zzRI rX10_areTwo.cells rX10_areTwo.slots (f_X10_areTwo t0 p0 p1 σ) σ 0 0 0 [(0, .ref (zzad Z t0)), (1, .int p0), (2, .int p1)] [] := by
  unfold f_X10_areTwo
  refine zz_aload_n C dX10_areTwo_0 rfl 0 rfl ?_
  refine zz_iload_n C dX10_areTwo_1 rfl 1 rfl ?_
  refine zz_callV C (Cn := RX10) (b := zzad Z t0) (fun H hH => zz_recv C.2.2.2 ((zzX_town ht0) H hH) rfl) (As := [.int p0]) (rest := []) rfl (k_X10_has t0 ht0 p0 σ) (cwV 1 C.1.2.2.2.2 gX10_areTwo_X10_has rfl rfl rfl (by decide +kernel) ⟨Nat.le_of_ble_eq_true rfl, Nat.le_of_ble_eq_true rfl⟩) rfl (Nat.le_of_ble_eq_true rfl) ⟨Nat.zero_le _, Nat.zero_le _⟩ dX10_areTwo_2 (zz_kI rfl rfl (fun r1 σ2 => ?_))
  refine zz_if_eq (tgt := 25) C dX10_areTwo_5 (by decide) (fun h3 => ?_) (fun h3 => ?_)
  · refine zz_iconst (v := 0) C dX10_areTwo_25 (by decide) ?_
    exact zz_zret C rfl (Or.inl rfl) rfl (fun _ h9 => h9) (Nat.zero_le _) (Nat.zero_le _) dX10_areTwo_26
  · refine zz_aload_n C dX10_areTwo_8 rfl 0 rfl ?_
    refine zz_iload_n C dX10_areTwo_9 rfl 2 rfl ?_
    refine zz_callV C (Cn := RX10) (b := zzad Z t0) (fun H hH => zz_recv C.2.2.2 ((zzX_town ht0) H hH) rfl) (As := [.int p1]) (rest := []) rfl (k_X10_has t0 ht0 p1 σ2) (cwV 1 C.1.2.2.2.2 gX10_areTwo_X10_has rfl rfl rfl (by decide +kernel) ⟨Nat.le_of_ble_eq_true rfl, Nat.le_of_ble_eq_true rfl⟩) rfl (Nat.le_of_ble_eq_true rfl) ⟨Nat.zero_le _, Nat.zero_le _⟩ dX10_areTwo_10 (zz_kI rfl rfl (fun r4 σ5 => ?_))
    refine zz_if_eq (tgt := 25) C dX10_areTwo_13 (by decide) (fun h6 => ?_) (fun h6 => ?_)
    · refine zz_iconst (v := 0) C dX10_areTwo_25 (by decide) ?_
      exact zz_zret C rfl (Or.inl rfl) rfl (fun _ h9 => h9) (Nat.zero_le _) (Nat.zero_le _) dX10_areTwo_26
    · refine zz_iload_n C dX10_areTwo_16 rfl 1 rfl ?_
      refine zz_iload_n C dX10_areTwo_17 rfl 2 rfl ?_
      refine zz_icmp_eq (tgt := 25) C dX10_areTwo_18 (by decide) (fun h7 => ?_) (fun h7 => ?_)
      · refine zz_iconst (v := 0) C dX10_areTwo_25 (by decide) ?_
        exact zz_zret C rfl (Or.inl rfl) rfl (fun _ h9 => h9) (Nat.zero_le _) (Nat.zero_le _) dX10_areTwo_26
      · refine zz_iconst (v := 1) C dX10_areTwo_21 (by decide) ?_
        refine zz_goto (tgt := 26) C dX10_areTwo_22 (by decide) ?_
        exact zz_zret C rfl (Or.inr rfl) rfl (fun _ h9 => h9) (Nat.zero_le _) (Nat.zero_le _) dX10_areTwo_26
set_option maxHeartbeats 4000000 in
set_option maxRecDepth 100000 in
theorem k_X10_areTwo {l : Launch} {Z : zzG} {base : Nat} {PL : Nat → Option (Nat × Int32)} {mm : zzS} (t0 : Nat) (ht0 : zztown t0) (p0 : Int32)  (p1 : Int32)  (σ : zzS) : zzCT l yX10_areTwo wsX10_areTwo rX10_areTwo (zzA base) Z (zzX Z base PL mm) (zzX Z base PL mm) zzRI [.ref (zzad Z t0), .int p0, .int p1] (f_X10_areTwo t0 p0 p1 σ) σ :=
  zzCT_of (cc := cX10_areTwo) (nL := 3) (ret := (some .boolean)) (by decide) rfl (Nat.le_of_ble_eq_true rfl) [(0, .ref (zzad Z t0)), (1, .int p0), (2, .int p1)] rfl (fun p e s m args below meth c C => w_X10_areTwo_e C t0 ht0 p0 p1 σ)
abbrev rX10_at : Room := { frames := 0, cells := 0, slots := 0, locals := 0 }

set_option maxHeartbeats 4000000 in
set_option maxRecDepth 100000 in
theorem w_X10_at_23 {l : Launch} {Z : zzG} {base : Nat} {PL : Nat → Option (Nat × Int32)} {mm : zzS} {p : Program} {e : Env} {s : State} {m : MethodId} {args : Array Value} {below : List Frame} {meth : Method} {c : Code} (C : zzCx p m meth c s args cX10_at 3 wsX10_at RX10 (some (.object "DealtByOpposite$Person")) Z) (t0 : Nat) (ht0 : zztown t0) (p0 : Int32)   (s0 : (Option (Nat × Int32))) (cs0 : Option Nat) (hs0 : zzpr PL s0 cs0) (σ : zzS) : zzGO p l e rX10_at s m args below meth c 3 (zzA base) (zzX Z base PL mm) (zzX Z base PL mm) (zzRP PL) rX10_at.cells rX10_at.slots (f_X10_at_23 t0 p0 s0 σ) σ 0 0 23 [(0, .ref (zzad Z t0))] [va_rf cs0] := by
  unfold f_X10_at_23
  refine zz_astoreq_n (loc' := [(2, va_rf cs0), (0, .ref (zzad Z t0))]) C dX10_at_23 rfl (by decide) rfl ?_
  refine zz_aloadq_n C dX10_at_24 rfl 0 rfl ?_
  refine zz_ifnonnullP (tgt := 35) C hs0 dX10_at_25 (by decide) (fun h3 h4 => ?_) (fun kf1 q2 h3 h4 hq5 => ?_)
  · subst h4
    refine zz_aload_n C dX10_at_28 rfl 1 rfl ?_
    refine zz_fact (zzX_sp ht0) (fun hq6 => ?_)
    refine zz_get C (zzX_town ht0) (fun _ h9 => List.mem_cons_of_mem _ (List.mem_append_right _ (h9))) rfl 3 (by decide) (List.mem_of_getElem? (i := 2) rfl) (Or.inl rfl) rfl dX10_at_29 ?_
    refine zz_goto (tgt := 36) C dX10_at_32 (by decide) ?_
    exact zz_aret (c0 := some (zzsp Z t0)) C rfl ⟨some (zzsp Z t0), ⟨_, rfl, hq6⟩, rfl⟩ (fun _ h9 => h9) (Nat.zero_le _) (Nat.zero_le _) dX10_at_36
  · subst h4
    refine zz_aload_n C dX10_at_35 rfl 0 rfl ?_
    exact zz_aret (c0 := some q2) C rfl ⟨some q2, ⟨_, rfl, hq5⟩, rfl⟩ (fun _ h9 => h9) (Nat.zero_le _) (Nat.zero_le _) dX10_at_36
set_option maxHeartbeats 4000000 in
set_option maxRecDepth 100000 in
theorem w_X10_at_22 {l : Launch} {Z : zzG} {base : Nat} {PL : Nat → Option (Nat × Int32)} {mm : zzS} {p : Program} {e : Env} {s : State} {m : MethodId} {args : Array Value} {below : List Frame} {meth : Method} {c : Code} (C : zzCx p m meth c s args cX10_at 3 wsX10_at RX10 (some (.object "DealtByOpposite$Person")) Z) (t0 : Nat) (ht0 : zztown t0) (p0 : Int32)    (σ : zzS) : zzGO p l e rX10_at s m args below meth c 3 (zzA base) (zzX Z base PL mm) (zzX Z base PL mm) (zzRP PL) rX10_at.cells rX10_at.slots (f_X10_at_22 t0 p0 σ) σ 0 0 22 [(0, .ref (zzad Z t0))] [] := by
  unfold f_X10_at_22
  refine zz_null C dX10_at_22 ?_
  refine zz_sub (loc' := [(0, .ref (zzad Z t0))]) [0] rfl ?_
  exact w_X10_at_23 C t0 ht0 p0 none none rfl σ
set_option maxHeartbeats 4000000 in
set_option maxRecDepth 100000 in
theorem w_X10_at_e {l : Launch} {Z : zzG} {base : Nat} {PL : Nat → Option (Nat × Int32)} {mm : zzS} {p : Program} {e : Env} {s : State} {m : MethodId} {args : Array Value} {below : List Frame} {meth : Method} {c : Code} (C : zzCx p m meth c s args cX10_at 3 wsX10_at RX10 (some (.object "DealtByOpposite$Person")) Z) (t0 : Nat) (ht0 : zztown t0) (p0 : Int32)  (σ : zzS) : zzGO p l e rX10_at s m args below meth c 3 (zzA base) (zzX Z base PL mm) (zzX Z base PL mm) (zzRP PL) rX10_at.cells rX10_at.slots (f_X10_at t0 p0 σ) σ 0 0 0 [(0, .ref (zzad Z t0)), (1, .int p0)] [] := by
  unfold f_X10_at
  refine zz_iload_n C dX10_at_0 rfl 1 rfl ?_
  refine zz_if_lt (tgt := 22) C dX10_at_1 (by decide) (fun h1 => ?_) (fun h1 => ?_)
  · refine zz_sub (loc' := [(0, .ref (zzad Z t0))]) [0] rfl ?_
    exact w_X10_at_22 C t0 ht0 p0 σ
  · refine zz_iload_n C dX10_at_4 rfl 1 rfl ?_
    refine zz_aload_n C dX10_at_5 rfl 0 rfl ?_
    refine zz_get C (zzX_town ht0) (fun _ h9 => List.mem_cons_of_mem _ (List.mem_append_right _ (h9))) rfl 0 (by decide) (List.mem_of_getElem? (i := 1) rfl) (Or.inl rfl) rfl dX10_at_6 ?_
    refine zz_alenP C (zzpk1 ht0) dX10_at_9 ?_
    refine zz_icmp_ge (tgt := 22) C dX10_at_10 (by decide) (fun h2 => ?_) (fun h2 => ?_)
    · refine zz_sub (loc' := [(0, .ref (zzad Z t0))]) [0] rfl ?_
      exact w_X10_at_22 C t0 ht0 p0 σ
    · refine zz_aload_n C dX10_at_13 rfl 0 rfl ?_
      refine zz_get C (zzX_town ht0) (fun _ h9 => List.mem_cons_of_mem _ (List.mem_append_right _ (h9))) rfl 0 (by decide) (List.mem_of_getElem? (i := 1) rfl) (Or.inl rfl) rfl dX10_at_14 ?_
      refine zz_iload_n C dX10_at_17 rfl 1 rfl ?_
      refine zz_gd (fun h3 => ?_)
      refine zz_aald (F := fun c => zzpr PL (zzr σ (t0 + 1) (Int32.toNatClampNeg p0)) c) C (zzX_pers (zzpk1 ht0) (Int32.toNatClampNeg p0)) rfl h3 dX10_at_18 (fun c4 hp5 => ?_)
      refine zz_goto (tgt := 23) C dX10_at_19 (by decide) ?_
      refine zz_sub (loc' := [(0, .ref (zzad Z t0))]) [0] rfl ?_
      exact w_X10_at_23 C t0 ht0 p0 (zzr σ (t0 + 1) (Int32.toNatClampNeg p0)) c4 hp5 σ
set_option maxHeartbeats 4000000 in
set_option maxRecDepth 100000 in
theorem k_X10_at {l : Launch} {Z : zzG} {base : Nat} {PL : Nat → Option (Nat × Int32)} {mm : zzS} (t0 : Nat) (ht0 : zztown t0) (p0 : Int32)  (σ : zzS) : zzCT l yX10_at wsX10_at rX10_at (zzA base) Z (zzX Z base PL mm) (zzX Z base PL mm) (zzRP PL) [.ref (zzad Z t0), .int p0] (f_X10_at t0 p0 σ) σ :=
  zzCT_of (cc := cX10_at) (nL := 3) (ret := (some (.object "DealtByOpposite$Person"))) (by decide) rfl (Nat.le_of_ble_eq_true rfl) [(0, .ref (zzad Z t0)), (1, .int p0)] rfl (fun p e s m args below meth c C => w_X10_at_e C t0 ht0 p0 σ)
abbrev rX11_read : Room := { frames := 0, cells := 0, slots := 0, locals := 0 }

set_option maxHeartbeats 4000000 in
set_option maxRecDepth 100000 in
theorem w_X11_read_e {l : Launch} {Z : zzG} {base : Nat} {PL : Nat → Option (Nat × Int32)} {mm : zzS} {p : Program} {e : Env} {s : State} {m : MethodId} {args : Array Value} {below : List Frame} {meth : Method} {c : Code} (C : zzCx p m meth c s args cX11_read 2 wsX11_read RX11 (some .int) Z) (p0 : Nat) (hp0 : zzXarr p0) (p1 : Int32)  (σ : zzS) : zzGO p l e rX11_read s m args below meth c 2 (zzA base) (zzX Z base PL mm) (zzX Z base PL mm) zzRI rX11_read.cells rX11_read.slots (f_X11_read p0 p1 σ) σ 0 0 0 [(0, .ref (zzad Z p0)), (1, .int p1)] [] := by
  unfold f_X11_read
  refine zz_iload_n C dX11_read_0 rfl 1 rfl ?_
  refine zz_if_lt (tgt := 16) C dX11_read_1 (by decide) (fun h1 => ?_) (fun h1 => ?_)
  · refine zz_iconst (v := 0) C dX11_read_16 (by decide) ?_
    exact zz_iret C rfl rfl (fun _ h9 => h9) (Nat.zero_le _) (Nat.zero_le _) dX11_read_17
  · refine zz_iload_n C dX11_read_4 rfl 1 rfl ?_
    refine zz_aload_n C dX11_read_5 rfl 0 rfl ?_
    refine zz_alen (v := (Int32.ofNat (zzlen p0))) C (zzX_arr hp0) rfl rfl dX11_read_6 ?_
    refine zz_icmp_ge (tgt := 16) C dX11_read_7 (by decide) (fun h2 => ?_) (fun h2 => ?_)
    · refine zz_iconst (v := 0) C dX11_read_16 (by decide) ?_
      exact zz_iret C rfl rfl (fun _ h9 => h9) (Nat.zero_le _) (Nat.zero_le _) dX11_read_17
    · refine zz_aload_n C dX11_read_10 rfl 0 rfl ?_
      refine zz_iload_n C dX11_read_11 rfl 1 rfl ?_
      refine zz_gd (fun h3 => ?_)
      refine zz_iald C (zzX_arr hp0) h3 dX11_read_12 ?_
      refine zz_goto (tgt := 17) C dX11_read_13 (by decide) ?_
      exact zz_iret C rfl rfl (fun _ h9 => h9) (Nat.zero_le _) (Nat.zero_le _) dX11_read_17
set_option maxHeartbeats 4000000 in
set_option maxRecDepth 100000 in
theorem k_X11_read {l : Launch} {Z : zzG} {base : Nat} {PL : Nat → Option (Nat × Int32)} {mm : zzS} (p0 : Nat) (hp0 : zzXarr p0) (p1 : Int32)  (σ : zzS) : zzCT l yX11_read wsX11_read rX11_read (zzA base) Z (zzX Z base PL mm) (zzX Z base PL mm) zzRI [.ref (zzad Z p0), .int p1] (f_X11_read p0 p1 σ) σ :=
  zzCT_of (cc := cX11_read) (nL := 2) (ret := (some .int)) (by decide) rfl (Nat.le_of_ble_eq_true rfl) [(0, .ref (zzad Z p0)), (1, .int p1)] rfl (fun p e s m args below meth c C => w_X11_read_e C p0 hp0 p1 σ)
abbrev rX10_fondOf : Room := { frames := 2, cells := 0, slots := 0, locals := 43 }

set_option maxHeartbeats 4000000 in
set_option maxRecDepth 100000 in
theorem w_X10_fondOf_e {l : Launch} {Z : zzG} {base : Nat} {PL : Nat → Option (Nat × Int32)} {mm : zzS} {p : Program} {e : Env} {s : State} {m : MethodId} {args : Array Value} {below : List Frame} {meth : Method} {c : Code} (C : zzCx p m meth c s args cX10_fondOf 3 wsX10_fondOf RX10 (some .int) Z) (t0 : Nat) (ht0 : zztown t0) (p0 : Int32)  (p1 : Int32)  (σ : zzS) : zzGO p l e rX10_fondOf s m args below meth c 3 (zzA base) (zzX Z base PL mm) (zzX Z base PL mm) zzRI rX10_fondOf.cells rX10_fondOf.slots (f_X10_fondOf t0 p0 p1 σ) σ 0 0 0 [(0, .ref (zzad Z t0)), (1, .int p0), (2, .int p1)] [] := by
  unfold f_X10_fondOf
  refine zz_aload_n C dX10_fondOf_0 rfl 0 rfl ?_
  refine zz_iload_n C dX10_fondOf_1 rfl 1 rfl ?_
  refine zz_iload_n C dX10_fondOf_2 rfl 2 rfl ?_
  refine zz_callV C (Cn := RX10) (b := zzad Z t0) (fun H hH => zz_recv C.2.2.2 ((zzX_town ht0) H hH) rfl) (As := [.int p0, .int p1]) (rest := []) rfl (k_X10_areTwo t0 ht0 p0 p1 σ) (cwV 2 C.1.2.2.2.2 gX10_fondOf_X10_areTwo rfl rfl rfl (by decide +kernel) ⟨Nat.le_of_ble_eq_true rfl, Nat.le_of_ble_eq_true rfl⟩) rfl (Nat.le_of_ble_eq_true rfl) ⟨Nat.zero_le _, Nat.zero_le _⟩ dX10_fondOf_3 (zz_kI rfl rfl (fun r1 σ2 => ?_))
  refine zz_if_eq (tgt := 25) C dX10_fondOf_6 (by decide) (fun h3 => ?_) (fun h3 => ?_)
  · refine zz_iconst (v := 0) C dX10_fondOf_25 (by decide) ?_
    exact zz_iret C rfl rfl (fun _ h9 => h9) (Nat.zero_le _) (Nat.zero_le _) dX10_fondOf_26
  · refine zz_aload_n C dX10_fondOf_9 rfl 0 rfl ?_
    refine zz_get C (zzX_town ht0) (fun _ h9 => List.mem_cons_of_mem _ (List.mem_append_right _ (h9))) rfl 2 (by decide) (List.mem_of_getElem? (i := 1) rfl) (Or.inl rfl) rfl dX10_fondOf_10 ?_
    refine zz_iload_n C dX10_fondOf_13 rfl 1 rfl ?_
    refine zz_bipush (v := 7) C dX10_fondOf_14 (by decide) ?_
    refine zz_imul C dX10_fondOf_16 ?_
    refine zz_iload_n C dX10_fondOf_17 rfl 2 rfl ?_
    refine zz_iadd C dX10_fondOf_18 ?_
    refine zz_callSN (As := [.ref (zzad Z (t0 + 3)), .int ((p0 * (7 : Int32)) + p1)]) (rest := []) C rfl (k_X11_read (t0 + 3) (zzXarr3 ht0) ((p0 * (7 : Int32)) + p1) σ2) ⟨va_cnB 2 C.1.2.2.2.2 gX10_fondOf_X11_read_n45 rfl rfl rfl (C.2.2.2.2 _ (List.mem_of_getElem? (i := 7) rfl)) (C.1.2.2.2.2 _ (List.mem_of_getElem? (i := 13) rfl)) (by decide +kernel) ⟨Nat.le_of_ble_eq_true rfl, Nat.le_of_ble_eq_true rfl⟩, C.1.2.2.2.2 _ (List.mem_of_getElem? (i := 12) rfl), trivial⟩ rfl (Nat.le_of_ble_eq_true rfl) ⟨Nat.zero_le _, Nat.zero_le _⟩ dX10_fondOf_19 (zz_kI rfl rfl (fun r4 σ5 => ?_))
    refine zz_goto (tgt := 26) C dX10_fondOf_22 (by decide) ?_
    exact zz_iret C rfl rfl (fun _ h9 => h9) (Nat.zero_le _) (Nat.zero_le _) dX10_fondOf_26
set_option maxHeartbeats 4000000 in
set_option maxRecDepth 100000 in
theorem k_X10_fondOf {l : Launch} {Z : zzG} {base : Nat} {PL : Nat → Option (Nat × Int32)} {mm : zzS} (t0 : Nat) (ht0 : zztown t0) (p0 : Int32)  (p1 : Int32)  (σ : zzS) : zzCT l yX10_fondOf wsX10_fondOf rX10_fondOf (zzA base) Z (zzX Z base PL mm) (zzX Z base PL mm) zzRI [.ref (zzad Z t0), .int p0, .int p1] (f_X10_fondOf t0 p0 p1 σ) σ :=
  zzCT_of (cc := cX10_fondOf) (nL := 3) (ret := (some .int)) (by decide) rfl (Nat.le_of_ble_eq_true rfl) [(0, .ref (zzad Z t0)), (1, .int p0), (2, .int p1)] rfl (fun p e s m args below meth c C => w_X10_fondOf_e C t0 ht0 p0 p1 σ)
abbrev rX10_may : Room := { frames := 3, cells := 0, slots := 0, locals := 65 }
set_option maxHeartbeats 4000000 in
set_option maxRecDepth 100000 in
theorem vr_X10_may_20 {l : Launch} {Z : zzG} {base : Nat} {PL : Nat → Option (Nat × Int32)} {mm : zzS} {p : Program} {e : Env} {s : State} {m : MethodId} {args : Array Value} {below : List Frame} {meth : Method} {c : Code} {cells slots : Nat} {σ : zzS} {loc : List (Nat × Value)} {rest : List Value} (C : zzCx p m meth c s args cX10_may 4 wsX10_may RX10 (some .boolean) Z) {q : Nat} {kf : Nat × Int32} (hq : PL q = some kf) (hroom : (rest.map fun v => v.category).sum ≤ 8) (hcs : cells + 0 ≤ (rX10_may).cells ∧ slots + 0 ≤ (rX10_may).slots := by exact ⟨Nat.zero_le _, Nat.zero_le _⟩) :
    ∀ r1 σ2, some (zzbears kf, σ) = some (r1, σ2) → ∀ (H : Heap) (locs : List Loc) (ls : Array Slot), zzX Z base PL mm σ H → lv_has ls 4 loc → va_Run p l e rX10_may s m args below meth c H locs cells slots 0 0 (F0 m 20 ls (.ref q :: rest)) rest (zzQ zzRI (zzX Z base PL mm) (zzA base) r1 σ2 #[.ref q]) (zzA base) := by
  intro r1 σ2 hr H locs ls hW hl
  have h8 := zz_kind8 (hW.1.2.2.1 q kf hq).1
  obtain ⟨k9, f9⟩ := kf
  rcases h8 with h8 | h8 | h8 | h8 | h8 | h8 | h8 | h8
  · have h8 : k9 = 0 := h8
    subst h8
    have ct := k_X6_bears (l := l) (Z := Z) (base := base) (PL := PL) (mm := mm) (0, f9) q hq σ r1 σ2 hr
    exact va_runV (As := []) (C := RX6) C.1 ct (cwV 0 C.1.2.2.2.2 gX10_may_X6_bears rfl rfl rfl (by decide +kernel) ⟨Nat.le_of_ble_eq_true rfl, Nat.le_of_ble_eq_true rfl⟩) ⟨zzPc_blind, zz_recv C.2.2.2 (zzX_pers1 hq H hW) rfl, fun U hU hWm => zzPc_at C.2.2.2 hU hWm hW⟩ rfl rfl hl.1 rfl (lv_room hroom) dX10_may_20 hcs
  · have h8 : k9 = 1 := h8
    subst h8
    have ct := k_X9_bears (l := l) (Z := Z) (base := base) (PL := PL) (mm := mm) (1, f9) q hq (Or.inl rfl) σ r1 σ2 hr
    exact va_runU (As := []) (C := RX9) C.1 ct (va_cwO 0 C.1.2.2.2.2 gX10_may_X9_bears_u103X9 rfl rfl rfl (List.mem_of_getElem? (i := 30) rfl) (by decide +kernel) ⟨Nat.le_of_ble_eq_true rfl, Nat.le_of_ble_eq_true rfl⟩) ⟨zzPc_blind, zz_recv C.2.2.2 (zzX_pers1 hq H hW) rfl, fun U hU hWm => zzPc_at C.2.2.2 hU hWm hW⟩ rfl rfl hl.1 rfl (lv_room hroom) dX10_may_20 hcs
  · have h8 : k9 = 2 := h8
    subst h8
    have ct := k_X6_bears (l := l) (Z := Z) (base := base) (PL := PL) (mm := mm) (2, f9) q hq σ r1 σ2 hr
    exact va_runU (As := []) (C := RX0) C.1 ct (va_cwU 0 C.1.2.2.2.2 gX10_may_X6_bears_u103X0 rfl rfl rfl (by decide +kernel) (by decide +kernel) ⟨Nat.le_of_ble_eq_true rfl, Nat.le_of_ble_eq_true rfl⟩) ⟨zzPc_blind, zz_recv C.2.2.2 (zzX_pers1 hq H hW) rfl, fun U hU hWm => zzPc_at C.2.2.2 hU hWm hW⟩ rfl rfl hl.1 rfl (lv_room hroom) dX10_may_20 hcs
  · have h8 : k9 = 3 := h8
    subst h8
    have ct := k_X1_bears (l := l) (Z := Z) (base := base) (PL := PL) (mm := mm) (3, f9) q hq rfl σ r1 σ2 hr
    exact va_runU (As := []) (C := RX1) C.1 ct (va_cwO 0 C.1.2.2.2.2 gX10_may_X1_bears_u103X1 rfl rfl rfl (List.mem_of_getElem? (i := 30) rfl) (by decide +kernel) ⟨Nat.le_of_ble_eq_true rfl, Nat.le_of_ble_eq_true rfl⟩) ⟨zzPc_blind, zz_recv C.2.2.2 (zzX_pers1 hq H hW) rfl, fun U hU hWm => zzPc_at C.2.2.2 hU hWm hW⟩ rfl rfl hl.1 rfl (lv_room hroom) dX10_may_20 hcs
  · have h8 : k9 = 4 := h8
    subst h8
    have ct := k_X4_bears (l := l) (Z := Z) (base := base) (PL := PL) (mm := mm) (4, f9) q hq rfl σ r1 σ2 hr
    exact va_runU (As := []) (C := RX4) C.1 ct (va_cwO 0 C.1.2.2.2.2 gX10_may_X4_bears_u103X4 rfl rfl rfl (List.mem_of_getElem? (i := 30) rfl) (by decide +kernel) ⟨Nat.le_of_ble_eq_true rfl, Nat.le_of_ble_eq_true rfl⟩) ⟨zzPc_blind, zz_recv C.2.2.2 (zzX_pers1 hq H hW) rfl, fun U hU hWm => zzPc_at C.2.2.2 hU hWm hW⟩ rfl rfl hl.1 rfl (lv_room hroom) dX10_may_20 hcs
  · have h8 : k9 = 5 := h8
    subst h8
    have ct := k_X5_bears (l := l) (Z := Z) (base := base) (PL := PL) (mm := mm) (5, f9) q hq rfl σ r1 σ2 hr
    exact va_runU (As := []) (C := RX5) C.1 ct (va_cwO 0 C.1.2.2.2.2 gX10_may_X5_bears_u103X5 rfl rfl rfl (List.mem_of_getElem? (i := 30) rfl) (by decide +kernel) ⟨Nat.le_of_ble_eq_true rfl, Nat.le_of_ble_eq_true rfl⟩) ⟨zzPc_blind, zz_recv C.2.2.2 (zzX_pers1 hq H hW) rfl, fun U hU hWm => zzPc_at C.2.2.2 hU hWm hW⟩ rfl rfl hl.1 rfl (lv_room hroom) dX10_may_20 hcs
  · have h8 : k9 = 6 := h8
    subst h8
    have ct := k_X6_bears (l := l) (Z := Z) (base := base) (PL := PL) (mm := mm) (6, f9) q hq σ r1 σ2 hr
    exact va_runU (As := []) (C := RX3) C.1 ct (va_cwU 0 C.1.2.2.2.2 gX10_may_X6_bears_u103X3 rfl rfl rfl (by decide +kernel) (by decide +kernel) ⟨Nat.le_of_ble_eq_true rfl, Nat.le_of_ble_eq_true rfl⟩) ⟨zzPc_blind, zz_recv C.2.2.2 (zzX_pers1 hq H hW) rfl, fun U hU hWm => zzPc_at C.2.2.2 hU hWm hW⟩ rfl rfl hl.1 rfl (lv_room hroom) dX10_may_20 hcs
  · have h8 : k9 = 7 := h8
    subst h8
    have ct := k_X8_bears (l := l) (Z := Z) (base := base) (PL := PL) (mm := mm) (7, f9) q hq rfl σ r1 σ2 hr
    exact va_runU (As := []) (C := RX8) C.1 ct (va_cwO 0 C.1.2.2.2.2 gX10_may_X8_bears_u103X8 rfl rfl rfl (List.mem_of_getElem? (i := 30) rfl) (by decide +kernel) ⟨Nat.le_of_ble_eq_true rfl, Nat.le_of_ble_eq_true rfl⟩) ⟨zzPc_blind, zz_recv C.2.2.2 (zzX_pers1 hq H hW) rfl, fun U hU hWm => zzPc_at C.2.2.2 hU hWm hW⟩ rfl rfl hl.1 rfl (lv_room hroom) dX10_may_20 hcs

set_option maxHeartbeats 4000000 in
set_option maxRecDepth 100000 in
theorem w_X10_may_e {l : Launch} {Z : zzG} {base : Nat} {PL : Nat → Option (Nat × Int32)} {mm : zzS} {p : Program} {e : Env} {s : State} {m : MethodId} {args : Array Value} {below : List Frame} {meth : Method} {c : Code} (C : zzCx p m meth c s args cX10_may 4 wsX10_may RX10 (some .boolean) Z) (t0 : Nat) (ht0 : zztown t0) (p0 : Int32)  (p1 : Int32)  (p2 : Int32)  (σ : zzS) : zzGO p l e rX10_may s m args below meth c 4 (zzA base) (zzX Z base PL mm) (zzX Z base PL mm) zzRI rX10_may.cells rX10_may.slots (f_X10_may t0 p0 p1 p2 σ) σ 0 0 0 [(0, .ref (zzad Z t0)), (1, .int p0), (2, .int p1), (3, .int p2)] [] := by
  unfold f_X10_may
  refine zz_aload_n C dX10_may_0 rfl 0 rfl ?_
  refine zz_iload_n C dX10_may_1 rfl 1 rfl ?_
  refine zz_iload_n C dX10_may_2 rfl 2 rfl ?_
  refine zz_callV C (Cn := RX10) (b := zzad Z t0) (fun H hH => zz_recv C.2.2.2 ((zzX_town ht0) H hH) rfl) (As := [.int p0, .int p1]) (rest := []) rfl (k_X10_areTwo t0 ht0 p0 p1 σ) (cwV 2 C.1.2.2.2.2 gX10_may_X10_areTwo rfl rfl rfl (by decide +kernel) ⟨Nat.le_of_ble_eq_true rfl, Nat.le_of_ble_eq_true rfl⟩) rfl (Nat.le_of_ble_eq_true rfl) ⟨Nat.zero_le _, Nat.zero_le _⟩ dX10_may_3 (zz_kI rfl rfl (fun r1 σ2 => ?_))
  refine zz_if_eq (tgt := 32) C dX10_may_6 (by decide) (fun h3 => ?_) (fun h3 => ?_)
  · refine zz_iconst (v := 0) C dX10_may_32 (by decide) ?_
    exact zz_zret C rfl (Or.inl rfl) rfl (fun _ h9 => h9) (Nat.zero_le _) (Nat.zero_le _) dX10_may_33
  · refine zz_aload_n C dX10_may_9 rfl 0 rfl ?_
    refine zz_iload_n C dX10_may_10 rfl 1 rfl ?_
    refine zz_iload_n C dX10_may_11 rfl 2 rfl ?_
    refine zz_callV C (Cn := RX10) (b := zzad Z t0) (fun H hH => zz_recv C.2.2.2 ((zzX_town ht0) H hH) rfl) (As := [.int p0, .int p1]) (rest := []) rfl (k_X10_fondOf t0 ht0 p0 p1 σ2) (cwV 2 C.1.2.2.2.2 gX10_may_X10_fondOf rfl rfl rfl (by decide +kernel) ⟨Nat.le_of_ble_eq_true rfl, Nat.le_of_ble_eq_true rfl⟩) rfl (Nat.le_of_ble_eq_true rfl) ⟨Nat.zero_le _, Nat.zero_le _⟩ dX10_may_12 (zz_kI rfl rfl (fun r4 σ5 => ?_))
    refine zz_aload_n C dX10_may_15 rfl 0 rfl ?_
    refine zz_iload_n C dX10_may_16 rfl 1 rfl ?_
    refine zz_callV C (Cn := RX10) (b := zzad Z t0) (fun H hH => zz_recv C.2.2.2 ((zzX_town ht0) H hH) rfl) (As := [.int p0]) (rest := [.int r4]) rfl (k_X10_at t0 ht0 p0 σ5) (cwV 1 C.1.2.2.2.2 gX10_may_X10_at rfl rfl rfl (by decide +kernel) ⟨Nat.le_of_ble_eq_true rfl, Nat.le_of_ble_eq_true rfl⟩) rfl (Nat.le_of_ble_eq_true rfl) ⟨Nat.zero_le _, Nat.zero_le _⟩ dX10_may_17 (zz_kP rfl rfl (fun r6 σ7 c8 hp9 => ?_))
    refine zz_nnP hp9 (fun kf10 q11 h12 h13 hq14 => ?_)
    subst h13
    refine zz_call (av := #[.ref q11]) (rest := [.int r4]) (mcc := 0) (msc := 0) (relc := zzRI) (vr_X10_may_20 C hq14 (Nat.le_of_ble_eq_true rfl)) (zz_kI rfl rfl (fun r15 σ16 => ?_))
    refine zz_iload_n C dX10_may_23 rfl 3 rfl ?_
    refine zz_iadd C dX10_may_24 ?_
    refine zz_icmp_gt (tgt := 32) C dX10_may_25 (by decide) (fun h17 => ?_) (fun h17 => ?_)
    · refine zz_iconst (v := 0) C dX10_may_32 (by decide) ?_
      exact zz_zret C rfl (Or.inl rfl) rfl (fun _ h9 => h9) (Nat.zero_le _) (Nat.zero_le _) dX10_may_33
    · refine zz_iconst (v := 1) C dX10_may_28 (by decide) ?_
      refine zz_goto (tgt := 33) C dX10_may_29 (by decide) ?_
      exact zz_zret C rfl (Or.inr rfl) rfl (fun _ h9 => h9) (Nat.zero_le _) (Nat.zero_le _) dX10_may_33
set_option maxHeartbeats 4000000 in
set_option maxRecDepth 100000 in
theorem k_X10_may {l : Launch} {Z : zzG} {base : Nat} {PL : Nat → Option (Nat × Int32)} {mm : zzS} (t0 : Nat) (ht0 : zztown t0) (p0 : Int32)  (p1 : Int32)  (p2 : Int32)  (σ : zzS) : zzCT l yX10_may wsX10_may rX10_may (zzA base) Z (zzX Z base PL mm) (zzX Z base PL mm) zzRI [.ref (zzad Z t0), .int p0, .int p1, .int p2] (f_X10_may t0 p0 p1 p2 σ) σ :=
  zzCT_of (cc := cX10_may) (nL := 4) (ret := (some .boolean)) (by decide) rfl (Nat.le_of_ble_eq_true rfl) [(0, .ref (zzad Z t0)), (1, .int p0), (2, .int p1), (3, .int p2)] rfl (fun p e s m args below meth c C => w_X10_may_e C t0 ht0 p0 p1 p2 σ)
abbrev rX10_fitFor : Room := { frames := 4, cells := 0, slots := 0, locals := 88 }

set_option maxHeartbeats 4000000 in
set_option maxRecDepth 100000 in
theorem w_X10_fitFor_32 {l : Launch} {Z : zzG} {base : Nat} {PL : Nat → Option (Nat × Int32)} {mm : zzS} {p : Program} {e : Env} {s : State} {m : MethodId} {args : Array Value} {below : List Frame} {meth : Method} {c : Code} (C : zzCx p m meth c s args cX10_fitFor 5 wsX10_fitFor RX10 (some .int) Z) (t0 : Nat) (ht0 : zztown t0) (p0 : Int32)  (p1 : Int32)  (k5 : Int32 → Int32 → zzS → Option (Int32 × zzS)) (hk5 : ∀ (l3 : Int32)  (l4 : Int32)  (σ : zzS), zzGO p l e rX10_fitFor s m args below meth c 5 (zzA base) (zzX Z base PL mm) (zzX Z base PL mm) zzRI rX10_fitFor.cells rX10_fitFor.slots (k5 l3 l4 σ) σ 0 0 5 [(0, .ref (zzad Z t0)), (1, .int p0), (2, .int p1), (3, .int l3), (4, .int l4)] []) (l3 : Int32)  (l4 : Int32)  (σ : zzS) : zzGO p l e rX10_fitFor s m args below meth c 5 (zzA base) (zzX Z base PL mm) (zzX Z base PL mm) zzRI rX10_fitFor.cells rX10_fitFor.slots (f_X10_fitFor_32 k5 t0 p0 p1 l3 l4 σ) σ 0 0 32 [(0, .ref (zzad Z t0)), (1, .int p0), (2, .int p1), (3, .int l3), (4, .int l4)] [] := by
  unfold f_X10_fitFor_32
  refine zz_iincX (d := 1) (locf := fun x1 => [(4, .int x1), (0, .ref (zzad Z t0)), (1, .int p0), (2, .int p1), (3, .int l3)]) C dX10_fitFor_32 (k := 4) rfl (by decide) (by decide) (fun _ => rfl) (fun x1 => ?_)
  refine zz_goto (tgt := 5) C dX10_fitFor_35 (by decide) ?_
  refine zz_sub (loc' := [(0, .ref (zzad Z t0)), (1, .int p0), (2, .int p1), (3, .int l3), (4, .int x1)]) [1, 2, 3, 4, 0] rfl ?_
  exact hk5 l3 x1 σ
set_option maxHeartbeats 4000000 in
set_option maxRecDepth 100000 in
theorem w_X10_fitFor_5b {l : Launch} {Z : zzG} {base : Nat} {PL : Nat → Option (Nat × Int32)} {mm : zzS} {p : Program} {e : Env} {s : State} {m : MethodId} {args : Array Value} {below : List Frame} {meth : Method} {c : Code} (C : zzCx p m meth c s args cX10_fitFor 5 wsX10_fitFor RX10 (some .int) Z) (t0 : Nat) (ht0 : zztown t0) (p0 : Int32)  (p1 : Int32)   (k5 : Int32 → Int32 → zzS → Option (Int32 × zzS)) (hk5 : ∀ (l3 : Int32)  (l4 : Int32)  (σ : zzS), zzGO p l e rX10_fitFor s m args below meth c 5 (zzA base) (zzX Z base PL mm) (zzX Z base PL mm) zzRI rX10_fitFor.cells rX10_fitFor.slots (k5 l3 l4 σ) σ 0 0 5 [(0, .ref (zzad Z t0)), (1, .int p0), (2, .int p1), (3, .int l3), (4, .int l4)] []) (l3 : Int32)  (l4 : Int32)  (σ : zzS) : zzGO p l e rX10_fitFor s m args below meth c 5 (zzA base) (zzX Z base PL mm) (zzX Z base PL mm) zzRI rX10_fitFor.cells rX10_fitFor.slots (f_X10_fitFor_5b k5 t0 p0 p1 l3 l4 σ) σ 0 0 5 [(0, .ref (zzad Z t0)), (1, .int p0), (2, .int p1), (3, .int l3), (4, .int l4)] [] := by
  unfold f_X10_fitFor_5b
  refine zz_iload C dX10_fitFor_5 4 rfl ?_
  refine zz_aload_n C dX10_fitFor_7 rfl 0 rfl ?_
  refine zz_get C (zzX_town ht0) (fun _ h9 => List.mem_cons_of_mem _ (List.mem_append_right _ (h9))) rfl 4 (by decide) (List.mem_of_getElem? (i := 1) rfl) (Or.inl rfl) rfl dX10_fitFor_8 ?_
  refine zz_icmp_ge (tgt := 38) C dX10_fitFor_11 (by decide) (fun h1 => ?_) (fun h1 => ?_)
  · refine zz_iload_n C dX10_fitFor_38 rfl 3 rfl ?_
    exact zz_iret C rfl rfl (fun _ h9 => h9) (Nat.zero_le _) (Nat.zero_le _) dX10_fitFor_39
  · refine zz_aload_n C dX10_fitFor_14 rfl 0 rfl ?_
    refine zz_iload C dX10_fitFor_15 4 rfl ?_
    refine zz_iload_n C dX10_fitFor_17 rfl 1 rfl ?_
    refine zz_iload_n C dX10_fitFor_18 rfl 2 rfl ?_
    refine zz_callV C (Cn := RX10) (b := zzad Z t0) (fun H hH => zz_recv C.2.2.2 ((zzX_town ht0) H hH) rfl) (As := [.int l4, .int p0, .int p1]) (rest := []) rfl (k_X10_may t0 ht0 l4 p0 p1 σ) (cwV 3 C.1.2.2.2.2 gX10_fitFor_X10_may rfl rfl rfl (by decide +kernel) ⟨Nat.le_of_ble_eq_true rfl, Nat.le_of_ble_eq_true rfl⟩) rfl (Nat.le_of_ble_eq_true rfl) ⟨Nat.zero_le _, Nat.zero_le _⟩ dX10_fitFor_19 (zz_kI rfl rfl (fun r2 σ3 => ?_))
    refine zz_if_eq (tgt := 32) C dX10_fitFor_22 (by decide) (fun h4 => ?_) (fun h4 => ?_)
    · refine zz_sub (loc' := [(0, .ref (zzad Z t0)), (1, .int p0), (2, .int p1), (3, .int l3), (4, .int l4)]) [0, 1, 2, 3, 4] rfl ?_
      exact w_X10_fitFor_32 C t0 ht0 p0 p1 k5 hk5 l3 l4 σ3
    · refine zz_iload_n C dX10_fitFor_25 rfl 3 rfl ?_
      refine zz_iconst (v := 1) C dX10_fitFor_26 (by decide) ?_
      refine zz_iload C dX10_fitFor_27 4 rfl ?_
      refine zz_ishl C dX10_fitFor_29 ?_
      refine zz_ior C dX10_fitFor_30 ?_
      refine zz_istoreX_n (locf := fun x5 => [(3, .int x5), (0, .ref (zzad Z t0)), (1, .int p0), (2, .int p1), (4, .int l4)]) C dX10_fitFor_31 rfl (by decide) (fun _ => rfl) (fun x5 => ?_)
      refine zz_sub (loc' := [(0, .ref (zzad Z t0)), (1, .int p0), (2, .int p1), (3, .int x5), (4, .int l4)]) [1, 2, 3, 0, 4] rfl ?_
      exact w_X10_fitFor_32 C t0 ht0 p0 p1 k5 hk5 x5 l4 σ3
set_option maxHeartbeats 4000000 in
set_option maxRecDepth 100000 in
theorem w_X10_fitFor_5 {l : Launch} {Z : zzG} {base : Nat} {PL : Nat → Option (Nat × Int32)} {mm : zzS} {p : Program} {e : Env} {s : State} {m : MethodId} {args : Array Value} {below : List Frame} {meth : Method} {c : Code} (C : zzCx p m meth c s args cX10_fitFor 5 wsX10_fitFor RX10 (some .int) Z) (t0 : Nat) (ht0 : zztown t0) (p0 : Int32)  (p1 : Int32)   (n : Nat) : ∀ (l3 : Int32)  (l4 : Int32)  (σ : zzS), zzGO p l e rX10_fitFor s m args below meth c 5 (zzA base) (zzX Z base PL mm) (zzX Z base PL mm) zzRI rX10_fitFor.cells rX10_fitFor.slots (f_X10_fitFor_5 t0 p0 p1 n l3 l4 σ) σ 0 0 5 [(0, .ref (zzad Z t0)), (1, .int p0), (2, .int p1), (3, .int l3), (4, .int l4)] [] := by
  induction n with
  | zero => exact fun _ _ _ r9 s9 h9 => by cases h9
  | succ n ih => exact w_X10_fitFor_5b C t0 ht0 p0 p1 _ ih
set_option maxHeartbeats 4000000 in
set_option maxRecDepth 100000 in
theorem w_X10_fitFor_e {l : Launch} {Z : zzG} {base : Nat} {PL : Nat → Option (Nat × Int32)} {mm : zzS} {p : Program} {e : Env} {s : State} {m : MethodId} {args : Array Value} {below : List Frame} {meth : Method} {c : Code} (C : zzCx p m meth c s args cX10_fitFor 5 wsX10_fitFor RX10 (some .int) Z) (t0 : Nat) (ht0 : zztown t0) (p0 : Int32)  (p1 : Int32)  (σ : zzS) : zzGO p l e rX10_fitFor s m args below meth c 5 (zzA base) (zzX Z base PL mm) (zzX Z base PL mm) zzRI rX10_fitFor.cells rX10_fitFor.slots (f_X10_fitFor t0 p0 p1 σ) σ 0 0 0 [(0, .ref (zzad Z t0)), (1, .int p0), (2, .int p1)] [] := by
  unfold f_X10_fitFor
  refine zz_iconst (v := 0) C dX10_fitFor_0 (by decide) ?_
  refine zz_istore_n (loc' := [(3, .int (0 : Int32)), (0, .ref (zzad Z t0)), (1, .int p0), (2, .int p1)]) C dX10_fitFor_1 rfl (by decide) rfl ?_
  refine zz_iconst (v := 0) C dX10_fitFor_2 (by decide) ?_
  refine zz_istore (loc' := [(4, .int (0 : Int32)), (3, .int (0 : Int32)), (0, .ref (zzad Z t0)), (1, .int p0), (2, .int p1)]) C dX10_fitFor_3 (by decide) rfl ?_
  refine zz_sub (loc' := [(0, .ref (zzad Z t0)), (1, .int p0), (2, .int p1), (3, .int (0 : Int32)), (4, .int (0 : Int32))]) [2, 3, 4, 1, 0] rfl ?_
  exact w_X10_fitFor_5 C t0 ht0 p0 p1 200 (0 : Int32) (0 : Int32) σ
set_option maxHeartbeats 4000000 in
set_option maxRecDepth 100000 in
theorem k_X10_fitFor {l : Launch} {Z : zzG} {base : Nat} {PL : Nat → Option (Nat × Int32)} {mm : zzS} (t0 : Nat) (ht0 : zztown t0) (p0 : Int32)  (p1 : Int32)  (σ : zzS) : zzCT l yX10_fitFor wsX10_fitFor rX10_fitFor (zzA base) Z (zzX Z base PL mm) (zzX Z base PL mm) zzRI [.ref (zzad Z t0), .int p0, .int p1] (f_X10_fitFor t0 p0 p1 σ) σ :=
  zzCT_of (cc := cX10_fitFor) (nL := 5) (ret := (some .int)) (by decide) rfl (Nat.le_of_ble_eq_true rfl) [(0, .ref (zzad Z t0)), (1, .int p0), (2, .int p1)] rfl (fun p e s m args below meth c C => w_X10_fitFor_e C t0 ht0 p0 p1 σ)
abbrev rX11_write : Room := { frames := 0, cells := 0, slots := 0, locals := 0 }

set_option maxHeartbeats 4000000 in
set_option maxRecDepth 100000 in
theorem w_X11_write_e {l : Launch} {Z : zzG} {base : Nat} {PL : Nat → Option (Nat × Int32)} {mm : zzS} {p : Program} {e : Env} {s : State} {m : MethodId} {args : Array Value} {below : List Frame} {meth : Method} {c : Code} (C : zzCx p m meth c s args cX11_write 3 wsX11_write RX11 none Z) (p0 : Nat) (hp0 : zzXarr p0) (p1 : Int32)  (p2 : Int32)  (σ : zzS) : zzGO p l e rX11_write s m args below meth c 3 (zzA base) (zzX Z base PL mm) (zzX Z base PL mm) zzRV rX11_write.cells rX11_write.slots (f_X11_write p0 p1 p2 σ) σ 0 0 0 [(0, .ref (zzad Z p0)), (1, .int p1), (2, .int p2)] [] := by
  unfold f_X11_write
  refine zz_iload_n C dX11_write_0 rfl 1 rfl ?_
  refine zz_if_lt (tgt := 14) C dX11_write_1 (by decide) (fun h1 => ?_) (fun h1 => ?_)
  · exact zz_vret C rfl rfl (fun _ h9 => h9) (Nat.zero_le _) (Nat.zero_le _) dX11_write_14
  · refine zz_iload_n C dX11_write_4 rfl 1 rfl ?_
    refine zz_aload_n C dX11_write_5 rfl 0 rfl ?_
    refine zz_alen (v := (Int32.ofNat (zzlen p0))) C (zzX_arr hp0) rfl rfl dX11_write_6 ?_
    refine zz_icmp_ge (tgt := 14) C dX11_write_7 (by decide) (fun h2 => ?_) (fun h2 => ?_)
    · exact zz_vret C rfl rfl (fun _ h9 => h9) (Nat.zero_le _) (Nat.zero_le _) dX11_write_14
    · refine zz_aload_n C dX11_write_10 rfl 0 rfl ?_
      refine zz_iload_n C dX11_write_11 rfl 1 rfl ?_
      refine zz_iload_n C dX11_write_12 rfl 2 rfl ?_
      refine zz_gd (fun h3 => ?_)
      refine zz_iast C (zzX_arr hp0) h3 (zzX_uarr hp0) (zzA_X (zzXarr_lt hp0)) dX11_write_13 ?_
      refine zz_ltS (fun σ4 => ?_)
      exact zz_vret C rfl rfl (fun _ h9 => h9) (Nat.zero_le _) (Nat.zero_le _) dX11_write_14
set_option maxHeartbeats 4000000 in
set_option maxRecDepth 100000 in
theorem k_X11_write {l : Launch} {Z : zzG} {base : Nat} {PL : Nat → Option (Nat × Int32)} {mm : zzS} (p0 : Nat) (hp0 : zzXarr p0) (p1 : Int32)  (p2 : Int32)  (σ : zzS) : zzCT l yX11_write wsX11_write rX11_write (zzA base) Z (zzX Z base PL mm) (zzX Z base PL mm) zzRV [.ref (zzad Z p0), .int p1, .int p2] (f_X11_write p0 p1 p2 σ) σ :=
  zzCT_of (cc := cX11_write) (nL := 3) (ret := none) (by decide) rfl (Nat.le_of_ble_eq_true rfl) [(0, .ref (zzad Z p0)), (1, .int p1), (2, .int p2)] rfl (fun p e s m args below meth c C => w_X11_write_e C p0 hp0 p1 p2 σ)
abbrev rX2_gather : Room := { frames := 5, cells := 0, slots := 0, locals := 112 }

set_option maxHeartbeats 4000000 in
set_option maxRecDepth 100000 in
theorem w_X2_gather_15b {l : Launch} {Z : zzG} {base : Nat} {PL : Nat → Option (Nat × Int32)} {mm : zzS} {p : Program} {e : Env} {s : State} {m : MethodId} {args : Array Value} {below : List Frame} {meth : Method} {c : Code} (C : zzCx p m meth c s args cX2_gather 4 wsX2_gather RX2 none Z) (p0 : Nat) (hp0 : zztown p0) (p1 : Int32)   (k15 : Int32 → zzS → Option (Unit × zzS)) (hk15 : ∀ (l3 : Int32)  (σ : zzS), zzGO p l e rX2_gather s m args below meth c 4 (zzA base) (zzX Z base PL mm) (zzX Z base PL mm) zzRV rX2_gather.cells rX2_gather.slots (k15 l3 σ) σ 0 0 15 [(0, .ref (zzad Z 32)), (1, .ref (zzad Z p0)), (2, .int p1), (3, .int l3)] []) (l3 : Int32)  (σ : zzS) : zzGO p l e rX2_gather s m args below meth c 4 (zzA base) (zzX Z base PL mm) (zzX Z base PL mm) zzRV rX2_gather.cells rX2_gather.slots (f_X2_gather_15b k15 p0 p1 l3 σ) σ 0 0 15 [(0, .ref (zzad Z 32)), (1, .ref (zzad Z p0)), (2, .int p1), (3, .int l3)] [] := by
  unfold f_X2_gather_15b
  refine zz_iload_n C dX2_gather_15 rfl 3 rfl ?_
  refine zz_aload_n C dX2_gather_16 rfl 0 rfl ?_
  refine zz_get C zzX_circ (fun _ h9 => List.mem_cons_of_mem _ (List.mem_append_right _ (h9))) rfl 3 (by decide) (List.mem_of_getElem? (i := 6) rfl) (Or.inl rfl) rfl dX2_gather_17 ?_
  refine zz_icmp_ge (tgt := 43) C dX2_gather_20 (by decide) (fun h1 => ?_) (fun h1 => ?_)
  · exact zz_vret C rfl rfl (fun _ h9 => h9) (Nat.zero_le _) (Nat.zero_le _) dX2_gather_43
  · refine zz_aload_n C dX2_gather_23 rfl 0 rfl ?_
    refine zz_get C zzX_circ (fun _ h9 => List.mem_cons_of_mem _ (List.mem_append_right _ (h9))) rfl 0 (by decide) (List.mem_of_getElem? (i := 7) rfl) (Or.inl rfl) rfl dX2_gather_24 ?_
    refine zz_iload_n C dX2_gather_27 rfl 3 rfl ?_
    refine zz_aload_n C dX2_gather_28 rfl 1 rfl ?_
    refine zz_iload_n C dX2_gather_29 rfl 3 rfl ?_
    refine zz_iload_n C dX2_gather_30 rfl 2 rfl ?_
    refine zz_callV C (Cn := RX10) (b := zzad Z p0) (fun H hH => zz_recv C.2.2.2 ((zzX_town hp0) H hH) rfl) (As := [.int l3, .int p1]) (rest := [.int l3, .ref (zzad Z 33)]) rfl (k_X10_fitFor p0 hp0 l3 p1 σ) (cwV 2 C.1.2.2.2.2 gX2_gather_X10_fitFor rfl rfl rfl (by decide +kernel) ⟨Nat.le_of_ble_eq_true rfl, Nat.le_of_ble_eq_true rfl⟩) rfl (Nat.le_of_ble_eq_true rfl) ⟨Nat.zero_le _, Nat.zero_le _⟩ dX2_gather_31 (zz_kI rfl rfl (fun r2 σ3 => ?_))
    refine zz_callSN (As := [.ref (zzad Z 33), .int l3, .int r2]) (rest := []) C rfl (k_X11_write 33 (by decide) l3 r2 σ3) ⟨va_cnB 3 C.1.2.2.2.2 gX2_gather_X11_write_n37 rfl rfl rfl (C.2.2.2.2 _ (List.mem_of_getElem? (i := 10) rfl)) (C.1.2.2.2.2 _ (List.mem_of_getElem? (i := 32) rfl)) (by decide +kernel) ⟨Nat.le_of_ble_eq_true rfl, Nat.le_of_ble_eq_true rfl⟩, C.1.2.2.2.2 _ (List.mem_of_getElem? (i := 79) rfl), trivial⟩ rfl (Nat.le_of_ble_eq_true rfl) ⟨Nat.zero_le _, Nat.zero_le _⟩ dX2_gather_34 (zz_kV rfl rfl (fun r4 σ5 => ?_))
    refine zz_iincX (d := 1) (locf := fun x6 => [(3, .int x6), (0, .ref (zzad Z 32)), (1, .ref (zzad Z p0)), (2, .int p1)]) C dX2_gather_37 (k := 3) rfl (by decide) (by decide) (fun _ => rfl) (fun x6 => ?_)
    refine zz_goto (tgt := 15) C dX2_gather_40 (by decide) ?_
    refine zz_sub (loc' := [(0, .ref (zzad Z 32)), (1, .ref (zzad Z p0)), (2, .int p1), (3, .int x6)]) [1, 2, 3, 0] rfl ?_
    exact hk15 x6 σ5
set_option maxHeartbeats 4000000 in
set_option maxRecDepth 100000 in
theorem w_X2_gather_15 {l : Launch} {Z : zzG} {base : Nat} {PL : Nat → Option (Nat × Int32)} {mm : zzS} {p : Program} {e : Env} {s : State} {m : MethodId} {args : Array Value} {below : List Frame} {meth : Method} {c : Code} (C : zzCx p m meth c s args cX2_gather 4 wsX2_gather RX2 none Z) (p0 : Nat) (hp0 : zztown p0) (p1 : Int32)   (n : Nat) : ∀ (l3 : Int32)  (σ : zzS), zzGO p l e rX2_gather s m args below meth c 4 (zzA base) (zzX Z base PL mm) (zzX Z base PL mm) zzRV rX2_gather.cells rX2_gather.slots (f_X2_gather_15 p0 p1 n l3 σ) σ 0 0 15 [(0, .ref (zzad Z 32)), (1, .ref (zzad Z p0)), (2, .int p1), (3, .int l3)] [] := by
  induction n with
  | zero => exact fun _ _ r9 s9 h9 => by cases h9
  | succ n ih => exact w_X2_gather_15b C p0 hp0 p1 _ ih
set_option maxHeartbeats 4000000 in
set_option maxRecDepth 100000 in
theorem w_X2_gather_e {l : Launch} {Z : zzG} {base : Nat} {PL : Nat → Option (Nat × Int32)} {mm : zzS} {p : Program} {e : Env} {s : State} {m : MethodId} {args : Array Value} {below : List Frame} {meth : Method} {c : Code} (C : zzCx p m meth c s args cX2_gather 4 wsX2_gather RX2 none Z) (p0 : Nat) (hp0 : zztown p0) (p1 : Int32)  (σ : zzS) : zzGO p l e rX2_gather s m args below meth c 4 (zzA base) (zzX Z base PL mm) (zzX Z base PL mm) zzRV rX2_gather.cells rX2_gather.slots (f_X2_gather p0 p1 σ) σ 0 0 0 [(0, .ref (zzad Z 32)), (1, .ref (zzad Z p0)), (2, .int p1)] [] := by
  unfold f_X2_gather
  refine zz_aload_n C dX2_gather_0 rfl 0 rfl ?_
  refine zz_bipush (v := 7) C dX2_gather_1 (by decide) ?_
  refine zz_aload_n C dX2_gather_3 rfl 1 rfl ?_
  refine zz_get C (zzX_town hp0) (fun _ h9 => List.mem_cons_of_mem _ (List.mem_append_left _ (List.mem_append_right _ (h9)))) rfl 4 (by decide) (List.mem_of_getElem? (i := 1) rfl) (Or.inl rfl) rfl dX2_gather_4 ?_
  refine zz_mmin C (C.1.2.2.2.2 _ (List.mem_of_getElem? (i := 2) rfl)) (C.1.2.2.2.2 _ (List.mem_of_getElem? (i := 3) rfl)) (C.1.2.2.2.2 _ (List.mem_of_getElem? (i := 4) rfl)) (C.1.2.2.2.2 _ (List.mem_of_getElem? (i := 5) rfl)) (Nat.le_of_ble_eq_true rfl) (Nat.le_of_ble_eq_true rfl) (Nat.zero_le _) (Nat.zero_le _) dX2_gather_7 ?_
  refine zz_put (ty := .int) C zzX_circ (fun _ h9 => List.mem_cons_of_mem _ (List.mem_append_right _ (h9))) rfl 3 (by decide) (List.mem_of_getElem? (i := 6) rfl) rfl tyX2_ok nmX2 rfl (by decide +kernel) rfl rfl (Nat.le_of_ble_eq_true rfl) (zzX_ucirc rfl) (zzA_X (by decide)) dX2_gather_10 ?_
  refine zz_ltS (fun σ1 => ?_)
  refine zz_iconst (v := 0) C dX2_gather_13 (by decide) ?_
  refine zz_istore_n (loc' := [(3, .int (0 : Int32)), (0, .ref (zzad Z 32)), (1, .ref (zzad Z p0)), (2, .int p1)]) C dX2_gather_14 rfl (by decide) rfl ?_
  refine zz_sub (loc' := [(0, .ref (zzad Z 32)), (1, .ref (zzad Z p0)), (2, .int p1), (3, .int (0 : Int32))]) [1, 2, 3, 0] rfl ?_
  exact w_X2_gather_15 C p0 hp0 p1 200 (0 : Int32) σ1
set_option maxHeartbeats 4000000 in
set_option maxRecDepth 100000 in
theorem k_X2_gather {l : Launch} {Z : zzG} {base : Nat} {PL : Nat → Option (Nat × Int32)} {mm : zzS} (p0 : Nat) (hp0 : zztown p0) (p1 : Int32)  (σ : zzS) : zzCT l yX2_gather wsX2_gather rX2_gather (zzA base) Z (zzX Z base PL mm) (zzX Z base PL mm) zzRV [.ref (zzad Z 32), .ref (zzad Z p0), .int p1] (f_X2_gather p0 p1 σ) σ :=
  zzCT_of (cc := cX2_gather) (nL := 4) (ret := none) (by decide) rfl (Nat.le_of_ble_eq_true rfl) [(0, .ref (zzad Z 32)), (1, .ref (zzad Z p0)), (2, .int p1)] rfl (fun p e s m args below meth c C => w_X2_gather_e C p0 hp0 p1 σ)
abbrev rX2_mostAt : Room := { frames := 1, cells := 0, slots := 0, locals := 21 }

set_option maxHeartbeats 4000000 in
set_option maxRecDepth 100000 in
theorem w_X2_mostAt_e {l : Launch} {Z : zzG} {base : Nat} {PL : Nat → Option (Nat × Int32)} {mm : zzS} {p : Program} {e : Env} {s : State} {m : MethodId} {args : Array Value} {below : List Frame} {meth : Method} {c : Code} (C : zzCx p m meth c s args cX2_mostAt 3 wsX2_mostAt RX2 (some .int) Z) (p0 : Int32)  (p1 : Int32)  (σ : zzS) : zzGO p l e rX2_mostAt s m args below meth c 3 (zzA base) (zzX Z base PL mm) (zzX Z base PL mm) zzRI rX2_mostAt.cells rX2_mostAt.slots (f_X2_mostAt p0 p1 σ) σ 0 0 0 [(0, .ref (zzad Z 32)), (1, .int p0), (2, .int p1)] [] := by
  unfold f_X2_mostAt
  refine zz_aload_n C dX2_mostAt_0 rfl 0 rfl ?_
  refine zz_get C zzX_circ (fun _ h9 => List.mem_cons_of_mem _ (List.mem_append_right _ (h9))) rfl 1 (by decide) (List.mem_of_getElem? (i := 1) rfl) (Or.inl rfl) rfl dX2_mostAt_1 ?_
  refine zz_iload_n C dX2_mostAt_4 rfl 1 rfl ?_
  refine zz_sipush (v := 128) C dX2_mostAt_5 (by decide) ?_
  refine zz_imul C dX2_mostAt_8 ?_
  refine zz_iload_n C dX2_mostAt_9 rfl 2 rfl ?_
  refine zz_iadd C dX2_mostAt_10 ?_
  refine zz_callSN (As := [.ref (zzad Z 34), .int ((p0 * (128 : Int32)) + p1)]) (rest := []) C rfl (k_X11_read 34 (by decide) ((p0 * (128 : Int32)) + p1) σ) ⟨va_cnB 2 C.1.2.2.2.2 gX2_mostAt_X11_read_n53 rfl rfl rfl (C.2.2.2.2 _ (List.mem_of_getElem? (i := 11) rfl)) (C.1.2.2.2.2 _ (List.mem_of_getElem? (i := 3) rfl)) (by decide +kernel) ⟨Nat.le_of_ble_eq_true rfl, Nat.le_of_ble_eq_true rfl⟩, C.1.2.2.2.2 _ (List.mem_of_getElem? (i := 2) rfl), trivial⟩ rfl (Nat.le_of_ble_eq_true rfl) ⟨Nat.zero_le _, Nat.zero_le _⟩ dX2_mostAt_11 (zz_kI rfl rfl (fun r1 σ2 => ?_))
  exact zz_iret C rfl rfl (fun _ h9 => h9) (Nat.zero_le _) (Nat.zero_le _) dX2_mostAt_14
set_option maxHeartbeats 4000000 in
set_option maxRecDepth 100000 in
theorem k_X2_mostAt {l : Launch} {Z : zzG} {base : Nat} {PL : Nat → Option (Nat × Int32)} {mm : zzS} (p0 : Int32)  (p1 : Int32)  (σ : zzS) : zzCT l yX2_mostAt wsX2_mostAt rX2_mostAt (zzA base) Z (zzX Z base PL mm) (zzX Z base PL mm) zzRI [.ref (zzad Z 32), .int p0, .int p1] (f_X2_mostAt p0 p1 σ) σ :=
  zzCT_of (cc := cX2_mostAt) (nL := 3) (ret := (some .int)) (by decide) rfl (Nat.le_of_ble_eq_true rfl) [(0, .ref (zzad Z 32)), (1, .int p0), (2, .int p1)] rfl (fun p e s m args below meth c C => w_X2_mostAt_e C p0 p1 σ)
abbrev rX2_mostFrom : Room := { frames := 2, cells := 0, slots := 0, locals := 43 }

set_option maxHeartbeats 4000000 in
set_option maxRecDepth 100000 in
theorem w_X2_mostFrom_65 {l : Launch} {Z : zzG} {base : Nat} {PL : Nat → Option (Nat × Int32)} {mm : zzS} {p : Program} {e : Env} {s : State} {m : MethodId} {args : Array Value} {below : List Frame} {meth : Method} {c : Code} (C : zzCx p m meth c s args cX2_mostFrom 6 wsX2_mostFrom RX2 (some .int) Z) (p0 : Int32)  (p1 : Int32)  (k26 : Int32 → Int32 → Int32 → zzS → Option (Int32 × zzS)) (hk26 : ∀ (l3 : Int32)  (l4 : Int32)  (l5 : Int32)  (σ : zzS), zzGO p l e rX2_mostFrom s m args below meth c 6 (zzA base) (zzX Z base PL mm) (zzX Z base PL mm) zzRI rX2_mostFrom.cells rX2_mostFrom.slots (k26 l3 l4 l5 σ) σ 0 0 26 [(0, .ref (zzad Z 32)), (1, .int p0), (2, .int p1), (3, .int l3), (4, .int l4), (5, .int l5)] []) (l3 : Int32)  (l4 : Int32)  (l5 : Int32)  (σ : zzS) : zzGO p l e rX2_mostFrom s m args below meth c 6 (zzA base) (zzX Z base PL mm) (zzX Z base PL mm) zzRI rX2_mostFrom.cells rX2_mostFrom.slots (f_X2_mostFrom_65 k26 p0 p1 l3 l4 l5 σ) σ 0 0 65 [(0, .ref (zzad Z 32)), (1, .int p0), (2, .int p1), (3, .int l3), (4, .int l4), (5, .int l5)] [] := by
  unfold f_X2_mostFrom_65
  refine zz_iincX (d := 1) (locf := fun x1 => [(5, .int x1), (0, .ref (zzad Z 32)), (1, .int p0), (2, .int p1), (3, .int l3), (4, .int l4)]) C dX2_mostFrom_65 (k := 5) rfl (by decide) (by decide) (fun _ => rfl) (fun x1 => ?_)
  refine zz_goto (tgt := 26) C dX2_mostFrom_68 (by decide) ?_
  refine zz_sub (loc' := [(0, .ref (zzad Z 32)), (1, .int p0), (2, .int p1), (3, .int l3), (4, .int l4), (5, .int x1)]) [1, 2, 3, 4, 5, 0] rfl ?_
  exact hk26 l3 l4 x1 σ
set_option maxHeartbeats 4000000 in
set_option maxRecDepth 100000 in
theorem w_X2_mostFrom_26b {l : Launch} {Z : zzG} {base : Nat} {PL : Nat → Option (Nat × Int32)} {mm : zzS} {p : Program} {e : Env} {s : State} {m : MethodId} {args : Array Value} {below : List Frame} {meth : Method} {c : Code} (C : zzCx p m meth c s args cX2_mostFrom 6 wsX2_mostFrom RX2 (some .int) Z) (p0 : Int32)  (p1 : Int32)   (k26 : Int32 → Int32 → Int32 → zzS → Option (Int32 × zzS)) (hk26 : ∀ (l3 : Int32)  (l4 : Int32)  (l5 : Int32)  (σ : zzS), zzGO p l e rX2_mostFrom s m args below meth c 6 (zzA base) (zzX Z base PL mm) (zzX Z base PL mm) zzRI rX2_mostFrom.cells rX2_mostFrom.slots (k26 l3 l4 l5 σ) σ 0 0 26 [(0, .ref (zzad Z 32)), (1, .int p0), (2, .int p1), (3, .int l3), (4, .int l4), (5, .int l5)] []) (l3 : Int32)  (l4 : Int32)  (l5 : Int32)  (σ : zzS) : zzGO p l e rX2_mostFrom s m args below meth c 6 (zzA base) (zzX Z base PL mm) (zzX Z base PL mm) zzRI rX2_mostFrom.cells rX2_mostFrom.slots (f_X2_mostFrom_26b k26 p0 p1 l3 l4 l5 σ) σ 0 0 26 [(0, .ref (zzad Z 32)), (1, .int p0), (2, .int p1), (3, .int l3), (4, .int l4), (5, .int l5)] [] := by
  unfold f_X2_mostFrom_26b
  refine zz_iload C dX2_mostFrom_26 5 rfl ?_
  refine zz_aload_n C dX2_mostFrom_28 rfl 0 rfl ?_
  refine zz_get C zzX_circ (fun _ h9 => List.mem_cons_of_mem _ (List.mem_append_right _ (h9))) rfl 3 (by decide) (List.mem_of_getElem? (i := 2) rfl) (Or.inl rfl) rfl dX2_mostFrom_29 ?_
  refine zz_icmp_ge (tgt := 71) C dX2_mostFrom_32 (by decide) (fun h1 => ?_) (fun h1 => ?_)
  · refine zz_iload_n C dX2_mostFrom_71 rfl 3 rfl ?_
    exact zz_iret C rfl rfl (fun _ h9 => h9) (Nat.zero_le _) (Nat.zero_le _) dX2_mostFrom_72
  · refine zz_iload C dX2_mostFrom_35 4 rfl ?_
    refine zz_iconst (v := 1) C dX2_mostFrom_37 (by decide) ?_
    refine zz_iload C dX2_mostFrom_38 5 rfl ?_
    refine zz_ishl C dX2_mostFrom_40 ?_
    refine zz_iand C dX2_mostFrom_41 ?_
    refine zz_if_eq (tgt := 65) C dX2_mostFrom_42 (by decide) (fun h2 => ?_) (fun h2 => ?_)
    · refine zz_sub (loc' := [(0, .ref (zzad Z 32)), (1, .int p0), (2, .int p1), (3, .int l3), (4, .int l4), (5, .int l5)]) [0, 1, 2, 3, 4, 5] rfl ?_
      exact w_X2_mostFrom_65 C p0 p1 k26 hk26 l3 l4 l5 σ
    · refine zz_iload_n C dX2_mostFrom_45 rfl 3 rfl ?_
      refine zz_iconst (v := 1) C dX2_mostFrom_46 (by decide) ?_
      refine zz_aload_n C dX2_mostFrom_47 rfl 0 rfl ?_
      refine zz_iload_n C dX2_mostFrom_48 rfl 1 rfl ?_
      refine zz_iconst (v := 1) C dX2_mostFrom_49 (by decide) ?_
      refine zz_iadd C dX2_mostFrom_50 ?_
      refine zz_iload_n C dX2_mostFrom_51 rfl 2 rfl ?_
      refine zz_iconst (v := 1) C dX2_mostFrom_52 (by decide) ?_
      refine zz_iload C dX2_mostFrom_53 5 rfl ?_
      refine zz_ishl C dX2_mostFrom_55 ?_
      refine zz_ior C dX2_mostFrom_56 ?_
      refine zz_callV C (Cn := RX2) (b := zzad Z 32) (fun H hH => zz_recv C.2.2.2 (zzX_circ H hH) rfl) (As := [.int (p0 + (1 : Int32)), .int (p1 ||| ((1 : Int32) <<< (l5 &&& 31)))]) (rest := [.int (1 : Int32), .int l3]) rfl (k_X2_mostAt (p0 + (1 : Int32)) (p1 ||| ((1 : Int32) <<< (l5 &&& 31))) σ) (cwV 2 C.1.2.2.2.2 gX2_mostFrom_X2_mostAt rfl rfl rfl (by decide +kernel) ⟨Nat.le_of_ble_eq_true rfl, Nat.le_of_ble_eq_true rfl⟩) rfl (Nat.le_of_ble_eq_true rfl) ⟨Nat.zero_le _, Nat.zero_le _⟩ dX2_mostFrom_57 (zz_kI rfl rfl (fun r3 σ4 => ?_))
      refine zz_iadd C dX2_mostFrom_60 ?_
      refine zz_mmax C (C.1.2.2.2.2 _ (List.mem_of_getElem? (i := 3) rfl)) (C.1.2.2.2.2 _ (List.mem_of_getElem? (i := 4) rfl)) (C.1.2.2.2.2 _ (List.mem_of_getElem? (i := 5) rfl)) (C.1.2.2.2.2 _ (List.mem_of_getElem? (i := 6) rfl)) (Nat.le_of_ble_eq_true rfl) (Nat.le_of_ble_eq_true rfl) (Nat.zero_le _) (Nat.zero_le _) dX2_mostFrom_61 ?_
      refine zz_istoreX_n (locf := fun x5 => [(3, .int x5), (0, .ref (zzad Z 32)), (1, .int p0), (2, .int p1), (4, .int l4), (5, .int l5)]) C dX2_mostFrom_64 rfl (by decide) (fun _ => rfl) (fun x5 => ?_)
      refine zz_sub (loc' := [(0, .ref (zzad Z 32)), (1, .int p0), (2, .int p1), (3, .int x5), (4, .int l4), (5, .int l5)]) [1, 2, 3, 0, 4, 5] rfl ?_
      exact w_X2_mostFrom_65 C p0 p1 k26 hk26 x5 l4 l5 σ4
set_option maxHeartbeats 4000000 in
set_option maxRecDepth 100000 in
theorem w_X2_mostFrom_26 {l : Launch} {Z : zzG} {base : Nat} {PL : Nat → Option (Nat × Int32)} {mm : zzS} {p : Program} {e : Env} {s : State} {m : MethodId} {args : Array Value} {below : List Frame} {meth : Method} {c : Code} (C : zzCx p m meth c s args cX2_mostFrom 6 wsX2_mostFrom RX2 (some .int) Z) (p0 : Int32)  (p1 : Int32)   (n : Nat) : ∀ (l3 : Int32)  (l4 : Int32)  (l5 : Int32)  (σ : zzS), zzGO p l e rX2_mostFrom s m args below meth c 6 (zzA base) (zzX Z base PL mm) (zzX Z base PL mm) zzRI rX2_mostFrom.cells rX2_mostFrom.slots (f_X2_mostFrom_26 p0 p1 n l3 l4 l5 σ) σ 0 0 26 [(0, .ref (zzad Z 32)), (1, .int p0), (2, .int p1), (3, .int l3), (4, .int l4), (5, .int l5)] [] := by
  induction n with
  | zero => exact fun _ _ _ _ r9 s9 h9 => by cases h9
  | succ n ih => exact w_X2_mostFrom_26b C p0 p1 _ ih
set_option maxHeartbeats 4000000 in
set_option maxRecDepth 100000 in
theorem w_X2_mostFrom_e {l : Launch} {Z : zzG} {base : Nat} {PL : Nat → Option (Nat × Int32)} {mm : zzS} {p : Program} {e : Env} {s : State} {m : MethodId} {args : Array Value} {below : List Frame} {meth : Method} {c : Code} (C : zzCx p m meth c s args cX2_mostFrom 6 wsX2_mostFrom RX2 (some .int) Z) (p0 : Int32)  (p1 : Int32)  (σ : zzS) : zzGO p l e rX2_mostFrom s m args below meth c 6 (zzA base) (zzX Z base PL mm) (zzX Z base PL mm) zzRI rX2_mostFrom.cells rX2_mostFrom.slots (f_X2_mostFrom p0 p1 σ) σ 0 0 0 [(0, .ref (zzad Z 32)), (1, .int p0), (2, .int p1)] [] := by
  unfold f_X2_mostFrom
  refine zz_aload_n C dX2_mostFrom_0 rfl 0 rfl ?_
  refine zz_iload_n C dX2_mostFrom_1 rfl 1 rfl ?_
  refine zz_iconst (v := 1) C dX2_mostFrom_2 (by decide) ?_
  refine zz_iadd C dX2_mostFrom_3 ?_
  refine zz_iload_n C dX2_mostFrom_4 rfl 2 rfl ?_
  refine zz_callV C (Cn := RX2) (b := zzad Z 32) (fun H hH => zz_recv C.2.2.2 (zzX_circ H hH) rfl) (As := [.int (p0 + (1 : Int32)), .int p1]) (rest := []) rfl (k_X2_mostAt (p0 + (1 : Int32)) p1 σ) (cwV 2 C.1.2.2.2.2 gX2_mostFrom_X2_mostAt rfl rfl rfl (by decide +kernel) ⟨Nat.le_of_ble_eq_true rfl, Nat.le_of_ble_eq_true rfl⟩) rfl (Nat.le_of_ble_eq_true rfl) ⟨Nat.zero_le _, Nat.zero_le _⟩ dX2_mostFrom_5 (zz_kI rfl rfl (fun r1 σ2 => ?_))
  refine zz_istore_n (loc' := [(3, .int r1), (0, .ref (zzad Z 32)), (1, .int p0), (2, .int p1)]) C dX2_mostFrom_8 rfl (by decide) rfl ?_
  refine zz_aload_n C dX2_mostFrom_9 rfl 1 rfl ?_
  refine zz_get C zzX_circ (fun _ h9 => List.mem_cons_of_mem _ (List.mem_append_right _ (h9))) rfl 0 (by decide) (List.mem_of_getElem? (i := 1) rfl) (Or.inl rfl) rfl dX2_mostFrom_10 ?_
  refine zz_iload_n C dX2_mostFrom_13 rfl 2 rfl ?_
  refine zz_callSN (As := [.ref (zzad Z 33), .int p0]) (rest := []) C rfl (k_X11_read 33 (by decide) p0 σ2) ⟨va_cnB 2 C.1.2.2.2.2 gX2_mostFrom_X11_read_n53 rfl rfl rfl (C.2.2.2.2 _ (List.mem_of_getElem? (i := 11) rfl)) (C.1.2.2.2.2 _ (List.mem_of_getElem? (i := 14) rfl)) (by decide +kernel) ⟨Nat.le_of_ble_eq_true rfl, Nat.le_of_ble_eq_true rfl⟩, C.1.2.2.2.2 _ (List.mem_of_getElem? (i := 13) rfl), trivial⟩ rfl (Nat.le_of_ble_eq_true rfl) ⟨Nat.zero_le _, Nat.zero_le _⟩ dX2_mostFrom_14 (zz_kI rfl rfl (fun r3 σ4 => ?_))
  refine zz_iload_n C dX2_mostFrom_17 rfl 3 rfl ?_
  refine zz_iconst (v := -1) C dX2_mostFrom_18 (by decide) ?_
  refine zz_ixor C dX2_mostFrom_19 ?_
  refine zz_iand C dX2_mostFrom_20 ?_
  refine zz_istoreX (locf := fun x5 => [(4, .int x5), (3, .int r1), (0, .ref (zzad Z 32)), (1, .int p0), (2, .int p1)]) C dX2_mostFrom_21 (by decide) (fun _ => rfl) (fun x5 => ?_)
  refine zz_iconst (v := 0) C dX2_mostFrom_23 (by decide) ?_
  refine zz_istore (loc' := [(5, .int (0 : Int32)), (4, .int x5), (3, .int r1), (0, .ref (zzad Z 32)), (1, .int p0), (2, .int p1)]) C dX2_mostFrom_24 (by decide) rfl ?_
  refine zz_sub (loc' := [(0, .ref (zzad Z 32)), (1, .int p0), (2, .int p1), (3, .int r1), (4, .int x5), (5, .int (0 : Int32))]) [3, 4, 5, 2, 1, 0] rfl ?_
  exact w_X2_mostFrom_26 C p0 p1 200 r1 x5 (0 : Int32) σ4
set_option maxHeartbeats 4000000 in
set_option maxRecDepth 100000 in
theorem k_X2_mostFrom {l : Launch} {Z : zzG} {base : Nat} {PL : Nat → Option (Nat × Int32)} {mm : zzS} (p0 : Int32)  (p1 : Int32)  (σ : zzS) : zzCT l yX2_mostFrom wsX2_mostFrom rX2_mostFrom (zzA base) Z (zzX Z base PL mm) (zzX Z base PL mm) zzRI [.ref (zzad Z 32), .int p0, .int p1] (f_X2_mostFrom p0 p1 σ) σ :=
  zzCT_of (cc := cX2_mostFrom) (nL := 6) (ret := (some .int)) (by decide) rfl (Nat.le_of_ble_eq_true rfl) [(0, .ref (zzad Z 32)), (1, .int p0), (2, .int p1)] rfl (fun p e s m args below meth c C => w_X2_mostFrom_e C p0 p1 σ)
abbrev rX2_mostTold : Room := { frames := 3, cells := 0, slots := 0, locals := 68 }

set_option maxHeartbeats 4000000 in
set_option maxRecDepth 100000 in
theorem w_X2_mostTold_84 {l : Launch} {Z : zzG} {base : Nat} {PL : Nat → Option (Nat × Int32)} {mm : zzS} {p : Program} {e : Env} {s : State} {m : MethodId} {args : Array Value} {below : List Frame} {meth : Method} {c : Code} (C : zzCx p m meth c s args cX2_mostTold 4 wsX2_mostTold RX2 (some .int) Z)  (k45 : Int32 → Int32 → zzS → Option (Int32 × zzS)) (hk45 : ∀ (l1 : Int32)  (l2 : Int32)  (σ : zzS), zzGO p l e rX2_mostTold s m args below meth c 4 (zzA base) (zzX Z base PL mm) (zzX Z base PL mm) zzRI rX2_mostTold.cells rX2_mostTold.slots (k45 l1 l2 σ) σ 0 0 45 [(0, .ref (zzad Z 32)), (1, .int l1), (2, .int l2)] []) (k51 : Int32 → Int32 → Int32 → zzS → Option (Int32 × zzS)) (hk51 : ∀ (l1 : Int32)  (l2 : Int32)  (l3 : Int32)  (σ : zzS), zzGO p l e rX2_mostTold s m args below meth c 4 (zzA base) (zzX Z base PL mm) (zzX Z base PL mm) zzRI rX2_mostTold.cells rX2_mostTold.slots (k51 l1 l2 l3 σ) σ 0 0 51 [(0, .ref (zzad Z 32)), (1, .int l1), (2, .int l2), (3, .int l3)] []) (l1 : Int32)  (l2 : Int32)  (l3 : Int32)  (σ : zzS) : zzGO p l e rX2_mostTold s m args below meth c 4 (zzA base) (zzX Z base PL mm) (zzX Z base PL mm) zzRI rX2_mostTold.cells rX2_mostTold.slots (f_X2_mostTold_84 k45 k51 l1 l2 l3 σ) σ 0 0 84 [(0, .ref (zzad Z 32)), (1, .int l1), (2, .int l2), (3, .int l3)] [] := by
  unfold f_X2_mostTold_84
  refine zz_iincX (d := 1) (locf := fun x1 => [(3, .int x1), (0, .ref (zzad Z 32)), (1, .int l1), (2, .int l2)]) C dX2_mostTold_84 (k := 3) rfl (by decide) (by decide) (fun _ => rfl) (fun x1 => ?_)
  refine zz_goto (tgt := 51) C dX2_mostTold_87 (by decide) ?_
  refine zz_sub (loc' := [(0, .ref (zzad Z 32)), (1, .int l1), (2, .int l2), (3, .int x1)]) [1, 2, 3, 0] rfl ?_
  exact hk51 l1 l2 x1 σ
set_option maxHeartbeats 4000000 in
set_option maxRecDepth 100000 in
theorem w_X2_mostTold_51b {l : Launch} {Z : zzG} {base : Nat} {PL : Nat → Option (Nat × Int32)} {mm : zzS} {p : Program} {e : Env} {s : State} {m : MethodId} {args : Array Value} {below : List Frame} {meth : Method} {c : Code} (C : zzCx p m meth c s args cX2_mostTold 4 wsX2_mostTold RX2 (some .int) Z)  (k45 : Int32 → Int32 → zzS → Option (Int32 × zzS)) (hk45 : ∀ (l1 : Int32)  (l2 : Int32)  (σ : zzS), zzGO p l e rX2_mostTold s m args below meth c 4 (zzA base) (zzX Z base PL mm) (zzX Z base PL mm) zzRI rX2_mostTold.cells rX2_mostTold.slots (k45 l1 l2 σ) σ 0 0 45 [(0, .ref (zzad Z 32)), (1, .int l1), (2, .int l2)] []) (k51 : Int32 → Int32 → Int32 → zzS → Option (Int32 × zzS)) (hk51 : ∀ (l1 : Int32)  (l2 : Int32)  (l3 : Int32)  (σ : zzS), zzGO p l e rX2_mostTold s m args below meth c 4 (zzA base) (zzX Z base PL mm) (zzX Z base PL mm) zzRI rX2_mostTold.cells rX2_mostTold.slots (k51 l1 l2 l3 σ) σ 0 0 51 [(0, .ref (zzad Z 32)), (1, .int l1), (2, .int l2), (3, .int l3)] []) (l1 : Int32)  (l2 : Int32)  (l3 : Int32)  (σ : zzS) : zzGO p l e rX2_mostTold s m args below meth c 4 (zzA base) (zzX Z base PL mm) (zzX Z base PL mm) zzRI rX2_mostTold.cells rX2_mostTold.slots (f_X2_mostTold_51b k45 k51 l1 l2 l3 σ) σ 0 0 51 [(0, .ref (zzad Z 32)), (1, .int l1), (2, .int l2), (3, .int l3)] [] := by
  unfold f_X2_mostTold_51b
  refine zz_iload_n C dX2_mostTold_51 rfl 3 rfl ?_
  refine zz_iload_n C dX2_mostTold_52 rfl 1 rfl ?_
  refine zz_icmp_ge (tgt := 90) C dX2_mostTold_53 (by decide) (fun h1 => ?_) (fun h1 => ?_)
  · refine zz_iincX (d := -1) (locf := fun x2 => [(2, .int x2), (0, .ref (zzad Z 32)), (1, .int l1), (3, .int l3)]) C dX2_mostTold_90 (k := 2) rfl (by decide) (by decide) (fun _ => rfl) (fun x2 => ?_)
    refine zz_goto (tgt := 45) C dX2_mostTold_93 (by decide) ?_
    refine zz_sub (loc' := [(0, .ref (zzad Z 32)), (1, .int l1), (2, .int x2)]) [1, 2, 0] rfl ?_
    exact hk45 l1 x2 σ
  · refine zz_iload_n C dX2_mostTold_56 rfl 3 rfl ?_
    refine zz_callS (As := [.int l3]) (rest := []) C rfl (k_J6_bitCount_0f7a4 l3 σ) (va_cwS 1 C.1.2.2.2.2 gX2_mostTold_J6_bitCount_0f7a4 rfl rfl rfl (by decide +kernel) ⟨Nat.le_of_ble_eq_true rfl, Nat.le_of_ble_eq_true rfl⟩) rfl (Nat.le_of_ble_eq_true rfl) ⟨Nat.zero_le _, Nat.zero_le _⟩ dX2_mostTold_57 (zz_kI rfl rfl (fun r3 σ4 => ?_))
    refine zz_iload_n C dX2_mostTold_60 rfl 2 rfl ?_
    refine zz_icmp_gt (tgt := 84) C dX2_mostTold_61 (by decide) (fun h5 => ?_) (fun h5 => ?_)
    · refine zz_sub (loc' := [(0, .ref (zzad Z 32)), (1, .int l1), (2, .int l2), (3, .int l3)]) [0, 1, 2, 3] rfl ?_
      exact w_X2_mostTold_84 C k45 hk45 k51 hk51 l1 l2 l3 σ4
    · refine zz_aload_n C dX2_mostTold_64 rfl 0 rfl ?_
      refine zz_get C zzX_circ (fun _ h9 => List.mem_cons_of_mem _ (List.mem_append_right _ (h9))) rfl 1 (by decide) (List.mem_of_getElem? (i := 2) rfl) (Or.inl rfl) rfl dX2_mostTold_65 ?_
      refine zz_iload_n C dX2_mostTold_68 rfl 2 rfl ?_
      refine zz_sipush (v := 128) C dX2_mostTold_69 (by decide) ?_
      refine zz_imul C dX2_mostTold_72 ?_
      refine zz_iload_n C dX2_mostTold_73 rfl 3 rfl ?_
      refine zz_iadd C dX2_mostTold_74 ?_
      refine zz_aload_n C dX2_mostTold_75 rfl 0 rfl ?_
      refine zz_iload_n C dX2_mostTold_76 rfl 2 rfl ?_
      refine zz_iload_n C dX2_mostTold_77 rfl 3 rfl ?_
      refine zz_callV C (Cn := RX2) (b := zzad Z 32) (fun H hH => zz_recv C.2.2.2 (zzX_circ H hH) rfl) (As := [.int l2, .int l3]) (rest := [.int ((l2 * (128 : Int32)) + l3), .ref (zzad Z 34)]) rfl (k_X2_mostFrom l2 l3 σ4) (cwV 2 C.1.2.2.2.2 gX2_mostTold_X2_mostFrom rfl rfl rfl (by decide +kernel) ⟨Nat.le_of_ble_eq_true rfl, Nat.le_of_ble_eq_true rfl⟩) rfl (Nat.le_of_ble_eq_true rfl) ⟨Nat.zero_le _, Nat.zero_le _⟩ dX2_mostTold_78 (zz_kI rfl rfl (fun r6 σ7 => ?_))
      refine zz_callSN (As := [.ref (zzad Z 34), .int ((l2 * (128 : Int32)) + l3), .int r6]) (rest := []) C rfl (k_X11_write 34 (by decide) ((l2 * (128 : Int32)) + l3) r6 σ7) ⟨va_cnB 3 C.1.2.2.2.2 gX2_mostTold_X11_write_n37 rfl rfl rfl (C.2.2.2.2 _ (List.mem_of_getElem? (i := 10) rfl)) (C.1.2.2.2.2 _ (List.mem_of_getElem? (i := 4) rfl)) (by decide +kernel) ⟨Nat.le_of_ble_eq_true rfl, Nat.le_of_ble_eq_true rfl⟩, C.1.2.2.2.2 _ (List.mem_of_getElem? (i := 3) rfl), trivial⟩ rfl (Nat.le_of_ble_eq_true rfl) ⟨Nat.zero_le _, Nat.zero_le _⟩ dX2_mostTold_81 (zz_kV rfl rfl (fun r8 σ9 => ?_))
      refine zz_sub (loc' := [(0, .ref (zzad Z 32)), (1, .int l1), (2, .int l2), (3, .int l3)]) [0, 1, 2, 3] rfl ?_
      exact w_X2_mostTold_84 C k45 hk45 k51 hk51 l1 l2 l3 σ9
set_option maxHeartbeats 4000000 in
set_option maxRecDepth 100000 in
theorem w_X2_mostTold_51 {l : Launch} {Z : zzG} {base : Nat} {PL : Nat → Option (Nat × Int32)} {mm : zzS} {p : Program} {e : Env} {s : State} {m : MethodId} {args : Array Value} {below : List Frame} {meth : Method} {c : Code} (C : zzCx p m meth c s args cX2_mostTold 4 wsX2_mostTold RX2 (some .int) Z)  (k45 : Int32 → Int32 → zzS → Option (Int32 × zzS)) (hk45 : ∀ (l1 : Int32)  (l2 : Int32)  (σ : zzS), zzGO p l e rX2_mostTold s m args below meth c 4 (zzA base) (zzX Z base PL mm) (zzX Z base PL mm) zzRI rX2_mostTold.cells rX2_mostTold.slots (k45 l1 l2 σ) σ 0 0 45 [(0, .ref (zzad Z 32)), (1, .int l1), (2, .int l2)] []) (n : Nat) : ∀ (l1 : Int32)  (l2 : Int32)  (l3 : Int32)  (σ : zzS), zzGO p l e rX2_mostTold s m args below meth c 4 (zzA base) (zzX Z base PL mm) (zzX Z base PL mm) zzRI rX2_mostTold.cells rX2_mostTold.slots (f_X2_mostTold_51 k45 n l1 l2 l3 σ) σ 0 0 51 [(0, .ref (zzad Z 32)), (1, .int l1), (2, .int l2), (3, .int l3)] [] := by
  induction n with
  | zero => exact fun _ _ _ _ r9 s9 h9 => by cases h9
  | succ n ih => exact w_X2_mostTold_51b C k45 hk45 _ ih
set_option maxHeartbeats 4000000 in
set_option maxRecDepth 100000 in
theorem w_X2_mostTold_45b {l : Launch} {Z : zzG} {base : Nat} {PL : Nat → Option (Nat × Int32)} {mm : zzS} {p : Program} {e : Env} {s : State} {m : MethodId} {args : Array Value} {below : List Frame} {meth : Method} {c : Code} (C : zzCx p m meth c s args cX2_mostTold 4 wsX2_mostTold RX2 (some .int) Z)   (k45 : Int32 → Int32 → zzS → Option (Int32 × zzS)) (hk45 : ∀ (l1 : Int32)  (l2 : Int32)  (σ : zzS), zzGO p l e rX2_mostTold s m args below meth c 4 (zzA base) (zzX Z base PL mm) (zzX Z base PL mm) zzRI rX2_mostTold.cells rX2_mostTold.slots (k45 l1 l2 σ) σ 0 0 45 [(0, .ref (zzad Z 32)), (1, .int l1), (2, .int l2)] []) (l1 : Int32)  (l2 : Int32)  (σ : zzS) : zzGO p l e rX2_mostTold s m args below meth c 4 (zzA base) (zzX Z base PL mm) (zzX Z base PL mm) zzRI rX2_mostTold.cells rX2_mostTold.slots (f_X2_mostTold_45b k45 l1 l2 σ) σ 0 0 45 [(0, .ref (zzad Z 32)), (1, .int l1), (2, .int l2)] [] := by
  unfold f_X2_mostTold_45b
  refine zz_iload_n C dX2_mostTold_45 rfl 2 rfl ?_
  refine zz_if_lt (tgt := 96) C dX2_mostTold_46 (by decide) (fun h1 => ?_) (fun h1 => ?_)
  · refine zz_aload_n C dX2_mostTold_96 rfl 0 rfl ?_
    refine zz_iconst (v := 0) C dX2_mostTold_97 (by decide) ?_
    refine zz_iconst (v := 0) C dX2_mostTold_98 (by decide) ?_
    refine zz_callV C (Cn := RX2) (b := zzad Z 32) (fun H hH => zz_recv C.2.2.2 (zzX_circ H hH) rfl) (As := [.int (0 : Int32), .int (0 : Int32)]) (rest := []) rfl (k_X2_mostAt (0 : Int32) (0 : Int32) σ) (cwV 2 C.1.2.2.2.2 gX2_mostTold_X2_mostAt rfl rfl rfl (by decide +kernel) ⟨Nat.le_of_ble_eq_true rfl, Nat.le_of_ble_eq_true rfl⟩) rfl (Nat.le_of_ble_eq_true rfl) ⟨Nat.zero_le _, Nat.zero_le _⟩ dX2_mostTold_99 (zz_kI rfl rfl (fun r2 σ3 => ?_))
    exact zz_iret C rfl rfl (fun _ h9 => h9) (Nat.zero_le _) (Nat.zero_le _) dX2_mostTold_102
  · refine zz_iconst (v := 0) C dX2_mostTold_49 (by decide) ?_
    refine zz_istore_n (loc' := [(3, .int (0 : Int32)), (0, .ref (zzad Z 32)), (1, .int l1), (2, .int l2)]) C dX2_mostTold_50 rfl (by decide) rfl ?_
    refine zz_sub (loc' := [(0, .ref (zzad Z 32)), (1, .int l1), (2, .int l2), (3, .int (0 : Int32))]) [1, 2, 3, 0] rfl ?_
    exact w_X2_mostTold_51 C k45 hk45 200 l1 l2 (0 : Int32) σ
set_option maxHeartbeats 4000000 in
set_option maxRecDepth 100000 in
theorem w_X2_mostTold_45 {l : Launch} {Z : zzG} {base : Nat} {PL : Nat → Option (Nat × Int32)} {mm : zzS} {p : Program} {e : Env} {s : State} {m : MethodId} {args : Array Value} {below : List Frame} {meth : Method} {c : Code} (C : zzCx p m meth c s args cX2_mostTold 4 wsX2_mostTold RX2 (some .int) Z)   (n : Nat) : ∀ (l1 : Int32)  (l2 : Int32)  (σ : zzS), zzGO p l e rX2_mostTold s m args below meth c 4 (zzA base) (zzX Z base PL mm) (zzX Z base PL mm) zzRI rX2_mostTold.cells rX2_mostTold.slots (f_X2_mostTold_45 n l1 l2 σ) σ 0 0 45 [(0, .ref (zzad Z 32)), (1, .int l1), (2, .int l2)] [] := by
  induction n with
  | zero => exact fun _ _ _ r9 s9 h9 => by cases h9
  | succ n ih => exact w_X2_mostTold_45b C _ ih
set_option maxHeartbeats 4000000 in
set_option maxRecDepth 100000 in
theorem w_X2_mostTold_9b {l : Launch} {Z : zzG} {base : Nat} {PL : Nat → Option (Nat × Int32)} {mm : zzS} {p : Program} {e : Env} {s : State} {m : MethodId} {args : Array Value} {below : List Frame} {meth : Method} {c : Code} (C : zzCx p m meth c s args cX2_mostTold 4 wsX2_mostTold RX2 (some .int) Z)   (k9 : Int32 → Int32 → zzS → Option (Int32 × zzS)) (hk9 : ∀ (l1 : Int32)  (l2 : Int32)  (σ : zzS), zzGO p l e rX2_mostTold s m args below meth c 4 (zzA base) (zzX Z base PL mm) (zzX Z base PL mm) zzRI rX2_mostTold.cells rX2_mostTold.slots (k9 l1 l2 σ) σ 0 0 9 [(0, .ref (zzad Z 32)), (1, .int l1), (2, .int l2)] []) (l1 : Int32)  (l2 : Int32)  (σ : zzS) : zzGO p l e rX2_mostTold s m args below meth c 4 (zzA base) (zzX Z base PL mm) (zzX Z base PL mm) zzRI rX2_mostTold.cells rX2_mostTold.slots (f_X2_mostTold_9b k9 l1 l2 σ) σ 0 0 9 [(0, .ref (zzad Z 32)), (1, .int l1), (2, .int l2)] [] := by
  unfold f_X2_mostTold_9b
  refine zz_iload_n C dX2_mostTold_9 rfl 2 rfl ?_
  refine zz_iload_n C dX2_mostTold_10 rfl 1 rfl ?_
  refine zz_icmp_ge (tgt := 38) C dX2_mostTold_11 (by decide) (fun h1 => ?_) (fun h1 => ?_)
  · refine zz_aload_n C dX2_mostTold_38 rfl 0 rfl ?_
    refine zz_get C zzX_circ (fun _ h9 => List.mem_cons_of_mem _ (List.mem_append_right _ (h9))) rfl 3 (by decide) (List.mem_of_getElem? (i := 1) rfl) (Or.inl rfl) rfl dX2_mostTold_39 ?_
    refine zz_iconst (v := 1) C dX2_mostTold_42 (by decide) ?_
    refine zz_isub C dX2_mostTold_43 ?_
    refine zz_istoreX_n (locf := fun x2 => [(2, .int x2), (0, .ref (zzad Z 32)), (1, .int l1)]) C dX2_mostTold_44 rfl (by decide) (fun _ => rfl) (fun x2 => ?_)
    refine zz_sub (loc' := [(0, .ref (zzad Z 32)), (1, .int l1), (2, .int x2)]) [1, 2, 0] rfl ?_
    exact w_X2_mostTold_45 C 200 l1 x2 σ
  · refine zz_aload_n C dX2_mostTold_14 rfl 0 rfl ?_
    refine zz_get C zzX_circ (fun _ h9 => List.mem_cons_of_mem _ (List.mem_append_right _ (h9))) rfl 1 (by decide) (List.mem_of_getElem? (i := 2) rfl) (Or.inl rfl) rfl dX2_mostTold_15 ?_
    refine zz_aload_n C dX2_mostTold_18 rfl 0 rfl ?_
    refine zz_get C zzX_circ (fun _ h9 => List.mem_cons_of_mem _ (List.mem_append_right _ (h9))) rfl 3 (by decide) (List.mem_of_getElem? (i := 1) rfl) (Or.inl rfl) rfl dX2_mostTold_19 ?_
    refine zz_sipush (v := 128) C dX2_mostTold_22 (by decide) ?_
    refine zz_imul C dX2_mostTold_25 ?_
    refine zz_iload_n C dX2_mostTold_26 rfl 2 rfl ?_
    refine zz_iadd C dX2_mostTold_27 ?_
    refine zz_iconst (v := 0) C dX2_mostTold_28 (by decide) ?_
    refine zz_callSN (As := [.ref (zzad Z 34), .int (((zzi σ 32 3) * (128 : Int32)) + l2), .int (0 : Int32)]) (rest := []) C rfl (k_X11_write 34 (by decide) (((zzi σ 32 3) * (128 : Int32)) + l2) (0 : Int32) σ) ⟨va_cnB 3 C.1.2.2.2.2 gX2_mostTold_X11_write_n37 rfl rfl rfl (C.2.2.2.2 _ (List.mem_of_getElem? (i := 10) rfl)) (C.1.2.2.2.2 _ (List.mem_of_getElem? (i := 4) rfl)) (by decide +kernel) ⟨Nat.le_of_ble_eq_true rfl, Nat.le_of_ble_eq_true rfl⟩, C.1.2.2.2.2 _ (List.mem_of_getElem? (i := 3) rfl), trivial⟩ rfl (Nat.le_of_ble_eq_true rfl) ⟨Nat.zero_le _, Nat.zero_le _⟩ dX2_mostTold_29 (zz_kV rfl rfl (fun r3 σ4 => ?_))
    refine zz_iincX (d := 1) (locf := fun x5 => [(2, .int x5), (0, .ref (zzad Z 32)), (1, .int l1)]) C dX2_mostTold_32 (k := 2) rfl (by decide) (by decide) (fun _ => rfl) (fun x5 => ?_)
    refine zz_goto (tgt := 9) C dX2_mostTold_35 (by decide) ?_
    refine zz_sub (loc' := [(0, .ref (zzad Z 32)), (1, .int l1), (2, .int x5)]) [1, 2, 0] rfl ?_
    exact hk9 l1 x5 σ4
set_option maxHeartbeats 4000000 in
set_option maxRecDepth 100000 in
theorem w_X2_mostTold_9 {l : Launch} {Z : zzG} {base : Nat} {PL : Nat → Option (Nat × Int32)} {mm : zzS} {p : Program} {e : Env} {s : State} {m : MethodId} {args : Array Value} {below : List Frame} {meth : Method} {c : Code} (C : zzCx p m meth c s args cX2_mostTold 4 wsX2_mostTold RX2 (some .int) Z)   (n : Nat) : ∀ (l1 : Int32)  (l2 : Int32)  (σ : zzS), zzGO p l e rX2_mostTold s m args below meth c 4 (zzA base) (zzX Z base PL mm) (zzX Z base PL mm) zzRI rX2_mostTold.cells rX2_mostTold.slots (f_X2_mostTold_9 n l1 l2 σ) σ 0 0 9 [(0, .ref (zzad Z 32)), (1, .int l1), (2, .int l2)] [] := by
  induction n with
  | zero => exact fun _ _ _ r9 s9 h9 => by cases h9
  | succ n ih => exact w_X2_mostTold_9b C _ ih
set_option maxHeartbeats 4000000 in
set_option maxRecDepth 100000 in
theorem w_X2_mostTold_e {l : Launch} {Z : zzG} {base : Nat} {PL : Nat → Option (Nat × Int32)} {mm : zzS} {p : Program} {e : Env} {s : State} {m : MethodId} {args : Array Value} {below : List Frame} {meth : Method} {c : Code} (C : zzCx p m meth c s args cX2_mostTold 4 wsX2_mostTold RX2 (some .int) Z)  (σ : zzS) : zzGO p l e rX2_mostTold s m args below meth c 4 (zzA base) (zzX Z base PL mm) (zzX Z base PL mm) zzRI rX2_mostTold.cells rX2_mostTold.slots (f_X2_mostTold σ) σ 0 0 0 [(0, .ref (zzad Z 32))] [] := by
  unfold f_X2_mostTold
  refine zz_iconst (v := 1) C dX2_mostTold_0 (by decide) ?_
  refine zz_aload_n C dX2_mostTold_1 rfl 0 rfl ?_
  refine zz_get C zzX_circ (fun _ h9 => List.mem_cons_of_mem _ (List.mem_append_right _ (h9))) rfl 3 (by decide) (List.mem_of_getElem? (i := 1) rfl) (Or.inl rfl) rfl dX2_mostTold_2 ?_
  refine zz_ishl C dX2_mostTold_5 ?_
  refine zz_istoreX_n (locf := fun x1 => [(1, .int x1), (0, .ref (zzad Z 32))]) C dX2_mostTold_6 rfl (by decide) (fun _ => rfl) (fun x1 => ?_)
  refine zz_iconst (v := 0) C dX2_mostTold_7 (by decide) ?_
  refine zz_istore_n (loc' := [(2, .int (0 : Int32)), (1, .int x1), (0, .ref (zzad Z 32))]) C dX2_mostTold_8 rfl (by decide) rfl ?_
  refine zz_sub (loc' := [(0, .ref (zzad Z 32)), (1, .int x1), (2, .int (0 : Int32))]) [2, 1, 0] rfl ?_
  exact w_X2_mostTold_9 C 200 x1 (0 : Int32) σ
set_option maxHeartbeats 4000000 in
set_option maxRecDepth 100000 in
theorem k_X2_mostTold {l : Launch} {Z : zzG} {base : Nat} {PL : Nat → Option (Nat × Int32)} {mm : zzS}  (σ : zzS) : zzCT l yX2_mostTold wsX2_mostTold rX2_mostTold (zzA base) Z (zzX Z base PL mm) (zzX Z base PL mm) zzRI [.ref (zzad Z 32)] (f_X2_mostTold σ) σ :=
  zzCT_of (cc := cX2_mostTold) (nL := 4) (ret := (some .int)) (by decide) rfl (Nat.le_of_ble_eq_true rfl) [(0, .ref (zzad Z 32))] rfl (fun p e s m args below meth c C => w_X2_mostTold_e C σ)
abbrev rX2_firstTurner : Room := { frames := 2, cells := 0, slots := 0, locals := 43 }

set_option maxHeartbeats 4000000 in
set_option maxRecDepth 100000 in
theorem w_X2_firstTurner_61 {l : Launch} {Z : zzG} {base : Nat} {PL : Nat → Option (Nat × Int32)} {mm : zzS} {p : Program} {e : Env} {s : State} {m : MethodId} {args : Array Value} {below : List Frame} {meth : Method} {c : Code} (C : zzCx p m meth c s args cX2_firstTurner 5 wsX2_firstTurner RX2 (some .int) Z) (p0 : Int32)  (p1 : Int32)  (k16 : Int32 → Int32 → zzS → Option (Int32 × zzS)) (hk16 : ∀ (l3 : Int32)  (l4 : Int32)  (σ : zzS), zzGO p l e rX2_firstTurner s m args below meth c 5 (zzA base) (zzX Z base PL mm) (zzX Z base PL mm) zzRI rX2_firstTurner.cells rX2_firstTurner.slots (k16 l3 l4 σ) σ 0 0 16 [(0, .ref (zzad Z 32)), (1, .int p0), (2, .int p1), (3, .int l3), (4, .int l4)] []) (l3 : Int32)  (l4 : Int32)  (σ : zzS) : zzGO p l e rX2_firstTurner s m args below meth c 5 (zzA base) (zzX Z base PL mm) (zzX Z base PL mm) zzRI rX2_firstTurner.cells rX2_firstTurner.slots (f_X2_firstTurner_61 k16 p0 p1 l3 l4 σ) σ 0 0 61 [(0, .ref (zzad Z 32)), (1, .int p0), (2, .int p1), (3, .int l3), (4, .int l4)] [] := by
  unfold f_X2_firstTurner_61
  refine zz_iincX (d := 1) (locf := fun x1 => [(4, .int x1), (0, .ref (zzad Z 32)), (1, .int p0), (2, .int p1), (3, .int l3)]) C dX2_firstTurner_61 (k := 4) rfl (by decide) (by decide) (fun _ => rfl) (fun x1 => ?_)
  refine zz_goto (tgt := 16) C dX2_firstTurner_64 (by decide) ?_
  refine zz_sub (loc' := [(0, .ref (zzad Z 32)), (1, .int p0), (2, .int p1), (3, .int l3), (4, .int x1)]) [1, 2, 3, 4, 0] rfl ?_
  exact hk16 l3 x1 σ
set_option maxHeartbeats 4000000 in
set_option maxRecDepth 100000 in
theorem w_X2_firstTurner_16b {l : Launch} {Z : zzG} {base : Nat} {PL : Nat → Option (Nat × Int32)} {mm : zzS} {p : Program} {e : Env} {s : State} {m : MethodId} {args : Array Value} {below : List Frame} {meth : Method} {c : Code} (C : zzCx p m meth c s args cX2_firstTurner 5 wsX2_firstTurner RX2 (some .int) Z) (p0 : Int32)  (p1 : Int32)   (k16 : Int32 → Int32 → zzS → Option (Int32 × zzS)) (hk16 : ∀ (l3 : Int32)  (l4 : Int32)  (σ : zzS), zzGO p l e rX2_firstTurner s m args below meth c 5 (zzA base) (zzX Z base PL mm) (zzX Z base PL mm) zzRI rX2_firstTurner.cells rX2_firstTurner.slots (k16 l3 l4 σ) σ 0 0 16 [(0, .ref (zzad Z 32)), (1, .int p0), (2, .int p1), (3, .int l3), (4, .int l4)] []) (l3 : Int32)  (l4 : Int32)  (σ : zzS) : zzGO p l e rX2_firstTurner s m args below meth c 5 (zzA base) (zzX Z base PL mm) (zzX Z base PL mm) zzRI rX2_firstTurner.cells rX2_firstTurner.slots (f_X2_firstTurner_16b k16 p0 p1 l3 l4 σ) σ 0 0 16 [(0, .ref (zzad Z 32)), (1, .int p0), (2, .int p1), (3, .int l3), (4, .int l4)] [] := by
  unfold f_X2_firstTurner_16b
  refine zz_iload C dX2_firstTurner_16 4 rfl ?_
  refine zz_aload_n C dX2_firstTurner_18 rfl 0 rfl ?_
  refine zz_get C zzX_circ (fun _ h9 => List.mem_cons_of_mem _ (List.mem_append_right _ (h9))) rfl 3 (by decide) (List.mem_of_getElem? (i := 2) rfl) (Or.inl rfl) rfl dX2_firstTurner_19 ?_
  refine zz_icmp_ge (tgt := 67) C dX2_firstTurner_22 (by decide) (fun h1 => ?_) (fun h1 => ?_)
  · refine zz_bipush (v := 9) C dX2_firstTurner_67 (by decide) ?_
    exact zz_iret C rfl rfl (fun _ h9 => h9) (Nat.zero_le _) (Nat.zero_le _) dX2_firstTurner_69
  · refine zz_iload_n C dX2_firstTurner_25 rfl 3 rfl ?_
    refine zz_iconst (v := 1) C dX2_firstTurner_26 (by decide) ?_
    refine zz_iload C dX2_firstTurner_27 4 rfl ?_
    refine zz_ishl C dX2_firstTurner_29 ?_
    refine zz_iand C dX2_firstTurner_30 ?_
    refine zz_if_eq (tgt := 61) C dX2_firstTurner_31 (by decide) (fun h2 => ?_) (fun h2 => ?_)
    · refine zz_sub (loc' := [(0, .ref (zzad Z 32)), (1, .int p0), (2, .int p1), (3, .int l3), (4, .int l4)]) [0, 1, 2, 3, 4] rfl ?_
      exact w_X2_firstTurner_61 C p0 p1 k16 hk16 l3 l4 σ
    · refine zz_iconst (v := 1) C dX2_firstTurner_34 (by decide) ?_
      refine zz_aload_n C dX2_firstTurner_35 rfl 0 rfl ?_
      refine zz_iload_n C dX2_firstTurner_36 rfl 1 rfl ?_
      refine zz_iconst (v := 1) C dX2_firstTurner_37 (by decide) ?_
      refine zz_iadd C dX2_firstTurner_38 ?_
      refine zz_iload_n C dX2_firstTurner_39 rfl 2 rfl ?_
      refine zz_iconst (v := 1) C dX2_firstTurner_40 (by decide) ?_
      refine zz_iload C dX2_firstTurner_41 4 rfl ?_
      refine zz_ishl C dX2_firstTurner_43 ?_
      refine zz_ior C dX2_firstTurner_44 ?_
      refine zz_callV C (Cn := RX2) (b := zzad Z 32) (fun H hH => zz_recv C.2.2.2 (zzX_circ H hH) rfl) (As := [.int (p0 + (1 : Int32)), .int (p1 ||| ((1 : Int32) <<< (l4 &&& 31)))]) (rest := [.int (1 : Int32)]) rfl (k_X2_mostAt (p0 + (1 : Int32)) (p1 ||| ((1 : Int32) <<< (l4 &&& 31))) σ) (cwV 2 C.1.2.2.2.2 gX2_firstTurner_X2_mostAt rfl rfl rfl (by decide +kernel) ⟨Nat.le_of_ble_eq_true rfl, Nat.le_of_ble_eq_true rfl⟩) rfl (Nat.le_of_ble_eq_true rfl) ⟨Nat.zero_le _, Nat.zero_le _⟩ dX2_firstTurner_45 (zz_kI rfl rfl (fun r3 σ4 => ?_))
      refine zz_iadd C dX2_firstTurner_48 ?_
      refine zz_aload_n C dX2_firstTurner_49 rfl 0 rfl ?_
      refine zz_iload_n C dX2_firstTurner_50 rfl 1 rfl ?_
      refine zz_iload_n C dX2_firstTurner_51 rfl 2 rfl ?_
      refine zz_callV C (Cn := RX2) (b := zzad Z 32) (fun H hH => zz_recv C.2.2.2 (zzX_circ H hH) rfl) (As := [.int p0, .int p1]) (rest := [.int ((1 : Int32) + r3)]) rfl (k_X2_mostAt p0 p1 σ4) (cwV 2 C.1.2.2.2.2 gX2_firstTurner_X2_mostAt rfl rfl rfl (by decide +kernel) ⟨Nat.le_of_ble_eq_true rfl, Nat.le_of_ble_eq_true rfl⟩) rfl (Nat.le_of_ble_eq_true rfl) ⟨Nat.zero_le _, Nat.zero_le _⟩ dX2_firstTurner_52 (zz_kI rfl rfl (fun r5 σ6 => ?_))
      refine zz_icmp_ne (tgt := 61) C dX2_firstTurner_55 (by decide) (fun h7 => ?_) (fun h7 => ?_)
      · refine zz_sub (loc' := [(0, .ref (zzad Z 32)), (1, .int p0), (2, .int p1), (3, .int l3), (4, .int l4)]) [0, 1, 2, 3, 4] rfl ?_
        exact w_X2_firstTurner_61 C p0 p1 k16 hk16 l3 l4 σ6
      · refine zz_iload C dX2_firstTurner_58 4 rfl ?_
        exact zz_iret C rfl rfl (fun _ h9 => h9) (Nat.zero_le _) (Nat.zero_le _) dX2_firstTurner_60
set_option maxHeartbeats 4000000 in
set_option maxRecDepth 100000 in
theorem w_X2_firstTurner_16 {l : Launch} {Z : zzG} {base : Nat} {PL : Nat → Option (Nat × Int32)} {mm : zzS} {p : Program} {e : Env} {s : State} {m : MethodId} {args : Array Value} {below : List Frame} {meth : Method} {c : Code} (C : zzCx p m meth c s args cX2_firstTurner 5 wsX2_firstTurner RX2 (some .int) Z) (p0 : Int32)  (p1 : Int32)   (n : Nat) : ∀ (l3 : Int32)  (l4 : Int32)  (σ : zzS), zzGO p l e rX2_firstTurner s m args below meth c 5 (zzA base) (zzX Z base PL mm) (zzX Z base PL mm) zzRI rX2_firstTurner.cells rX2_firstTurner.slots (f_X2_firstTurner_16 p0 p1 n l3 l4 σ) σ 0 0 16 [(0, .ref (zzad Z 32)), (1, .int p0), (2, .int p1), (3, .int l3), (4, .int l4)] [] := by
  induction n with
  | zero => exact fun _ _ _ r9 s9 h9 => by cases h9
  | succ n ih => exact w_X2_firstTurner_16b C p0 p1 _ ih
set_option maxHeartbeats 4000000 in
set_option maxRecDepth 100000 in
theorem w_X2_firstTurner_e {l : Launch} {Z : zzG} {base : Nat} {PL : Nat → Option (Nat × Int32)} {mm : zzS} {p : Program} {e : Env} {s : State} {m : MethodId} {args : Array Value} {below : List Frame} {meth : Method} {c : Code} (C : zzCx p m meth c s args cX2_firstTurner 5 wsX2_firstTurner RX2 (some .int) Z) (p0 : Int32)  (p1 : Int32)  (σ : zzS) : zzGO p l e rX2_firstTurner s m args below meth c 5 (zzA base) (zzX Z base PL mm) (zzX Z base PL mm) zzRI rX2_firstTurner.cells rX2_firstTurner.slots (f_X2_firstTurner p0 p1 σ) σ 0 0 0 [(0, .ref (zzad Z 32)), (1, .int p0), (2, .int p1)] [] := by
  unfold f_X2_firstTurner
  refine zz_aload_n C dX2_firstTurner_0 rfl 0 rfl ?_
  refine zz_get C zzX_circ (fun _ h9 => List.mem_cons_of_mem _ (List.mem_append_right _ (h9))) rfl 0 (by decide) (List.mem_of_getElem? (i := 1) rfl) (Or.inl rfl) rfl dX2_firstTurner_1 ?_
  refine zz_iload_n C dX2_firstTurner_4 rfl 1 rfl ?_
  refine zz_callSN (As := [.ref (zzad Z 33), .int p0]) (rest := []) C rfl (k_X11_read 33 (by decide) p0 σ) ⟨va_cnB 2 C.1.2.2.2.2 gX2_firstTurner_X11_read_n53 rfl rfl rfl (C.2.2.2.2 _ (List.mem_of_getElem? (i := 11) rfl)) (C.1.2.2.2.2 _ (List.mem_of_getElem? (i := 4) rfl)) (by decide +kernel) ⟨Nat.le_of_ble_eq_true rfl, Nat.le_of_ble_eq_true rfl⟩, C.1.2.2.2.2 _ (List.mem_of_getElem? (i := 3) rfl), trivial⟩ rfl (Nat.le_of_ble_eq_true rfl) ⟨Nat.zero_le _, Nat.zero_le _⟩ dX2_firstTurner_5 (zz_kI rfl rfl (fun r1 σ2 => ?_))
  refine zz_iload_n C dX2_firstTurner_8 rfl 2 rfl ?_
  refine zz_iconst (v := -1) C dX2_firstTurner_9 (by decide) ?_
  refine zz_ixor C dX2_firstTurner_10 ?_
  refine zz_iand C dX2_firstTurner_11 ?_
  refine zz_istoreX_n (locf := fun x3 => [(3, .int x3), (0, .ref (zzad Z 32)), (1, .int p0), (2, .int p1)]) C dX2_firstTurner_12 rfl (by decide) (fun _ => rfl) (fun x3 => ?_)
  refine zz_iconst (v := 0) C dX2_firstTurner_13 (by decide) ?_
  refine zz_istore (loc' := [(4, .int (0 : Int32)), (3, .int x3), (0, .ref (zzad Z 32)), (1, .int p0), (2, .int p1)]) C dX2_firstTurner_14 (by decide) rfl ?_
  refine zz_sub (loc' := [(0, .ref (zzad Z 32)), (1, .int p0), (2, .int p1), (3, .int x3), (4, .int (0 : Int32))]) [2, 3, 4, 1, 0] rfl ?_
  exact w_X2_firstTurner_16 C p0 p1 200 x3 (0 : Int32) σ2
set_option maxHeartbeats 4000000 in
set_option maxRecDepth 100000 in
theorem k_X2_firstTurner {l : Launch} {Z : zzG} {base : Nat} {PL : Nat → Option (Nat × Int32)} {mm : zzS} (p0 : Int32)  (p1 : Int32)  (σ : zzS) : zzCT l yX2_firstTurner wsX2_firstTurner rX2_firstTurner (zzA base) Z (zzX Z base PL mm) (zzX Z base PL mm) zzRI [.ref (zzad Z 32), .int p0, .int p1] (f_X2_firstTurner p0 p1 σ) σ :=
  zzCT_of (cc := cX2_firstTurner) (nL := 5) (ret := (some .int)) (by decide) rfl (Nat.le_of_ble_eq_true rfl) [(0, .ref (zzad Z 32)), (1, .int p0), (2, .int p1)] rfl (fun p e s m args below meth c C => w_X2_firstTurner_e C p0 p1 σ)
abbrev rX2_turnerOf : Room := { frames := 3, cells := 0, slots := 0, locals := 67 }

set_option maxHeartbeats 4000000 in
set_option maxRecDepth 100000 in
theorem w_X2_turnerOf_45 {l : Launch} {Z : zzG} {base : Nat} {PL : Nat → Option (Nat × Int32)} {mm : zzS} {p : Program} {e : Env} {s : State} {m : MethodId} {args : Array Value} {below : List Frame} {meth : Method} {c : Code} (C : zzCx p m meth c s args cX2_turnerOf 5 wsX2_turnerOf RX2 (some .int) Z) (p0 : Int32)  (k8 : Int32 → Int32 → Int32 → zzS → Option (Int32 × zzS)) (hk8 : ∀ (l2 : Int32)  (l3 : Int32)  (l4 : Int32)  (σ : zzS), zzGO p l e rX2_turnerOf s m args below meth c 5 (zzA base) (zzX Z base PL mm) (zzX Z base PL mm) zzRI rX2_turnerOf.cells rX2_turnerOf.slots (k8 l2 l3 l4 σ) σ 0 0 8 [(0, .ref (zzad Z 32)), (1, .int p0), (2, .int l2), (3, .int l3), (4, .int l4)] []) (l3 : Int32)  (l4 : Int32)  (s0 : Int32)  (s1 : Int32)  (σ : zzS) : zzGO p l e rX2_turnerOf s m args below meth c 5 (zzA base) (zzX Z base PL mm) (zzX Z base PL mm) zzRI rX2_turnerOf.cells rX2_turnerOf.slots (f_X2_turnerOf_45 k8 p0 l3 l4 s0 s1 σ) σ 0 0 45 [(0, .ref (zzad Z 32)), (1, .int p0), (3, .int l3), (4, .int l4)] [.int s0, .int s1] := by
  unfold f_X2_turnerOf_45
  refine zz_ior C dX2_turnerOf_45 ?_
  refine zz_istoreX_n (locf := fun x1 => [(2, .int x1), (0, .ref (zzad Z 32)), (1, .int p0), (3, .int l3), (4, .int l4)]) C dX2_turnerOf_46 rfl (by decide) (fun _ => rfl) (fun x1 => ?_)
  refine zz_iincX (d := 1) (locf := fun x2 => [(4, .int x2), (2, .int x1), (0, .ref (zzad Z 32)), (1, .int p0), (3, .int l3)]) C dX2_turnerOf_47 (k := 4) rfl (by decide) (by decide) (fun _ => rfl) (fun x2 => ?_)
  refine zz_goto (tgt := 8) C dX2_turnerOf_50 (by decide) ?_
  refine zz_sub (loc' := [(0, .ref (zzad Z 32)), (1, .int p0), (2, .int x1), (3, .int l3), (4, .int x2)]) [2, 3, 1, 4, 0] rfl ?_
  exact hk8 x1 l3 x2 σ
set_option maxHeartbeats 4000000 in
set_option maxRecDepth 100000 in
theorem w_X2_turnerOf_8b {l : Launch} {Z : zzG} {base : Nat} {PL : Nat → Option (Nat × Int32)} {mm : zzS} {p : Program} {e : Env} {s : State} {m : MethodId} {args : Array Value} {below : List Frame} {meth : Method} {c : Code} (C : zzCx p m meth c s args cX2_turnerOf 5 wsX2_turnerOf RX2 (some .int) Z) (p0 : Int32)   (k8 : Int32 → Int32 → Int32 → zzS → Option (Int32 × zzS)) (hk8 : ∀ (l2 : Int32)  (l3 : Int32)  (l4 : Int32)  (σ : zzS), zzGO p l e rX2_turnerOf s m args below meth c 5 (zzA base) (zzX Z base PL mm) (zzX Z base PL mm) zzRI rX2_turnerOf.cells rX2_turnerOf.slots (k8 l2 l3 l4 σ) σ 0 0 8 [(0, .ref (zzad Z 32)), (1, .int p0), (2, .int l2), (3, .int l3), (4, .int l4)] []) (l2 : Int32)  (l3 : Int32)  (l4 : Int32)  (σ : zzS) : zzGO p l e rX2_turnerOf s m args below meth c 5 (zzA base) (zzX Z base PL mm) (zzX Z base PL mm) zzRI rX2_turnerOf.cells rX2_turnerOf.slots (f_X2_turnerOf_8b k8 p0 l2 l3 l4 σ) σ 0 0 8 [(0, .ref (zzad Z 32)), (1, .int p0), (2, .int l2), (3, .int l3), (4, .int l4)] [] := by
  unfold f_X2_turnerOf_8b
  refine zz_iload C dX2_turnerOf_8 4 rfl ?_
  refine zz_iload_n C dX2_turnerOf_10 rfl 1 rfl ?_
  refine zz_icmp_gt (tgt := 53) C dX2_turnerOf_11 (by decide) (fun h1 => ?_) (fun h1 => ?_)
  · refine zz_iload_n C dX2_turnerOf_53 rfl 3 rfl ?_
    exact zz_iret C rfl rfl (fun _ h9 => h9) (Nat.zero_le _) (Nat.zero_le _) dX2_turnerOf_54
  · refine zz_iload C dX2_turnerOf_14 4 rfl ?_
    refine zz_aload_n C dX2_turnerOf_16 rfl 0 rfl ?_
    refine zz_get C zzX_circ (fun _ h9 => List.mem_cons_of_mem _ (List.mem_append_right _ (h9))) rfl 3 (by decide) (List.mem_of_getElem? (i := 1) rfl) (Or.inl rfl) rfl dX2_turnerOf_17 ?_
    refine zz_icmp_ge (tgt := 53) C dX2_turnerOf_20 (by decide) (fun h2 => ?_) (fun h2 => ?_)
    · refine zz_iload_n C dX2_turnerOf_53 rfl 3 rfl ?_
      exact zz_iret C rfl rfl (fun _ h9 => h9) (Nat.zero_le _) (Nat.zero_le _) dX2_turnerOf_54
    · refine zz_aload_n C dX2_turnerOf_23 rfl 0 rfl ?_
      refine zz_iload C dX2_turnerOf_24 4 rfl ?_
      refine zz_iload_n C dX2_turnerOf_26 rfl 2 rfl ?_
      refine zz_callV C (Cn := RX2) (b := zzad Z 32) (fun H hH => zz_recv C.2.2.2 (zzX_circ H hH) rfl) (As := [.int l4, .int l2]) (rest := []) rfl (k_X2_firstTurner l4 l2 σ) (cwV 2 C.1.2.2.2.2 gX2_turnerOf_X2_firstTurner rfl rfl rfl (by decide +kernel) ⟨Nat.le_of_ble_eq_true rfl, Nat.le_of_ble_eq_true rfl⟩) rfl (Nat.le_of_ble_eq_true rfl) ⟨Nat.zero_le _, Nat.zero_le _⟩ dX2_turnerOf_27 (zz_kI rfl rfl (fun r3 σ4 => ?_))
      refine zz_istore_n (loc' := [(3, .int r3), (0, .ref (zzad Z 32)), (1, .int p0), (2, .int l2), (4, .int l4)]) C dX2_turnerOf_30 rfl (by decide) rfl ?_
      refine zz_iload_n C dX2_turnerOf_31 rfl 3 rfl ?_
      refine zz_iload_n C dX2_turnerOf_32 rfl 0 rfl ?_
      refine zz_bipush (v := 9) C dX2_turnerOf_33 (by decide) ?_
      refine zz_icmp_ne (tgt := 42) C dX2_turnerOf_35 (by decide) (fun h5 => ?_) (fun h5 => ?_)
      · refine zz_iconst (v := 1) C dX2_turnerOf_42 (by decide) ?_
        refine zz_iload_n C dX2_turnerOf_43 rfl 0 rfl ?_
        refine zz_ishl C dX2_turnerOf_44 ?_
        refine zz_sub (loc' := [(0, .ref (zzad Z 32)), (1, .int p0), (3, .int r3), (4, .int l4)]) [1, 2, 0, 4] rfl ?_
        exact w_X2_turnerOf_45 C p0 k8 hk8 r3 l4 ((1 : Int32) <<< (r3 &&& 31)) l2 σ4
      · refine zz_iconst (v := 0) C dX2_turnerOf_38 (by decide) ?_
        refine zz_goto (tgt := 45) C dX2_turnerOf_39 (by decide) ?_
        refine zz_sub (loc' := [(0, .ref (zzad Z 32)), (1, .int p0), (3, .int r3), (4, .int l4)]) [1, 2, 0, 4] rfl ?_
        exact w_X2_turnerOf_45 C p0 k8 hk8 r3 l4 (0 : Int32) l2 σ4
set_option maxHeartbeats 4000000 in
set_option maxRecDepth 100000 in
theorem w_X2_turnerOf_8 {l : Launch} {Z : zzG} {base : Nat} {PL : Nat → Option (Nat × Int32)} {mm : zzS} {p : Program} {e : Env} {s : State} {m : MethodId} {args : Array Value} {below : List Frame} {meth : Method} {c : Code} (C : zzCx p m meth c s args cX2_turnerOf 5 wsX2_turnerOf RX2 (some .int) Z) (p0 : Int32)   (n : Nat) : ∀ (l2 : Int32)  (l3 : Int32)  (l4 : Int32)  (σ : zzS), zzGO p l e rX2_turnerOf s m args below meth c 5 (zzA base) (zzX Z base PL mm) (zzX Z base PL mm) zzRI rX2_turnerOf.cells rX2_turnerOf.slots (f_X2_turnerOf_8 p0 n l2 l3 l4 σ) σ 0 0 8 [(0, .ref (zzad Z 32)), (1, .int p0), (2, .int l2), (3, .int l3), (4, .int l4)] [] := by
  induction n with
  | zero => exact fun _ _ _ _ r9 s9 h9 => by cases h9
  | succ n ih => exact w_X2_turnerOf_8b C p0 _ ih
set_option maxHeartbeats 4000000 in
set_option maxRecDepth 100000 in
theorem w_X2_turnerOf_e {l : Launch} {Z : zzG} {base : Nat} {PL : Nat → Option (Nat × Int32)} {mm : zzS} {p : Program} {e : Env} {s : State} {m : MethodId} {args : Array Value} {below : List Frame} {meth : Method} {c : Code} (C : zzCx p m meth c s args cX2_turnerOf 5 wsX2_turnerOf RX2 (some .int) Z) (p0 : Int32)  (σ : zzS) : zzGO p l e rX2_turnerOf s m args below meth c 5 (zzA base) (zzX Z base PL mm) (zzX Z base PL mm) zzRI rX2_turnerOf.cells rX2_turnerOf.slots (f_X2_turnerOf p0 σ) σ 0 0 0 [(0, .ref (zzad Z 32)), (1, .int p0)] [] := by
  unfold f_X2_turnerOf
  refine zz_iconst (v := 0) C dX2_turnerOf_0 (by decide) ?_
  refine zz_istore_n (loc' := [(2, .int (0 : Int32)), (0, .ref (zzad Z 32)), (1, .int p0)]) C dX2_turnerOf_1 rfl (by decide) rfl ?_
  refine zz_bipush (v := 9) C dX2_turnerOf_2 (by decide) ?_
  refine zz_istore_n (loc' := [(3, .int (9 : Int32)), (2, .int (0 : Int32)), (0, .ref (zzad Z 32)), (1, .int p0)]) C dX2_turnerOf_4 rfl (by decide) rfl ?_
  refine zz_iconst (v := 0) C dX2_turnerOf_5 (by decide) ?_
  refine zz_istore (loc' := [(4, .int (0 : Int32)), (3, .int (9 : Int32)), (2, .int (0 : Int32)), (0, .ref (zzad Z 32)), (1, .int p0)]) C dX2_turnerOf_6 (by decide) rfl ?_
  refine zz_sub (loc' := [(0, .ref (zzad Z 32)), (1, .int p0), (2, .int (0 : Int32)), (3, .int (9 : Int32)), (4, .int (0 : Int32))]) [3, 4, 2, 1, 0] rfl ?_
  exact w_X2_turnerOf_8 C p0 200 (0 : Int32) (9 : Int32) (0 : Int32) σ
set_option maxHeartbeats 4000000 in
set_option maxRecDepth 100000 in
theorem k_X2_turnerOf {l : Launch} {Z : zzG} {base : Nat} {PL : Nat → Option (Nat × Int32)} {mm : zzS} (p0 : Int32)  (σ : zzS) : zzCT l yX2_turnerOf wsX2_turnerOf rX2_turnerOf (zzA base) Z (zzX Z base PL mm) (zzX Z base PL mm) zzRI [.ref (zzad Z 32), .int p0] (f_X2_turnerOf p0 σ) σ :=
  zzCT_of (cc := cX2_turnerOf) (nL := 5) (ret := (some .int)) (by decide) rfl (Nat.le_of_ble_eq_true rfl) [(0, .ref (zzad Z 32)), (1, .int p0)] rfl (fun p e s m args below meth c C => w_X2_turnerOf_e C p0 σ)
abbrev rX2_waysForAll : Room := { frames := 1, cells := 0, slots := 0, locals := 22 }

set_option maxHeartbeats 4000000 in
set_option maxRecDepth 100000 in
theorem w_X2_waysForAll_28 {l : Launch} {Z : zzG} {base : Nat} {PL : Nat → Option (Nat × Int32)} {mm : zzS} {p : Program} {e : Env} {s : State} {m : MethodId} {args : Array Value} {below : List Frame} {meth : Method} {c : Code} (C : zzCx p m meth c s args cX2_waysForAll 6 wsX2_waysForAll RX2 (some .int) Z)  (k9 : Int32 → Int32 → zzS → Option (Int32 × zzS)) (hk9 : ∀ (l1 : Int32)  (l2 : Int32)  (σ : zzS), zzGO p l e rX2_waysForAll s m args below meth c 6 (zzA base) (zzX Z base PL mm) (zzX Z base PL mm) zzRI rX2_waysForAll.cells rX2_waysForAll.slots (k9 l1 l2 σ) σ 0 0 9 [(0, .ref (zzad Z 32)), (1, .int l1), (2, .int l2)] []) (l1 : Int32)  (l2 : Int32)  (s0 : Int32)  (s1 : Int32)  (σ : zzS) : zzGO p l e rX2_waysForAll s m args below meth c 6 (zzA base) (zzX Z base PL mm) (zzX Z base PL mm) zzRI rX2_waysForAll.cells rX2_waysForAll.slots (f_X2_waysForAll_28 k9 l1 l2 s0 s1 σ) σ 0 0 28 [(0, .ref (zzad Z 32)), (1, .int l1), (2, .int l2)] [.int s0, .int s1, .ref (zzad Z 35)] := by
  unfold f_X2_waysForAll_28
  refine zz_callSN (As := [.ref (zzad Z 35), .int s1, .int s0]) (rest := []) C rfl (k_X11_write 35 (by decide) s1 s0 σ) ⟨va_cnB 3 C.1.2.2.2.2 gX2_waysForAll_X11_write_n37 rfl rfl rfl (C.2.2.2.2 _ (List.mem_of_getElem? (i := 10) rfl)) (C.1.2.2.2.2 _ (List.mem_of_getElem? (i := 5) rfl)) (by decide +kernel) ⟨Nat.le_of_ble_eq_true rfl, Nat.le_of_ble_eq_true rfl⟩, C.1.2.2.2.2 _ (List.mem_of_getElem? (i := 4) rfl), trivial⟩ rfl (Nat.le_of_ble_eq_true rfl) ⟨Nat.zero_le _, Nat.zero_le _⟩ dX2_waysForAll_28 (zz_kV rfl rfl (fun r1 σ2 => ?_))
  refine zz_iincX (d := 1) (locf := fun x3 => [(2, .int x3), (0, .ref (zzad Z 32)), (1, .int l1)]) C dX2_waysForAll_31 (k := 2) rfl (by decide) (by decide) (fun _ => rfl) (fun x3 => ?_)
  refine zz_goto (tgt := 9) C dX2_waysForAll_34 (by decide) ?_
  refine zz_sub (loc' := [(0, .ref (zzad Z 32)), (1, .int l1), (2, .int x3)]) [1, 2, 0] rfl ?_
  exact hk9 l1 x3 σ2
set_option maxHeartbeats 4000000 in
set_option maxRecDepth 100000 in
theorem w_X2_waysForAll_118 {l : Launch} {Z : zzG} {base : Nat} {PL : Nat → Option (Nat × Int32)} {mm : zzS} {p : Program} {e : Env} {s : State} {m : MethodId} {args : Array Value} {below : List Frame} {meth : Method} {c : Code} (C : zzCx p m meth c s args cX2_waysForAll 6 wsX2_waysForAll RX2 (some .int) Z)  (k39 : Int32 → Int32 → zzS → Option (Int32 × zzS)) (hk39 : ∀ (l1 : Int32)  (l2 : Int32)  (σ : zzS), zzGO p l e rX2_waysForAll s m args below meth c 6 (zzA base) (zzX Z base PL mm) (zzX Z base PL mm) zzRI rX2_waysForAll.cells rX2_waysForAll.slots (k39 l1 l2 σ) σ 0 0 39 [(0, .ref (zzad Z 32)), (1, .int l1), (2, .int l2)] []) (k65 : Int32 → Int32 → Int32 → Int32 → zzS → Option (Int32 × zzS)) (hk65 : ∀ (l1 : Int32)  (l2 : Int32)  (l3 : Int32)  (l4 : Int32)  (σ : zzS), zzGO p l e rX2_waysForAll s m args below meth c 6 (zzA base) (zzX Z base PL mm) (zzX Z base PL mm) zzRI rX2_waysForAll.cells rX2_waysForAll.slots (k65 l1 l2 l3 l4 σ) σ 0 0 65 [(0, .ref (zzad Z 32)), (1, .int l1), (2, .int l2), (3, .int l3), (4, .int l4)] []) (l1 : Int32)  (l2 : Int32)  (l3 : Int32)  (l4 : Int32)  (σ : zzS) : zzGO p l e rX2_waysForAll s m args below meth c 6 (zzA base) (zzX Z base PL mm) (zzX Z base PL mm) zzRI rX2_waysForAll.cells rX2_waysForAll.slots (f_X2_waysForAll_118 k39 k65 l1 l2 l3 l4 σ) σ 0 0 118 [(0, .ref (zzad Z 32)), (1, .int l1), (2, .int l2), (3, .int l3), (4, .int l4)] [] := by
  unfold f_X2_waysForAll_118
  refine zz_iincX (d := 1) (locf := fun x1 => [(4, .int x1), (0, .ref (zzad Z 32)), (1, .int l1), (2, .int l2), (3, .int l3)]) C dX2_waysForAll_118 (k := 4) rfl (by decide) (by decide) (fun _ => rfl) (fun x1 => ?_)
  refine zz_goto (tgt := 65) C dX2_waysForAll_121 (by decide) ?_
  refine zz_sub (loc' := [(0, .ref (zzad Z 32)), (1, .int l1), (2, .int l2), (3, .int l3), (4, .int x1)]) [1, 2, 3, 4, 0] rfl ?_
  exact hk65 l1 l2 l3 x1 σ
set_option maxHeartbeats 4000000 in
set_option maxRecDepth 100000 in
theorem w_X2_waysForAll_65b {l : Launch} {Z : zzG} {base : Nat} {PL : Nat → Option (Nat × Int32)} {mm : zzS} {p : Program} {e : Env} {s : State} {m : MethodId} {args : Array Value} {below : List Frame} {meth : Method} {c : Code} (C : zzCx p m meth c s args cX2_waysForAll 6 wsX2_waysForAll RX2 (some .int) Z)  (k39 : Int32 → Int32 → zzS → Option (Int32 × zzS)) (hk39 : ∀ (l1 : Int32)  (l2 : Int32)  (σ : zzS), zzGO p l e rX2_waysForAll s m args below meth c 6 (zzA base) (zzX Z base PL mm) (zzX Z base PL mm) zzRI rX2_waysForAll.cells rX2_waysForAll.slots (k39 l1 l2 σ) σ 0 0 39 [(0, .ref (zzad Z 32)), (1, .int l1), (2, .int l2)] []) (k65 : Int32 → Int32 → Int32 → Int32 → zzS → Option (Int32 × zzS)) (hk65 : ∀ (l1 : Int32)  (l2 : Int32)  (l3 : Int32)  (l4 : Int32)  (σ : zzS), zzGO p l e rX2_waysForAll s m args below meth c 6 (zzA base) (zzX Z base PL mm) (zzX Z base PL mm) zzRI rX2_waysForAll.cells rX2_waysForAll.slots (k65 l1 l2 l3 l4 σ) σ 0 0 65 [(0, .ref (zzad Z 32)), (1, .int l1), (2, .int l2), (3, .int l3), (4, .int l4)] []) (l1 : Int32)  (l2 : Int32)  (l3 : Int32)  (l4 : Int32)  (σ : zzS) : zzGO p l e rX2_waysForAll s m args below meth c 6 (zzA base) (zzX Z base PL mm) (zzX Z base PL mm) zzRI rX2_waysForAll.cells rX2_waysForAll.slots (f_X2_waysForAll_65b k39 k65 l1 l2 l3 l4 σ) σ 0 0 65 [(0, .ref (zzad Z 32)), (1, .int l1), (2, .int l2), (3, .int l3), (4, .int l4)] [] := by
  unfold f_X2_waysForAll_65b
  refine zz_iload C dX2_waysForAll_65 4 rfl ?_
  refine zz_aload_n C dX2_waysForAll_67 rfl 0 rfl ?_
  refine zz_get C zzX_circ (fun _ h9 => List.mem_cons_of_mem _ (List.mem_append_right _ (h9))) rfl 3 (by decide) (List.mem_of_getElem? (i := 1) rfl) (Or.inl rfl) rfl dX2_waysForAll_68 ?_
  refine zz_icmp_ge (tgt := 124) C dX2_waysForAll_71 (by decide) (fun h1 => ?_) (fun h1 => ?_)
  · refine zz_iincX (d := 1) (locf := fun x2 => [(2, .int x2), (0, .ref (zzad Z 32)), (1, .int l1), (3, .int l3), (4, .int l4)]) C dX2_waysForAll_124 (k := 2) rfl (by decide) (by decide) (fun _ => rfl) (fun x2 => ?_)
    refine zz_goto (tgt := 39) C dX2_waysForAll_127 (by decide) ?_
    refine zz_sub (loc' := [(0, .ref (zzad Z 32)), (1, .int l1), (2, .int x2)]) [1, 2, 0] rfl ?_
    exact hk39 l1 x2 σ
  · refine zz_iload_n C dX2_waysForAll_74 rfl 3 rfl ?_
    refine zz_iconst (v := 1) C dX2_waysForAll_75 (by decide) ?_
    refine zz_iload C dX2_waysForAll_76 4 rfl ?_
    refine zz_ishl C dX2_waysForAll_78 ?_
    refine zz_iand C dX2_waysForAll_79 ?_
    refine zz_if_eq (tgt := 118) C dX2_waysForAll_80 (by decide) (fun h3 => ?_) (fun h3 => ?_)
    · refine zz_sub (loc' := [(0, .ref (zzad Z 32)), (1, .int l1), (2, .int l2), (3, .int l3), (4, .int l4)]) [0, 1, 2, 3, 4] rfl ?_
      exact w_X2_waysForAll_118 C k39 hk39 k65 hk65 l1 l2 l3 l4 σ
    · refine zz_iload_n C dX2_waysForAll_83 rfl 2 rfl ?_
      refine zz_iconst (v := 1) C dX2_waysForAll_84 (by decide) ?_
      refine zz_iload C dX2_waysForAll_85 4 rfl ?_
      refine zz_ishl C dX2_waysForAll_87 ?_
      refine zz_ior C dX2_waysForAll_88 ?_
      refine zz_istoreX (locf := fun x4 => [(5, .int x4), (0, .ref (zzad Z 32)), (1, .int l1), (2, .int l2), (3, .int l3), (4, .int l4)]) C dX2_waysForAll_89 (by decide) (fun _ => rfl) (fun x4 => ?_)
      refine zz_aload_n C dX2_waysForAll_91 rfl 1 rfl ?_
      refine zz_get C zzX_circ (fun _ h9 => List.mem_cons_of_mem _ (List.mem_append_right _ (h9))) rfl 2 (by decide) (List.mem_of_getElem? (i := 2) rfl) (Or.inl rfl) rfl dX2_waysForAll_92 ?_
      refine zz_iload C dX2_waysForAll_95 0 rfl ?_
      refine zz_aload_n C dX2_waysForAll_97 rfl 1 rfl ?_
      refine zz_get C zzX_circ (fun _ h9 => List.mem_cons_of_mem _ (List.mem_append_right _ (h9))) rfl 2 (by decide) (List.mem_of_getElem? (i := 2) rfl) (Or.inl rfl) rfl dX2_waysForAll_98 ?_
      refine zz_iload C dX2_waysForAll_101 0 rfl ?_
      refine zz_callSN (As := [.ref (zzad Z 35), .int x4]) (rest := [.int x4, .ref (zzad Z 35)]) C rfl (k_X11_read 35 (by decide) x4 σ) ⟨va_cnB 2 C.1.2.2.2.2 gX2_waysForAll_X11_read_n53 rfl rfl rfl (C.2.2.2.2 _ (List.mem_of_getElem? (i := 11) rfl)) (C.1.2.2.2.2 _ (List.mem_of_getElem? (i := 5) rfl)) (by decide +kernel) ⟨Nat.le_of_ble_eq_true rfl, Nat.le_of_ble_eq_true rfl⟩, C.1.2.2.2.2 _ (List.mem_of_getElem? (i := 14) rfl), trivial⟩ rfl (Nat.le_of_ble_eq_true rfl) ⟨Nat.zero_le _, Nat.zero_le _⟩ dX2_waysForAll_103 (zz_kI rfl rfl (fun r5 σ6 => ?_))
      refine zz_aload_n C dX2_waysForAll_106 rfl 1 rfl ?_
      refine zz_get C zzX_circ (fun _ h9 => List.mem_cons_of_mem _ (List.mem_append_right _ (h9))) rfl 2 (by decide) (List.mem_of_getElem? (i := 2) rfl) (Or.inl rfl) rfl dX2_waysForAll_107 ?_
      refine zz_iload_n C dX2_waysForAll_110 rfl 3 rfl ?_
      refine zz_callSN (As := [.ref (zzad Z 35), .int l2]) (rest := [.int r5, .int x4, .ref (zzad Z 35)]) C rfl (k_X11_read 35 (by decide) l2 σ6) ⟨va_cnB 2 C.1.2.2.2.2 gX2_waysForAll_X11_read_n53 rfl rfl rfl (C.2.2.2.2 _ (List.mem_of_getElem? (i := 11) rfl)) (C.1.2.2.2.2 _ (List.mem_of_getElem? (i := 5) rfl)) (by decide +kernel) ⟨Nat.le_of_ble_eq_true rfl, Nat.le_of_ble_eq_true rfl⟩, C.1.2.2.2.2 _ (List.mem_of_getElem? (i := 14) rfl), trivial⟩ rfl (Nat.le_of_ble_eq_true rfl) ⟨Nat.zero_le _, Nat.zero_le _⟩ dX2_waysForAll_111 (zz_kI rfl rfl (fun r7 σ8 => ?_))
      refine zz_iadd C dX2_waysForAll_114 ?_
      refine zz_callSN (As := [.ref (zzad Z 35), .int x4, .int (r5 + r7)]) (rest := []) C rfl (k_X11_write 35 (by decide) x4 (r5 + r7) σ8) ⟨va_cnB 3 C.1.2.2.2.2 gX2_waysForAll_X11_write_n37 rfl rfl rfl (C.2.2.2.2 _ (List.mem_of_getElem? (i := 10) rfl)) (C.1.2.2.2.2 _ (List.mem_of_getElem? (i := 5) rfl)) (by decide +kernel) ⟨Nat.le_of_ble_eq_true rfl, Nat.le_of_ble_eq_true rfl⟩, C.1.2.2.2.2 _ (List.mem_of_getElem? (i := 4) rfl), trivial⟩ rfl (Nat.le_of_ble_eq_true rfl) ⟨Nat.zero_le _, Nat.zero_le _⟩ dX2_waysForAll_115 (zz_kV rfl rfl (fun r9 σ10 => ?_))
      refine zz_sub (loc' := [(0, .ref (zzad Z 32)), (1, .int l1), (2, .int l2), (3, .int l3), (4, .int l4)]) [1, 2, 3, 4, 5] rfl ?_
      exact w_X2_waysForAll_118 C k39 hk39 k65 hk65 l1 l2 l3 l4 σ10
set_option maxHeartbeats 4000000 in
set_option maxRecDepth 100000 in
theorem w_X2_waysForAll_65 {l : Launch} {Z : zzG} {base : Nat} {PL : Nat → Option (Nat × Int32)} {mm : zzS} {p : Program} {e : Env} {s : State} {m : MethodId} {args : Array Value} {below : List Frame} {meth : Method} {c : Code} (C : zzCx p m meth c s args cX2_waysForAll 6 wsX2_waysForAll RX2 (some .int) Z)  (k39 : Int32 → Int32 → zzS → Option (Int32 × zzS)) (hk39 : ∀ (l1 : Int32)  (l2 : Int32)  (σ : zzS), zzGO p l e rX2_waysForAll s m args below meth c 6 (zzA base) (zzX Z base PL mm) (zzX Z base PL mm) zzRI rX2_waysForAll.cells rX2_waysForAll.slots (k39 l1 l2 σ) σ 0 0 39 [(0, .ref (zzad Z 32)), (1, .int l1), (2, .int l2)] []) (n : Nat) : ∀ (l1 : Int32)  (l2 : Int32)  (l3 : Int32)  (l4 : Int32)  (σ : zzS), zzGO p l e rX2_waysForAll s m args below meth c 6 (zzA base) (zzX Z base PL mm) (zzX Z base PL mm) zzRI rX2_waysForAll.cells rX2_waysForAll.slots (f_X2_waysForAll_65 k39 n l1 l2 l3 l4 σ) σ 0 0 65 [(0, .ref (zzad Z 32)), (1, .int l1), (2, .int l2), (3, .int l3), (4, .int l4)] [] := by
  induction n with
  | zero => exact fun _ _ _ _ _ r9 s9 h9 => by cases h9
  | succ n ih => exact w_X2_waysForAll_65b C k39 hk39 _ ih
set_option maxHeartbeats 4000000 in
set_option maxRecDepth 100000 in
theorem w_X2_waysForAll_39b {l : Launch} {Z : zzG} {base : Nat} {PL : Nat → Option (Nat × Int32)} {mm : zzS} {p : Program} {e : Env} {s : State} {m : MethodId} {args : Array Value} {below : List Frame} {meth : Method} {c : Code} (C : zzCx p m meth c s args cX2_waysForAll 6 wsX2_waysForAll RX2 (some .int) Z)   (k39 : Int32 → Int32 → zzS → Option (Int32 × zzS)) (hk39 : ∀ (l1 : Int32)  (l2 : Int32)  (σ : zzS), zzGO p l e rX2_waysForAll s m args below meth c 6 (zzA base) (zzX Z base PL mm) (zzX Z base PL mm) zzRI rX2_waysForAll.cells rX2_waysForAll.slots (k39 l1 l2 σ) σ 0 0 39 [(0, .ref (zzad Z 32)), (1, .int l1), (2, .int l2)] []) (l1 : Int32)  (l2 : Int32)  (σ : zzS) : zzGO p l e rX2_waysForAll s m args below meth c 6 (zzA base) (zzX Z base PL mm) (zzX Z base PL mm) zzRI rX2_waysForAll.cells rX2_waysForAll.slots (f_X2_waysForAll_39b k39 l1 l2 σ) σ 0 0 39 [(0, .ref (zzad Z 32)), (1, .int l1), (2, .int l2)] [] := by
  unfold f_X2_waysForAll_39b
  refine zz_iload_n C dX2_waysForAll_39 rfl 2 rfl ?_
  refine zz_iload_n C dX2_waysForAll_40 rfl 1 rfl ?_
  refine zz_iconst (v := 1) C dX2_waysForAll_41 (by decide) ?_
  refine zz_isub C dX2_waysForAll_42 ?_
  refine zz_icmp_ge (tgt := 130) C dX2_waysForAll_43 (by decide) (fun h1 => ?_) (fun h1 => ?_)
  · refine zz_aload_n C dX2_waysForAll_130 rfl 0 rfl ?_
    refine zz_get C zzX_circ (fun _ h9 => List.mem_cons_of_mem _ (List.mem_append_right _ (h9))) rfl 2 (by decide) (List.mem_of_getElem? (i := 2) rfl) (Or.inl rfl) rfl dX2_waysForAll_131 ?_
    refine zz_iload_n C dX2_waysForAll_134 rfl 1 rfl ?_
    refine zz_iconst (v := 1) C dX2_waysForAll_135 (by decide) ?_
    refine zz_isub C dX2_waysForAll_136 ?_
    refine zz_callSN (As := [.ref (zzad Z 35), .int (l1 - (1 : Int32))]) (rest := []) C rfl (k_X11_read 35 (by decide) (l1 - (1 : Int32)) σ) ⟨va_cnB 2 C.1.2.2.2.2 gX2_waysForAll_X11_read_n53 rfl rfl rfl (C.2.2.2.2 _ (List.mem_of_getElem? (i := 11) rfl)) (C.1.2.2.2.2 _ (List.mem_of_getElem? (i := 5) rfl)) (by decide +kernel) ⟨Nat.le_of_ble_eq_true rfl, Nat.le_of_ble_eq_true rfl⟩, C.1.2.2.2.2 _ (List.mem_of_getElem? (i := 14) rfl), trivial⟩ rfl (Nat.le_of_ble_eq_true rfl) ⟨Nat.zero_le _, Nat.zero_le _⟩ dX2_waysForAll_137 (zz_kI rfl rfl (fun r2 σ3 => ?_))
    exact zz_iret C rfl rfl (fun _ h9 => h9) (Nat.zero_le _) (Nat.zero_le _) dX2_waysForAll_140
  · refine zz_aload_n C dX2_waysForAll_46 rfl 0 rfl ?_
    refine zz_get C zzX_circ (fun _ h9 => List.mem_cons_of_mem _ (List.mem_append_right _ (h9))) rfl 0 (by decide) (List.mem_of_getElem? (i := 3) rfl) (Or.inl rfl) rfl dX2_waysForAll_47 ?_
    refine zz_iload_n C dX2_waysForAll_50 rfl 2 rfl ?_
    refine zz_callS (As := [.int l2]) (rest := [.ref (zzad Z 33)]) C rfl (k_J6_bitCount_0f7a4 l2 σ) (va_cwS 1 C.1.2.2.2.2 gX2_waysForAll_J6_bitCount_0f7a4 rfl rfl rfl (by decide +kernel) ⟨Nat.le_of_ble_eq_true rfl, Nat.le_of_ble_eq_true rfl⟩) rfl (Nat.le_of_ble_eq_true rfl) ⟨Nat.zero_le _, Nat.zero_le _⟩ dX2_waysForAll_51 (zz_kI rfl rfl (fun r4 σ5 => ?_))
    refine zz_callSN (As := [.ref (zzad Z 33), .int r4]) (rest := []) C rfl (k_X11_read 33 (by decide) r4 σ5) ⟨va_cnB 2 C.1.2.2.2.2 gX2_waysForAll_X11_read_n53 rfl rfl rfl (C.2.2.2.2 _ (List.mem_of_getElem? (i := 11) rfl)) (C.1.2.2.2.2 _ (List.mem_of_getElem? (i := 5) rfl)) (by decide +kernel) ⟨Nat.le_of_ble_eq_true rfl, Nat.le_of_ble_eq_true rfl⟩, C.1.2.2.2.2 _ (List.mem_of_getElem? (i := 14) rfl), trivial⟩ rfl (Nat.le_of_ble_eq_true rfl) ⟨Nat.zero_le _, Nat.zero_le _⟩ dX2_waysForAll_54 (zz_kI rfl rfl (fun r6 σ7 => ?_))
    refine zz_iload_n C dX2_waysForAll_57 rfl 2 rfl ?_
    refine zz_iconst (v := -1) C dX2_waysForAll_58 (by decide) ?_
    refine zz_ixor C dX2_waysForAll_59 ?_
    refine zz_iand C dX2_waysForAll_60 ?_
    refine zz_istoreX_n (locf := fun x8 => [(3, .int x8), (0, .ref (zzad Z 32)), (1, .int l1), (2, .int l2)]) C dX2_waysForAll_61 rfl (by decide) (fun _ => rfl) (fun x8 => ?_)
    refine zz_iconst (v := 0) C dX2_waysForAll_62 (by decide) ?_
    refine zz_istore (loc' := [(4, .int (0 : Int32)), (3, .int x8), (0, .ref (zzad Z 32)), (1, .int l1), (2, .int l2)]) C dX2_waysForAll_63 (by decide) rfl ?_
    refine zz_sub (loc' := [(0, .ref (zzad Z 32)), (1, .int l1), (2, .int l2), (3, .int x8), (4, .int (0 : Int32))]) [2, 3, 4, 1, 0] rfl ?_
    exact w_X2_waysForAll_65 C k39 hk39 200 l1 l2 x8 (0 : Int32) σ7
set_option maxHeartbeats 4000000 in
set_option maxRecDepth 100000 in
theorem w_X2_waysForAll_39 {l : Launch} {Z : zzG} {base : Nat} {PL : Nat → Option (Nat × Int32)} {mm : zzS} {p : Program} {e : Env} {s : State} {m : MethodId} {args : Array Value} {below : List Frame} {meth : Method} {c : Code} (C : zzCx p m meth c s args cX2_waysForAll 6 wsX2_waysForAll RX2 (some .int) Z)   (n : Nat) : ∀ (l1 : Int32)  (l2 : Int32)  (σ : zzS), zzGO p l e rX2_waysForAll s m args below meth c 6 (zzA base) (zzX Z base PL mm) (zzX Z base PL mm) zzRI rX2_waysForAll.cells rX2_waysForAll.slots (f_X2_waysForAll_39 n l1 l2 σ) σ 0 0 39 [(0, .ref (zzad Z 32)), (1, .int l1), (2, .int l2)] [] := by
  induction n with
  | zero => exact fun _ _ _ r9 s9 h9 => by cases h9
  | succ n ih => exact w_X2_waysForAll_39b C _ ih
set_option maxHeartbeats 4000000 in
set_option maxRecDepth 100000 in
theorem w_X2_waysForAll_9b {l : Launch} {Z : zzG} {base : Nat} {PL : Nat → Option (Nat × Int32)} {mm : zzS} {p : Program} {e : Env} {s : State} {m : MethodId} {args : Array Value} {below : List Frame} {meth : Method} {c : Code} (C : zzCx p m meth c s args cX2_waysForAll 6 wsX2_waysForAll RX2 (some .int) Z)   (k9 : Int32 → Int32 → zzS → Option (Int32 × zzS)) (hk9 : ∀ (l1 : Int32)  (l2 : Int32)  (σ : zzS), zzGO p l e rX2_waysForAll s m args below meth c 6 (zzA base) (zzX Z base PL mm) (zzX Z base PL mm) zzRI rX2_waysForAll.cells rX2_waysForAll.slots (k9 l1 l2 σ) σ 0 0 9 [(0, .ref (zzad Z 32)), (1, .int l1), (2, .int l2)] []) (l1 : Int32)  (l2 : Int32)  (σ : zzS) : zzGO p l e rX2_waysForAll s m args below meth c 6 (zzA base) (zzX Z base PL mm) (zzX Z base PL mm) zzRI rX2_waysForAll.cells rX2_waysForAll.slots (f_X2_waysForAll_9b k9 l1 l2 σ) σ 0 0 9 [(0, .ref (zzad Z 32)), (1, .int l1), (2, .int l2)] [] := by
  unfold f_X2_waysForAll_9b
  refine zz_iload_n C dX2_waysForAll_9 rfl 2 rfl ?_
  refine zz_iload_n C dX2_waysForAll_10 rfl 1 rfl ?_
  refine zz_icmp_ge (tgt := 37) C dX2_waysForAll_11 (by decide) (fun h1 => ?_) (fun h1 => ?_)
  · refine zz_iconst (v := 0) C dX2_waysForAll_37 (by decide) ?_
    refine zz_istore_n (loc' := [(2, .int (0 : Int32)), (0, .ref (zzad Z 32)), (1, .int l1)]) C dX2_waysForAll_38 rfl (by decide) rfl ?_
    refine zz_sub (loc' := [(0, .ref (zzad Z 32)), (1, .int l1), (2, .int (0 : Int32))]) [1, 2, 0] rfl ?_
    exact w_X2_waysForAll_39 C 200 l1 (0 : Int32) σ
  · refine zz_aload_n C dX2_waysForAll_14 rfl 0 rfl ?_
    refine zz_get C zzX_circ (fun _ h9 => List.mem_cons_of_mem _ (List.mem_append_right _ (h9))) rfl 2 (by decide) (List.mem_of_getElem? (i := 2) rfl) (Or.inl rfl) rfl dX2_waysForAll_15 ?_
    refine zz_iload_n C dX2_waysForAll_18 rfl 2 rfl ?_
    refine zz_iload_n C dX2_waysForAll_19 rfl 2 rfl ?_
    refine zz_if_ne (tgt := 27) C dX2_waysForAll_20 (by decide) (fun h2 => ?_) (fun h2 => ?_)
    · refine zz_iconst (v := 0) C dX2_waysForAll_27 (by decide) ?_
      refine zz_sub (loc' := [(0, .ref (zzad Z 32)), (1, .int l1), (2, .int l2)]) [0, 1, 2] rfl ?_
      exact w_X2_waysForAll_28 C k9 hk9 l1 l2 (0 : Int32) l2 σ
    · refine zz_iconst (v := 1) C dX2_waysForAll_23 (by decide) ?_
      refine zz_goto (tgt := 28) C dX2_waysForAll_24 (by decide) ?_
      refine zz_sub (loc' := [(0, .ref (zzad Z 32)), (1, .int l1), (2, .int l2)]) [0, 1, 2] rfl ?_
      exact w_X2_waysForAll_28 C k9 hk9 l1 l2 (1 : Int32) l2 σ
set_option maxHeartbeats 4000000 in
set_option maxRecDepth 100000 in
theorem w_X2_waysForAll_9 {l : Launch} {Z : zzG} {base : Nat} {PL : Nat → Option (Nat × Int32)} {mm : zzS} {p : Program} {e : Env} {s : State} {m : MethodId} {args : Array Value} {below : List Frame} {meth : Method} {c : Code} (C : zzCx p m meth c s args cX2_waysForAll 6 wsX2_waysForAll RX2 (some .int) Z)   (n : Nat) : ∀ (l1 : Int32)  (l2 : Int32)  (σ : zzS), zzGO p l e rX2_waysForAll s m args below meth c 6 (zzA base) (zzX Z base PL mm) (zzX Z base PL mm) zzRI rX2_waysForAll.cells rX2_waysForAll.slots (f_X2_waysForAll_9 n l1 l2 σ) σ 0 0 9 [(0, .ref (zzad Z 32)), (1, .int l1), (2, .int l2)] [] := by
  induction n with
  | zero => exact fun _ _ _ r9 s9 h9 => by cases h9
  | succ n ih => exact w_X2_waysForAll_9b C _ ih
set_option maxHeartbeats 4000000 in
set_option maxRecDepth 100000 in
theorem w_X2_waysForAll_e {l : Launch} {Z : zzG} {base : Nat} {PL : Nat → Option (Nat × Int32)} {mm : zzS} {p : Program} {e : Env} {s : State} {m : MethodId} {args : Array Value} {below : List Frame} {meth : Method} {c : Code} (C : zzCx p m meth c s args cX2_waysForAll 6 wsX2_waysForAll RX2 (some .int) Z)  (σ : zzS) : zzGO p l e rX2_waysForAll s m args below meth c 6 (zzA base) (zzX Z base PL mm) (zzX Z base PL mm) zzRI rX2_waysForAll.cells rX2_waysForAll.slots (f_X2_waysForAll σ) σ 0 0 0 [(0, .ref (zzad Z 32))] [] := by
  unfold f_X2_waysForAll
  refine zz_iconst (v := 1) C dX2_waysForAll_0 (by decide) ?_
  refine zz_aload_n C dX2_waysForAll_1 rfl 0 rfl ?_
  refine zz_get C zzX_circ (fun _ h9 => List.mem_cons_of_mem _ (List.mem_append_right _ (h9))) rfl 3 (by decide) (List.mem_of_getElem? (i := 1) rfl) (Or.inl rfl) rfl dX2_waysForAll_2 ?_
  refine zz_ishl C dX2_waysForAll_5 ?_
  refine zz_istoreX_n (locf := fun x1 => [(1, .int x1), (0, .ref (zzad Z 32))]) C dX2_waysForAll_6 rfl (by decide) (fun _ => rfl) (fun x1 => ?_)
  refine zz_iconst (v := 0) C dX2_waysForAll_7 (by decide) ?_
  refine zz_istore_n (loc' := [(2, .int (0 : Int32)), (1, .int x1), (0, .ref (zzad Z 32))]) C dX2_waysForAll_8 rfl (by decide) rfl ?_
  refine zz_sub (loc' := [(0, .ref (zzad Z 32)), (1, .int x1), (2, .int (0 : Int32))]) [2, 1, 0] rfl ?_
  exact w_X2_waysForAll_9 C 200 x1 (0 : Int32) σ
set_option maxHeartbeats 4000000 in
set_option maxRecDepth 100000 in
theorem k_X2_waysForAll {l : Launch} {Z : zzG} {base : Nat} {PL : Nat → Option (Nat × Int32)} {mm : zzS}  (σ : zzS) : zzCT l yX2_waysForAll wsX2_waysForAll rX2_waysForAll (zzA base) Z (zzX Z base PL mm) (zzX Z base PL mm) zzRI [.ref (zzad Z 32)] (f_X2_waysForAll σ) σ :=
  zzCT_of (cc := cX2_waysForAll) (nL := 6) (ret := (some .int)) (by decide) rfl (Nat.le_of_ble_eq_true rfl) [(0, .ref (zzad Z 32))] rfl (fun p e s m args below meth c C => w_X2_waysForAll_e C σ)
abbrev rX7_beginAnew : Room := { frames := 0, cells := 0, slots := 0, locals := 0 }

set_option maxHeartbeats 4000000 in
set_option maxRecDepth 100000 in
theorem w_X7_beginAnew_12b {l : Launch} {Z : zzG} {base : Nat} {PL : Nat → Option (Nat × Int32)} {mm : zzS} {p : Program} {e : Env} {s : State} {m : MethodId} {args : Array Value} {below : List Frame} {meth : Method} {c : Code} (C : zzCx p m meth c s args cX7_beginAnew 4 wsX7_beginAnew RX7 none Z) (r0 : Nat) (hr0 : zzrow r0) (p0 : Int32)  (p1 : Int32)   (k12 : Int32 → zzS → Option (Unit × zzS)) (hk12 : ∀ (l3 : Int32)  (σ : zzS), zzGO p l e rX7_beginAnew s m args below meth c 4 (zzA base) (zzX Z base PL mm) (zzX Z base PL mm) zzRV rX7_beginAnew.cells rX7_beginAnew.slots (k12 l3 σ) σ 0 0 12 [(0, .ref (zzad Z r0)), (3, .int l3)] []) (l3 : Int32)  (σ : zzS) : zzGO p l e rX7_beginAnew s m args below meth c 4 (zzA base) (zzX Z base PL mm) (zzX Z base PL mm) zzRV rX7_beginAnew.cells rX7_beginAnew.slots (f_X7_beginAnew_12b k12 r0 p0 p1 l3 σ) σ 0 0 12 [(0, .ref (zzad Z r0)), (3, .int l3)] [] := by
  unfold f_X7_beginAnew_12b
  refine zz_iload_n C dX7_beginAnew_12 rfl 1 rfl ?_
  refine zz_aload_n C dX7_beginAnew_13 rfl 0 rfl ?_
  refine zz_get C (zzX_row hr0) (fun _ h9 => List.mem_cons_of_mem _ (List.mem_append_right _ (h9))) rfl 0 (by decide) (List.mem_of_getElem? (i := 3) rfl) (Or.inl rfl) rfl dX7_beginAnew_14 ?_
  refine zz_alen (v := (Int32.ofNat (zzlen (r0 + 1)))) C (zzX_arr (zzXarr1 hr0)) rfl rfl dX7_beginAnew_17 ?_
  refine zz_icmp_ge (tgt := 34) C dX7_beginAnew_18 (by decide) (fun h1 => ?_) (fun h1 => ?_)
  · exact zz_vret C rfl rfl (fun _ h9 => h9) (Nat.zero_le _) (Nat.zero_le _) dX7_beginAnew_34
  · refine zz_aload_n C dX7_beginAnew_21 rfl 0 rfl ?_
    refine zz_get C (zzX_row hr0) (fun _ h9 => List.mem_cons_of_mem _ (List.mem_append_right _ (h9))) rfl 0 (by decide) (List.mem_of_getElem? (i := 3) rfl) (Or.inl rfl) rfl dX7_beginAnew_22 ?_
    refine zz_iload_n C dX7_beginAnew_25 rfl 1 rfl ?_
    refine zz_iconst (v := 0) C dX7_beginAnew_26 (by decide) ?_
    refine zz_gd (fun h2 => ?_)
    refine zz_iast C (zzX_arr (zzXarr1 hr0)) h2 (zzX_uarr (zzXarr1 hr0)) (zzA_X (zzXarr_lt (zzXarr1 hr0))) dX7_beginAnew_27 ?_
    refine zz_ltS (fun σ3 => ?_)
    refine zz_iincX (d := 1) (locf := fun x4 => [(3, .int x4), (0, .ref (zzad Z r0))]) C dX7_beginAnew_28 (k := 1) rfl (by decide) (by decide) (fun _ => rfl) (fun x4 => ?_)
    refine zz_goto (tgt := 12) C dX7_beginAnew_31 (by decide) ?_
    refine zz_sub (loc' := [(0, .ref (zzad Z r0)), (3, .int x4)]) [1, 0] rfl ?_
    exact hk12 x4 σ3
set_option maxHeartbeats 4000000 in
set_option maxRecDepth 100000 in
theorem w_X7_beginAnew_12 {l : Launch} {Z : zzG} {base : Nat} {PL : Nat → Option (Nat × Int32)} {mm : zzS} {p : Program} {e : Env} {s : State} {m : MethodId} {args : Array Value} {below : List Frame} {meth : Method} {c : Code} (C : zzCx p m meth c s args cX7_beginAnew 4 wsX7_beginAnew RX7 none Z) (r0 : Nat) (hr0 : zzrow r0) (p0 : Int32)  (p1 : Int32)   (n : Nat) : ∀ (l3 : Int32)  (σ : zzS), zzGO p l e rX7_beginAnew s m args below meth c 4 (zzA base) (zzX Z base PL mm) (zzX Z base PL mm) zzRV rX7_beginAnew.cells rX7_beginAnew.slots (f_X7_beginAnew_12 r0 p0 p1 n l3 σ) σ 0 0 12 [(0, .ref (zzad Z r0)), (3, .int l3)] [] := by
  induction n with
  | zero => exact fun _ _ r9 s9 h9 => by cases h9
  | succ n ih => exact w_X7_beginAnew_12b C r0 hr0 p0 p1 _ ih
set_option maxHeartbeats 4000000 in
set_option maxRecDepth 100000 in
theorem w_X7_beginAnew_e {l : Launch} {Z : zzG} {base : Nat} {PL : Nat → Option (Nat × Int32)} {mm : zzS} {p : Program} {e : Env} {s : State} {m : MethodId} {args : Array Value} {below : List Frame} {meth : Method} {c : Code} (C : zzCx p m meth c s args cX7_beginAnew 4 wsX7_beginAnew RX7 none Z) (r0 : Nat) (hr0 : zzrow r0) (p0 : Int32)  (p1 : Int32)  (σ : zzS) : zzGO p l e rX7_beginAnew s m args below meth c 4 (zzA base) (zzX Z base PL mm) (zzX Z base PL mm) zzRV rX7_beginAnew.cells rX7_beginAnew.slots (f_X7_beginAnew r0 p0 p1 σ) σ 0 0 0 [(0, .ref (zzad Z r0)), (1, .int p0), (2, .int p1)] [] := by
  unfold f_X7_beginAnew
  refine zz_aload_n C dX7_beginAnew_0 rfl 0 rfl ?_
  refine zz_iload_n C dX7_beginAnew_1 rfl 1 rfl ?_
  refine zz_put (ty := .int) C (zzX_row hr0) (fun _ h9 => List.mem_cons_of_mem _ (List.mem_append_right _ (h9))) rfl 1 (by decide) (List.mem_of_getElem? (i := 1) rfl) rfl tyX7_ok nmX7 rfl (by decide +kernel) rfl rfl (Nat.le_of_ble_eq_true rfl) (zzX_urow hr0 (by decide)) (zzA_X (zzrow_lt' hr0)) dX7_beginAnew_2 ?_
  refine zz_ltS (fun σ1 => ?_)
  refine zz_aload_n C dX7_beginAnew_5 rfl 0 rfl ?_
  refine zz_iload_n C dX7_beginAnew_6 rfl 2 rfl ?_
  refine zz_put (ty := .int) C (zzX_row hr0) (fun _ h9 => List.mem_cons_of_mem _ (List.mem_append_right _ (h9))) rfl 2 (by decide) (List.mem_of_getElem? (i := 2) rfl) rfl tyX7_ok nmX7 rfl (by decide +kernel) rfl rfl (Nat.le_of_ble_eq_true rfl) (zzX_urow hr0 (by decide)) (zzA_X (zzrow_lt' hr0)) dX7_beginAnew_7 ?_
  refine zz_ltS (fun σ2 => ?_)
  refine zz_iconst (v := 0) C dX7_beginAnew_10 (by decide) ?_
  refine zz_istore_n (loc' := [(3, .int (0 : Int32)), (0, .ref (zzad Z r0)), (1, .int p0), (2, .int p1)]) C dX7_beginAnew_11 rfl (by decide) rfl ?_
  refine zz_sub (loc' := [(0, .ref (zzad Z r0)), (3, .int (0 : Int32))]) [1, 0] rfl ?_
  exact w_X7_beginAnew_12 C r0 hr0 p0 p1 200 (0 : Int32) σ2
set_option maxHeartbeats 4000000 in
set_option maxRecDepth 100000 in
theorem k_X7_beginAnew {l : Launch} {Z : zzG} {base : Nat} {PL : Nat → Option (Nat × Int32)} {mm : zzS} (r0 : Nat) (hr0 : zzrow r0) (p0 : Int32)  (p1 : Int32)  (σ : zzS) : zzCT l yX7_beginAnew wsX7_beginAnew rX7_beginAnew (zzA base) Z (zzX Z base PL mm) (zzX Z base PL mm) zzRV [.ref (zzad Z r0), .int p0, .int p1] (f_X7_beginAnew r0 p0 p1 σ) σ :=
  zzCT_of (cc := cX7_beginAnew) (nL := 4) (ret := none) (by decide) rfl (Nat.le_of_ble_eq_true rfl) [(0, .ref (zzad Z r0)), (1, .int p0), (2, .int p1)] rfl (fun p e s m args below meth c C => w_X7_beginAnew_e C r0 hr0 p0 p1 σ)
abbrev rX7_has : Room := { frames := 0, cells := 0, slots := 0, locals := 0 }

set_option maxHeartbeats 4000000 in
set_option maxRecDepth 100000 in
theorem w_X7_has_e {l : Launch} {Z : zzG} {base : Nat} {PL : Nat → Option (Nat × Int32)} {mm : zzS} {p : Program} {e : Env} {s : State} {m : MethodId} {args : Array Value} {below : List Frame} {meth : Method} {c : Code} (C : zzCx p m meth c s args cX7_has 3 wsX7_has RX7 (some .boolean) Z) (r0 : Nat) (hr0 : zzrow r0) (p0 : Int32)  (p1 : Int32)  (σ : zzS) : zzGO p l e rX7_has s m args below meth c 3 (zzA base) (zzX Z base PL mm) (zzX Z base PL mm) zzRI rX7_has.cells rX7_has.slots (f_X7_has r0 p0 p1 σ) σ 0 0 0 [(0, .ref (zzad Z r0)), (1, .int p0), (2, .int p1)] [] := by
  unfold f_X7_has
  refine zz_iload_n C dX7_has_0 rfl 1 rfl ?_
  refine zz_if_lt (tgt := 30) C dX7_has_1 (by decide) (fun h1 => ?_) (fun h1 => ?_)
  · refine zz_iconst (v := 0) C dX7_has_30 (by decide) ?_
    exact zz_zret C rfl (Or.inl rfl) rfl (fun _ h9 => h9) (Nat.zero_le _) (Nat.zero_le _) dX7_has_31
  · refine zz_iload_n C dX7_has_4 rfl 2 rfl ?_
    refine zz_if_lt (tgt := 30) C dX7_has_5 (by decide) (fun h2 => ?_) (fun h2 => ?_)
    · refine zz_iconst (v := 0) C dX7_has_30 (by decide) ?_
      exact zz_zret C rfl (Or.inl rfl) rfl (fun _ h9 => h9) (Nat.zero_le _) (Nat.zero_le _) dX7_has_31
    · refine zz_iload_n C dX7_has_8 rfl 2 rfl ?_
      refine zz_aload_n C dX7_has_9 rfl 0 rfl ?_
      refine zz_get C (zzX_row hr0) (fun _ h9 => List.mem_cons_of_mem _ (List.mem_append_right _ (h9))) rfl 2 (by decide) (List.mem_of_getElem? (i := 1) rfl) (Or.inl rfl) rfl dX7_has_10 ?_
      refine zz_icmp_gt (tgt := 30) C dX7_has_13 (by decide) (fun h3 => ?_) (fun h3 => ?_)
      · refine zz_iconst (v := 0) C dX7_has_30 (by decide) ?_
        exact zz_zret C rfl (Or.inl rfl) rfl (fun _ h9 => h9) (Nat.zero_le _) (Nat.zero_le _) dX7_has_31
      · refine zz_iload_n C dX7_has_16 rfl 1 rfl ?_
        refine zz_aload_n C dX7_has_17 rfl 0 rfl ?_
        refine zz_get C (zzX_row hr0) (fun _ h9 => List.mem_cons_of_mem _ (List.mem_append_right _ (h9))) rfl 2 (by decide) (List.mem_of_getElem? (i := 1) rfl) (Or.inl rfl) rfl dX7_has_18 ?_
        refine zz_iload_n C dX7_has_21 rfl 2 rfl ?_
        refine zz_isub C dX7_has_22 ?_
        refine zz_icmp_gt (tgt := 30) C dX7_has_23 (by decide) (fun h4 => ?_) (fun h4 => ?_)
        · refine zz_iconst (v := 0) C dX7_has_30 (by decide) ?_
          exact zz_zret C rfl (Or.inl rfl) rfl (fun _ h9 => h9) (Nat.zero_le _) (Nat.zero_le _) dX7_has_31
        · refine zz_iconst (v := 1) C dX7_has_26 (by decide) ?_
          refine zz_goto (tgt := 31) C dX7_has_27 (by decide) ?_
          exact zz_zret C rfl (Or.inr rfl) rfl (fun _ h9 => h9) (Nat.zero_le _) (Nat.zero_le _) dX7_has_31
set_option maxHeartbeats 4000000 in
set_option maxRecDepth 100000 in
theorem k_X7_has {l : Launch} {Z : zzG} {base : Nat} {PL : Nat → Option (Nat × Int32)} {mm : zzS} (r0 : Nat) (hr0 : zzrow r0) (p0 : Int32)  (p1 : Int32)  (σ : zzS) : zzCT l yX7_has wsX7_has rX7_has (zzA base) Z (zzX Z base PL mm) (zzX Z base PL mm) zzRI [.ref (zzad Z r0), .int p0, .int p1] (f_X7_has r0 p0 p1 σ) σ :=
  zzCT_of (cc := cX7_has) (nL := 3) (ret := (some .boolean)) (by decide) rfl (Nat.le_of_ble_eq_true rfl) [(0, .ref (zzad Z r0)), (1, .int p0), (2, .int p1)] rfl (fun p e s m args below meth c C => w_X7_has_e C r0 hr0 p0 p1 σ)
abbrev rX7_set : Room := { frames := 1, cells := 0, slots := 0, locals := 22 }

set_option maxHeartbeats 4000000 in
set_option maxRecDepth 100000 in
theorem w_X7_set_42 {l : Launch} {Z : zzG} {base : Nat} {PL : Nat → Option (Nat × Int32)} {mm : zzS} {p : Program} {e : Env} {s : State} {m : MethodId} {args : Array Value} {below : List Frame} {meth : Method} {c : Code} (C : zzCx p m meth c s args cX7_set 3 wsX7_set RX7 (some .boolean) Z) (r0 : Nat) (hr0 : zzrow r0) (p0 : Int32)  (p1 : Int32)   (s0 : Int32)  (s1 : Int32)  (σ : zzS) : zzGO p l e rX7_set s m args below meth c 3 (zzA base) (zzX Z base PL mm) (zzX Z base PL mm) zzRI rX7_set.cells rX7_set.slots (f_X7_set_42 r0 p0 p1 s0 s1 σ) σ 0 0 42 [] [.int s0, .int s1, .ref (zzad Z (r0 + 1))] := by
  unfold f_X7_set_42
  refine zz_callSN (As := [.ref (zzad Z (r0 + 1)), .int s1, .int s0]) (rest := []) C rfl (k_X11_write (r0 + 1) (zzXarr1 hr0) s1 s0 σ) ⟨va_cnB 3 C.1.2.2.2.2 gX7_set_X11_write_n26 rfl rfl rfl (C.2.2.2.2 _ (List.mem_of_getElem? (i := 6) rfl)) (C.1.2.2.2.2 _ (List.mem_of_getElem? (i := 10) rfl)) (by decide +kernel) ⟨Nat.le_of_ble_eq_true rfl, Nat.le_of_ble_eq_true rfl⟩, C.1.2.2.2.2 _ (List.mem_of_getElem? (i := 9) rfl), trivial⟩ rfl (Nat.le_of_ble_eq_true rfl) ⟨Nat.zero_le _, Nat.zero_le _⟩ dX7_set_42 (zz_kV rfl rfl (fun r1 σ2 => ?_))
  refine zz_iconst (v := 1) C dX7_set_45 (by decide) ?_
  exact zz_zret C rfl (Or.inr rfl) rfl (fun _ h9 => h9) (Nat.zero_le _) (Nat.zero_le _) dX7_set_46
set_option maxHeartbeats 4000000 in
set_option maxRecDepth 100000 in
theorem w_X7_set_e {l : Launch} {Z : zzG} {base : Nat} {PL : Nat → Option (Nat × Int32)} {mm : zzS} {p : Program} {e : Env} {s : State} {m : MethodId} {args : Array Value} {below : List Frame} {meth : Method} {c : Code} (C : zzCx p m meth c s args cX7_set 3 wsX7_set RX7 (some .boolean) Z) (r0 : Nat) (hr0 : zzrow r0) (p0 : Int32)  (p1 : Int32)  (σ : zzS) : zzGO p l e rX7_set s m args below meth c 3 (zzA base) (zzX Z base PL mm) (zzX Z base PL mm) zzRI rX7_set.cells rX7_set.slots (f_X7_set r0 p0 p1 σ) σ 0 0 0 [(0, .ref (zzad Z r0)), (1, .int p0), (2, .int p1)] [] := by
  unfold f_X7_set
  refine zz_aload_n C dX7_set_0 rfl 0 rfl ?_
  refine zz_iload_n C dX7_set_1 rfl 1 rfl ?_
  refine zz_iconst (v := 1) C dX7_set_2 (by decide) ?_
  refine zz_callV C (Cn := RX7) (b := zzad Z r0) (fun H hH => zz_recv C.2.2.2 ((zzX_row hr0) H hH) rfl) (As := [.int p0, .int (1 : Int32)]) (rest := []) rfl (k_X7_has r0 hr0 p0 (1 : Int32) σ) (cwV 2 C.1.2.2.2.2 gX7_set_X7_has rfl rfl rfl (by decide +kernel) ⟨Nat.le_of_ble_eq_true rfl, Nat.le_of_ble_eq_true rfl⟩) rfl (Nat.le_of_ble_eq_true rfl) ⟨Nat.zero_le _, Nat.zero_le _⟩ dX7_set_3 (zz_kI rfl rfl (fun r1 σ2 => ?_))
  refine zz_if_ne (tgt := 11) C dX7_set_6 (by decide) (fun h3 => ?_) (fun h3 => ?_)
  · refine zz_aload_n C dX7_set_11 rfl 0 rfl ?_
    refine zz_get C (zzX_row hr0) (fun _ h9 => List.mem_cons_of_mem _ (List.mem_append_right _ (h9))) rfl 0 (by decide) (List.mem_of_getElem? (i := 1) rfl) (Or.inl rfl) rfl dX7_set_12 ?_
    refine zz_iload_n C dX7_set_15 rfl 1 rfl ?_
    refine zz_aload_n C dX7_set_16 rfl 0 rfl ?_
    refine zz_get C (zzX_row hr0) (fun _ h9 => List.mem_cons_of_mem _ (List.mem_append_right _ (h9))) rfl 1 (by decide) (List.mem_of_getElem? (i := 2) rfl) (Or.inl rfl) rfl dX7_set_17 ?_
    refine zz_if_ne (tgt := 28) C dX7_set_20 (by decide) (fun h4 => ?_) (fun h4 => ?_)
    · refine zz_aload_n C dX7_set_28 rfl 0 rfl ?_
      refine zz_get C (zzX_row hr0) (fun _ h9 => List.mem_cons_of_mem _ (List.mem_append_right _ (h9))) rfl 1 (by decide) (List.mem_of_getElem? (i := 2) rfl) (Or.inl rfl) rfl dX7_set_29 ?_
      refine zz_iconst (v := 1) C dX7_set_32 (by decide) ?_
      refine zz_icmp_ne (tgt := 41) C dX7_set_33 (by decide) (fun h5 => ?_) (fun h5 => ?_)
      · refine zz_iload_n C dX7_set_41 rfl 2 rfl ?_
        refine zz_sub (loc' := []) [] rfl ?_
        exact w_X7_set_42 C r0 hr0 p0 p1 p1 p0 σ2
      · refine zz_iload_n C dX7_set_36 rfl 2 rfl ?_
        refine zz_i2s C dX7_set_37 ?_
        refine zz_goto (tgt := 42) C dX7_set_38 (by decide) ?_
        refine zz_sub (loc' := []) [] rfl ?_
        exact w_X7_set_42 C r0 hr0 p0 p1 (Int16.toInt32 (Int32.toInt16 p1)) p0 σ2
    · refine zz_iload_n C dX7_set_23 rfl 2 rfl ?_
      refine zz_i2b C dX7_set_24 ?_
      refine zz_goto (tgt := 42) C dX7_set_25 (by decide) ?_
      refine zz_sub (loc' := []) [] rfl ?_
      exact w_X7_set_42 C r0 hr0 p0 p1 (Int8.toInt32 (Int32.toInt8 p1)) p0 σ2
  · refine zz_iconst (v := 0) C dX7_set_9 (by decide) ?_
    exact zz_zret C rfl (Or.inl rfl) rfl (fun _ h9 => h9) (Nat.zero_le _) (Nat.zero_le _) dX7_set_10
set_option maxHeartbeats 4000000 in
set_option maxRecDepth 100000 in
theorem k_X7_set {l : Launch} {Z : zzG} {base : Nat} {PL : Nat → Option (Nat × Int32)} {mm : zzS} (r0 : Nat) (hr0 : zzrow r0) (p0 : Int32)  (p1 : Int32)  (σ : zzS) : zzCT l yX7_set wsX7_set rX7_set (zzA base) Z (zzX Z base PL mm) (zzX Z base PL mm) zzRI [.ref (zzad Z r0), .int p0, .int p1] (f_X7_set r0 p0 p1 σ) σ :=
  zzCT_of (cc := cX7_set) (nL := 3) (ret := (some .boolean)) (by decide) rfl (Nat.le_of_ble_eq_true rfl) [(0, .ref (zzad Z r0)), (1, .int p0), (2, .int p1)] rfl (fun p e s m args below meth c C => w_X7_set_e C r0 hr0 p0 p1 σ)
abbrev rX7_at : Room := { frames := 1, cells := 0, slots := 0, locals := 22 }

set_option maxHeartbeats 4000000 in
set_option maxRecDepth 100000 in
theorem w_X7_at_e {l : Launch} {Z : zzG} {base : Nat} {PL : Nat → Option (Nat × Int32)} {mm : zzS} {p : Program} {e : Env} {s : State} {m : MethodId} {args : Array Value} {below : List Frame} {meth : Method} {c : Code} (C : zzCx p m meth c s args cX7_at 2 wsX7_at RX7 (some .int) Z) (r0 : Nat) (hr0 : zzrow r0) (p0 : Int32)  (σ : zzS) : zzGO p l e rX7_at s m args below meth c 2 (zzA base) (zzX Z base PL mm) (zzX Z base PL mm) zzRI rX7_at.cells rX7_at.slots (f_X7_at r0 p0 σ) σ 0 0 0 [(0, .ref (zzad Z r0)), (1, .int p0)] [] := by
  unfold f_X7_at
  refine zz_aload_n C dX7_at_0 rfl 0 rfl ?_
  refine zz_iload_n C dX7_at_1 rfl 1 rfl ?_
  refine zz_iconst (v := 1) C dX7_at_2 (by decide) ?_
  refine zz_callV C (Cn := RX7) (b := zzad Z r0) (fun H hH => zz_recv C.2.2.2 ((zzX_row hr0) H hH) rfl) (As := [.int p0, .int (1 : Int32)]) (rest := []) rfl (k_X7_has r0 hr0 p0 (1 : Int32) σ) (cwV 2 C.1.2.2.2.2 gX7_at_X7_has rfl rfl rfl (by decide +kernel) ⟨Nat.le_of_ble_eq_true rfl, Nat.le_of_ble_eq_true rfl⟩) rfl (Nat.le_of_ble_eq_true rfl) ⟨Nat.zero_le _, Nat.zero_le _⟩ dX7_at_3 (zz_kI rfl rfl (fun r1 σ2 => ?_))
  refine zz_if_eq (tgt := 20) C dX7_at_6 (by decide) (fun h3 => ?_) (fun h3 => ?_)
  · refine zz_iconst (v := 0) C dX7_at_20 (by decide) ?_
    exact zz_iret C rfl rfl (fun _ h9 => h9) (Nat.zero_le _) (Nat.zero_le _) dX7_at_21
  · refine zz_aload_n C dX7_at_9 rfl 0 rfl ?_
    refine zz_get C (zzX_row hr0) (fun _ h9 => List.mem_cons_of_mem _ (List.mem_append_right _ (h9))) rfl 0 (by decide) (List.mem_of_getElem? (i := 1) rfl) (Or.inl rfl) rfl dX7_at_10 ?_
    refine zz_iload_n C dX7_at_13 rfl 1 rfl ?_
    refine zz_callSN (As := [.ref (zzad Z (r0 + 1)), .int p0]) (rest := []) C rfl (k_X11_read (r0 + 1) (zzXarr1 hr0) p0 σ2) ⟨va_cnB 2 C.1.2.2.2.2 gX7_at_X11_read_n30 rfl rfl rfl (C.2.2.2.2 _ (List.mem_of_getElem? (i := 3) rfl)) (C.1.2.2.2.2 _ (List.mem_of_getElem? (i := 9) rfl)) (by decide +kernel) ⟨Nat.le_of_ble_eq_true rfl, Nat.le_of_ble_eq_true rfl⟩, C.1.2.2.2.2 _ (List.mem_of_getElem? (i := 8) rfl), trivial⟩ rfl (Nat.le_of_ble_eq_true rfl) ⟨Nat.zero_le _, Nat.zero_le _⟩ dX7_at_14 (zz_kI rfl rfl (fun r4 σ5 => ?_))
    refine zz_goto (tgt := 21) C dX7_at_17 (by decide) ?_
    exact zz_iret C rfl rfl (fun _ h9 => h9) (Nat.zero_le _) (Nat.zero_le _) dX7_at_21
set_option maxHeartbeats 4000000 in
set_option maxRecDepth 100000 in
theorem k_X7_at {l : Launch} {Z : zzG} {base : Nat} {PL : Nat → Option (Nat × Int32)} {mm : zzS} (r0 : Nat) (hr0 : zzrow r0) (p0 : Int32)  (σ : zzS) : zzCT l yX7_at wsX7_at rX7_at (zzA base) Z (zzX Z base PL mm) (zzX Z base PL mm) zzRI [.ref (zzad Z r0), .int p0] (f_X7_at r0 p0 σ) σ :=
  zzCT_of (cc := cX7_at) (nL := 2) (ret := (some .int)) (by decide) rfl (Nat.le_of_ble_eq_true rfl) [(0, .ref (zzad Z r0)), (1, .int p0)] rfl (fun p e s m args below meth c C => w_X7_at_e C r0 hr0 p0 σ)
abbrev rX7_digitAt : Room := { frames := 2, cells := 0, slots := 0, locals := 43 }

set_option maxHeartbeats 4000000 in
set_option maxRecDepth 100000 in
theorem w_X7_digitAt_e {l : Launch} {Z : zzG} {base : Nat} {PL : Nat → Option (Nat × Int32)} {mm : zzS} {p : Program} {e : Env} {s : State} {m : MethodId} {args : Array Value} {below : List Frame} {meth : Method} {c : Code} (C : zzCx p m meth c s args cX7_digitAt 2 wsX7_digitAt RX7 (some .int) Z) (r0 : Nat) (hr0 : zzrow r0) (p0 : Int32)  (σ : zzS) : zzGO p l e rX7_digitAt s m args below meth c 2 (zzA base) (zzX Z base PL mm) (zzX Z base PL mm) zzRI rX7_digitAt.cells rX7_digitAt.slots (f_X7_digitAt r0 p0 σ) σ 0 0 0 [(0, .ref (zzad Z r0)), (1, .int p0)] [] := by
  unfold f_X7_digitAt
  refine zz_aload_n C dX7_digitAt_0 rfl 0 rfl ?_
  refine zz_iload_n C dX7_digitAt_1 rfl 1 rfl ?_
  refine zz_callV C (Cn := RX7) (b := zzad Z r0) (fun H hH => zz_recv C.2.2.2 ((zzX_row hr0) H hH) rfl) (As := [.int p0]) (rest := []) rfl (k_X7_at r0 hr0 p0 σ) (cwV 1 C.1.2.2.2.2 gX7_digitAt_X7_at rfl rfl rfl (by decide +kernel) ⟨Nat.le_of_ble_eq_true rfl, Nat.le_of_ble_eq_true rfl⟩) rfl (Nat.le_of_ble_eq_true rfl) ⟨Nat.zero_le _, Nat.zero_le _⟩ dX7_digitAt_2 (zz_kI rfl rfl (fun r1 σ2 => ?_))
  refine zz_bipush (v := 48) C dX7_digitAt_5 (by decide) ?_
  refine zz_isub C dX7_digitAt_7 ?_
  exact zz_iret C rfl rfl (fun _ h9 => h9) (Nat.zero_le _) (Nat.zero_le _) dX7_digitAt_8
set_option maxHeartbeats 4000000 in
set_option maxRecDepth 100000 in
theorem k_X7_digitAt {l : Launch} {Z : zzG} {base : Nat} {PL : Nat → Option (Nat × Int32)} {mm : zzS} (r0 : Nat) (hr0 : zzrow r0) (p0 : Int32)  (σ : zzS) : zzCT l yX7_digitAt wsX7_digitAt rX7_digitAt (zzA base) Z (zzX Z base PL mm) (zzX Z base PL mm) zzRI [.ref (zzad Z r0), .int p0] (f_X7_digitAt r0 p0 σ) σ :=
  zzCT_of (cc := cX7_digitAt) (nL := 2) (ret := (some .int)) (by decide) rfl (Nat.le_of_ble_eq_true rfl) [(0, .ref (zzad Z r0)), (1, .int p0)] rfl (fun p e s m args below meth c C => w_X7_digitAt_e C r0 hr0 p0 σ)
abbrev rX7_leastNumber : Room := { frames := 0, cells := 0, slots := 0, locals := 0 }

set_option maxHeartbeats 4000000 in
set_option maxRecDepth 100000 in
theorem w_X7_leastNumber_e {l : Launch} {Z : zzG} {base : Nat} {PL : Nat → Option (Nat × Int32)} {mm : zzS} {p : Program} {e : Env} {s : State} {m : MethodId} {args : Array Value} {below : List Frame} {meth : Method} {c : Code} (C : zzCx p m meth c s args cX7_leastNumber 1 wsX7_leastNumber RX7 (some .int) Z) (r0 : Nat) (hr0 : zzrow r0) (σ : zzS) : zzGO p l e rX7_leastNumber s m args below meth c 1 (zzA base) (zzX Z base PL mm) (zzX Z base PL mm) zzRI rX7_leastNumber.cells rX7_leastNumber.slots (f_X7_leastNumber r0 σ) σ 0 0 0 [(0, .ref (zzad Z r0))] [] := by
  unfold f_X7_leastNumber
  refine zz_aload_n C dX7_leastNumber_0 rfl 0 rfl ?_
  refine zz_get C (zzX_row hr0) (fun _ h9 => List.mem_cons_of_mem _ (List.mem_append_right _ (h9))) rfl 1 (by decide) (List.mem_of_getElem? (i := 1) rfl) (Or.inl rfl) rfl dX7_leastNumber_1 ?_
  refine zz_if_ne (tgt := 12) C dX7_leastNumber_4 (by decide) (fun h1 => ?_) (fun h1 => ?_)
  · refine zz_aload_n C dX7_leastNumber_12 rfl 0 rfl ?_
    refine zz_get C (zzX_row hr0) (fun _ h9 => List.mem_cons_of_mem _ (List.mem_append_right _ (h9))) rfl 1 (by decide) (List.mem_of_getElem? (i := 1) rfl) (Or.inl rfl) rfl dX7_leastNumber_13 ?_
    refine zz_iconst (v := 1) C dX7_leastNumber_16 (by decide) ?_
    refine zz_icmp_ne (tgt := 26) C dX7_leastNumber_17 (by decide) (fun h2 => ?_) (fun h2 => ?_)
    · refine zz_ldc (v := -2147483648) C (C.1.2.2.2.2 _ (List.mem_of_getElem? (i := 2) rfl)) dX7_leastNumber_26 ?_
      exact zz_iret C rfl rfl (fun _ h9 => h9) (Nat.zero_le _) (Nat.zero_le _) dX7_leastNumber_28
    · refine zz_sipush (v := -32768) C dX7_leastNumber_20 (by decide) ?_
      refine zz_goto (tgt := 28) C dX7_leastNumber_23 (by decide) ?_
      exact zz_iret C rfl rfl (fun _ h9 => h9) (Nat.zero_le _) (Nat.zero_le _) dX7_leastNumber_28
  · refine zz_bipush (v := -128) C dX7_leastNumber_7 (by decide) ?_
    refine zz_goto (tgt := 28) C dX7_leastNumber_9 (by decide) ?_
    exact zz_iret C rfl rfl (fun _ h9 => h9) (Nat.zero_le _) (Nat.zero_le _) dX7_leastNumber_28
set_option maxHeartbeats 4000000 in
set_option maxRecDepth 100000 in
theorem k_X7_leastNumber {l : Launch} {Z : zzG} {base : Nat} {PL : Nat → Option (Nat × Int32)} {mm : zzS} (r0 : Nat) (hr0 : zzrow r0) (σ : zzS) : zzCT l yX7_leastNumber wsX7_leastNumber rX7_leastNumber (zzA base) Z (zzX Z base PL mm) (zzX Z base PL mm) zzRI [.ref (zzad Z r0)] (f_X7_leastNumber r0 σ) σ :=
  zzCT_of (cc := cX7_leastNumber) (nL := 1) (ret := (some .int)) (by decide) rfl (Nat.le_of_ble_eq_true rfl) [(0, .ref (zzad Z r0))] rfl (fun p e s m args below meth c C => w_X7_leastNumber_e C r0 hr0 σ)
abbrev rX11_digitsBehind : Room := { frames := 0, cells := 0, slots := 0, locals := 0 }

set_option maxHeartbeats 4000000 in
set_option maxRecDepth 100000 in
theorem w_X11_digitsBehind_e {l : Launch} {Z : zzG} {base : Nat} {PL : Nat → Option (Nat × Int32)} {mm : zzS} {p : Program} {e : Env} {s : State} {m : MethodId} {args : Array Value} {below : List Frame} {meth : Method} {c : Code} (C : zzCx p m meth c s args cX11_digitsBehind 1 wsX11_digitsBehind RX11 (some .int) Z) (p0 : Int32)  (σ : zzS) : zzGO p l e rX11_digitsBehind s m args below meth c 1 (zzA base) (zzX Z base PL mm) (zzX Z base PL mm) zzRI rX11_digitsBehind.cells rX11_digitsBehind.slots (f_X11_digitsBehind p0 σ) σ 0 0 0 [(0, .int p0)] [] := by
  unfold f_X11_digitsBehind
  refine zz_iload_n C dX11_digitsBehind_0 rfl 0 rfl ?_
  refine zz_ite (fun h1 => ?_) (fun h1 => ?_)
  · refine zz_tblIn (off := 85) (tgt := 86) C dX11_digitsBehind_1 (by rw [h1]; decide) (by rw [h1]; decide) (by rw [h1]; rfl) (by decide) ?_
    refine zz_iconst (v := 2) C dX11_digitsBehind_86 (by decide) ?_
    exact zz_iret C rfl rfl (fun _ h9 => h9) (Nat.zero_le _) (Nat.zero_le _) dX11_digitsBehind_87
  · skip
    refine zz_ite (fun h2 => ?_) (fun h2 => ?_)
    · refine zz_tblIn (off := 89) (tgt := 90) C dX11_digitsBehind_1 (by rw [h2]; decide) (by rw [h2]; decide) (by rw [h2]; rfl) (by decide) ?_
      refine zz_iconst (v := 0) C dX11_digitsBehind_90 (by decide) ?_
      exact zz_iret C rfl rfl (fun _ h9 => h9) (Nat.zero_le _) (Nat.zero_le _) dX11_digitsBehind_91
    · skip
      refine zz_ite (fun h3 => ?_) (fun h3 => ?_)
      · refine zz_tblIn (off := 83) (tgt := 84) C dX11_digitsBehind_1 (by rw [h3]; decide) (by rw [h3]; decide) (by rw [h3]; rfl) (by decide) ?_
        refine zz_iconst (v := 3) C dX11_digitsBehind_84 (by decide) ?_
        exact zz_iret C rfl rfl (fun _ h9 => h9) (Nat.zero_le _) (Nat.zero_le _) dX11_digitsBehind_85
      · skip
        refine zz_ite (fun h4 => ?_) (fun h4 => ?_)
        · refine zz_tblIn (off := 89) (tgt := 90) C dX11_digitsBehind_1 (by rw [h4]; decide) (by rw [h4]; decide) (by rw [h4]; rfl) (by decide) ?_
          refine zz_iconst (v := 0) C dX11_digitsBehind_90 (by decide) ?_
          exact zz_iret C rfl rfl (fun _ h9 => h9) (Nat.zero_le _) (Nat.zero_le _) dX11_digitsBehind_91
        · skip
          refine zz_ite (fun h5 => ?_) (fun h5 => ?_)
          · refine zz_tblIn (off := 89) (tgt := 90) C dX11_digitsBehind_1 (by rw [h5]; decide) (by rw [h5]; decide) (by rw [h5]; rfl) (by decide) ?_
            refine zz_iconst (v := 0) C dX11_digitsBehind_90 (by decide) ?_
            exact zz_iret C rfl rfl (fun _ h9 => h9) (Nat.zero_le _) (Nat.zero_le _) dX11_digitsBehind_91
          · skip
            refine zz_ite (fun h6 => ?_) (fun h6 => ?_)
            · refine zz_tblIn (off := 89) (tgt := 90) C dX11_digitsBehind_1 (by rw [h6]; decide) (by rw [h6]; decide) (by rw [h6]; rfl) (by decide) ?_
              refine zz_iconst (v := 0) C dX11_digitsBehind_90 (by decide) ?_
              exact zz_iret C rfl rfl (fun _ h9 => h9) (Nat.zero_le _) (Nat.zero_le _) dX11_digitsBehind_91
            · skip
              refine zz_ite (fun h7 => ?_) (fun h7 => ?_)
              · refine zz_tblIn (off := 89) (tgt := 90) C dX11_digitsBehind_1 (by rw [h7]; decide) (by rw [h7]; decide) (by rw [h7]; rfl) (by decide) ?_
                refine zz_iconst (v := 0) C dX11_digitsBehind_90 (by decide) ?_
                exact zz_iret C rfl rfl (fun _ h9 => h9) (Nat.zero_le _) (Nat.zero_le _) dX11_digitsBehind_91
              · skip
                refine zz_ite (fun h8 => ?_) (fun h8 => ?_)
                · refine zz_tblIn (off := 89) (tgt := 90) C dX11_digitsBehind_1 (by rw [h8]; decide) (by rw [h8]; decide) (by rw [h8]; rfl) (by decide) ?_
                  refine zz_iconst (v := 0) C dX11_digitsBehind_90 (by decide) ?_
                  exact zz_iret C rfl rfl (fun _ h9 => h9) (Nat.zero_le _) (Nat.zero_le _) dX11_digitsBehind_91
                · skip
                  refine zz_ite (fun h9 => ?_) (fun h9 => ?_)
                  · refine zz_tblIn (off := 87) (tgt := 88) C dX11_digitsBehind_1 (by rw [h9]; decide) (by rw [h9]; decide) (by rw [h9]; rfl) (by decide) ?_
                    refine zz_iconst (v := 1) C dX11_digitsBehind_88 (by decide) ?_
                    exact zz_iret C rfl rfl (fun _ h9 => h9) (Nat.zero_le _) (Nat.zero_le _) dX11_digitsBehind_89
                  · skip
                    refine zz_ite (fun h10 => ?_) (fun h10 => ?_)
                    · refine zz_tblIn (off := 89) (tgt := 90) C dX11_digitsBehind_1 (by rw [h10]; decide) (by rw [h10]; decide) (by rw [h10]; rfl) (by decide) ?_
                      refine zz_iconst (v := 0) C dX11_digitsBehind_90 (by decide) ?_
                      exact zz_iret C rfl rfl (fun _ h9 => h9) (Nat.zero_le _) (Nat.zero_le _) dX11_digitsBehind_91
                    · skip
                      refine zz_ite (fun h11 => ?_) (fun h11 => ?_)
                      · refine zz_tblIn (off := 89) (tgt := 90) C dX11_digitsBehind_1 (by rw [h11]; decide) (by rw [h11]; decide) (by rw [h11]; rfl) (by decide) ?_
                        refine zz_iconst (v := 0) C dX11_digitsBehind_90 (by decide) ?_
                        exact zz_iret C rfl rfl (fun _ h9 => h9) (Nat.zero_le _) (Nat.zero_le _) dX11_digitsBehind_91
                      · skip
                        refine zz_ite (fun h12 => ?_) (fun h12 => ?_)
                        · refine zz_tblIn (off := 89) (tgt := 90) C dX11_digitsBehind_1 (by rw [h12]; decide) (by rw [h12]; decide) (by rw [h12]; rfl) (by decide) ?_
                          refine zz_iconst (v := 0) C dX11_digitsBehind_90 (by decide) ?_
                          exact zz_iret C rfl rfl (fun _ h9 => h9) (Nat.zero_le _) (Nat.zero_le _) dX11_digitsBehind_91
                        · skip
                          refine zz_ite (fun h13 => ?_) (fun h13 => ?_)
                          · refine zz_tblIn (off := 85) (tgt := 86) C dX11_digitsBehind_1 (by rw [h13]; decide) (by rw [h13]; decide) (by rw [h13]; rfl) (by decide) ?_
                            refine zz_iconst (v := 2) C dX11_digitsBehind_86 (by decide) ?_
                            exact zz_iret C rfl rfl (fun _ h9 => h9) (Nat.zero_le _) (Nat.zero_le _) dX11_digitsBehind_87
                          · skip
                            refine zz_ite (fun h14 => ?_) (fun h14 => ?_)
                            · refine zz_tblIn (off := 89) (tgt := 90) C dX11_digitsBehind_1 (by rw [h14]; decide) (by rw [h14]; decide) (by rw [h14]; rfl) (by decide) ?_
                              refine zz_iconst (v := 0) C dX11_digitsBehind_90 (by decide) ?_
                              exact zz_iret C rfl rfl (fun _ h9 => h9) (Nat.zero_le _) (Nat.zero_le _) dX11_digitsBehind_91
                            · skip
                              refine zz_ite (fun h15 => ?_) (fun h15 => ?_)
                              · refine zz_tblIn (off := 89) (tgt := 90) C dX11_digitsBehind_1 (by rw [h15]; decide) (by rw [h15]; decide) (by rw [h15]; rfl) (by decide) ?_
                                refine zz_iconst (v := 0) C dX11_digitsBehind_90 (by decide) ?_
                                exact zz_iret C rfl rfl (fun _ h9 => h9) (Nat.zero_le _) (Nat.zero_le _) dX11_digitsBehind_91
                              · skip
                                refine zz_ite (fun h16 => ?_) (fun h16 => ?_)
                                · refine zz_tblIn (off := 85) (tgt := 86) C dX11_digitsBehind_1 (by rw [h16]; decide) (by rw [h16]; decide) (by rw [h16]; rfl) (by decide) ?_
                                  refine zz_iconst (v := 2) C dX11_digitsBehind_86 (by decide) ?_
                                  exact zz_iret C rfl rfl (fun _ h9 => h9) (Nat.zero_le _) (Nat.zero_le _) dX11_digitsBehind_87
                                · skip
                                  refine zz_ite (fun h17 => ?_) (fun h17 => ?_)
                                  · refine zz_tblIn (off := 85) (tgt := 86) C dX11_digitsBehind_1 (by rw [h17]; decide) (by rw [h17]; decide) (by rw [h17]; rfl) (by decide) ?_
                                    refine zz_iconst (v := 2) C dX11_digitsBehind_86 (by decide) ?_
                                    exact zz_iret C rfl rfl (fun _ h9 => h9) (Nat.zero_le _) (Nat.zero_le _) dX11_digitsBehind_87
                                  · skip
                                    refine zz_tblOut (tgt := 90) C dX11_digitsBehind_1 (by have := lv_neT h1 (a := 100) (by decide); have := lv_neT h2 (a := 101) (by decide); have := lv_neT h3 (a := 102) (by decide); have := lv_neT h4 (a := 103) (by decide); have := lv_neT h5 (a := 104) (by decide); have := lv_neT h6 (a := 105) (by decide); have := lv_neT h7 (a := 106) (by decide); have := lv_neT h8 (a := 107) (by decide); have := lv_neT h9 (a := 108) (by decide); have := lv_neT h10 (a := 109) (by decide); have := lv_neT h11 (a := 110) (by decide); have := lv_neT h12 (a := 111) (by decide); have := lv_neT h13 (a := 112) (by decide); have := lv_neT h14 (a := 113) (by decide); have := lv_neT h15 (a := 114) (by decide); have := lv_neT h16 (a := 115) (by decide); have := lv_neT h17 (a := 116) (by decide); omega) (by decide) ?_
                                    refine zz_iconst (v := 0) C dX11_digitsBehind_90 (by decide) ?_
                                    exact zz_iret C rfl rfl (fun _ h9 => h9) (Nat.zero_le _) (Nat.zero_le _) dX11_digitsBehind_91
set_option maxHeartbeats 4000000 in
set_option maxRecDepth 100000 in
theorem k_X11_digitsBehind {l : Launch} {Z : zzG} {base : Nat} {PL : Nat → Option (Nat × Int32)} {mm : zzS} (p0 : Int32)  (σ : zzS) : zzCT l yX11_digitsBehind wsX11_digitsBehind rX11_digitsBehind (zzA base) Z (zzX Z base PL mm) (zzX Z base PL mm) zzRI [.int p0] (f_X11_digitsBehind p0 σ) σ :=
  zzCT_of (cc := cX11_digitsBehind) (nL := 1) (ret := (some .int)) (by decide) rfl (Nat.le_of_ble_eq_true rfl) [(0, .int p0)] rfl (fun p e s m args below meth c C => w_X11_digitsBehind_e C p0 σ)
abbrev rX11_isDigit : Room := { frames := 0, cells := 0, slots := 0, locals := 0 }

set_option maxHeartbeats 4000000 in
set_option maxRecDepth 100000 in
theorem w_X11_isDigit_e {l : Launch} {Z : zzG} {base : Nat} {PL : Nat → Option (Nat × Int32)} {mm : zzS} {p : Program} {e : Env} {s : State} {m : MethodId} {args : Array Value} {below : List Frame} {meth : Method} {c : Code} (C : zzCx p m meth c s args cX11_isDigit 1 wsX11_isDigit RX11 (some .boolean) Z) (p0 : Int32)  (σ : zzS) : zzGO p l e rX11_isDigit s m args below meth c 1 (zzA base) (zzX Z base PL mm) (zzX Z base PL mm) zzRI rX11_isDigit.cells rX11_isDigit.slots (f_X11_isDigit p0 σ) σ 0 0 0 [(0, .int p0)] [] := by
  unfold f_X11_isDigit
  refine zz_iload_n C dX11_isDigit_0 rfl 0 rfl ?_
  refine zz_bipush (v := 48) C dX11_isDigit_1 (by decide) ?_
  refine zz_icmp_lt (tgt := 16) C dX11_isDigit_3 (by decide) (fun h1 => ?_) (fun h1 => ?_)
  · refine zz_iconst (v := 0) C dX11_isDigit_16 (by decide) ?_
    exact zz_zret C rfl (Or.inl rfl) rfl (fun _ h9 => h9) (Nat.zero_le _) (Nat.zero_le _) dX11_isDigit_17
  · refine zz_iload_n C dX11_isDigit_6 rfl 0 rfl ?_
    refine zz_bipush (v := 57) C dX11_isDigit_7 (by decide) ?_
    refine zz_icmp_gt (tgt := 16) C dX11_isDigit_9 (by decide) (fun h2 => ?_) (fun h2 => ?_)
    · refine zz_iconst (v := 0) C dX11_isDigit_16 (by decide) ?_
      exact zz_zret C rfl (Or.inl rfl) rfl (fun _ h9 => h9) (Nat.zero_le _) (Nat.zero_le _) dX11_isDigit_17
    · refine zz_iconst (v := 1) C dX11_isDigit_12 (by decide) ?_
      refine zz_goto (tgt := 17) C dX11_isDigit_13 (by decide) ?_
      exact zz_zret C rfl (Or.inr rfl) rfl (fun _ h9 => h9) (Nat.zero_le _) (Nat.zero_le _) dX11_isDigit_17
set_option maxHeartbeats 4000000 in
set_option maxRecDepth 100000 in
theorem k_X11_isDigit {l : Launch} {Z : zzG} {base : Nat} {PL : Nat → Option (Nat × Int32)} {mm : zzS} (p0 : Int32)  (σ : zzS) : zzCT l yX11_isDigit wsX11_isDigit rX11_isDigit (zzA base) Z (zzX Z base PL mm) (zzX Z base PL mm) zzRI [.int p0] (f_X11_isDigit p0 σ) σ :=
  zzCT_of (cc := cX11_isDigit) (nL := 1) (ret := (some .boolean)) (by decide) rfl (Nat.le_of_ble_eq_true rfl) [(0, .int p0)] rfl (fun p e s m args below meth c C => w_X11_isDigit_e C p0 σ)
