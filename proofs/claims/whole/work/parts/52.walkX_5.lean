abbrev rX11_lay : Room := { frames := 0, cells := 0, slots := 0, locals := 0 }

set_option maxHeartbeats 4000000 in
set_option maxRecDepth 100000 in
theorem w_X11_lay_e {l : Launch} {Z : zzG} {base : Nat} {PL : Nat → Option (Nat × Int32)} {mm : zzS} {p : Program} {e : Env} {s : State} {m : MethodId} {args : Array Value} {below : List Frame} {meth : Method} {c : Code} (C : zzCx p m meth c s args cX11_lay 4 wsX11_lay RX11 none Z) (p0 : Int32)  (p1 : (Option (Nat × Int32))) (cp1 : Option Nat) (hp1 : zzpr PL p1 cp1) (p2 : (Option Nat))  (σ : zzS) : zzGO p l e rX11_lay s m args below meth c 4 (zzA base) (zzX Z base PL mm) (zzX Z base PL mm) zzRV rX11_lay.cells rX11_lay.slots (f_X11_lay p0 p1 p2 σ) σ 0 0 0 [(0, .ref (zzad Z 0)), (1, .int p0), (2, va_rf cp1), (3, va_rf (Option.map (zzad Z) p2))] [] := by
  unfold f_X11_lay
  refine zz_iload_n C dX11_lay_0 rfl 1 rfl ?_
  refine zz_if_lt (tgt := 36) C dX11_lay_1 (by decide) (fun h1 => ?_) (fun h1 => ?_)
  · exact zz_vret C rfl rfl (fun _ h9 => h9) (Nat.zero_le _) (Nat.zero_le _) dX11_lay_36
  · refine zz_iload_n C dX11_lay_4 rfl 1 rfl ?_
    refine zz_aload_n C dX11_lay_5 rfl 0 rfl ?_
    refine zz_get C zzX_obj (fun _ h9 => List.mem_cons_of_mem _ (List.mem_append_right _ (h9))) rfl 0 (by decide) (List.mem_of_getElem? (i := 1) rfl) (Or.inl rfl) rfl dX11_lay_6 ?_
    refine zz_alenP C (Or.inl rfl) dX11_lay_9 ?_
    refine zz_icmp_ge (tgt := 36) C dX11_lay_10 (by decide) (fun h2 => ?_) (fun h2 => ?_)
    · exact zz_vret C rfl rfl (fun _ h9 => h9) (Nat.zero_le _) (Nat.zero_le _) dX11_lay_36
    · refine zz_iload_n C dX11_lay_13 rfl 1 rfl ?_
      refine zz_aload_n C dX11_lay_14 rfl 0 rfl ?_
      refine zz_get C zzX_obj (fun _ h9 => List.mem_cons_of_mem _ (List.mem_append_right _ (h9))) rfl 1 (by decide) (List.mem_of_getElem? (i := 2) rfl) (Or.inl rfl) rfl dX11_lay_15 ?_
      refine zz_alen (v := (8 : Int32)) C zzX_rows rfl rfl dX11_lay_18 ?_
      refine zz_icmp_ge (tgt := 36) C dX11_lay_19 (by decide) (fun h3 => ?_) (fun h3 => ?_)
      · exact zz_vret C rfl rfl (fun _ h9 => h9) (Nat.zero_le _) (Nat.zero_le _) dX11_lay_36
      · refine zz_aload_n C dX11_lay_22 rfl 0 rfl ?_
        refine zz_get C zzX_obj (fun _ h9 => List.mem_cons_of_mem _ (List.mem_append_right _ (h9))) rfl 0 (by decide) (List.mem_of_getElem? (i := 1) rfl) (Or.inl rfl) rfl dX11_lay_23 ?_
        refine zz_iload_n C dX11_lay_26 rfl 1 rfl ?_
        refine zz_aloadq_n C dX11_lay_27 rfl 2 rfl ?_
        refine zz_gd (fun h4 => ?_)
        refine zz_aast (c0 := cp1) (tk := 2) (Cn := "DealtByOpposite$Person") C rfl h4 (zzX_upers (Or.inl rfl) hp1) (zzX_any C.2.2.2 hp1) (zzA_X (zzpk_lt' (Or.inl rfl))) dX11_lay_28 ?_
        refine zz_ltS (fun σ5 => ?_)
        refine zz_aload_n C dX11_lay_29 rfl 0 rfl ?_
        refine zz_get C zzX_obj (fun _ h9 => List.mem_cons_of_mem _ (List.mem_append_right _ (h9))) rfl 1 (by decide) (List.mem_of_getElem? (i := 2) rfl) (Or.inl rfl) rfl dX11_lay_30 ?_
        refine zz_iload_n C dX11_lay_33 rfl 1 rfl ?_
        refine zz_aloadq_n C dX11_lay_34 rfl 3 rfl ?_
        refine zz_gd (fun h6 => ?_)
        refine zz_gd (fun h8 => ?_)
        refine zz_aast (c0 := Option.map (zzad Z) p2) (tk := 3) (Cn := "DealtByOpposite$Row") C rfl h6 zzX_urows (zzX_anyR C.2.2.2 h8) (zzA_X (by decide)) dX11_lay_35 ?_
        refine zz_ltS (fun σ7 => ?_)
        exact zz_vret C rfl rfl (fun _ h9 => h9) (Nat.zero_le _) (Nat.zero_le _) dX11_lay_36
set_option maxHeartbeats 4000000 in
set_option maxRecDepth 100000 in
theorem k_X11_lay {l : Launch} {Z : zzG} {base : Nat} {PL : Nat → Option (Nat × Int32)} {mm : zzS} (p0 : Int32)  (p1 : (Option (Nat × Int32))) (cp1 : Option Nat) (hp1 : zzpr PL p1 cp1) (p2 : (Option Nat))  (σ : zzS) : zzCT l yX11_lay wsX11_lay rX11_lay (zzA base) Z (zzX Z base PL mm) (zzX Z base PL mm) zzRV [.ref (zzad Z 0), .int p0, va_rf cp1, va_rf (Option.map (zzad Z) p2)] (f_X11_lay p0 p1 p2 σ) σ :=
  zzCT_of (cc := cX11_lay) (nL := 4) (ret := none) (by decide) rfl (by cases cp1 <;> cases p2 <;> exact Nat.le_of_ble_eq_true rfl) [(0, .ref (zzad Z 0)), (1, .int p0), (2, va_rf cp1), (3, va_rf (Option.map (zzad Z) p2))] (by cases cp1 <;> cases p2 <;> rfl) (fun p e s m args below meth c C => w_X11_lay_e C p0 p1 cp1 hp1 p2 σ)
abbrev rX11_row : Room := { frames := 1, cells := 0, slots := 0, locals := 23 }

set_option maxHeartbeats 4000000 in
set_option maxRecDepth 100000 in
theorem w_X11_row_64 {l : Launch} {Z : zzG} {base : Nat} {PL : Nat → Option (Nat × Int32)} {mm : zzS} {p : Program} {e : Env} {s : State} {m : MethodId} {args : Array Value} {below : List Frame} {meth : Method} {c : Code} (C : zzCx p m meth c s args cX11_row 5 wsX11_row RX11 (some .int) Z) (p0 : Int32)  (p1 : Int32)  (p2 : Int32)   (l4 : (Option Nat))  (σ : zzS) : zzGO p l e rX11_row s m args below meth c 5 (zzA base) (zzX Z base PL mm) (zzX Z base PL mm) zzRI rX11_row.cells rX11_row.slots (f_X11_row_64 p0 p1 p2 l4 σ) σ 0 0 64 [(0, .ref (zzad Z 0)), (1, .int p0), (4, va_rf (Option.map (zzad Z) l4))] [] := by
  unfold f_X11_row_64
  refine zz_aload_n C dX11_row_64 rfl 0 rfl ?_
  refine zz_iload_n C dX11_row_65 rfl 1 rfl ?_
  refine zz_null C dX11_row_66 ?_
  refine zz_aloadq C dX11_row_67 2 rfl ?_
  refine zz_callV C (Cn := RX11) (b := zzad Z 0) (fun H hH => zz_recv C.2.2.2 (zzX_obj H hH) rfl) (As := [.int p0, va_rf none, va_rf (Option.map (zzad Z) l4)]) (rest := []) rfl (k_X11_lay p0 none none rfl l4 σ) (cwV 3 C.1.2.2.2.2 gX11_row_X11_lay rfl rfl rfl (by decide +kernel) ⟨Nat.le_of_ble_eq_true rfl, Nat.le_of_ble_eq_true rfl⟩) rfl (Nat.le_of_ble_eq_true rfl) ⟨Nat.zero_le _, Nat.zero_le _⟩ dX11_row_69 (zz_kV rfl rfl (fun r1 σ2 => ?_))
  refine zz_iconst (v := 0) C dX11_row_72 (by decide) ?_
  exact zz_iret C rfl rfl (fun _ h9 => h9) (Nat.zero_le _) (Nat.zero_le _) dX11_row_73
set_option maxHeartbeats 4000000 in
set_option maxRecDepth 100000 in
theorem w_X11_row_50 {l : Launch} {Z : zzG} {base : Nat} {PL : Nat → Option (Nat × Int32)} {mm : zzS} {p : Program} {e : Env} {s : State} {m : MethodId} {args : Array Value} {below : List Frame} {meth : Method} {c : Code} (C : zzCx p m meth c s args cX11_row 5 wsX11_row RX11 (some .int) Z) (p0 : Int32)  (p1 : Int32)  (p2 : Int32)   (s0 : (Option Nat))  (σ : zzS) : zzGO p l e rX11_row s m args below meth c 5 (zzA base) (zzX Z base PL mm) (zzX Z base PL mm) zzRI rX11_row.cells rX11_row.slots (f_X11_row_50 p0 p1 p2 s0 σ) σ 0 0 50 [(0, .ref (zzad Z 0)), (1, .int p0), (2, .int p1), (3, .int p2)] [va_rf (Option.map (zzad Z) s0)] := by
  unfold f_X11_row_50
  refine zz_astoreq (loc' := [(4, va_rf (Option.map (zzad Z) s0)), (0, .ref (zzad Z 0)), (1, .int p0), (2, .int p1), (3, .int p2)]) C dX11_row_50 (by decide) rfl ?_
  refine zz_aloadq C dX11_row_52 0 rfl ?_
  refine zz_ifnullQ (tgt := 64) C dX11_row_54 (by decide) (fun h2 => ?_) (fun j1 h2 => ?_)
  · subst h2
    refine zz_sub (loc' := [(0, .ref (zzad Z 0)), (1, .int p0), (4, va_rf none)]) [1, 2, 0] rfl ?_
    exact w_X11_row_64 C p0 p1 p2 none σ
  · subst h2
    refine zz_gd (fun h3 => ?_)
    refine zz_aload C dX11_row_57 0 rfl ?_
    refine zz_iload_n C dX11_row_59 rfl 3 rfl ?_
    refine zz_iload_n C dX11_row_60 rfl 4 rfl ?_
    refine zz_callV C (Cn := RX7) (b := zzad Z j1) (fun H hH => zz_recv C.2.2.2 ((zzX_row h3) H hH) rfl) (As := [.int p1, .int p2]) (rest := []) rfl (k_X7_beginAnew j1 h3 p1 p2 σ) (cwV 2 C.1.2.2.2.2 gX11_row_X7_beginAnew rfl rfl rfl (by decide +kernel) ⟨Nat.le_of_ble_eq_true rfl, Nat.le_of_ble_eq_true rfl⟩) rfl (Nat.le_of_ble_eq_true rfl) ⟨Nat.zero_le _, Nat.zero_le _⟩ dX11_row_61 (zz_kV rfl rfl (fun r4 σ5 => ?_))
    refine zz_sub (loc' := [(0, .ref (zzad Z 0)), (1, .int p0), (4, .ref (zzad Z j1))]) [1, 2, 0] rfl ?_
    exact w_X11_row_64 C p0 p1 p2 (some j1) σ5
set_option maxHeartbeats 4000000 in
set_option maxRecDepth 100000 in
theorem w_X11_row_e {l : Launch} {Z : zzG} {base : Nat} {PL : Nat → Option (Nat × Int32)} {mm : zzS} {p : Program} {e : Env} {s : State} {m : MethodId} {args : Array Value} {below : List Frame} {meth : Method} {c : Code} (C : zzCx p m meth c s args cX11_row 5 wsX11_row RX11 (some .int) Z) (p0 : Int32)  (p1 : Int32)  (p2 : Int32)  (σ : zzS) : zzGO p l e rX11_row s m args below meth c 5 (zzA base) (zzX Z base PL mm) (zzX Z base PL mm) zzRI rX11_row.cells rX11_row.slots (f_X11_row p0 p1 p2 σ) σ 0 0 0 [(0, .ref (zzad Z 0)), (1, .int p0), (2, .int p1), (3, .int p2)] [] := by
  unfold f_X11_row
  refine zz_iload_n C dX11_row_0 rfl 1 rfl ?_
  refine zz_callS (As := [.int p0]) (rest := []) C rfl (k_X11_isShelf p0 σ) (va_cwS 1 C.1.2.2.2.2 gX11_row_X11_isShelf rfl rfl rfl (by decide +kernel) ⟨Nat.le_of_ble_eq_true rfl, Nat.le_of_ble_eq_true rfl⟩) rfl (Nat.le_of_ble_eq_true rfl) ⟨Nat.zero_le _, Nat.zero_le _⟩ dX11_row_1 (zz_kI rfl rfl (fun r1 σ2 => ?_))
  refine zz_if_eq (tgt := 22) C dX11_row_4 (by decide) (fun h3 => ?_) (fun h3 => ?_)
  · refine zz_iconst (v := -1) C dX11_row_22 (by decide) ?_
    exact zz_iret C rfl rfl (fun _ h9 => h9) (Nat.zero_le _) (Nat.zero_le _) dX11_row_23
  · refine zz_iload_n C dX11_row_7 rfl 2 rfl ?_
    refine zz_if_lt (tgt := 22) C dX11_row_8 (by decide) (fun h4 => ?_) (fun h4 => ?_)
    · refine zz_iconst (v := -1) C dX11_row_22 (by decide) ?_
      exact zz_iret C rfl rfl (fun _ h9 => h9) (Nat.zero_le _) (Nat.zero_le _) dX11_row_23
    · refine zz_iload_n C dX11_row_11 rfl 2 rfl ?_
      refine zz_iconst (v := 2) C dX11_row_12 (by decide) ?_
      refine zz_icmp_gt (tgt := 22) C dX11_row_13 (by decide) (fun h5 => ?_) (fun h5 => ?_)
      · refine zz_iconst (v := -1) C dX11_row_22 (by decide) ?_
        exact zz_iret C rfl rfl (fun _ h9 => h9) (Nat.zero_le _) (Nat.zero_le _) dX11_row_23
      · refine zz_iload_n C dX11_row_16 rfl 3 rfl ?_
        refine zz_bipush (v := 100) C dX11_row_17 (by decide) ?_
        refine zz_icmp_le (tgt := 24) C dX11_row_19 (by decide) (fun h6 => ?_) (fun h6 => ?_)
        · refine zz_iload_n C dX11_row_24 rfl 3 rfl ?_
          refine zz_if_ge (tgt := 31) C dX11_row_25 (by decide) (fun h7 => ?_) (fun h7 => ?_)
          · refine zz_iload_n C dX11_row_31 rfl 1 rfl ?_
            refine zz_aload_n C dX11_row_32 rfl 0 rfl ?_
            refine zz_get C zzX_obj (fun _ h9 => List.mem_cons_of_mem _ (List.mem_append_left _ (List.mem_append_right _ (h9)))) rfl 2 (by decide) (List.mem_of_getElem? (i := 1) rfl) (Or.inl rfl) rfl dX11_row_33 ?_
            refine zz_alen (v := (8 : Int32)) C zzX_spare rfl rfl dX11_row_36 ?_
            refine zz_icmp_ge (tgt := 49) C dX11_row_37 (by decide) (fun h8 => ?_) (fun h8 => ?_)
            · refine zz_null C dX11_row_49 ?_
              refine zz_sub (loc' := [(0, .ref (zzad Z 0)), (1, .int p0), (2, .int p1), (3, .int p2)]) [0, 1, 2, 3] rfl ?_
              exact w_X11_row_50 C p0 p1 p2 none σ2
            · refine zz_aload_n C dX11_row_40 rfl 0 rfl ?_
              refine zz_get C zzX_obj (fun _ h9 => List.mem_cons_of_mem _ (List.mem_append_left _ (List.mem_append_right _ (h9)))) rfl 2 (by decide) (List.mem_of_getElem? (i := 1) rfl) (Or.inl rfl) rfl dX11_row_41 ?_
              refine zz_iload_n C dX11_row_44 rfl 1 rfl ?_
              refine zz_gd (fun h9 => ?_)
              refine zz_aald (F := fun c => c = Option.map (zzad Z) (some (4 + 2 * Int32.toNatClampNeg p0))) C (fun H hH => ⟨_, zzX_spare H hH, rfl⟩) rfl h9 dX11_row_45 (fun c11 h12 => ?_)
              subst h12
              refine zz_ltQ (fun x10 => ?_)
              refine zz_goto (tgt := 50) C dX11_row_46 (by decide) ?_
              refine zz_sub (loc' := [(0, .ref (zzad Z 0)), (1, .int p0), (2, .int p1), (3, .int p2)]) [0, 1, 2, 3] rfl ?_
              exact w_X11_row_50 C p0 p1 p2 x10 σ2
          · refine zz_bipush (v := -14) C dX11_row_28 (by decide) ?_
            exact zz_iret C rfl rfl (fun _ h9 => h9) (Nat.zero_le _) (Nat.zero_le _) dX11_row_30
        · refine zz_iconst (v := -1) C dX11_row_22 (by decide) ?_
          exact zz_iret C rfl rfl (fun _ h9 => h9) (Nat.zero_le _) (Nat.zero_le _) dX11_row_23
set_option maxHeartbeats 4000000 in
set_option maxRecDepth 100000 in
theorem k_X11_row {l : Launch} {Z : zzG} {base : Nat} {PL : Nat → Option (Nat × Int32)} {mm : zzS} (p0 : Int32)  (p1 : Int32)  (p2 : Int32)  (σ : zzS) : zzCT l yX11_row wsX11_row rX11_row (zzA base) Z (zzX Z base PL mm) (zzX Z base PL mm) zzRI [.ref (zzad Z 0), .int p0, .int p1, .int p2] (f_X11_row p0 p1 p2 σ) σ :=
  zzCT_of (cc := cX11_row) (nL := 5) (ret := (some .int)) (by decide) rfl (Nat.le_of_ble_eq_true rfl) [(0, .ref (zzad Z 0)), (1, .int p0), (2, .int p1), (3, .int p2)] rfl (fun p e s m args below meth c C => w_X11_row_e C p0 p1 p2 σ)
abbrev rX11_put : Room := { frames := 2, cells := 0, slots := 0, locals := 44 }

set_option maxHeartbeats 4000000 in
set_option maxRecDepth 100000 in
theorem w_X11_put_e {l : Launch} {Z : zzG} {base : Nat} {PL : Nat → Option (Nat × Int32)} {mm : zzS} {p : Program} {e : Env} {s : State} {m : MethodId} {args : Array Value} {below : List Frame} {meth : Method} {c : Code} (C : zzCx p m meth c s args cX11_put 5 wsX11_put RX11 (some .int) Z) (p0 : Int32)  (p1 : Int32)  (p2 : Int32)  (σ : zzS) : zzGO p l e rX11_put s m args below meth c 5 (zzA base) (zzX Z base PL mm) (zzX Z base PL mm) zzRI rX11_put.cells rX11_put.slots (f_X11_put p0 p1 p2 σ) σ 0 0 0 [(0, .ref (zzad Z 0)), (1, .int p0), (2, .int p1), (3, .int p2)] [] := by
  unfold f_X11_put
  refine zz_aload_n C dX11_put_0 rfl 0 rfl ?_
  refine zz_iload_n C dX11_put_1 rfl 1 rfl ?_
  refine zz_callV C (Cn := RX11) (b := zzad Z 0) (fun H hH => zz_recv C.2.2.2 (zzX_obj H hH) rfl) (As := [.int p0]) (rest := []) rfl (k_X11_rowOn p0 σ) (cwV 1 C.1.2.2.2.2 gX11_put_X11_rowOn rfl rfl rfl (by decide +kernel) ⟨Nat.le_of_ble_eq_true rfl, Nat.le_of_ble_eq_true rfl⟩) rfl (Nat.le_of_ble_eq_true rfl) ⟨Nat.zero_le _, Nat.zero_le _⟩ dX11_put_2 (zz_kQ rfl rfl (fun r1 σ2 => ?_))
  refine zz_astoreq (loc' := [(4, va_rf (Option.map (zzad Z) r1)), (0, .ref (zzad Z 0)), (1, .int p0), (2, .int p1), (3, .int p2)]) C dX11_put_5 (by decide) rfl ?_
  refine zz_aloadq C dX11_put_7 0 rfl ?_
  refine zz_ifnonnullQ (tgt := 18) C dX11_put_9 (by decide) (fun h4 => ?_) (fun j3 h4 => ?_)
  · subst h4
    refine zz_aload_n C dX11_put_12 rfl 1 rfl ?_
    refine zz_iload_n C dX11_put_13 rfl 2 rfl ?_
    refine zz_callV C (Cn := RX11) (b := zzad Z 0) (fun H hH => zz_recv C.2.2.2 (zzX_obj H hH) rfl) (As := [.int p0]) (rest := []) rfl (k_X11_refusalWithoutRow p0 σ2) (cwV 1 C.1.2.2.2.2 gX11_put_X11_refusalWithoutRow rfl rfl rfl (by decide +kernel) ⟨Nat.le_of_ble_eq_true rfl, Nat.le_of_ble_eq_true rfl⟩) rfl (Nat.le_of_ble_eq_true rfl) ⟨Nat.zero_le _, Nat.zero_le _⟩ dX11_put_14 (zz_kI rfl rfl (fun r6 σ7 => ?_))
    exact zz_iret C rfl rfl (fun _ h9 => h9) (Nat.zero_le _) (Nat.zero_le _) dX11_put_17
  · subst h4
    refine zz_gd (fun h5 => ?_)
    refine zz_aload C dX11_put_18 0 rfl ?_
    refine zz_iload_n C dX11_put_20 rfl 3 rfl ?_
    refine zz_iload_n C dX11_put_21 rfl 4 rfl ?_
    refine zz_callV C (Cn := RX7) (b := zzad Z j3) (fun H hH => zz_recv C.2.2.2 ((zzX_row h5) H hH) rfl) (As := [.int p1, .int p2]) (rest := []) rfl (k_X7_set j3 h5 p1 p2 σ2) (cwV 2 C.1.2.2.2.2 gX11_put_X7_set rfl rfl rfl (by decide +kernel) ⟨Nat.le_of_ble_eq_true rfl, Nat.le_of_ble_eq_true rfl⟩) rfl (Nat.le_of_ble_eq_true rfl) ⟨Nat.zero_le _, Nat.zero_le _⟩ dX11_put_22 (zz_kI rfl rfl (fun r8 σ9 => ?_))
    refine zz_if_eq (tgt := 32) C dX11_put_25 (by decide) (fun h10 => ?_) (fun h10 => ?_)
    · refine zz_bipush (v := -13) C dX11_put_32 (by decide) ?_
      exact zz_iret C rfl rfl (fun _ h9 => h9) (Nat.zero_le _) (Nat.zero_le _) dX11_put_34
    · refine zz_iconst (v := 0) C dX11_put_28 (by decide) ?_
      refine zz_goto (tgt := 34) C dX11_put_29 (by decide) ?_
      exact zz_iret C rfl rfl (fun _ h9 => h9) (Nat.zero_le _) (Nat.zero_le _) dX11_put_34
set_option maxHeartbeats 4000000 in
set_option maxRecDepth 100000 in
theorem k_X11_put {l : Launch} {Z : zzG} {base : Nat} {PL : Nat → Option (Nat × Int32)} {mm : zzS} (p0 : Int32)  (p1 : Int32)  (p2 : Int32)  (σ : zzS) : zzCT l yX11_put wsX11_put rX11_put (zzA base) Z (zzX Z base PL mm) (zzX Z base PL mm) zzRI [.ref (zzad Z 0), .int p0, .int p1, .int p2] (f_X11_put p0 p1 p2 σ) σ :=
  zzCT_of (cc := cX11_put) (nL := 5) (ret := (some .int)) (by decide) rfl (Nat.le_of_ble_eq_true rfl) [(0, .ref (zzad Z 0)), (1, .int p0), (2, .int p1), (3, .int p2)] rfl (fun p e s m args below meth c C => w_X11_put_e C p0 p1 p2 σ)
abbrev rX11_cost : Room := { frames := 3, cells := 0, slots := 0, locals := 60 }
set_option maxHeartbeats 4000000 in
set_option maxRecDepth 100000 in
theorem vr_X11_cost_19 {l : Launch} {Z : zzG} {base : Nat} {PL : Nat → Option (Nat × Int32)} {mm : zzS} {p : Program} {e : Env} {s : State} {m : MethodId} {args : Array Value} {below : List Frame} {meth : Method} {c : Code} {cells slots : Nat} {σ : zzS} {loc : List (Nat × Value)} {rest : List Value} (C : zzCx p m meth c s args cX11_cost 3 wsX11_cost RX11 (some .int) Z) {q : Nat} {kf : Nat × Int32} (hq : PL q = some kf) (hroom : (rest.map fun v => v.category).sum ≤ 8) (hcs : cells + 0 ≤ (rX11_cost).cells ∧ slots + 0 ≤ (rX11_cost).slots := by exact ⟨Nat.zero_le _, Nat.zero_le _⟩) :
    ∀ r1 σ2, some (zzprice kf, σ) = some (r1, σ2) → ∀ (H : Heap) (locs : List Loc) (ls : Array Slot), zzX Z base PL mm σ H → lv_has ls 3 loc → va_Run p l e rX11_cost s m args below meth c H locs cells slots 0 0 (F0 m 19 ls (.ref q :: rest)) rest (zzQ zzRI (zzX Z base PL mm) (zzA base) r1 σ2 #[.ref q]) (zzA base) := by
  intro r1 σ2 hr H locs ls hW hl
  have h8 := zz_kind8 (hW.1.2.2.1 q kf hq).1
  obtain ⟨k9, f9⟩ := kf
  rcases h8 with h8 | h8 | h8 | h8 | h8 | h8 | h8 | h8
  · have h8 : k9 = 0 := h8
    subst h8
    have ct := k_X6_price (l := l) (Z := Z) (base := base) (PL := PL) (mm := mm) (0, f9) q hq σ r1 σ2 hr
    exact va_runV (As := []) (C := RX6) C.1 ct (cwV 0 C.1.2.2.2.2 gX11_cost_X6_price rfl rfl rfl (by decide +kernel) ⟨Nat.le_of_ble_eq_true rfl, Nat.le_of_ble_eq_true rfl⟩) ⟨zzPc_blind, zz_recv C.2.2.2 (zzX_pers1 hq H hW) rfl, fun U hU hWm => zzPc_at C.2.2.2 hU hWm hW⟩ rfl rfl hl.1 rfl (lv_room hroom) dX11_cost_19 hcs
  · have h8 : k9 = 1 := h8
    subst h8
    have ct := k_X9_price (l := l) (Z := Z) (base := base) (PL := PL) (mm := mm) (1, f9) q hq (Or.inl rfl) σ r1 σ2 hr
    exact va_runU (As := []) (C := RX9) C.1 ct (va_cwO 0 C.1.2.2.2.2 gX11_cost_X9_price_u292X9 rfl rfl rfl (List.mem_of_getElem? (i := 32) rfl) (by decide +kernel) ⟨Nat.le_of_ble_eq_true rfl, Nat.le_of_ble_eq_true rfl⟩) ⟨zzPc_blind, zz_recv C.2.2.2 (zzX_pers1 hq H hW) rfl, fun U hU hWm => zzPc_at C.2.2.2 hU hWm hW⟩ rfl rfl hl.1 rfl (lv_room hroom) dX11_cost_19 hcs
  · have h8 : k9 = 2 := h8
    subst h8
    have ct := k_X0_price (l := l) (Z := Z) (base := base) (PL := PL) (mm := mm) (2, f9) q hq (Or.inl rfl) σ r1 σ2 hr
    exact va_runU (As := []) (C := RX0) C.1 ct (va_cwO 0 C.1.2.2.2.2 gX11_cost_X0_price_u292X0 rfl rfl rfl (List.mem_of_getElem? (i := 32) rfl) (by decide +kernel) ⟨Nat.le_of_ble_eq_true rfl, Nat.le_of_ble_eq_true rfl⟩) ⟨zzPc_blind, zz_recv C.2.2.2 (zzX_pers1 hq H hW) rfl, fun U hU hWm => zzPc_at C.2.2.2 hU hWm hW⟩ rfl rfl hl.1 rfl (lv_room hroom) dX11_cost_19 hcs
  · have h8 : k9 = 3 := h8
    subst h8
    have ct := k_X1_price (l := l) (Z := Z) (base := base) (PL := PL) (mm := mm) (3, f9) q hq rfl σ r1 σ2 hr
    exact va_runU (As := []) (C := RX1) C.1 ct (va_cwO 0 C.1.2.2.2.2 gX11_cost_X1_price_u292X1 rfl rfl rfl (List.mem_of_getElem? (i := 32) rfl) (by decide +kernel) ⟨Nat.le_of_ble_eq_true rfl, Nat.le_of_ble_eq_true rfl⟩) ⟨zzPc_blind, zz_recv C.2.2.2 (zzX_pers1 hq H hW) rfl, fun U hU hWm => zzPc_at C.2.2.2 hU hWm hW⟩ rfl rfl hl.1 rfl (lv_room hroom) dX11_cost_19 hcs
  · have h8 : k9 = 4 := h8
    subst h8
    have ct := k_X4_price (l := l) (Z := Z) (base := base) (PL := PL) (mm := mm) (4, f9) q hq rfl σ r1 σ2 hr
    exact va_runU (As := []) (C := RX4) C.1 ct (va_cwO 0 C.1.2.2.2.2 gX11_cost_X4_price_u292X4 rfl rfl rfl (List.mem_of_getElem? (i := 32) rfl) (by decide +kernel) ⟨Nat.le_of_ble_eq_true rfl, Nat.le_of_ble_eq_true rfl⟩) ⟨zzPc_blind, zz_recv C.2.2.2 (zzX_pers1 hq H hW) rfl, fun U hU hWm => zzPc_at C.2.2.2 hU hWm hW⟩ rfl rfl hl.1 rfl (lv_room hroom) dX11_cost_19 hcs
  · have h8 : k9 = 5 := h8
    subst h8
    have ct := k_X5_price (l := l) (Z := Z) (base := base) (PL := PL) (mm := mm) (5, f9) q hq rfl σ r1 σ2 hr
    exact va_runU (As := []) (C := RX5) C.1 ct (va_cwO 0 C.1.2.2.2.2 gX11_cost_X5_price_u292X5 rfl rfl rfl (List.mem_of_getElem? (i := 32) rfl) (by decide +kernel) ⟨Nat.le_of_ble_eq_true rfl, Nat.le_of_ble_eq_true rfl⟩) ⟨zzPc_blind, zz_recv C.2.2.2 (zzX_pers1 hq H hW) rfl, fun U hU hWm => zzPc_at C.2.2.2 hU hWm hW⟩ rfl rfl hl.1 rfl (lv_room hroom) dX11_cost_19 hcs
  · have h8 : k9 = 6 := h8
    subst h8
    have ct := k_X3_price (l := l) (Z := Z) (base := base) (PL := PL) (mm := mm) (6, f9) q hq rfl σ r1 σ2 hr
    exact va_runU (As := []) (C := RX3) C.1 ct (va_cwO 0 C.1.2.2.2.2 gX11_cost_X3_price_u292X3 rfl rfl rfl (List.mem_of_getElem? (i := 32) rfl) (by decide +kernel) ⟨Nat.le_of_ble_eq_true rfl, Nat.le_of_ble_eq_true rfl⟩) ⟨zzPc_blind, zz_recv C.2.2.2 (zzX_pers1 hq H hW) rfl, fun U hU hWm => zzPc_at C.2.2.2 hU hWm hW⟩ rfl rfl hl.1 rfl (lv_room hroom) dX11_cost_19 hcs
  · have h8 : k9 = 7 := h8
    subst h8
    have ct := k_X8_price (l := l) (Z := Z) (base := base) (PL := PL) (mm := mm) (7, f9) q hq rfl σ r1 σ2 hr
    exact va_runU (As := []) (C := RX8) C.1 ct (va_cwO 0 C.1.2.2.2.2 gX11_cost_X8_price_u292X8 rfl rfl rfl (List.mem_of_getElem? (i := 32) rfl) (by decide +kernel) ⟨Nat.le_of_ble_eq_true rfl, Nat.le_of_ble_eq_true rfl⟩) ⟨zzPc_blind, zz_recv C.2.2.2 (zzX_pers1 hq H hW) rfl, fun U hU hWm => zzPc_at C.2.2.2 hU hWm hW⟩ rfl rfl hl.1 rfl (lv_room hroom) dX11_cost_19 hcs

set_option maxHeartbeats 4000000 in
set_option maxRecDepth 100000 in
theorem w_X11_cost_e {l : Launch} {Z : zzG} {base : Nat} {PL : Nat → Option (Nat × Int32)} {mm : zzS} {p : Program} {e : Env} {s : State} {m : MethodId} {args : Array Value} {below : List Frame} {meth : Method} {c : Code} (C : zzCx p m meth c s args cX11_cost 3 wsX11_cost RX11 (some .int) Z) (p0 : Int32)  (σ : zzS) : zzGO p l e rX11_cost s m args below meth c 3 (zzA base) (zzX Z base PL mm) (zzX Z base PL mm) zzRI rX11_cost.cells rX11_cost.slots (f_X11_cost p0 σ) σ 0 0 0 [(0, .ref (zzad Z 0)), (1, .int p0)] [] := by
  unfold f_X11_cost
  refine zz_aload_n C dX11_cost_0 rfl 0 rfl ?_
  refine zz_iload_n C dX11_cost_1 rfl 1 rfl ?_
  refine zz_callV C (Cn := RX11) (b := zzad Z 0) (fun H hH => zz_recv C.2.2.2 (zzX_obj H hH) rfl) (As := [.int p0]) (rest := []) rfl (k_X11_oneOn p0 σ) (cwV 1 C.1.2.2.2.2 gX11_cost_X11_oneOn rfl rfl rfl (by decide +kernel) ⟨Nat.le_of_ble_eq_true rfl, Nat.le_of_ble_eq_true rfl⟩) rfl (Nat.le_of_ble_eq_true rfl) ⟨Nat.zero_le _, Nat.zero_le _⟩ dX11_cost_2 (zz_kP rfl rfl (fun r1 σ2 c3 hp4 => ?_))
  refine zz_astoreq_n (loc' := [(2, va_rf c3), (0, .ref (zzad Z 0)), (1, .int p0)]) C dX11_cost_5 rfl (by decide) rfl ?_
  refine zz_aloadq_n C dX11_cost_6 rfl 0 rfl ?_
  refine zz_ifnonnullP (tgt := 18) C hp4 dX11_cost_7 (by decide) (fun h7 h8 => ?_) (fun kf5 q6 h7 h8 hq9 => ?_)
  · subst h8
    refine zz_aload_n C dX11_cost_10 rfl 1 rfl ?_
    refine zz_iload_n C dX11_cost_11 rfl 2 rfl ?_
    refine zz_callV C (Cn := RX11) (b := zzad Z 0) (fun H hH => zz_recv C.2.2.2 (zzX_obj H hH) rfl) (As := [.int p0]) (rest := []) rfl (k_X11_refusalWithoutOne p0 σ2) (cwV 1 C.1.2.2.2.2 gX11_cost_X11_refusalWithoutOne rfl rfl rfl (by decide +kernel) ⟨Nat.le_of_ble_eq_true rfl, Nat.le_of_ble_eq_true rfl⟩) rfl (Nat.le_of_ble_eq_true rfl) ⟨Nat.zero_le _, Nat.zero_le _⟩ dX11_cost_12 (zz_kI rfl rfl (fun r10 σ11 => ?_))
    refine zz_goto (tgt := 22) C dX11_cost_15 (by decide) ?_
    exact zz_iret C rfl rfl (fun _ h9 => h9) (Nat.zero_le _) (Nat.zero_le _) dX11_cost_22
  · subst h8
    refine zz_aload_n C dX11_cost_18 rfl 0 rfl ?_
    refine zz_call (av := #[.ref q6]) (rest := []) (mcc := 0) (msc := 0) (relc := zzRI) (vr_X11_cost_19 C hq9 (Nat.le_of_ble_eq_true rfl)) (zz_kI rfl rfl (fun r12 σ13 => ?_))
    exact zz_iret C rfl rfl (fun _ h9 => h9) (Nat.zero_le _) (Nat.zero_le _) dX11_cost_22
set_option maxHeartbeats 4000000 in
set_option maxRecDepth 100000 in
theorem k_X11_cost {l : Launch} {Z : zzG} {base : Nat} {PL : Nat → Option (Nat × Int32)} {mm : zzS} (p0 : Int32)  (σ : zzS) : zzCT l yX11_cost wsX11_cost rX11_cost (zzA base) Z (zzX Z base PL mm) (zzX Z base PL mm) zzRI [.ref (zzad Z 0), .int p0] (f_X11_cost p0 σ) σ :=
  zzCT_of (cc := cX11_cost) (nL := 3) (ret := (some .int)) (by decide) rfl (Nat.le_of_ble_eq_true rfl) [(0, .ref (zzad Z 0)), (1, .int p0)] rfl (fun p e s m args below meth c C => w_X11_cost_e C p0 σ)
abbrev rX11_isBare : Room := { frames := 1, cells := 0, slots := 0, locals := 21 }

set_option maxHeartbeats 4000000 in
set_option maxRecDepth 100000 in
theorem w_X11_isBare_e {l : Launch} {Z : zzG} {base : Nat} {PL : Nat → Option (Nat × Int32)} {mm : zzS} {p : Program} {e : Env} {s : State} {m : MethodId} {args : Array Value} {below : List Frame} {meth : Method} {c : Code} (C : zzCx p m meth c s args cX11_isBare 2 wsX11_isBare RX11 (some .boolean) Z) (p0 : Int32)  (σ : zzS) : zzGO p l e rX11_isBare s m args below meth c 2 (zzA base) (zzX Z base PL mm) (zzX Z base PL mm) zzRI rX11_isBare.cells rX11_isBare.slots (f_X11_isBare p0 σ) σ 0 0 0 [(0, .ref (zzad Z 0)), (1, .int p0)] [] := by
  unfold f_X11_isBare
  refine zz_aload_n C dX11_isBare_0 rfl 0 rfl ?_
  refine zz_iload_n C dX11_isBare_1 rfl 1 rfl ?_
  refine zz_callV C (Cn := RX11) (b := zzad Z 0) (fun H hH => zz_recv C.2.2.2 (zzX_obj H hH) rfl) (As := [.int p0]) (rest := []) rfl (k_X11_oneOn p0 σ) (cwV 1 C.1.2.2.2.2 gX11_isBare_X11_oneOn rfl rfl rfl (by decide +kernel) ⟨Nat.le_of_ble_eq_true rfl, Nat.le_of_ble_eq_true rfl⟩) rfl (Nat.le_of_ble_eq_true rfl) ⟨Nat.zero_le _, Nat.zero_le _⟩ dX11_isBare_2 (zz_kP rfl rfl (fun r1 σ2 c3 hp4 => ?_))
  refine zz_ifnonnullP (tgt := 20) C hp4 dX11_isBare_5 (by decide) (fun h7 h8 => ?_) (fun kf5 q6 h7 h8 hq9 => ?_)
  · subst h8
    refine zz_aload_n C dX11_isBare_8 rfl 0 rfl ?_
    refine zz_iload_n C dX11_isBare_9 rfl 1 rfl ?_
    refine zz_callV C (Cn := RX11) (b := zzad Z 0) (fun H hH => zz_recv C.2.2.2 (zzX_obj H hH) rfl) (As := [.int p0]) (rest := []) rfl (k_X11_rowOn p0 σ2) (cwV 1 C.1.2.2.2.2 gX11_isBare_X11_rowOn rfl rfl rfl (by decide +kernel) ⟨Nat.le_of_ble_eq_true rfl, Nat.le_of_ble_eq_true rfl⟩) rfl (Nat.le_of_ble_eq_true rfl) ⟨Nat.zero_le _, Nat.zero_le _⟩ dX11_isBare_10 (zz_kQ rfl rfl (fun r10 σ11 => ?_))
    refine zz_ifnonnullQ (tgt := 20) C dX11_isBare_13 (by decide) (fun h13 => ?_) (fun j12 h13 => ?_)
    · subst h13
      refine zz_iconst (v := 1) C dX11_isBare_16 (by decide) ?_
      refine zz_goto (tgt := 21) C dX11_isBare_17 (by decide) ?_
      exact zz_zret C rfl (Or.inr rfl) rfl (fun _ h9 => h9) (Nat.zero_le _) (Nat.zero_le _) dX11_isBare_21
    · subst h13
      refine zz_gd (fun h14 => ?_)
      refine zz_iconst (v := 0) C dX11_isBare_20 (by decide) ?_
      exact zz_zret C rfl (Or.inl rfl) rfl (fun _ h9 => h9) (Nat.zero_le _) (Nat.zero_le _) dX11_isBare_21
  · subst h8
    refine zz_iconst (v := 0) C dX11_isBare_20 (by decide) ?_
    exact zz_zret C rfl (Or.inl rfl) rfl (fun _ h9 => h9) (Nat.zero_le _) (Nat.zero_le _) dX11_isBare_21
set_option maxHeartbeats 4000000 in
set_option maxRecDepth 100000 in
theorem k_X11_isBare {l : Launch} {Z : zzG} {base : Nat} {PL : Nat → Option (Nat × Int32)} {mm : zzS} (p0 : Int32)  (σ : zzS) : zzCT l yX11_isBare wsX11_isBare rX11_isBare (zzA base) Z (zzX Z base PL mm) (zzX Z base PL mm) zzRI [.ref (zzad Z 0), .int p0] (f_X11_isBare p0 σ) σ :=
  zzCT_of (cc := cX11_isBare) (nL := 2) (ret := (some .boolean)) (by decide) rfl (Nat.le_of_ble_eq_true rfl) [(0, .ref (zzad Z 0)), (1, .int p0)] rfl (fun p e s m args below meth c C => w_X11_isBare_e C p0 σ)
