abbrev rX12_costOf : Room := { frames := 0, cells := 0, slots := 0, locals := 0 }

set_option maxHeartbeats 4000000 in
set_option maxRecDepth 100000 in
theorem w_X12_costOf_e {l : Launch} {Z : zzG} {base : Nat} {PL : Nat → Option (Nat × Int32)} {mm : zzS} {p : Program} {e : Env} {s : State} {m : MethodId} {args : Array Value} {below : List Frame} {meth : Method} {c : Code} (C : zzCx p m meth c s args cX12_costOf 2 wsX12_costOf RX12 (some .int) Z) (p0 : Int32)  (p1 : Int32)  (σ : zzS) : zzGO p l e rX12_costOf s m args below meth c 2 (zzA base) (zzM Z base PL mm) (zzM Z base PL mm) zzRI rX12_costOf.cells rX12_costOf.slots (f_X12_costOf p0 p1 σ) σ 0 0 0 [(0, .int p0), (1, .int p1)] [] := by
  unfold f_X12_costOf
  refine zz_iload_n C dX12_costOf_0 rfl 0 rfl ?_
  refine zz_ite (fun h1 => ?_) (fun h1 => ?_)
  · refine zz_tblIn (off := 43) (tgt := 44) C dX12_costOf_1 (by rw [h1]; decide) (by rw [h1]; decide) (by rw [h1]; rfl) (by decide) ?_
    refine zz_iconst (v := 4) C dX12_costOf_44 (by decide) ?_
    exact zz_iret C rfl rfl (fun _ h9 => h9) (Nat.zero_le _) (Nat.zero_le _) dX12_costOf_45
  · skip
    refine zz_ite (fun h2 => ?_) (fun h2 => ?_)
    · refine zz_tblIn (off := 45) (tgt := 46) C dX12_costOf_1 (by rw [h2]; decide) (by rw [h2]; decide) (by rw [h2]; rfl) (by decide) ?_
      refine zz_iconst (v := 3) C dX12_costOf_46 (by decide) ?_
      exact zz_iret C rfl rfl (fun _ h9 => h9) (Nat.zero_le _) (Nat.zero_le _) dX12_costOf_47
    · skip
      refine zz_ite (fun h3 => ?_) (fun h3 => ?_)
      · refine zz_tblIn (off := 47) (tgt := 48) C dX12_costOf_1 (by rw [h3]; decide) (by rw [h3]; decide) (by rw [h3]; rfl) (by decide) ?_
        refine zz_iconst (v := 4) C dX12_costOf_48 (by decide) ?_
        refine zz_iload_n C dX12_costOf_49 rfl 1 rfl ?_
        refine zz_iadd C dX12_costOf_50 ?_
        exact zz_iret C rfl rfl (fun _ h9 => h9) (Nat.zero_le _) (Nat.zero_le _) dX12_costOf_51
      · skip
        refine zz_ite (fun h4 => ?_) (fun h4 => ?_)
        · refine zz_tblIn (off := 51) (tgt := 52) C dX12_costOf_1 (by rw [h4]; decide) (by rw [h4]; decide) (by rw [h4]; rfl) (by decide) ?_
          refine zz_iconst (v := 1) C dX12_costOf_52 (by decide) ?_
          exact zz_iret C rfl rfl (fun _ h9 => h9) (Nat.zero_le _) (Nat.zero_le _) dX12_costOf_53
        · skip
          refine zz_ite (fun h5 => ?_) (fun h5 => ?_)
          · refine zz_tblIn (off := 53) (tgt := 54) C dX12_costOf_1 (by rw [h5]; decide) (by rw [h5]; decide) (by rw [h5]; rfl) (by decide) ?_
            refine zz_bipush (v := 12) C dX12_costOf_54 (by decide) ?_
            exact zz_iret C rfl rfl (fun _ h9 => h9) (Nat.zero_le _) (Nat.zero_le _) dX12_costOf_56
          · skip
            refine zz_ite (fun h6 => ?_) (fun h6 => ?_)
            · refine zz_tblIn (off := 56) (tgt := 57) C dX12_costOf_1 (by rw [h6]; decide) (by rw [h6]; decide) (by rw [h6]; rfl) (by decide) ?_
              refine zz_iconst (v := 3) C dX12_costOf_57 (by decide) ?_
              refine zz_iload_n C dX12_costOf_58 rfl 1 rfl ?_
              refine zz_iadd C dX12_costOf_59 ?_
              exact zz_iret C rfl rfl (fun _ h9 => h9) (Nat.zero_le _) (Nat.zero_le _) dX12_costOf_60
            · skip
              refine zz_ite (fun h7 => ?_) (fun h7 => ?_)
              · refine zz_tblIn (off := 60) (tgt := 61) C dX12_costOf_1 (by rw [h7]; decide) (by rw [h7]; decide) (by rw [h7]; rfl) (by decide) ?_
                refine zz_iconst (v := 2) C dX12_costOf_61 (by decide) ?_
                refine zz_iconst (v := 4) C dX12_costOf_62 (by decide) ?_
                refine zz_iload_n C dX12_costOf_63 rfl 1 rfl ?_
                refine zz_iadd C dX12_costOf_64 ?_
                refine zz_imul C dX12_costOf_65 ?_
                exact zz_iret C rfl rfl (fun _ h9 => h9) (Nat.zero_le _) (Nat.zero_le _) dX12_costOf_66
              · skip
                refine zz_tblOut (tgt := 67) C dX12_costOf_1 (by have := lv_neT h1 (a := 0) (by decide); have := lv_neT h2 (a := 1) (by decide); have := lv_neT h3 (a := 2) (by decide); have := lv_neT h4 (a := 3) (by decide); have := lv_neT h5 (a := 4) (by decide); have := lv_neT h6 (a := 5) (by decide); have := lv_neT h7 (a := 6) (by decide); omega) (by decide) ?_
                refine zz_iconst (v := 5) C dX12_costOf_67 (by decide) ?_
                exact zz_iret C rfl rfl (fun _ h9 => h9) (Nat.zero_le _) (Nat.zero_le _) dX12_costOf_68
set_option maxHeartbeats 4000000 in
set_option maxRecDepth 100000 in
theorem k_X12_costOf {l : Launch} {Z : zzG} {base : Nat} {PL : Nat → Option (Nat × Int32)} {mm : zzS} (p0 : Int32)  (p1 : Int32)  (σ : zzS) : zzCT l yX12_costOf wsX12_costOf rX12_costOf (zzA base) Z (zzM Z base PL mm) (zzM Z base PL mm) zzRI [.int p0, .int p1] (f_X12_costOf p0 p1 σ) σ :=
  zzCT_of (cc := cX12_costOf) (nL := 2) (ret := (some .int)) (by decide) rfl (Nat.le_of_ble_eq_true rfl) [(0, .int p0), (1, .int p1)] rfl (fun p e s m args below meth c C => w_X12_costOf_e C p0 p1 σ)
abbrev rX12_cost : Room := { frames := 2, cells := 0, slots := 0, locals := 46 }

set_option maxHeartbeats 4000000 in
set_option maxRecDepth 100000 in
theorem w_X12_cost_e {l : Launch} {Z : zzG} {base : Nat} {PL : Nat → Option (Nat × Int32)} {mm : zzS} {p : Program} {e : Env} {s : State} {m : MethodId} {args : Array Value} {below : List Frame} {meth : Method} {c : Code} (C : zzCx p m meth c s args cX12_cost 2 wsX12_cost RX12 (some .int) Z) (p0 : Int32)  (σ : zzS) : zzGO p l e rX12_cost s m args below meth c 2 (zzA base) (zzM Z base PL mm) (zzM Z base PL mm) zzRI rX12_cost.cells rX12_cost.slots (f_X12_cost p0 σ) σ 0 0 0 [(0, .ref (zzad Z 36)), (1, .int p0)] [] := by
  unfold f_X12_cost
  refine zz_aload_n C dX12_cost_0 rfl 0 rfl ?_
  refine zz_iconst (v := 0) C dX12_cost_1 (by decide) ?_
  refine zz_put (ty := .int) C zzM_obj (fun _ h9 => List.mem_cons_of_mem _ (List.mem_append_right _ (h9))) rfl 13 (by decide) (List.mem_of_getElem? (i := 1) rfl) rfl tyX12_ok nmX12 rfl (by decide +kernel) rfl rfl (Nat.le_of_ble_eq_true rfl) (zzM_uobj (by decide)) (zzA_M (by decide)) dX12_cost_2 ?_
  refine zz_ltS (fun σ1 => ?_)
  refine zz_aload_n C dX12_cost_5 rfl 0 rfl ?_
  refine zz_iload_n C dX12_cost_6 rfl 1 rfl ?_
  refine zz_callV C (Cn := RX12) (b := zzad Z 36) (fun H hH => zz_recv C.2.2.2 (zzM_obj H hH) rfl) (As := [.int p0]) (rest := []) rfl (k_X12_wrongKept p0 σ1) (cwV 1 C.1.2.2.2.2 gX12_cost_X12_wrongKept rfl rfl rfl (by decide +kernel) ⟨Nat.le_of_ble_eq_true rfl, Nat.le_of_ble_eq_true rfl⟩) rfl (Nat.le_of_ble_eq_true rfl) ⟨Nat.zero_le _, Nat.zero_le _⟩ dX12_cost_7 (zz_kI rfl rfl (fun r2 σ3 => ?_))
  refine zz_if_ge (tgt := 21) C dX12_cost_10 (by decide) (fun h4 => ?_) (fun h4 => ?_)
  · refine zz_aload_n C dX12_cost_21 rfl 0 rfl ?_
    refine zz_get C zzM_obj (fun _ h9 => List.mem_cons_of_mem _ (List.mem_append_right _ (h9))) rfl 8 (by decide) (List.mem_of_getElem? (i := 2) rfl) (Or.inl rfl) rfl dX12_cost_22 ?_
    refine zz_iload_n C dX12_cost_25 rfl 1 rfl ?_
    refine zz_gd (fun h5 => ?_)
    refine zz_iald C (zzM_arr (by decide)) h5 dX12_cost_26 ?_
    refine zz_aload_n C dX12_cost_27 rfl 0 rfl ?_
    refine zz_get C zzM_obj (fun _ h9 => List.mem_cons_of_mem _ (List.mem_append_right _ (h9))) rfl 9 (by decide) (List.mem_of_getElem? (i := 3) rfl) (Or.inl rfl) rfl dX12_cost_28 ?_
    refine zz_iload_n C dX12_cost_31 rfl 1 rfl ?_
    refine zz_gd (fun h6 => ?_)
    refine zz_iald C (zzM_arr (by decide)) h6 dX12_cost_32 ?_
    refine zz_callS (As := [.int (zza σ3 42 (Int32.toNatClampNeg p0)), .int (zza σ3 43 (Int32.toNatClampNeg p0))]) (rest := []) C rfl (k_X12_costOf (zza σ3 42 (Int32.toNatClampNeg p0)) (zza σ3 43 (Int32.toNatClampNeg p0)) σ3) (va_cwS 2 C.1.2.2.2.2 gX12_cost_X12_costOf rfl rfl rfl (by decide +kernel) ⟨Nat.le_of_ble_eq_true rfl, Nat.le_of_ble_eq_true rfl⟩) rfl (Nat.le_of_ble_eq_true rfl) ⟨Nat.zero_le _, Nat.zero_le _⟩ dX12_cost_33 (zz_kI rfl rfl (fun r7 σ8 => ?_))
    exact zz_iret C rfl rfl (fun _ h9 => h9) (Nat.zero_le _) (Nat.zero_le _) dX12_cost_36
  · refine zz_aload_n C dX12_cost_13 rfl 0 rfl ?_
    refine zz_iload_n C dX12_cost_14 rfl 1 rfl ?_
    refine zz_callV C (Cn := RX12) (b := zzad Z 36) (fun H hH => zz_recv C.2.2.2 (zzM_obj H hH) rfl) (As := [.int p0]) (rest := []) rfl (k_X12_wrongKept p0 σ3) (cwV 1 C.1.2.2.2.2 gX12_cost_X12_wrongKept rfl rfl rfl (by decide +kernel) ⟨Nat.le_of_ble_eq_true rfl, Nat.le_of_ble_eq_true rfl⟩) rfl (Nat.le_of_ble_eq_true rfl) ⟨Nat.zero_le _, Nat.zero_le _⟩ dX12_cost_15 (zz_kI rfl rfl (fun r9 σ10 => ?_))
    refine zz_goto (tgt := 36) C dX12_cost_18 (by decide) ?_
    exact zz_iret C rfl rfl (fun _ h9 => h9) (Nat.zero_le _) (Nat.zero_le _) dX12_cost_36
set_option maxHeartbeats 4000000 in
set_option maxRecDepth 100000 in
theorem k_X12_cost {l : Launch} {Z : zzG} {base : Nat} {PL : Nat → Option (Nat × Int32)} {mm : zzS} (p0 : Int32)  (σ : zzS) : zzCT l yX12_cost wsX12_cost rX12_cost (zzA base) Z (zzM Z base PL mm) (zzM Z base PL mm) zzRI [.ref (zzad Z 36), .int p0] (f_X12_cost p0 σ) σ :=
  zzCT_of (cc := cX12_cost) (nL := 2) (ret := (some .int)) (by decide) rfl (Nat.le_of_ble_eq_true rfl) [(0, .ref (zzad Z 36)), (1, .int p0)] rfl (fun p e s m args below meth c C => w_X12_cost_e C p0 σ)
abbrev rX12_toss : Room := { frames := 2, cells := 0, slots := 0, locals := 46 }

set_option maxHeartbeats 4000000 in
set_option maxRecDepth 100000 in
theorem w_X12_toss_e {l : Launch} {Z : zzG} {base : Nat} {PL : Nat → Option (Nat × Int32)} {mm : zzS} {p : Program} {e : Env} {s : State} {m : MethodId} {args : Array Value} {below : List Frame} {meth : Method} {c : Code} (C : zzCx p m meth c s args cX12_toss 4 wsX12_toss RX12 (some .int) Z) (p0 : Int32)  (σ : zzS) : zzGO p l e rX12_toss s m args below meth c 4 (zzA base) (zzM Z base PL mm) (zzM Z base PL mm) zzRI rX12_toss.cells rX12_toss.slots (f_X12_toss p0 σ) σ 0 0 0 [(0, .ref (zzad Z 36)), (1, .int p0)] [] := by
  unfold f_X12_toss
  refine zz_aload_n C dX12_toss_0 rfl 0 rfl ?_
  refine zz_iconst (v := 0) C dX12_toss_1 (by decide) ?_
  refine zz_put (ty := .int) C zzM_obj (fun _ h9 => List.mem_cons_of_mem _ (List.mem_append_right _ (h9))) rfl 13 (by decide) (List.mem_of_getElem? (i := 1) rfl) rfl tyX12_ok nmX12 rfl (by decide +kernel) rfl rfl (Nat.le_of_ble_eq_true rfl) (zzM_uobj (by decide)) (zzA_M (by decide)) dX12_toss_2 ?_
  refine zz_ltS (fun σ1 => ?_)
  refine zz_aload_n C dX12_toss_5 rfl 0 rfl ?_
  refine zz_iload_n C dX12_toss_6 rfl 1 rfl ?_
  refine zz_callV C (Cn := RX12) (b := zzad Z 36) (fun H hH => zz_recv C.2.2.2 (zzM_obj H hH) rfl) (As := [.int p0]) (rest := []) rfl (k_X12_wrongKept p0 σ1) (cwV 1 C.1.2.2.2.2 gX12_toss_X12_wrongKept rfl rfl rfl (by decide +kernel) ⟨Nat.le_of_ble_eq_true rfl, Nat.le_of_ble_eq_true rfl⟩) rfl (Nat.le_of_ble_eq_true rfl) ⟨Nat.zero_le _, Nat.zero_le _⟩ dX12_toss_7 (zz_kI rfl rfl (fun r2 σ3 => ?_))
  refine zz_if_ge (tgt := 19) C dX12_toss_10 (by decide) (fun h4 => ?_) (fun h4 => ?_)
  · refine zz_aload_n C dX12_toss_19 rfl 0 rfl ?_
    refine zz_get C zzM_obj (fun _ h9 => List.mem_cons_of_mem _ (List.mem_append_right _ (h9))) rfl 8 (by decide) (List.mem_of_getElem? (i := 2) rfl) (Or.inl rfl) rfl dX12_toss_20 ?_
    refine zz_iload_n C dX12_toss_23 rfl 1 rfl ?_
    refine zz_gd (fun h5 => ?_)
    refine zz_iald C (zzM_arr (by decide)) h5 dX12_toss_24 ?_
    refine zz_istoreX_n (locf := fun x6 => [(2, .int x6), (0, .ref (zzad Z 36)), (1, .int p0)]) C dX12_toss_25 rfl (by decide) (fun _ => rfl) (fun x6 => ?_)
    refine zz_aload_n C dX12_toss_26 rfl 1 rfl ?_
    refine zz_get C zzM_obj (fun _ h9 => List.mem_cons_of_mem _ (List.mem_append_right _ (h9))) rfl 9 (by decide) (List.mem_of_getElem? (i := 3) rfl) (Or.inl rfl) rfl dX12_toss_27 ?_
    refine zz_iload_n C dX12_toss_30 rfl 2 rfl ?_
    refine zz_gd (fun h7 => ?_)
    refine zz_iald C (zzM_arr (by decide)) h7 dX12_toss_31 ?_
    refine zz_istoreX_n (locf := fun x8 => [(3, .int x8), (2, .int x6), (0, .ref (zzad Z 36)), (1, .int p0)]) C dX12_toss_32 rfl (by decide) (fun _ => rfl) (fun x8 => ?_)
    refine zz_iload_n C dX12_toss_33 rfl 1 rfl ?_
    refine zz_iconst (v := 3) C dX12_toss_34 (by decide) ?_
    refine zz_icmp_eq (tgt := 42) C dX12_toss_35 (by decide) (fun h9 => ?_) (fun h9 => ?_)
    · refine zz_bipush (v := -15) C dX12_toss_42 (by decide) ?_
      exact zz_iret C rfl rfl (fun _ h9 => h9) (Nat.zero_le _) (Nat.zero_le _) dX12_toss_44
    · refine zz_iload_n C dX12_toss_38 rfl 0 rfl ?_
      refine zz_if_ne (tgt := 45) C dX12_toss_39 (by decide) (fun h10 => ?_) (fun h10 => ?_)
      · refine zz_iload_n C dX12_toss_45 rfl 1 rfl ?_
        refine zz_iconst (v := 2) C dX12_toss_46 (by decide) ?_
        refine zz_icmp_ne (tgt := 57) C dX12_toss_47 (by decide) (fun h11 => ?_) (fun h11 => ?_)
        · refine zz_iload_n C dX12_toss_57 rfl 1 rfl ?_
          refine zz_bipush (v := 6) C dX12_toss_58 (by decide) ?_
          refine zz_icmp_ne (tgt := 75) C dX12_toss_60 (by decide) (fun h12 => ?_) (fun h12 => ?_)
          · refine zz_iload_n C dX12_toss_75 rfl 0 rfl ?_
            exact zz_iret C rfl rfl (fun _ h9 => h9) (Nat.zero_le _) (Nat.zero_le _) dX12_toss_76
          · refine zz_sipush (v := 200) C dX12_toss_63 (by decide) ?_
            refine zz_iload_n C dX12_toss_66 rfl 1 rfl ?_
            refine zz_iload_n C dX12_toss_67 rfl 0 rfl ?_
            refine zz_callS (As := [.int x6, .int x8]) (rest := [.int (200 : Int32)]) C rfl (k_X12_costOf x6 x8 σ3) (va_cwS 2 C.1.2.2.2.2 gX12_toss_X12_costOf rfl rfl rfl (by decide +kernel) ⟨Nat.le_of_ble_eq_true rfl, Nat.le_of_ble_eq_true rfl⟩) rfl (Nat.le_of_ble_eq_true rfl) ⟨Nat.zero_le _, Nat.zero_le _⟩ dX12_toss_68 (zz_kI rfl rfl (fun r13 σ14 => ?_))
            refine zz_iadd C dX12_toss_71 ?_
            refine zz_goto (tgt := 76) C dX12_toss_72 (by decide) ?_
            exact zz_iret C rfl rfl (fun _ h9 => h9) (Nat.zero_le _) (Nat.zero_le _) dX12_toss_76
        · refine zz_bipush (v := 100) C dX12_toss_50 (by decide) ?_
          refine zz_iload_n C dX12_toss_52 rfl 0 rfl ?_
          refine zz_iadd C dX12_toss_53 ?_
          refine zz_goto (tgt := 76) C dX12_toss_54 (by decide) ?_
          exact zz_iret C rfl rfl (fun _ h9 => h9) (Nat.zero_le _) (Nat.zero_le _) dX12_toss_76
      · refine zz_bipush (v := -15) C dX12_toss_42 (by decide) ?_
        exact zz_iret C rfl rfl (fun _ h9 => h9) (Nat.zero_le _) (Nat.zero_le _) dX12_toss_44
  · refine zz_aload_n C dX12_toss_13 rfl 0 rfl ?_
    refine zz_iload_n C dX12_toss_14 rfl 1 rfl ?_
    refine zz_callV C (Cn := RX12) (b := zzad Z 36) (fun H hH => zz_recv C.2.2.2 (zzM_obj H hH) rfl) (As := [.int p0]) (rest := []) rfl (k_X12_wrongKept p0 σ3) (cwV 1 C.1.2.2.2.2 gX12_toss_X12_wrongKept rfl rfl rfl (by decide +kernel) ⟨Nat.le_of_ble_eq_true rfl, Nat.le_of_ble_eq_true rfl⟩) rfl (Nat.le_of_ble_eq_true rfl) ⟨Nat.zero_le _, Nat.zero_le _⟩ dX12_toss_15 (zz_kI rfl rfl (fun r15 σ16 => ?_))
    exact zz_iret C rfl rfl (fun _ h9 => h9) (Nat.zero_le _) (Nat.zero_le _) dX12_toss_18
set_option maxHeartbeats 4000000 in
set_option maxRecDepth 100000 in
theorem k_X12_toss {l : Launch} {Z : zzG} {base : Nat} {PL : Nat → Option (Nat × Int32)} {mm : zzS} (p0 : Int32)  (σ : zzS) : zzCT l yX12_toss wsX12_toss rX12_toss (zzA base) Z (zzM Z base PL mm) (zzM Z base PL mm) zzRI [.ref (zzad Z 36), .int p0] (f_X12_toss p0 σ) σ :=
  zzCT_of (cc := cX12_toss) (nL := 4) (ret := (some .int)) (by decide) rfl (Nat.le_of_ble_eq_true rfl) [(0, .ref (zzad Z 36)), (1, .int p0)] rfl (fun p e s m args below meth c C => w_X12_toss_e C p0 σ)
