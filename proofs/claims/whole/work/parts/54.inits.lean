abbrev rX6_init : Room := { frames := 1, cells := 0, slots := 0, locals := 12 }
set_option maxHeartbeats 8000000 in
set_option maxRecDepth 100000 in
theorem kc_X6_init {l : Launch} {Z : zzG} (k : Nat) (h8 : k < 8) (h0 : Nat) (v : Int32) : zwCT l yX6_init wsX6_init rX6_init Z false [.ref h0, .int v] [(h0, .inr (zzpci k, [.int 0]))] (fun w => w = [(h0, .inr (zzpci k, [.int v]))]) := by
  refine zwCT_of (cc := cX6_init) (nL := 2) (ret := none) (by decide) rfl (Nat.le_of_ble_eq_true rfl) [(0, .ref h0), (1, .int v)] rfl (fun p e s m args below meth c C hin hX => ?_)
  refine zw_aload_n C dX6_init_0 rfl 0 rfl ?_
  refine zw_objInit C (List.mem_of_getElem? (i := 1) rfl) (List.mem_of_getElem? (i := 2) rfl) (List.mem_of_getElem? (i := 3) rfl) (Nat.le_of_ble_eq_true rfl) (Nat.le_of_ble_eq_true rfl) dX6_init_1 ?_
  refine zw_aload_n C dX6_init_4 rfl 0 rfl ?_
  refine zw_iload_n C dX6_init_5 rfl 1 rfl ?_
  rcases zz_kind8 h8 with rfl | rfl | rfl | rfl | rfl | rfl | rfl | rfl
  · refine zw_putF (ws' := [(h0, .inr (zzpci 0, [.int v]))]) C hin (fun _ h9 => List.mem_cons_of_mem _ (List.mem_append_left _ (List.mem_append_left _ (List.mem_append_right _ (h9))))) tyX6 tyX6_ok nmX6 0 rfl (ci := 6) rfl 0 (by decide) (List.mem_of_getElem? (i := 4) rfl) rfl rfl (tyX6_ok 0 (by decide)) rfl rfl (Nat.le_of_ble_eq_true rfl) rfl dX6_init_6 ?_
    exact zw_vret C rfl rfl (Nat.le_refl _) (Nat.le_refl _) dX6_init_9
  · refine zw_putF (ws' := [(h0, .inr (zzpci 1, [.int v]))]) C hin (fun _ h9 => List.mem_cons_of_mem _ (List.mem_append_right _ (h9))) tyX9 tyX9_ok nmX9 0 rfl (ci := 9) rfl 0 (by decide) (List.mem_of_getElem? (i := 4) rfl) rfl rfl (tyX9_ok 0 (by decide)) rfl rfl (Nat.le_of_ble_eq_true rfl) rfl dX6_init_6 ?_
    exact zw_vret C rfl rfl (Nat.le_refl _) (Nat.le_refl _) dX6_init_9
  · refine zw_putF (ws' := [(h0, .inr (zzpci 2, [.int v]))]) C hin (fun _ h9 => List.mem_cons_of_mem _ (List.mem_append_left _ (List.mem_append_left _ (List.mem_append_left _ (List.mem_append_left _ (List.mem_append_left _ (List.mem_append_left _ (List.mem_append_left _ (List.mem_append_right _ (h9)))))))))) tyX0 tyX0_ok nmX0 0 rfl (ci := 0) rfl 0 (by decide) (List.mem_of_getElem? (i := 4) rfl) rfl rfl (tyX0_ok 0 (by decide)) rfl rfl (Nat.le_of_ble_eq_true rfl) rfl dX6_init_6 ?_
    exact zw_vret C rfl rfl (Nat.le_refl _) (Nat.le_refl _) dX6_init_9
  · refine zw_putF (ws' := [(h0, .inr (zzpci 3, [.int v]))]) C hin (fun _ h9 => List.mem_cons_of_mem _ (List.mem_append_left _ (List.mem_append_left _ (List.mem_append_left _ (List.mem_append_left _ (List.mem_append_left _ (List.mem_append_left _ (List.mem_append_right _ (h9))))))))) tyX1 tyX1_ok nmX1 0 rfl (ci := 1) rfl 0 (by decide) (List.mem_of_getElem? (i := 4) rfl) rfl rfl (tyX1_ok 0 (by decide)) rfl rfl (Nat.le_of_ble_eq_true rfl) rfl dX6_init_6 ?_
    exact zw_vret C rfl rfl (Nat.le_refl _) (Nat.le_refl _) dX6_init_9
  · refine zw_putF (ws' := [(h0, .inr (zzpci 4, [.int v]))]) C hin (fun _ h9 => List.mem_cons_of_mem _ (List.mem_append_left _ (List.mem_append_left _ (List.mem_append_left _ (List.mem_append_left _ (List.mem_append_right _ (h9))))))) tyX4 tyX4_ok nmX4 0 rfl (ci := 4) rfl 0 (by decide) (List.mem_of_getElem? (i := 4) rfl) rfl rfl (tyX4_ok 0 (by decide)) rfl rfl (Nat.le_of_ble_eq_true rfl) rfl dX6_init_6 ?_
    exact zw_vret C rfl rfl (Nat.le_refl _) (Nat.le_refl _) dX6_init_9
  · refine zw_putF (ws' := [(h0, .inr (zzpci 5, [.int v]))]) C hin (fun _ h9 => List.mem_cons_of_mem _ (List.mem_append_left _ (List.mem_append_left _ (List.mem_append_left _ (List.mem_append_right _ (h9)))))) tyX5 tyX5_ok nmX5 0 rfl (ci := 5) rfl 0 (by decide) (List.mem_of_getElem? (i := 4) rfl) rfl rfl (tyX5_ok 0 (by decide)) rfl rfl (Nat.le_of_ble_eq_true rfl) rfl dX6_init_6 ?_
    exact zw_vret C rfl rfl (Nat.le_refl _) (Nat.le_refl _) dX6_init_9
  · refine zw_putF (ws' := [(h0, .inr (zzpci 6, [.int v]))]) C hin (fun _ h9 => List.mem_cons_of_mem _ (List.mem_append_left _ (List.mem_append_left _ (List.mem_append_left _ (List.mem_append_left _ (List.mem_append_left _ (List.mem_append_right _ (h9)))))))) tyX3 tyX3_ok nmX3 0 rfl (ci := 3) rfl 0 (by decide) (List.mem_of_getElem? (i := 4) rfl) rfl rfl (tyX3_ok 0 (by decide)) rfl rfl (Nat.le_of_ble_eq_true rfl) rfl dX6_init_6 ?_
    exact zw_vret C rfl rfl (Nat.le_refl _) (Nat.le_refl _) dX6_init_9
  · refine zw_putF (ws' := [(h0, .inr (zzpci 7, [.int v]))]) C hin (fun _ h9 => List.mem_cons_of_mem _ (List.mem_append_left _ (List.mem_append_right _ (h9)))) tyX8 tyX8_ok nmX8 0 rfl (ci := 8) rfl 0 (by decide) (List.mem_of_getElem? (i := 4) rfl) rfl rfl (tyX8_ok 0 (by decide)) rfl rfl (Nat.le_of_ble_eq_true rfl) rfl dX6_init_6 ?_
    exact zw_vret C rfl rfl (Nat.le_refl _) (Nat.le_refl _) dX6_init_9
abbrev rX9_init : Room := { frames := 2, cells := 0, slots := 0, locals := 33 }
set_option maxHeartbeats 8000000 in
set_option maxRecDepth 100000 in
theorem kc_X9_init {l : Launch} {Z : zzG} (k : Nat) (h8 : k < 8) (h0 : Nat) (v : Int32) : zwCT l yX9_init wsX9_init rX9_init Z false [.ref h0, .int v] [(h0, .inr (zzpci k, [.int 0]))] (fun w => w = [(h0, .inr (zzpci k, [.int v]))]) := by
  refine zwCT_of (cc := cX9_init) (nL := 2) (ret := none) (by decide) rfl (Nat.le_of_ble_eq_true rfl) [(0, .ref h0), (1, .int v)] rfl (fun p e s m args below meth c C hin hX => ?_)
  refine zw_aload_n C dX9_init_0 rfl 0 rfl ?_
  refine zw_iload_n C dX9_init_1 rfl 1 rfl ?_
  refine zw_callI (As := [.int v]) (rest := []) (wr := []) C zwX_f zwA_new rfl (kc_X6_init k h8 h0 v) (cwI 1 C.1.2.2.2.2 gX9_init_X6_init rfl rfl rfl (C.1.2.2.2.2 _ (List.mem_of_getElem? (i := 3) rfl)) (C.1.2.2.2.2 _ (List.mem_of_getElem? (i := 1) rfl)) (C.1.2.2.2.2 _ (List.mem_of_getElem? (i := 2) rfl)) rfl (by decide +kernel) ⟨Nat.le_of_ble_eq_true rfl, Nat.le_of_ble_eq_true rfl⟩) [0] [] rfl rfl rfl rfl (by decide) (by decide) rfl (Nat.le_of_ble_eq_true rfl) ⟨Nat.le_of_ble_eq_true rfl, Nat.le_of_ble_eq_true rfl⟩ dX9_init_2 (fun w1 hw => ?_)
  obtain rfl := hw
  exact zw_vret C rfl rfl (Nat.le_refl _) (Nat.le_refl _) dX9_init_5
abbrev rX0_init : Room := { frames := 2, cells := 0, slots := 0, locals := 33 }
set_option maxHeartbeats 8000000 in
set_option maxRecDepth 100000 in
theorem kc_X0_init {l : Launch} {Z : zzG} (k : Nat) (h8 : k < 8) (h0 : Nat) (v : Int32) : zwCT l yX0_init wsX0_init rX0_init Z false [.ref h0, .int v] [(h0, .inr (zzpci k, [.int 0]))] (fun w => w = [(h0, .inr (zzpci k, [.int v]))]) := by
  refine zwCT_of (cc := cX0_init) (nL := 2) (ret := none) (by decide) rfl (Nat.le_of_ble_eq_true rfl) [(0, .ref h0), (1, .int v)] rfl (fun p e s m args below meth c C hin hX => ?_)
  refine zw_aload_n C dX0_init_0 rfl 0 rfl ?_
  refine zw_iload_n C dX0_init_1 rfl 1 rfl ?_
  refine zw_callI (As := [.int v]) (rest := []) (wr := []) C zwX_f zwA_new rfl (kc_X6_init k h8 h0 v) (cwI 1 C.1.2.2.2.2 gX0_init_X6_init rfl rfl rfl (C.1.2.2.2.2 _ (List.mem_of_getElem? (i := 3) rfl)) (C.1.2.2.2.2 _ (List.mem_of_getElem? (i := 1) rfl)) (C.1.2.2.2.2 _ (List.mem_of_getElem? (i := 2) rfl)) rfl (by decide +kernel) ⟨Nat.le_of_ble_eq_true rfl, Nat.le_of_ble_eq_true rfl⟩) [0] [] rfl rfl rfl rfl (by decide) (by decide) rfl (Nat.le_of_ble_eq_true rfl) ⟨Nat.le_of_ble_eq_true rfl, Nat.le_of_ble_eq_true rfl⟩ dX0_init_2 (fun w1 hw => ?_)
  obtain rfl := hw
  exact zw_vret C rfl rfl (Nat.le_refl _) (Nat.le_refl _) dX0_init_5
abbrev rX1_init : Room := { frames := 3, cells := 0, slots := 0, locals := 54 }
set_option maxHeartbeats 8000000 in
set_option maxRecDepth 100000 in
theorem kc_X1_init {l : Launch} {Z : zzG} (k : Nat) (h8 : k < 8) (h0 : Nat) (v : Int32) : zwCT l yX1_init wsX1_init rX1_init Z false [.ref h0, .int v] [(h0, .inr (zzpci k, [.int 0]))] (fun w => w = [(h0, .inr (zzpci k, [.int v]))]) := by
  refine zwCT_of (cc := cX1_init) (nL := 2) (ret := none) (by decide) rfl (Nat.le_of_ble_eq_true rfl) [(0, .ref h0), (1, .int v)] rfl (fun p e s m args below meth c C hin hX => ?_)
  refine zw_aload_n C dX1_init_0 rfl 0 rfl ?_
  refine zw_iload_n C dX1_init_1 rfl 1 rfl ?_
  refine zw_callI (As := [.int v]) (rest := []) (wr := []) C zwX_f zwA_new rfl (kc_X9_init k h8 h0 v) (cwI 1 C.1.2.2.2.2 gX1_init_X9_init rfl rfl rfl (C.1.2.2.2.2 _ (List.mem_of_getElem? (i := 3) rfl)) (C.1.2.2.2.2 _ (List.mem_of_getElem? (i := 1) rfl)) (C.1.2.2.2.2 _ (List.mem_of_getElem? (i := 2) rfl)) rfl (by decide +kernel) ⟨Nat.le_of_ble_eq_true rfl, Nat.le_of_ble_eq_true rfl⟩) [0] [] rfl rfl rfl rfl (by decide) (by decide) rfl (Nat.le_of_ble_eq_true rfl) ⟨Nat.le_of_ble_eq_true rfl, Nat.le_of_ble_eq_true rfl⟩ dX1_init_2 (fun w1 hw => ?_)
  obtain rfl := hw
  exact zw_vret C rfl rfl (Nat.le_refl _) (Nat.le_refl _) dX1_init_5
abbrev rX4_init : Room := { frames := 2, cells := 0, slots := 0, locals := 33 }
set_option maxHeartbeats 8000000 in
set_option maxRecDepth 100000 in
theorem kc_X4_init {l : Launch} {Z : zzG} (k : Nat) (h8 : k < 8) (h0 : Nat) (v : Int32) : zwCT l yX4_init wsX4_init rX4_init Z false [.ref h0, .int v] [(h0, .inr (zzpci k, [.int 0]))] (fun w => w = [(h0, .inr (zzpci k, [.int v]))]) := by
  refine zwCT_of (cc := cX4_init) (nL := 2) (ret := none) (by decide) rfl (Nat.le_of_ble_eq_true rfl) [(0, .ref h0), (1, .int v)] rfl (fun p e s m args below meth c C hin hX => ?_)
  refine zw_aload_n C dX4_init_0 rfl 0 rfl ?_
  refine zw_iload_n C dX4_init_1 rfl 1 rfl ?_
  refine zw_callI (As := [.int v]) (rest := []) (wr := []) C zwX_f zwA_new rfl (kc_X6_init k h8 h0 v) (cwI 1 C.1.2.2.2.2 gX4_init_X6_init rfl rfl rfl (C.1.2.2.2.2 _ (List.mem_of_getElem? (i := 3) rfl)) (C.1.2.2.2.2 _ (List.mem_of_getElem? (i := 1) rfl)) (C.1.2.2.2.2 _ (List.mem_of_getElem? (i := 2) rfl)) rfl (by decide +kernel) ⟨Nat.le_of_ble_eq_true rfl, Nat.le_of_ble_eq_true rfl⟩) [0] [] rfl rfl rfl rfl (by decide) (by decide) rfl (Nat.le_of_ble_eq_true rfl) ⟨Nat.le_of_ble_eq_true rfl, Nat.le_of_ble_eq_true rfl⟩ dX4_init_2 (fun w1 hw => ?_)
  obtain rfl := hw
  exact zw_vret C rfl rfl (Nat.le_refl _) (Nat.le_refl _) dX4_init_5
abbrev rX5_init : Room := { frames := 3, cells := 0, slots := 0, locals := 54 }
set_option maxHeartbeats 8000000 in
set_option maxRecDepth 100000 in
theorem kc_X5_init {l : Launch} {Z : zzG} (k : Nat) (h8 : k < 8) (h0 : Nat) (v : Int32) : zwCT l yX5_init wsX5_init rX5_init Z false [.ref h0, .int v] [(h0, .inr (zzpci k, [.int 0]))] (fun w => w = [(h0, .inr (zzpci k, [.int v]))]) := by
  refine zwCT_of (cc := cX5_init) (nL := 2) (ret := none) (by decide) rfl (Nat.le_of_ble_eq_true rfl) [(0, .ref h0), (1, .int v)] rfl (fun p e s m args below meth c C hin hX => ?_)
  refine zw_aload_n C dX5_init_0 rfl 0 rfl ?_
  refine zw_iload_n C dX5_init_1 rfl 1 rfl ?_
  refine zw_callI (As := [.int v]) (rest := []) (wr := []) C zwX_f zwA_new rfl (kc_X9_init k h8 h0 v) (cwI 1 C.1.2.2.2.2 gX5_init_X9_init rfl rfl rfl (C.1.2.2.2.2 _ (List.mem_of_getElem? (i := 3) rfl)) (C.1.2.2.2.2 _ (List.mem_of_getElem? (i := 1) rfl)) (C.1.2.2.2.2 _ (List.mem_of_getElem? (i := 2) rfl)) rfl (by decide +kernel) ⟨Nat.le_of_ble_eq_true rfl, Nat.le_of_ble_eq_true rfl⟩) [0] [] rfl rfl rfl rfl (by decide) (by decide) rfl (Nat.le_of_ble_eq_true rfl) ⟨Nat.le_of_ble_eq_true rfl, Nat.le_of_ble_eq_true rfl⟩ dX5_init_2 (fun w1 hw => ?_)
  obtain rfl := hw
  exact zw_vret C rfl rfl (Nat.le_refl _) (Nat.le_refl _) dX5_init_5
abbrev rX3_init : Room := { frames := 3, cells := 0, slots := 0, locals := 54 }
set_option maxHeartbeats 8000000 in
set_option maxRecDepth 100000 in
theorem kc_X3_init {l : Launch} {Z : zzG} (k : Nat) (h8 : k < 8) (h0 : Nat) (v : Int32) : zwCT l yX3_init wsX3_init rX3_init Z false [.ref h0, .int v] [(h0, .inr (zzpci k, [.int 0]))] (fun w => w = [(h0, .inr (zzpci k, [.int v]))]) := by
  refine zwCT_of (cc := cX3_init) (nL := 2) (ret := none) (by decide) rfl (Nat.le_of_ble_eq_true rfl) [(0, .ref h0), (1, .int v)] rfl (fun p e s m args below meth c C hin hX => ?_)
  refine zw_aload_n C dX3_init_0 rfl 0 rfl ?_
  refine zw_iload_n C dX3_init_1 rfl 1 rfl ?_
  refine zw_callI (As := [.int v]) (rest := []) (wr := []) C zwX_f zwA_new rfl (kc_X0_init k h8 h0 v) (cwI 1 C.1.2.2.2.2 gX3_init_X0_init rfl rfl rfl (C.1.2.2.2.2 _ (List.mem_of_getElem? (i := 3) rfl)) (C.1.2.2.2.2 _ (List.mem_of_getElem? (i := 1) rfl)) (C.1.2.2.2.2 _ (List.mem_of_getElem? (i := 2) rfl)) rfl (by decide +kernel) ⟨Nat.le_of_ble_eq_true rfl, Nat.le_of_ble_eq_true rfl⟩) [0] [] rfl rfl rfl rfl (by decide) (by decide) rfl (Nat.le_of_ble_eq_true rfl) ⟨Nat.le_of_ble_eq_true rfl, Nat.le_of_ble_eq_true rfl⟩ dX3_init_2 (fun w1 hw => ?_)
  obtain rfl := hw
  exact zw_vret C rfl rfl (Nat.le_refl _) (Nat.le_refl _) dX3_init_5
abbrev rX8_init : Room := { frames := 3, cells := 0, slots := 0, locals := 54 }
set_option maxHeartbeats 8000000 in
set_option maxRecDepth 100000 in
theorem kc_X8_init {l : Launch} {Z : zzG} (k : Nat) (h8 : k < 8) (h0 : Nat) (v : Int32) : zwCT l yX8_init wsX8_init rX8_init Z false [.ref h0, .int v] [(h0, .inr (zzpci k, [.int 0]))] (fun w => w = [(h0, .inr (zzpci k, [.int v]))]) := by
  refine zwCT_of (cc := cX8_init) (nL := 2) (ret := none) (by decide) rfl (Nat.le_of_ble_eq_true rfl) [(0, .ref h0), (1, .int v)] rfl (fun p e s m args below meth c C hin hX => ?_)
  refine zw_aload_n C dX8_init_0 rfl 0 rfl ?_
  refine zw_iload_n C dX8_init_1 rfl 1 rfl ?_
  refine zw_callI (As := [.int v]) (rest := []) (wr := []) C zwX_f zwA_new rfl (kc_X9_init k h8 h0 v) (cwI 1 C.1.2.2.2.2 gX8_init_X9_init rfl rfl rfl (C.1.2.2.2.2 _ (List.mem_of_getElem? (i := 3) rfl)) (C.1.2.2.2.2 _ (List.mem_of_getElem? (i := 1) rfl)) (C.1.2.2.2.2 _ (List.mem_of_getElem? (i := 2) rfl)) rfl (by decide +kernel) ⟨Nat.le_of_ble_eq_true rfl, Nat.le_of_ble_eq_true rfl⟩) [0] [] rfl rfl rfl rfl (by decide) (by decide) rfl (Nat.le_of_ble_eq_true rfl) ⟨Nat.le_of_ble_eq_true rfl, Nat.le_of_ble_eq_true rfl⟩ dX8_init_2 (fun w1 hw => ?_)
  obtain rfl := hw
  exact zw_vret C rfl rfl (Nat.le_refl _) (Nat.le_refl _) dX8_init_5
abbrev rX7_init : Room := { frames := 1, cells := 1, slots := 100, locals := 12 }
set_option maxHeartbeats 8000000 in
set_option maxRecDepth 100000 in
theorem kc_X7_init {l : Launch} {Z : zzG} (h0 : Nat) : zwCT l yX7_init wsX7_init rX7_init Z false [.ref h0] [(h0, .inr (7, [.null, .int 0, .int 0]))] (fun w => ∃ (q1 : Nat), w = [(h0, .inr (7, [.ref q1, .int 0, .int 0])), (q1, .inl (zzcA Z 0, 100, .inl (fun _ => 0)))]) := by
  refine zwCT_of (cc := cX7_init) (nL := 1) (ret := none) (by decide) rfl (Nat.le_of_ble_eq_true rfl) [(0, .ref h0)] rfl (fun p e s m args below meth c C hin hX => ?_)
  refine zw_aload_n C dX7_init_0 rfl 0 rfl ?_
  refine zw_objInit C (List.mem_of_getElem? (i := 1) rfl) (List.mem_of_getElem? (i := 2) rfl) (List.mem_of_getElem? (i := 3) rfl) (Nat.le_of_ble_eq_true rfl) (Nat.le_of_ble_eq_true rfl) dX7_init_1 ?_
  refine zw_aload_n C dX7_init_4 rfl 0 rfl ?_
  refine zw_bipush (v := 100) C dX7_init_5 (by decide) ?_
  refine zw_newa (N' := 100) (a0 := (100, .inl (fun _ => 0))) C zwA_new (atype := .int) 0 rfl rfl (List.mem_of_getElem? (i := 4) rfl) (fun _ => rfl) (by decide) (by decide) (Nat.le_of_ble_eq_true rfl) (Nat.le_of_ble_eq_true rfl) (Nat.le_of_ble_eq_true rfl) dX7_init_7 (fun q1 => ?_)
  refine zw_eq (ws' := [(h0, .inr (7, [.null, .int 0, .int 0])), (q1, .inl (zzcA Z 0, 100, .inl (fun _ => 0)))]) rfl ?_
  refine zw_putF (ws' := [(h0, .inr (7, [.ref q1, .int 0, .int 0])), (q1, .inl (zzcA Z 0, 100, .inl (fun _ => 0)))]) C hin (fun _ h9 => List.mem_cons_of_mem _ (List.mem_append_right _ (h9))) tyX7 tyX7_ok nmX7 0 rfl rfl 0 (by decide) (List.mem_of_getElem? (i := 5) rfl) rfl rfl (tyX7_ok 0 (by decide)) rfl rfl (Nat.le_of_ble_eq_true rfl) rfl dX7_init_9 ?_
  refine zw_aload_n C dX7_init_12 rfl 0 rfl ?_
  refine zw_iconst (v := 0) C dX7_init_13 (by decide) ?_
  refine zw_put (ws' := [(h0, .inr (7, [.ref q1, .int 0, .int 0])), (q1, .inl (zzcA Z 0, 100, .inl (fun _ => 0)))]) C (fun _ h9 => List.mem_cons_of_mem _ (List.mem_append_right _ (h9))) tyX7 tyX7_ok nmX7 0 rfl rfl 1 (by decide) (List.mem_of_getElem? (i := 6) rfl) rfl (tyX7_ok 1 (by decide)) rfl rfl (Nat.le_of_ble_eq_true rfl) rfl dX7_init_14 ?_
  refine zw_aload_n C dX7_init_17 rfl 0 rfl ?_
  refine zw_iconst (v := 0) C dX7_init_18 (by decide) ?_
  refine zw_put (ws' := [(h0, .inr (7, [.ref q1, .int 0, .int 0])), (q1, .inl (zzcA Z 0, 100, .inl (fun _ => 0)))]) C (fun _ h9 => List.mem_cons_of_mem _ (List.mem_append_right _ (h9))) tyX7 tyX7_ok nmX7 0 rfl rfl 2 (by decide) (List.mem_of_getElem? (i := 7) rfl) rfl (tyX7_ok 2 (by decide)) rfl rfl (Nat.le_of_ble_eq_true rfl) rfl dX7_init_19 ?_
  exact zw_vret C rfl (⟨q1, rfl⟩) (Nat.le_refl _) (Nat.le_refl _) dX7_init_22
abbrev rX2_init : Room := { frames := 1, cells := 3, slots := 1159, locals := 12 }
set_option maxHeartbeats 8000000 in
set_option maxRecDepth 100000 in
theorem kc_X2_init {l : Launch} {Z : zzG} (h0 : Nat) : zwCT l yX2_init wsX2_init rX2_init Z false [.ref h0] [(h0, .inr (2, [.null, .null, .null, .int 0]))] (fun w => ∃ (q1 : Nat) (q2 : Nat) (q3 : Nat), w = [(h0, .inr (2, [.ref q1, .ref q2, .ref q3, .int 0])), (q1, .inl (zzcA Z 0, 7, .inl (fun _ => 0))), (q2, .inl (zzcA Z 0, 1024, .inl (fun _ => 0))), (q3, .inl (zzcA Z 0, 128, .inl (fun _ => 0)))]) := by
  refine zwCT_of (cc := cX2_init) (nL := 1) (ret := none) (by decide) rfl (Nat.le_of_ble_eq_true rfl) [(0, .ref h0)] rfl (fun p e s m args below meth c C hin hX => ?_)
  refine zw_aload_n C dX2_init_0 rfl 0 rfl ?_
  refine zw_objInit C (List.mem_of_getElem? (i := 1) rfl) (List.mem_of_getElem? (i := 2) rfl) (List.mem_of_getElem? (i := 3) rfl) (Nat.le_of_ble_eq_true rfl) (Nat.le_of_ble_eq_true rfl) dX2_init_1 ?_
  refine zw_aload_n C dX2_init_4 rfl 0 rfl ?_
  refine zw_bipush (v := 7) C dX2_init_5 (by decide) ?_
  refine zw_newa (N' := 7) (a0 := (7, .inl (fun _ => 0))) C zwA_new (atype := .int) 0 rfl rfl (List.mem_of_getElem? (i := 4) rfl) (fun _ => rfl) (by decide) (by decide) (Nat.le_of_ble_eq_true rfl) (Nat.le_of_ble_eq_true rfl) (Nat.le_of_ble_eq_true rfl) dX2_init_7 (fun q1 => ?_)
  refine zw_eq (ws' := [(h0, .inr (2, [.null, .null, .null, .int 0])), (q1, .inl (zzcA Z 0, 7, .inl (fun _ => 0)))]) rfl ?_
  refine zw_putF (ws' := [(h0, .inr (2, [.ref q1, .null, .null, .int 0])), (q1, .inl (zzcA Z 0, 7, .inl (fun _ => 0)))]) C hin (fun _ h9 => List.mem_cons_of_mem _ (List.mem_append_right _ (h9))) tyX2 tyX2_ok nmX2 0 rfl rfl 0 (by decide) (List.mem_of_getElem? (i := 5) rfl) rfl rfl (tyX2_ok 0 (by decide)) rfl rfl (Nat.le_of_ble_eq_true rfl) rfl dX2_init_9 ?_
  refine zw_aload_n C dX2_init_12 rfl 0 rfl ?_
  refine zw_sipush (v := 1024) C dX2_init_13 (by decide) ?_
  refine zw_newa (N' := 1024) (a0 := (1024, .inl (fun _ => 0))) C zwA_new (atype := .int) 0 rfl rfl (List.mem_of_getElem? (i := 4) rfl) (fun _ => rfl) (by decide) (by decide) (Nat.le_of_ble_eq_true rfl) (Nat.le_of_ble_eq_true rfl) (Nat.le_of_ble_eq_true rfl) dX2_init_16 (fun q2 => ?_)
  refine zw_eq (ws' := [(h0, .inr (2, [.ref q1, .null, .null, .int 0])), (q1, .inl (zzcA Z 0, 7, .inl (fun _ => 0))), (q2, .inl (zzcA Z 0, 1024, .inl (fun _ => 0)))]) rfl ?_
  refine zw_putF (ws' := [(h0, .inr (2, [.ref q1, .ref q2, .null, .int 0])), (q1, .inl (zzcA Z 0, 7, .inl (fun _ => 0))), (q2, .inl (zzcA Z 0, 1024, .inl (fun _ => 0)))]) C hin (fun _ h9 => List.mem_cons_of_mem _ (List.mem_append_right _ (h9))) tyX2 tyX2_ok nmX2 0 rfl rfl 1 (by decide) (List.mem_of_getElem? (i := 6) rfl) rfl rfl (tyX2_ok 1 (by decide)) rfl rfl (Nat.le_of_ble_eq_true rfl) rfl dX2_init_18 ?_
  refine zw_aload_n C dX2_init_21 rfl 0 rfl ?_
  refine zw_sipush (v := 128) C dX2_init_22 (by decide) ?_
  refine zw_newa (N' := 128) (a0 := (128, .inl (fun _ => 0))) C zwA_new (atype := .int) 0 rfl rfl (List.mem_of_getElem? (i := 4) rfl) (fun _ => rfl) (by decide) (by decide) (Nat.le_of_ble_eq_true rfl) (Nat.le_of_ble_eq_true rfl) (Nat.le_of_ble_eq_true rfl) dX2_init_25 (fun q3 => ?_)
  refine zw_eq (ws' := [(h0, .inr (2, [.ref q1, .ref q2, .null, .int 0])), (q1, .inl (zzcA Z 0, 7, .inl (fun _ => 0))), (q2, .inl (zzcA Z 0, 1024, .inl (fun _ => 0))), (q3, .inl (zzcA Z 0, 128, .inl (fun _ => 0)))]) rfl ?_
  refine zw_putF (ws' := [(h0, .inr (2, [.ref q1, .ref q2, .ref q3, .int 0])), (q1, .inl (zzcA Z 0, 7, .inl (fun _ => 0))), (q2, .inl (zzcA Z 0, 1024, .inl (fun _ => 0))), (q3, .inl (zzcA Z 0, 128, .inl (fun _ => 0)))]) C hin (fun _ h9 => List.mem_cons_of_mem _ (List.mem_append_right _ (h9))) tyX2 tyX2_ok nmX2 0 rfl rfl 2 (by decide) (List.mem_of_getElem? (i := 7) rfl) rfl rfl (tyX2_ok 2 (by decide)) rfl rfl (Nat.le_of_ble_eq_true rfl) rfl dX2_init_27 ?_
  refine zw_aload_n C dX2_init_30 rfl 0 rfl ?_
  refine zw_iconst (v := 0) C dX2_init_31 (by decide) ?_
  refine zw_put (ws' := [(h0, .inr (2, [.ref q1, .ref q2, .ref q3, .int 0])), (q1, .inl (zzcA Z 0, 7, .inl (fun _ => 0))), (q2, .inl (zzcA Z 0, 1024, .inl (fun _ => 0))), (q3, .inl (zzcA Z 0, 128, .inl (fun _ => 0)))]) C (fun _ h9 => List.mem_cons_of_mem _ (List.mem_append_right _ (h9))) tyX2 tyX2_ok nmX2 0 rfl rfl 3 (by decide) (List.mem_of_getElem? (i := 8) rfl) rfl (tyX2_ok 3 (by decide)) rfl rfl (Nat.le_of_ble_eq_true rfl) rfl dX2_init_32 ?_
  exact zw_vret C rfl (⟨q1, q2, q3, rfl⟩) (Nat.le_refl _) (Nat.le_refl _) dX2_init_35
abbrev rX10_init : Room := { frames := 2, cells := 4, slots := 64, locals := 33 }
set_option maxHeartbeats 8000000 in
set_option maxRecDepth 100000 in
theorem kc_X10_init {l : Launch} {Z : zzG} (h0 : Nat) : zwCT l yX10_init wsX10_init rX10_init Z true [.ref h0] [(h0, .inr (10, [.null, .null, .null, .null, .int 0, .int 0, .int 0]))] (fun w => ∃ (q1 : Nat) (q2 : Nat) (q3 : Nat) (q4 : Nat), w = [(h0, .inr (10, [.ref q1, .ref q2, .ref q3, .ref q4, .int 0, .int 0, .int 0])), (q1, .inl (zzcA Z 2, 7, .inr (.inr (.inr (.inr (fun _ => none)))))), (q2, .inl (zzcA Z 0, 7, .inl (fun _ => 0))), (q3, .inl (zzcA Z 0, 49, .inl (fun _ => 0))), (q4, .inr (6, [.int 0]))]) := by
  refine zwCT_of (cc := cX10_init) (nL := 1) (ret := none) (by decide) rfl (Nat.le_of_ble_eq_true rfl) [(0, .ref h0)] rfl (fun p e s m args below meth c C hin hX => ?_)
  refine zw_aload_n C dX10_init_0 rfl 0 rfl ?_
  refine zw_objInit C (List.mem_of_getElem? (i := 1) rfl) (List.mem_of_getElem? (i := 2) rfl) (List.mem_of_getElem? (i := 3) rfl) (Nat.le_of_ble_eq_true rfl) (Nat.le_of_ble_eq_true rfl) dX10_init_1 ?_
  refine zw_aload_n C dX10_init_4 rfl 0 rfl ?_
  refine zw_bipush (v := 7) C dX10_init_5 (by decide) ?_
  refine zw_newq (N' := 7) C zwA_new 2 rfl (List.mem_of_getElem? (i := 4) rfl) (hX rfl).1 (by decide) (by decide) (Nat.le_of_ble_eq_true rfl) (Nat.le_of_ble_eq_true rfl) (Nat.le_of_ble_eq_true rfl) dX10_init_7 (fun q1 => ?_)
  refine zw_eq (ws' := [(h0, .inr (10, [.null, .null, .null, .null, .int 0, .int 0, .int 0])), (q1, .inl (zzcA Z 2, 7, .inr (.inr (.inr (.inr (fun _ => none))))))]) rfl ?_
  refine zw_putF (ws' := [(h0, .inr (10, [.ref q1, .null, .null, .null, .int 0, .int 0, .int 0])), (q1, .inl (zzcA Z 2, 7, .inr (.inr (.inr (.inr (fun _ => none))))))]) C hin (fun _ h9 => List.mem_cons_of_mem _ (List.mem_append_left _ (List.mem_append_left _ (List.mem_append_left _ (List.mem_append_left _ (List.mem_append_left _ (List.mem_append_left _ (List.mem_append_left _ (List.mem_append_left _ (List.mem_append_right _ (h9))))))))))) tyX10 tyX10_ok nmX10 0 rfl rfl 0 (by decide) (List.mem_of_getElem? (i := 5) rfl) rfl rfl (tyX10_ok 0 (by decide)) rfl rfl (Nat.le_of_ble_eq_true rfl) rfl dX10_init_10 ?_
  refine zw_aload_n C dX10_init_13 rfl 0 rfl ?_
  refine zw_bipush (v := 7) C dX10_init_14 (by decide) ?_
  refine zw_newa (N' := 7) (a0 := (7, .inl (fun _ => 0))) C zwA_new (atype := .int) 0 rfl rfl (List.mem_of_getElem? (i := 6) rfl) (fun _ => rfl) (by decide) (by decide) (Nat.le_of_ble_eq_true rfl) (Nat.le_of_ble_eq_true rfl) (Nat.le_of_ble_eq_true rfl) dX10_init_16 (fun q2 => ?_)
  refine zw_eq (ws' := [(h0, .inr (10, [.ref q1, .null, .null, .null, .int 0, .int 0, .int 0])), (q1, .inl (zzcA Z 2, 7, .inr (.inr (.inr (.inr (fun _ => none)))))), (q2, .inl (zzcA Z 0, 7, .inl (fun _ => 0)))]) rfl ?_
  refine zw_putF (ws' := [(h0, .inr (10, [.ref q1, .ref q2, .null, .null, .int 0, .int 0, .int 0])), (q1, .inl (zzcA Z 2, 7, .inr (.inr (.inr (.inr (fun _ => none)))))), (q2, .inl (zzcA Z 0, 7, .inl (fun _ => 0)))]) C hin (fun _ h9 => List.mem_cons_of_mem _ (List.mem_append_left _ (List.mem_append_left _ (List.mem_append_left _ (List.mem_append_left _ (List.mem_append_left _ (List.mem_append_left _ (List.mem_append_left _ (List.mem_append_left _ (List.mem_append_right _ (h9))))))))))) tyX10 tyX10_ok nmX10 0 rfl rfl 1 (by decide) (List.mem_of_getElem? (i := 7) rfl) rfl rfl (tyX10_ok 1 (by decide)) rfl rfl (Nat.le_of_ble_eq_true rfl) rfl dX10_init_18 ?_
  refine zw_aload_n C dX10_init_21 rfl 0 rfl ?_
  refine zw_bipush (v := 49) C dX10_init_22 (by decide) ?_
  refine zw_newa (N' := 49) (a0 := (49, .inl (fun _ => 0))) C zwA_new (atype := .int) 0 rfl rfl (List.mem_of_getElem? (i := 6) rfl) (fun _ => rfl) (by decide) (by decide) (Nat.le_of_ble_eq_true rfl) (Nat.le_of_ble_eq_true rfl) (Nat.le_of_ble_eq_true rfl) dX10_init_24 (fun q3 => ?_)
  refine zw_eq (ws' := [(h0, .inr (10, [.ref q1, .ref q2, .null, .null, .int 0, .int 0, .int 0])), (q1, .inl (zzcA Z 2, 7, .inr (.inr (.inr (.inr (fun _ => none)))))), (q2, .inl (zzcA Z 0, 7, .inl (fun _ => 0))), (q3, .inl (zzcA Z 0, 49, .inl (fun _ => 0)))]) rfl ?_
  refine zw_putF (ws' := [(h0, .inr (10, [.ref q1, .ref q2, .ref q3, .null, .int 0, .int 0, .int 0])), (q1, .inl (zzcA Z 2, 7, .inr (.inr (.inr (.inr (fun _ => none)))))), (q2, .inl (zzcA Z 0, 7, .inl (fun _ => 0))), (q3, .inl (zzcA Z 0, 49, .inl (fun _ => 0)))]) C hin (fun _ h9 => List.mem_cons_of_mem _ (List.mem_append_left _ (List.mem_append_left _ (List.mem_append_left _ (List.mem_append_left _ (List.mem_append_left _ (List.mem_append_left _ (List.mem_append_left _ (List.mem_append_left _ (List.mem_append_right _ (h9))))))))))) tyX10 tyX10_ok nmX10 0 rfl rfl 2 (by decide) (List.mem_of_getElem? (i := 8) rfl) rfl rfl (tyX10_ok 2 (by decide)) rfl rfl (Nat.le_of_ble_eq_true rfl) rfl dX10_init_26 ?_
  refine zw_aload_n C dX10_init_29 rfl 0 rfl ?_
  refine zw_new (fs := [.int 0]) C zwA_new (fun _ h9 => List.mem_cons_of_mem _ (List.mem_append_left _ (List.mem_append_left _ (List.mem_append_left _ (List.mem_append_left _ (List.mem_append_left _ (List.mem_append_left _ (List.mem_append_left _ (List.mem_append_right _ (h9)))))))))) tyX6 tyX6_ok (List.mem_of_getElem? (i := 4) rfl) (List.mem_of_getElem? (i := 9) rfl) (List.mem_of_getElem? (i := 10) rfl) (ci := 6) rfl (fun j hj => by rcases (show j = 0 by omega) with rfl <;> rfl) (Nat.le_of_ble_eq_true rfl) (Nat.le_of_ble_eq_true rfl) dX10_init_30 (fun q4 => ?_)
  refine zw_eq (ws' := [(h0, .inr (10, [.ref q1, .ref q2, .ref q3, .null, .int 0, .int 0, .int 0])), (q1, .inl (zzcA Z 2, 7, .inr (.inr (.inr (.inr (fun _ => none)))))), (q2, .inl (zzcA Z 0, 7, .inl (fun _ => 0))), (q3, .inl (zzcA Z 0, 49, .inl (fun _ => 0))), (q4, .inr (6, [.int 0]))]) rfl ?_
  refine zw_dup C dX10_init_33 rfl ?_
  refine zw_iconst (v := 0) C dX10_init_34 (by decide) ?_
  refine zw_callI (As := [.int 0]) (rest := [.ref q4, .ref h0]) (wr := [(h0, .inr (10, [.ref q1, .ref q2, .ref q3, .null, .int 0, .int 0, .int 0])), (q1, .inl (zzcA Z 2, 7, .inr (.inr (.inr (.inr (fun _ => none)))))), (q2, .inl (zzcA Z 0, 7, .inl (fun _ => 0))), (q3, .inl (zzcA Z 0, 49, .inl (fun _ => 0)))]) C zwX_f zwA_new rfl (kc_X6_init 0 (by decide) q4 0) (cwI 1 C.1.2.2.2.2 gX10_init_X6_init rfl rfl rfl (C.1.2.2.2.2 _ (List.mem_of_getElem? (i := 10) rfl)) (C.1.2.2.2.2 _ (List.mem_of_getElem? (i := 15) rfl)) (C.1.2.2.2.2 _ (List.mem_of_getElem? (i := 16) rfl)) rfl (by decide +kernel) ⟨Nat.le_of_ble_eq_true rfl, Nat.le_of_ble_eq_true rfl⟩) [4] [0, 1, 2, 3] rfl rfl rfl rfl (by decide) (by decide) rfl (Nat.le_of_ble_eq_true rfl) ⟨Nat.le_of_ble_eq_true rfl, Nat.le_of_ble_eq_true rfl⟩ dX10_init_35 (fun w1 hw => ?_)
  obtain rfl := hw
  refine zw_eq (ws' := [(h0, .inr (10, [.ref q1, .ref q2, .ref q3, .null, .int 0, .int 0, .int 0])), (q1, .inl (zzcA Z 2, 7, .inr (.inr (.inr (.inr (fun _ => none)))))), (q2, .inl (zzcA Z 0, 7, .inl (fun _ => 0))), (q3, .inl (zzcA Z 0, 49, .inl (fun _ => 0))), (q4, .inr (6, [.int 0]))]) rfl ?_
  refine zw_putF (ws' := [(h0, .inr (10, [.ref q1, .ref q2, .ref q3, .ref q4, .int 0, .int 0, .int 0])), (q1, .inl (zzcA Z 2, 7, .inr (.inr (.inr (.inr (fun _ => none)))))), (q2, .inl (zzcA Z 0, 7, .inl (fun _ => 0))), (q3, .inl (zzcA Z 0, 49, .inl (fun _ => 0))), (q4, .inr (6, [.int 0]))]) C hin (fun _ h9 => List.mem_cons_of_mem _ (List.mem_append_left _ (List.mem_append_left _ (List.mem_append_left _ (List.mem_append_left _ (List.mem_append_left _ (List.mem_append_left _ (List.mem_append_left _ (List.mem_append_left _ (List.mem_append_right _ (h9))))))))))) tyX10 tyX10_ok nmX10 0 rfl rfl 3 (by decide) (List.mem_of_getElem? (i := 11) rfl) rfl rfl (tyX10_ok 3 (by decide)) rfl rfl (Nat.le_of_ble_eq_true rfl) rfl dX10_init_38 ?_
  refine zw_aload_n C dX10_init_41 rfl 0 rfl ?_
  refine zw_iconst (v := 0) C dX10_init_42 (by decide) ?_
  refine zw_put (ws' := [(h0, .inr (10, [.ref q1, .ref q2, .ref q3, .ref q4, .int 0, .int 0, .int 0])), (q1, .inl (zzcA Z 2, 7, .inr (.inr (.inr (.inr (fun _ => none)))))), (q2, .inl (zzcA Z 0, 7, .inl (fun _ => 0))), (q3, .inl (zzcA Z 0, 49, .inl (fun _ => 0))), (q4, .inr (6, [.int 0]))]) C (fun _ h9 => List.mem_cons_of_mem _ (List.mem_append_left _ (List.mem_append_left _ (List.mem_append_left _ (List.mem_append_left _ (List.mem_append_left _ (List.mem_append_left _ (List.mem_append_left _ (List.mem_append_left _ (List.mem_append_right _ (h9))))))))))) tyX10 tyX10_ok nmX10 0 rfl rfl 4 (by decide) (List.mem_of_getElem? (i := 12) rfl) rfl (tyX10_ok 4 (by decide)) rfl rfl (Nat.le_of_ble_eq_true rfl) rfl dX10_init_43 ?_
  refine zw_aload_n C dX10_init_46 rfl 0 rfl ?_
  refine zw_iconst (v := 0) C dX10_init_47 (by decide) ?_
  refine zw_put (ws' := [(h0, .inr (10, [.ref q1, .ref q2, .ref q3, .ref q4, .int 0, .int 0, .int 0])), (q1, .inl (zzcA Z 2, 7, .inr (.inr (.inr (.inr (fun _ => none)))))), (q2, .inl (zzcA Z 0, 7, .inl (fun _ => 0))), (q3, .inl (zzcA Z 0, 49, .inl (fun _ => 0))), (q4, .inr (6, [.int 0]))]) C (fun _ h9 => List.mem_cons_of_mem _ (List.mem_append_left _ (List.mem_append_left _ (List.mem_append_left _ (List.mem_append_left _ (List.mem_append_left _ (List.mem_append_left _ (List.mem_append_left _ (List.mem_append_left _ (List.mem_append_right _ (h9))))))))))) tyX10 tyX10_ok nmX10 0 rfl rfl 5 (by decide) (List.mem_of_getElem? (i := 13) rfl) rfl (tyX10_ok 5 (by decide)) rfl rfl (Nat.le_of_ble_eq_true rfl) rfl dX10_init_48 ?_
  refine zw_aload_n C dX10_init_51 rfl 0 rfl ?_
  refine zw_iconst (v := 0) C dX10_init_52 (by decide) ?_
  refine zw_put (ws' := [(h0, .inr (10, [.ref q1, .ref q2, .ref q3, .ref q4, .int 0, .int 0, .int 0])), (q1, .inl (zzcA Z 2, 7, .inr (.inr (.inr (.inr (fun _ => none)))))), (q2, .inl (zzcA Z 0, 7, .inl (fun _ => 0))), (q3, .inl (zzcA Z 0, 49, .inl (fun _ => 0))), (q4, .inr (6, [.int 0]))]) C (fun _ h9 => List.mem_cons_of_mem _ (List.mem_append_left _ (List.mem_append_left _ (List.mem_append_left _ (List.mem_append_left _ (List.mem_append_left _ (List.mem_append_left _ (List.mem_append_left _ (List.mem_append_left _ (List.mem_append_right _ (h9))))))))))) tyX10 tyX10_ok nmX10 0 rfl rfl 6 (by decide) (List.mem_of_getElem? (i := 14) rfl) rfl (tyX10_ok 6 (by decide)) rfl rfl (Nat.le_of_ble_eq_true rfl) rfl dX10_init_53 ?_
  exact zw_vret C rfl (⟨q1, q2, q3, q4, rfl⟩) (Nat.le_refl _) (Nat.le_refl _) dX10_init_56
