abbrev rX11_gain : Room := { frames := 0, cells := 0, slots := 0, locals := 0 }

set_option maxHeartbeats 4000000 in
set_option maxRecDepth 100000 in
theorem w_X11_gain_15 {l : Launch} {Z : zzG} {base : Nat} {PL : Nat → Option (Nat × Int32)} {mm : zzS} {p : Program} {e : Env} {s : State} {m : MethodId} {args : Array Value} {below : List Frame} {meth : Method} {c : Code} (C : zzCx p m meth c s args cX11_gain 4 wsX11_gain RX11 (some .int) Z) (p0 : Int32)  (p1 : Int32)  (p2 : Int32)   (s0 : Int32)  (σ : zzS) : zzGO p l e rX11_gain s m args below meth c 4 (zzA base) (zzX Z base PL mm) (zzX Z base PL mm) zzRI rX11_gain.cells rX11_gain.slots (f_X11_gain_15 p0 p1 p2 s0 σ) σ 0 0 15 [(0, .int p0), (1, .int p1), (2, .int p2)] [.int s0] := by
  unfold f_X11_gain_15
  refine zz_istore_n (loc' := [(3, .int s0), (0, .int p0), (1, .int p1), (2, .int p2)]) C dX11_gain_15 rfl (by decide) rfl ?_
  refine zz_iconst (v := 3) C dX11_gain_16 (by decide) ?_
  refine zz_iload_n C dX11_gain_17 rfl 2 rfl ?_
  refine zz_imul C dX11_gain_18 ?_
  refine zz_iload_n C dX11_gain_19 rfl 3 rfl ?_
  refine zz_iload_n C dX11_gain_20 rfl 1 rfl ?_
  refine zz_imul C dX11_gain_21 ?_
  refine zz_isub C dX11_gain_22 ?_
  refine zz_iload_n C dX11_gain_23 rfl 0 rfl ?_
  refine zz_iadd C dX11_gain_24 ?_
  exact zz_iret C rfl rfl (fun _ h9 => h9) (Nat.zero_le _) (Nat.zero_le _) dX11_gain_25
set_option maxHeartbeats 4000000 in
set_option maxRecDepth 100000 in
theorem w_X11_gain_14 {l : Launch} {Z : zzG} {base : Nat} {PL : Nat → Option (Nat × Int32)} {mm : zzS} {p : Program} {e : Env} {s : State} {m : MethodId} {args : Array Value} {below : List Frame} {meth : Method} {c : Code} (C : zzCx p m meth c s args cX11_gain 4 wsX11_gain RX11 (some .int) Z) (p0 : Int32)  (p1 : Int32)  (p2 : Int32)    (σ : zzS) : zzGO p l e rX11_gain s m args below meth c 4 (zzA base) (zzX Z base PL mm) (zzX Z base PL mm) zzRI rX11_gain.cells rX11_gain.slots (f_X11_gain_14 p0 p1 p2 σ) σ 0 0 14 [(0, .int p0), (1, .int p1), (2, .int p2)] [] := by
  unfold f_X11_gain_14
  refine zz_iconst (v := 0) C dX11_gain_14 (by decide) ?_
  refine zz_sub (loc' := [(0, .int p0), (1, .int p1), (2, .int p2)]) [0, 1, 2] rfl ?_
  exact w_X11_gain_15 C p0 p1 p2 (0 : Int32) σ
set_option maxHeartbeats 4000000 in
set_option maxRecDepth 100000 in
theorem w_X11_gain_e {l : Launch} {Z : zzG} {base : Nat} {PL : Nat → Option (Nat × Int32)} {mm : zzS} {p : Program} {e : Env} {s : State} {m : MethodId} {args : Array Value} {below : List Frame} {meth : Method} {c : Code} (C : zzCx p m meth c s args cX11_gain 4 wsX11_gain RX11 (some .int) Z) (p0 : Int32)  (p1 : Int32)  (p2 : Int32)  (σ : zzS) : zzGO p l e rX11_gain s m args below meth c 4 (zzA base) (zzX Z base PL mm) (zzX Z base PL mm) zzRI rX11_gain.cells rX11_gain.slots (f_X11_gain p0 p1 p2 σ) σ 0 0 0 [(0, .int p0), (1, .int p1), (2, .int p2)] [] := by
  unfold f_X11_gain
  refine zz_iload_n C dX11_gain_0 rfl 0 rfl ?_
  refine zz_iconst (v := 1) C dX11_gain_1 (by decide) ?_
  refine zz_icmp_ne (tgt := 14) C dX11_gain_2 (by decide) (fun h1 => ?_) (fun h1 => ?_)
  · refine zz_sub (loc' := [(0, .int p0), (1, .int p1), (2, .int p2)]) [0, 1, 2] rfl ?_
    exact w_X11_gain_14 C p0 p1 p2 σ
  · refine zz_iload_n C dX11_gain_5 rfl 1 rfl ?_
    refine zz_iconst (v := 1) C dX11_gain_6 (by decide) ?_
    refine zz_icmp_ne (tgt := 14) C dX11_gain_7 (by decide) (fun h2 => ?_) (fun h2 => ?_)
    · refine zz_sub (loc' := [(0, .int p0), (1, .int p1), (2, .int p2)]) [0, 1, 2] rfl ?_
      exact w_X11_gain_14 C p0 p1 p2 σ
    · refine zz_iconst (v := 2) C dX11_gain_10 (by decide) ?_
      refine zz_goto (tgt := 15) C dX11_gain_11 (by decide) ?_
      refine zz_sub (loc' := [(0, .int p0), (1, .int p1), (2, .int p2)]) [0, 1, 2] rfl ?_
      exact w_X11_gain_15 C p0 p1 p2 (2 : Int32) σ
set_option maxHeartbeats 4000000 in
set_option maxRecDepth 100000 in
theorem k_X11_gain {l : Launch} {Z : zzG} {base : Nat} {PL : Nat → Option (Nat × Int32)} {mm : zzS} (p0 : Int32)  (p1 : Int32)  (p2 : Int32)  (σ : zzS) : zzCT l yX11_gain wsX11_gain rX11_gain (zzA base) Z (zzX Z base PL mm) (zzX Z base PL mm) zzRI [.int p0, .int p1, .int p2] (f_X11_gain p0 p1 p2 σ) σ :=
  zzCT_of (cc := cX11_gain) (nL := 4) (ret := (some .int)) (by decide) rfl (Nat.le_of_ble_eq_true rfl) [(0, .int p0), (1, .int p1), (2, .int p2)] rfl (fun p e s m args below meth c C => w_X11_gain_e C p0 p1 p2 σ)
abbrev rX11_isBestChoice : Room := { frames := 1, cells := 0, slots := 0, locals := 23 }

set_option maxHeartbeats 4000000 in
set_option maxRecDepth 100000 in
theorem w_X11_isBestChoice_27 {l : Launch} {Z : zzG} {base : Nat} {PL : Nat → Option (Nat × Int32)} {mm : zzS} {p : Program} {e : Env} {s : State} {m : MethodId} {args : Array Value} {below : List Frame} {meth : Method} {c : Code} (C : zzCx p m meth c s args cX11_isBestChoice 5 wsX11_isBestChoice RX11 (some .boolean) Z) (p0 : Int32)  (p1 : Int32)  (p2 : Int32)  (p3 : Int32)    (σ : zzS) : zzGO p l e rX11_isBestChoice s m args below meth c 5 (zzA base) (zzX Z base PL mm) (zzX Z base PL mm) zzRI rX11_isBestChoice.cells rX11_isBestChoice.slots (f_X11_isBestChoice_27 p0 p1 p2 p3 σ) σ 0 0 27 [] [] := by
  unfold f_X11_isBestChoice_27
  refine zz_iconst (v := 1) C dX11_isBestChoice_27 (by decide) ?_
  refine zz_goto (tgt := 32) C dX11_isBestChoice_28 (by decide) ?_
  exact zz_zret C rfl (Or.inr rfl) rfl (fun _ h9 => h9) (Nat.zero_le _) (Nat.zero_le _) dX11_isBestChoice_32
set_option maxHeartbeats 4000000 in
set_option maxRecDepth 100000 in
theorem w_X11_isBestChoice_e {l : Launch} {Z : zzG} {base : Nat} {PL : Nat → Option (Nat × Int32)} {mm : zzS} {p : Program} {e : Env} {s : State} {m : MethodId} {args : Array Value} {below : List Frame} {meth : Method} {c : Code} (C : zzCx p m meth c s args cX11_isBestChoice 5 wsX11_isBestChoice RX11 (some .boolean) Z) (p0 : Int32)  (p1 : Int32)  (p2 : Int32)  (p3 : Int32)  (σ : zzS) : zzGO p l e rX11_isBestChoice s m args below meth c 5 (zzA base) (zzX Z base PL mm) (zzX Z base PL mm) zzRI rX11_isBestChoice.cells rX11_isBestChoice.slots (f_X11_isBestChoice p0 p1 p2 p3 σ) σ 0 0 0 [(0, .int p0), (1, .int p1), (2, .int p2), (3, .int p3)] [] := by
  unfold f_X11_isBestChoice
  refine zz_iconst (v := 1) C dX11_isBestChoice_0 (by decide) ?_
  refine zz_iload_n C dX11_isBestChoice_1 rfl 0 rfl ?_
  refine zz_isub C dX11_isBestChoice_2 ?_
  refine zz_istoreX (locf := fun x1 => [(4, .int x1), (0, .int p0), (1, .int p1), (2, .int p2), (3, .int p3)]) C dX11_isBestChoice_3 (by decide) (fun _ => rfl) (fun x1 => ?_)
  refine zz_iload C dX11_isBestChoice_5 0 rfl ?_
  refine zz_iload_n C dX11_isBestChoice_7 rfl 3 rfl ?_
  refine zz_icmp_gt (tgt := 27) C dX11_isBestChoice_8 (by decide) (fun h2 => ?_) (fun h2 => ?_)
  · refine zz_sub (loc' := []) [] rfl ?_
    exact w_X11_isBestChoice_27 C p0 p1 p2 p3 σ
  · refine zz_iload C dX11_isBestChoice_11 0 rfl ?_
    refine zz_iload_n C dX11_isBestChoice_13 rfl 2 rfl ?_
    refine zz_iload_n C dX11_isBestChoice_14 rfl 4 rfl ?_
    refine zz_callS (As := [.int x1, .int p1, .int p3]) (rest := []) C rfl (k_X11_gain x1 p1 p3 σ) (va_cwS 3 C.1.2.2.2.2 gX11_isBestChoice_X11_gain rfl rfl rfl (by decide +kernel) ⟨Nat.le_of_ble_eq_true rfl, Nat.le_of_ble_eq_true rfl⟩) rfl (Nat.le_of_ble_eq_true rfl) ⟨Nat.zero_le _, Nat.zero_le _⟩ dX11_isBestChoice_15 (zz_kI rfl rfl (fun r3 σ4 => ?_))
    refine zz_iload_n C dX11_isBestChoice_18 rfl 1 rfl ?_
    refine zz_iload_n C dX11_isBestChoice_19 rfl 2 rfl ?_
    refine zz_iload_n C dX11_isBestChoice_20 rfl 4 rfl ?_
    refine zz_callS (As := [.int p0, .int p1, .int p3]) (rest := [.int r3]) C rfl (k_X11_gain p0 p1 p3 σ4) (va_cwS 3 C.1.2.2.2.2 gX11_isBestChoice_X11_gain rfl rfl rfl (by decide +kernel) ⟨Nat.le_of_ble_eq_true rfl, Nat.le_of_ble_eq_true rfl⟩) rfl (Nat.le_of_ble_eq_true rfl) ⟨Nat.zero_le _, Nat.zero_le _⟩ dX11_isBestChoice_21 (zz_kI rfl rfl (fun r5 σ6 => ?_))
    refine zz_icmp_gt (tgt := 31) C dX11_isBestChoice_24 (by decide) (fun h7 => ?_) (fun h7 => ?_)
    · refine zz_iconst (v := 0) C dX11_isBestChoice_31 (by decide) ?_
      exact zz_zret C rfl (Or.inl rfl) rfl (fun _ h9 => h9) (Nat.zero_le _) (Nat.zero_le _) dX11_isBestChoice_32
    · refine zz_sub (loc' := []) [] rfl ?_
      exact w_X11_isBestChoice_27 C p0 p1 p2 p3 σ6
set_option maxHeartbeats 4000000 in
set_option maxRecDepth 100000 in
theorem k_X11_isBestChoice {l : Launch} {Z : zzG} {base : Nat} {PL : Nat → Option (Nat × Int32)} {mm : zzS} (p0 : Int32)  (p1 : Int32)  (p2 : Int32)  (p3 : Int32)  (σ : zzS) : zzCT l yX11_isBestChoice wsX11_isBestChoice rX11_isBestChoice (zzA base) Z (zzX Z base PL mm) (zzX Z base PL mm) zzRI [.int p0, .int p1, .int p2, .int p3] (f_X11_isBestChoice p0 p1 p2 p3 σ) σ :=
  zzCT_of (cc := cX11_isBestChoice) (nL := 5) (ret := (some .boolean)) (by decide) rfl (Nat.le_of_ble_eq_true rfl) [(0, .int p0), (1, .int p1), (2, .int p2), (3, .int p3)] rfl (fun p e s m args below meth c C => w_X11_isBestChoice_e C p0 p1 p2 p3 σ)
abbrev rX11_game : Room := { frames := 4, cells := 0, slots := 0, locals := 88 }
set_option maxHeartbeats 4000000 in
set_option maxRecDepth 100000 in
theorem vr_X11_game_86 {l : Launch} {Z : zzG} {base : Nat} {PL : Nat → Option (Nat × Int32)} {mm : zzS} {p : Program} {e : Env} {s : State} {m : MethodId} {args : Array Value} {below : List Frame} {meth : Method} {c : Code} {cells slots : Nat} {σ : zzS} {loc : List (Nat × Value)} {rest : List Value} (C : zzCx p m meth c s args cX11_game 9 wsX11_game RX11 (some .int) Z) {q : Nat} {kf : Nat × Int32} (hq : PL q = some kf) (hroom : (rest.map fun v => v.category).sum ≤ 8) (hcs : cells + 0 ≤ (rX11_game).cells ∧ slots + 0 ≤ (rX11_game).slots := by exact ⟨Nat.zero_le _, Nat.zero_le _⟩) :
    ∀ r1 σ2, some (zzgrows kf, σ) = some (r1, σ2) → ∀ (H : Heap) (locs : List Loc) (ls : Array Slot), zzX Z base PL mm σ H → lv_has ls 9 loc → va_Run p l e rX11_game s m args below meth c H locs cells slots 0 0 (F0 m 86 ls (.ref q :: rest)) rest (zzQ zzRI (zzX Z base PL mm) (zzA base) r1 σ2 #[.ref q]) (zzA base) := by
  intro r1 σ2 hr H locs ls hW hl
  have h8 := zz_kind8 (hW.1.2.2.1 q kf hq).1
  obtain ⟨k9, f9⟩ := kf
  rcases h8 with h8 | h8 | h8 | h8 | h8 | h8 | h8 | h8
  · have h8 : k9 = 0 := h8
    subst h8
    have ct := k_X6_grows (l := l) (Z := Z) (base := base) (PL := PL) (mm := mm) (0, f9) q hq σ r1 σ2 hr
    exact va_runV (As := []) (C := RX6) C.1 ct (cwV 0 C.1.2.2.2.2 gX11_game_X6_grows rfl rfl rfl (by decide +kernel) ⟨Nat.le_of_ble_eq_true rfl, Nat.le_of_ble_eq_true rfl⟩) ⟨zzPc_blind, zz_recv C.2.2.2 (zzX_pers1 hq H hW) rfl, fun U hU hWm => zzPc_at C.2.2.2 hU hWm hW⟩ rfl rfl hl.1 rfl (lv_room hroom) dX11_game_86 hcs
  · have h8 : k9 = 1 := h8
    subst h8
    have ct := k_X9_grows (l := l) (Z := Z) (base := base) (PL := PL) (mm := mm) (1, f9) q hq (Or.inl rfl) σ r1 σ2 hr
    exact va_runU (As := []) (C := RX9) C.1 ct (va_cwO 0 C.1.2.2.2.2 gX11_game_X9_grows_u104X9 rfl rfl rfl (List.mem_of_getElem? (i := 84) rfl) (by decide +kernel) ⟨Nat.le_of_ble_eq_true rfl, Nat.le_of_ble_eq_true rfl⟩) ⟨zzPc_blind, zz_recv C.2.2.2 (zzX_pers1 hq H hW) rfl, fun U hU hWm => zzPc_at C.2.2.2 hU hWm hW⟩ rfl rfl hl.1 rfl (lv_room hroom) dX11_game_86 hcs
  · have h8 : k9 = 2 := h8
    subst h8
    have ct := k_X0_grows (l := l) (Z := Z) (base := base) (PL := PL) (mm := mm) (2, f9) q hq (Or.inl rfl) σ r1 σ2 hr
    exact va_runU (As := []) (C := RX0) C.1 ct (va_cwO 0 C.1.2.2.2.2 gX11_game_X0_grows_u104X0 rfl rfl rfl (List.mem_of_getElem? (i := 84) rfl) (by decide +kernel) ⟨Nat.le_of_ble_eq_true rfl, Nat.le_of_ble_eq_true rfl⟩) ⟨zzPc_blind, zz_recv C.2.2.2 (zzX_pers1 hq H hW) rfl, fun U hU hWm => zzPc_at C.2.2.2 hU hWm hW⟩ rfl rfl hl.1 rfl (lv_room hroom) dX11_game_86 hcs
  · have h8 : k9 = 3 := h8
    subst h8
    have ct := k_X1_grows (l := l) (Z := Z) (base := base) (PL := PL) (mm := mm) (3, f9) q hq rfl σ r1 σ2 hr
    exact va_runU (As := []) (C := RX1) C.1 ct (va_cwO 0 C.1.2.2.2.2 gX11_game_X1_grows_u104X1 rfl rfl rfl (List.mem_of_getElem? (i := 84) rfl) (by decide +kernel) ⟨Nat.le_of_ble_eq_true rfl, Nat.le_of_ble_eq_true rfl⟩) ⟨zzPc_blind, zz_recv C.2.2.2 (zzX_pers1 hq H hW) rfl, fun U hU hWm => zzPc_at C.2.2.2 hU hWm hW⟩ rfl rfl hl.1 rfl (lv_room hroom) dX11_game_86 hcs
  · have h8 : k9 = 4 := h8
    subst h8
    have ct := k_X4_grows (l := l) (Z := Z) (base := base) (PL := PL) (mm := mm) (4, f9) q hq rfl σ r1 σ2 hr
    exact va_runU (As := []) (C := RX4) C.1 ct (va_cwO 0 C.1.2.2.2.2 gX11_game_X4_grows_u104X4 rfl rfl rfl (List.mem_of_getElem? (i := 84) rfl) (by decide +kernel) ⟨Nat.le_of_ble_eq_true rfl, Nat.le_of_ble_eq_true rfl⟩) ⟨zzPc_blind, zz_recv C.2.2.2 (zzX_pers1 hq H hW) rfl, fun U hU hWm => zzPc_at C.2.2.2 hU hWm hW⟩ rfl rfl hl.1 rfl (lv_room hroom) dX11_game_86 hcs
  · have h8 : k9 = 5 := h8
    subst h8
    have ct := k_X5_grows (l := l) (Z := Z) (base := base) (PL := PL) (mm := mm) (5, f9) q hq rfl σ r1 σ2 hr
    exact va_runU (As := []) (C := RX5) C.1 ct (va_cwO 0 C.1.2.2.2.2 gX11_game_X5_grows_u104X5 rfl rfl rfl (List.mem_of_getElem? (i := 84) rfl) (by decide +kernel) ⟨Nat.le_of_ble_eq_true rfl, Nat.le_of_ble_eq_true rfl⟩) ⟨zzPc_blind, zz_recv C.2.2.2 (zzX_pers1 hq H hW) rfl, fun U hU hWm => zzPc_at C.2.2.2 hU hWm hW⟩ rfl rfl hl.1 rfl (lv_room hroom) dX11_game_86 hcs
  · have h8 : k9 = 6 := h8
    subst h8
    have ct := k_X3_grows (l := l) (Z := Z) (base := base) (PL := PL) (mm := mm) (6, f9) q hq rfl σ r1 σ2 hr
    exact va_runU (As := []) (C := RX3) C.1 ct (va_cwO 0 C.1.2.2.2.2 gX11_game_X3_grows_u104X3 rfl rfl rfl (List.mem_of_getElem? (i := 84) rfl) (by decide +kernel) ⟨Nat.le_of_ble_eq_true rfl, Nat.le_of_ble_eq_true rfl⟩) ⟨zzPc_blind, zz_recv C.2.2.2 (zzX_pers1 hq H hW) rfl, fun U hU hWm => zzPc_at C.2.2.2 hU hWm hW⟩ rfl rfl hl.1 rfl (lv_room hroom) dX11_game_86 hcs
  · have h8 : k9 = 7 := h8
    subst h8
    have ct := k_X8_grows (l := l) (Z := Z) (base := base) (PL := PL) (mm := mm) (7, f9) q hq rfl σ r1 σ2 hr
    exact va_runU (As := []) (C := RX8) C.1 ct (va_cwO 0 C.1.2.2.2.2 gX11_game_X8_grows_u104X8 rfl rfl rfl (List.mem_of_getElem? (i := 84) rfl) (by decide +kernel) ⟨Nat.le_of_ble_eq_true rfl, Nat.le_of_ble_eq_true rfl⟩) ⟨zzPc_blind, zz_recv C.2.2.2 (zzX_pers1 hq H hW) rfl, fun U hU hWm => zzPc_at C.2.2.2 hU hWm hW⟩ rfl rfl hl.1 rfl (lv_room hroom) dX11_game_86 hcs

set_option maxHeartbeats 4000000 in
set_option maxRecDepth 100000 in
theorem vr_X11_game_73 {l : Launch} {Z : zzG} {base : Nat} {PL : Nat → Option (Nat × Int32)} {mm : zzS} {p : Program} {e : Env} {s : State} {m : MethodId} {args : Array Value} {below : List Frame} {meth : Method} {c : Code} {cells slots : Nat} {σ : zzS} {loc : List (Nat × Value)} {rest : List Value} (C : zzCx p m meth c s args cX11_game 9 wsX11_game RX11 (some .int) Z) {q : Nat} {kf : Nat × Int32} (hq : PL q = some kf) (hroom : (rest.map fun v => v.category).sum ≤ 8) (hcs : cells + 0 ≤ (rX11_game).cells ∧ slots + 0 ≤ (rX11_game).slots := by exact ⟨Nat.zero_le _, Nat.zero_le _⟩) :
    ∀ r1 σ2, some (zzgrows kf, σ) = some (r1, σ2) → ∀ (H : Heap) (locs : List Loc) (ls : Array Slot), zzX Z base PL mm σ H → lv_has ls 9 loc → va_Run p l e rX11_game s m args below meth c H locs cells slots 0 0 (F0 m 73 ls (.ref q :: rest)) rest (zzQ zzRI (zzX Z base PL mm) (zzA base) r1 σ2 #[.ref q]) (zzA base) := by
  intro r1 σ2 hr H locs ls hW hl
  have h8 := zz_kind8 (hW.1.2.2.1 q kf hq).1
  obtain ⟨k9, f9⟩ := kf
  rcases h8 with h8 | h8 | h8 | h8 | h8 | h8 | h8 | h8
  · have h8 : k9 = 0 := h8
    subst h8
    have ct := k_X6_grows (l := l) (Z := Z) (base := base) (PL := PL) (mm := mm) (0, f9) q hq σ r1 σ2 hr
    exact va_runV (As := []) (C := RX6) C.1 ct (cwV 0 C.1.2.2.2.2 gX11_game_X6_grows rfl rfl rfl (by decide +kernel) ⟨Nat.le_of_ble_eq_true rfl, Nat.le_of_ble_eq_true rfl⟩) ⟨zzPc_blind, zz_recv C.2.2.2 (zzX_pers1 hq H hW) rfl, fun U hU hWm => zzPc_at C.2.2.2 hU hWm hW⟩ rfl rfl hl.1 rfl (lv_room hroom) dX11_game_73 hcs
  · have h8 : k9 = 1 := h8
    subst h8
    have ct := k_X9_grows (l := l) (Z := Z) (base := base) (PL := PL) (mm := mm) (1, f9) q hq (Or.inl rfl) σ r1 σ2 hr
    exact va_runU (As := []) (C := RX9) C.1 ct (va_cwO 0 C.1.2.2.2.2 gX11_game_X9_grows_u104X9 rfl rfl rfl (List.mem_of_getElem? (i := 84) rfl) (by decide +kernel) ⟨Nat.le_of_ble_eq_true rfl, Nat.le_of_ble_eq_true rfl⟩) ⟨zzPc_blind, zz_recv C.2.2.2 (zzX_pers1 hq H hW) rfl, fun U hU hWm => zzPc_at C.2.2.2 hU hWm hW⟩ rfl rfl hl.1 rfl (lv_room hroom) dX11_game_73 hcs
  · have h8 : k9 = 2 := h8
    subst h8
    have ct := k_X0_grows (l := l) (Z := Z) (base := base) (PL := PL) (mm := mm) (2, f9) q hq (Or.inl rfl) σ r1 σ2 hr
    exact va_runU (As := []) (C := RX0) C.1 ct (va_cwO 0 C.1.2.2.2.2 gX11_game_X0_grows_u104X0 rfl rfl rfl (List.mem_of_getElem? (i := 84) rfl) (by decide +kernel) ⟨Nat.le_of_ble_eq_true rfl, Nat.le_of_ble_eq_true rfl⟩) ⟨zzPc_blind, zz_recv C.2.2.2 (zzX_pers1 hq H hW) rfl, fun U hU hWm => zzPc_at C.2.2.2 hU hWm hW⟩ rfl rfl hl.1 rfl (lv_room hroom) dX11_game_73 hcs
  · have h8 : k9 = 3 := h8
    subst h8
    have ct := k_X1_grows (l := l) (Z := Z) (base := base) (PL := PL) (mm := mm) (3, f9) q hq rfl σ r1 σ2 hr
    exact va_runU (As := []) (C := RX1) C.1 ct (va_cwO 0 C.1.2.2.2.2 gX11_game_X1_grows_u104X1 rfl rfl rfl (List.mem_of_getElem? (i := 84) rfl) (by decide +kernel) ⟨Nat.le_of_ble_eq_true rfl, Nat.le_of_ble_eq_true rfl⟩) ⟨zzPc_blind, zz_recv C.2.2.2 (zzX_pers1 hq H hW) rfl, fun U hU hWm => zzPc_at C.2.2.2 hU hWm hW⟩ rfl rfl hl.1 rfl (lv_room hroom) dX11_game_73 hcs
  · have h8 : k9 = 4 := h8
    subst h8
    have ct := k_X4_grows (l := l) (Z := Z) (base := base) (PL := PL) (mm := mm) (4, f9) q hq rfl σ r1 σ2 hr
    exact va_runU (As := []) (C := RX4) C.1 ct (va_cwO 0 C.1.2.2.2.2 gX11_game_X4_grows_u104X4 rfl rfl rfl (List.mem_of_getElem? (i := 84) rfl) (by decide +kernel) ⟨Nat.le_of_ble_eq_true rfl, Nat.le_of_ble_eq_true rfl⟩) ⟨zzPc_blind, zz_recv C.2.2.2 (zzX_pers1 hq H hW) rfl, fun U hU hWm => zzPc_at C.2.2.2 hU hWm hW⟩ rfl rfl hl.1 rfl (lv_room hroom) dX11_game_73 hcs
  · have h8 : k9 = 5 := h8
    subst h8
    have ct := k_X5_grows (l := l) (Z := Z) (base := base) (PL := PL) (mm := mm) (5, f9) q hq rfl σ r1 σ2 hr
    exact va_runU (As := []) (C := RX5) C.1 ct (va_cwO 0 C.1.2.2.2.2 gX11_game_X5_grows_u104X5 rfl rfl rfl (List.mem_of_getElem? (i := 84) rfl) (by decide +kernel) ⟨Nat.le_of_ble_eq_true rfl, Nat.le_of_ble_eq_true rfl⟩) ⟨zzPc_blind, zz_recv C.2.2.2 (zzX_pers1 hq H hW) rfl, fun U hU hWm => zzPc_at C.2.2.2 hU hWm hW⟩ rfl rfl hl.1 rfl (lv_room hroom) dX11_game_73 hcs
  · have h8 : k9 = 6 := h8
    subst h8
    have ct := k_X3_grows (l := l) (Z := Z) (base := base) (PL := PL) (mm := mm) (6, f9) q hq rfl σ r1 σ2 hr
    exact va_runU (As := []) (C := RX3) C.1 ct (va_cwO 0 C.1.2.2.2.2 gX11_game_X3_grows_u104X3 rfl rfl rfl (List.mem_of_getElem? (i := 84) rfl) (by decide +kernel) ⟨Nat.le_of_ble_eq_true rfl, Nat.le_of_ble_eq_true rfl⟩) ⟨zzPc_blind, zz_recv C.2.2.2 (zzX_pers1 hq H hW) rfl, fun U hU hWm => zzPc_at C.2.2.2 hU hWm hW⟩ rfl rfl hl.1 rfl (lv_room hroom) dX11_game_73 hcs
  · have h8 : k9 = 7 := h8
    subst h8
    have ct := k_X8_grows (l := l) (Z := Z) (base := base) (PL := PL) (mm := mm) (7, f9) q hq rfl σ r1 σ2 hr
    exact va_runU (As := []) (C := RX8) C.1 ct (va_cwO 0 C.1.2.2.2.2 gX11_game_X8_grows_u104X8 rfl rfl rfl (List.mem_of_getElem? (i := 84) rfl) (by decide +kernel) ⟨Nat.le_of_ble_eq_true rfl, Nat.le_of_ble_eq_true rfl⟩) ⟨zzPc_blind, zz_recv C.2.2.2 (zzX_pers1 hq H hW) rfl, fun U hU hWm => zzPc_at C.2.2.2 hU hWm hW⟩ rfl rfl hl.1 rfl (lv_room hroom) dX11_game_73 hcs

set_option maxHeartbeats 4000000 in
set_option maxRecDepth 100000 in
theorem w_X11_game_146 {l : Launch} {Z : zzG} {base : Nat} {PL : Nat → Option (Nat × Int32)} {mm : zzS} {p : Program} {e : Env} {s : State} {m : MethodId} {args : Array Value} {below : List Frame} {meth : Method} {c : Code} (C : zzCx p m meth c s args cX11_game 9 wsX11_game RX11 (some .int) Z) (p0 : Int32)  (p1 : Int32)  (k94 : Int32 → Int32 → Int32 → Int32 → Int32 → zzS → Option (Int32 × zzS)) (hk94 : ∀ (l3 : Int32)  (l4 : Int32)  (l5 : Int32)  (l6 : Int32)  (l7 : Int32)  (σ : zzS), zzGO p l e rX11_game s m args below meth c 9 (zzA base) (zzX Z base PL mm) (zzX Z base PL mm) zzRI rX11_game.cells rX11_game.slots (k94 l3 l4 l5 l6 l7 σ) σ 0 0 94 [(3, .int l3), (4, .int l4), (5, .int l5), (6, .int l6), (7, .int l7)] []) (k103 : Int32 → Int32 → Int32 → Int32 → Int32 → Int32 → zzS → Option (Int32 × zzS)) (hk103 : ∀ (l3 : Int32)  (l4 : Int32)  (l5 : Int32)  (l6 : Int32)  (l7 : Int32)  (l8 : Int32)  (σ : zzS), zzGO p l e rX11_game s m args below meth c 9 (zzA base) (zzX Z base PL mm) (zzX Z base PL mm) zzRI rX11_game.cells rX11_game.slots (k103 l3 l4 l5 l6 l7 l8 σ) σ 0 0 103 [(3, .int l3), (4, .int l4), (5, .int l5), (6, .int l6), (7, .int l7), (8, .int l8)] []) (l3 : Int32)  (l4 : Int32)  (l5 : Int32)  (l6 : Int32)  (l7 : Int32)  (l8 : Int32)  (σ : zzS) : zzGO p l e rX11_game s m args below meth c 9 (zzA base) (zzX Z base PL mm) (zzX Z base PL mm) zzRI rX11_game.cells rX11_game.slots (f_X11_game_146 k94 k103 p0 p1 l3 l4 l5 l6 l7 l8 σ) σ 0 0 146 [(3, .int l3), (4, .int l4), (5, .int l5), (6, .int l6), (7, .int l7), (8, .int l8)] [] := by
  unfold f_X11_game_146
  refine zz_iincX (d := 1) (locf := fun x1 => [(8, .int x1), (3, .int l3), (4, .int l4), (5, .int l5), (6, .int l6), (7, .int l7)]) C dX11_game_146 (k := 5) rfl (by decide) (by decide) (fun _ => rfl) (fun x1 => ?_)
  refine zz_goto (tgt := 103) C dX11_game_149 (by decide) ?_
  refine zz_sub (loc' := [(3, .int l3), (4, .int l4), (5, .int l5), (6, .int l6), (7, .int l7), (8, .int x1)]) [1, 2, 3, 4, 5, 0] rfl ?_
  exact hk103 l3 l4 l5 l6 l7 x1 σ
set_option maxHeartbeats 4000000 in
set_option maxRecDepth 100000 in
theorem w_X11_game_103b {l : Launch} {Z : zzG} {base : Nat} {PL : Nat → Option (Nat × Int32)} {mm : zzS} {p : Program} {e : Env} {s : State} {m : MethodId} {args : Array Value} {below : List Frame} {meth : Method} {c : Code} (C : zzCx p m meth c s args cX11_game 9 wsX11_game RX11 (some .int) Z) (p0 : Int32)  (p1 : Int32)  (k94 : Int32 → Int32 → Int32 → Int32 → Int32 → zzS → Option (Int32 × zzS)) (hk94 : ∀ (l3 : Int32)  (l4 : Int32)  (l5 : Int32)  (l6 : Int32)  (l7 : Int32)  (σ : zzS), zzGO p l e rX11_game s m args below meth c 9 (zzA base) (zzX Z base PL mm) (zzX Z base PL mm) zzRI rX11_game.cells rX11_game.slots (k94 l3 l4 l5 l6 l7 σ) σ 0 0 94 [(3, .int l3), (4, .int l4), (5, .int l5), (6, .int l6), (7, .int l7)] []) (k103 : Int32 → Int32 → Int32 → Int32 → Int32 → Int32 → zzS → Option (Int32 × zzS)) (hk103 : ∀ (l3 : Int32)  (l4 : Int32)  (l5 : Int32)  (l6 : Int32)  (l7 : Int32)  (l8 : Int32)  (σ : zzS), zzGO p l e rX11_game s m args below meth c 9 (zzA base) (zzX Z base PL mm) (zzX Z base PL mm) zzRI rX11_game.cells rX11_game.slots (k103 l3 l4 l5 l6 l7 l8 σ) σ 0 0 103 [(3, .int l3), (4, .int l4), (5, .int l5), (6, .int l6), (7, .int l7), (8, .int l8)] []) (l3 : Int32)  (l4 : Int32)  (l5 : Int32)  (l6 : Int32)  (l7 : Int32)  (l8 : Int32)  (σ : zzS) : zzGO p l e rX11_game s m args below meth c 9 (zzA base) (zzX Z base PL mm) (zzX Z base PL mm) zzRI rX11_game.cells rX11_game.slots (f_X11_game_103b k94 k103 p0 p1 l3 l4 l5 l6 l7 l8 σ) σ 0 0 103 [(3, .int l3), (4, .int l4), (5, .int l5), (6, .int l6), (7, .int l7), (8, .int l8)] [] := by
  unfold f_X11_game_103b
  refine zz_iload C dX11_game_103 5 rfl ?_
  refine zz_iload C dX11_game_105 1 rfl ?_
  refine zz_icmp_gt (tgt := 152) C dX11_game_107 (by decide) (fun h1 => ?_) (fun h1 => ?_)
  · refine zz_iincX (d := 1) (locf := fun x2 => [(7, .int x2), (3, .int l3), (4, .int l4), (5, .int l5), (6, .int l6), (8, .int l8)]) C dX11_game_152 (k := 4) rfl (by decide) (by decide) (fun _ => rfl) (fun x2 => ?_)
    refine zz_goto (tgt := 94) C dX11_game_155 (by decide) ?_
    refine zz_sub (loc' := [(3, .int l3), (4, .int l4), (5, .int l5), (6, .int l6), (7, .int x2)]) [1, 2, 3, 4, 0] rfl ?_
    exact hk94 l3 l4 l5 l6 x2 σ
  · refine zz_iload C dX11_game_110 4 rfl ?_
    refine zz_iload C dX11_game_112 5 rfl ?_
    refine zz_iload_n C dX11_game_114 rfl 0 rfl ?_
    refine zz_iload C dX11_game_115 2 rfl ?_
    refine zz_callS (As := [.int l7, .int l8, .int l3, .int l5]) (rest := []) C rfl (k_X11_isBestChoice l7 l8 l3 l5 σ) (va_cwS 4 C.1.2.2.2.2 gX11_game_X11_isBestChoice rfl rfl rfl (by decide +kernel) ⟨Nat.le_of_ble_eq_true rfl, Nat.le_of_ble_eq_true rfl⟩) rfl (Nat.le_of_ble_eq_true rfl) ⟨Nat.zero_le _, Nat.zero_le _⟩ dX11_game_117 (zz_kI rfl rfl (fun r3 σ4 => ?_))
    refine zz_if_eq (tgt := 146) C dX11_game_120 (by decide) (fun h5 => ?_) (fun h5 => ?_)
    · refine zz_sub (loc' := [(3, .int l3), (4, .int l4), (5, .int l5), (6, .int l6), (7, .int l7), (8, .int l8)]) [0, 1, 2, 3, 4, 5] rfl ?_
      exact w_X11_game_146 C p0 p1 k94 hk94 k103 hk103 l3 l4 l5 l6 l7 l8 σ4
    · refine zz_iload C dX11_game_123 5 rfl ?_
      refine zz_iload C dX11_game_125 4 rfl ?_
      refine zz_iload C dX11_game_127 1 rfl ?_
      refine zz_iload C dX11_game_129 3 rfl ?_
      refine zz_callS (As := [.int l8, .int l7, .int l4, .int l6]) (rest := []) C rfl (k_X11_isBestChoice l8 l7 l4 l6 σ4) (va_cwS 4 C.1.2.2.2.2 gX11_game_X11_isBestChoice rfl rfl rfl (by decide +kernel) ⟨Nat.le_of_ble_eq_true rfl, Nat.le_of_ble_eq_true rfl⟩) rfl (Nat.le_of_ble_eq_true rfl) ⟨Nat.zero_le _, Nat.zero_le _⟩ dX11_game_131 (zz_kI rfl rfl (fun r6 σ7 => ?_))
      refine zz_if_eq (tgt := 146) C dX11_game_134 (by decide) (fun h8 => ?_) (fun h8 => ?_)
      · refine zz_sub (loc' := [(3, .int l3), (4, .int l4), (5, .int l5), (6, .int l6), (7, .int l7), (8, .int l8)]) [0, 1, 2, 3, 4, 5] rfl ?_
        exact w_X11_game_146 C p0 p1 k94 hk94 k103 hk103 l3 l4 l5 l6 l7 l8 σ7
      · refine zz_bipush (v := 10) C dX11_game_137 (by decide) ?_
        refine zz_iload C dX11_game_139 4 rfl ?_
        refine zz_imul C dX11_game_141 ?_
        refine zz_iload C dX11_game_142 5 rfl ?_
        refine zz_iadd C dX11_game_144 ?_
        exact zz_iret C rfl rfl (fun _ h9 => h9) (Nat.zero_le _) (Nat.zero_le _) dX11_game_145
set_option maxHeartbeats 4000000 in
set_option maxRecDepth 100000 in
theorem w_X11_game_103 {l : Launch} {Z : zzG} {base : Nat} {PL : Nat → Option (Nat × Int32)} {mm : zzS} {p : Program} {e : Env} {s : State} {m : MethodId} {args : Array Value} {below : List Frame} {meth : Method} {c : Code} (C : zzCx p m meth c s args cX11_game 9 wsX11_game RX11 (some .int) Z) (p0 : Int32)  (p1 : Int32)  (k94 : Int32 → Int32 → Int32 → Int32 → Int32 → zzS → Option (Int32 × zzS)) (hk94 : ∀ (l3 : Int32)  (l4 : Int32)  (l5 : Int32)  (l6 : Int32)  (l7 : Int32)  (σ : zzS), zzGO p l e rX11_game s m args below meth c 9 (zzA base) (zzX Z base PL mm) (zzX Z base PL mm) zzRI rX11_game.cells rX11_game.slots (k94 l3 l4 l5 l6 l7 σ) σ 0 0 94 [(3, .int l3), (4, .int l4), (5, .int l5), (6, .int l6), (7, .int l7)] []) (n : Nat) : ∀ (l3 : Int32)  (l4 : Int32)  (l5 : Int32)  (l6 : Int32)  (l7 : Int32)  (l8 : Int32)  (σ : zzS), zzGO p l e rX11_game s m args below meth c 9 (zzA base) (zzX Z base PL mm) (zzX Z base PL mm) zzRI rX11_game.cells rX11_game.slots (f_X11_game_103 k94 p0 p1 n l3 l4 l5 l6 l7 l8 σ) σ 0 0 103 [(3, .int l3), (4, .int l4), (5, .int l5), (6, .int l6), (7, .int l7), (8, .int l8)] [] := by
  induction n with
  | zero => exact fun _ _ _ _ _ _ _ r9 s9 h9 => by cases h9
  | succ n ih => exact w_X11_game_103b C p0 p1 k94 hk94 _ ih
set_option maxHeartbeats 4000000 in
set_option maxRecDepth 100000 in
theorem w_X11_game_94b {l : Launch} {Z : zzG} {base : Nat} {PL : Nat → Option (Nat × Int32)} {mm : zzS} {p : Program} {e : Env} {s : State} {m : MethodId} {args : Array Value} {below : List Frame} {meth : Method} {c : Code} (C : zzCx p m meth c s args cX11_game 9 wsX11_game RX11 (some .int) Z) (p0 : Int32)  (p1 : Int32)   (k94 : Int32 → Int32 → Int32 → Int32 → Int32 → zzS → Option (Int32 × zzS)) (hk94 : ∀ (l3 : Int32)  (l4 : Int32)  (l5 : Int32)  (l6 : Int32)  (l7 : Int32)  (σ : zzS), zzGO p l e rX11_game s m args below meth c 9 (zzA base) (zzX Z base PL mm) (zzX Z base PL mm) zzRI rX11_game.cells rX11_game.slots (k94 l3 l4 l5 l6 l7 σ) σ 0 0 94 [(3, .int l3), (4, .int l4), (5, .int l5), (6, .int l6), (7, .int l7)] []) (l3 : Int32)  (l4 : Int32)  (l5 : Int32)  (l6 : Int32)  (l7 : Int32)  (σ : zzS) : zzGO p l e rX11_game s m args below meth c 9 (zzA base) (zzX Z base PL mm) (zzX Z base PL mm) zzRI rX11_game.cells rX11_game.slots (f_X11_game_94b k94 p0 p1 l3 l4 l5 l6 l7 σ) σ 0 0 94 [(3, .int l3), (4, .int l4), (5, .int l5), (6, .int l6), (7, .int l7)] [] := by
  unfold f_X11_game_94b
  refine zz_iload C dX11_game_94 4 rfl ?_
  refine zz_iload_n C dX11_game_96 rfl 0 rfl ?_
  refine zz_icmp_gt (tgt := 158) C dX11_game_97 (by decide) (fun h1 => ?_) (fun h1 => ?_)
  · refine zz_bipush (v := -4) C dX11_game_158 (by decide) ?_
    exact zz_iret C rfl rfl (fun _ h9 => h9) (Nat.zero_le _) (Nat.zero_le _) dX11_game_160
  · refine zz_iconst (v := 0) C dX11_game_100 (by decide) ?_
    refine zz_istore (loc' := [(8, .int (0 : Int32)), (3, .int l3), (4, .int l4), (5, .int l5), (6, .int l6), (7, .int l7)]) C dX11_game_101 (by decide) rfl ?_
    refine zz_sub (loc' := [(3, .int l3), (4, .int l4), (5, .int l5), (6, .int l6), (7, .int l7), (8, .int (0 : Int32))]) [1, 2, 3, 4, 5, 0] rfl ?_
    exact w_X11_game_103 C p0 p1 k94 hk94 200 l3 l4 l5 l6 l7 (0 : Int32) σ
set_option maxHeartbeats 4000000 in
set_option maxRecDepth 100000 in
theorem w_X11_game_94 {l : Launch} {Z : zzG} {base : Nat} {PL : Nat → Option (Nat × Int32)} {mm : zzS} {p : Program} {e : Env} {s : State} {m : MethodId} {args : Array Value} {below : List Frame} {meth : Method} {c : Code} (C : zzCx p m meth c s args cX11_game 9 wsX11_game RX11 (some .int) Z) (p0 : Int32)  (p1 : Int32)   (n : Nat) : ∀ (l3 : Int32)  (l4 : Int32)  (l5 : Int32)  (l6 : Int32)  (l7 : Int32)  (σ : zzS), zzGO p l e rX11_game s m args below meth c 9 (zzA base) (zzX Z base PL mm) (zzX Z base PL mm) zzRI rX11_game.cells rX11_game.slots (f_X11_game_94 p0 p1 n l3 l4 l5 l6 l7 σ) σ 0 0 94 [(3, .int l3), (4, .int l4), (5, .int l5), (6, .int l6), (7, .int l7)] [] := by
  induction n with
  | zero => exact fun _ _ _ _ _ _ r9 s9 h9 => by cases h9
  | succ n ih => exact w_X11_game_94b C p0 p1 _ ih
set_option maxHeartbeats 4000000 in
set_option maxRecDepth 100000 in
theorem w_X11_game_63 {l : Launch} {Z : zzG} {base : Nat} {PL : Nat → Option (Nat × Int32)} {mm : zzS} {p : Program} {e : Env} {s : State} {m : MethodId} {args : Array Value} {below : List Frame} {meth : Method} {c : Code} (C : zzCx p m meth c s args cX11_game 9 wsX11_game RX11 (some .int) Z) (p0 : Int32)  (p1 : Int32)   (l3 : Int32)  (s0 : Int32)  (σ : zzS) : zzGO p l e rX11_game s m args below meth c 9 (zzA base) (zzX Z base PL mm) (zzX Z base PL mm) zzRI rX11_game.cells rX11_game.slots (f_X11_game_63 p0 p1 l3 s0 σ) σ 0 0 63 [(0, .ref (zzad Z 0)), (1, .int p0), (2, .int p1), (3, .int l3)] [.int s0] := by
  unfold f_X11_game_63
  refine zz_istore (loc' := [(4, .int s0), (0, .ref (zzad Z 0)), (1, .int p0), (2, .int p1), (3, .int l3)]) C dX11_game_63 (by decide) rfl ?_
  refine zz_aload_n C dX11_game_65 rfl 1 rfl ?_
  refine zz_get C zzX_obj (fun _ h9 => List.mem_cons_of_mem _ (List.mem_append_left _ (List.mem_append_left _ (List.mem_append_left _ (List.mem_append_left _ (List.mem_append_left _ (List.mem_append_left _ (List.mem_append_left _ (List.mem_append_left _ (List.mem_append_left _ (List.mem_append_right _ (h9)))))))))))) rfl 3 (by decide) (List.mem_of_getElem? (i := 1) rfl) (Or.inl rfl) rfl dX11_game_66 ?_
  refine zz_iload_n C dX11_game_69 rfl 2 rfl ?_
  refine zz_callV C (Cn := RX10) (b := zzad Z 20) (fun H hH => zz_recv C.2.2.2 ((zzX_town (Or.inl rfl)) H hH) rfl) (As := [.int p0]) (rest := []) rfl (k_X10_at 20 (Or.inl rfl) p0 σ) (cwV 1 C.1.2.2.2.2 gX11_game_X10_at rfl rfl rfl (by decide +kernel) ⟨Nat.le_of_ble_eq_true rfl, Nat.le_of_ble_eq_true rfl⟩) rfl (Nat.le_of_ble_eq_true rfl) ⟨Nat.zero_le _, Nat.zero_le _⟩ dX11_game_70 (zz_kP rfl rfl (fun r1 σ2 c3 hp4 => ?_))
  refine zz_nnP hp4 (fun kf5 q6 h7 h8 hq9 => ?_)
  subst h8
  refine zz_call (av := #[.ref q6]) (rest := []) (mcc := 0) (msc := 0) (relc := zzRI) (vr_X11_game_73 C hq9 (Nat.le_of_ble_eq_true rfl)) (zz_kI rfl rfl (fun r10 σ11 => ?_))
  refine zz_istore (loc' := [(5, .int r10), (4, .int s0), (0, .ref (zzad Z 0)), (1, .int p0), (2, .int p1), (3, .int l3)]) C dX11_game_76 (by decide) rfl ?_
  refine zz_aload_n C dX11_game_78 rfl 2 rfl ?_
  refine zz_get C zzX_obj (fun _ h9 => List.mem_cons_of_mem _ (List.mem_append_left _ (List.mem_append_left _ (List.mem_append_left _ (List.mem_append_left _ (List.mem_append_left _ (List.mem_append_left _ (List.mem_append_left _ (List.mem_append_left _ (List.mem_append_left _ (List.mem_append_right _ (h9)))))))))))) rfl 3 (by decide) (List.mem_of_getElem? (i := 1) rfl) (Or.inl rfl) rfl dX11_game_79 ?_
  refine zz_iload_n C dX11_game_82 rfl 4 rfl ?_
  refine zz_callV C (Cn := RX10) (b := zzad Z 20) (fun H hH => zz_recv C.2.2.2 ((zzX_town (Or.inl rfl)) H hH) rfl) (As := [.int p1]) (rest := []) rfl (k_X10_at 20 (Or.inl rfl) p1 σ11) (cwV 1 C.1.2.2.2.2 gX11_game_X10_at rfl rfl rfl (by decide +kernel) ⟨Nat.le_of_ble_eq_true rfl, Nat.le_of_ble_eq_true rfl⟩) rfl (Nat.le_of_ble_eq_true rfl) ⟨Nat.zero_le _, Nat.zero_le _⟩ dX11_game_83 (zz_kP rfl rfl (fun r12 σ13 c14 hp15 => ?_))
  refine zz_nnP hp15 (fun kf16 q17 h18 h19 hq20 => ?_)
  subst h19
  refine zz_call (av := #[.ref q17]) (rest := []) (mcc := 0) (msc := 0) (relc := zzRI) (vr_X11_game_86 C hq20 (Nat.le_of_ble_eq_true rfl)) (zz_kI rfl rfl (fun r21 σ22 => ?_))
  refine zz_istore (loc' := [(6, .int r21), (5, .int r10), (4, .int s0), (0, .ref (zzad Z 0)), (1, .int p0), (2, .int p1), (3, .int l3)]) C dX11_game_89 (by decide) rfl ?_
  refine zz_iconst (v := 0) C dX11_game_91 (by decide) ?_
  refine zz_istore (loc' := [(7, .int (0 : Int32)), (6, .int r21), (5, .int r10), (4, .int s0), (0, .ref (zzad Z 0)), (1, .int p0), (2, .int p1), (3, .int l3)]) C dX11_game_92 (by decide) rfl ?_
  refine zz_sub (loc' := [(3, .int l3), (4, .int s0), (5, .int r10), (6, .int r21), (7, .int (0 : Int32))]) [7, 3, 2, 1, 0] rfl ?_
  exact w_X11_game_94 C p0 p1 200 l3 s0 r10 r21 (0 : Int32) σ22
set_option maxHeartbeats 4000000 in
set_option maxRecDepth 100000 in
theorem w_X11_game_38 {l : Launch} {Z : zzG} {base : Nat} {PL : Nat → Option (Nat × Int32)} {mm : zzS} {p : Program} {e : Env} {s : State} {m : MethodId} {args : Array Value} {below : List Frame} {meth : Method} {c : Code} (C : zzCx p m meth c s args cX11_game 9 wsX11_game RX11 (some .int) Z) (p0 : Int32)  (p1 : Int32)   (s0 : Int32)  (σ : zzS) : zzGO p l e rX11_game s m args below meth c 9 (zzA base) (zzX Z base PL mm) (zzX Z base PL mm) zzRI rX11_game.cells rX11_game.slots (f_X11_game_38 p0 p1 s0 σ) σ 0 0 38 [(0, .ref (zzad Z 0)), (1, .int p0), (2, .int p1)] [.int s0] := by
  unfold f_X11_game_38
  refine zz_istore_n (loc' := [(3, .int s0), (0, .ref (zzad Z 0)), (1, .int p0), (2, .int p1)]) C dX11_game_38 rfl (by decide) rfl ?_
  refine zz_aload_n C dX11_game_39 rfl 1 rfl ?_
  refine zz_get C zzX_obj (fun _ h9 => List.mem_cons_of_mem _ (List.mem_append_left _ (List.mem_append_left _ (List.mem_append_left _ (List.mem_append_left _ (List.mem_append_left _ (List.mem_append_left _ (List.mem_append_left _ (List.mem_append_left _ (List.mem_append_left _ (List.mem_append_right _ (h9)))))))))))) rfl 3 (by decide) (List.mem_of_getElem? (i := 1) rfl) (Or.inl rfl) rfl dX11_game_40 ?_
  refine zz_iload_n C dX11_game_43 rfl 3 rfl ?_
  refine zz_iload_n C dX11_game_44 rfl 2 rfl ?_
  refine zz_aload_n C dX11_game_45 rfl 1 rfl ?_
  refine zz_get C zzX_obj (fun _ h9 => List.mem_cons_of_mem _ (List.mem_append_left _ (List.mem_append_left _ (List.mem_append_left _ (List.mem_append_left _ (List.mem_append_left _ (List.mem_append_left _ (List.mem_append_left _ (List.mem_append_left _ (List.mem_append_left _ (List.mem_append_right _ (h9)))))))))))) rfl 3 (by decide) (List.mem_of_getElem? (i := 1) rfl) (Or.inl rfl) rfl dX11_game_46 ?_
  refine zz_get C (zzX_town (Or.inl rfl)) (fun _ h9 => List.mem_cons_of_mem _ (List.mem_append_left _ (List.mem_append_left _ (List.mem_append_left _ (List.mem_append_left _ (List.mem_append_left _ (List.mem_append_left _ (List.mem_append_left _ (List.mem_append_left _ (List.mem_append_right _ (h9))))))))))) rfl 5 (by decide) (List.mem_of_getElem? (i := 2) rfl) (Or.inl rfl) rfl dX11_game_49 ?_
  refine zz_callV C (Cn := RX10) (b := zzad Z 20) (fun H hH => zz_recv C.2.2.2 ((zzX_town (Or.inl rfl)) H hH) rfl) (As := [.int p1, .int p0, .int (zzi σ 20 5)]) (rest := []) rfl (k_X10_may 20 (Or.inl rfl) p1 p0 (zzi σ 20 5) σ) (cwV 3 C.1.2.2.2.2 gX11_game_X10_may rfl rfl rfl (by decide +kernel) ⟨Nat.le_of_ble_eq_true rfl, Nat.le_of_ble_eq_true rfl⟩) rfl (Nat.le_of_ble_eq_true rfl) ⟨Nat.zero_le _, Nat.zero_le _⟩ dX11_game_52 (zz_kI rfl rfl (fun r1 σ2 => ?_))
  refine zz_if_eq (tgt := 62) C dX11_game_55 (by decide) (fun h3 => ?_) (fun h3 => ?_)
  · refine zz_iconst (v := 0) C dX11_game_62 (by decide) ?_
    refine zz_sub (loc' := [(0, .ref (zzad Z 0)), (1, .int p0), (2, .int p1), (3, .int s0)]) [1, 2, 3, 0] rfl ?_
    exact w_X11_game_63 C p0 p1 s0 (0 : Int32) σ2
  · refine zz_iconst (v := 1) C dX11_game_58 (by decide) ?_
    refine zz_goto (tgt := 63) C dX11_game_59 (by decide) ?_
    refine zz_sub (loc' := [(0, .ref (zzad Z 0)), (1, .int p0), (2, .int p1), (3, .int s0)]) [1, 2, 3, 0] rfl ?_
    exact w_X11_game_63 C p0 p1 s0 (1 : Int32) σ2
set_option maxHeartbeats 4000000 in
set_option maxRecDepth 100000 in
theorem w_X11_game_e {l : Launch} {Z : zzG} {base : Nat} {PL : Nat → Option (Nat × Int32)} {mm : zzS} {p : Program} {e : Env} {s : State} {m : MethodId} {args : Array Value} {below : List Frame} {meth : Method} {c : Code} (C : zzCx p m meth c s args cX11_game 9 wsX11_game RX11 (some .int) Z) (p0 : Int32)  (p1 : Int32)  (σ : zzS) : zzGO p l e rX11_game s m args below meth c 9 (zzA base) (zzX Z base PL mm) (zzX Z base PL mm) zzRI rX11_game.cells rX11_game.slots (f_X11_game p0 p1 σ) σ 0 0 0 [(0, .ref (zzad Z 0)), (1, .int p0), (2, .int p1)] [] := by
  unfold f_X11_game
  refine zz_aload_n C dX11_game_0 rfl 0 rfl ?_
  refine zz_get C zzX_obj (fun _ h9 => List.mem_cons_of_mem _ (List.mem_append_left _ (List.mem_append_left _ (List.mem_append_left _ (List.mem_append_left _ (List.mem_append_left _ (List.mem_append_left _ (List.mem_append_left _ (List.mem_append_left _ (List.mem_append_left _ (List.mem_append_right _ (h9)))))))))))) rfl 3 (by decide) (List.mem_of_getElem? (i := 1) rfl) (Or.inl rfl) rfl dX11_game_1 ?_
  refine zz_iload_n C dX11_game_4 rfl 1 rfl ?_
  refine zz_iload_n C dX11_game_5 rfl 2 rfl ?_
  refine zz_callV C (Cn := RX10) (b := zzad Z 20) (fun H hH => zz_recv C.2.2.2 ((zzX_town (Or.inl rfl)) H hH) rfl) (As := [.int p0, .int p1]) (rest := []) rfl (k_X10_areTwo 20 (Or.inl rfl) p0 p1 σ) (cwV 2 C.1.2.2.2.2 gX11_game_X10_areTwo rfl rfl rfl (by decide +kernel) ⟨Nat.le_of_ble_eq_true rfl, Nat.le_of_ble_eq_true rfl⟩) rfl (Nat.le_of_ble_eq_true rfl) ⟨Nat.zero_le _, Nat.zero_le _⟩ dX11_game_6 (zz_kI rfl rfl (fun r1 σ2 => ?_))
  refine zz_if_ne (tgt := 14) C dX11_game_9 (by decide) (fun h3 => ?_) (fun h3 => ?_)
  · refine zz_aload_n C dX11_game_14 rfl 0 rfl ?_
    refine zz_get C zzX_obj (fun _ h9 => List.mem_cons_of_mem _ (List.mem_append_left _ (List.mem_append_left _ (List.mem_append_left _ (List.mem_append_left _ (List.mem_append_left _ (List.mem_append_left _ (List.mem_append_left _ (List.mem_append_left _ (List.mem_append_left _ (List.mem_append_right _ (h9)))))))))))) rfl 3 (by decide) (List.mem_of_getElem? (i := 1) rfl) (Or.inl rfl) rfl dX11_game_15 ?_
    refine zz_iload_n C dX11_game_18 rfl 1 rfl ?_
    refine zz_iload_n C dX11_game_19 rfl 2 rfl ?_
    refine zz_aload_n C dX11_game_20 rfl 0 rfl ?_
    refine zz_get C zzX_obj (fun _ h9 => List.mem_cons_of_mem _ (List.mem_append_left _ (List.mem_append_left _ (List.mem_append_left _ (List.mem_append_left _ (List.mem_append_left _ (List.mem_append_left _ (List.mem_append_left _ (List.mem_append_left _ (List.mem_append_left _ (List.mem_append_right _ (h9)))))))))))) rfl 3 (by decide) (List.mem_of_getElem? (i := 1) rfl) (Or.inl rfl) rfl dX11_game_21 ?_
    refine zz_get C (zzX_town (Or.inl rfl)) (fun _ h9 => List.mem_cons_of_mem _ (List.mem_append_left _ (List.mem_append_left _ (List.mem_append_left _ (List.mem_append_left _ (List.mem_append_left _ (List.mem_append_left _ (List.mem_append_left _ (List.mem_append_left _ (List.mem_append_right _ (h9))))))))))) rfl 5 (by decide) (List.mem_of_getElem? (i := 2) rfl) (Or.inl rfl) rfl dX11_game_24 ?_
    refine zz_callV C (Cn := RX10) (b := zzad Z 20) (fun H hH => zz_recv C.2.2.2 ((zzX_town (Or.inl rfl)) H hH) rfl) (As := [.int p0, .int p1, .int (zzi σ2 20 5)]) (rest := []) rfl (k_X10_may 20 (Or.inl rfl) p0 p1 (zzi σ2 20 5) σ2) (cwV 3 C.1.2.2.2.2 gX11_game_X10_may rfl rfl rfl (by decide +kernel) ⟨Nat.le_of_ble_eq_true rfl, Nat.le_of_ble_eq_true rfl⟩) rfl (Nat.le_of_ble_eq_true rfl) ⟨Nat.zero_le _, Nat.zero_le _⟩ dX11_game_27 (zz_kI rfl rfl (fun r4 σ5 => ?_))
    refine zz_if_eq (tgt := 37) C dX11_game_30 (by decide) (fun h6 => ?_) (fun h6 => ?_)
    · refine zz_iconst (v := 0) C dX11_game_37 (by decide) ?_
      refine zz_sub (loc' := [(0, .ref (zzad Z 0)), (1, .int p0), (2, .int p1)]) [0, 1, 2] rfl ?_
      exact w_X11_game_38 C p0 p1 (0 : Int32) σ5
    · refine zz_iconst (v := 1) C dX11_game_33 (by decide) ?_
      refine zz_goto (tgt := 38) C dX11_game_34 (by decide) ?_
      refine zz_sub (loc' := [(0, .ref (zzad Z 0)), (1, .int p0), (2, .int p1)]) [0, 1, 2] rfl ?_
      exact w_X11_game_38 C p0 p1 (1 : Int32) σ5
  · refine zz_iconst (v := -1) C dX11_game_12 (by decide) ?_
    exact zz_iret C rfl rfl (fun _ h9 => h9) (Nat.zero_le _) (Nat.zero_le _) dX11_game_13
set_option maxHeartbeats 4000000 in
set_option maxRecDepth 100000 in
theorem k_X11_game {l : Launch} {Z : zzG} {base : Nat} {PL : Nat → Option (Nat × Int32)} {mm : zzS} (p0 : Int32)  (p1 : Int32)  (σ : zzS) : zzCT l yX11_game wsX11_game rX11_game (zzA base) Z (zzX Z base PL mm) (zzX Z base PL mm) zzRI [.ref (zzad Z 0), .int p0, .int p1] (f_X11_game p0 p1 σ) σ :=
  zzCT_of (cc := cX11_game) (nL := 9) (ret := (some .int)) (by decide) rfl (Nat.le_of_ble_eq_true rfl) [(0, .ref (zzad Z 0)), (1, .int p0), (2, .int p1)] rfl (fun p e s m args below meth c C => w_X11_game_e C p0 p1 σ)
abbrev rX11_firstNotAtLevel : Room := { frames := 2, cells := 0, slots := 0, locals := 43 }
set_option maxHeartbeats 4000000 in
set_option maxRecDepth 100000 in
theorem vr_X11_firstNotAtLevel_57 {l : Launch} {Z : zzG} {base : Nat} {PL : Nat → Option (Nat × Int32)} {mm : zzS} {p : Program} {e : Env} {s : State} {m : MethodId} {args : Array Value} {below : List Frame} {meth : Method} {c : Code} {cells slots : Nat} {σ : zzS} {loc : List (Nat × Value)} {rest : List Value} (C : zzCx p m meth c s args cX11_firstNotAtLevel 7 wsX11_firstNotAtLevel RX11 (some .int) Z) {q : Nat} {kf : Nat × Int32} (hq : PL q = some kf) (a0 : Int32) (hroom : (rest.map fun v => v.category).sum ≤ 8) (hcs : cells + 0 ≤ (rX11_firstNotAtLevel).cells ∧ slots + 0 ≤ (rX11_firstNotAtLevel).slots := by exact ⟨Nat.zero_le _, Nat.zero_le _⟩) :
    ∀ r1 σ2, some (zzshows kf a0, σ) = some (r1, σ2) → ∀ (H : Heap) (locs : List Loc) (ls : Array Slot), zzX Z base PL mm σ H → lv_has ls 7 loc → va_Run p l e rX11_firstNotAtLevel s m args below meth c H locs cells slots 0 0 (F0 m 57 ls (.int a0 :: .ref q :: rest)) rest (zzQ zzRI (zzX Z base PL mm) (zzA base) r1 σ2 #[.ref q, .int a0]) (zzA base) := by
  intro r1 σ2 hr H locs ls hW hl
  have h8 := zz_kind8 (hW.1.2.2.1 q kf hq).1
  obtain ⟨k9, f9⟩ := kf
  rcases h8 with h8 | h8 | h8 | h8 | h8 | h8 | h8 | h8
  · have h8 : k9 = 0 := h8
    subst h8
    have ct := k_X6_shows (l := l) (Z := Z) (base := base) (PL := PL) (mm := mm) (0, f9) q hq a0 σ r1 σ2 hr
    exact va_runV (As := [.int a0]) (C := RX6) C.1 ct (cwV 1 C.1.2.2.2.2 gX11_firstNotAtLevel_X6_shows rfl rfl rfl (by decide +kernel) ⟨Nat.le_of_ble_eq_true rfl, Nat.le_of_ble_eq_true rfl⟩) ⟨zzPc_blind, zz_recv C.2.2.2 (zzX_pers1 hq H hW) rfl, fun U hU hWm => zzPc_at C.2.2.2 hU hWm hW⟩ rfl rfl hl.1 rfl (lv_room hroom) dX11_firstNotAtLevel_57 hcs
  · have h8 : k9 = 1 := h8
    subst h8
    have ct := k_X6_shows (l := l) (Z := Z) (base := base) (PL := PL) (mm := mm) (1, f9) q hq a0 σ r1 σ2 hr
    exact va_runU (As := [.int a0]) (C := RX9) C.1 ct (va_cwU 1 C.1.2.2.2.2 gX11_firstNotAtLevel_X6_shows_u304X9 rfl rfl rfl (by decide +kernel) (by decide +kernel) ⟨Nat.le_of_ble_eq_true rfl, Nat.le_of_ble_eq_true rfl⟩) ⟨zzPc_blind, zz_recv C.2.2.2 (zzX_pers1 hq H hW) rfl, fun U hU hWm => zzPc_at C.2.2.2 hU hWm hW⟩ rfl rfl hl.1 rfl (lv_room hroom) dX11_firstNotAtLevel_57 hcs
  · have h8 : k9 = 2 := h8
    subst h8
    have ct := k_X0_shows (l := l) (Z := Z) (base := base) (PL := PL) (mm := mm) (2, f9) q hq a0 (Or.inl rfl) σ r1 σ2 hr
    exact va_runU (As := [.int a0]) (C := RX0) C.1 ct (va_cwO 1 C.1.2.2.2.2 gX11_firstNotAtLevel_X0_shows_u304X0 rfl rfl rfl (List.mem_of_getElem? (i := 37) rfl) (by decide +kernel) ⟨Nat.le_of_ble_eq_true rfl, Nat.le_of_ble_eq_true rfl⟩) ⟨zzPc_blind, zz_recv C.2.2.2 (zzX_pers1 hq H hW) rfl, fun U hU hWm => zzPc_at C.2.2.2 hU hWm hW⟩ rfl rfl hl.1 rfl (lv_room hroom) dX11_firstNotAtLevel_57 hcs
  · have h8 : k9 = 3 := h8
    subst h8
    have ct := k_X6_shows (l := l) (Z := Z) (base := base) (PL := PL) (mm := mm) (3, f9) q hq a0 σ r1 σ2 hr
    exact va_runU (As := [.int a0]) (C := RX1) C.1 ct (va_cwU 1 C.1.2.2.2.2 gX11_firstNotAtLevel_X6_shows_u304X1 rfl rfl rfl (by decide +kernel) (by decide +kernel) ⟨Nat.le_of_ble_eq_true rfl, Nat.le_of_ble_eq_true rfl⟩) ⟨zzPc_blind, zz_recv C.2.2.2 (zzX_pers1 hq H hW) rfl, fun U hU hWm => zzPc_at C.2.2.2 hU hWm hW⟩ rfl rfl hl.1 rfl (lv_room hroom) dX11_firstNotAtLevel_57 hcs
  · have h8 : k9 = 4 := h8
    subst h8
    have ct := k_X6_shows (l := l) (Z := Z) (base := base) (PL := PL) (mm := mm) (4, f9) q hq a0 σ r1 σ2 hr
    exact va_runU (As := [.int a0]) (C := RX4) C.1 ct (va_cwU 1 C.1.2.2.2.2 gX11_firstNotAtLevel_X6_shows_u304X4 rfl rfl rfl (by decide +kernel) (by decide +kernel) ⟨Nat.le_of_ble_eq_true rfl, Nat.le_of_ble_eq_true rfl⟩) ⟨zzPc_blind, zz_recv C.2.2.2 (zzX_pers1 hq H hW) rfl, fun U hU hWm => zzPc_at C.2.2.2 hU hWm hW⟩ rfl rfl hl.1 rfl (lv_room hroom) dX11_firstNotAtLevel_57 hcs
  · have h8 : k9 = 5 := h8
    subst h8
    have ct := k_X6_shows (l := l) (Z := Z) (base := base) (PL := PL) (mm := mm) (5, f9) q hq a0 σ r1 σ2 hr
    exact va_runU (As := [.int a0]) (C := RX5) C.1 ct (va_cwU 1 C.1.2.2.2.2 gX11_firstNotAtLevel_X6_shows_u304X5 rfl rfl rfl (by decide +kernel) (by decide +kernel) ⟨Nat.le_of_ble_eq_true rfl, Nat.le_of_ble_eq_true rfl⟩) ⟨zzPc_blind, zz_recv C.2.2.2 (zzX_pers1 hq H hW) rfl, fun U hU hWm => zzPc_at C.2.2.2 hU hWm hW⟩ rfl rfl hl.1 rfl (lv_room hroom) dX11_firstNotAtLevel_57 hcs
  · have h8 : k9 = 6 := h8
    subst h8
    have ct := k_X3_shows (l := l) (Z := Z) (base := base) (PL := PL) (mm := mm) (6, f9) q hq a0 rfl σ r1 σ2 hr
    exact va_runU (As := [.int a0]) (C := RX3) C.1 ct (va_cwO 1 C.1.2.2.2.2 gX11_firstNotAtLevel_X3_shows_u304X3 rfl rfl rfl (List.mem_of_getElem? (i := 37) rfl) (by decide +kernel) ⟨Nat.le_of_ble_eq_true rfl, Nat.le_of_ble_eq_true rfl⟩) ⟨zzPc_blind, zz_recv C.2.2.2 (zzX_pers1 hq H hW) rfl, fun U hU hWm => zzPc_at C.2.2.2 hU hWm hW⟩ rfl rfl hl.1 rfl (lv_room hroom) dX11_firstNotAtLevel_57 hcs
  · have h8 : k9 = 7 := h8
    subst h8
    have ct := k_X6_shows (l := l) (Z := Z) (base := base) (PL := PL) (mm := mm) (7, f9) q hq a0 σ r1 σ2 hr
    exact va_runU (As := [.int a0]) (C := RX8) C.1 ct (va_cwU 1 C.1.2.2.2.2 gX11_firstNotAtLevel_X6_shows_u304X8 rfl rfl rfl (by decide +kernel) (by decide +kernel) ⟨Nat.le_of_ble_eq_true rfl, Nat.le_of_ble_eq_true rfl⟩) ⟨zzPc_blind, zz_recv C.2.2.2 (zzX_pers1 hq H hW) rfl, fun U hU hWm => zzPc_at C.2.2.2 hU hWm hW⟩ rfl rfl hl.1 rfl (lv_room hroom) dX11_firstNotAtLevel_57 hcs

set_option maxHeartbeats 4000000 in
set_option maxRecDepth 100000 in
theorem w_X11_firstNotAtLevel_68 {l : Launch} {Z : zzG} {base : Nat} {PL : Nat → Option (Nat × Int32)} {mm : zzS} {p : Program} {e : Env} {s : State} {m : MethodId} {args : Array Value} {below : List Frame} {meth : Method} {c : Code} (C : zzCx p m meth c s args cX11_firstNotAtLevel 7 wsX11_firstNotAtLevel RX11 (some .int) Z) (p0 : Int32)  (p1 : Nat) (hp1 : zzrow p1) (p2 : Int32)  (k3 : Int32 → zzS → Option (Int32 × zzS)) (hk3 : ∀ (l4 : Int32)  (σ : zzS), zzGO p l e rX11_firstNotAtLevel s m args below meth c 7 (zzA base) (zzX Z base PL mm) (zzX Z base PL mm) zzRI rX11_firstNotAtLevel.cells rX11_firstNotAtLevel.slots (k3 l4 σ) σ 0 0 3 [(0, .ref (zzad Z 0)), (1, .int p0), (2, .ref (zzad Z p1)), (3, .int p2), (4, .int l4)] []) (l4 : Int32)  (σ : zzS) : zzGO p l e rX11_firstNotAtLevel s m args below meth c 7 (zzA base) (zzX Z base PL mm) (zzX Z base PL mm) zzRI rX11_firstNotAtLevel.cells rX11_firstNotAtLevel.slots (f_X11_firstNotAtLevel_68 k3 p0 p1 p2 l4 σ) σ 0 0 68 [(0, .ref (zzad Z 0)), (1, .int p0), (2, .ref (zzad Z p1)), (3, .int p2), (4, .int l4)] [] := by
  unfold f_X11_firstNotAtLevel_68
  refine zz_iincX (d := 1) (locf := fun x1 => [(4, .int x1), (0, .ref (zzad Z 0)), (1, .int p0), (2, .ref (zzad Z p1)), (3, .int p2)]) C dX11_firstNotAtLevel_68 (k := 4) rfl (by decide) (by decide) (fun _ => rfl) (fun x1 => ?_)
  refine zz_goto (tgt := 3) C dX11_firstNotAtLevel_71 (by decide) ?_
  refine zz_sub (loc' := [(0, .ref (zzad Z 0)), (1, .int p0), (2, .ref (zzad Z p1)), (3, .int p2), (4, .int x1)]) [1, 2, 3, 4, 0] rfl ?_
  exact hk3 x1 σ
set_option maxHeartbeats 4000000 in
set_option maxRecDepth 100000 in
theorem w_X11_firstNotAtLevel_40 {l : Launch} {Z : zzG} {base : Nat} {PL : Nat → Option (Nat × Int32)} {mm : zzS} {p : Program} {e : Env} {s : State} {m : MethodId} {args : Array Value} {below : List Frame} {meth : Method} {c : Code} (C : zzCx p m meth c s args cX11_firstNotAtLevel 7 wsX11_firstNotAtLevel RX11 (some .int) Z) (p0 : Int32)  (p1 : Nat) (hp1 : zzrow p1) (p2 : Int32)  (k3 : Int32 → zzS → Option (Int32 × zzS)) (hk3 : ∀ (l4 : Int32)  (σ : zzS), zzGO p l e rX11_firstNotAtLevel s m args below meth c 7 (zzA base) (zzX Z base PL mm) (zzX Z base PL mm) zzRI rX11_firstNotAtLevel.cells rX11_firstNotAtLevel.slots (k3 l4 σ) σ 0 0 3 [(0, .ref (zzad Z 0)), (1, .int p0), (2, .ref (zzad Z p1)), (3, .int p2), (4, .int l4)] []) (l4 : Int32)  (l5 : Int32)  (s0 : Int32)  (σ : zzS) : zzGO p l e rX11_firstNotAtLevel s m args below meth c 7 (zzA base) (zzX Z base PL mm) (zzX Z base PL mm) zzRI rX11_firstNotAtLevel.cells rX11_firstNotAtLevel.slots (f_X11_firstNotAtLevel_40 k3 p0 p1 p2 l4 l5 s0 σ) σ 0 0 40 [(0, .ref (zzad Z 0)), (1, .int p0), (2, .ref (zzad Z p1)), (3, .int p2), (4, .int l4), (5, .int l5)] [.int s0] := by
  unfold f_X11_firstNotAtLevel_40
  refine zz_istore (loc' := [(6, .int s0), (0, .ref (zzad Z 0)), (1, .int p0), (2, .ref (zzad Z p1)), (3, .int p2), (4, .int l4), (5, .int l5)]) C dX11_firstNotAtLevel_40 (by decide) rfl ?_
  refine zz_iload C dX11_firstNotAtLevel_42 0 rfl ?_
  refine zz_if_ne (tgt := 68) C dX11_firstNotAtLevel_44 (by decide) (fun h1 => ?_) (fun h1 => ?_)
  · refine zz_sub (loc' := [(0, .ref (zzad Z 0)), (1, .int p0), (2, .ref (zzad Z p1)), (3, .int p2), (4, .int l4)]) [1, 2, 3, 4, 5] rfl ?_
    exact w_X11_firstNotAtLevel_68 C p0 p1 hp1 p2 k3 hk3 l4 σ
  · refine zz_aload_n C dX11_firstNotAtLevel_47 rfl 1 rfl ?_
    refine zz_get C zzX_obj (fun _ h9 => List.mem_cons_of_mem _ (List.mem_append_left _ (List.mem_append_right _ (h9)))) rfl 3 (by decide) (List.mem_of_getElem? (i := 2) rfl) (Or.inl rfl) rfl dX11_firstNotAtLevel_48 ?_
    refine zz_iload C dX11_firstNotAtLevel_51 5 rfl ?_
    refine zz_callV C (Cn := RX10) (b := zzad Z 20) (fun H hH => zz_recv C.2.2.2 ((zzX_town (Or.inl rfl)) H hH) rfl) (As := [.int l4]) (rest := []) rfl (k_X10_at 20 (Or.inl rfl) l4 σ) (cwV 1 C.1.2.2.2.2 gX11_firstNotAtLevel_X10_at rfl rfl rfl (by decide +kernel) ⟨Nat.le_of_ble_eq_true rfl, Nat.le_of_ble_eq_true rfl⟩) rfl (Nat.le_of_ble_eq_true rfl) ⟨Nat.zero_le _, Nat.zero_le _⟩ dX11_firstNotAtLevel_53 (zz_kP rfl rfl (fun r2 σ3 c4 hp5 => ?_))
    refine zz_iload_n C dX11_firstNotAtLevel_56 rfl 4 rfl ?_
    refine zz_nnP hp5 (fun kf6 q7 h8 h9 hq10 => ?_)
    subst h9
    refine zz_call (av := #[.ref q7, .int p2]) (rest := []) (mcc := 0) (msc := 0) (relc := zzRI) (vr_X11_firstNotAtLevel_57 C hq10 p2 (Nat.le_of_ble_eq_true rfl)) (zz_kI rfl rfl (fun r11 σ12 => ?_))
    refine zz_iload C dX11_firstNotAtLevel_60 6 rfl ?_
    refine zz_icmp_eq (tgt := 68) C dX11_firstNotAtLevel_62 (by decide) (fun h13 => ?_) (fun h13 => ?_)
    · refine zz_sub (loc' := [(0, .ref (zzad Z 0)), (1, .int p0), (2, .ref (zzad Z p1)), (3, .int p2), (4, .int l4)]) [1, 2, 3, 4, 5] rfl ?_
      exact w_X11_firstNotAtLevel_68 C p0 p1 hp1 p2 k3 hk3 l4 σ12
    · refine zz_iload C dX11_firstNotAtLevel_65 5 rfl ?_
      exact zz_iret C rfl rfl (fun _ h9 => h9) (Nat.zero_le _) (Nat.zero_le _) dX11_firstNotAtLevel_67
set_option maxHeartbeats 4000000 in
set_option maxRecDepth 100000 in
theorem w_X11_firstNotAtLevel_35 {l : Launch} {Z : zzG} {base : Nat} {PL : Nat → Option (Nat × Int32)} {mm : zzS} {p : Program} {e : Env} {s : State} {m : MethodId} {args : Array Value} {below : List Frame} {meth : Method} {c : Code} (C : zzCx p m meth c s args cX11_firstNotAtLevel 7 wsX11_firstNotAtLevel RX11 (some .int) Z) (p0 : Int32)  (p1 : Nat) (hp1 : zzrow p1) (p2 : Int32)  (k3 : Int32 → zzS → Option (Int32 × zzS)) (hk3 : ∀ (l4 : Int32)  (σ : zzS), zzGO p l e rX11_firstNotAtLevel s m args below meth c 7 (zzA base) (zzX Z base PL mm) (zzX Z base PL mm) zzRI rX11_firstNotAtLevel.cells rX11_firstNotAtLevel.slots (k3 l4 σ) σ 0 0 3 [(0, .ref (zzad Z 0)), (1, .int p0), (2, .ref (zzad Z p1)), (3, .int p2), (4, .int l4)] []) (l4 : Int32)  (l5 : Int32)  (σ : zzS) : zzGO p l e rX11_firstNotAtLevel s m args below meth c 7 (zzA base) (zzX Z base PL mm) (zzX Z base PL mm) zzRI rX11_firstNotAtLevel.cells rX11_firstNotAtLevel.slots (f_X11_firstNotAtLevel_35 k3 p0 p1 p2 l4 l5 σ) σ 0 0 35 [(0, .ref (zzad Z 0)), (1, .int p0), (2, .ref (zzad Z p1)), (3, .int p2), (4, .int l4), (5, .int l5)] [] := by
  unfold f_X11_firstNotAtLevel_35
  refine zz_iconst (v := 1) C dX11_firstNotAtLevel_35 (by decide) ?_
  refine zz_goto (tgt := 40) C dX11_firstNotAtLevel_36 (by decide) ?_
  refine zz_sub (loc' := [(0, .ref (zzad Z 0)), (1, .int p0), (2, .ref (zzad Z p1)), (3, .int p2), (4, .int l4), (5, .int l5)]) [0, 1, 2, 3, 4, 5] rfl ?_
  exact w_X11_firstNotAtLevel_40 C p0 p1 hp1 p2 k3 hk3 l4 l5 (1 : Int32) σ
set_option maxHeartbeats 4000000 in
set_option maxRecDepth 100000 in
theorem w_X11_firstNotAtLevel_3b {l : Launch} {Z : zzG} {base : Nat} {PL : Nat → Option (Nat × Int32)} {mm : zzS} {p : Program} {e : Env} {s : State} {m : MethodId} {args : Array Value} {below : List Frame} {meth : Method} {c : Code} (C : zzCx p m meth c s args cX11_firstNotAtLevel 7 wsX11_firstNotAtLevel RX11 (some .int) Z) (p0 : Int32)  (p1 : Nat) (hp1 : zzrow p1) (p2 : Int32)   (k3 : Int32 → zzS → Option (Int32 × zzS)) (hk3 : ∀ (l4 : Int32)  (σ : zzS), zzGO p l e rX11_firstNotAtLevel s m args below meth c 7 (zzA base) (zzX Z base PL mm) (zzX Z base PL mm) zzRI rX11_firstNotAtLevel.cells rX11_firstNotAtLevel.slots (k3 l4 σ) σ 0 0 3 [(0, .ref (zzad Z 0)), (1, .int p0), (2, .ref (zzad Z p1)), (3, .int p2), (4, .int l4)] []) (l4 : Int32)  (σ : zzS) : zzGO p l e rX11_firstNotAtLevel s m args below meth c 7 (zzA base) (zzX Z base PL mm) (zzX Z base PL mm) zzRI rX11_firstNotAtLevel.cells rX11_firstNotAtLevel.slots (f_X11_firstNotAtLevel_3b k3 p0 p1 p2 l4 σ) σ 0 0 3 [(0, .ref (zzad Z 0)), (1, .int p0), (2, .ref (zzad Z p1)), (3, .int p2), (4, .int l4)] [] := by
  unfold f_X11_firstNotAtLevel_3b
  refine zz_iload C dX11_firstNotAtLevel_3 4 rfl ?_
  refine zz_aload_n C dX11_firstNotAtLevel_5 rfl 2 rfl ?_
  refine zz_get C (zzX_row hp1) (fun _ h9 => List.mem_cons_of_mem _ (List.mem_append_left _ (List.mem_append_left _ (List.mem_append_right _ (h9))))) rfl 2 (by decide) (List.mem_of_getElem? (i := 1) rfl) (Or.inl rfl) rfl dX11_firstNotAtLevel_6 ?_
  refine zz_icmp_ge (tgt := 74) C dX11_firstNotAtLevel_9 (by decide) (fun h1 => ?_) (fun h1 => ?_)
  · refine zz_bipush (v := -4) C dX11_firstNotAtLevel_74 (by decide) ?_
    exact zz_iret C rfl rfl (fun _ h9 => h9) (Nat.zero_le _) (Nat.zero_le _) dX11_firstNotAtLevel_76
  · refine zz_aload_n C dX11_firstNotAtLevel_12 rfl 2 rfl ?_
    refine zz_iload C dX11_firstNotAtLevel_13 4 rfl ?_
    refine zz_callV C (Cn := RX7) (b := zzad Z p1) (fun H hH => zz_recv C.2.2.2 ((zzX_row hp1) H hH) rfl) (As := [.int l4]) (rest := []) rfl (k_X7_at p1 hp1 l4 σ) (cwV 1 C.1.2.2.2.2 gX11_firstNotAtLevel_X7_at rfl rfl rfl (by decide +kernel) ⟨Nat.le_of_ble_eq_true rfl, Nat.le_of_ble_eq_true rfl⟩) rfl (Nat.le_of_ble_eq_true rfl) ⟨Nat.zero_le _, Nat.zero_le _⟩ dX11_firstNotAtLevel_15 (zz_kI rfl rfl (fun r2 σ3 => ?_))
    refine zz_istore (loc' := [(5, .int r2), (0, .ref (zzad Z 0)), (1, .int p0), (2, .ref (zzad Z p1)), (3, .int p2), (4, .int l4)]) C dX11_firstNotAtLevel_18 (by decide) rfl ?_
    refine zz_iload C dX11_firstNotAtLevel_20 5 rfl ?_
    refine zz_iload_n C dX11_firstNotAtLevel_22 rfl 2 rfl ?_
    refine zz_icmp_eq (tgt := 35) C dX11_firstNotAtLevel_23 (by decide) (fun h4 => ?_) (fun h4 => ?_)
    · refine zz_sub (loc' := [(0, .ref (zzad Z 0)), (1, .int p0), (2, .ref (zzad Z p1)), (3, .int p2), (4, .int l4), (5, .int r2)]) [1, 2, 3, 4, 5, 0] rfl ?_
      exact w_X11_firstNotAtLevel_35 C p0 p1 hp1 p2 k3 hk3 l4 r2 σ3
    · refine zz_iload C dX11_firstNotAtLevel_26 0 rfl ?_
      refine zz_aload_n C dX11_firstNotAtLevel_28 rfl 3 rfl ?_
      refine zz_callV C (Cn := RX7) (b := zzad Z p1) (fun H hH => zz_recv C.2.2.2 ((zzX_row hp1) H hH) rfl) (As := []) (rest := [.int r2]) rfl (k_X7_leastNumber p1 hp1 σ3) (cwV 0 C.1.2.2.2.2 gX11_firstNotAtLevel_X7_leastNumber rfl rfl rfl (by decide +kernel) ⟨Nat.le_of_ble_eq_true rfl, Nat.le_of_ble_eq_true rfl⟩) rfl (Nat.le_of_ble_eq_true rfl) ⟨Nat.zero_le _, Nat.zero_le _⟩ dX11_firstNotAtLevel_29 (zz_kI rfl rfl (fun r5 σ6 => ?_))
      refine zz_icmp_ne (tgt := 39) C dX11_firstNotAtLevel_32 (by decide) (fun h7 => ?_) (fun h7 => ?_)
      · refine zz_iconst (v := 0) C dX11_firstNotAtLevel_39 (by decide) ?_
        refine zz_sub (loc' := [(0, .ref (zzad Z 0)), (1, .int p0), (2, .ref (zzad Z p1)), (3, .int p2), (4, .int l4), (5, .int r2)]) [1, 2, 3, 4, 5, 0] rfl ?_
        exact w_X11_firstNotAtLevel_40 C p0 p1 hp1 p2 k3 hk3 l4 r2 (0 : Int32) σ6
      · refine zz_sub (loc' := [(0, .ref (zzad Z 0)), (1, .int p0), (2, .ref (zzad Z p1)), (3, .int p2), (4, .int l4), (5, .int r2)]) [1, 2, 3, 4, 5, 0] rfl ?_
        exact w_X11_firstNotAtLevel_35 C p0 p1 hp1 p2 k3 hk3 l4 r2 σ6
set_option maxHeartbeats 4000000 in
set_option maxRecDepth 100000 in
theorem w_X11_firstNotAtLevel_3 {l : Launch} {Z : zzG} {base : Nat} {PL : Nat → Option (Nat × Int32)} {mm : zzS} {p : Program} {e : Env} {s : State} {m : MethodId} {args : Array Value} {below : List Frame} {meth : Method} {c : Code} (C : zzCx p m meth c s args cX11_firstNotAtLevel 7 wsX11_firstNotAtLevel RX11 (some .int) Z) (p0 : Int32)  (p1 : Nat) (hp1 : zzrow p1) (p2 : Int32)   (n : Nat) : ∀ (l4 : Int32)  (σ : zzS), zzGO p l e rX11_firstNotAtLevel s m args below meth c 7 (zzA base) (zzX Z base PL mm) (zzX Z base PL mm) zzRI rX11_firstNotAtLevel.cells rX11_firstNotAtLevel.slots (f_X11_firstNotAtLevel_3 p0 p1 p2 n l4 σ) σ 0 0 3 [(0, .ref (zzad Z 0)), (1, .int p0), (2, .ref (zzad Z p1)), (3, .int p2), (4, .int l4)] [] := by
  induction n with
  | zero => exact fun _ _ r9 s9 h9 => by cases h9
  | succ n ih => exact w_X11_firstNotAtLevel_3b C p0 p1 hp1 p2 _ ih
set_option maxHeartbeats 4000000 in
set_option maxRecDepth 100000 in
theorem w_X11_firstNotAtLevel_e {l : Launch} {Z : zzG} {base : Nat} {PL : Nat → Option (Nat × Int32)} {mm : zzS} {p : Program} {e : Env} {s : State} {m : MethodId} {args : Array Value} {below : List Frame} {meth : Method} {c : Code} (C : zzCx p m meth c s args cX11_firstNotAtLevel 7 wsX11_firstNotAtLevel RX11 (some .int) Z) (p0 : Int32)  (p1 : Nat) (hp1 : zzrow p1) (p2 : Int32)  (σ : zzS) : zzGO p l e rX11_firstNotAtLevel s m args below meth c 7 (zzA base) (zzX Z base PL mm) (zzX Z base PL mm) zzRI rX11_firstNotAtLevel.cells rX11_firstNotAtLevel.slots (f_X11_firstNotAtLevel p0 p1 p2 σ) σ 0 0 0 [(0, .ref (zzad Z 0)), (1, .int p0), (2, .ref (zzad Z p1)), (3, .int p2)] [] := by
  unfold f_X11_firstNotAtLevel
  refine zz_iconst (v := 0) C dX11_firstNotAtLevel_0 (by decide) ?_
  refine zz_istore (loc' := [(4, .int (0 : Int32)), (0, .ref (zzad Z 0)), (1, .int p0), (2, .ref (zzad Z p1)), (3, .int p2)]) C dX11_firstNotAtLevel_1 (by decide) rfl ?_
  refine zz_sub (loc' := [(0, .ref (zzad Z 0)), (1, .int p0), (2, .ref (zzad Z p1)), (3, .int p2), (4, .int (0 : Int32))]) [1, 2, 3, 4, 0] rfl ?_
  exact w_X11_firstNotAtLevel_3 C p0 p1 hp1 p2 200 (0 : Int32) σ
set_option maxHeartbeats 4000000 in
set_option maxRecDepth 100000 in
theorem k_X11_firstNotAtLevel {l : Launch} {Z : zzG} {base : Nat} {PL : Nat → Option (Nat × Int32)} {mm : zzS} (p0 : Int32)  (p1 : Nat) (hp1 : zzrow p1) (p2 : Int32)  (σ : zzS) : zzCT l yX11_firstNotAtLevel wsX11_firstNotAtLevel rX11_firstNotAtLevel (zzA base) Z (zzX Z base PL mm) (zzX Z base PL mm) zzRI [.ref (zzad Z 0), .int p0, .ref (zzad Z p1), .int p2] (f_X11_firstNotAtLevel p0 p1 p2 σ) σ :=
  zzCT_of (cc := cX11_firstNotAtLevel) (nL := 7) (ret := (some .int)) (by decide) rfl (Nat.le_of_ble_eq_true rfl) [(0, .ref (zzad Z 0)), (1, .int p0), (2, .ref (zzad Z p1)), (3, .int p2)] rfl (fun p e s m args below meth c C => w_X11_firstNotAtLevel_e C p0 p1 hp1 p2 σ)
abbrev rX11_refusalWithoutRow : Room := { frames := 1, cells := 0, slots := 0, locals := 21 }

set_option maxHeartbeats 4000000 in
set_option maxRecDepth 100000 in
theorem w_X11_refusalWithoutRow_e {l : Launch} {Z : zzG} {base : Nat} {PL : Nat → Option (Nat × Int32)} {mm : zzS} {p : Program} {e : Env} {s : State} {m : MethodId} {args : Array Value} {below : List Frame} {meth : Method} {c : Code} (C : zzCx p m meth c s args cX11_refusalWithoutRow 2 wsX11_refusalWithoutRow RX11 (some .int) Z) (p0 : Int32)  (σ : zzS) : zzGO p l e rX11_refusalWithoutRow s m args below meth c 2 (zzA base) (zzX Z base PL mm) (zzX Z base PL mm) zzRI rX11_refusalWithoutRow.cells rX11_refusalWithoutRow.slots (f_X11_refusalWithoutRow p0 σ) σ 0 0 0 [(0, .ref (zzad Z 0)), (1, .int p0)] [] := by
  unfold f_X11_refusalWithoutRow
  refine zz_iload_n C dX11_refusalWithoutRow_0 rfl 1 rfl ?_
  refine zz_callS (As := [.int p0]) (rest := []) C rfl (k_X11_isShelf p0 σ) (va_cwS 1 C.1.2.2.2.2 gX11_refusalWithoutRow_X11_isShelf rfl rfl rfl (by decide +kernel) ⟨Nat.le_of_ble_eq_true rfl, Nat.le_of_ble_eq_true rfl⟩) rfl (Nat.le_of_ble_eq_true rfl) ⟨Nat.zero_le _, Nat.zero_le _⟩ dX11_refusalWithoutRow_1 (zz_kI rfl rfl (fun r1 σ2 => ?_))
  refine zz_if_ne (tgt := 9) C dX11_refusalWithoutRow_4 (by decide) (fun h3 => ?_) (fun h3 => ?_)
  · refine zz_aload_n C dX11_refusalWithoutRow_9 rfl 0 rfl ?_
    refine zz_iload_n C dX11_refusalWithoutRow_10 rfl 1 rfl ?_
    refine zz_callV C (Cn := RX11) (b := zzad Z 0) (fun H hH => zz_recv C.2.2.2 (zzX_obj H hH) rfl) (As := [.int p0]) (rest := []) rfl (k_X11_oneOn p0 σ2) (cwV 1 C.1.2.2.2.2 gX11_refusalWithoutRow_X11_oneOn rfl rfl rfl (by decide +kernel) ⟨Nat.le_of_ble_eq_true rfl, Nat.le_of_ble_eq_true rfl⟩) rfl (Nat.le_of_ble_eq_true rfl) ⟨Nat.zero_le _, Nat.zero_le _⟩ dX11_refusalWithoutRow_11 (zz_kP rfl rfl (fun r4 σ5 c6 hp7 => ?_))
    refine zz_ifnonnullP (tgt := 22) C hp7 dX11_refusalWithoutRow_14 (by decide) (fun h10 h11 => ?_) (fun kf8 q9 h10 h11 hq12 => ?_)
    · subst h11
      refine zz_bipush (v := -11) C dX11_refusalWithoutRow_17 (by decide) ?_
      refine zz_goto (tgt := 24) C dX11_refusalWithoutRow_19 (by decide) ?_
      exact zz_iret C rfl rfl (fun _ h9 => h9) (Nat.zero_le _) (Nat.zero_le _) dX11_refusalWithoutRow_24
    · subst h11
      refine zz_bipush (v := -12) C dX11_refusalWithoutRow_22 (by decide) ?_
      exact zz_iret C rfl rfl (fun _ h9 => h9) (Nat.zero_le _) (Nat.zero_le _) dX11_refusalWithoutRow_24
  · refine zz_iconst (v := -1) C dX11_refusalWithoutRow_7 (by decide) ?_
    exact zz_iret C rfl rfl (fun _ h9 => h9) (Nat.zero_le _) (Nat.zero_le _) dX11_refusalWithoutRow_8
set_option maxHeartbeats 4000000 in
set_option maxRecDepth 100000 in
theorem k_X11_refusalWithoutRow {l : Launch} {Z : zzG} {base : Nat} {PL : Nat → Option (Nat × Int32)} {mm : zzS} (p0 : Int32)  (σ : zzS) : zzCT l yX11_refusalWithoutRow wsX11_refusalWithoutRow rX11_refusalWithoutRow (zzA base) Z (zzX Z base PL mm) (zzX Z base PL mm) zzRI [.ref (zzad Z 0), .int p0] (f_X11_refusalWithoutRow p0 σ) σ :=
  zzCT_of (cc := cX11_refusalWithoutRow) (nL := 2) (ret := (some .int)) (by decide) rfl (Nat.le_of_ble_eq_true rfl) [(0, .ref (zzad Z 0)), (1, .int p0)] rfl (fun p e s m args below meth c C => w_X11_refusalWithoutRow_e C p0 σ)
abbrev rX11_blushes : Room := { frames := 3, cells := 0, slots := 0, locals := 69 }

set_option maxHeartbeats 4000000 in
set_option maxRecDepth 100000 in
theorem w_X11_blushes_104 {l : Launch} {Z : zzG} {base : Nat} {PL : Nat → Option (Nat × Int32)} {mm : zzS} {p : Program} {e : Env} {s : State} {m : MethodId} {args : Array Value} {below : List Frame} {meth : Method} {c : Code} (C : zzCx p m meth c s args cX11_blushes 8 wsX11_blushes RX11 (some .int) Z) (p0 : Int32)  (p1 : Int32)  (p2 : Int32)  (k66 : Nat → Int32 → Int32 → Int32 → zzS → Option (Int32 × zzS)) (hk66 : ∀ (l4 : Nat) (hl4 : zzrow l4) (l5 : Int32)  (l6 : Int32)  (l7 : Int32)  (σ : zzS), zzGO p l e rX11_blushes s m args below meth c 8 (zzA base) (zzX Z base PL mm) (zzX Z base PL mm) zzRI rX11_blushes.cells rX11_blushes.slots (k66 l4 l5 l6 l7 σ) σ 0 0 66 [(0, .ref (zzad Z 0)), (1, .int p0), (3, .int p2), (4, .ref (zzad Z l4)), (5, .int l5), (6, .int l6), (7, .int l7)] []) (l4 : Nat) (hl4 : zzrow l4) (l5 : Int32)  (l6 : Int32)  (l7 : Int32)  (σ : zzS) : zzGO p l e rX11_blushes s m args below meth c 8 (zzA base) (zzX Z base PL mm) (zzX Z base PL mm) zzRI rX11_blushes.cells rX11_blushes.slots (f_X11_blushes_104 k66 p0 p1 p2 l4 l5 l6 l7 σ) σ 0 0 104 [(0, .ref (zzad Z 0)), (1, .int p0), (3, .int p2), (4, .ref (zzad Z l4)), (5, .int l5), (6, .int l6), (7, .int l7)] [] := by
  unfold f_X11_blushes_104
  refine zz_iincX (d := 1) (locf := fun x1 => [(7, .int x1), (0, .ref (zzad Z 0)), (1, .int p0), (3, .int p2), (4, .ref (zzad Z l4)), (5, .int l5), (6, .int l6)]) C dX11_blushes_104 (k := 6) rfl (by decide) (by decide) (fun _ => rfl) (fun x1 => ?_)
  refine zz_goto (tgt := 66) C dX11_blushes_107 (by decide) ?_
  refine zz_sub (loc' := [(0, .ref (zzad Z 0)), (1, .int p0), (3, .int p2), (4, .ref (zzad Z l4)), (5, .int l5), (6, .int l6), (7, .int x1)]) [1, 2, 3, 4, 5, 6, 0] rfl ?_
  exact hk66 l4 hl4 l5 l6 x1 σ
set_option maxHeartbeats 4000000 in
set_option maxRecDepth 100000 in
theorem w_X11_blushes_99 {l : Launch} {Z : zzG} {base : Nat} {PL : Nat → Option (Nat × Int32)} {mm : zzS} {p : Program} {e : Env} {s : State} {m : MethodId} {args : Array Value} {below : List Frame} {meth : Method} {c : Code} (C : zzCx p m meth c s args cX11_blushes 8 wsX11_blushes RX11 (some .int) Z) (p0 : Int32)  (p1 : Int32)  (p2 : Int32)  (k66 : Nat → Int32 → Int32 → Int32 → zzS → Option (Int32 × zzS)) (hk66 : ∀ (l4 : Nat) (hl4 : zzrow l4) (l5 : Int32)  (l6 : Int32)  (l7 : Int32)  (σ : zzS), zzGO p l e rX11_blushes s m args below meth c 8 (zzA base) (zzX Z base PL mm) (zzX Z base PL mm) zzRI rX11_blushes.cells rX11_blushes.slots (k66 l4 l5 l6 l7 σ) σ 0 0 66 [(0, .ref (zzad Z 0)), (1, .int p0), (3, .int p2), (4, .ref (zzad Z l4)), (5, .int l5), (6, .int l6), (7, .int l7)] []) (l4 : Nat) (hl4 : zzrow l4) (l5 : Int32)  (l7 : Int32)  (s0 : Int32)  (σ : zzS) : zzGO p l e rX11_blushes s m args below meth c 8 (zzA base) (zzX Z base PL mm) (zzX Z base PL mm) zzRI rX11_blushes.cells rX11_blushes.slots (f_X11_blushes_99 k66 p0 p1 p2 l4 l5 l7 s0 σ) σ 0 0 99 [(0, .ref (zzad Z 0)), (1, .int p0), (3, .int p2), (4, .ref (zzad Z l4)), (5, .int l5), (7, .int l7)] [.int s0] := by
  unfold f_X11_blushes_99
  refine zz_istore (loc' := [(6, .int s0), (0, .ref (zzad Z 0)), (1, .int p0), (3, .int p2), (4, .ref (zzad Z l4)), (5, .int l5), (7, .int l7)]) C dX11_blushes_99 (by decide) rfl ?_
  refine zz_iincX (d := 1) (locf := fun x1 => [(5, .int x1), (6, .int s0), (0, .ref (zzad Z 0)), (1, .int p0), (3, .int p2), (4, .ref (zzad Z l4)), (7, .int l7)]) C dX11_blushes_101 (k := 5) rfl (by decide) (by decide) (fun _ => rfl) (fun x1 => ?_)
  refine zz_sub (loc' := [(0, .ref (zzad Z 0)), (1, .int p0), (3, .int p2), (4, .ref (zzad Z l4)), (5, .int x1), (6, .int s0), (7, .int l7)]) [2, 3, 4, 5, 0, 1, 6] rfl ?_
  exact w_X11_blushes_104 C p0 p1 p2 k66 hk66 l4 hl4 x1 s0 l7 σ
set_option maxHeartbeats 4000000 in
set_option maxRecDepth 100000 in
theorem w_X11_blushes_66b {l : Launch} {Z : zzG} {base : Nat} {PL : Nat → Option (Nat × Int32)} {mm : zzS} {p : Program} {e : Env} {s : State} {m : MethodId} {args : Array Value} {below : List Frame} {meth : Method} {c : Code} (C : zzCx p m meth c s args cX11_blushes 8 wsX11_blushes RX11 (some .int) Z) (p0 : Int32)  (p1 : Int32)  (p2 : Int32)   (k66 : Nat → Int32 → Int32 → Int32 → zzS → Option (Int32 × zzS)) (hk66 : ∀ (l4 : Nat) (hl4 : zzrow l4) (l5 : Int32)  (l6 : Int32)  (l7 : Int32)  (σ : zzS), zzGO p l e rX11_blushes s m args below meth c 8 (zzA base) (zzX Z base PL mm) (zzX Z base PL mm) zzRI rX11_blushes.cells rX11_blushes.slots (k66 l4 l5 l6 l7 σ) σ 0 0 66 [(0, .ref (zzad Z 0)), (1, .int p0), (3, .int p2), (4, .ref (zzad Z l4)), (5, .int l5), (6, .int l6), (7, .int l7)] []) (l4 : Nat) (hl4 : zzrow l4) (l5 : Int32)  (l6 : Int32)  (l7 : Int32)  (σ : zzS) : zzGO p l e rX11_blushes s m args below meth c 8 (zzA base) (zzX Z base PL mm) (zzX Z base PL mm) zzRI rX11_blushes.cells rX11_blushes.slots (f_X11_blushes_66b k66 p0 p1 p2 l4 l5 l6 l7 σ) σ 0 0 66 [(0, .ref (zzad Z 0)), (1, .int p0), (3, .int p2), (4, .ref (zzad Z l4)), (5, .int l5), (6, .int l6), (7, .int l7)] [] := by
  unfold f_X11_blushes_66b
  refine zz_iload C dX11_blushes_66 6 rfl ?_
  refine zz_bipush (v := 10) C dX11_blushes_68 (by decide) ?_
  refine zz_icmp_ge (tgt := 110) C dX11_blushes_70 (by decide) (fun h1 => ?_) (fun h1 => ?_)
  · refine zz_iload_n C dX11_blushes_110 rfl 2 rfl ?_
    refine zz_if_ne (tgt := 119) C dX11_blushes_111 (by decide) (fun h2 => ?_) (fun h2 => ?_)
    · refine zz_iload C dX11_blushes_119 5 rfl ?_
      exact zz_iret C rfl rfl (fun _ h9 => h9) (Nat.zero_le _) (Nat.zero_le _) dX11_blushes_121
    · refine zz_iload C dX11_blushes_114 4 rfl ?_
      refine zz_goto (tgt := 121) C dX11_blushes_116 (by decide) ?_
      exact zz_iret C rfl rfl (fun _ h9 => h9) (Nat.zero_le _) (Nat.zero_le _) dX11_blushes_121
  · refine zz_aload_n C dX11_blushes_73 rfl 0 rfl ?_
    refine zz_iload_n C dX11_blushes_74 rfl 1 rfl ?_
    refine zz_aload C dX11_blushes_75 3 rfl ?_
    refine zz_iload C dX11_blushes_77 6 rfl ?_
    refine zz_callV C (Cn := RX11) (b := zzad Z 0) (fun H hH => zz_recv C.2.2.2 (zzX_obj H hH) rfl) (As := [.int p0, .ref (zzad Z l4), .int l7]) (rest := []) rfl (k_X11_firstNotAtLevel p0 l4 hl4 l7 σ) (cwV 3 C.1.2.2.2.2 gX11_blushes_X11_firstNotAtLevel rfl rfl rfl (by decide +kernel) ⟨Nat.le_of_ble_eq_true rfl, Nat.le_of_ble_eq_true rfl⟩) rfl (Nat.le_of_ble_eq_true rfl) ⟨Nat.zero_le _, Nat.zero_le _⟩ dX11_blushes_79 (zz_kI rfl rfl (fun r3 σ4 => ?_))
    refine zz_bipush (v := -4) C dX11_blushes_82 (by decide) ?_
    refine zz_icmp_ne (tgt := 104) C dX11_blushes_84 (by decide) (fun h5 => ?_) (fun h5 => ?_)
    · refine zz_sub (loc' := [(0, .ref (zzad Z 0)), (1, .int p0), (3, .int p2), (4, .ref (zzad Z l4)), (5, .int l5), (6, .int l6), (7, .int l7)]) [0, 1, 2, 3, 4, 5, 6] rfl ?_
      exact w_X11_blushes_104 C p0 p1 p2 k66 hk66 l4 hl4 l5 l6 l7 σ4
    · refine zz_iload C dX11_blushes_87 4 rfl ?_
      refine zz_if_ne (tgt := 97) C dX11_blushes_89 (by decide) (fun h6 => ?_) (fun h6 => ?_)
      · refine zz_iload C dX11_blushes_97 5 rfl ?_
        refine zz_sub (loc' := [(0, .ref (zzad Z 0)), (1, .int p0), (3, .int p2), (4, .ref (zzad Z l4)), (5, .int l5), (7, .int l7)]) [0, 1, 2, 3, 4, 6] rfl ?_
        exact w_X11_blushes_99 C p0 p1 p2 k66 hk66 l4 hl4 l5 l7 l6 σ4
      · refine zz_iload C dX11_blushes_92 6 rfl ?_
        refine zz_goto (tgt := 99) C dX11_blushes_94 (by decide) ?_
        refine zz_sub (loc' := [(0, .ref (zzad Z 0)), (1, .int p0), (3, .int p2), (4, .ref (zzad Z l4)), (5, .int l5), (7, .int l7)]) [0, 1, 2, 3, 4, 6] rfl ?_
        exact w_X11_blushes_99 C p0 p1 p2 k66 hk66 l4 hl4 l5 l7 l7 σ4
set_option maxHeartbeats 4000000 in
set_option maxRecDepth 100000 in
theorem w_X11_blushes_66 {l : Launch} {Z : zzG} {base : Nat} {PL : Nat → Option (Nat × Int32)} {mm : zzS} {p : Program} {e : Env} {s : State} {m : MethodId} {args : Array Value} {below : List Frame} {meth : Method} {c : Code} (C : zzCx p m meth c s args cX11_blushes 8 wsX11_blushes RX11 (some .int) Z) (p0 : Int32)  (p1 : Int32)  (p2 : Int32)   (n : Nat) : ∀ (l4 : Nat) (hl4 : zzrow l4) (l5 : Int32)  (l6 : Int32)  (l7 : Int32)  (σ : zzS), zzGO p l e rX11_blushes s m args below meth c 8 (zzA base) (zzX Z base PL mm) (zzX Z base PL mm) zzRI rX11_blushes.cells rX11_blushes.slots (f_X11_blushes_66 p0 p1 p2 n l4 l5 l6 l7 σ) σ 0 0 66 [(0, .ref (zzad Z 0)), (1, .int p0), (3, .int p2), (4, .ref (zzad Z l4)), (5, .int l5), (6, .int l6), (7, .int l7)] [] := by
  induction n with
  | zero => exact fun _ _ _ _ _ _ r9 s9 h9 => by cases h9
  | succ n ih => exact w_X11_blushes_66b C p0 p1 p2 _ ih
set_option maxHeartbeats 4000000 in
set_option maxRecDepth 100000 in
theorem w_X11_blushes_e {l : Launch} {Z : zzG} {base : Nat} {PL : Nat → Option (Nat × Int32)} {mm : zzS} {p : Program} {e : Env} {s : State} {m : MethodId} {args : Array Value} {below : List Frame} {meth : Method} {c : Code} (C : zzCx p m meth c s args cX11_blushes 8 wsX11_blushes RX11 (some .int) Z) (p0 : Int32)  (p1 : Int32)  (p2 : Int32)  (σ : zzS) : zzGO p l e rX11_blushes s m args below meth c 8 (zzA base) (zzX Z base PL mm) (zzX Z base PL mm) zzRI rX11_blushes.cells rX11_blushes.slots (f_X11_blushes p0 p1 p2 σ) σ 0 0 0 [(0, .ref (zzad Z 0)), (1, .int p0), (2, .int p1), (3, .int p2)] [] := by
  unfold f_X11_blushes
  refine zz_aload_n C dX11_blushes_0 rfl 0 rfl ?_
  refine zz_get C zzX_obj (fun _ h9 => List.mem_cons_of_mem _ (List.mem_append_left _ (List.mem_append_left _ (List.mem_append_right _ (h9))))) rfl 3 (by decide) (List.mem_of_getElem? (i := 1) rfl) (Or.inl rfl) rfl dX11_blushes_1 ?_
  refine zz_iload_n C dX11_blushes_4 rfl 1 rfl ?_
  refine zz_callV C (Cn := RX10) (b := zzad Z 20) (fun H hH => zz_recv C.2.2.2 ((zzX_town (Or.inl rfl)) H hH) rfl) (As := [.int p0]) (rest := []) rfl (k_X10_has 20 (Or.inl rfl) p0 σ) (cwV 1 C.1.2.2.2.2 gX11_blushes_X10_has rfl rfl rfl (by decide +kernel) ⟨Nat.le_of_ble_eq_true rfl, Nat.le_of_ble_eq_true rfl⟩) rfl (Nat.le_of_ble_eq_true rfl) ⟨Nat.zero_le _, Nat.zero_le _⟩ dX11_blushes_5 (zz_kI rfl rfl (fun r1 σ2 => ?_))
  refine zz_if_eq (tgt := 18) C dX11_blushes_8 (by decide) (fun h3 => ?_) (fun h3 => ?_)
  · refine zz_iconst (v := -1) C dX11_blushes_18 (by decide) ?_
    exact zz_iret C rfl rfl (fun _ h9 => h9) (Nat.zero_le _) (Nat.zero_le _) dX11_blushes_19
  · refine zz_iload_n C dX11_blushes_11 rfl 3 rfl ?_
    refine zz_callS (As := [.int p2]) (rest := []) C rfl (k_X11_isOneOfTwo p2 σ2) (va_cwS 1 C.1.2.2.2.2 gX11_blushes_X11_isOneOfTwo rfl rfl rfl (by decide +kernel) ⟨Nat.le_of_ble_eq_true rfl, Nat.le_of_ble_eq_true rfl⟩) rfl (Nat.le_of_ble_eq_true rfl) ⟨Nat.zero_le _, Nat.zero_le _⟩ dX11_blushes_12 (zz_kI rfl rfl (fun r4 σ5 => ?_))
    refine zz_if_ne (tgt := 20) C dX11_blushes_15 (by decide) (fun h6 => ?_) (fun h6 => ?_)
    · refine zz_aload_n C dX11_blushes_20 rfl 0 rfl ?_
      refine zz_iload_n C dX11_blushes_21 rfl 2 rfl ?_
      refine zz_callV C (Cn := RX11) (b := zzad Z 0) (fun H hH => zz_recv C.2.2.2 (zzX_obj H hH) rfl) (As := [.int p1]) (rest := []) rfl (k_X11_rowOn p1 σ5) (cwV 1 C.1.2.2.2.2 gX11_blushes_X11_rowOn rfl rfl rfl (by decide +kernel) ⟨Nat.le_of_ble_eq_true rfl, Nat.le_of_ble_eq_true rfl⟩) rfl (Nat.le_of_ble_eq_true rfl) ⟨Nat.zero_le _, Nat.zero_le _⟩ dX11_blushes_22 (zz_kQ rfl rfl (fun r7 σ8 => ?_))
      refine zz_astoreq (loc' := [(4, va_rf (Option.map (zzad Z) r7)), (0, .ref (zzad Z 0)), (1, .int p0), (2, .int p1), (3, .int p2)]) C dX11_blushes_25 (by decide) rfl ?_
      refine zz_aloadq C dX11_blushes_27 0 rfl ?_
      refine zz_ifnonnullQ (tgt := 38) C dX11_blushes_29 (by decide) (fun h10 => ?_) (fun j9 h10 => ?_)
      · subst h10
        refine zz_aload_n C dX11_blushes_32 rfl 1 rfl ?_
        refine zz_iload_n C dX11_blushes_33 rfl 3 rfl ?_
        refine zz_callV C (Cn := RX11) (b := zzad Z 0) (fun H hH => zz_recv C.2.2.2 (zzX_obj H hH) rfl) (As := [.int p1]) (rest := []) rfl (k_X11_refusalWithoutRow p1 σ8) (cwV 1 C.1.2.2.2.2 gX11_blushes_X11_refusalWithoutRow rfl rfl rfl (by decide +kernel) ⟨Nat.le_of_ble_eq_true rfl, Nat.le_of_ble_eq_true rfl⟩) rfl (Nat.le_of_ble_eq_true rfl) ⟨Nat.zero_le _, Nat.zero_le _⟩ dX11_blushes_34 (zz_kI rfl rfl (fun r12 σ13 => ?_))
        exact zz_iret C rfl rfl (fun _ h9 => h9) (Nat.zero_le _) (Nat.zero_le _) dX11_blushes_37
      · subst h10
        refine zz_gd (fun h11 => ?_)
        refine zz_aload C dX11_blushes_38 0 rfl ?_
        refine zz_get C (zzX_row h11) (fun _ h9 => List.mem_cons_of_mem _ (List.mem_append_left _ (List.mem_append_right _ (h9)))) rfl 2 (by decide) (List.mem_of_getElem? (i := 2) rfl) (Or.inl rfl) rfl dX11_blushes_40 ?_
        refine zz_aload_n C dX11_blushes_43 rfl 1 rfl ?_
        refine zz_get C zzX_obj (fun _ h9 => List.mem_cons_of_mem _ (List.mem_append_left _ (List.mem_append_left _ (List.mem_append_right _ (h9))))) rfl 3 (by decide) (List.mem_of_getElem? (i := 1) rfl) (Or.inl rfl) rfl dX11_blushes_44 ?_
        refine zz_get C (zzX_town (Or.inl rfl)) (fun _ h9 => List.mem_cons_of_mem _ (List.mem_append_right _ (h9))) rfl 4 (by decide) (List.mem_of_getElem? (i := 3) rfl) (Or.inl rfl) rfl dX11_blushes_47 ?_
        refine zz_icmp_le (tgt := 56) C dX11_blushes_50 (by decide) (fun h14 => ?_) (fun h14 => ?_)
        · refine zz_iconst (v := 0) C dX11_blushes_56 (by decide) ?_
          refine zz_istore (loc' := [(5, .int (0 : Int32)), (4, .ref (zzad Z j9)), (0, .ref (zzad Z 0)), (1, .int p0), (2, .int p1), (3, .int p2)]) C dX11_blushes_57 (by decide) rfl ?_
          refine zz_bipush (v := -4) C dX11_blushes_59 (by decide) ?_
          refine zz_istore (loc' := [(6, .int (-4 : Int32)), (5, .int (0 : Int32)), (4, .ref (zzad Z j9)), (0, .ref (zzad Z 0)), (1, .int p0), (2, .int p1), (3, .int p2)]) C dX11_blushes_61 (by decide) rfl ?_
          refine zz_iconst (v := 0) C dX11_blushes_63 (by decide) ?_
          refine zz_istore (loc' := [(7, .int (0 : Int32)), (6, .int (-4 : Int32)), (5, .int (0 : Int32)), (4, .ref (zzad Z j9)), (0, .ref (zzad Z 0)), (1, .int p0), (2, .int p1), (3, .int p2)]) C dX11_blushes_64 (by decide) rfl ?_
          refine zz_sub (loc' := [(0, .ref (zzad Z 0)), (1, .int p0), (3, .int p2), (4, .ref (zzad Z j9)), (5, .int (0 : Int32)), (6, .int (-4 : Int32)), (7, .int (0 : Int32))]) [4, 5, 7, 3, 2, 1, 0] rfl ?_
          exact w_X11_blushes_66 C p0 p1 p2 200 j9 h11 (0 : Int32) (-4 : Int32) (0 : Int32) σ8
        · refine zz_bipush (v := -13) C dX11_blushes_53 (by decide) ?_
          exact zz_iret C rfl rfl (fun _ h9 => h9) (Nat.zero_le _) (Nat.zero_le _) dX11_blushes_55
    · refine zz_iconst (v := -1) C dX11_blushes_18 (by decide) ?_
      exact zz_iret C rfl rfl (fun _ h9 => h9) (Nat.zero_le _) (Nat.zero_le _) dX11_blushes_19
set_option maxHeartbeats 4000000 in
set_option maxRecDepth 100000 in
theorem k_X11_blushes {l : Launch} {Z : zzG} {base : Nat} {PL : Nat → Option (Nat × Int32)} {mm : zzS} (p0 : Int32)  (p1 : Int32)  (p2 : Int32)  (σ : zzS) : zzCT l yX11_blushes wsX11_blushes rX11_blushes (zzA base) Z (zzX Z base PL mm) (zzX Z base PL mm) zzRI [.ref (zzad Z 0), .int p0, .int p1, .int p2] (f_X11_blushes p0 p1 p2 σ) σ :=
  zzCT_of (cc := cX11_blushes) (nL := 8) (ret := (some .int)) (by decide) rfl (Nat.le_of_ble_eq_true rfl) [(0, .ref (zzad Z 0)), (1, .int p0), (2, .int p1), (3, .int p2)] rfl (fun p e s m args below meth c C => w_X11_blushes_e C p0 p1 p2 σ)
abbrev rX11_forged : Room := { frames := 3, cells := 0, slots := 0, locals := 69 }

set_option maxHeartbeats 4000000 in
set_option maxRecDepth 100000 in
theorem w_X11_forged_52b {l : Launch} {Z : zzG} {base : Nat} {PL : Nat → Option (Nat × Int32)} {mm : zzS} {p : Program} {e : Env} {s : State} {m : MethodId} {args : Array Value} {below : List Frame} {meth : Method} {c : Code} (C : zzCx p m meth c s args cX11_forged 7 wsX11_forged RX11 (some .int) Z) (p0 : Int32)  (p1 : Int32)   (k52 : Nat → Int32 → Int32 → zzS → Option (Int32 × zzS)) (hk52 : ∀ (l3 : Nat) (hl3 : zzrow l3) (l4 : Int32)  (l5 : Int32)  (σ : zzS), zzGO p l e rX11_forged s m args below meth c 7 (zzA base) (zzX Z base PL mm) (zzX Z base PL mm) zzRI rX11_forged.cells rX11_forged.slots (k52 l3 l4 l5 σ) σ 0 0 52 [(0, .ref (zzad Z 0)), (1, .int p0), (3, .ref (zzad Z l3)), (4, .int l4), (5, .int l5)] []) (l3 : Nat) (hl3 : zzrow l3) (l4 : Int32)  (l5 : Int32)  (σ : zzS) : zzGO p l e rX11_forged s m args below meth c 7 (zzA base) (zzX Z base PL mm) (zzX Z base PL mm) zzRI rX11_forged.cells rX11_forged.slots (f_X11_forged_52b k52 p0 p1 l3 l4 l5 σ) σ 0 0 52 [(0, .ref (zzad Z 0)), (1, .int p0), (3, .ref (zzad Z l3)), (4, .int l4), (5, .int l5)] [] := by
  unfold f_X11_forged_52b
  refine zz_iload C dX11_forged_52 4 rfl ?_
  refine zz_bipush (v := 10) C dX11_forged_54 (by decide) ?_
  refine zz_icmp_ge (tgt := 94) C dX11_forged_56 (by decide) (fun h1 => ?_) (fun h1 => ?_)
  · refine zz_iload C dX11_forged_94 3 rfl ?_
    exact zz_iret C rfl rfl (fun _ h9 => h9) (Nat.zero_le _) (Nat.zero_le _) dX11_forged_96
  · refine zz_aload_n C dX11_forged_59 rfl 0 rfl ?_
    refine zz_iload_n C dX11_forged_60 rfl 1 rfl ?_
    refine zz_aload_n C dX11_forged_61 rfl 2 rfl ?_
    refine zz_iload C dX11_forged_62 4 rfl ?_
    refine zz_callV C (Cn := RX11) (b := zzad Z 0) (fun H hH => zz_recv C.2.2.2 (zzX_obj H hH) rfl) (As := [.int p0, .ref (zzad Z l3), .int l5]) (rest := []) rfl (k_X11_firstNotAtLevel p0 l3 hl3 l5 σ) (cwV 3 C.1.2.2.2.2 gX11_forged_X11_firstNotAtLevel rfl rfl rfl (by decide +kernel) ⟨Nat.le_of_ble_eq_true rfl, Nat.le_of_ble_eq_true rfl⟩) rfl (Nat.le_of_ble_eq_true rfl) ⟨Nat.zero_le _, Nat.zero_le _⟩ dX11_forged_64 (zz_kI rfl rfl (fun r2 σ3 => ?_))
    refine zz_istore (loc' := [(6, .int r2), (0, .ref (zzad Z 0)), (1, .int p0), (3, .ref (zzad Z l3)), (4, .int l4), (5, .int l5)]) C dX11_forged_67 (by decide) rfl ?_
    refine zz_iload C dX11_forged_69 0 rfl ?_
    refine zz_bipush (v := -4) C dX11_forged_71 (by decide) ?_
    refine zz_icmp_ne (tgt := 79) C dX11_forged_73 (by decide) (fun h4 => ?_) (fun h4 => ?_)
    · refine zz_iload C dX11_forged_79 4 rfl ?_
      refine zz_iload C dX11_forged_81 0 rfl ?_
      refine zz_mmax C (C.1.2.2.2.2 _ (List.mem_of_getElem? (i := 4) rfl)) (C.1.2.2.2.2 _ (List.mem_of_getElem? (i := 5) rfl)) (C.1.2.2.2.2 _ (List.mem_of_getElem? (i := 6) rfl)) (C.1.2.2.2.2 _ (List.mem_of_getElem? (i := 7) rfl)) (Nat.le_of_ble_eq_true rfl) (Nat.le_of_ble_eq_true rfl) (Nat.zero_le _) (Nat.zero_le _) dX11_forged_83 ?_
      refine zz_istoreX (locf := fun x5 => [(4, .int x5), (6, .int r2), (0, .ref (zzad Z 0)), (1, .int p0), (3, .ref (zzad Z l3)), (5, .int l5)]) C dX11_forged_86 (by decide) (fun _ => rfl) (fun x5 => ?_)
      refine zz_iincX (d := 1) (locf := fun x6 => [(5, .int x6), (4, .int x5), (6, .int r2), (0, .ref (zzad Z 0)), (1, .int p0), (3, .ref (zzad Z l3))]) C dX11_forged_88 (k := 5) rfl (by decide) (by decide) (fun _ => rfl) (fun x6 => ?_)
      refine zz_goto (tgt := 52) C dX11_forged_91 (by decide) ?_
      refine zz_sub (loc' := [(0, .ref (zzad Z 0)), (1, .int p0), (3, .ref (zzad Z l3)), (4, .int x5), (5, .int x6)]) [3, 4, 5, 1, 0] rfl ?_
      exact hk52 l3 hl3 x5 x6 σ3
    · refine zz_bipush (v := -4) C dX11_forged_76 (by decide) ?_
      exact zz_iret C rfl rfl (fun _ h9 => h9) (Nat.zero_le _) (Nat.zero_le _) dX11_forged_78
set_option maxHeartbeats 4000000 in
set_option maxRecDepth 100000 in
theorem w_X11_forged_52 {l : Launch} {Z : zzG} {base : Nat} {PL : Nat → Option (Nat × Int32)} {mm : zzS} {p : Program} {e : Env} {s : State} {m : MethodId} {args : Array Value} {below : List Frame} {meth : Method} {c : Code} (C : zzCx p m meth c s args cX11_forged 7 wsX11_forged RX11 (some .int) Z) (p0 : Int32)  (p1 : Int32)   (n : Nat) : ∀ (l3 : Nat) (hl3 : zzrow l3) (l4 : Int32)  (l5 : Int32)  (σ : zzS), zzGO p l e rX11_forged s m args below meth c 7 (zzA base) (zzX Z base PL mm) (zzX Z base PL mm) zzRI rX11_forged.cells rX11_forged.slots (f_X11_forged_52 p0 p1 n l3 l4 l5 σ) σ 0 0 52 [(0, .ref (zzad Z 0)), (1, .int p0), (3, .ref (zzad Z l3)), (4, .int l4), (5, .int l5)] [] := by
  induction n with
  | zero => exact fun _ _ _ _ _ r9 s9 h9 => by cases h9
  | succ n ih => exact w_X11_forged_52b C p0 p1 _ ih
set_option maxHeartbeats 4000000 in
set_option maxRecDepth 100000 in
theorem w_X11_forged_e {l : Launch} {Z : zzG} {base : Nat} {PL : Nat → Option (Nat × Int32)} {mm : zzS} {p : Program} {e : Env} {s : State} {m : MethodId} {args : Array Value} {below : List Frame} {meth : Method} {c : Code} (C : zzCx p m meth c s args cX11_forged 7 wsX11_forged RX11 (some .int) Z) (p0 : Int32)  (p1 : Int32)  (σ : zzS) : zzGO p l e rX11_forged s m args below meth c 7 (zzA base) (zzX Z base PL mm) (zzX Z base PL mm) zzRI rX11_forged.cells rX11_forged.slots (f_X11_forged p0 p1 σ) σ 0 0 0 [(0, .ref (zzad Z 0)), (1, .int p0), (2, .int p1)] [] := by
  unfold f_X11_forged
  refine zz_aload_n C dX11_forged_0 rfl 0 rfl ?_
  refine zz_get C zzX_obj (fun _ h9 => List.mem_cons_of_mem _ (List.mem_append_left _ (List.mem_append_left _ (List.mem_append_right _ (h9))))) rfl 3 (by decide) (List.mem_of_getElem? (i := 1) rfl) (Or.inl rfl) rfl dX11_forged_1 ?_
  refine zz_iload_n C dX11_forged_4 rfl 1 rfl ?_
  refine zz_callV C (Cn := RX10) (b := zzad Z 20) (fun H hH => zz_recv C.2.2.2 ((zzX_town (Or.inl rfl)) H hH) rfl) (As := [.int p0]) (rest := []) rfl (k_X10_has 20 (Or.inl rfl) p0 σ) (cwV 1 C.1.2.2.2.2 gX11_forged_X10_has rfl rfl rfl (by decide +kernel) ⟨Nat.le_of_ble_eq_true rfl, Nat.le_of_ble_eq_true rfl⟩) rfl (Nat.le_of_ble_eq_true rfl) ⟨Nat.zero_le _, Nat.zero_le _⟩ dX11_forged_5 (zz_kI rfl rfl (fun r1 σ2 => ?_))
  refine zz_if_ne (tgt := 13) C dX11_forged_8 (by decide) (fun h3 => ?_) (fun h3 => ?_)
  · refine zz_aload_n C dX11_forged_13 rfl 0 rfl ?_
    refine zz_iload_n C dX11_forged_14 rfl 2 rfl ?_
    refine zz_callV C (Cn := RX11) (b := zzad Z 0) (fun H hH => zz_recv C.2.2.2 (zzX_obj H hH) rfl) (As := [.int p1]) (rest := []) rfl (k_X11_rowOn p1 σ2) (cwV 1 C.1.2.2.2.2 gX11_forged_X11_rowOn rfl rfl rfl (by decide +kernel) ⟨Nat.le_of_ble_eq_true rfl, Nat.le_of_ble_eq_true rfl⟩) rfl (Nat.le_of_ble_eq_true rfl) ⟨Nat.zero_le _, Nat.zero_le _⟩ dX11_forged_15 (zz_kQ rfl rfl (fun r4 σ5 => ?_))
    refine zz_astoreq_n (loc' := [(3, va_rf (Option.map (zzad Z) r4)), (0, .ref (zzad Z 0)), (1, .int p0), (2, .int p1)]) C dX11_forged_18 rfl (by decide) rfl ?_
    refine zz_aloadq_n C dX11_forged_19 rfl 0 rfl ?_
    refine zz_ifnonnullQ (tgt := 29) C dX11_forged_20 (by decide) (fun h7 => ?_) (fun j6 h7 => ?_)
    · subst h7
      refine zz_aload_n C dX11_forged_23 rfl 1 rfl ?_
      refine zz_iload_n C dX11_forged_24 rfl 3 rfl ?_
      refine zz_callV C (Cn := RX11) (b := zzad Z 0) (fun H hH => zz_recv C.2.2.2 (zzX_obj H hH) rfl) (As := [.int p1]) (rest := []) rfl (k_X11_refusalWithoutRow p1 σ5) (cwV 1 C.1.2.2.2.2 gX11_forged_X11_refusalWithoutRow rfl rfl rfl (by decide +kernel) ⟨Nat.le_of_ble_eq_true rfl, Nat.le_of_ble_eq_true rfl⟩) rfl (Nat.le_of_ble_eq_true rfl) ⟨Nat.zero_le _, Nat.zero_le _⟩ dX11_forged_25 (zz_kI rfl rfl (fun r9 σ10 => ?_))
      exact zz_iret C rfl rfl (fun _ h9 => h9) (Nat.zero_le _) (Nat.zero_le _) dX11_forged_28
    · subst h7
      refine zz_gd (fun h8 => ?_)
      refine zz_aload_n C dX11_forged_29 rfl 0 rfl ?_
      refine zz_get C (zzX_row h8) (fun _ h9 => List.mem_cons_of_mem _ (List.mem_append_left _ (List.mem_append_right _ (h9)))) rfl 2 (by decide) (List.mem_of_getElem? (i := 2) rfl) (Or.inl rfl) rfl dX11_forged_30 ?_
      refine zz_aload_n C dX11_forged_33 rfl 1 rfl ?_
      refine zz_get C zzX_obj (fun _ h9 => List.mem_cons_of_mem _ (List.mem_append_left _ (List.mem_append_left _ (List.mem_append_right _ (h9))))) rfl 3 (by decide) (List.mem_of_getElem? (i := 1) rfl) (Or.inl rfl) rfl dX11_forged_34 ?_
      refine zz_get C (zzX_town (Or.inl rfl)) (fun _ h9 => List.mem_cons_of_mem _ (List.mem_append_right _ (h9))) rfl 4 (by decide) (List.mem_of_getElem? (i := 3) rfl) (Or.inl rfl) rfl dX11_forged_37 ?_
      refine zz_icmp_le (tgt := 46) C dX11_forged_40 (by decide) (fun h11 => ?_) (fun h11 => ?_)
      · refine zz_iconst (v := 0) C dX11_forged_46 (by decide) ?_
        refine zz_istore (loc' := [(4, .int (0 : Int32)), (3, .ref (zzad Z j6)), (0, .ref (zzad Z 0)), (1, .int p0), (2, .int p1)]) C dX11_forged_47 (by decide) rfl ?_
        refine zz_iconst (v := 0) C dX11_forged_49 (by decide) ?_
        refine zz_istore (loc' := [(5, .int (0 : Int32)), (4, .int (0 : Int32)), (3, .ref (zzad Z j6)), (0, .ref (zzad Z 0)), (1, .int p0), (2, .int p1)]) C dX11_forged_50 (by decide) rfl ?_
        refine zz_sub (loc' := [(0, .ref (zzad Z 0)), (1, .int p0), (3, .ref (zzad Z j6)), (4, .int (0 : Int32)), (5, .int (0 : Int32))]) [3, 4, 2, 1, 0] rfl ?_
        exact w_X11_forged_52 C p0 p1 200 j6 h8 (0 : Int32) (0 : Int32) σ5
      · refine zz_bipush (v := -13) C dX11_forged_43 (by decide) ?_
        exact zz_iret C rfl rfl (fun _ h9 => h9) (Nat.zero_le _) (Nat.zero_le _) dX11_forged_45
  · refine zz_iconst (v := -1) C dX11_forged_11 (by decide) ?_
    exact zz_iret C rfl rfl (fun _ h9 => h9) (Nat.zero_le _) (Nat.zero_le _) dX11_forged_12
set_option maxHeartbeats 4000000 in
set_option maxRecDepth 100000 in
theorem k_X11_forged {l : Launch} {Z : zzG} {base : Nat} {PL : Nat → Option (Nat × Int32)} {mm : zzS} (p0 : Int32)  (p1 : Int32)  (σ : zzS) : zzCT l yX11_forged wsX11_forged rX11_forged (zzA base) Z (zzX Z base PL mm) (zzX Z base PL mm) zzRI [.ref (zzad Z 0), .int p0, .int p1] (f_X11_forged p0 p1 σ) σ :=
  zzCT_of (cc := cX11_forged) (nL := 7) (ret := (some .int)) (by decide) rfl (Nat.le_of_ble_eq_true rfl) [(0, .ref (zzad Z 0)), (1, .int p0), (2, .int p1)] rfl (fun p e s m args below meth c C => w_X11_forged_e C p0 p1 σ)
abbrev rX11_judge : Room := { frames := 6, cells := 0, slots := 0, locals := 132 }

set_option maxHeartbeats 4000000 in
set_option maxRecDepth 100000 in
theorem w_X11_judge_121 {l : Launch} {Z : zzG} {base : Nat} {PL : Nat → Option (Nat × Int32)} {mm : zzS} {p : Program} {e : Env} {s : State} {m : MethodId} {args : Array Value} {below : List Frame} {meth : Method} {c : Code} (C : zzCx p m meth c s args cX11_judge 7 wsX11_judge RX11 (some .int) Z) (p0 : Int32)  (p1 : Int32)  (k46 : Nat → Int32 → Int32 → zzS → Option (Int32 × zzS)) (hk46 : ∀ (l3 : Nat) (hl3 : zzrow l3) (l4 : Int32)  (l5 : Int32)  (σ : zzS), zzGO p l e rX11_judge s m args below meth c 7 (zzA base) (zzX Z base PL mm) (zzX Z base PL mm) zzRI rX11_judge.cells rX11_judge.slots (k46 l3 l4 l5 σ) σ 0 0 46 [(0, .ref (zzad Z 0)), (1, .int p0), (3, .ref (zzad Z l3)), (4, .int l4), (5, .int l5)] []) (l3 : Nat) (hl3 : zzrow l3) (l4 : Int32)  (l5 : Int32)  (σ : zzS) : zzGO p l e rX11_judge s m args below meth c 7 (zzA base) (zzX Z base PL mm) (zzX Z base PL mm) zzRI rX11_judge.cells rX11_judge.slots (f_X11_judge_121 k46 p0 p1 l3 l4 l5 σ) σ 0 0 121 [(0, .ref (zzad Z 0)), (1, .int p0), (3, .ref (zzad Z l3)), (4, .int l4), (5, .int l5)] [] := by
  unfold f_X11_judge_121
  refine zz_iincX (d := 1) (locf := fun x1 => [(5, .int x1), (0, .ref (zzad Z 0)), (1, .int p0), (3, .ref (zzad Z l3)), (4, .int l4)]) C dX11_judge_121 (k := 4) rfl (by decide) (by decide) (fun _ => rfl) (fun x1 => ?_)
  refine zz_goto (tgt := 46) C dX11_judge_124 (by decide) ?_
  refine zz_sub (loc' := [(0, .ref (zzad Z 0)), (1, .int p0), (3, .ref (zzad Z l3)), (4, .int l4), (5, .int x1)]) [1, 2, 3, 4, 0] rfl ?_
  exact hk46 l3 hl3 l4 x1 σ
set_option maxHeartbeats 4000000 in
set_option maxRecDepth 100000 in
theorem w_X11_judge_83 {l : Launch} {Z : zzG} {base : Nat} {PL : Nat → Option (Nat × Int32)} {mm : zzS} {p : Program} {e : Env} {s : State} {m : MethodId} {args : Array Value} {below : List Frame} {meth : Method} {c : Code} (C : zzCx p m meth c s args cX11_judge 7 wsX11_judge RX11 (some .int) Z) (p0 : Int32)  (p1 : Int32)  (k46 : Nat → Int32 → Int32 → zzS → Option (Int32 × zzS)) (hk46 : ∀ (l3 : Nat) (hl3 : zzrow l3) (l4 : Int32)  (l5 : Int32)  (σ : zzS), zzGO p l e rX11_judge s m args below meth c 7 (zzA base) (zzX Z base PL mm) (zzX Z base PL mm) zzRI rX11_judge.cells rX11_judge.slots (k46 l3 l4 l5 σ) σ 0 0 46 [(0, .ref (zzad Z 0)), (1, .int p0), (3, .ref (zzad Z l3)), (4, .int l4), (5, .int l5)] []) (l3 : Nat) (hl3 : zzrow l3) (l4 : Int32)  (l5 : Int32)  (σ : zzS) : zzGO p l e rX11_judge s m args below meth c 7 (zzA base) (zzX Z base PL mm) (zzX Z base PL mm) zzRI rX11_judge.cells rX11_judge.slots (f_X11_judge_83 k46 p0 p1 l3 l4 l5 σ) σ 0 0 83 [(0, .ref (zzad Z 0)), (1, .int p0), (3, .ref (zzad Z l3)), (4, .int l4), (5, .int l5)] [] := by
  unfold f_X11_judge_83
  refine zz_aload_n C dX11_judge_83 rfl 2 rfl ?_
  refine zz_iload C dX11_judge_84 4 rfl ?_
  refine zz_callV C (Cn := RX7) (b := zzad Z l3) (fun H hH => zz_recv C.2.2.2 ((zzX_row hl3) H hH) rfl) (As := [.int l5]) (rest := []) rfl (k_X7_at l3 hl3 l5 σ) (cwV 1 C.1.2.2.2.2 gX11_judge_X7_at rfl rfl rfl (by decide +kernel) ⟨Nat.le_of_ble_eq_true rfl, Nat.le_of_ble_eq_true rfl⟩) rfl (Nat.le_of_ble_eq_true rfl) ⟨Nat.zero_le _, Nat.zero_le _⟩ dX11_judge_86 (zz_kI rfl rfl (fun r1 σ2 => ?_))
  refine zz_istore (loc' := [(6, .int r1), (0, .ref (zzad Z 0)), (1, .int p0), (3, .ref (zzad Z l3)), (4, .int l4), (5, .int l5)]) C dX11_judge_89 (by decide) rfl ?_
  refine zz_iload C dX11_judge_91 0 rfl ?_
  refine zz_aload_n C dX11_judge_93 rfl 3 rfl ?_
  refine zz_callV C (Cn := RX7) (b := zzad Z l3) (fun H hH => zz_recv C.2.2.2 ((zzX_row hl3) H hH) rfl) (As := []) (rest := [.int r1]) rfl (k_X7_leastNumber l3 hl3 σ2) (cwV 0 C.1.2.2.2.2 gX11_judge_X7_leastNumber rfl rfl rfl (by decide +kernel) ⟨Nat.le_of_ble_eq_true rfl, Nat.le_of_ble_eq_true rfl⟩) rfl (Nat.le_of_ble_eq_true rfl) ⟨Nat.zero_le _, Nat.zero_le _⟩ dX11_judge_94 (zz_kI rfl rfl (fun r3 σ4 => ?_))
  refine zz_icmp_eq (tgt := 121) C dX11_judge_97 (by decide) (fun h5 => ?_) (fun h5 => ?_)
  · refine zz_sub (loc' := [(0, .ref (zzad Z 0)), (1, .int p0), (3, .ref (zzad Z l3)), (4, .int l4), (5, .int l5)]) [1, 2, 3, 4, 5] rfl ?_
    exact w_X11_judge_121 C p0 p1 k46 hk46 l3 hl3 l4 l5 σ4
  · refine zz_iload C dX11_judge_100 4 rfl ?_
    refine zz_if_eq (tgt := 118) C dX11_judge_102 (by decide) (fun h6 => ?_) (fun h6 => ?_)
    · refine zz_iload C dX11_judge_118 5 rfl ?_
      exact zz_iret C rfl rfl (fun _ h9 => h9) (Nat.zero_le _) (Nat.zero_le _) dX11_judge_120
    · refine zz_iload C dX11_judge_105 0 rfl ?_
      refine zz_aload_n C dX11_judge_107 rfl 1 rfl ?_
      refine zz_get C zzX_obj (fun _ h9 => List.mem_cons_of_mem _ (List.mem_append_left _ (List.mem_append_left _ (List.mem_append_left _ (List.mem_append_left _ (List.mem_append_left _ (List.mem_append_left _ (List.mem_append_left _ (List.mem_append_left _ (List.mem_append_left _ (List.mem_append_left _ (List.mem_append_right _ (h9))))))))))))) rfl 4 (by decide) (List.mem_of_getElem? (i := 2) rfl) (Or.inl rfl) rfl dX11_judge_108 ?_
      refine zz_iload_n C dX11_judge_111 rfl 2 rfl ?_
      refine zz_callV C (Cn := RX10) (b := zzad Z 24) (fun H hH => zz_recv C.2.2.2 ((zzX_town (Or.inr (Or.inl rfl))) H hH) rfl) (As := [.int p0]) (rest := [.int r1]) rfl (k_X10_turnedOf 24 (Or.inr (Or.inl rfl)) p0 σ4) (cwV 1 C.1.2.2.2.2 gX11_judge_X10_turnedOf rfl rfl rfl (by decide +kernel) ⟨Nat.le_of_ble_eq_true rfl, Nat.le_of_ble_eq_true rfl⟩) rfl (Nat.le_of_ble_eq_true rfl) ⟨Nat.zero_le _, Nat.zero_le _⟩ dX11_judge_112 (zz_kI rfl rfl (fun r7 σ8 => ?_))
      refine zz_icmp_eq (tgt := 121) C dX11_judge_115 (by decide) (fun h9 => ?_) (fun h9 => ?_)
      · refine zz_sub (loc' := [(0, .ref (zzad Z 0)), (1, .int p0), (3, .ref (zzad Z l3)), (4, .int l4), (5, .int l5)]) [1, 2, 3, 4, 5] rfl ?_
        exact w_X11_judge_121 C p0 p1 k46 hk46 l3 hl3 l4 l5 σ8
      · refine zz_iload C dX11_judge_118 5 rfl ?_
        exact zz_iret C rfl rfl (fun _ h9 => h9) (Nat.zero_le _) (Nat.zero_le _) dX11_judge_120
set_option maxHeartbeats 4000000 in
set_option maxRecDepth 100000 in
theorem w_X11_judge_81 {l : Launch} {Z : zzG} {base : Nat} {PL : Nat → Option (Nat × Int32)} {mm : zzS} {p : Program} {e : Env} {s : State} {m : MethodId} {args : Array Value} {below : List Frame} {meth : Method} {c : Code} (C : zzCx p m meth c s args cX11_judge 7 wsX11_judge RX11 (some .int) Z) (p0 : Int32)  (p1 : Int32)  (k46 : Nat → Int32 → Int32 → zzS → Option (Int32 × zzS)) (hk46 : ∀ (l3 : Nat) (hl3 : zzrow l3) (l4 : Int32)  (l5 : Int32)  (σ : zzS), zzGO p l e rX11_judge s m args below meth c 7 (zzA base) (zzX Z base PL mm) (zzX Z base PL mm) zzRI rX11_judge.cells rX11_judge.slots (k46 l3 l4 l5 σ) σ 0 0 46 [(0, .ref (zzad Z 0)), (1, .int p0), (3, .ref (zzad Z l3)), (4, .int l4), (5, .int l5)] []) (l3 : Nat) (hl3 : zzrow l3) (l5 : Int32)  (s0 : Int32)  (σ : zzS) : zzGO p l e rX11_judge s m args below meth c 7 (zzA base) (zzX Z base PL mm) (zzX Z base PL mm) zzRI rX11_judge.cells rX11_judge.slots (f_X11_judge_81 k46 p0 p1 l3 l5 s0 σ) σ 0 0 81 [(0, .ref (zzad Z 0)), (1, .int p0), (3, .ref (zzad Z l3)), (5, .int l5)] [.int s0] := by
  unfold f_X11_judge_81
  refine zz_istore (loc' := [(4, .int s0), (0, .ref (zzad Z 0)), (1, .int p0), (3, .ref (zzad Z l3)), (5, .int l5)]) C dX11_judge_81 (by decide) rfl ?_
  refine zz_sub (loc' := [(0, .ref (zzad Z 0)), (1, .int p0), (3, .ref (zzad Z l3)), (4, .int s0), (5, .int l5)]) [1, 2, 3, 0, 4] rfl ?_
  exact w_X11_judge_83 C p0 p1 k46 hk46 l3 hl3 s0 l5 σ
set_option maxHeartbeats 4000000 in
set_option maxRecDepth 100000 in
theorem w_X11_judge_80 {l : Launch} {Z : zzG} {base : Nat} {PL : Nat → Option (Nat × Int32)} {mm : zzS} {p : Program} {e : Env} {s : State} {m : MethodId} {args : Array Value} {below : List Frame} {meth : Method} {c : Code} (C : zzCx p m meth c s args cX11_judge 7 wsX11_judge RX11 (some .int) Z) (p0 : Int32)  (p1 : Int32)  (k46 : Nat → Int32 → Int32 → zzS → Option (Int32 × zzS)) (hk46 : ∀ (l3 : Nat) (hl3 : zzrow l3) (l4 : Int32)  (l5 : Int32)  (σ : zzS), zzGO p l e rX11_judge s m args below meth c 7 (zzA base) (zzX Z base PL mm) (zzX Z base PL mm) zzRI rX11_judge.cells rX11_judge.slots (k46 l3 l4 l5 σ) σ 0 0 46 [(0, .ref (zzad Z 0)), (1, .int p0), (3, .ref (zzad Z l3)), (4, .int l4), (5, .int l5)] []) (l3 : Nat) (hl3 : zzrow l3) (l5 : Int32)  (σ : zzS) : zzGO p l e rX11_judge s m args below meth c 7 (zzA base) (zzX Z base PL mm) (zzX Z base PL mm) zzRI rX11_judge.cells rX11_judge.slots (f_X11_judge_80 k46 p0 p1 l3 l5 σ) σ 0 0 80 [(0, .ref (zzad Z 0)), (1, .int p0), (3, .ref (zzad Z l3)), (5, .int l5)] [] := by
  unfold f_X11_judge_80
  refine zz_iconst (v := 0) C dX11_judge_80 (by decide) ?_
  refine zz_sub (loc' := [(0, .ref (zzad Z 0)), (1, .int p0), (3, .ref (zzad Z l3)), (5, .int l5)]) [0, 1, 2, 3] rfl ?_
  exact w_X11_judge_81 C p0 p1 k46 hk46 l3 hl3 l5 (0 : Int32) σ
set_option maxHeartbeats 4000000 in
set_option maxRecDepth 100000 in
theorem w_X11_judge_46b {l : Launch} {Z : zzG} {base : Nat} {PL : Nat → Option (Nat × Int32)} {mm : zzS} {p : Program} {e : Env} {s : State} {m : MethodId} {args : Array Value} {below : List Frame} {meth : Method} {c : Code} (C : zzCx p m meth c s args cX11_judge 7 wsX11_judge RX11 (some .int) Z) (p0 : Int32)  (p1 : Int32)   (k46 : Nat → Int32 → Int32 → zzS → Option (Int32 × zzS)) (hk46 : ∀ (l3 : Nat) (hl3 : zzrow l3) (l4 : Int32)  (l5 : Int32)  (σ : zzS), zzGO p l e rX11_judge s m args below meth c 7 (zzA base) (zzX Z base PL mm) (zzX Z base PL mm) zzRI rX11_judge.cells rX11_judge.slots (k46 l3 l4 l5 σ) σ 0 0 46 [(0, .ref (zzad Z 0)), (1, .int p0), (3, .ref (zzad Z l3)), (4, .int l4), (5, .int l5)] []) (l3 : Nat) (hl3 : zzrow l3) (l4 : Int32)  (l5 : Int32)  (σ : zzS) : zzGO p l e rX11_judge s m args below meth c 7 (zzA base) (zzX Z base PL mm) (zzX Z base PL mm) zzRI rX11_judge.cells rX11_judge.slots (f_X11_judge_46b k46 p0 p1 l3 l4 l5 σ) σ 0 0 46 [(0, .ref (zzad Z 0)), (1, .int p0), (3, .ref (zzad Z l3)), (4, .int l4), (5, .int l5)] [] := by
  unfold f_X11_judge_46b
  refine zz_iload C dX11_judge_46 4 rfl ?_
  refine zz_aload_n C dX11_judge_48 rfl 2 rfl ?_
  refine zz_get C (zzX_row hl3) (fun _ h9 => List.mem_cons_of_mem _ (List.mem_append_left _ (List.mem_append_left _ (List.mem_append_left _ (List.mem_append_left _ (List.mem_append_left _ (List.mem_append_left _ (List.mem_append_left _ (List.mem_append_left _ (List.mem_append_left _ (List.mem_append_right _ (h9)))))))))))) rfl 2 (by decide) (List.mem_of_getElem? (i := 3) rfl) (Or.inl rfl) rfl dX11_judge_49 ?_
  refine zz_icmp_ge (tgt := 127) C dX11_judge_52 (by decide) (fun h1 => ?_) (fun h1 => ?_)
  · refine zz_bipush (v := -4) C dX11_judge_127 (by decide) ?_
    exact zz_iret C rfl rfl (fun _ h9 => h9) (Nat.zero_le _) (Nat.zero_le _) dX11_judge_129
  · refine zz_iload C dX11_judge_55 4 rfl ?_
    refine zz_if_le (tgt := 83) C dX11_judge_57 (by decide) (fun h2 => ?_) (fun h2 => ?_)
    · refine zz_sub (loc' := [(0, .ref (zzad Z 0)), (1, .int p0), (3, .ref (zzad Z l3)), (4, .int l4), (5, .int l5)]) [0, 1, 2, 3, 4] rfl ?_
      exact w_X11_judge_83 C p0 p1 k46 hk46 l3 hl3 l4 l5 σ
    · refine zz_iload C dX11_judge_60 3 rfl ?_
      refine zz_if_eq (tgt := 80) C dX11_judge_62 (by decide) (fun h3 => ?_) (fun h3 => ?_)
      · refine zz_sub (loc' := [(0, .ref (zzad Z 0)), (1, .int p0), (3, .ref (zzad Z l3)), (5, .int l5)]) [0, 1, 2, 4] rfl ?_
        exact w_X11_judge_80 C p0 p1 k46 hk46 l3 hl3 l5 σ
      · refine zz_aload_n C dX11_judge_65 rfl 0 rfl ?_
        refine zz_get C zzX_obj (fun _ h9 => List.mem_cons_of_mem _ (List.mem_append_left _ (List.mem_append_left _ (List.mem_append_left _ (List.mem_append_left _ (List.mem_append_left _ (List.mem_append_left _ (List.mem_append_left _ (List.mem_append_left _ (List.mem_append_left _ (List.mem_append_left _ (List.mem_append_right _ (h9))))))))))))) rfl 4 (by decide) (List.mem_of_getElem? (i := 2) rfl) (Or.inl rfl) rfl dX11_judge_66 ?_
        refine zz_iload_n C dX11_judge_69 rfl 1 rfl ?_
        refine zz_callV C (Cn := RX10) (b := zzad Z 24) (fun H hH => zz_recv C.2.2.2 ((zzX_town (Or.inr (Or.inl rfl))) H hH) rfl) (As := [.int p0]) (rest := []) rfl (k_X10_turnByTheLeast 24 (Or.inr (Or.inl rfl)) p0 σ) (cwV 1 C.1.2.2.2.2 gX11_judge_X10_turnByTheLeast rfl rfl rfl (by decide +kernel) ⟨Nat.le_of_ble_eq_true rfl, Nat.le_of_ble_eq_true rfl⟩) rfl (Nat.le_of_ble_eq_true rfl) ⟨Nat.zero_le _, Nat.zero_le _⟩ dX11_judge_70 (zz_kI rfl rfl (fun r4 σ5 => ?_))
        refine zz_if_eq (tgt := 80) C dX11_judge_73 (by decide) (fun h6 => ?_) (fun h6 => ?_)
        · refine zz_sub (loc' := [(0, .ref (zzad Z 0)), (1, .int p0), (3, .ref (zzad Z l3)), (5, .int l5)]) [0, 1, 2, 4] rfl ?_
          exact w_X11_judge_80 C p0 p1 k46 hk46 l3 hl3 l5 σ5
        · refine zz_iconst (v := 1) C dX11_judge_76 (by decide) ?_
          refine zz_goto (tgt := 81) C dX11_judge_77 (by decide) ?_
          refine zz_sub (loc' := [(0, .ref (zzad Z 0)), (1, .int p0), (3, .ref (zzad Z l3)), (5, .int l5)]) [0, 1, 2, 4] rfl ?_
          exact w_X11_judge_81 C p0 p1 k46 hk46 l3 hl3 l5 (1 : Int32) σ5
set_option maxHeartbeats 4000000 in
set_option maxRecDepth 100000 in
theorem w_X11_judge_46 {l : Launch} {Z : zzG} {base : Nat} {PL : Nat → Option (Nat × Int32)} {mm : zzS} {p : Program} {e : Env} {s : State} {m : MethodId} {args : Array Value} {below : List Frame} {meth : Method} {c : Code} (C : zzCx p m meth c s args cX11_judge 7 wsX11_judge RX11 (some .int) Z) (p0 : Int32)  (p1 : Int32)   (n : Nat) : ∀ (l3 : Nat) (hl3 : zzrow l3) (l4 : Int32)  (l5 : Int32)  (σ : zzS), zzGO p l e rX11_judge s m args below meth c 7 (zzA base) (zzX Z base PL mm) (zzX Z base PL mm) zzRI rX11_judge.cells rX11_judge.slots (f_X11_judge_46 p0 p1 n l3 l4 l5 σ) σ 0 0 46 [(0, .ref (zzad Z 0)), (1, .int p0), (3, .ref (zzad Z l3)), (4, .int l4), (5, .int l5)] [] := by
  induction n with
  | zero => exact fun _ _ _ _ _ r9 s9 h9 => by cases h9
  | succ n ih => exact w_X11_judge_46b C p0 p1 _ ih
set_option maxHeartbeats 4000000 in
set_option maxRecDepth 100000 in
theorem w_X11_judge_e {l : Launch} {Z : zzG} {base : Nat} {PL : Nat → Option (Nat × Int32)} {mm : zzS} {p : Program} {e : Env} {s : State} {m : MethodId} {args : Array Value} {below : List Frame} {meth : Method} {c : Code} (C : zzCx p m meth c s args cX11_judge 7 wsX11_judge RX11 (some .int) Z) (p0 : Int32)  (p1 : Int32)  (σ : zzS) : zzGO p l e rX11_judge s m args below meth c 7 (zzA base) (zzX Z base PL mm) (zzX Z base PL mm) zzRI rX11_judge.cells rX11_judge.slots (f_X11_judge p0 p1 σ) σ 0 0 0 [(0, .ref (zzad Z 0)), (1, .int p0), (2, .int p1)] [] := by
  unfold f_X11_judge
  refine zz_aload_n C dX11_judge_0 rfl 0 rfl ?_
  refine zz_get C zzX_obj (fun _ h9 => List.mem_cons_of_mem _ (List.mem_append_left _ (List.mem_append_left _ (List.mem_append_left _ (List.mem_append_left _ (List.mem_append_left _ (List.mem_append_left _ (List.mem_append_left _ (List.mem_append_left _ (List.mem_append_left _ (List.mem_append_left _ (List.mem_append_right _ (h9))))))))))))) rfl 3 (by decide) (List.mem_of_getElem? (i := 1) rfl) (Or.inl rfl) rfl dX11_judge_1 ?_
  refine zz_iload_n C dX11_judge_4 rfl 1 rfl ?_
  refine zz_callV C (Cn := RX10) (b := zzad Z 20) (fun H hH => zz_recv C.2.2.2 ((zzX_town (Or.inl rfl)) H hH) rfl) (As := [.int p0]) (rest := []) rfl (k_X10_has 20 (Or.inl rfl) p0 σ) (cwV 1 C.1.2.2.2.2 gX11_judge_X10_has rfl rfl rfl (by decide +kernel) ⟨Nat.le_of_ble_eq_true rfl, Nat.le_of_ble_eq_true rfl⟩) rfl (Nat.le_of_ble_eq_true rfl) ⟨Nat.zero_le _, Nat.zero_le _⟩ dX11_judge_5 (zz_kI rfl rfl (fun r1 σ2 => ?_))
  refine zz_if_ne (tgt := 13) C dX11_judge_8 (by decide) (fun h3 => ?_) (fun h3 => ?_)
  · refine zz_aload_n C dX11_judge_13 rfl 0 rfl ?_
    refine zz_iload_n C dX11_judge_14 rfl 2 rfl ?_
    refine zz_callV C (Cn := RX11) (b := zzad Z 0) (fun H hH => zz_recv C.2.2.2 (zzX_obj H hH) rfl) (As := [.int p1]) (rest := []) rfl (k_X11_rowOn p1 σ2) (cwV 1 C.1.2.2.2.2 gX11_judge_X11_rowOn rfl rfl rfl (by decide +kernel) ⟨Nat.le_of_ble_eq_true rfl, Nat.le_of_ble_eq_true rfl⟩) rfl (Nat.le_of_ble_eq_true rfl) ⟨Nat.zero_le _, Nat.zero_le _⟩ dX11_judge_15 (zz_kQ rfl rfl (fun r4 σ5 => ?_))
    refine zz_astoreq_n (loc' := [(3, va_rf (Option.map (zzad Z) r4)), (0, .ref (zzad Z 0)), (1, .int p0), (2, .int p1)]) C dX11_judge_18 rfl (by decide) rfl ?_
    refine zz_aloadq_n C dX11_judge_19 rfl 0 rfl ?_
    refine zz_ifnonnullQ (tgt := 29) C dX11_judge_20 (by decide) (fun h7 => ?_) (fun j6 h7 => ?_)
    · subst h7
      refine zz_aload_n C dX11_judge_23 rfl 1 rfl ?_
      refine zz_iload_n C dX11_judge_24 rfl 3 rfl ?_
      refine zz_callV C (Cn := RX11) (b := zzad Z 0) (fun H hH => zz_recv C.2.2.2 (zzX_obj H hH) rfl) (As := [.int p1]) (rest := []) rfl (k_X11_refusalWithoutRow p1 σ5) (cwV 1 C.1.2.2.2.2 gX11_judge_X11_refusalWithoutRow rfl rfl rfl (by decide +kernel) ⟨Nat.le_of_ble_eq_true rfl, Nat.le_of_ble_eq_true rfl⟩) rfl (Nat.le_of_ble_eq_true rfl) ⟨Nat.zero_le _, Nat.zero_le _⟩ dX11_judge_25 (zz_kI rfl rfl (fun r9 σ10 => ?_))
      exact zz_iret C rfl rfl (fun _ h9 => h9) (Nat.zero_le _) (Nat.zero_le _) dX11_judge_28
    · subst h7
      refine zz_gd (fun h8 => ?_)
      refine zz_aload_n C dX11_judge_29 rfl 1 rfl ?_
      refine zz_get C zzX_obj (fun _ h9 => List.mem_cons_of_mem _ (List.mem_append_left _ (List.mem_append_left _ (List.mem_append_left _ (List.mem_append_left _ (List.mem_append_left _ (List.mem_append_left _ (List.mem_append_left _ (List.mem_append_left _ (List.mem_append_left _ (List.mem_append_left _ (List.mem_append_right _ (h9))))))))))))) rfl 4 (by decide) (List.mem_of_getElem? (i := 2) rfl) (Or.inl rfl) rfl dX11_judge_30 ?_
      refine zz_aload_n C dX11_judge_33 rfl 1 rfl ?_
      refine zz_get C zzX_obj (fun _ h9 => List.mem_cons_of_mem _ (List.mem_append_left _ (List.mem_append_left _ (List.mem_append_left _ (List.mem_append_left _ (List.mem_append_left _ (List.mem_append_left _ (List.mem_append_left _ (List.mem_append_left _ (List.mem_append_left _ (List.mem_append_left _ (List.mem_append_right _ (h9))))))))))))) rfl 3 (by decide) (List.mem_of_getElem? (i := 1) rfl) (Or.inl rfl) rfl dX11_judge_34 ?_
      refine zz_callV C (Cn := RX10) (b := zzad Z 24) (fun H hH => zz_recv C.2.2.2 ((zzX_town (Or.inr (Or.inl rfl))) H hH) rfl) (As := [.ref (zzad Z 20)]) (rest := []) rfl (k_X10_become 24 (Or.inr (Or.inl rfl)) 20 (Or.inl rfl) σ5) (cwV 1 C.1.2.2.2.2 gX11_judge_X10_become rfl rfl rfl (by decide +kernel) ⟨Nat.le_of_ble_eq_true rfl, Nat.le_of_ble_eq_true rfl⟩) rfl (Nat.le_of_ble_eq_true rfl) ⟨Nat.zero_le _, Nat.zero_le _⟩ dX11_judge_37 (zz_kV rfl rfl (fun r11 σ12 => ?_))
      refine zz_iconst (v := 1) C dX11_judge_40 (by decide) ?_
      refine zz_istore (loc' := [(4, .int (1 : Int32)), (3, .ref (zzad Z j6)), (0, .ref (zzad Z 0)), (1, .int p0), (2, .int p1)]) C dX11_judge_41 (by decide) rfl ?_
      refine zz_iconst (v := 0) C dX11_judge_43 (by decide) ?_
      refine zz_istore (loc' := [(5, .int (0 : Int32)), (4, .int (1 : Int32)), (3, .ref (zzad Z j6)), (0, .ref (zzad Z 0)), (1, .int p0), (2, .int p1)]) C dX11_judge_44 (by decide) rfl ?_
      refine zz_sub (loc' := [(0, .ref (zzad Z 0)), (1, .int p0), (3, .ref (zzad Z j6)), (4, .int (1 : Int32)), (5, .int (0 : Int32))]) [3, 4, 2, 1, 0] rfl ?_
      exact w_X11_judge_46 C p0 p1 200 j6 h8 (1 : Int32) (0 : Int32) σ12
  · refine zz_iconst (v := -1) C dX11_judge_11 (by decide) ?_
    exact zz_iret C rfl rfl (fun _ h9 => h9) (Nat.zero_le _) (Nat.zero_le _) dX11_judge_12
set_option maxHeartbeats 4000000 in
set_option maxRecDepth 100000 in
theorem k_X11_judge {l : Launch} {Z : zzG} {base : Nat} {PL : Nat → Option (Nat × Int32)} {mm : zzS} (p0 : Int32)  (p1 : Int32)  (σ : zzS) : zzCT l yX11_judge wsX11_judge rX11_judge (zzA base) Z (zzX Z base PL mm) (zzX Z base PL mm) zzRI [.ref (zzad Z 0), .int p0, .int p1] (f_X11_judge p0 p1 σ) σ :=
  zzCT_of (cc := cX11_judge) (nL := 7) (ret := (some .int)) (by decide) rfl (Nat.le_of_ble_eq_true rfl) [(0, .ref (zzad Z 0)), (1, .int p0), (2, .int p1)] rfl (fun p e s m args below meth c C => w_X11_judge_e C p0 p1 σ)
abbrev rX11_draw : Room := { frames := 0, cells := 0, slots := 0, locals := 0 }

set_option maxHeartbeats 4000000 in
set_option maxRecDepth 100000 in
theorem w_X11_draw_e {l : Launch} {Z : zzG} {base : Nat} {PL : Nat → Option (Nat × Int32)} {mm : zzS} {p : Program} {e : Env} {s : State} {m : MethodId} {args : Array Value} {below : List Frame} {meth : Method} {c : Code} (C : zzCx p m meth c s args cX11_draw 3 wsX11_draw RX11 (some .int) Z) (p0 : Int32)  (σ : zzS) : zzGO p l e rX11_draw s m args below meth c 3 (zzA base) (zzX Z base PL mm) (zzX Z base PL mm) zzRI rX11_draw.cells rX11_draw.slots (f_X11_draw p0 σ) σ 0 0 0 [(0, .ref (zzad Z 0)), (1, .int p0)] [] := by
  unfold f_X11_draw
  refine zz_aload_n C dX11_draw_0 rfl 0 rfl ?_
  refine zz_aload_n C dX11_draw_1 rfl 0 rfl ?_
  refine zz_get C zzX_obj (fun _ h9 => List.mem_cons_of_mem _ (List.mem_append_right _ (h9))) rfl 8 (by decide) (List.mem_of_getElem? (i := 1) rfl) (Or.inl rfl) rfl dX11_draw_2 ?_
  refine zz_ldcw (v := 1103515245) C (C.1.2.2.2.2 _ (List.mem_of_getElem? (i := 2) rfl)) dX11_draw_5 ?_
  refine zz_imul C dX11_draw_8 ?_
  refine zz_sipush (v := 12345) C dX11_draw_9 (by decide) ?_
  refine zz_iadd C dX11_draw_12 ?_
  refine zz_put (ty := .int) C zzX_obj (fun _ h9 => List.mem_cons_of_mem _ (List.mem_append_right _ (h9))) rfl 8 (by decide) (List.mem_of_getElem? (i := 1) rfl) rfl tyX11_ok nmX11 rfl (by decide +kernel) rfl rfl (Nat.le_of_ble_eq_true rfl) (zzX_uobj (by decide)) (zzA_X (by decide)) dX11_draw_13 ?_
  refine zz_ltS (fun σ1 => ?_)
  refine zz_aload_n C dX11_draw_16 rfl 0 rfl ?_
  refine zz_get C zzX_obj (fun _ h9 => List.mem_cons_of_mem _ (List.mem_append_right _ (h9))) rfl 8 (by decide) (List.mem_of_getElem? (i := 1) rfl) (Or.inl rfl) rfl dX11_draw_17 ?_
  refine zz_ldcw (v := 2147483647) C (C.1.2.2.2.2 _ (List.mem_of_getElem? (i := 3) rfl)) dX11_draw_20 ?_
  refine zz_iand C dX11_draw_23 ?_
  refine zz_ldcw (v := 65536) C (C.1.2.2.2.2 _ (List.mem_of_getElem? (i := 4) rfl)) dX11_draw_24 ?_
  refine zz_idiv C dX11_draw_27 (by decide) ?_
  refine zz_istoreX_n (locf := fun x2 => [(2, .int x2), (0, .ref (zzad Z 0)), (1, .int p0)]) C dX11_draw_28 rfl (by decide) (fun _ => rfl) (fun x2 => ?_)
  refine zz_iload_n C dX11_draw_29 rfl 2 rfl ?_
  refine zz_if_le (tgt := 39) C dX11_draw_30 (by decide) (fun h3 => ?_) (fun h3 => ?_)
  · refine zz_iconst (v := 0) C dX11_draw_39 (by decide) ?_
    exact zz_iret C rfl rfl (fun _ h9 => h9) (Nat.zero_le _) (Nat.zero_le _) dX11_draw_40
  · refine zz_iload_n C dX11_draw_33 rfl 0 rfl ?_
    refine zz_iload_n C dX11_draw_34 rfl 2 rfl ?_
    refine zz_gd (fun h4 => ?_)
    refine zz_irem C dX11_draw_35 h4 ?_
    refine zz_goto (tgt := 40) C dX11_draw_36 (by decide) ?_
    exact zz_iret C rfl rfl (fun _ h9 => h9) (Nat.zero_le _) (Nat.zero_le _) dX11_draw_40
set_option maxHeartbeats 4000000 in
set_option maxRecDepth 100000 in
theorem k_X11_draw {l : Launch} {Z : zzG} {base : Nat} {PL : Nat → Option (Nat × Int32)} {mm : zzS} (p0 : Int32)  (σ : zzS) : zzCT l yX11_draw wsX11_draw rX11_draw (zzA base) Z (zzX Z base PL mm) (zzX Z base PL mm) zzRI [.ref (zzad Z 0), .int p0] (f_X11_draw p0 σ) σ :=
  zzCT_of (cc := cX11_draw) (nL := 3) (ret := (some .int)) (by decide) rfl (Nat.le_of_ble_eq_true rfl) [(0, .ref (zzad Z 0)), (1, .int p0)] rfl (fun p e s m args below meth c C => w_X11_draw_e C p0 σ)
abbrev rX11_months : Room := { frames := 6, cells := 0, slots := 0, locals := 132 }

set_option maxHeartbeats 4000000 in
set_option maxRecDepth 100000 in
theorem w_X11_months_121 {l : Launch} {Z : zzG} {base : Nat} {PL : Nat → Option (Nat × Int32)} {mm : zzS} {p : Program} {e : Env} {s : State} {m : MethodId} {args : Array Value} {below : List Frame} {meth : Method} {c : Code} (C : zzCx p m meth c s args cX11_months 10 wsX11_months RX11 (some .int) Z) (p0 : Int32)  (p1 : Int32)  (p2 : Int32)  (k47 : Int32 → Int32 → Int32 → zzS → Option (Int32 × zzS)) (hk47 : ∀ (l4 : Int32)  (l5 : Int32)  (l6 : Int32)  (σ : zzS), zzGO p l e rX11_months s m args below meth c 10 (zzA base) (zzX Z base PL mm) (zzX Z base PL mm) zzRI rX11_months.cells rX11_months.slots (k47 l4 l5 l6 σ) σ 0 0 47 [(0, .ref (zzad Z 0)), (1, .int p0), (3, .int p2), (4, .int l4), (5, .int l5), (6, .int l6)] []) (k67 : Int32 → Int32 → Int32 → Int32 → zzS → Option (Int32 × zzS)) (hk67 : ∀ (l4 : Int32)  (l5 : Int32)  (l6 : Int32)  (l7 : Int32)  (σ : zzS), zzGO p l e rX11_months s m args below meth c 10 (zzA base) (zzX Z base PL mm) (zzX Z base PL mm) zzRI rX11_months.cells rX11_months.slots (k67 l4 l5 l6 l7 σ) σ 0 0 67 [(0, .ref (zzad Z 0)), (1, .int p0), (3, .int p2), (4, .int l4), (5, .int l5), (6, .int l6), (7, .int l7)] []) (l4 : Int32)  (l6 : Int32)  (l7 : Int32)  (s0 : Int32)  (s1 : Int32)  (σ : zzS) : zzGO p l e rX11_months s m args below meth c 10 (zzA base) (zzX Z base PL mm) (zzX Z base PL mm) zzRI rX11_months.cells rX11_months.slots (f_X11_months_121 k47 k67 p0 p1 p2 l4 l6 l7 s0 s1 σ) σ 0 0 121 [(0, .ref (zzad Z 0)), (1, .int p0), (3, .int p2), (4, .int l4), (6, .int l6), (7, .int l7)] [.int s0, .int s1] := by
  unfold f_X11_months_121
  refine zz_iadd C dX11_months_121 ?_
  refine zz_istoreX (locf := fun x1 => [(5, .int x1), (0, .ref (zzad Z 0)), (1, .int p0), (3, .int p2), (4, .int l4), (6, .int l6), (7, .int l7)]) C dX11_months_122 (by decide) (fun _ => rfl) (fun x1 => ?_)
  refine zz_iincX (d := 1) (locf := fun x2 => [(7, .int x2), (5, .int x1), (0, .ref (zzad Z 0)), (1, .int p0), (3, .int p2), (4, .int l4), (6, .int l6)]) C dX11_months_124 (k := 6) rfl (by decide) (by decide) (fun _ => rfl) (fun x2 => ?_)
  refine zz_goto (tgt := 67) C dX11_months_127 (by decide) ?_
  refine zz_sub (loc' := [(0, .ref (zzad Z 0)), (1, .int p0), (3, .int p2), (4, .int l4), (5, .int x1), (6, .int l6), (7, .int x2)]) [2, 3, 4, 5, 1, 6, 0] rfl ?_
  exact hk67 l4 x1 l6 x2 σ
set_option maxHeartbeats 4000000 in
set_option maxRecDepth 100000 in
theorem w_X11_months_67b {l : Launch} {Z : zzG} {base : Nat} {PL : Nat → Option (Nat × Int32)} {mm : zzS} {p : Program} {e : Env} {s : State} {m : MethodId} {args : Array Value} {below : List Frame} {meth : Method} {c : Code} (C : zzCx p m meth c s args cX11_months 10 wsX11_months RX11 (some .int) Z) (p0 : Int32)  (p1 : Int32)  (p2 : Int32)  (k47 : Int32 → Int32 → Int32 → zzS → Option (Int32 × zzS)) (hk47 : ∀ (l4 : Int32)  (l5 : Int32)  (l6 : Int32)  (σ : zzS), zzGO p l e rX11_months s m args below meth c 10 (zzA base) (zzX Z base PL mm) (zzX Z base PL mm) zzRI rX11_months.cells rX11_months.slots (k47 l4 l5 l6 σ) σ 0 0 47 [(0, .ref (zzad Z 0)), (1, .int p0), (3, .int p2), (4, .int l4), (5, .int l5), (6, .int l6)] []) (k67 : Int32 → Int32 → Int32 → Int32 → zzS → Option (Int32 × zzS)) (hk67 : ∀ (l4 : Int32)  (l5 : Int32)  (l6 : Int32)  (l7 : Int32)  (σ : zzS), zzGO p l e rX11_months s m args below meth c 10 (zzA base) (zzX Z base PL mm) (zzX Z base PL mm) zzRI rX11_months.cells rX11_months.slots (k67 l4 l5 l6 l7 σ) σ 0 0 67 [(0, .ref (zzad Z 0)), (1, .int p0), (3, .int p2), (4, .int l4), (5, .int l5), (6, .int l6), (7, .int l7)] []) (l4 : Int32)  (l5 : Int32)  (l6 : Int32)  (l7 : Int32)  (σ : zzS) : zzGO p l e rX11_months s m args below meth c 10 (zzA base) (zzX Z base PL mm) (zzX Z base PL mm) zzRI rX11_months.cells rX11_months.slots (f_X11_months_67b k47 k67 p0 p1 p2 l4 l5 l6 l7 σ) σ 0 0 67 [(0, .ref (zzad Z 0)), (1, .int p0), (3, .int p2), (4, .int l4), (5, .int l5), (6, .int l6), (7, .int l7)] [] := by
  unfold f_X11_months_67b
  refine zz_iload C dX11_months_67 6 rfl ?_
  refine zz_bipush (v := 10) C dX11_months_69 (by decide) ?_
  refine zz_icmp_ge (tgt := 130) C dX11_months_71 (by decide) (fun h1 => ?_) (fun h1 => ?_)
  · refine zz_iload C dX11_months_130 3 rfl ?_
    refine zz_aload_n C dX11_months_132 rfl 0 rfl ?_
    refine zz_get C zzX_obj (fun _ h9 => List.mem_cons_of_mem _ (List.mem_append_left _ (List.mem_append_left _ (List.mem_append_left _ (List.mem_append_left _ (List.mem_append_left _ (List.mem_append_left _ (List.mem_append_left _ (List.mem_append_left _ (List.mem_append_left _ (List.mem_append_right _ (h9)))))))))))) rfl 4 (by decide) (List.mem_of_getElem? (i := 4) rfl) (Or.inl rfl) rfl dX11_months_133 ?_
    refine zz_callV C (Cn := RX10) (b := zzad Z 24) (fun H hH => zz_recv C.2.2.2 ((zzX_town (Or.inr (Or.inl rfl))) H hH) rfl) (As := []) (rest := [.int l4]) rfl (k_X10_allTurned 24 (Or.inr (Or.inl rfl)) σ) (cwV 0 C.1.2.2.2.2 gX11_months_X10_allTurned rfl rfl rfl (by decide +kernel) ⟨Nat.le_of_ble_eq_true rfl, Nat.le_of_ble_eq_true rfl⟩) rfl (Nat.le_of_ble_eq_true rfl) ⟨Nat.zero_le _, Nat.zero_le _⟩ dX11_months_136 (zz_kI rfl rfl (fun r2 σ3 => ?_))
    refine zz_iadd C dX11_months_139 ?_
    refine zz_istoreX (locf := fun x4 => [(4, .int x4), (0, .ref (zzad Z 0)), (1, .int p0), (3, .int p2), (5, .int l5), (6, .int l6), (7, .int l7)]) C dX11_months_140 (by decide) (fun _ => rfl) (fun x4 => ?_)
    refine zz_iincX (d := 1) (locf := fun x5 => [(6, .int x5), (4, .int x4), (0, .ref (zzad Z 0)), (1, .int p0), (3, .int p2), (5, .int l5), (7, .int l7)]) C dX11_months_142 (k := 5) rfl (by decide) (by decide) (fun _ => rfl) (fun x5 => ?_)
    refine zz_goto (tgt := 47) C dX11_months_145 (by decide) ?_
    refine zz_sub (loc' := [(0, .ref (zzad Z 0)), (1, .int p0), (3, .int p2), (4, .int x4), (5, .int l5), (6, .int x5)]) [2, 3, 4, 1, 5, 0] rfl ?_
    exact hk47 x4 l5 x5 σ3
  · refine zz_aload_n C dX11_months_74 rfl 0 rfl ?_
    refine zz_aload_n C dX11_months_75 rfl 0 rfl ?_
    refine zz_get C zzX_obj (fun _ h9 => List.mem_cons_of_mem _ (List.mem_append_left _ (List.mem_append_left _ (List.mem_append_left _ (List.mem_append_left _ (List.mem_append_left _ (List.mem_append_left _ (List.mem_append_left _ (List.mem_append_left _ (List.mem_append_left _ (List.mem_append_right _ (h9)))))))))))) rfl 4 (by decide) (List.mem_of_getElem? (i := 4) rfl) (Or.inl rfl) rfl dX11_months_76 ?_
    refine zz_get C (zzX_town (Or.inr (Or.inl rfl))) (fun _ h9 => List.mem_cons_of_mem _ (List.mem_append_left _ (List.mem_append_left _ (List.mem_append_left _ (List.mem_append_left _ (List.mem_append_left _ (List.mem_append_left _ (List.mem_append_left _ (List.mem_append_left _ (List.mem_append_right _ (h9))))))))))) rfl 4 (by decide) (List.mem_of_getElem? (i := 2) rfl) (Or.inl rfl) rfl dX11_months_79 ?_
    refine zz_callV C (Cn := RX11) (b := zzad Z 0) (fun H hH => zz_recv C.2.2.2 (zzX_obj H hH) rfl) (As := [.int (zzi σ 24 4)]) (rest := []) rfl (k_X11_draw (zzi σ 24 4) σ) (cwV 1 C.1.2.2.2.2 gX11_months_X11_draw rfl rfl rfl (by decide +kernel) ⟨Nat.le_of_ble_eq_true rfl, Nat.le_of_ble_eq_true rfl⟩) rfl (Nat.le_of_ble_eq_true rfl) ⟨Nat.zero_le _, Nat.zero_le _⟩ dX11_months_82 (zz_kI rfl rfl (fun r6 σ7 => ?_))
    refine zz_istore (loc' := [(8, .int r6), (0, .ref (zzad Z 0)), (1, .int p0), (3, .int p2), (4, .int l4), (5, .int l5), (6, .int l6), (7, .int l7)]) C dX11_months_85 (by decide) rfl ?_
    refine zz_aload_n C dX11_months_87 rfl 1 rfl ?_
    refine zz_aload_n C dX11_months_88 rfl 1 rfl ?_
    refine zz_get C zzX_obj (fun _ h9 => List.mem_cons_of_mem _ (List.mem_append_left _ (List.mem_append_left _ (List.mem_append_left _ (List.mem_append_left _ (List.mem_append_left _ (List.mem_append_left _ (List.mem_append_left _ (List.mem_append_left _ (List.mem_append_left _ (List.mem_append_right _ (h9)))))))))))) rfl 4 (by decide) (List.mem_of_getElem? (i := 4) rfl) (Or.inl rfl) rfl dX11_months_89 ?_
    refine zz_get C (zzX_town (Or.inr (Or.inl rfl))) (fun _ h9 => List.mem_cons_of_mem _ (List.mem_append_left _ (List.mem_append_left _ (List.mem_append_left _ (List.mem_append_left _ (List.mem_append_left _ (List.mem_append_left _ (List.mem_append_left _ (List.mem_append_left _ (List.mem_append_right _ (h9))))))))))) rfl 4 (by decide) (List.mem_of_getElem? (i := 2) rfl) (Or.inl rfl) rfl dX11_months_92 ?_
    refine zz_callV C (Cn := RX11) (b := zzad Z 0) (fun H hH => zz_recv C.2.2.2 (zzX_obj H hH) rfl) (As := [.int (zzi σ7 24 4)]) (rest := []) rfl (k_X11_draw (zzi σ7 24 4) σ7) (cwV 1 C.1.2.2.2.2 gX11_months_X11_draw rfl rfl rfl (by decide +kernel) ⟨Nat.le_of_ble_eq_true rfl, Nat.le_of_ble_eq_true rfl⟩) rfl (Nat.le_of_ble_eq_true rfl) ⟨Nat.zero_le _, Nat.zero_le _⟩ dX11_months_95 (zz_kI rfl rfl (fun r8 σ9 => ?_))
    refine zz_istore (loc' := [(9, .int r8), (8, .int r6), (0, .ref (zzad Z 0)), (1, .int p0), (3, .int p2), (4, .int l4), (5, .int l5), (6, .int l6), (7, .int l7)]) C dX11_months_98 (by decide) rfl ?_
    refine zz_iload C dX11_months_100 6 rfl ?_
    refine zz_aload_n C dX11_months_102 rfl 2 rfl ?_
    refine zz_get C zzX_obj (fun _ h9 => List.mem_cons_of_mem _ (List.mem_append_left _ (List.mem_append_left _ (List.mem_append_left _ (List.mem_append_left _ (List.mem_append_left _ (List.mem_append_left _ (List.mem_append_left _ (List.mem_append_left _ (List.mem_append_left _ (List.mem_append_right _ (h9)))))))))))) rfl 4 (by decide) (List.mem_of_getElem? (i := 4) rfl) (Or.inl rfl) rfl dX11_months_103 ?_
    refine zz_iload C dX11_months_106 1 rfl ?_
    refine zz_iload C dX11_months_108 0 rfl ?_
    refine zz_callV C (Cn := RX10) (b := zzad Z 24) (fun H hH => zz_recv C.2.2.2 ((zzX_town (Or.inr (Or.inl rfl))) H hH) rfl) (As := [.int r6, .int r8]) (rest := [.int l5]) rfl (k_X10_turnElseSee 24 (Or.inr (Or.inl rfl)) r6 r8 σ9) (cwV 2 C.1.2.2.2.2 gX11_months_X10_turnElseSee rfl rfl rfl (by decide +kernel) ⟨Nat.le_of_ble_eq_true rfl, Nat.le_of_ble_eq_true rfl⟩) rfl (Nat.le_of_ble_eq_true rfl) ⟨Nat.zero_le _, Nat.zero_le _⟩ dX11_months_110 (zz_kI rfl rfl (fun r10 σ11 => ?_))
    refine zz_if_eq (tgt := 120) C dX11_months_113 (by decide) (fun h12 => ?_) (fun h12 => ?_)
    · refine zz_iconst (v := 0) C dX11_months_120 (by decide) ?_
      refine zz_sub (loc' := [(0, .ref (zzad Z 0)), (1, .int p0), (3, .int p2), (4, .int l4), (6, .int l6), (7, .int l7)]) [2, 3, 4, 5, 7, 8] rfl ?_
      exact w_X11_months_121 C p0 p1 p2 k47 hk47 k67 hk67 l4 l6 l7 (0 : Int32) l5 σ11
    · refine zz_iconst (v := 1) C dX11_months_116 (by decide) ?_
      refine zz_goto (tgt := 121) C dX11_months_117 (by decide) ?_
      refine zz_sub (loc' := [(0, .ref (zzad Z 0)), (1, .int p0), (3, .int p2), (4, .int l4), (6, .int l6), (7, .int l7)]) [2, 3, 4, 5, 7, 8] rfl ?_
      exact w_X11_months_121 C p0 p1 p2 k47 hk47 k67 hk67 l4 l6 l7 (1 : Int32) l5 σ11
set_option maxHeartbeats 4000000 in
set_option maxRecDepth 100000 in
theorem w_X11_months_67 {l : Launch} {Z : zzG} {base : Nat} {PL : Nat → Option (Nat × Int32)} {mm : zzS} {p : Program} {e : Env} {s : State} {m : MethodId} {args : Array Value} {below : List Frame} {meth : Method} {c : Code} (C : zzCx p m meth c s args cX11_months 10 wsX11_months RX11 (some .int) Z) (p0 : Int32)  (p1 : Int32)  (p2 : Int32)  (k47 : Int32 → Int32 → Int32 → zzS → Option (Int32 × zzS)) (hk47 : ∀ (l4 : Int32)  (l5 : Int32)  (l6 : Int32)  (σ : zzS), zzGO p l e rX11_months s m args below meth c 10 (zzA base) (zzX Z base PL mm) (zzX Z base PL mm) zzRI rX11_months.cells rX11_months.slots (k47 l4 l5 l6 σ) σ 0 0 47 [(0, .ref (zzad Z 0)), (1, .int p0), (3, .int p2), (4, .int l4), (5, .int l5), (6, .int l6)] []) (n : Nat) : ∀ (l4 : Int32)  (l5 : Int32)  (l6 : Int32)  (l7 : Int32)  (σ : zzS), zzGO p l e rX11_months s m args below meth c 10 (zzA base) (zzX Z base PL mm) (zzX Z base PL mm) zzRI rX11_months.cells rX11_months.slots (f_X11_months_67 k47 p0 p1 p2 n l4 l5 l6 l7 σ) σ 0 0 67 [(0, .ref (zzad Z 0)), (1, .int p0), (3, .int p2), (4, .int l4), (5, .int l5), (6, .int l6), (7, .int l7)] [] := by
  induction n with
  | zero => exact fun _ _ _ _ _ r9 s9 h9 => by cases h9
  | succ n ih => exact w_X11_months_67b C p0 p1 p2 k47 hk47 _ ih
set_option maxHeartbeats 4000000 in
set_option maxRecDepth 100000 in
theorem w_X11_months_47b {l : Launch} {Z : zzG} {base : Nat} {PL : Nat → Option (Nat × Int32)} {mm : zzS} {p : Program} {e : Env} {s : State} {m : MethodId} {args : Array Value} {below : List Frame} {meth : Method} {c : Code} (C : zzCx p m meth c s args cX11_months 10 wsX11_months RX11 (some .int) Z) (p0 : Int32)  (p1 : Int32)  (p2 : Int32)   (k47 : Int32 → Int32 → Int32 → zzS → Option (Int32 × zzS)) (hk47 : ∀ (l4 : Int32)  (l5 : Int32)  (l6 : Int32)  (σ : zzS), zzGO p l e rX11_months s m args below meth c 10 (zzA base) (zzX Z base PL mm) (zzX Z base PL mm) zzRI rX11_months.cells rX11_months.slots (k47 l4 l5 l6 σ) σ 0 0 47 [(0, .ref (zzad Z 0)), (1, .int p0), (3, .int p2), (4, .int l4), (5, .int l5), (6, .int l6)] []) (l4 : Int32)  (l5 : Int32)  (l6 : Int32)  (σ : zzS) : zzGO p l e rX11_months s m args below meth c 10 (zzA base) (zzX Z base PL mm) (zzX Z base PL mm) zzRI rX11_months.cells rX11_months.slots (f_X11_months_47b k47 p0 p1 p2 l4 l5 l6 σ) σ 0 0 47 [(0, .ref (zzad Z 0)), (1, .int p0), (3, .int p2), (4, .int l4), (5, .int l5), (6, .int l6)] [] := by
  unfold f_X11_months_47b
  refine zz_iload C dX11_months_47 5 rfl ?_
  refine zz_iload_n C dX11_months_49 rfl 1 rfl ?_
  refine zz_icmp_ge (tgt := 148) C dX11_months_50 (by decide) (fun h1 => ?_) (fun h1 => ?_)
  · refine zz_iload_n C dX11_months_148 rfl 2 rfl ?_
    refine zz_if_ne (tgt := 157) C dX11_months_149 (by decide) (fun h2 => ?_) (fun h2 => ?_)
    · refine zz_iload C dX11_months_157 4 rfl ?_
      exact zz_iret C rfl rfl (fun _ h9 => h9) (Nat.zero_le _) (Nat.zero_le _) dX11_months_159
    · refine zz_iload C dX11_months_152 3 rfl ?_
      refine zz_goto (tgt := 159) C dX11_months_154 (by decide) ?_
      exact zz_iret C rfl rfl (fun _ h9 => h9) (Nat.zero_le _) (Nat.zero_le _) dX11_months_159
  · refine zz_aload_n C dX11_months_53 rfl 0 rfl ?_
    refine zz_get C zzX_obj (fun _ h9 => List.mem_cons_of_mem _ (List.mem_append_left _ (List.mem_append_left _ (List.mem_append_left _ (List.mem_append_left _ (List.mem_append_left _ (List.mem_append_left _ (List.mem_append_left _ (List.mem_append_left _ (List.mem_append_left _ (List.mem_append_right _ (h9)))))))))))) rfl 4 (by decide) (List.mem_of_getElem? (i := 4) rfl) (Or.inl rfl) rfl dX11_months_54 ?_
    refine zz_aload_n C dX11_months_57 rfl 0 rfl ?_
    refine zz_get C zzX_obj (fun _ h9 => List.mem_cons_of_mem _ (List.mem_append_left _ (List.mem_append_left _ (List.mem_append_left _ (List.mem_append_left _ (List.mem_append_left _ (List.mem_append_left _ (List.mem_append_left _ (List.mem_append_left _ (List.mem_append_left _ (List.mem_append_right _ (h9)))))))))))) rfl 3 (by decide) (List.mem_of_getElem? (i := 1) rfl) (Or.inl rfl) rfl dX11_months_58 ?_
    refine zz_callV C (Cn := RX10) (b := zzad Z 24) (fun H hH => zz_recv C.2.2.2 ((zzX_town (Or.inr (Or.inl rfl))) H hH) rfl) (As := [.ref (zzad Z 20)]) (rest := []) rfl (k_X10_become 24 (Or.inr (Or.inl rfl)) 20 (Or.inl rfl) σ) (cwV 1 C.1.2.2.2.2 gX11_months_X10_become rfl rfl rfl (by decide +kernel) ⟨Nat.le_of_ble_eq_true rfl, Nat.le_of_ble_eq_true rfl⟩) rfl (Nat.le_of_ble_eq_true rfl) ⟨Nat.zero_le _, Nat.zero_le _⟩ dX11_months_61 (zz_kV rfl rfl (fun r3 σ4 => ?_))
    refine zz_iconst (v := 0) C dX11_months_64 (by decide) ?_
    refine zz_istore (loc' := [(7, .int (0 : Int32)), (0, .ref (zzad Z 0)), (1, .int p0), (3, .int p2), (4, .int l4), (5, .int l5), (6, .int l6)]) C dX11_months_65 (by decide) rfl ?_
    refine zz_sub (loc' := [(0, .ref (zzad Z 0)), (1, .int p0), (3, .int p2), (4, .int l4), (5, .int l5), (6, .int l6), (7, .int (0 : Int32))]) [1, 2, 3, 4, 5, 6, 0] rfl ?_
    exact w_X11_months_67 C p0 p1 p2 k47 hk47 200 l4 l5 l6 (0 : Int32) σ4
set_option maxHeartbeats 4000000 in
set_option maxRecDepth 100000 in
theorem w_X11_months_47 {l : Launch} {Z : zzG} {base : Nat} {PL : Nat → Option (Nat × Int32)} {mm : zzS} {p : Program} {e : Env} {s : State} {m : MethodId} {args : Array Value} {below : List Frame} {meth : Method} {c : Code} (C : zzCx p m meth c s args cX11_months 10 wsX11_months RX11 (some .int) Z) (p0 : Int32)  (p1 : Int32)  (p2 : Int32)   (n : Nat) : ∀ (l4 : Int32)  (l5 : Int32)  (l6 : Int32)  (σ : zzS), zzGO p l e rX11_months s m args below meth c 10 (zzA base) (zzX Z base PL mm) (zzX Z base PL mm) zzRI rX11_months.cells rX11_months.slots (f_X11_months_47 p0 p1 p2 n l4 l5 l6 σ) σ 0 0 47 [(0, .ref (zzad Z 0)), (1, .int p0), (3, .int p2), (4, .int l4), (5, .int l5), (6, .int l6)] [] := by
  induction n with
  | zero => exact fun _ _ _ _ r9 s9 h9 => by cases h9
  | succ n ih => exact w_X11_months_47b C p0 p1 p2 _ ih
set_option maxHeartbeats 4000000 in
set_option maxRecDepth 100000 in
theorem w_X11_months_e {l : Launch} {Z : zzG} {base : Nat} {PL : Nat → Option (Nat × Int32)} {mm : zzS} {p : Program} {e : Env} {s : State} {m : MethodId} {args : Array Value} {below : List Frame} {meth : Method} {c : Code} (C : zzCx p m meth c s args cX11_months 10 wsX11_months RX11 (some .int) Z) (p0 : Int32)  (p1 : Int32)  (p2 : Int32)  (σ : zzS) : zzGO p l e rX11_months s m args below meth c 10 (zzA base) (zzX Z base PL mm) (zzX Z base PL mm) zzRI rX11_months.cells rX11_months.slots (f_X11_months p0 p1 p2 σ) σ 0 0 0 [(0, .ref (zzad Z 0)), (1, .int p0), (2, .int p1), (3, .int p2)] [] := by
  unfold f_X11_months
  refine zz_iload_n C dX11_months_0 rfl 1 rfl ?_
  refine zz_iconst (v := 1) C dX11_months_1 (by decide) ?_
  refine zz_icmp_lt (tgt := 18) C dX11_months_2 (by decide) (fun h1 => ?_) (fun h1 => ?_)
  · refine zz_iconst (v := -1) C dX11_months_18 (by decide) ?_
    exact zz_iret C rfl rfl (fun _ h9 => h9) (Nat.zero_le _) (Nat.zero_le _) dX11_months_19
  · refine zz_iload_n C dX11_months_5 rfl 1 rfl ?_
    refine zz_bipush (v := 20) C dX11_months_6 (by decide) ?_
    refine zz_icmp_gt (tgt := 18) C dX11_months_8 (by decide) (fun h2 => ?_) (fun h2 => ?_)
    · refine zz_iconst (v := -1) C dX11_months_18 (by decide) ?_
      exact zz_iret C rfl rfl (fun _ h9 => h9) (Nat.zero_le _) (Nat.zero_le _) dX11_months_19
    · refine zz_iload_n C dX11_months_11 rfl 3 rfl ?_
      refine zz_callS (As := [.int p2]) (rest := []) C rfl (k_X11_isOneOfTwo p2 σ) (va_cwS 1 C.1.2.2.2.2 gX11_months_X11_isOneOfTwo rfl rfl rfl (by decide +kernel) ⟨Nat.le_of_ble_eq_true rfl, Nat.le_of_ble_eq_true rfl⟩) rfl (Nat.le_of_ble_eq_true rfl) ⟨Nat.zero_le _, Nat.zero_le _⟩ dX11_months_12 (zz_kI rfl rfl (fun r3 σ4 => ?_))
      refine zz_if_ne (tgt := 20) C dX11_months_15 (by decide) (fun h5 => ?_) (fun h5 => ?_)
      · refine zz_aload_n C dX11_months_20 rfl 0 rfl ?_
        refine zz_get C zzX_obj (fun _ h9 => List.mem_cons_of_mem _ (List.mem_append_left _ (List.mem_append_left _ (List.mem_append_left _ (List.mem_append_left _ (List.mem_append_left _ (List.mem_append_left _ (List.mem_append_left _ (List.mem_append_left _ (List.mem_append_left _ (List.mem_append_right _ (h9)))))))))))) rfl 3 (by decide) (List.mem_of_getElem? (i := 1) rfl) (Or.inl rfl) rfl dX11_months_21 ?_
        refine zz_get C (zzX_town (Or.inl rfl)) (fun _ h9 => List.mem_cons_of_mem _ (List.mem_append_left _ (List.mem_append_left _ (List.mem_append_left _ (List.mem_append_left _ (List.mem_append_left _ (List.mem_append_left _ (List.mem_append_left _ (List.mem_append_left _ (List.mem_append_right _ (h9))))))))))) rfl 4 (by decide) (List.mem_of_getElem? (i := 2) rfl) (Or.inl rfl) rfl dX11_months_24 ?_
        refine zz_if_ne (tgt := 33) C dX11_months_27 (by decide) (fun h6 => ?_) (fun h6 => ?_)
        · refine zz_aload_n C dX11_months_33 rfl 0 rfl ?_
          refine zz_iload_n C dX11_months_34 rfl 2 rfl ?_
          refine zz_put (ty := .int) C zzX_obj (fun _ h9 => List.mem_cons_of_mem _ (List.mem_append_left _ (List.mem_append_left _ (List.mem_append_left _ (List.mem_append_left _ (List.mem_append_left _ (List.mem_append_left _ (List.mem_append_left _ (List.mem_append_left _ (List.mem_append_left _ (List.mem_append_right _ (h9)))))))))))) rfl 8 (by decide) (List.mem_of_getElem? (i := 3) rfl) rfl tyX11_ok nmX11 rfl (by decide +kernel) rfl rfl (Nat.le_of_ble_eq_true rfl) (zzX_uobj (by decide)) (zzA_X (by decide)) dX11_months_35 ?_
          refine zz_ltS (fun σ7 => ?_)
          refine zz_iconst (v := 0) C dX11_months_38 (by decide) ?_
          refine zz_istore (loc' := [(4, .int (0 : Int32)), (0, .ref (zzad Z 0)), (1, .int p0), (2, .int p1), (3, .int p2)]) C dX11_months_39 (by decide) rfl ?_
          refine zz_iconst (v := 0) C dX11_months_41 (by decide) ?_
          refine zz_istore (loc' := [(5, .int (0 : Int32)), (4, .int (0 : Int32)), (0, .ref (zzad Z 0)), (1, .int p0), (2, .int p1), (3, .int p2)]) C dX11_months_42 (by decide) rfl ?_
          refine zz_iconst (v := 0) C dX11_months_44 (by decide) ?_
          refine zz_istore (loc' := [(6, .int (0 : Int32)), (5, .int (0 : Int32)), (4, .int (0 : Int32)), (0, .ref (zzad Z 0)), (1, .int p0), (2, .int p1), (3, .int p2)]) C dX11_months_45 (by decide) rfl ?_
          refine zz_sub (loc' := [(0, .ref (zzad Z 0)), (1, .int p0), (3, .int p2), (4, .int (0 : Int32)), (5, .int (0 : Int32)), (6, .int (0 : Int32))]) [3, 4, 6, 2, 1, 0] rfl ?_
          exact w_X11_months_47 C p0 p1 p2 200 (0 : Int32) (0 : Int32) (0 : Int32) σ7
        · refine zz_bipush (v := -3) C dX11_months_30 (by decide) ?_
          exact zz_iret C rfl rfl (fun _ h9 => h9) (Nat.zero_le _) (Nat.zero_le _) dX11_months_32
      · refine zz_iconst (v := -1) C dX11_months_18 (by decide) ?_
        exact zz_iret C rfl rfl (fun _ h9 => h9) (Nat.zero_le _) (Nat.zero_le _) dX11_months_19
set_option maxHeartbeats 4000000 in
set_option maxRecDepth 100000 in
theorem k_X11_months {l : Launch} {Z : zzG} {base : Nat} {PL : Nat → Option (Nat × Int32)} {mm : zzS} (p0 : Int32)  (p1 : Int32)  (p2 : Int32)  (σ : zzS) : zzCT l yX11_months wsX11_months rX11_months (zzA base) Z (zzX Z base PL mm) (zzX Z base PL mm) zzRI [.ref (zzad Z 0), .int p0, .int p1, .int p2] (f_X11_months p0 p1 p2 σ) σ :=
  zzCT_of (cc := cX11_months) (nL := 10) (ret := (some .int)) (by decide) rfl (Nat.le_of_ble_eq_true rfl) [(0, .ref (zzad Z 0)), (1, .int p0), (2, .int p1), (3, .int p2)] rfl (fun p e s m args below meth c C => w_X11_months_e C p0 p1 p2 σ)
abbrev rX11_image : Room := { frames := 2, cells := 0, slots := 0, locals := 44 }

set_option maxHeartbeats 4000000 in
set_option maxRecDepth 100000 in
theorem w_X11_image_e {l : Launch} {Z : zzG} {base : Nat} {PL : Nat → Option (Nat × Int32)} {mm : zzS} {p : Program} {e : Env} {s : State} {m : MethodId} {args : Array Value} {below : List Frame} {meth : Method} {c : Code} (C : zzCx p m meth c s args cX11_image 1 wsX11_image RX11 (some .int) Z)  (σ : zzS) : zzGO p l e rX11_image s m args below meth c 1 (zzA base) (zzX Z base PL mm) (zzX Z base PL mm) zzRI rX11_image.cells rX11_image.slots (f_X11_image σ) σ 0 0 0 [(0, .ref (zzad Z 0))] [] := by
  unfold f_X11_image
  refine zz_aload_n C dX11_image_0 rfl 0 rfl ?_
  refine zz_get C zzX_obj (fun _ h9 => List.mem_cons_of_mem _ (List.mem_append_left _ (List.mem_append_right _ (h9)))) rfl 5 (by decide) (List.mem_of_getElem? (i := 1) rfl) (Or.inl rfl) rfl dX11_image_1 ?_
  refine zz_aload_n C dX11_image_4 rfl 0 rfl ?_
  refine zz_get C zzX_obj (fun _ h9 => List.mem_cons_of_mem _ (List.mem_append_left _ (List.mem_append_right _ (h9)))) rfl 3 (by decide) (List.mem_of_getElem? (i := 2) rfl) (Or.inl rfl) rfl dX11_image_5 ?_
  refine zz_callV C (Cn := RX10) (b := zzad Z 28) (fun H hH => zz_recv C.2.2.2 ((zzX_town (Or.inr (Or.inr rfl))) H hH) rfl) (As := [.ref (zzad Z 20)]) (rest := []) rfl (k_X10_become 28 (Or.inr (Or.inr rfl)) 20 (Or.inl rfl) σ) (cwV 1 C.1.2.2.2.2 gX11_image_X10_become rfl rfl rfl (by decide +kernel) ⟨Nat.le_of_ble_eq_true rfl, Nat.le_of_ble_eq_true rfl⟩) rfl (Nat.le_of_ble_eq_true rfl) ⟨Nat.zero_le _, Nat.zero_le _⟩ dX11_image_8 (zz_kV rfl rfl (fun r1 σ2 => ?_))
  refine zz_aload_n C dX11_image_11 rfl 0 rfl ?_
  refine zz_iconst (v := 1) C dX11_image_12 (by decide) ?_
  refine zz_put (ty := .boolean) C zzX_obj (fun _ h9 => List.mem_cons_of_mem _ (List.mem_append_left _ (List.mem_append_right _ (h9)))) rfl 7 (by decide) (List.mem_of_getElem? (i := 3) rfl) rfl tyX11_ok nmX11 rfl (by decide +kernel) rfl rfl (Nat.le_of_ble_eq_true rfl) (zzX_uobj (by decide)) (zzA_X (by decide)) dX11_image_13 ?_
  refine zz_ltS (fun σ3 => ?_)
  refine zz_aload_n C dX11_image_16 rfl 0 rfl ?_
  refine zz_get C zzX_obj (fun _ h9 => List.mem_cons_of_mem _ (List.mem_append_left _ (List.mem_append_right _ (h9)))) rfl 3 (by decide) (List.mem_of_getElem? (i := 2) rfl) (Or.inl rfl) rfl dX11_image_17 ?_
  refine zz_get C (zzX_town (Or.inl rfl)) (fun _ h9 => List.mem_cons_of_mem _ (List.mem_append_right _ (h9))) rfl 6 (by decide) (List.mem_of_getElem? (i := 4) rfl) (Or.inl rfl) rfl dX11_image_20 ?_
  exact zz_iret C rfl rfl (fun _ h9 => h9) (Nat.zero_le _) (Nat.zero_le _) dX11_image_23
set_option maxHeartbeats 4000000 in
set_option maxRecDepth 100000 in
theorem k_X11_image {l : Launch} {Z : zzG} {base : Nat} {PL : Nat → Option (Nat × Int32)} {mm : zzS}  (σ : zzS) : zzCT l yX11_image wsX11_image rX11_image (zzA base) Z (zzX Z base PL mm) (zzX Z base PL mm) zzRI [.ref (zzad Z 0)] (f_X11_image σ) σ :=
  zzCT_of (cc := cX11_image) (nL := 1) (ret := (some .int)) (by decide) rfl (Nat.le_of_ble_eq_true rfl) [(0, .ref (zzad Z 0))] rfl (fun p e s m args below meth c C => w_X11_image_e C σ)
abbrev rX11_restore : Room := { frames := 2, cells := 0, slots := 0, locals := 44 }

set_option maxHeartbeats 4000000 in
set_option maxRecDepth 100000 in
theorem w_X11_restore_e {l : Launch} {Z : zzG} {base : Nat} {PL : Nat → Option (Nat × Int32)} {mm : zzS} {p : Program} {e : Env} {s : State} {m : MethodId} {args : Array Value} {below : List Frame} {meth : Method} {c : Code} (C : zzCx p m meth c s args cX11_restore 1 wsX11_restore RX11 (some .int) Z)  (σ : zzS) : zzGO p l e rX11_restore s m args below meth c 1 (zzA base) (zzX Z base PL mm) (zzX Z base PL mm) zzRI rX11_restore.cells rX11_restore.slots (f_X11_restore σ) σ 0 0 0 [(0, .ref (zzad Z 0))] [] := by
  unfold f_X11_restore
  refine zz_aload_n C dX11_restore_0 rfl 0 rfl ?_
  refine zz_get C zzX_obj (fun _ h9 => List.mem_cons_of_mem _ (List.mem_append_left _ (List.mem_append_right _ (h9)))) rfl 7 (by decide) (List.mem_of_getElem? (i := 1) rfl) (Or.inl rfl) rfl dX11_restore_1 ?_
  refine zz_if_ne (tgt := 10) C dX11_restore_4 (by decide) (fun h1 => ?_) (fun h1 => ?_)
  · refine zz_aload_n C dX11_restore_10 rfl 0 rfl ?_
    refine zz_get C zzX_obj (fun _ h9 => List.mem_cons_of_mem _ (List.mem_append_left _ (List.mem_append_right _ (h9)))) rfl 3 (by decide) (List.mem_of_getElem? (i := 2) rfl) (Or.inl rfl) rfl dX11_restore_11 ?_
    refine zz_aload_n C dX11_restore_14 rfl 0 rfl ?_
    refine zz_get C zzX_obj (fun _ h9 => List.mem_cons_of_mem _ (List.mem_append_left _ (List.mem_append_right _ (h9)))) rfl 5 (by decide) (List.mem_of_getElem? (i := 3) rfl) (Or.inl rfl) rfl dX11_restore_15 ?_
    refine zz_callV C (Cn := RX10) (b := zzad Z 20) (fun H hH => zz_recv C.2.2.2 ((zzX_town (Or.inl rfl)) H hH) rfl) (As := [.ref (zzad Z 28)]) (rest := []) rfl (k_X10_become 20 (Or.inl rfl) 28 (Or.inr (Or.inr rfl)) σ) (cwV 1 C.1.2.2.2.2 gX11_restore_X10_become rfl rfl rfl (by decide +kernel) ⟨Nat.le_of_ble_eq_true rfl, Nat.le_of_ble_eq_true rfl⟩) rfl (Nat.le_of_ble_eq_true rfl) ⟨Nat.zero_le _, Nat.zero_le _⟩ dX11_restore_18 (zz_kV rfl rfl (fun r2 σ3 => ?_))
    refine zz_aload_n C dX11_restore_21 rfl 0 rfl ?_
    refine zz_get C zzX_obj (fun _ h9 => List.mem_cons_of_mem _ (List.mem_append_left _ (List.mem_append_right _ (h9)))) rfl 3 (by decide) (List.mem_of_getElem? (i := 2) rfl) (Or.inl rfl) rfl dX11_restore_22 ?_
    refine zz_get C (zzX_town (Or.inl rfl)) (fun _ h9 => List.mem_cons_of_mem _ (List.mem_append_right _ (h9))) rfl 6 (by decide) (List.mem_of_getElem? (i := 4) rfl) (Or.inl rfl) rfl dX11_restore_25 ?_
    exact zz_iret C rfl rfl (fun _ h9 => h9) (Nat.zero_le _) (Nat.zero_le _) dX11_restore_28
  · refine zz_bipush (v := -3) C dX11_restore_7 (by decide) ?_
    exact zz_iret C rfl rfl (fun _ h9 => h9) (Nat.zero_le _) (Nat.zero_le _) dX11_restore_9
set_option maxHeartbeats 4000000 in
set_option maxRecDepth 100000 in
theorem k_X11_restore {l : Launch} {Z : zzG} {base : Nat} {PL : Nat → Option (Nat × Int32)} {mm : zzS}  (σ : zzS) : zzCT l yX11_restore wsX11_restore rX11_restore (zzA base) Z (zzX Z base PL mm) (zzX Z base PL mm) zzRI [.ref (zzad Z 0)] (f_X11_restore σ) σ :=
  zzCT_of (cc := cX11_restore) (nL := 1) (ret := (some .int)) (by decide) rfl (Nat.le_of_ble_eq_true rfl) [(0, .ref (zzad Z 0))] rfl (fun p e s m args below meth c C => w_X11_restore_e C σ)
abbrev rX11_count : Room := { frames := 4, cells := 0, slots := 0, locals := 88 }

set_option maxHeartbeats 4000000 in
set_option maxRecDepth 100000 in
theorem w_X11_count_e {l : Launch} {Z : zzG} {base : Nat} {PL : Nat → Option (Nat × Int32)} {mm : zzS} {p : Program} {e : Env} {s : State} {m : MethodId} {args : Array Value} {below : List Frame} {meth : Method} {c : Code} (C : zzCx p m meth c s args cX11_count 2 wsX11_count RX11 (some .int) Z) (p0 : Int32)  (σ : zzS) : zzGO p l e rX11_count s m args below meth c 2 (zzA base) (zzX Z base PL mm) (zzX Z base PL mm) zzRI rX11_count.cells rX11_count.slots (f_X11_count p0 σ) σ 0 0 0 [(0, .ref (zzad Z 0)), (1, .int p0)] [] := by
  unfold f_X11_count
  refine zz_iload_n C dX11_count_0 rfl 1 rfl ?_
  refine zz_ite (fun h1 => ?_) (fun h1 => ?_)
  · refine zz_tblIn (off := 39) (tgt := 40) C dX11_count_1 (by rw [h1]; decide) (by rw [h1]; decide) (by rw [h1]; rfl) (by decide) ?_
    refine zz_aload_n C dX11_count_40 rfl 0 rfl ?_
    refine zz_get C zzX_obj (fun _ h9 => List.mem_cons_of_mem _ (List.mem_append_left _ (List.mem_append_right _ (h9)))) rfl 3 (by decide) (List.mem_of_getElem? (i := 1) rfl) (Or.inl rfl) rfl dX11_count_41 ?_
    refine zz_get C (zzX_town (Or.inl rfl)) (fun _ h9 => List.mem_cons_of_mem _ (List.mem_append_right _ (h9))) rfl 4 (by decide) (List.mem_of_getElem? (i := 2) rfl) (Or.inl rfl) rfl dX11_count_44 ?_
    exact zz_iret C rfl rfl (fun _ h9 => h9) (Nat.zero_le _) (Nat.zero_le _) dX11_count_47
  · skip
    refine zz_ite (fun h2 => ?_) (fun h2 => ?_)
    · refine zz_tblIn (off := 47) (tgt := 48) C dX11_count_1 (by rw [h2]; decide) (by rw [h2]; decide) (by rw [h2]; rfl) (by decide) ?_
      refine zz_aload_n C dX11_count_48 rfl 0 rfl ?_
      refine zz_get C zzX_obj (fun _ h9 => List.mem_cons_of_mem _ (List.mem_append_left _ (List.mem_append_right _ (h9)))) rfl 3 (by decide) (List.mem_of_getElem? (i := 1) rfl) (Or.inl rfl) rfl dX11_count_49 ?_
      refine zz_get C (zzX_town (Or.inl rfl)) (fun _ h9 => List.mem_cons_of_mem _ (List.mem_append_right _ (h9))) rfl 6 (by decide) (List.mem_of_getElem? (i := 3) rfl) (Or.inl rfl) rfl dX11_count_52 ?_
      exact zz_iret C rfl rfl (fun _ h9 => h9) (Nat.zero_le _) (Nat.zero_le _) dX11_count_55
    · skip
      refine zz_ite (fun h3 => ?_) (fun h3 => ?_)
      · refine zz_tblIn (off := 55) (tgt := 56) C dX11_count_1 (by rw [h3]; decide) (by rw [h3]; decide) (by rw [h3]; rfl) (by decide) ?_
        refine zz_aload_n C dX11_count_56 rfl 0 rfl ?_
        refine zz_get C zzX_obj (fun _ h9 => List.mem_cons_of_mem _ (List.mem_append_left _ (List.mem_append_right _ (h9)))) rfl 3 (by decide) (List.mem_of_getElem? (i := 1) rfl) (Or.inl rfl) rfl dX11_count_57 ?_
        refine zz_get C (zzX_town (Or.inl rfl)) (fun _ h9 => List.mem_cons_of_mem _ (List.mem_append_right _ (h9))) rfl 5 (by decide) (List.mem_of_getElem? (i := 4) rfl) (Or.inl rfl) rfl dX11_count_60 ?_
        exact zz_iret C rfl rfl (fun _ h9 => h9) (Nat.zero_le _) (Nat.zero_le _) dX11_count_63
      · skip
        refine zz_ite (fun h4 => ?_) (fun h4 => ?_)
        · refine zz_tblIn (off := 63) (tgt := 64) C dX11_count_1 (by rw [h4]; decide) (by rw [h4]; decide) (by rw [h4]; rfl) (by decide) ?_
          refine zz_aload_n C dX11_count_64 rfl 0 rfl ?_
          refine zz_get C zzX_obj (fun _ h9 => List.mem_cons_of_mem _ (List.mem_append_left _ (List.mem_append_right _ (h9)))) rfl 3 (by decide) (List.mem_of_getElem? (i := 1) rfl) (Or.inl rfl) rfl dX11_count_65 ?_
          refine zz_callV C (Cn := RX10) (b := zzad Z 20) (fun H hH => zz_recv C.2.2.2 ((zzX_town (Or.inl rfl)) H hH) rfl) (As := []) (rest := []) rfl (k_X10_allTurned 20 (Or.inl rfl) σ) (cwV 0 C.1.2.2.2.2 gX11_count_X10_allTurned rfl rfl rfl (by decide +kernel) ⟨Nat.le_of_ble_eq_true rfl, Nat.le_of_ble_eq_true rfl⟩) rfl (Nat.le_of_ble_eq_true rfl) ⟨Nat.zero_le _, Nat.zero_le _⟩ dX11_count_68 (zz_kI rfl rfl (fun r7 σ8 => ?_))
          exact zz_iret C rfl rfl (fun _ h9 => h9) (Nat.zero_le _) (Nat.zero_le _) dX11_count_71
        · skip
          refine zz_ite (fun h5 => ?_) (fun h5 => ?_)
          · refine zz_tblIn (off := 71) (tgt := 72) C dX11_count_1 (by rw [h5]; decide) (by rw [h5]; decide) (by rw [h5]; rfl) (by decide) ?_
            refine zz_aload_n C dX11_count_72 rfl 0 rfl ?_
            refine zz_get C zzX_obj (fun _ h9 => List.mem_cons_of_mem _ (List.mem_append_left _ (List.mem_append_right _ (h9)))) rfl 3 (by decide) (List.mem_of_getElem? (i := 1) rfl) (Or.inl rfl) rfl dX11_count_73 ?_
            refine zz_callV C (Cn := RX10) (b := zzad Z 20) (fun H hH => zz_recv C.2.2.2 ((zzX_town (Or.inl rfl)) H hH) rfl) (As := []) (rest := []) rfl (k_X10_allFond 20 (Or.inl rfl) σ) (cwV 0 C.1.2.2.2.2 gX11_count_X10_allFond rfl rfl rfl (by decide +kernel) ⟨Nat.le_of_ble_eq_true rfl, Nat.le_of_ble_eq_true rfl⟩) rfl (Nat.le_of_ble_eq_true rfl) ⟨Nat.zero_le _, Nat.zero_le _⟩ dX11_count_76 (zz_kI rfl rfl (fun r9 σ10 => ?_))
            exact zz_iret C rfl rfl (fun _ h9 => h9) (Nat.zero_le _) (Nat.zero_le _) dX11_count_79
          · skip
            refine zz_ite (fun h6 => ?_) (fun h6 => ?_)
            · refine zz_tblIn (off := 79) (tgt := 80) C dX11_count_1 (by rw [h6]; decide) (by rw [h6]; decide) (by rw [h6]; rfl) (by decide) ?_
              refine zz_aload_n C dX11_count_80 rfl 0 rfl ?_
              refine zz_get C zzX_obj (fun _ h9 => List.mem_cons_of_mem _ (List.mem_append_left _ (List.mem_append_right _ (h9)))) rfl 3 (by decide) (List.mem_of_getElem? (i := 1) rfl) (Or.inl rfl) rfl dX11_count_81 ?_
              refine zz_callV C (Cn := RX10) (b := zzad Z 20) (fun H hH => zz_recv C.2.2.2 ((zzX_town (Or.inl rfl)) H hH) rfl) (As := []) (rest := []) rfl (k_X10_toldWhole 20 (Or.inl rfl) σ) (cwV 0 C.1.2.2.2.2 gX11_count_X10_toldWhole rfl rfl rfl (by decide +kernel) ⟨Nat.le_of_ble_eq_true rfl, Nat.le_of_ble_eq_true rfl⟩) rfl (Nat.le_of_ble_eq_true rfl) ⟨Nat.zero_le _, Nat.zero_le _⟩ dX11_count_84 (zz_kI rfl rfl (fun r11 σ12 => ?_))
              exact zz_iret C rfl rfl (fun _ h9 => h9) (Nat.zero_le _) (Nat.zero_le _) dX11_count_87
            · skip
              refine zz_tblOut (tgt := 88) C dX11_count_1 (by have := lv_neT h1 (a := 0) (by decide); have := lv_neT h2 (a := 1) (by decide); have := lv_neT h3 (a := 2) (by decide); have := lv_neT h4 (a := 3) (by decide); have := lv_neT h5 (a := 4) (by decide); have := lv_neT h6 (a := 5) (by decide); omega) (by decide) ?_
              refine zz_iconst (v := -1) C dX11_count_88 (by decide) ?_
              exact zz_iret C rfl rfl (fun _ h9 => h9) (Nat.zero_le _) (Nat.zero_le _) dX11_count_89
set_option maxHeartbeats 4000000 in
set_option maxRecDepth 100000 in
theorem k_X11_count {l : Launch} {Z : zzG} {base : Nat} {PL : Nat → Option (Nat × Int32)} {mm : zzS} (p0 : Int32)  (σ : zzS) : zzCT l yX11_count wsX11_count rX11_count (zzA base) Z (zzX Z base PL mm) (zzX Z base PL mm) zzRI [.ref (zzad Z 0), .int p0] (f_X11_count p0 σ) σ :=
  zzCT_of (cc := cX11_count) (nL := 2) (ret := (some .int)) (by decide) rfl (Nat.le_of_ble_eq_true rfl) [(0, .ref (zzad Z 0)), (1, .int p0)] rfl (fun p e s m args below meth c C => w_X11_count_e C p0 σ)
