abbrev rX0_number : Room := { frames := 0, cells := 0, slots := 0, locals := 0 }

set_option maxHeartbeats 4000000 in
set_option maxRecDepth 100000 in
theorem w_X0_number_e {l : Launch} {Z : zzG} {base : Nat} {PL : Nat → Option (Nat × Int32)} {mm : zzS} {p : Program} {e : Env} {s : State} {m : MethodId} {args : Array Value} {below : List Frame} {meth : Method} {c : Code} (C : zzCx p m meth c s args cX0_number 1 wsX0_number RX0 (some .int) Z) (kf : (Nat × Int32)) (q0 : Nat) (hq : PL q0 = some kf) (hkk : kf.1 = 2 ∨ kf.1 = 6) (σ : zzS) : zzGO p l e rX0_number s m args below meth c 1 (zzA base) (zzX Z base PL mm) (zzX Z base PL mm) zzRI rX0_number.cells rX0_number.slots (f_X0_number kf σ) σ 0 0 0 [(0, .ref q0)] [] := by
  unfold f_X0_number
  refine zz_iconst (v := 2) C dX0_number_0 (by decide) ?_
  exact zz_iret C rfl rfl (fun _ h9 => h9) (Nat.zero_le _) (Nat.zero_le _) dX0_number_1
set_option maxHeartbeats 4000000 in
set_option maxRecDepth 100000 in
theorem k_X0_number {l : Launch} {Z : zzG} {base : Nat} {PL : Nat → Option (Nat × Int32)} {mm : zzS} (kf : (Nat × Int32)) (q0 : Nat) (hq : PL q0 = some kf) (hkk : kf.1 = 2 ∨ kf.1 = 6) (σ : zzS) : zzCT l yX0_number wsX0_number rX0_number (zzA base) Z (zzX Z base PL mm) (zzX Z base PL mm) zzRI [.ref q0] (f_X0_number kf σ) σ :=
  zzCT_of (cc := cX0_number) (nL := 1) (ret := (some .int)) (by decide) rfl (Nat.le_of_ble_eq_true rfl) [(0, .ref q0)] rfl (fun p e s m args below meth c C => w_X0_number_e C kf q0 hq hkk σ)
abbrev rX6_grows : Room := { frames := 0, cells := 0, slots := 0, locals := 0 }

set_option maxHeartbeats 4000000 in
set_option maxRecDepth 100000 in
theorem w_X6_grows_e {l : Launch} {Z : zzG} {base : Nat} {PL : Nat → Option (Nat × Int32)} {mm : zzS} {p : Program} {e : Env} {s : State} {m : MethodId} {args : Array Value} {below : List Frame} {meth : Method} {c : Code} (C : zzCx p m meth c s args cX6_grows 1 wsX6_grows RX6 (some .int) Z) (kf : (Nat × Int32)) (q0 : Nat) (hq : PL q0 = some kf) (σ : zzS) : zzGO p l e rX6_grows s m args below meth c 1 (zzA base) (zzX Z base PL mm) (zzX Z base PL mm) zzRI rX6_grows.cells rX6_grows.slots (f_X6_grows kf σ) σ 0 0 0 [(0, .ref q0)] [] := by
  unfold f_X6_grows
  refine zz_iconst (v := 2) C dX6_grows_0 (by decide) ?_
  exact zz_iret C rfl rfl (fun _ h9 => h9) (Nat.zero_le _) (Nat.zero_le _) dX6_grows_1
set_option maxHeartbeats 4000000 in
set_option maxRecDepth 100000 in
theorem k_X6_grows {l : Launch} {Z : zzG} {base : Nat} {PL : Nat → Option (Nat × Int32)} {mm : zzS} (kf : (Nat × Int32)) (q0 : Nat) (hq : PL q0 = some kf) (σ : zzS) : zzCT l yX6_grows wsX6_grows rX6_grows (zzA base) Z (zzX Z base PL mm) (zzX Z base PL mm) zzRI [.ref q0] (f_X6_grows kf σ) σ :=
  zzCT_of (cc := cX6_grows) (nL := 1) (ret := (some .int)) (by decide) rfl (Nat.le_of_ble_eq_true rfl) [(0, .ref q0)] rfl (fun p e s m args below meth c C => w_X6_grows_e C kf q0 hq σ)
abbrev rX0_grows : Room := { frames := 1, cells := 0, slots := 0, locals := 20 }
set_option maxHeartbeats 4000000 in
set_option maxRecDepth 100000 in
theorem fig_X0_grows_5 {l : Launch} {Z : zzG} {base : Nat} {PL : Nat → Option (Nat × Int32)} {mm : zzS} {p : Program} {e : Env} {R : Room} {s : State} {m : MethodId} {args : Array Value} {below : List Frame} {meth : Method} {c : Code} {α : Type} {rel : α → Option Value → Prop} {Wf : zzS → Heap → Prop} {mc ms cells slots : Nat} {f : Option (α × zzS)} {σ : zzS} {loc : List (Nat × Value)} {st : List Value} (C : zzCx p m meth c s args cX0_grows 1 wsX0_grows RX0 (some .int) Z) {q : Nat} {kf : Nat × Int32} (hq : PL q = some kf) (hkk : kf.1 = 2 ∨ kf.1 = 6)
    (kk : zzGO p l e R s m args below meth c 1 (zzA base) (zzX Z base PL mm) Wf rel mc ms f σ cells slots (5 + 3) loc (.int kf.2 :: st)) : zzGO p l e R s m args below meth c 1 (zzA base) (zzX Z base PL mm) Wf rel mc ms f σ cells slots 5 loc (.ref q :: st) := by
  obtain ⟨k9, f9⟩ := kf
  rcases hkk with hkk | hkk
  · have hkk : k9 = 2 := hkk
    subst hkk
    exact zz_get C (Cn := RX0) (T := TX0) (N := 1) (zzX_pers1 hq) (fun _ h9 => List.mem_cons_of_mem _ (List.mem_append_left _ (List.mem_append_left _ (List.mem_append_left _ (List.mem_append_left _ (List.mem_append_left _ (List.mem_append_left _ (List.mem_append_left _ (List.mem_append_right _ (h9)))))))))) rfl 0 (by decide) (List.mem_of_getElem? (i := 1) rfl) (Or.inr (List.mem_of_getElem? (i := 2) rfl)) rfl dX0_grows_5 kk
  · have hkk : k9 = 6 := hkk
    subst hkk
    exact zz_get C (Cn := RX3) (T := TX3) (N := 1) (zzX_pers1 hq) (fun _ h9 => List.mem_cons_of_mem _ (List.mem_append_left _ (List.mem_append_left _ (List.mem_append_left _ (List.mem_append_left _ (List.mem_append_left _ (List.mem_append_right _ (h9)))))))) rfl 0 (by decide) (List.mem_of_getElem? (i := 1) rfl) (Or.inr (List.mem_of_getElem? (i := 2) rfl)) rfl dX0_grows_5 kk

set_option maxHeartbeats 4000000 in
set_option maxRecDepth 100000 in
theorem vs_X0_grows_1 {l : Launch} {Z : zzG} {base : Nat} {PL : Nat → Option (Nat × Int32)} {mm : zzS} {p : Program} {e : Env} {s : State} {m : MethodId} {args : Array Value} {below : List Frame} {meth : Method} {c : Code} {cells slots : Nat} {σ : zzS} {loc : List (Nat × Value)} {rest : List Value} (C : zzCx p m meth c s args cX0_grows 1 wsX0_grows RX0 (some .int) Z) {q : Nat} {kf : Nat × Int32} (hq : PL q = some kf) (hkk : kf.1 = 2 ∨ kf.1 = 6) (hroom : (rest.map fun v => v.category).sum ≤ 8) (hcs : cells + 0 ≤ (rX0_grows).cells ∧ slots + 0 ≤ (rX0_grows).slots := by exact ⟨Nat.zero_le _, Nat.zero_le _⟩) :
    ∀ r1 σ2, f_X6_grows kf σ = some (r1, σ2) → ∀ (H : Heap) (locs : List Loc) (ls : Array Slot), zzX Z base PL mm σ H → lv_has ls 1 loc → va_Run p l e rX0_grows s m args below meth c H locs cells slots 0 0 (F0 m 1 ls (.ref q :: rest)) rest (zzQ zzRI (zzX Z base PL mm) (zzA base) r1 σ2 #[.ref q]) (zzA base) := by
  intro r1 σ2 hr H locs ls hW hl
  obtain ⟨k9, f9⟩ := kf
  rcases hkk with hkk | hkk
  · have hkk : k9 = 2 := hkk
    subst hkk
    have ct := k_X6_grows (l := l) (Z := Z) (base := base) (PL := PL) (mm := mm) (2, f9) q hq σ r1 σ2 hr
    exact va_runSU (As := []) (C := RX0) (C.2.2.2.1.1 0 _ rfl).2 C.1 ct (va_cwSU 0 C.1.2.2.2.2 gX0_grows_X6_grows_s7 rfl rfl rfl (by decide +kernel) ⟨Nat.le_of_ble_eq_true rfl, Nat.le_of_ble_eq_true rfl⟩) ⟨zzPc_blind, zz_recv C.2.2.2 (zzX_pers1 hq H hW) rfl, fun U hU hWm => zzPc_at C.2.2.2 hU hWm hW⟩ rfl rfl hl.1 rfl (lv_room hroom) dX0_grows_1 hcs
  · have hkk : k9 = 6 := hkk
    subst hkk
    have ct := k_X6_grows (l := l) (Z := Z) (base := base) (PL := PL) (mm := mm) (6, f9) q hq σ r1 σ2 hr
    exact va_runSU (As := []) (C := RX3) (C.2.2.2.1.1 3 _ rfl).2 C.1 ct (va_cwSU 0 C.1.2.2.2.2 gX0_grows_X6_grows_s7 rfl rfl rfl (by decide +kernel) ⟨Nat.le_of_ble_eq_true rfl, Nat.le_of_ble_eq_true rfl⟩) ⟨zzPc_blind, zz_recv C.2.2.2 (zzX_pers1 hq H hW) rfl, fun U hU hWm => zzPc_at C.2.2.2 hU hWm hW⟩ rfl rfl hl.1 rfl (lv_room hroom) dX0_grows_1 hcs

set_option maxHeartbeats 4000000 in
set_option maxRecDepth 100000 in
theorem w_X0_grows_e {l : Launch} {Z : zzG} {base : Nat} {PL : Nat → Option (Nat × Int32)} {mm : zzS} {p : Program} {e : Env} {s : State} {m : MethodId} {args : Array Value} {below : List Frame} {meth : Method} {c : Code} (C : zzCx p m meth c s args cX0_grows 1 wsX0_grows RX0 (some .int) Z) (kf : (Nat × Int32)) (q0 : Nat) (hq : PL q0 = some kf) (hkk : kf.1 = 2 ∨ kf.1 = 6) (σ : zzS) : zzGO p l e rX0_grows s m args below meth c 1 (zzA base) (zzX Z base PL mm) (zzX Z base PL mm) zzRI rX0_grows.cells rX0_grows.slots (f_X0_grows kf σ) σ 0 0 0 [(0, .ref q0)] [] := by
  unfold f_X0_grows
  refine zz_aload_n C dX0_grows_0 rfl 0 rfl ?_
  refine zz_call (av := #[.ref q0]) (rest := []) (mcc := 0) (msc := 0) (relc := zzRI) (vs_X0_grows_1 C hq hkk (Nat.le_of_ble_eq_true rfl)) (zz_kI rfl rfl (fun r1 σ2 => ?_))
  refine zz_aload_n C dX0_grows_4 rfl 0 rfl ?_
  refine fig_X0_grows_5 C hq hkk ?_
  refine zz_iconst (v := 3) C dX0_grows_8 (by decide) ?_
  refine zz_idiv C dX0_grows_9 (by decide) ?_
  refine zz_iadd C dX0_grows_10 ?_
  exact zz_iret C rfl rfl (fun _ h9 => h9) (Nat.zero_le _) (Nat.zero_le _) dX0_grows_11
set_option maxHeartbeats 4000000 in
set_option maxRecDepth 100000 in
theorem k_X0_grows {l : Launch} {Z : zzG} {base : Nat} {PL : Nat → Option (Nat × Int32)} {mm : zzS} (kf : (Nat × Int32)) (q0 : Nat) (hq : PL q0 = some kf) (hkk : kf.1 = 2 ∨ kf.1 = 6) (σ : zzS) : zzCT l yX0_grows wsX0_grows rX0_grows (zzA base) Z (zzX Z base PL mm) (zzX Z base PL mm) zzRI [.ref q0] (f_X0_grows kf σ) σ :=
  zzCT_of (cc := cX0_grows) (nL := 1) (ret := (some .int)) (by decide) rfl (Nat.le_of_ble_eq_true rfl) [(0, .ref q0)] rfl (fun p e s m args below meth c C => w_X0_grows_e C kf q0 hq hkk σ)
abbrev rX6_turns : Room := { frames := 0, cells := 0, slots := 0, locals := 0 }

set_option maxHeartbeats 4000000 in
set_option maxRecDepth 100000 in
theorem w_X6_turns_e {l : Launch} {Z : zzG} {base : Nat} {PL : Nat → Option (Nat × Int32)} {mm : zzS} {p : Program} {e : Env} {s : State} {m : MethodId} {args : Array Value} {below : List Frame} {meth : Method} {c : Code} (C : zzCx p m meth c s args cX6_turns 1 wsX6_turns RX6 (some .int) Z) (kf : (Nat × Int32)) (q0 : Nat) (hq : PL q0 = some kf) (σ : zzS) : zzGO p l e rX6_turns s m args below meth c 1 (zzA base) (zzX Z base PL mm) (zzX Z base PL mm) zzRI rX6_turns.cells rX6_turns.slots (f_X6_turns kf σ) σ 0 0 0 [(0, .ref q0)] [] := by
  unfold f_X6_turns
  refine zz_iconst (v := 1) C dX6_turns_0 (by decide) ?_
  exact zz_iret C rfl rfl (fun _ h9 => h9) (Nat.zero_le _) (Nat.zero_le _) dX6_turns_1
set_option maxHeartbeats 4000000 in
set_option maxRecDepth 100000 in
theorem k_X6_turns {l : Launch} {Z : zzG} {base : Nat} {PL : Nat → Option (Nat × Int32)} {mm : zzS} (kf : (Nat × Int32)) (q0 : Nat) (hq : PL q0 = some kf) (σ : zzS) : zzCT l yX6_turns wsX6_turns rX6_turns (zzA base) Z (zzX Z base PL mm) (zzX Z base PL mm) zzRI [.ref q0] (f_X6_turns kf σ) σ :=
  zzCT_of (cc := cX6_turns) (nL := 1) (ret := (some .int)) (by decide) rfl (Nat.le_of_ble_eq_true rfl) [(0, .ref q0)] rfl (fun p e s m args below meth c C => w_X6_turns_e C kf q0 hq σ)
abbrev rX0_turns : Room := { frames := 1, cells := 0, slots := 0, locals := 20 }
set_option maxHeartbeats 4000000 in
set_option maxRecDepth 100000 in
theorem vs_X0_turns_1 {l : Launch} {Z : zzG} {base : Nat} {PL : Nat → Option (Nat × Int32)} {mm : zzS} {p : Program} {e : Env} {s : State} {m : MethodId} {args : Array Value} {below : List Frame} {meth : Method} {c : Code} {cells slots : Nat} {σ : zzS} {loc : List (Nat × Value)} {rest : List Value} (C : zzCx p m meth c s args cX0_turns 1 wsX0_turns RX0 (some .int) Z) {q : Nat} {kf : Nat × Int32} (hq : PL q = some kf) (hkk : kf.1 = 2 ∨ kf.1 = 6) (hroom : (rest.map fun v => v.category).sum ≤ 8) (hcs : cells + 0 ≤ (rX0_turns).cells ∧ slots + 0 ≤ (rX0_turns).slots := by exact ⟨Nat.zero_le _, Nat.zero_le _⟩) :
    ∀ r1 σ2, f_X6_turns kf σ = some (r1, σ2) → ∀ (H : Heap) (locs : List Loc) (ls : Array Slot), zzX Z base PL mm σ H → lv_has ls 1 loc → va_Run p l e rX0_turns s m args below meth c H locs cells slots 0 0 (F0 m 1 ls (.ref q :: rest)) rest (zzQ zzRI (zzX Z base PL mm) (zzA base) r1 σ2 #[.ref q]) (zzA base) := by
  intro r1 σ2 hr H locs ls hW hl
  obtain ⟨k9, f9⟩ := kf
  rcases hkk with hkk | hkk
  · have hkk : k9 = 2 := hkk
    subst hkk
    have ct := k_X6_turns (l := l) (Z := Z) (base := base) (PL := PL) (mm := mm) (2, f9) q hq σ r1 σ2 hr
    exact va_runSU (As := []) (C := RX0) (C.2.2.2.1.1 0 _ rfl).2 C.1 ct (va_cwSU 0 C.1.2.2.2.2 gX0_turns_X6_turns_s17 rfl rfl rfl (by decide +kernel) ⟨Nat.le_of_ble_eq_true rfl, Nat.le_of_ble_eq_true rfl⟩) ⟨zzPc_blind, zz_recv C.2.2.2 (zzX_pers1 hq H hW) rfl, fun U hU hWm => zzPc_at C.2.2.2 hU hWm hW⟩ rfl rfl hl.1 rfl (lv_room hroom) dX0_turns_1 hcs
  · have hkk : k9 = 6 := hkk
    subst hkk
    have ct := k_X6_turns (l := l) (Z := Z) (base := base) (PL := PL) (mm := mm) (6, f9) q hq σ r1 σ2 hr
    exact va_runSU (As := []) (C := RX3) (C.2.2.2.1.1 3 _ rfl).2 C.1 ct (va_cwSU 0 C.1.2.2.2.2 gX0_turns_X6_turns_s17 rfl rfl rfl (by decide +kernel) ⟨Nat.le_of_ble_eq_true rfl, Nat.le_of_ble_eq_true rfl⟩) ⟨zzPc_blind, zz_recv C.2.2.2 (zzX_pers1 hq H hW) rfl, fun U hU hWm => zzPc_at C.2.2.2 hU hWm hW⟩ rfl rfl hl.1 rfl (lv_room hroom) dX0_turns_1 hcs

set_option maxHeartbeats 4000000 in
set_option maxRecDepth 100000 in
theorem w_X0_turns_e {l : Launch} {Z : zzG} {base : Nat} {PL : Nat → Option (Nat × Int32)} {mm : zzS} {p : Program} {e : Env} {s : State} {m : MethodId} {args : Array Value} {below : List Frame} {meth : Method} {c : Code} (C : zzCx p m meth c s args cX0_turns 1 wsX0_turns RX0 (some .int) Z) (kf : (Nat × Int32)) (q0 : Nat) (hq : PL q0 = some kf) (hkk : kf.1 = 2 ∨ kf.1 = 6) (σ : zzS) : zzGO p l e rX0_turns s m args below meth c 1 (zzA base) (zzX Z base PL mm) (zzX Z base PL mm) zzRI rX0_turns.cells rX0_turns.slots (f_X0_turns kf σ) σ 0 0 0 [(0, .ref q0)] [] := by
  unfold f_X0_turns
  refine zz_aload_n C dX0_turns_0 rfl 0 rfl ?_
  refine zz_call (av := #[.ref q0]) (rest := []) (mcc := 0) (msc := 0) (relc := zzRI) (vs_X0_turns_1 C hq hkk (Nat.le_of_ble_eq_true rfl)) (zz_kI rfl rfl (fun r1 σ2 => ?_))
  refine zz_iconst (v := 1) C dX0_turns_4 (by decide) ?_
  refine zz_iadd C dX0_turns_5 ?_
  exact zz_iret C rfl rfl (fun _ h9 => h9) (Nat.zero_le _) (Nat.zero_le _) dX0_turns_6
set_option maxHeartbeats 4000000 in
set_option maxRecDepth 100000 in
theorem k_X0_turns {l : Launch} {Z : zzG} {base : Nat} {PL : Nat → Option (Nat × Int32)} {mm : zzS} (kf : (Nat × Int32)) (q0 : Nat) (hq : PL q0 = some kf) (hkk : kf.1 = 2 ∨ kf.1 = 6) (σ : zzS) : zzCT l yX0_turns wsX0_turns rX0_turns (zzA base) Z (zzX Z base PL mm) (zzX Z base PL mm) zzRI [.ref q0] (f_X0_turns kf σ) σ :=
  zzCT_of (cc := cX0_turns) (nL := 1) (ret := (some .int)) (by decide) rfl (Nat.le_of_ble_eq_true rfl) [(0, .ref q0)] rfl (fun p e s m args below meth c C => w_X0_turns_e C kf q0 hq hkk σ)
abbrev rX0_shows : Room := { frames := 0, cells := 0, slots := 0, locals := 0 }

set_option maxHeartbeats 4000000 in
set_option maxRecDepth 100000 in
theorem w_X0_shows_e {l : Launch} {Z : zzG} {base : Nat} {PL : Nat → Option (Nat × Int32)} {mm : zzS} {p : Program} {e : Env} {s : State} {m : MethodId} {args : Array Value} {below : List Frame} {meth : Method} {c : Code} (C : zzCx p m meth c s args cX0_shows 2 wsX0_shows RX0 (some .int) Z) (kf : (Nat × Int32)) (q0 : Nat) (hq : PL q0 = some kf) (p0 : Int32)  (hkk : kf.1 = 2 ∨ kf.1 = 6) (σ : zzS) : zzGO p l e rX0_shows s m args below meth c 2 (zzA base) (zzX Z base PL mm) (zzX Z base PL mm) zzRI rX0_shows.cells rX0_shows.slots (f_X0_shows kf p0 σ) σ 0 0 0 [(0, .ref q0), (1, .int p0)] [] := by
  unfold f_X0_shows
  refine zz_iload_n C dX0_shows_0 rfl 1 rfl ?_
  exact zz_iret C rfl rfl (fun _ h9 => h9) (Nat.zero_le _) (Nat.zero_le _) dX0_shows_1
set_option maxHeartbeats 4000000 in
set_option maxRecDepth 100000 in
theorem k_X0_shows {l : Launch} {Z : zzG} {base : Nat} {PL : Nat → Option (Nat × Int32)} {mm : zzS} (kf : (Nat × Int32)) (q0 : Nat) (hq : PL q0 = some kf) (p0 : Int32)  (hkk : kf.1 = 2 ∨ kf.1 = 6) (σ : zzS) : zzCT l yX0_shows wsX0_shows rX0_shows (zzA base) Z (zzX Z base PL mm) (zzX Z base PL mm) zzRI [.ref q0, .int p0] (f_X0_shows kf p0 σ) σ :=
  zzCT_of (cc := cX0_shows) (nL := 2) (ret := (some .int)) (by decide) rfl (Nat.le_of_ble_eq_true rfl) [(0, .ref q0), (1, .int p0)] rfl (fun p e s m args below meth c C => w_X0_shows_e C kf q0 hq p0 hkk σ)
abbrev rX6_price : Room := { frames := 0, cells := 0, slots := 0, locals := 0 }

set_option maxHeartbeats 4000000 in
set_option maxRecDepth 100000 in
theorem w_X6_price_e {l : Launch} {Z : zzG} {base : Nat} {PL : Nat → Option (Nat × Int32)} {mm : zzS} {p : Program} {e : Env} {s : State} {m : MethodId} {args : Array Value} {below : List Frame} {meth : Method} {c : Code} (C : zzCx p m meth c s args cX6_price 1 wsX6_price RX6 (some .int) Z) (kf : (Nat × Int32)) (q0 : Nat) (hq : PL q0 = some kf) (σ : zzS) : zzGO p l e rX6_price s m args below meth c 1 (zzA base) (zzX Z base PL mm) (zzX Z base PL mm) zzRI rX6_price.cells rX6_price.slots (f_X6_price kf σ) σ 0 0 0 [(0, .ref q0)] [] := by
  unfold f_X6_price
  refine zz_iconst (v := 4) C dX6_price_0 (by decide) ?_
  exact zz_iret C rfl rfl (fun _ h9 => h9) (Nat.zero_le _) (Nat.zero_le _) dX6_price_1
set_option maxHeartbeats 4000000 in
set_option maxRecDepth 100000 in
theorem k_X6_price {l : Launch} {Z : zzG} {base : Nat} {PL : Nat → Option (Nat × Int32)} {mm : zzS} (kf : (Nat × Int32)) (q0 : Nat) (hq : PL q0 = some kf) (σ : zzS) : zzCT l yX6_price wsX6_price rX6_price (zzA base) Z (zzX Z base PL mm) (zzX Z base PL mm) zzRI [.ref q0] (f_X6_price kf σ) σ :=
  zzCT_of (cc := cX6_price) (nL := 1) (ret := (some .int)) (by decide) rfl (Nat.le_of_ble_eq_true rfl) [(0, .ref q0)] rfl (fun p e s m args below meth c C => w_X6_price_e C kf q0 hq σ)
abbrev rX0_price : Room := { frames := 1, cells := 0, slots := 0, locals := 20 }
set_option maxHeartbeats 4000000 in
set_option maxRecDepth 100000 in
theorem fig_X0_price_5 {l : Launch} {Z : zzG} {base : Nat} {PL : Nat → Option (Nat × Int32)} {mm : zzS} {p : Program} {e : Env} {R : Room} {s : State} {m : MethodId} {args : Array Value} {below : List Frame} {meth : Method} {c : Code} {α : Type} {rel : α → Option Value → Prop} {Wf : zzS → Heap → Prop} {mc ms cells slots : Nat} {f : Option (α × zzS)} {σ : zzS} {loc : List (Nat × Value)} {st : List Value} (C : zzCx p m meth c s args cX0_price 1 wsX0_price RX0 (some .int) Z) {q : Nat} {kf : Nat × Int32} (hq : PL q = some kf) (hkk : kf.1 = 2 ∨ kf.1 = 6)
    (kk : zzGO p l e R s m args below meth c 1 (zzA base) (zzX Z base PL mm) Wf rel mc ms f σ cells slots (5 + 3) loc (.int kf.2 :: st)) : zzGO p l e R s m args below meth c 1 (zzA base) (zzX Z base PL mm) Wf rel mc ms f σ cells slots 5 loc (.ref q :: st) := by
  obtain ⟨k9, f9⟩ := kf
  rcases hkk with hkk | hkk
  · have hkk : k9 = 2 := hkk
    subst hkk
    exact zz_get C (Cn := RX0) (T := TX0) (N := 1) (zzX_pers1 hq) (fun _ h9 => List.mem_cons_of_mem _ (List.mem_append_left _ (List.mem_append_left _ (List.mem_append_left _ (List.mem_append_left _ (List.mem_append_left _ (List.mem_append_left _ (List.mem_append_left _ (List.mem_append_right _ (h9)))))))))) rfl 0 (by decide) (List.mem_of_getElem? (i := 1) rfl) (Or.inr (List.mem_of_getElem? (i := 2) rfl)) rfl dX0_price_5 kk
  · have hkk : k9 = 6 := hkk
    subst hkk
    exact zz_get C (Cn := RX3) (T := TX3) (N := 1) (zzX_pers1 hq) (fun _ h9 => List.mem_cons_of_mem _ (List.mem_append_left _ (List.mem_append_left _ (List.mem_append_left _ (List.mem_append_left _ (List.mem_append_left _ (List.mem_append_right _ (h9)))))))) rfl 0 (by decide) (List.mem_of_getElem? (i := 1) rfl) (Or.inr (List.mem_of_getElem? (i := 2) rfl)) rfl dX0_price_5 kk

set_option maxHeartbeats 4000000 in
set_option maxRecDepth 100000 in
theorem vs_X0_price_1 {l : Launch} {Z : zzG} {base : Nat} {PL : Nat → Option (Nat × Int32)} {mm : zzS} {p : Program} {e : Env} {s : State} {m : MethodId} {args : Array Value} {below : List Frame} {meth : Method} {c : Code} {cells slots : Nat} {σ : zzS} {loc : List (Nat × Value)} {rest : List Value} (C : zzCx p m meth c s args cX0_price 1 wsX0_price RX0 (some .int) Z) {q : Nat} {kf : Nat × Int32} (hq : PL q = some kf) (hkk : kf.1 = 2 ∨ kf.1 = 6) (hroom : (rest.map fun v => v.category).sum ≤ 8) (hcs : cells + 0 ≤ (rX0_price).cells ∧ slots + 0 ≤ (rX0_price).slots := by exact ⟨Nat.zero_le _, Nat.zero_le _⟩) :
    ∀ r1 σ2, f_X6_price kf σ = some (r1, σ2) → ∀ (H : Heap) (locs : List Loc) (ls : Array Slot), zzX Z base PL mm σ H → lv_has ls 1 loc → va_Run p l e rX0_price s m args below meth c H locs cells slots 0 0 (F0 m 1 ls (.ref q :: rest)) rest (zzQ zzRI (zzX Z base PL mm) (zzA base) r1 σ2 #[.ref q]) (zzA base) := by
  intro r1 σ2 hr H locs ls hW hl
  obtain ⟨k9, f9⟩ := kf
  rcases hkk with hkk | hkk
  · have hkk : k9 = 2 := hkk
    subst hkk
    have ct := k_X6_price (l := l) (Z := Z) (base := base) (PL := PL) (mm := mm) (2, f9) q hq σ r1 σ2 hr
    exact va_runSU (As := []) (C := RX0) (C.2.2.2.1.1 0 _ rfl).2 C.1 ct (va_cwSU 0 C.1.2.2.2.2 gX0_price_X6_price_s20 rfl rfl rfl (by decide +kernel) ⟨Nat.le_of_ble_eq_true rfl, Nat.le_of_ble_eq_true rfl⟩) ⟨zzPc_blind, zz_recv C.2.2.2 (zzX_pers1 hq H hW) rfl, fun U hU hWm => zzPc_at C.2.2.2 hU hWm hW⟩ rfl rfl hl.1 rfl (lv_room hroom) dX0_price_1 hcs
  · have hkk : k9 = 6 := hkk
    subst hkk
    have ct := k_X6_price (l := l) (Z := Z) (base := base) (PL := PL) (mm := mm) (6, f9) q hq σ r1 σ2 hr
    exact va_runSU (As := []) (C := RX3) (C.2.2.2.1.1 3 _ rfl).2 C.1 ct (va_cwSU 0 C.1.2.2.2.2 gX0_price_X6_price_s20 rfl rfl rfl (by decide +kernel) ⟨Nat.le_of_ble_eq_true rfl, Nat.le_of_ble_eq_true rfl⟩) ⟨zzPc_blind, zz_recv C.2.2.2 (zzX_pers1 hq H hW) rfl, fun U hU hWm => zzPc_at C.2.2.2 hU hWm hW⟩ rfl rfl hl.1 rfl (lv_room hroom) dX0_price_1 hcs

set_option maxHeartbeats 4000000 in
set_option maxRecDepth 100000 in
theorem w_X0_price_e {l : Launch} {Z : zzG} {base : Nat} {PL : Nat → Option (Nat × Int32)} {mm : zzS} {p : Program} {e : Env} {s : State} {m : MethodId} {args : Array Value} {below : List Frame} {meth : Method} {c : Code} (C : zzCx p m meth c s args cX0_price 1 wsX0_price RX0 (some .int) Z) (kf : (Nat × Int32)) (q0 : Nat) (hq : PL q0 = some kf) (hkk : kf.1 = 2 ∨ kf.1 = 6) (σ : zzS) : zzGO p l e rX0_price s m args below meth c 1 (zzA base) (zzX Z base PL mm) (zzX Z base PL mm) zzRI rX0_price.cells rX0_price.slots (f_X0_price kf σ) σ 0 0 0 [(0, .ref q0)] [] := by
  unfold f_X0_price
  refine zz_aload_n C dX0_price_0 rfl 0 rfl ?_
  refine zz_call (av := #[.ref q0]) (rest := []) (mcc := 0) (msc := 0) (relc := zzRI) (vs_X0_price_1 C hq hkk (Nat.le_of_ble_eq_true rfl)) (zz_kI rfl rfl (fun r1 σ2 => ?_))
  refine zz_aload_n C dX0_price_4 rfl 0 rfl ?_
  refine fig_X0_price_5 C hq hkk ?_
  refine zz_iadd C dX0_price_8 ?_
  exact zz_iret C rfl rfl (fun _ h9 => h9) (Nat.zero_le _) (Nat.zero_le _) dX0_price_9
set_option maxHeartbeats 4000000 in
set_option maxRecDepth 100000 in
theorem k_X0_price {l : Launch} {Z : zzG} {base : Nat} {PL : Nat → Option (Nat × Int32)} {mm : zzS} (kf : (Nat × Int32)) (q0 : Nat) (hq : PL q0 = some kf) (hkk : kf.1 = 2 ∨ kf.1 = 6) (σ : zzS) : zzCT l yX0_price wsX0_price rX0_price (zzA base) Z (zzX Z base PL mm) (zzX Z base PL mm) zzRI [.ref q0] (f_X0_price kf σ) σ :=
  zzCT_of (cc := cX0_price) (nL := 1) (ret := (some .int)) (by decide) rfl (Nat.le_of_ble_eq_true rfl) [(0, .ref q0)] rfl (fun p e s m args below meth c C => w_X0_price_e C kf q0 hq hkk σ)
abbrev rX1_number : Room := { frames := 0, cells := 0, slots := 0, locals := 0 }

set_option maxHeartbeats 4000000 in
set_option maxRecDepth 100000 in
theorem w_X1_number_e {l : Launch} {Z : zzG} {base : Nat} {PL : Nat → Option (Nat × Int32)} {mm : zzS} {p : Program} {e : Env} {s : State} {m : MethodId} {args : Array Value} {below : List Frame} {meth : Method} {c : Code} (C : zzCx p m meth c s args cX1_number 1 wsX1_number RX1 (some .int) Z) (kf : (Nat × Int32)) (q0 : Nat) (hq : PL q0 = some kf) (hkk : kf.1 = 3) (σ : zzS) : zzGO p l e rX1_number s m args below meth c 1 (zzA base) (zzX Z base PL mm) (zzX Z base PL mm) zzRI rX1_number.cells rX1_number.slots (f_X1_number kf σ) σ 0 0 0 [(0, .ref q0)] [] := by
  unfold f_X1_number
  refine zz_iconst (v := 3) C dX1_number_0 (by decide) ?_
  exact zz_iret C rfl rfl (fun _ h9 => h9) (Nat.zero_le _) (Nat.zero_le _) dX1_number_1
set_option maxHeartbeats 4000000 in
set_option maxRecDepth 100000 in
theorem k_X1_number {l : Launch} {Z : zzG} {base : Nat} {PL : Nat → Option (Nat × Int32)} {mm : zzS} (kf : (Nat × Int32)) (q0 : Nat) (hq : PL q0 = some kf) (hkk : kf.1 = 3) (σ : zzS) : zzCT l yX1_number wsX1_number rX1_number (zzA base) Z (zzX Z base PL mm) (zzX Z base PL mm) zzRI [.ref q0] (f_X1_number kf σ) σ :=
  zzCT_of (cc := cX1_number) (nL := 1) (ret := (some .int)) (by decide) rfl (Nat.le_of_ble_eq_true rfl) [(0, .ref q0)] rfl (fun p e s m args below meth c C => w_X1_number_e C kf q0 hq hkk σ)
abbrev rX1_grows : Room := { frames := 0, cells := 0, slots := 0, locals := 0 }

set_option maxHeartbeats 4000000 in
set_option maxRecDepth 100000 in
theorem w_X1_grows_e {l : Launch} {Z : zzG} {base : Nat} {PL : Nat → Option (Nat × Int32)} {mm : zzS} {p : Program} {e : Env} {s : State} {m : MethodId} {args : Array Value} {below : List Frame} {meth : Method} {c : Code} (C : zzCx p m meth c s args cX1_grows 1 wsX1_grows RX1 (some .int) Z) (kf : (Nat × Int32)) (q0 : Nat) (hq : PL q0 = some kf) (hkk : kf.1 = 3) (σ : zzS) : zzGO p l e rX1_grows s m args below meth c 1 (zzA base) (zzX Z base PL mm) (zzX Z base PL mm) zzRI rX1_grows.cells rX1_grows.slots (f_X1_grows kf σ) σ 0 0 0 [(0, .ref q0)] [] := by
  unfold f_X1_grows
  refine zz_iconst (v := 0) C dX1_grows_0 (by decide) ?_
  exact zz_iret C rfl rfl (fun _ h9 => h9) (Nat.zero_le _) (Nat.zero_le _) dX1_grows_1
set_option maxHeartbeats 4000000 in
set_option maxRecDepth 100000 in
theorem k_X1_grows {l : Launch} {Z : zzG} {base : Nat} {PL : Nat → Option (Nat × Int32)} {mm : zzS} (kf : (Nat × Int32)) (q0 : Nat) (hq : PL q0 = some kf) (hkk : kf.1 = 3) (σ : zzS) : zzCT l yX1_grows wsX1_grows rX1_grows (zzA base) Z (zzX Z base PL mm) (zzX Z base PL mm) zzRI [.ref q0] (f_X1_grows kf σ) σ :=
  zzCT_of (cc := cX1_grows) (nL := 1) (ret := (some .int)) (by decide) rfl (Nat.le_of_ble_eq_true rfl) [(0, .ref q0)] rfl (fun p e s m args below meth c C => w_X1_grows_e C kf q0 hq hkk σ)
abbrev rX6_bears : Room := { frames := 0, cells := 0, slots := 0, locals := 0 }

set_option maxHeartbeats 4000000 in
set_option maxRecDepth 100000 in
theorem w_X6_bears_e {l : Launch} {Z : zzG} {base : Nat} {PL : Nat → Option (Nat × Int32)} {mm : zzS} {p : Program} {e : Env} {s : State} {m : MethodId} {args : Array Value} {below : List Frame} {meth : Method} {c : Code} (C : zzCx p m meth c s args cX6_bears 1 wsX6_bears RX6 (some .int) Z) (kf : (Nat × Int32)) (q0 : Nat) (hq : PL q0 = some kf) (σ : zzS) : zzGO p l e rX6_bears s m args below meth c 1 (zzA base) (zzX Z base PL mm) (zzX Z base PL mm) zzRI rX6_bears.cells rX6_bears.slots (f_X6_bears kf σ) σ 0 0 0 [(0, .ref q0)] [] := by
  unfold f_X6_bears
  refine zz_iconst (v := 0) C dX6_bears_0 (by decide) ?_
  exact zz_iret C rfl rfl (fun _ h9 => h9) (Nat.zero_le _) (Nat.zero_le _) dX6_bears_1
set_option maxHeartbeats 4000000 in
set_option maxRecDepth 100000 in
theorem k_X6_bears {l : Launch} {Z : zzG} {base : Nat} {PL : Nat → Option (Nat × Int32)} {mm : zzS} (kf : (Nat × Int32)) (q0 : Nat) (hq : PL q0 = some kf) (σ : zzS) : zzCT l yX6_bears wsX6_bears rX6_bears (zzA base) Z (zzX Z base PL mm) (zzX Z base PL mm) zzRI [.ref q0] (f_X6_bears kf σ) σ :=
  zzCT_of (cc := cX6_bears) (nL := 1) (ret := (some .int)) (by decide) rfl (Nat.le_of_ble_eq_true rfl) [(0, .ref q0)] rfl (fun p e s m args below meth c C => w_X6_bears_e C kf q0 hq σ)
abbrev rX9_bears : Room := { frames := 1, cells := 0, slots := 0, locals := 20 }
set_option maxHeartbeats 4000000 in
set_option maxRecDepth 100000 in
theorem vs_X9_bears_1 {l : Launch} {Z : zzG} {base : Nat} {PL : Nat → Option (Nat × Int32)} {mm : zzS} {p : Program} {e : Env} {s : State} {m : MethodId} {args : Array Value} {below : List Frame} {meth : Method} {c : Code} {cells slots : Nat} {σ : zzS} {loc : List (Nat × Value)} {rest : List Value} (C : zzCx p m meth c s args cX9_bears 1 wsX9_bears RX9 (some .int) Z) {q : Nat} {kf : Nat × Int32} (hq : PL q = some kf) (hkk : kf.1 = 1 ∨ kf.1 = 3 ∨ kf.1 = 5 ∨ kf.1 = 7) (hroom : (rest.map fun v => v.category).sum ≤ 8) (hcs : cells + 0 ≤ (rX9_bears).cells ∧ slots + 0 ≤ (rX9_bears).slots := by exact ⟨Nat.zero_le _, Nat.zero_le _⟩) :
    ∀ r1 σ2, f_X6_bears kf σ = some (r1, σ2) → ∀ (H : Heap) (locs : List Loc) (ls : Array Slot), zzX Z base PL mm σ H → lv_has ls 1 loc → va_Run p l e rX9_bears s m args below meth c H locs cells slots 0 0 (F0 m 1 ls (.ref q :: rest)) rest (zzQ zzRI (zzX Z base PL mm) (zzA base) r1 σ2 #[.ref q]) (zzA base) := by
  intro r1 σ2 hr H locs ls hW hl
  obtain ⟨k9, f9⟩ := kf
  rcases hkk with hkk | hkk | hkk | hkk
  · have hkk : k9 = 1 := hkk
    subst hkk
    have ct := k_X6_bears (l := l) (Z := Z) (base := base) (PL := PL) (mm := mm) (1, f9) q hq σ r1 σ2 hr
    exact va_runSU (As := []) (C := RX9) (C.2.2.2.1.1 9 _ rfl).2 C.1 ct (va_cwSU 0 C.1.2.2.2.2 gX9_bears_X6_bears_s11 rfl rfl rfl (by decide +kernel) ⟨Nat.le_of_ble_eq_true rfl, Nat.le_of_ble_eq_true rfl⟩) ⟨zzPc_blind, zz_recv C.2.2.2 (zzX_pers1 hq H hW) rfl, fun U hU hWm => zzPc_at C.2.2.2 hU hWm hW⟩ rfl rfl hl.1 rfl (lv_room hroom) dX9_bears_1 hcs
  · have hkk : k9 = 3 := hkk
    subst hkk
    have ct := k_X6_bears (l := l) (Z := Z) (base := base) (PL := PL) (mm := mm) (3, f9) q hq σ r1 σ2 hr
    exact va_runSU (As := []) (C := RX1) (C.2.2.2.1.1 1 _ rfl).2 C.1 ct (va_cwSU 0 C.1.2.2.2.2 gX9_bears_X6_bears_s11 rfl rfl rfl (by decide +kernel) ⟨Nat.le_of_ble_eq_true rfl, Nat.le_of_ble_eq_true rfl⟩) ⟨zzPc_blind, zz_recv C.2.2.2 (zzX_pers1 hq H hW) rfl, fun U hU hWm => zzPc_at C.2.2.2 hU hWm hW⟩ rfl rfl hl.1 rfl (lv_room hroom) dX9_bears_1 hcs
  · have hkk : k9 = 5 := hkk
    subst hkk
    have ct := k_X6_bears (l := l) (Z := Z) (base := base) (PL := PL) (mm := mm) (5, f9) q hq σ r1 σ2 hr
    exact va_runSU (As := []) (C := RX5) (C.2.2.2.1.1 5 _ rfl).2 C.1 ct (va_cwSU 0 C.1.2.2.2.2 gX9_bears_X6_bears_s11 rfl rfl rfl (by decide +kernel) ⟨Nat.le_of_ble_eq_true rfl, Nat.le_of_ble_eq_true rfl⟩) ⟨zzPc_blind, zz_recv C.2.2.2 (zzX_pers1 hq H hW) rfl, fun U hU hWm => zzPc_at C.2.2.2 hU hWm hW⟩ rfl rfl hl.1 rfl (lv_room hroom) dX9_bears_1 hcs
  · have hkk : k9 = 7 := hkk
    subst hkk
    have ct := k_X6_bears (l := l) (Z := Z) (base := base) (PL := PL) (mm := mm) (7, f9) q hq σ r1 σ2 hr
    exact va_runSU (As := []) (C := RX8) (C.2.2.2.1.1 8 _ rfl).2 C.1 ct (va_cwSU 0 C.1.2.2.2.2 gX9_bears_X6_bears_s11 rfl rfl rfl (by decide +kernel) ⟨Nat.le_of_ble_eq_true rfl, Nat.le_of_ble_eq_true rfl⟩) ⟨zzPc_blind, zz_recv C.2.2.2 (zzX_pers1 hq H hW) rfl, fun U hU hWm => zzPc_at C.2.2.2 hU hWm hW⟩ rfl rfl hl.1 rfl (lv_room hroom) dX9_bears_1 hcs

set_option maxHeartbeats 4000000 in
set_option maxRecDepth 100000 in
theorem w_X9_bears_e {l : Launch} {Z : zzG} {base : Nat} {PL : Nat → Option (Nat × Int32)} {mm : zzS} {p : Program} {e : Env} {s : State} {m : MethodId} {args : Array Value} {below : List Frame} {meth : Method} {c : Code} (C : zzCx p m meth c s args cX9_bears 1 wsX9_bears RX9 (some .int) Z) (kf : (Nat × Int32)) (q0 : Nat) (hq : PL q0 = some kf) (hkk : kf.1 = 1 ∨ kf.1 = 3 ∨ kf.1 = 5 ∨ kf.1 = 7) (σ : zzS) : zzGO p l e rX9_bears s m args below meth c 1 (zzA base) (zzX Z base PL mm) (zzX Z base PL mm) zzRI rX9_bears.cells rX9_bears.slots (f_X9_bears kf σ) σ 0 0 0 [(0, .ref q0)] [] := by
  unfold f_X9_bears
  refine zz_aload_n C dX9_bears_0 rfl 0 rfl ?_
  refine zz_call (av := #[.ref q0]) (rest := []) (mcc := 0) (msc := 0) (relc := zzRI) (vs_X9_bears_1 C hq hkk (Nat.le_of_ble_eq_true rfl)) (zz_kI rfl rfl (fun r1 σ2 => ?_))
  refine zz_iconst (v := 1) C dX9_bears_4 (by decide) ?_
  refine zz_iadd C dX9_bears_5 ?_
  exact zz_iret C rfl rfl (fun _ h9 => h9) (Nat.zero_le _) (Nat.zero_le _) dX9_bears_6
set_option maxHeartbeats 4000000 in
set_option maxRecDepth 100000 in
theorem k_X9_bears {l : Launch} {Z : zzG} {base : Nat} {PL : Nat → Option (Nat × Int32)} {mm : zzS} (kf : (Nat × Int32)) (q0 : Nat) (hq : PL q0 = some kf) (hkk : kf.1 = 1 ∨ kf.1 = 3 ∨ kf.1 = 5 ∨ kf.1 = 7) (σ : zzS) : zzCT l yX9_bears wsX9_bears rX9_bears (zzA base) Z (zzX Z base PL mm) (zzX Z base PL mm) zzRI [.ref q0] (f_X9_bears kf σ) σ :=
  zzCT_of (cc := cX9_bears) (nL := 1) (ret := (some .int)) (by decide) rfl (Nat.le_of_ble_eq_true rfl) [(0, .ref q0)] rfl (fun p e s m args below meth c C => w_X9_bears_e C kf q0 hq hkk σ)
abbrev rX1_bears : Room := { frames := 2, cells := 0, slots := 0, locals := 40 }
set_option maxHeartbeats 4000000 in
set_option maxRecDepth 100000 in
theorem vs_X1_bears_1 {l : Launch} {Z : zzG} {base : Nat} {PL : Nat → Option (Nat × Int32)} {mm : zzS} {p : Program} {e : Env} {s : State} {m : MethodId} {args : Array Value} {below : List Frame} {meth : Method} {c : Code} {cells slots : Nat} {σ : zzS} {loc : List (Nat × Value)} {rest : List Value} (C : zzCx p m meth c s args cX1_bears 1 wsX1_bears RX1 (some .int) Z) {q : Nat} {kf : Nat × Int32} (hq : PL q = some kf) (hkk : kf.1 = 3) (hroom : (rest.map fun v => v.category).sum ≤ 8) (hcs : cells + 0 ≤ (rX1_bears).cells ∧ slots + 0 ≤ (rX1_bears).slots := by exact ⟨Nat.zero_le _, Nat.zero_le _⟩) :
    ∀ r1 σ2, f_X9_bears kf σ = some (r1, σ2) → ∀ (H : Heap) (locs : List Loc) (ls : Array Slot), zzX Z base PL mm σ H → lv_has ls 1 loc → va_Run p l e rX1_bears s m args below meth c H locs cells slots 0 0 (F0 m 1 ls (.ref q :: rest)) rest (zzQ zzRI (zzX Z base PL mm) (zzA base) r1 σ2 #[.ref q]) (zzA base) := by
  intro r1 σ2 hr H locs ls hW hl
  obtain ⟨k9, f9⟩ := kf
  have hkk : k9 = 3 := hkk
  subst hkk
  have ct := k_X9_bears (l := l) (Z := Z) (base := base) (PL := PL) (mm := mm) (3, f9) q hq (Or.inr (Or.inl rfl)) σ r1 σ2 hr
  exact va_runSU (As := []) (C := RX1) (C.2.2.2.1.1 1 _ rfl).2 C.1 ct (va_cwSU 0 C.1.2.2.2.2 gX1_bears_X9_bears_s7 rfl rfl rfl (by decide +kernel) ⟨Nat.le_of_ble_eq_true rfl, Nat.le_of_ble_eq_true rfl⟩) ⟨zzPc_blind, zz_recv C.2.2.2 (zzX_pers1 hq H hW) rfl, fun U hU hWm => zzPc_at C.2.2.2 hU hWm hW⟩ rfl rfl hl.1 rfl (lv_room hroom) dX1_bears_1 hcs

set_option maxHeartbeats 4000000 in
set_option maxRecDepth 100000 in
theorem w_X1_bears_e {l : Launch} {Z : zzG} {base : Nat} {PL : Nat → Option (Nat × Int32)} {mm : zzS} {p : Program} {e : Env} {s : State} {m : MethodId} {args : Array Value} {below : List Frame} {meth : Method} {c : Code} (C : zzCx p m meth c s args cX1_bears 1 wsX1_bears RX1 (some .int) Z) (kf : (Nat × Int32)) (q0 : Nat) (hq : PL q0 = some kf) (hkk : kf.1 = 3) (σ : zzS) : zzGO p l e rX1_bears s m args below meth c 1 (zzA base) (zzX Z base PL mm) (zzX Z base PL mm) zzRI rX1_bears.cells rX1_bears.slots (f_X1_bears kf σ) σ 0 0 0 [(0, .ref q0)] [] := by
  unfold f_X1_bears
  refine zz_aload_n C dX1_bears_0 rfl 0 rfl ?_
  refine zz_call (av := #[.ref q0]) (rest := []) (mcc := 0) (msc := 0) (relc := zzRI) (vs_X1_bears_1 C hq hkk (Nat.le_of_ble_eq_true rfl)) (zz_kI rfl rfl (fun r1 σ2 => ?_))
  refine zz_bipush (v := 8) C dX1_bears_4 (by decide) ?_
  refine zz_iadd C dX1_bears_6 ?_
  exact zz_iret C rfl rfl (fun _ h9 => h9) (Nat.zero_le _) (Nat.zero_le _) dX1_bears_7
set_option maxHeartbeats 4000000 in
set_option maxRecDepth 100000 in
theorem k_X1_bears {l : Launch} {Z : zzG} {base : Nat} {PL : Nat → Option (Nat × Int32)} {mm : zzS} (kf : (Nat × Int32)) (q0 : Nat) (hq : PL q0 = some kf) (hkk : kf.1 = 3) (σ : zzS) : zzCT l yX1_bears wsX1_bears rX1_bears (zzA base) Z (zzX Z base PL mm) (zzX Z base PL mm) zzRI [.ref q0] (f_X1_bears kf σ) σ :=
  zzCT_of (cc := cX1_bears) (nL := 1) (ret := (some .int)) (by decide) rfl (Nat.le_of_ble_eq_true rfl) [(0, .ref q0)] rfl (fun p e s m args below meth c C => w_X1_bears_e C kf q0 hq hkk σ)
abbrev rX1_turns : Room := { frames := 1, cells := 0, slots := 0, locals := 20 }
set_option maxHeartbeats 4000000 in
set_option maxRecDepth 100000 in
theorem vs_X1_turns_1 {l : Launch} {Z : zzG} {base : Nat} {PL : Nat → Option (Nat × Int32)} {mm : zzS} {p : Program} {e : Env} {s : State} {m : MethodId} {args : Array Value} {below : List Frame} {meth : Method} {c : Code} {cells slots : Nat} {σ : zzS} {loc : List (Nat × Value)} {rest : List Value} (C : zzCx p m meth c s args cX1_turns 1 wsX1_turns RX1 (some .int) Z) {q : Nat} {kf : Nat × Int32} (hq : PL q = some kf) (hkk : kf.1 = 3) (hroom : (rest.map fun v => v.category).sum ≤ 8) (hcs : cells + 0 ≤ (rX1_turns).cells ∧ slots + 0 ≤ (rX1_turns).slots := by exact ⟨Nat.zero_le _, Nat.zero_le _⟩) :
    ∀ r1 σ2, f_X6_turns kf σ = some (r1, σ2) → ∀ (H : Heap) (locs : List Loc) (ls : Array Slot), zzX Z base PL mm σ H → lv_has ls 1 loc → va_Run p l e rX1_turns s m args below meth c H locs cells slots 0 0 (F0 m 1 ls (.ref q :: rest)) rest (zzQ zzRI (zzX Z base PL mm) (zzA base) r1 σ2 #[.ref q]) (zzA base) := by
  intro r1 σ2 hr H locs ls hW hl
  obtain ⟨k9, f9⟩ := kf
  have hkk : k9 = 3 := hkk
  subst hkk
  have ct := k_X6_turns (l := l) (Z := Z) (base := base) (PL := PL) (mm := mm) (3, f9) q hq σ r1 σ2 hr
  exact zz_runSI (x := ⟨RX9, "turns", "()I"⟩) (As := []) (C := RX1) (C.2.2.2.1.1 1 _ rfl).2 C.1 ct rfl rfl (Nat.le_of_ble_eq_true rfl) (Nat.le_of_ble_eq_true rfl) (fun w hw a9 U hWm => by have e9 : w = Cond.code yX6_turns cX6_turns 1 (some .int) := List.mem_singleton.mp hw; rw [e9]; exact word_at (args := #[]) hWm (Or.inl rfl) (C.2.2.2.2 _ (List.mem_of_getElem? (i := 26) rfl))) List.mem_cons_self (va_Nw.use rfl (C.2.2.2.2 _ (List.mem_of_getElem? (i := 20) rfl))) rfl (va_Nw.use rfl (C.2.2.2.2 _ (List.mem_of_getElem? (i := 21) rfl))) (va_Nw.use rfl (C.2.2.2.2 _ (List.mem_of_getElem? (i := 22) rfl))) (va_Nw.use rfl (C.2.2.2.2 _ (List.mem_of_getElem? (i := 23) rfl))) (va_Nw.use rfl (C.2.2.2.2 _ (List.mem_of_getElem? (i := 24) rfl))) (va_Nw.use rfl (C.2.2.2.2 _ (List.mem_of_getElem? (i := 25) rfl))) (va_Nw.use rfl (C.2.2.2.2 _ (List.mem_of_getElem? (i := 26) rfl))) (by decide) (fun sig h => by have h9 : (parseMethodDescriptor yX6_turns.desc).map (fun d => d.parameters.length) = some 0 := (by decide +kernel); rw [h] at h9; exact (Option.some.inj h9).symm) ⟨zzPc_blind, zz_recv C.2.2.2 (zzX_pers1 hq H hW) rfl, fun U hU hWm => zzPc_at C.2.2.2 hU hWm hW⟩ rfl rfl hl.1 rfl (lv_room hroom) dX1_turns_1 hcs

set_option maxHeartbeats 4000000 in
set_option maxRecDepth 100000 in
theorem w_X1_turns_e {l : Launch} {Z : zzG} {base : Nat} {PL : Nat → Option (Nat × Int32)} {mm : zzS} {p : Program} {e : Env} {s : State} {m : MethodId} {args : Array Value} {below : List Frame} {meth : Method} {c : Code} (C : zzCx p m meth c s args cX1_turns 1 wsX1_turns RX1 (some .int) Z) (kf : (Nat × Int32)) (q0 : Nat) (hq : PL q0 = some kf) (hkk : kf.1 = 3) (σ : zzS) : zzGO p l e rX1_turns s m args below meth c 1 (zzA base) (zzX Z base PL mm) (zzX Z base PL mm) zzRI rX1_turns.cells rX1_turns.slots (f_X1_turns kf σ) σ 0 0 0 [(0, .ref q0)] [] := by
  unfold f_X1_turns
  refine zz_aload_n C dX1_turns_0 rfl 0 rfl ?_
  refine zz_call (av := #[.ref q0]) (rest := []) (mcc := 0) (msc := 0) (relc := zzRI) (vs_X1_turns_1 C hq hkk (Nat.le_of_ble_eq_true rfl)) (zz_kI rfl rfl (fun r1 σ2 => ?_))
  refine zz_iconst (v := 2) C dX1_turns_4 (by decide) ?_
  refine zz_iadd C dX1_turns_5 ?_
  exact zz_iret C rfl rfl (fun _ h9 => h9) (Nat.zero_le _) (Nat.zero_le _) dX1_turns_6
set_option maxHeartbeats 4000000 in
set_option maxRecDepth 100000 in
theorem k_X1_turns {l : Launch} {Z : zzG} {base : Nat} {PL : Nat → Option (Nat × Int32)} {mm : zzS} (kf : (Nat × Int32)) (q0 : Nat) (hq : PL q0 = some kf) (hkk : kf.1 = 3) (σ : zzS) : zzCT l yX1_turns wsX1_turns rX1_turns (zzA base) Z (zzX Z base PL mm) (zzX Z base PL mm) zzRI [.ref q0] (f_X1_turns kf σ) σ :=
  zzCT_of (cc := cX1_turns) (nL := 1) (ret := (some .int)) (by decide) rfl (Nat.le_of_ble_eq_true rfl) [(0, .ref q0)] rfl (fun p e s m args below meth c C => w_X1_turns_e C kf q0 hq hkk σ)
abbrev rX9_price : Room := { frames := 1, cells := 0, slots := 0, locals := 20 }
set_option maxHeartbeats 4000000 in
set_option maxRecDepth 100000 in
theorem vs_X9_price_1 {l : Launch} {Z : zzG} {base : Nat} {PL : Nat → Option (Nat × Int32)} {mm : zzS} {p : Program} {e : Env} {s : State} {m : MethodId} {args : Array Value} {below : List Frame} {meth : Method} {c : Code} {cells slots : Nat} {σ : zzS} {loc : List (Nat × Value)} {rest : List Value} (C : zzCx p m meth c s args cX9_price 1 wsX9_price RX9 (some .int) Z) {q : Nat} {kf : Nat × Int32} (hq : PL q = some kf) (hkk : kf.1 = 1 ∨ kf.1 = 3 ∨ kf.1 = 5 ∨ kf.1 = 7) (hroom : (rest.map fun v => v.category).sum ≤ 8) (hcs : cells + 0 ≤ (rX9_price).cells ∧ slots + 0 ≤ (rX9_price).slots := by exact ⟨Nat.zero_le _, Nat.zero_le _⟩) :
    ∀ r1 σ2, f_X6_price kf σ = some (r1, σ2) → ∀ (H : Heap) (locs : List Loc) (ls : Array Slot), zzX Z base PL mm σ H → lv_has ls 1 loc → va_Run p l e rX9_price s m args below meth c H locs cells slots 0 0 (F0 m 1 ls (.ref q :: rest)) rest (zzQ zzRI (zzX Z base PL mm) (zzA base) r1 σ2 #[.ref q]) (zzA base) := by
  intro r1 σ2 hr H locs ls hW hl
  obtain ⟨k9, f9⟩ := kf
  rcases hkk with hkk | hkk | hkk | hkk
  · have hkk : k9 = 1 := hkk
    subst hkk
    have ct := k_X6_price (l := l) (Z := Z) (base := base) (PL := PL) (mm := mm) (1, f9) q hq σ r1 σ2 hr
    exact va_runSU (As := []) (C := RX9) (C.2.2.2.1.1 9 _ rfl).2 C.1 ct (va_cwSU 0 C.1.2.2.2.2 gX9_price_X6_price_s14 rfl rfl rfl (by decide +kernel) ⟨Nat.le_of_ble_eq_true rfl, Nat.le_of_ble_eq_true rfl⟩) ⟨zzPc_blind, zz_recv C.2.2.2 (zzX_pers1 hq H hW) rfl, fun U hU hWm => zzPc_at C.2.2.2 hU hWm hW⟩ rfl rfl hl.1 rfl (lv_room hroom) dX9_price_1 hcs
  · have hkk : k9 = 3 := hkk
    subst hkk
    have ct := k_X6_price (l := l) (Z := Z) (base := base) (PL := PL) (mm := mm) (3, f9) q hq σ r1 σ2 hr
    exact va_runSU (As := []) (C := RX1) (C.2.2.2.1.1 1 _ rfl).2 C.1 ct (va_cwSU 0 C.1.2.2.2.2 gX9_price_X6_price_s14 rfl rfl rfl (by decide +kernel) ⟨Nat.le_of_ble_eq_true rfl, Nat.le_of_ble_eq_true rfl⟩) ⟨zzPc_blind, zz_recv C.2.2.2 (zzX_pers1 hq H hW) rfl, fun U hU hWm => zzPc_at C.2.2.2 hU hWm hW⟩ rfl rfl hl.1 rfl (lv_room hroom) dX9_price_1 hcs
  · have hkk : k9 = 5 := hkk
    subst hkk
    have ct := k_X6_price (l := l) (Z := Z) (base := base) (PL := PL) (mm := mm) (5, f9) q hq σ r1 σ2 hr
    exact va_runSU (As := []) (C := RX5) (C.2.2.2.1.1 5 _ rfl).2 C.1 ct (va_cwSU 0 C.1.2.2.2.2 gX9_price_X6_price_s14 rfl rfl rfl (by decide +kernel) ⟨Nat.le_of_ble_eq_true rfl, Nat.le_of_ble_eq_true rfl⟩) ⟨zzPc_blind, zz_recv C.2.2.2 (zzX_pers1 hq H hW) rfl, fun U hU hWm => zzPc_at C.2.2.2 hU hWm hW⟩ rfl rfl hl.1 rfl (lv_room hroom) dX9_price_1 hcs
  · have hkk : k9 = 7 := hkk
    subst hkk
    have ct := k_X6_price (l := l) (Z := Z) (base := base) (PL := PL) (mm := mm) (7, f9) q hq σ r1 σ2 hr
    exact va_runSU (As := []) (C := RX8) (C.2.2.2.1.1 8 _ rfl).2 C.1 ct (va_cwSU 0 C.1.2.2.2.2 gX9_price_X6_price_s14 rfl rfl rfl (by decide +kernel) ⟨Nat.le_of_ble_eq_true rfl, Nat.le_of_ble_eq_true rfl⟩) ⟨zzPc_blind, zz_recv C.2.2.2 (zzX_pers1 hq H hW) rfl, fun U hU hWm => zzPc_at C.2.2.2 hU hWm hW⟩ rfl rfl hl.1 rfl (lv_room hroom) dX9_price_1 hcs

set_option maxHeartbeats 4000000 in
set_option maxRecDepth 100000 in
theorem w_X9_price_e {l : Launch} {Z : zzG} {base : Nat} {PL : Nat → Option (Nat × Int32)} {mm : zzS} {p : Program} {e : Env} {s : State} {m : MethodId} {args : Array Value} {below : List Frame} {meth : Method} {c : Code} (C : zzCx p m meth c s args cX9_price 1 wsX9_price RX9 (some .int) Z) (kf : (Nat × Int32)) (q0 : Nat) (hq : PL q0 = some kf) (hkk : kf.1 = 1 ∨ kf.1 = 3 ∨ kf.1 = 5 ∨ kf.1 = 7) (σ : zzS) : zzGO p l e rX9_price s m args below meth c 1 (zzA base) (zzX Z base PL mm) (zzX Z base PL mm) zzRI rX9_price.cells rX9_price.slots (f_X9_price kf σ) σ 0 0 0 [(0, .ref q0)] [] := by
  unfold f_X9_price
  refine zz_aload_n C dX9_price_0 rfl 0 rfl ?_
  refine zz_call (av := #[.ref q0]) (rest := []) (mcc := 0) (msc := 0) (relc := zzRI) (vs_X9_price_1 C hq hkk (Nat.le_of_ble_eq_true rfl)) (zz_kI rfl rfl (fun r1 σ2 => ?_))
  refine zz_iconst (v := 1) C dX9_price_4 (by decide) ?_
  refine zz_isub C dX9_price_5 ?_
  exact zz_iret C rfl rfl (fun _ h9 => h9) (Nat.zero_le _) (Nat.zero_le _) dX9_price_6
set_option maxHeartbeats 4000000 in
set_option maxRecDepth 100000 in
theorem k_X9_price {l : Launch} {Z : zzG} {base : Nat} {PL : Nat → Option (Nat × Int32)} {mm : zzS} (kf : (Nat × Int32)) (q0 : Nat) (hq : PL q0 = some kf) (hkk : kf.1 = 1 ∨ kf.1 = 3 ∨ kf.1 = 5 ∨ kf.1 = 7) (σ : zzS) : zzCT l yX9_price wsX9_price rX9_price (zzA base) Z (zzX Z base PL mm) (zzX Z base PL mm) zzRI [.ref q0] (f_X9_price kf σ) σ :=
  zzCT_of (cc := cX9_price) (nL := 1) (ret := (some .int)) (by decide) rfl (Nat.le_of_ble_eq_true rfl) [(0, .ref q0)] rfl (fun p e s m args below meth c C => w_X9_price_e C kf q0 hq hkk σ)
abbrev rX1_price : Room := { frames := 2, cells := 0, slots := 0, locals := 40 }
set_option maxHeartbeats 4000000 in
set_option maxRecDepth 100000 in
theorem vs_X1_price_1 {l : Launch} {Z : zzG} {base : Nat} {PL : Nat → Option (Nat × Int32)} {mm : zzS} {p : Program} {e : Env} {s : State} {m : MethodId} {args : Array Value} {below : List Frame} {meth : Method} {c : Code} {cells slots : Nat} {σ : zzS} {loc : List (Nat × Value)} {rest : List Value} (C : zzCx p m meth c s args cX1_price 1 wsX1_price RX1 (some .int) Z) {q : Nat} {kf : Nat × Int32} (hq : PL q = some kf) (hkk : kf.1 = 3) (hroom : (rest.map fun v => v.category).sum ≤ 8) (hcs : cells + 0 ≤ (rX1_price).cells ∧ slots + 0 ≤ (rX1_price).slots := by exact ⟨Nat.zero_le _, Nat.zero_le _⟩) :
    ∀ r1 σ2, f_X9_price kf σ = some (r1, σ2) → ∀ (H : Heap) (locs : List Loc) (ls : Array Slot), zzX Z base PL mm σ H → lv_has ls 1 loc → va_Run p l e rX1_price s m args below meth c H locs cells slots 0 0 (F0 m 1 ls (.ref q :: rest)) rest (zzQ zzRI (zzX Z base PL mm) (zzA base) r1 σ2 #[.ref q]) (zzA base) := by
  intro r1 σ2 hr H locs ls hW hl
  obtain ⟨k9, f9⟩ := kf
  have hkk : k9 = 3 := hkk
  subst hkk
  have ct := k_X9_price (l := l) (Z := Z) (base := base) (PL := PL) (mm := mm) (3, f9) q hq (Or.inr (Or.inl rfl)) σ r1 σ2 hr
  exact va_runSU (As := []) (C := RX1) (C.2.2.2.1.1 1 _ rfl).2 C.1 ct (va_cwSU 0 C.1.2.2.2.2 gX1_price_X9_price_s14 rfl rfl rfl (by decide +kernel) ⟨Nat.le_of_ble_eq_true rfl, Nat.le_of_ble_eq_true rfl⟩) ⟨zzPc_blind, zz_recv C.2.2.2 (zzX_pers1 hq H hW) rfl, fun U hU hWm => zzPc_at C.2.2.2 hU hWm hW⟩ rfl rfl hl.1 rfl (lv_room hroom) dX1_price_1 hcs

set_option maxHeartbeats 4000000 in
set_option maxRecDepth 100000 in
theorem w_X1_price_e {l : Launch} {Z : zzG} {base : Nat} {PL : Nat → Option (Nat × Int32)} {mm : zzS} {p : Program} {e : Env} {s : State} {m : MethodId} {args : Array Value} {below : List Frame} {meth : Method} {c : Code} (C : zzCx p m meth c s args cX1_price 1 wsX1_price RX1 (some .int) Z) (kf : (Nat × Int32)) (q0 : Nat) (hq : PL q0 = some kf) (hkk : kf.1 = 3) (σ : zzS) : zzGO p l e rX1_price s m args below meth c 1 (zzA base) (zzX Z base PL mm) (zzX Z base PL mm) zzRI rX1_price.cells rX1_price.slots (f_X1_price kf σ) σ 0 0 0 [(0, .ref q0)] [] := by
  unfold f_X1_price
  refine zz_aload_n C dX1_price_0 rfl 0 rfl ?_
  refine zz_call (av := #[.ref q0]) (rest := []) (mcc := 0) (msc := 0) (relc := zzRI) (vs_X1_price_1 C hq hkk (Nat.le_of_ble_eq_true rfl)) (zz_kI rfl rfl (fun r1 σ2 => ?_))
  refine zz_iconst (v := 2) C dX1_price_4 (by decide) ?_
  refine zz_idiv C dX1_price_5 (by decide) ?_
  exact zz_iret C rfl rfl (fun _ h9 => h9) (Nat.zero_le _) (Nat.zero_le _) dX1_price_6
set_option maxHeartbeats 4000000 in
set_option maxRecDepth 100000 in
theorem k_X1_price {l : Launch} {Z : zzG} {base : Nat} {PL : Nat → Option (Nat × Int32)} {mm : zzS} (kf : (Nat × Int32)) (q0 : Nat) (hq : PL q0 = some kf) (hkk : kf.1 = 3) (σ : zzS) : zzCT l yX1_price wsX1_price rX1_price (zzA base) Z (zzX Z base PL mm) (zzX Z base PL mm) zzRI [.ref q0] (f_X1_price kf σ) σ :=
  zzCT_of (cc := cX1_price) (nL := 1) (ret := (some .int)) (by decide) rfl (Nat.le_of_ble_eq_true rfl) [(0, .ref q0)] rfl (fun p e s m args below meth c C => w_X1_price_e C kf q0 hq hkk σ)
abbrev rX4_bears : Room := { frames := 0, cells := 0, slots := 0, locals := 0 }

set_option maxHeartbeats 4000000 in
set_option maxRecDepth 100000 in
theorem w_X4_bears_e {l : Launch} {Z : zzG} {base : Nat} {PL : Nat → Option (Nat × Int32)} {mm : zzS} {p : Program} {e : Env} {s : State} {m : MethodId} {args : Array Value} {below : List Frame} {meth : Method} {c : Code} (C : zzCx p m meth c s args cX4_bears 1 wsX4_bears RX4 (some .int) Z) (kf : (Nat × Int32)) (q0 : Nat) (hq : PL q0 = some kf) (hkk : kf.1 = 4) (σ : zzS) : zzGO p l e rX4_bears s m args below meth c 1 (zzA base) (zzX Z base PL mm) (zzX Z base PL mm) zzRI rX4_bears.cells rX4_bears.slots (f_X4_bears kf σ) σ 0 0 0 [(0, .ref q0)] [] := by
  unfold f_X4_bears
  refine zz_iconst (v := -1) C dX4_bears_0 (by decide) ?_
  exact zz_iret C rfl rfl (fun _ h9 => h9) (Nat.zero_le _) (Nat.zero_le _) dX4_bears_1
set_option maxHeartbeats 4000000 in
set_option maxRecDepth 100000 in
theorem k_X4_bears {l : Launch} {Z : zzG} {base : Nat} {PL : Nat → Option (Nat × Int32)} {mm : zzS} (kf : (Nat × Int32)) (q0 : Nat) (hq : PL q0 = some kf) (hkk : kf.1 = 4) (σ : zzS) : zzCT l yX4_bears wsX4_bears rX4_bears (zzA base) Z (zzX Z base PL mm) (zzX Z base PL mm) zzRI [.ref q0] (f_X4_bears kf σ) σ :=
  zzCT_of (cc := cX4_bears) (nL := 1) (ret := (some .int)) (by decide) rfl (Nat.le_of_ble_eq_true rfl) [(0, .ref q0)] rfl (fun p e s m args below meth c C => w_X4_bears_e C kf q0 hq hkk σ)
abbrev rX5_bears : Room := { frames := 2, cells := 0, slots := 0, locals := 40 }
set_option maxHeartbeats 4000000 in
set_option maxRecDepth 100000 in
theorem vs_X5_bears_1 {l : Launch} {Z : zzG} {base : Nat} {PL : Nat → Option (Nat × Int32)} {mm : zzS} {p : Program} {e : Env} {s : State} {m : MethodId} {args : Array Value} {below : List Frame} {meth : Method} {c : Code} {cells slots : Nat} {σ : zzS} {loc : List (Nat × Value)} {rest : List Value} (C : zzCx p m meth c s args cX5_bears 1 wsX5_bears RX5 (some .int) Z) {q : Nat} {kf : Nat × Int32} (hq : PL q = some kf) (hkk : kf.1 = 5) (hroom : (rest.map fun v => v.category).sum ≤ 8) (hcs : cells + 0 ≤ (rX5_bears).cells ∧ slots + 0 ≤ (rX5_bears).slots := by exact ⟨Nat.zero_le _, Nat.zero_le _⟩) :
    ∀ r1 σ2, f_X9_bears kf σ = some (r1, σ2) → ∀ (H : Heap) (locs : List Loc) (ls : Array Slot), zzX Z base PL mm σ H → lv_has ls 1 loc → va_Run p l e rX5_bears s m args below meth c H locs cells slots 0 0 (F0 m 1 ls (.ref q :: rest)) rest (zzQ zzRI (zzX Z base PL mm) (zzA base) r1 σ2 #[.ref q]) (zzA base) := by
  intro r1 σ2 hr H locs ls hW hl
  obtain ⟨k9, f9⟩ := kf
  have hkk : k9 = 5 := hkk
  subst hkk
  have ct := k_X9_bears (l := l) (Z := Z) (base := base) (PL := PL) (mm := mm) (5, f9) q hq (Or.inr (Or.inr (Or.inl rfl))) σ r1 σ2 hr
  exact va_runSU (As := []) (C := RX5) (C.2.2.2.1.1 5 _ rfl).2 C.1 ct (va_cwSU 0 C.1.2.2.2.2 gX5_bears_X9_bears_s17 rfl rfl rfl (by decide +kernel) ⟨Nat.le_of_ble_eq_true rfl, Nat.le_of_ble_eq_true rfl⟩) ⟨zzPc_blind, zz_recv C.2.2.2 (zzX_pers1 hq H hW) rfl, fun U hU hWm => zzPc_at C.2.2.2 hU hWm hW⟩ rfl rfl hl.1 rfl (lv_room hroom) dX5_bears_1 hcs

set_option maxHeartbeats 4000000 in
set_option maxRecDepth 100000 in
theorem w_X5_bears_e {l : Launch} {Z : zzG} {base : Nat} {PL : Nat → Option (Nat × Int32)} {mm : zzS} {p : Program} {e : Env} {s : State} {m : MethodId} {args : Array Value} {below : List Frame} {meth : Method} {c : Code} (C : zzCx p m meth c s args cX5_bears 1 wsX5_bears RX5 (some .int) Z) (kf : (Nat × Int32)) (q0 : Nat) (hq : PL q0 = some kf) (hkk : kf.1 = 5) (σ : zzS) : zzGO p l e rX5_bears s m args below meth c 1 (zzA base) (zzX Z base PL mm) (zzX Z base PL mm) zzRI rX5_bears.cells rX5_bears.slots (f_X5_bears kf σ) σ 0 0 0 [(0, .ref q0)] [] := by
  unfold f_X5_bears
  refine zz_aload_n C dX5_bears_0 rfl 0 rfl ?_
  refine zz_call (av := #[.ref q0]) (rest := []) (mcc := 0) (msc := 0) (relc := zzRI) (vs_X5_bears_1 C hq hkk (Nat.le_of_ble_eq_true rfl)) (zz_kI rfl rfl (fun r1 σ2 => ?_))
  refine zz_iconst (v := 1) C dX5_bears_4 (by decide) ?_
  refine zz_iadd C dX5_bears_5 ?_
  exact zz_iret C rfl rfl (fun _ h9 => h9) (Nat.zero_le _) (Nat.zero_le _) dX5_bears_6
set_option maxHeartbeats 4000000 in
set_option maxRecDepth 100000 in
theorem k_X5_bears {l : Launch} {Z : zzG} {base : Nat} {PL : Nat → Option (Nat × Int32)} {mm : zzS} (kf : (Nat × Int32)) (q0 : Nat) (hq : PL q0 = some kf) (hkk : kf.1 = 5) (σ : zzS) : zzCT l yX5_bears wsX5_bears rX5_bears (zzA base) Z (zzX Z base PL mm) (zzX Z base PL mm) zzRI [.ref q0] (f_X5_bears kf σ) σ :=
  zzCT_of (cc := cX5_bears) (nL := 1) (ret := (some .int)) (by decide) rfl (Nat.le_of_ble_eq_true rfl) [(0, .ref q0)] rfl (fun p e s m args below meth c C => w_X5_bears_e C kf q0 hq hkk σ)
abbrev rX8_bears : Room := { frames := 2, cells := 0, slots := 0, locals := 40 }
set_option maxHeartbeats 4000000 in
set_option maxRecDepth 100000 in
theorem vs_X8_bears_1 {l : Launch} {Z : zzG} {base : Nat} {PL : Nat → Option (Nat × Int32)} {mm : zzS} {p : Program} {e : Env} {s : State} {m : MethodId} {args : Array Value} {below : List Frame} {meth : Method} {c : Code} {cells slots : Nat} {σ : zzS} {loc : List (Nat × Value)} {rest : List Value} (C : zzCx p m meth c s args cX8_bears 1 wsX8_bears RX8 (some .int) Z) {q : Nat} {kf : Nat × Int32} (hq : PL q = some kf) (hkk : kf.1 = 7) (hroom : (rest.map fun v => v.category).sum ≤ 8) (hcs : cells + 0 ≤ (rX8_bears).cells ∧ slots + 0 ≤ (rX8_bears).slots := by exact ⟨Nat.zero_le _, Nat.zero_le _⟩) :
    ∀ r1 σ2, f_X9_bears kf σ = some (r1, σ2) → ∀ (H : Heap) (locs : List Loc) (ls : Array Slot), zzX Z base PL mm σ H → lv_has ls 1 loc → va_Run p l e rX8_bears s m args below meth c H locs cells slots 0 0 (F0 m 1 ls (.ref q :: rest)) rest (zzQ zzRI (zzX Z base PL mm) (zzA base) r1 σ2 #[.ref q]) (zzA base) := by
  intro r1 σ2 hr H locs ls hW hl
  obtain ⟨k9, f9⟩ := kf
  have hkk : k9 = 7 := hkk
  subst hkk
  have ct := k_X9_bears (l := l) (Z := Z) (base := base) (PL := PL) (mm := mm) (7, f9) q hq (Or.inr (Or.inr (Or.inr rfl))) σ r1 σ2 hr
  exact va_runSU (As := []) (C := RX8) (C.2.2.2.1.1 8 _ rfl).2 C.1 ct (va_cwSU 0 C.1.2.2.2.2 gX8_bears_X9_bears_s11 rfl rfl rfl (by decide +kernel) ⟨Nat.le_of_ble_eq_true rfl, Nat.le_of_ble_eq_true rfl⟩) ⟨zzPc_blind, zz_recv C.2.2.2 (zzX_pers1 hq H hW) rfl, fun U hU hWm => zzPc_at C.2.2.2 hU hWm hW⟩ rfl rfl hl.1 rfl (lv_room hroom) dX8_bears_1 hcs

set_option maxHeartbeats 4000000 in
set_option maxRecDepth 100000 in
theorem w_X8_bears_e {l : Launch} {Z : zzG} {base : Nat} {PL : Nat → Option (Nat × Int32)} {mm : zzS} {p : Program} {e : Env} {s : State} {m : MethodId} {args : Array Value} {below : List Frame} {meth : Method} {c : Code} (C : zzCx p m meth c s args cX8_bears 1 wsX8_bears RX8 (some .int) Z) (kf : (Nat × Int32)) (q0 : Nat) (hq : PL q0 = some kf) (hkk : kf.1 = 7) (σ : zzS) : zzGO p l e rX8_bears s m args below meth c 1 (zzA base) (zzX Z base PL mm) (zzX Z base PL mm) zzRI rX8_bears.cells rX8_bears.slots (f_X8_bears kf σ) σ 0 0 0 [(0, .ref q0)] [] := by
  unfold f_X8_bears
  refine zz_aload_n C dX8_bears_0 rfl 0 rfl ?_
  refine zz_call (av := #[.ref q0]) (rest := []) (mcc := 0) (msc := 0) (relc := zzRI) (vs_X8_bears_1 C hq hkk (Nat.le_of_ble_eq_true rfl)) (zz_kI rfl rfl (fun r1 σ2 => ?_))
  refine zz_iconst (v := 2) C dX8_bears_4 (by decide) ?_
  refine zz_iadd C dX8_bears_5 ?_
  exact zz_iret C rfl rfl (fun _ h9 => h9) (Nat.zero_le _) (Nat.zero_le _) dX8_bears_6
set_option maxHeartbeats 4000000 in
set_option maxRecDepth 100000 in
theorem k_X8_bears {l : Launch} {Z : zzG} {base : Nat} {PL : Nat → Option (Nat × Int32)} {mm : zzS} (kf : (Nat × Int32)) (q0 : Nat) (hq : PL q0 = some kf) (hkk : kf.1 = 7) (σ : zzS) : zzCT l yX8_bears wsX8_bears rX8_bears (zzA base) Z (zzX Z base PL mm) (zzX Z base PL mm) zzRI [.ref q0] (f_X8_bears kf σ) σ :=
  zzCT_of (cc := cX8_bears) (nL := 1) (ret := (some .int)) (by decide) rfl (Nat.le_of_ble_eq_true rfl) [(0, .ref q0)] rfl (fun p e s m args below meth c C => w_X8_bears_e C kf q0 hq hkk σ)
abbrev rJ6_bitCount_0f7a4 : Room := { frames := 0, cells := 0, slots := 0, locals := 0 }

set_option maxHeartbeats 4000000 in
set_option maxRecDepth 100000 in
theorem w_J6_bitCount_0f7a4_e {l : Launch} {Z : zzG} {base : Nat} {PL : Nat → Option (Nat × Int32)} {mm : zzS} {p : Program} {e : Env} {s : State} {m : MethodId} {args : Array Value} {below : List Frame} {meth : Method} {c : Code} (C : zzCx p m meth c s args cJ6_bitCount_0f7a4 1 wsJ6_bitCount_0f7a4 RJ6 (some .int) Z) (p0 : Int32)  (σ : zzS) : zzGO p l e rJ6_bitCount_0f7a4 s m args below meth c 1 (zzA base) (zzX Z base PL mm) (zzX Z base PL mm) zzRI rJ6_bitCount_0f7a4.cells rJ6_bitCount_0f7a4.slots (f_J6_bitCount_0f7a4 p0 σ) σ 0 0 0 [(0, .int p0)] [] := by
  unfold f_J6_bitCount_0f7a4
  refine zz_iload_n C dJ6_bitCount_0f7a4_0 rfl 0 rfl ?_
  refine zz_iload_n C dJ6_bitCount_0f7a4_1 rfl 0 rfl ?_
  refine zz_iconst (v := 1) C dJ6_bitCount_0f7a4_2 (by decide) ?_
  refine zz_iushr C dJ6_bitCount_0f7a4_3 ?_
  refine zz_ldcw (v := 1431655765) C (C.1.2.2.2.2 _ (List.mem_of_getElem? (i := 1) rfl)) dJ6_bitCount_0f7a4_4 ?_
  refine zz_iand C dJ6_bitCount_0f7a4_7 ?_
  refine zz_isub C dJ6_bitCount_0f7a4_8 ?_
  refine zz_istoreX_n (locf := fun x1 => [(0, .int x1)]) C dJ6_bitCount_0f7a4_9 rfl (by decide) (fun _ => rfl) (fun x1 => ?_)
  refine zz_iload_n C dJ6_bitCount_0f7a4_10 rfl 0 rfl ?_
  refine zz_ldcw (v := 858993459) C (C.1.2.2.2.2 _ (List.mem_of_getElem? (i := 2) rfl)) dJ6_bitCount_0f7a4_11 ?_
  refine zz_iand C dJ6_bitCount_0f7a4_14 ?_
  refine zz_iload_n C dJ6_bitCount_0f7a4_15 rfl 0 rfl ?_
  refine zz_iconst (v := 2) C dJ6_bitCount_0f7a4_16 (by decide) ?_
  refine zz_iushr C dJ6_bitCount_0f7a4_17 ?_
  refine zz_ldcw (v := 858993459) C (C.1.2.2.2.2 _ (List.mem_of_getElem? (i := 2) rfl)) dJ6_bitCount_0f7a4_18 ?_
  refine zz_iand C dJ6_bitCount_0f7a4_21 ?_
  refine zz_iadd C dJ6_bitCount_0f7a4_22 ?_
  refine zz_istoreX_n (locf := fun x2 => [(0, .int x2)]) C dJ6_bitCount_0f7a4_23 rfl (by decide) (fun _ => rfl) (fun x2 => ?_)
  refine zz_iload_n C dJ6_bitCount_0f7a4_24 rfl 0 rfl ?_
  refine zz_iload_n C dJ6_bitCount_0f7a4_25 rfl 0 rfl ?_
  refine zz_iconst (v := 4) C dJ6_bitCount_0f7a4_26 (by decide) ?_
  refine zz_iushr C dJ6_bitCount_0f7a4_27 ?_
  refine zz_iadd C dJ6_bitCount_0f7a4_28 ?_
  refine zz_ldcw (v := 252645135) C (C.1.2.2.2.2 _ (List.mem_of_getElem? (i := 3) rfl)) dJ6_bitCount_0f7a4_29 ?_
  refine zz_iand C dJ6_bitCount_0f7a4_32 ?_
  refine zz_istoreX_n (locf := fun x3 => [(0, .int x3)]) C dJ6_bitCount_0f7a4_33 rfl (by decide) (fun _ => rfl) (fun x3 => ?_)
  refine zz_iload_n C dJ6_bitCount_0f7a4_34 rfl 0 rfl ?_
  refine zz_iload_n C dJ6_bitCount_0f7a4_35 rfl 0 rfl ?_
  refine zz_bipush (v := 8) C dJ6_bitCount_0f7a4_36 (by decide) ?_
  refine zz_iushr C dJ6_bitCount_0f7a4_38 ?_
  refine zz_iadd C dJ6_bitCount_0f7a4_39 ?_
  refine zz_istoreX_n (locf := fun x4 => [(0, .int x4)]) C dJ6_bitCount_0f7a4_40 rfl (by decide) (fun _ => rfl) (fun x4 => ?_)
  refine zz_iload_n C dJ6_bitCount_0f7a4_41 rfl 0 rfl ?_
  refine zz_iload_n C dJ6_bitCount_0f7a4_42 rfl 0 rfl ?_
  refine zz_bipush (v := 16) C dJ6_bitCount_0f7a4_43 (by decide) ?_
  refine zz_iushr C dJ6_bitCount_0f7a4_45 ?_
  refine zz_iadd C dJ6_bitCount_0f7a4_46 ?_
  refine zz_istoreX_n (locf := fun x5 => [(0, .int x5)]) C dJ6_bitCount_0f7a4_47 rfl (by decide) (fun _ => rfl) (fun x5 => ?_)
  refine zz_iload_n C dJ6_bitCount_0f7a4_48 rfl 0 rfl ?_
  refine zz_bipush (v := 63) C dJ6_bitCount_0f7a4_49 (by decide) ?_
  refine zz_iand C dJ6_bitCount_0f7a4_51 ?_
  exact zz_iret C rfl rfl (fun _ h9 => h9) (Nat.zero_le _) (Nat.zero_le _) dJ6_bitCount_0f7a4_52
set_option maxHeartbeats 4000000 in
set_option maxRecDepth 100000 in
theorem k_J6_bitCount_0f7a4 {l : Launch} {Z : zzG} {base : Nat} {PL : Nat → Option (Nat × Int32)} {mm : zzS} (p0 : Int32)  (σ : zzS) : zzCT l yJ6_bitCount_0f7a4 wsJ6_bitCount_0f7a4 rJ6_bitCount_0f7a4 (zzA base) Z (zzX Z base PL mm) (zzX Z base PL mm) zzRI [.int p0] (f_J6_bitCount_0f7a4 p0 σ) σ :=
  zzCT_of (cc := cJ6_bitCount_0f7a4) (nL := 1) (ret := (some .int)) (by decide) rfl (Nat.le_of_ble_eq_true rfl) [(0, .int p0)] rfl (fun p e s m args below meth c C => w_J6_bitCount_0f7a4_e C p0 σ)
abbrev rX3_number : Room := { frames := 0, cells := 0, slots := 0, locals := 0 }

set_option maxHeartbeats 4000000 in
set_option maxRecDepth 100000 in
theorem w_X3_number_e {l : Launch} {Z : zzG} {base : Nat} {PL : Nat → Option (Nat × Int32)} {mm : zzS} {p : Program} {e : Env} {s : State} {m : MethodId} {args : Array Value} {below : List Frame} {meth : Method} {c : Code} (C : zzCx p m meth c s args cX3_number 1 wsX3_number RX3 (some .int) Z) (kf : (Nat × Int32)) (q0 : Nat) (hq : PL q0 = some kf) (hkk : kf.1 = 6) (σ : zzS) : zzGO p l e rX3_number s m args below meth c 1 (zzA base) (zzX Z base PL mm) (zzX Z base PL mm) zzRI rX3_number.cells rX3_number.slots (f_X3_number kf σ) σ 0 0 0 [(0, .ref q0)] [] := by
  unfold f_X3_number
  refine zz_bipush (v := 6) C dX3_number_0 (by decide) ?_
  exact zz_iret C rfl rfl (fun _ h9 => h9) (Nat.zero_le _) (Nat.zero_le _) dX3_number_2
set_option maxHeartbeats 4000000 in
set_option maxRecDepth 100000 in
theorem k_X3_number {l : Launch} {Z : zzG} {base : Nat} {PL : Nat → Option (Nat × Int32)} {mm : zzS} (kf : (Nat × Int32)) (q0 : Nat) (hq : PL q0 = some kf) (hkk : kf.1 = 6) (σ : zzS) : zzCT l yX3_number wsX3_number rX3_number (zzA base) Z (zzX Z base PL mm) (zzX Z base PL mm) zzRI [.ref q0] (f_X3_number kf σ) σ :=
  zzCT_of (cc := cX3_number) (nL := 1) (ret := (some .int)) (by decide) rfl (Nat.le_of_ble_eq_true rfl) [(0, .ref q0)] rfl (fun p e s m args below meth c C => w_X3_number_e C kf q0 hq hkk σ)
abbrev rX3_grows : Room := { frames := 2, cells := 0, slots := 0, locals := 40 }
set_option maxHeartbeats 4000000 in
set_option maxRecDepth 100000 in
theorem vs_X3_grows_1 {l : Launch} {Z : zzG} {base : Nat} {PL : Nat → Option (Nat × Int32)} {mm : zzS} {p : Program} {e : Env} {s : State} {m : MethodId} {args : Array Value} {below : List Frame} {meth : Method} {c : Code} {cells slots : Nat} {σ : zzS} {loc : List (Nat × Value)} {rest : List Value} (C : zzCx p m meth c s args cX3_grows 1 wsX3_grows RX3 (some .int) Z) {q : Nat} {kf : Nat × Int32} (hq : PL q = some kf) (hkk : kf.1 = 6) (hroom : (rest.map fun v => v.category).sum ≤ 8) (hcs : cells + 0 ≤ (rX3_grows).cells ∧ slots + 0 ≤ (rX3_grows).slots := by exact ⟨Nat.zero_le _, Nat.zero_le _⟩) :
    ∀ r1 σ2, f_X0_grows kf σ = some (r1, σ2) → ∀ (H : Heap) (locs : List Loc) (ls : Array Slot), zzX Z base PL mm σ H → lv_has ls 1 loc → va_Run p l e rX3_grows s m args below meth c H locs cells slots 0 0 (F0 m 1 ls (.ref q :: rest)) rest (zzQ zzRI (zzX Z base PL mm) (zzA base) r1 σ2 #[.ref q]) (zzA base) := by
  intro r1 σ2 hr H locs ls hW hl
  obtain ⟨k9, f9⟩ := kf
  have hkk : k9 = 6 := hkk
  subst hkk
  have ct := k_X0_grows (l := l) (Z := Z) (base := base) (PL := PL) (mm := mm) (6, f9) q hq (Or.inr rfl) σ r1 σ2 hr
  exact va_runSU (As := []) (C := RX3) (C.2.2.2.1.1 3 _ rfl).2 C.1 ct (va_cwSU 0 C.1.2.2.2.2 gX3_grows_X0_grows_s7 rfl rfl rfl (by decide +kernel) ⟨Nat.le_of_ble_eq_true rfl, Nat.le_of_ble_eq_true rfl⟩) ⟨zzPc_blind, zz_recv C.2.2.2 (zzX_pers1 hq H hW) rfl, fun U hU hWm => zzPc_at C.2.2.2 hU hWm hW⟩ rfl rfl hl.1 rfl (lv_room hroom) dX3_grows_1 hcs

set_option maxHeartbeats 4000000 in
set_option maxRecDepth 100000 in
theorem w_X3_grows_e {l : Launch} {Z : zzG} {base : Nat} {PL : Nat → Option (Nat × Int32)} {mm : zzS} {p : Program} {e : Env} {s : State} {m : MethodId} {args : Array Value} {below : List Frame} {meth : Method} {c : Code} (C : zzCx p m meth c s args cX3_grows 1 wsX3_grows RX3 (some .int) Z) (kf : (Nat × Int32)) (q0 : Nat) (hq : PL q0 = some kf) (hkk : kf.1 = 6) (σ : zzS) : zzGO p l e rX3_grows s m args below meth c 1 (zzA base) (zzX Z base PL mm) (zzX Z base PL mm) zzRI rX3_grows.cells rX3_grows.slots (f_X3_grows kf σ) σ 0 0 0 [(0, .ref q0)] [] := by
  unfold f_X3_grows
  refine zz_aload_n C dX3_grows_0 rfl 0 rfl ?_
  refine zz_call (av := #[.ref q0]) (rest := []) (mcc := 0) (msc := 0) (relc := zzRI) (vs_X3_grows_1 C hq hkk (Nat.le_of_ble_eq_true rfl)) (zz_kI rfl rfl (fun r1 σ2 => ?_))
  refine zz_iconst (v := 2) C dX3_grows_4 (by decide) ?_
  refine zz_idiv C dX3_grows_5 (by decide) ?_
  exact zz_iret C rfl rfl (fun _ h9 => h9) (Nat.zero_le _) (Nat.zero_le _) dX3_grows_6
set_option maxHeartbeats 4000000 in
set_option maxRecDepth 100000 in
theorem k_X3_grows {l : Launch} {Z : zzG} {base : Nat} {PL : Nat → Option (Nat × Int32)} {mm : zzS} (kf : (Nat × Int32)) (q0 : Nat) (hq : PL q0 = some kf) (hkk : kf.1 = 6) (σ : zzS) : zzCT l yX3_grows wsX3_grows rX3_grows (zzA base) Z (zzX Z base PL mm) (zzX Z base PL mm) zzRI [.ref q0] (f_X3_grows kf σ) σ :=
  zzCT_of (cc := cX3_grows) (nL := 1) (ret := (some .int)) (by decide) rfl (Nat.le_of_ble_eq_true rfl) [(0, .ref q0)] rfl (fun p e s m args below meth c C => w_X3_grows_e C kf q0 hq hkk σ)
abbrev rX3_turns : Room := { frames := 2, cells := 0, slots := 0, locals := 40 }
set_option maxHeartbeats 4000000 in
set_option maxRecDepth 100000 in
theorem fig_X3_turns_5 {l : Launch} {Z : zzG} {base : Nat} {PL : Nat → Option (Nat × Int32)} {mm : zzS} {p : Program} {e : Env} {R : Room} {s : State} {m : MethodId} {args : Array Value} {below : List Frame} {meth : Method} {c : Code} {α : Type} {rel : α → Option Value → Prop} {Wf : zzS → Heap → Prop} {mc ms cells slots : Nat} {f : Option (α × zzS)} {σ : zzS} {loc : List (Nat × Value)} {st : List Value} (C : zzCx p m meth c s args cX3_turns 1 wsX3_turns RX3 (some .int) Z) {q : Nat} {kf : Nat × Int32} (hq : PL q = some kf) (hkk : kf.1 = 6)
    (kk : zzGO p l e R s m args below meth c 1 (zzA base) (zzX Z base PL mm) Wf rel mc ms f σ cells slots (5 + 3) loc (.int kf.2 :: st)) : zzGO p l e R s m args below meth c 1 (zzA base) (zzX Z base PL mm) Wf rel mc ms f σ cells slots 5 loc (.ref q :: st) := by
  obtain ⟨k9, f9⟩ := kf
  have hkk : k9 = 6 := hkk
  subst hkk
  exact zz_get C (Cn := RX3) (T := TX3) (N := 1) (zzX_pers1 hq) (fun _ h9 => List.mem_cons_of_mem _ (List.mem_append_left _ (List.mem_append_left _ (List.mem_append_left _ (List.mem_append_left _ (List.mem_append_left _ (List.mem_append_right _ (h9)))))))) rfl 0 (by decide) (List.mem_of_getElem? (i := 1) rfl) (Or.inr (List.mem_of_getElem? (i := 2) rfl)) rfl dX3_turns_5 kk

set_option maxHeartbeats 4000000 in
set_option maxRecDepth 100000 in
theorem vs_X3_turns_1 {l : Launch} {Z : zzG} {base : Nat} {PL : Nat → Option (Nat × Int32)} {mm : zzS} {p : Program} {e : Env} {s : State} {m : MethodId} {args : Array Value} {below : List Frame} {meth : Method} {c : Code} {cells slots : Nat} {σ : zzS} {loc : List (Nat × Value)} {rest : List Value} (C : zzCx p m meth c s args cX3_turns 1 wsX3_turns RX3 (some .int) Z) {q : Nat} {kf : Nat × Int32} (hq : PL q = some kf) (hkk : kf.1 = 6) (hroom : (rest.map fun v => v.category).sum ≤ 8) (hcs : cells + 0 ≤ (rX3_turns).cells ∧ slots + 0 ≤ (rX3_turns).slots := by exact ⟨Nat.zero_le _, Nat.zero_le _⟩) :
    ∀ r1 σ2, f_X0_turns kf σ = some (r1, σ2) → ∀ (H : Heap) (locs : List Loc) (ls : Array Slot), zzX Z base PL mm σ H → lv_has ls 1 loc → va_Run p l e rX3_turns s m args below meth c H locs cells slots 0 0 (F0 m 1 ls (.ref q :: rest)) rest (zzQ zzRI (zzX Z base PL mm) (zzA base) r1 σ2 #[.ref q]) (zzA base) := by
  intro r1 σ2 hr H locs ls hW hl
  obtain ⟨k9, f9⟩ := kf
  have hkk : k9 = 6 := hkk
  subst hkk
  have ct := k_X0_turns (l := l) (Z := Z) (base := base) (PL := PL) (mm := mm) (6, f9) q hq (Or.inr rfl) σ r1 σ2 hr
  exact va_runSU (As := []) (C := RX3) (C.2.2.2.1.1 3 _ rfl).2 C.1 ct (va_cwSU 0 C.1.2.2.2.2 gX3_turns_X0_turns_s11 rfl rfl rfl (by decide +kernel) ⟨Nat.le_of_ble_eq_true rfl, Nat.le_of_ble_eq_true rfl⟩) ⟨zzPc_blind, zz_recv C.2.2.2 (zzX_pers1 hq H hW) rfl, fun U hU hWm => zzPc_at C.2.2.2 hU hWm hW⟩ rfl rfl hl.1 rfl (lv_room hroom) dX3_turns_1 hcs

set_option maxHeartbeats 4000000 in
set_option maxRecDepth 100000 in
theorem w_X3_turns_e {l : Launch} {Z : zzG} {base : Nat} {PL : Nat → Option (Nat × Int32)} {mm : zzS} {p : Program} {e : Env} {s : State} {m : MethodId} {args : Array Value} {below : List Frame} {meth : Method} {c : Code} (C : zzCx p m meth c s args cX3_turns 1 wsX3_turns RX3 (some .int) Z) (kf : (Nat × Int32)) (q0 : Nat) (hq : PL q0 = some kf) (hkk : kf.1 = 6) (σ : zzS) : zzGO p l e rX3_turns s m args below meth c 1 (zzA base) (zzX Z base PL mm) (zzX Z base PL mm) zzRI rX3_turns.cells rX3_turns.slots (f_X3_turns kf σ) σ 0 0 0 [(0, .ref q0)] [] := by
  unfold f_X3_turns
  refine zz_aload_n C dX3_turns_0 rfl 0 rfl ?_
  refine zz_call (av := #[.ref q0]) (rest := []) (mcc := 0) (msc := 0) (relc := zzRI) (vs_X3_turns_1 C hq hkk (Nat.le_of_ble_eq_true rfl)) (zz_kI rfl rfl (fun r1 σ2 => ?_))
  refine zz_aload_n C dX3_turns_4 rfl 0 rfl ?_
  refine fig_X3_turns_5 C hq hkk ?_
  refine zz_iconst (v := 3) C dX3_turns_8 (by decide) ?_
  refine zz_idiv C dX3_turns_9 (by decide) ?_
  refine zz_iadd C dX3_turns_10 ?_
  exact zz_iret C rfl rfl (fun _ h9 => h9) (Nat.zero_le _) (Nat.zero_le _) dX3_turns_11
set_option maxHeartbeats 4000000 in
set_option maxRecDepth 100000 in
theorem k_X3_turns {l : Launch} {Z : zzG} {base : Nat} {PL : Nat → Option (Nat × Int32)} {mm : zzS} (kf : (Nat × Int32)) (q0 : Nat) (hq : PL q0 = some kf) (hkk : kf.1 = 6) (σ : zzS) : zzCT l yX3_turns wsX3_turns rX3_turns (zzA base) Z (zzX Z base PL mm) (zzX Z base PL mm) zzRI [.ref q0] (f_X3_turns kf σ) σ :=
  zzCT_of (cc := cX3_turns) (nL := 1) (ret := (some .int)) (by decide) rfl (Nat.le_of_ble_eq_true rfl) [(0, .ref q0)] rfl (fun p e s m args below meth c C => w_X3_turns_e C kf q0 hq hkk σ)
abbrev rX3_shows : Room := { frames := 0, cells := 0, slots := 0, locals := 0 }

set_option maxHeartbeats 4000000 in
set_option maxRecDepth 100000 in
theorem w_X3_shows_e {l : Launch} {Z : zzG} {base : Nat} {PL : Nat → Option (Nat × Int32)} {mm : zzS} {p : Program} {e : Env} {s : State} {m : MethodId} {args : Array Value} {below : List Frame} {meth : Method} {c : Code} (C : zzCx p m meth c s args cX3_shows 2 wsX3_shows RX3 (some .int) Z) (kf : (Nat × Int32)) (q0 : Nat) (hq : PL q0 = some kf) (p0 : Int32)  (hkk : kf.1 = 6) (σ : zzS) : zzGO p l e rX3_shows s m args below meth c 2 (zzA base) (zzX Z base PL mm) (zzX Z base PL mm) zzRI rX3_shows.cells rX3_shows.slots (f_X3_shows kf p0 σ) σ 0 0 0 [(0, .ref q0), (1, .int p0)] [] := by
  unfold f_X3_shows
  refine zz_iload_n C dX3_shows_0 rfl 1 rfl ?_
  refine zz_iconst (v := 2) C dX3_shows_1 (by decide) ?_
  refine zz_idiv C dX3_shows_2 (by decide) ?_
  exact zz_iret C rfl rfl (fun _ h9 => h9) (Nat.zero_le _) (Nat.zero_le _) dX3_shows_3
set_option maxHeartbeats 4000000 in
set_option maxRecDepth 100000 in
theorem k_X3_shows {l : Launch} {Z : zzG} {base : Nat} {PL : Nat → Option (Nat × Int32)} {mm : zzS} (kf : (Nat × Int32)) (q0 : Nat) (hq : PL q0 = some kf) (p0 : Int32)  (hkk : kf.1 = 6) (σ : zzS) : zzCT l yX3_shows wsX3_shows rX3_shows (zzA base) Z (zzX Z base PL mm) (zzX Z base PL mm) zzRI [.ref q0, .int p0] (f_X3_shows kf p0 σ) σ :=
  zzCT_of (cc := cX3_shows) (nL := 2) (ret := (some .int)) (by decide) rfl (Nat.le_of_ble_eq_true rfl) [(0, .ref q0), (1, .int p0)] rfl (fun p e s m args below meth c C => w_X3_shows_e C kf q0 hq p0 hkk σ)
abbrev rX3_price : Room := { frames := 2, cells := 0, slots := 0, locals := 40 }
set_option maxHeartbeats 4000000 in
set_option maxRecDepth 100000 in
theorem vs_X3_price_2 {l : Launch} {Z : zzG} {base : Nat} {PL : Nat → Option (Nat × Int32)} {mm : zzS} {p : Program} {e : Env} {s : State} {m : MethodId} {args : Array Value} {below : List Frame} {meth : Method} {c : Code} {cells slots : Nat} {σ : zzS} {loc : List (Nat × Value)} {rest : List Value} (C : zzCx p m meth c s args cX3_price 1 wsX3_price RX3 (some .int) Z) {q : Nat} {kf : Nat × Int32} (hq : PL q = some kf) (hkk : kf.1 = 6) (hroom : (rest.map fun v => v.category).sum ≤ 8) (hcs : cells + 0 ≤ (rX3_price).cells ∧ slots + 0 ≤ (rX3_price).slots := by exact ⟨Nat.zero_le _, Nat.zero_le _⟩) :
    ∀ r1 σ2, f_X0_price kf σ = some (r1, σ2) → ∀ (H : Heap) (locs : List Loc) (ls : Array Slot), zzX Z base PL mm σ H → lv_has ls 1 loc → va_Run p l e rX3_price s m args below meth c H locs cells slots 0 0 (F0 m 2 ls (.ref q :: rest)) rest (zzQ zzRI (zzX Z base PL mm) (zzA base) r1 σ2 #[.ref q]) (zzA base) := by
  intro r1 σ2 hr H locs ls hW hl
  obtain ⟨k9, f9⟩ := kf
  have hkk : k9 = 6 := hkk
  subst hkk
  have ct := k_X0_price (l := l) (Z := Z) (base := base) (PL := PL) (mm := mm) (6, f9) q hq (Or.inr rfl) σ r1 σ2 hr
  exact va_runSU (As := []) (C := RX3) (C.2.2.2.1.1 3 _ rfl).2 C.1 ct (va_cwSU 0 C.1.2.2.2.2 gX3_price_X0_price_s20 rfl rfl rfl (by decide +kernel) ⟨Nat.le_of_ble_eq_true rfl, Nat.le_of_ble_eq_true rfl⟩) ⟨zzPc_blind, zz_recv C.2.2.2 (zzX_pers1 hq H hW) rfl, fun U hU hWm => zzPc_at C.2.2.2 hU hWm hW⟩ rfl rfl hl.1 rfl (lv_room hroom) dX3_price_2 hcs

set_option maxHeartbeats 4000000 in
set_option maxRecDepth 100000 in
theorem w_X3_price_e {l : Launch} {Z : zzG} {base : Nat} {PL : Nat → Option (Nat × Int32)} {mm : zzS} {p : Program} {e : Env} {s : State} {m : MethodId} {args : Array Value} {below : List Frame} {meth : Method} {c : Code} (C : zzCx p m meth c s args cX3_price 1 wsX3_price RX3 (some .int) Z) (kf : (Nat × Int32)) (q0 : Nat) (hq : PL q0 = some kf) (hkk : kf.1 = 6) (σ : zzS) : zzGO p l e rX3_price s m args below meth c 1 (zzA base) (zzX Z base PL mm) (zzX Z base PL mm) zzRI rX3_price.cells rX3_price.slots (f_X3_price kf σ) σ 0 0 0 [(0, .ref q0)] [] := by
  unfold f_X3_price
  refine zz_iconst (v := 2) C dX3_price_0 (by decide) ?_
  refine zz_aload_n C dX3_price_1 rfl 0 rfl ?_
  refine zz_call (av := #[.ref q0]) (rest := [.int (2 : Int32)]) (mcc := 0) (msc := 0) (relc := zzRI) (vs_X3_price_2 C hq hkk (Nat.le_of_ble_eq_true rfl)) (zz_kI rfl rfl (fun r1 σ2 => ?_))
  refine zz_imul C dX3_price_5 ?_
  exact zz_iret C rfl rfl (fun _ h9 => h9) (Nat.zero_le _) (Nat.zero_le _) dX3_price_6
set_option maxHeartbeats 4000000 in
set_option maxRecDepth 100000 in
theorem k_X3_price {l : Launch} {Z : zzG} {base : Nat} {PL : Nat → Option (Nat × Int32)} {mm : zzS} (kf : (Nat × Int32)) (q0 : Nat) (hq : PL q0 = some kf) (hkk : kf.1 = 6) (σ : zzS) : zzCT l yX3_price wsX3_price rX3_price (zzA base) Z (zzX Z base PL mm) (zzX Z base PL mm) zzRI [.ref q0] (f_X3_price kf σ) σ :=
  zzCT_of (cc := cX3_price) (nL := 1) (ret := (some .int)) (by decide) rfl (Nat.le_of_ble_eq_true rfl) [(0, .ref q0)] rfl (fun p e s m args below meth c C => w_X3_price_e C kf q0 hq hkk σ)
abbrev rX4_number : Room := { frames := 0, cells := 0, slots := 0, locals := 0 }

set_option maxHeartbeats 4000000 in
set_option maxRecDepth 100000 in
theorem w_X4_number_e {l : Launch} {Z : zzG} {base : Nat} {PL : Nat → Option (Nat × Int32)} {mm : zzS} {p : Program} {e : Env} {s : State} {m : MethodId} {args : Array Value} {below : List Frame} {meth : Method} {c : Code} (C : zzCx p m meth c s args cX4_number 1 wsX4_number RX4 (some .int) Z) (kf : (Nat × Int32)) (q0 : Nat) (hq : PL q0 = some kf) (hkk : kf.1 = 4) (σ : zzS) : zzGO p l e rX4_number s m args below meth c 1 (zzA base) (zzX Z base PL mm) (zzX Z base PL mm) zzRI rX4_number.cells rX4_number.slots (f_X4_number kf σ) σ 0 0 0 [(0, .ref q0)] [] := by
  unfold f_X4_number
  refine zz_iconst (v := 4) C dX4_number_0 (by decide) ?_
  exact zz_iret C rfl rfl (fun _ h9 => h9) (Nat.zero_le _) (Nat.zero_le _) dX4_number_1
set_option maxHeartbeats 4000000 in
set_option maxRecDepth 100000 in
theorem k_X4_number {l : Launch} {Z : zzG} {base : Nat} {PL : Nat → Option (Nat × Int32)} {mm : zzS} (kf : (Nat × Int32)) (q0 : Nat) (hq : PL q0 = some kf) (hkk : kf.1 = 4) (σ : zzS) : zzCT l yX4_number wsX4_number rX4_number (zzA base) Z (zzX Z base PL mm) (zzX Z base PL mm) zzRI [.ref q0] (f_X4_number kf σ) σ :=
  zzCT_of (cc := cX4_number) (nL := 1) (ret := (some .int)) (by decide) rfl (Nat.le_of_ble_eq_true rfl) [(0, .ref q0)] rfl (fun p e s m args below meth c C => w_X4_number_e C kf q0 hq hkk σ)
abbrev rX4_grows : Room := { frames := 0, cells := 0, slots := 0, locals := 0 }
set_option maxHeartbeats 4000000 in
set_option maxRecDepth 100000 in
theorem fig_X4_grows_1 {l : Launch} {Z : zzG} {base : Nat} {PL : Nat → Option (Nat × Int32)} {mm : zzS} {p : Program} {e : Env} {R : Room} {s : State} {m : MethodId} {args : Array Value} {below : List Frame} {meth : Method} {c : Code} {α : Type} {rel : α → Option Value → Prop} {Wf : zzS → Heap → Prop} {mc ms cells slots : Nat} {f : Option (α × zzS)} {σ : zzS} {loc : List (Nat × Value)} {st : List Value} (C : zzCx p m meth c s args cX4_grows 1 wsX4_grows RX4 (some .int) Z) {q : Nat} {kf : Nat × Int32} (hq : PL q = some kf) (hkk : kf.1 = 4)
    (kk : zzGO p l e R s m args below meth c 1 (zzA base) (zzX Z base PL mm) Wf rel mc ms f σ cells slots (1 + 3) loc (.int kf.2 :: st)) : zzGO p l e R s m args below meth c 1 (zzA base) (zzX Z base PL mm) Wf rel mc ms f σ cells slots 1 loc (.ref q :: st) := by
  obtain ⟨k9, f9⟩ := kf
  have hkk : k9 = 4 := hkk
  subst hkk
  exact zz_get C (Cn := RX4) (T := TX4) (N := 1) (zzX_pers1 hq) (fun _ h9 => List.mem_cons_of_mem _ (List.mem_append_left _ (List.mem_append_left _ (List.mem_append_left _ (List.mem_append_left _ (List.mem_append_right _ (h9))))))) rfl 0 (by decide) (List.mem_of_getElem? (i := 1) rfl) (Or.inr (List.mem_of_getElem? (i := 2) rfl)) rfl dX4_grows_1 kk

set_option maxHeartbeats 4000000 in
set_option maxRecDepth 100000 in
theorem w_X4_grows_e {l : Launch} {Z : zzG} {base : Nat} {PL : Nat → Option (Nat × Int32)} {mm : zzS} {p : Program} {e : Env} {s : State} {m : MethodId} {args : Array Value} {below : List Frame} {meth : Method} {c : Code} (C : zzCx p m meth c s args cX4_grows 1 wsX4_grows RX4 (some .int) Z) (kf : (Nat × Int32)) (q0 : Nat) (hq : PL q0 = some kf) (hkk : kf.1 = 4) (σ : zzS) : zzGO p l e rX4_grows s m args below meth c 1 (zzA base) (zzX Z base PL mm) (zzX Z base PL mm) zzRI rX4_grows.cells rX4_grows.slots (f_X4_grows kf σ) σ 0 0 0 [(0, .ref q0)] [] := by
  unfold f_X4_grows
  refine zz_aload_n C dX4_grows_0 rfl 0 rfl ?_
  refine fig_X4_grows_1 C hq hkk ?_
  refine zz_iconst (v := 2) C dX4_grows_4 (by decide) ?_
  refine zz_idiv C dX4_grows_5 (by decide) ?_
  exact zz_iret C rfl rfl (fun _ h9 => h9) (Nat.zero_le _) (Nat.zero_le _) dX4_grows_6
set_option maxHeartbeats 4000000 in
set_option maxRecDepth 100000 in
theorem k_X4_grows {l : Launch} {Z : zzG} {base : Nat} {PL : Nat → Option (Nat × Int32)} {mm : zzS} (kf : (Nat × Int32)) (q0 : Nat) (hq : PL q0 = some kf) (hkk : kf.1 = 4) (σ : zzS) : zzCT l yX4_grows wsX4_grows rX4_grows (zzA base) Z (zzX Z base PL mm) (zzX Z base PL mm) zzRI [.ref q0] (f_X4_grows kf σ) σ :=
  zzCT_of (cc := cX4_grows) (nL := 1) (ret := (some .int)) (by decide) rfl (Nat.le_of_ble_eq_true rfl) [(0, .ref q0)] rfl (fun p e s m args below meth c C => w_X4_grows_e C kf q0 hq hkk σ)
abbrev rX4_price : Room := { frames := 1, cells := 0, slots := 0, locals := 20 }
set_option maxHeartbeats 4000000 in
set_option maxRecDepth 100000 in
theorem vs_X4_price_1 {l : Launch} {Z : zzG} {base : Nat} {PL : Nat → Option (Nat × Int32)} {mm : zzS} {p : Program} {e : Env} {s : State} {m : MethodId} {args : Array Value} {below : List Frame} {meth : Method} {c : Code} {cells slots : Nat} {σ : zzS} {loc : List (Nat × Value)} {rest : List Value} (C : zzCx p m meth c s args cX4_price 1 wsX4_price RX4 (some .int) Z) {q : Nat} {kf : Nat × Int32} (hq : PL q = some kf) (hkk : kf.1 = 4) (hroom : (rest.map fun v => v.category).sum ≤ 8) (hcs : cells + 0 ≤ (rX4_price).cells ∧ slots + 0 ≤ (rX4_price).slots := by exact ⟨Nat.zero_le _, Nat.zero_le _⟩) :
    ∀ r1 σ2, f_X6_price kf σ = some (r1, σ2) → ∀ (H : Heap) (locs : List Loc) (ls : Array Slot), zzX Z base PL mm σ H → lv_has ls 1 loc → va_Run p l e rX4_price s m args below meth c H locs cells slots 0 0 (F0 m 1 ls (.ref q :: rest)) rest (zzQ zzRI (zzX Z base PL mm) (zzA base) r1 σ2 #[.ref q]) (zzA base) := by
  intro r1 σ2 hr H locs ls hW hl
  obtain ⟨k9, f9⟩ := kf
  have hkk : k9 = 4 := hkk
  subst hkk
  have ct := k_X6_price (l := l) (Z := Z) (base := base) (PL := PL) (mm := mm) (4, f9) q hq σ r1 σ2 hr
  exact va_runSU (As := []) (C := RX4) (C.2.2.2.1.1 4 _ rfl).2 C.1 ct (va_cwSU 0 C.1.2.2.2.2 gX4_price_X6_price_s13 rfl rfl rfl (by decide +kernel) ⟨Nat.le_of_ble_eq_true rfl, Nat.le_of_ble_eq_true rfl⟩) ⟨zzPc_blind, zz_recv C.2.2.2 (zzX_pers1 hq H hW) rfl, fun U hU hWm => zzPc_at C.2.2.2 hU hWm hW⟩ rfl rfl hl.1 rfl (lv_room hroom) dX4_price_1 hcs

set_option maxHeartbeats 4000000 in
set_option maxRecDepth 100000 in
theorem w_X4_price_e {l : Launch} {Z : zzG} {base : Nat} {PL : Nat → Option (Nat × Int32)} {mm : zzS} {p : Program} {e : Env} {s : State} {m : MethodId} {args : Array Value} {below : List Frame} {meth : Method} {c : Code} (C : zzCx p m meth c s args cX4_price 1 wsX4_price RX4 (some .int) Z) (kf : (Nat × Int32)) (q0 : Nat) (hq : PL q0 = some kf) (hkk : kf.1 = 4) (σ : zzS) : zzGO p l e rX4_price s m args below meth c 1 (zzA base) (zzX Z base PL mm) (zzX Z base PL mm) zzRI rX4_price.cells rX4_price.slots (f_X4_price kf σ) σ 0 0 0 [(0, .ref q0)] [] := by
  unfold f_X4_price
  refine zz_aload_n C dX4_price_0 rfl 0 rfl ?_
  refine zz_call (av := #[.ref q0]) (rest := []) (mcc := 0) (msc := 0) (relc := zzRI) (vs_X4_price_1 C hq hkk (Nat.le_of_ble_eq_true rfl)) (zz_kI rfl rfl (fun r1 σ2 => ?_))
  refine zz_bipush (v := 8) C dX4_price_4 (by decide) ?_
  refine zz_iadd C dX4_price_6 ?_
  exact zz_iret C rfl rfl (fun _ h9 => h9) (Nat.zero_le _) (Nat.zero_le _) dX4_price_7
set_option maxHeartbeats 4000000 in
set_option maxRecDepth 100000 in
theorem k_X4_price {l : Launch} {Z : zzG} {base : Nat} {PL : Nat → Option (Nat × Int32)} {mm : zzS} (kf : (Nat × Int32)) (q0 : Nat) (hq : PL q0 = some kf) (hkk : kf.1 = 4) (σ : zzS) : zzCT l yX4_price wsX4_price rX4_price (zzA base) Z (zzX Z base PL mm) (zzX Z base PL mm) zzRI [.ref q0] (f_X4_price kf σ) σ :=
  zzCT_of (cc := cX4_price) (nL := 1) (ret := (some .int)) (by decide) rfl (Nat.le_of_ble_eq_true rfl) [(0, .ref q0)] rfl (fun p e s m args below meth c C => w_X4_price_e C kf q0 hq hkk σ)
abbrev rX5_number : Room := { frames := 0, cells := 0, slots := 0, locals := 0 }

set_option maxHeartbeats 4000000 in
set_option maxRecDepth 100000 in
theorem w_X5_number_e {l : Launch} {Z : zzG} {base : Nat} {PL : Nat → Option (Nat × Int32)} {mm : zzS} {p : Program} {e : Env} {s : State} {m : MethodId} {args : Array Value} {below : List Frame} {meth : Method} {c : Code} (C : zzCx p m meth c s args cX5_number 1 wsX5_number RX5 (some .int) Z) (kf : (Nat × Int32)) (q0 : Nat) (hq : PL q0 = some kf) (hkk : kf.1 = 5) (σ : zzS) : zzGO p l e rX5_number s m args below meth c 1 (zzA base) (zzX Z base PL mm) (zzX Z base PL mm) zzRI rX5_number.cells rX5_number.slots (f_X5_number kf σ) σ 0 0 0 [(0, .ref q0)] [] := by
  unfold f_X5_number
  refine zz_iconst (v := 5) C dX5_number_0 (by decide) ?_
  exact zz_iret C rfl rfl (fun _ h9 => h9) (Nat.zero_le _) (Nat.zero_le _) dX5_number_1
set_option maxHeartbeats 4000000 in
set_option maxRecDepth 100000 in
theorem k_X5_number {l : Launch} {Z : zzG} {base : Nat} {PL : Nat → Option (Nat × Int32)} {mm : zzS} (kf : (Nat × Int32)) (q0 : Nat) (hq : PL q0 = some kf) (hkk : kf.1 = 5) (σ : zzS) : zzCT l yX5_number wsX5_number rX5_number (zzA base) Z (zzX Z base PL mm) (zzX Z base PL mm) zzRI [.ref q0] (f_X5_number kf σ) σ :=
  zzCT_of (cc := cX5_number) (nL := 1) (ret := (some .int)) (by decide) rfl (Nat.le_of_ble_eq_true rfl) [(0, .ref q0)] rfl (fun p e s m args below meth c C => w_X5_number_e C kf q0 hq hkk σ)
abbrev rX9_grows : Room := { frames := 1, cells := 0, slots := 0, locals := 20 }
set_option maxHeartbeats 4000000 in
set_option maxRecDepth 100000 in
theorem vs_X9_grows_1 {l : Launch} {Z : zzG} {base : Nat} {PL : Nat → Option (Nat × Int32)} {mm : zzS} {p : Program} {e : Env} {s : State} {m : MethodId} {args : Array Value} {below : List Frame} {meth : Method} {c : Code} {cells slots : Nat} {σ : zzS} {loc : List (Nat × Value)} {rest : List Value} (C : zzCx p m meth c s args cX9_grows 1 wsX9_grows RX9 (some .int) Z) {q : Nat} {kf : Nat × Int32} (hq : PL q = some kf) (hkk : kf.1 = 1 ∨ kf.1 = 3 ∨ kf.1 = 5 ∨ kf.1 = 7) (hroom : (rest.map fun v => v.category).sum ≤ 8) (hcs : cells + 0 ≤ (rX9_grows).cells ∧ slots + 0 ≤ (rX9_grows).slots := by exact ⟨Nat.zero_le _, Nat.zero_le _⟩) :
    ∀ r1 σ2, f_X6_grows kf σ = some (r1, σ2) → ∀ (H : Heap) (locs : List Loc) (ls : Array Slot), zzX Z base PL mm σ H → lv_has ls 1 loc → va_Run p l e rX9_grows s m args below meth c H locs cells slots 0 0 (F0 m 1 ls (.ref q :: rest)) rest (zzQ zzRI (zzX Z base PL mm) (zzA base) r1 σ2 #[.ref q]) (zzA base) := by
  intro r1 σ2 hr H locs ls hW hl
  obtain ⟨k9, f9⟩ := kf
  rcases hkk with hkk | hkk | hkk | hkk
  · have hkk : k9 = 1 := hkk
    subst hkk
    have ct := k_X6_grows (l := l) (Z := Z) (base := base) (PL := PL) (mm := mm) (1, f9) q hq σ r1 σ2 hr
    exact va_runSU (As := []) (C := RX9) (C.2.2.2.1.1 9 _ rfl).2 C.1 ct (va_cwSU 0 C.1.2.2.2.2 gX9_grows_X6_grows_s7 rfl rfl rfl (by decide +kernel) ⟨Nat.le_of_ble_eq_true rfl, Nat.le_of_ble_eq_true rfl⟩) ⟨zzPc_blind, zz_recv C.2.2.2 (zzX_pers1 hq H hW) rfl, fun U hU hWm => zzPc_at C.2.2.2 hU hWm hW⟩ rfl rfl hl.1 rfl (lv_room hroom) dX9_grows_1 hcs
  · have hkk : k9 = 3 := hkk
    subst hkk
    have ct := k_X6_grows (l := l) (Z := Z) (base := base) (PL := PL) (mm := mm) (3, f9) q hq σ r1 σ2 hr
    exact va_runSU (As := []) (C := RX1) (C.2.2.2.1.1 1 _ rfl).2 C.1 ct (va_cwSU 0 C.1.2.2.2.2 gX9_grows_X6_grows_s7 rfl rfl rfl (by decide +kernel) ⟨Nat.le_of_ble_eq_true rfl, Nat.le_of_ble_eq_true rfl⟩) ⟨zzPc_blind, zz_recv C.2.2.2 (zzX_pers1 hq H hW) rfl, fun U hU hWm => zzPc_at C.2.2.2 hU hWm hW⟩ rfl rfl hl.1 rfl (lv_room hroom) dX9_grows_1 hcs
  · have hkk : k9 = 5 := hkk
    subst hkk
    have ct := k_X6_grows (l := l) (Z := Z) (base := base) (PL := PL) (mm := mm) (5, f9) q hq σ r1 σ2 hr
    exact va_runSU (As := []) (C := RX5) (C.2.2.2.1.1 5 _ rfl).2 C.1 ct (va_cwSU 0 C.1.2.2.2.2 gX9_grows_X6_grows_s7 rfl rfl rfl (by decide +kernel) ⟨Nat.le_of_ble_eq_true rfl, Nat.le_of_ble_eq_true rfl⟩) ⟨zzPc_blind, zz_recv C.2.2.2 (zzX_pers1 hq H hW) rfl, fun U hU hWm => zzPc_at C.2.2.2 hU hWm hW⟩ rfl rfl hl.1 rfl (lv_room hroom) dX9_grows_1 hcs
  · have hkk : k9 = 7 := hkk
    subst hkk
    have ct := k_X6_grows (l := l) (Z := Z) (base := base) (PL := PL) (mm := mm) (7, f9) q hq σ r1 σ2 hr
    exact va_runSU (As := []) (C := RX8) (C.2.2.2.1.1 8 _ rfl).2 C.1 ct (va_cwSU 0 C.1.2.2.2.2 gX9_grows_X6_grows_s7 rfl rfl rfl (by decide +kernel) ⟨Nat.le_of_ble_eq_true rfl, Nat.le_of_ble_eq_true rfl⟩) ⟨zzPc_blind, zz_recv C.2.2.2 (zzX_pers1 hq H hW) rfl, fun U hU hWm => zzPc_at C.2.2.2 hU hWm hW⟩ rfl rfl hl.1 rfl (lv_room hroom) dX9_grows_1 hcs

set_option maxHeartbeats 4000000 in
set_option maxRecDepth 100000 in
theorem w_X9_grows_e {l : Launch} {Z : zzG} {base : Nat} {PL : Nat → Option (Nat × Int32)} {mm : zzS} {p : Program} {e : Env} {s : State} {m : MethodId} {args : Array Value} {below : List Frame} {meth : Method} {c : Code} (C : zzCx p m meth c s args cX9_grows 1 wsX9_grows RX9 (some .int) Z) (kf : (Nat × Int32)) (q0 : Nat) (hq : PL q0 = some kf) (hkk : kf.1 = 1 ∨ kf.1 = 3 ∨ kf.1 = 5 ∨ kf.1 = 7) (σ : zzS) : zzGO p l e rX9_grows s m args below meth c 1 (zzA base) (zzX Z base PL mm) (zzX Z base PL mm) zzRI rX9_grows.cells rX9_grows.slots (f_X9_grows kf σ) σ 0 0 0 [(0, .ref q0)] [] := by
  unfold f_X9_grows
  refine zz_aload_n C dX9_grows_0 rfl 0 rfl ?_
  refine zz_call (av := #[.ref q0]) (rest := []) (mcc := 0) (msc := 0) (relc := zzRI) (vs_X9_grows_1 C hq hkk (Nat.le_of_ble_eq_true rfl)) (zz_kI rfl rfl (fun r1 σ2 => ?_))
  refine zz_iconst (v := 1) C dX9_grows_4 (by decide) ?_
  refine zz_isub C dX9_grows_5 ?_
  exact zz_iret C rfl rfl (fun _ h9 => h9) (Nat.zero_le _) (Nat.zero_le _) dX9_grows_6
set_option maxHeartbeats 4000000 in
set_option maxRecDepth 100000 in
theorem k_X9_grows {l : Launch} {Z : zzG} {base : Nat} {PL : Nat → Option (Nat × Int32)} {mm : zzS} (kf : (Nat × Int32)) (q0 : Nat) (hq : PL q0 = some kf) (hkk : kf.1 = 1 ∨ kf.1 = 3 ∨ kf.1 = 5 ∨ kf.1 = 7) (σ : zzS) : zzCT l yX9_grows wsX9_grows rX9_grows (zzA base) Z (zzX Z base PL mm) (zzX Z base PL mm) zzRI [.ref q0] (f_X9_grows kf σ) σ :=
  zzCT_of (cc := cX9_grows) (nL := 1) (ret := (some .int)) (by decide) rfl (Nat.le_of_ble_eq_true rfl) [(0, .ref q0)] rfl (fun p e s m args below meth c C => w_X9_grows_e C kf q0 hq hkk σ)
abbrev rX5_grows : Room := { frames := 2, cells := 0, slots := 0, locals := 40 }
set_option maxHeartbeats 4000000 in
set_option maxRecDepth 100000 in
theorem fig_X5_grows_5 {l : Launch} {Z : zzG} {base : Nat} {PL : Nat → Option (Nat × Int32)} {mm : zzS} {p : Program} {e : Env} {R : Room} {s : State} {m : MethodId} {args : Array Value} {below : List Frame} {meth : Method} {c : Code} {α : Type} {rel : α → Option Value → Prop} {Wf : zzS → Heap → Prop} {mc ms cells slots : Nat} {f : Option (α × zzS)} {σ : zzS} {loc : List (Nat × Value)} {st : List Value} (C : zzCx p m meth c s args cX5_grows 1 wsX5_grows RX5 (some .int) Z) {q : Nat} {kf : Nat × Int32} (hq : PL q = some kf) (hkk : kf.1 = 5)
    (kk : zzGO p l e R s m args below meth c 1 (zzA base) (zzX Z base PL mm) Wf rel mc ms f σ cells slots (5 + 3) loc (.int kf.2 :: st)) : zzGO p l e R s m args below meth c 1 (zzA base) (zzX Z base PL mm) Wf rel mc ms f σ cells slots 5 loc (.ref q :: st) := by
  obtain ⟨k9, f9⟩ := kf
  have hkk : k9 = 5 := hkk
  subst hkk
  exact zz_get C (Cn := RX5) (T := TX5) (N := 1) (zzX_pers1 hq) (fun _ h9 => List.mem_cons_of_mem _ (List.mem_append_left _ (List.mem_append_left _ (List.mem_append_left _ (List.mem_append_right _ (h9)))))) rfl 0 (by decide) (List.mem_of_getElem? (i := 1) rfl) (Or.inr (List.mem_of_getElem? (i := 2) rfl)) rfl dX5_grows_5 kk

set_option maxHeartbeats 4000000 in
set_option maxRecDepth 100000 in
theorem vs_X5_grows_1 {l : Launch} {Z : zzG} {base : Nat} {PL : Nat → Option (Nat × Int32)} {mm : zzS} {p : Program} {e : Env} {s : State} {m : MethodId} {args : Array Value} {below : List Frame} {meth : Method} {c : Code} {cells slots : Nat} {σ : zzS} {loc : List (Nat × Value)} {rest : List Value} (C : zzCx p m meth c s args cX5_grows 1 wsX5_grows RX5 (some .int) Z) {q : Nat} {kf : Nat × Int32} (hq : PL q = some kf) (hkk : kf.1 = 5) (hroom : (rest.map fun v => v.category).sum ≤ 8) (hcs : cells + 0 ≤ (rX5_grows).cells ∧ slots + 0 ≤ (rX5_grows).slots := by exact ⟨Nat.zero_le _, Nat.zero_le _⟩) :
    ∀ r1 σ2, f_X9_grows kf σ = some (r1, σ2) → ∀ (H : Heap) (locs : List Loc) (ls : Array Slot), zzX Z base PL mm σ H → lv_has ls 1 loc → va_Run p l e rX5_grows s m args below meth c H locs cells slots 0 0 (F0 m 1 ls (.ref q :: rest)) rest (zzQ zzRI (zzX Z base PL mm) (zzA base) r1 σ2 #[.ref q]) (zzA base) := by
  intro r1 σ2 hr H locs ls hW hl
  obtain ⟨k9, f9⟩ := kf
  have hkk : k9 = 5 := hkk
  subst hkk
  have ct := k_X9_grows (l := l) (Z := Z) (base := base) (PL := PL) (mm := mm) (5, f9) q hq (Or.inr (Or.inr (Or.inl rfl))) σ r1 σ2 hr
  exact va_runSU (As := []) (C := RX5) (C.2.2.2.1.1 5 _ rfl).2 C.1 ct (va_cwSU 0 C.1.2.2.2.2 gX5_grows_X9_grows_s7 rfl rfl rfl (by decide +kernel) ⟨Nat.le_of_ble_eq_true rfl, Nat.le_of_ble_eq_true rfl⟩) ⟨zzPc_blind, zz_recv C.2.2.2 (zzX_pers1 hq H hW) rfl, fun U hU hWm => zzPc_at C.2.2.2 hU hWm hW⟩ rfl rfl hl.1 rfl (lv_room hroom) dX5_grows_1 hcs

set_option maxHeartbeats 4000000 in
set_option maxRecDepth 100000 in
theorem w_X5_grows_e {l : Launch} {Z : zzG} {base : Nat} {PL : Nat → Option (Nat × Int32)} {mm : zzS} {p : Program} {e : Env} {s : State} {m : MethodId} {args : Array Value} {below : List Frame} {meth : Method} {c : Code} (C : zzCx p m meth c s args cX5_grows 1 wsX5_grows RX5 (some .int) Z) (kf : (Nat × Int32)) (q0 : Nat) (hq : PL q0 = some kf) (hkk : kf.1 = 5) (σ : zzS) : zzGO p l e rX5_grows s m args below meth c 1 (zzA base) (zzX Z base PL mm) (zzX Z base PL mm) zzRI rX5_grows.cells rX5_grows.slots (f_X5_grows kf σ) σ 0 0 0 [(0, .ref q0)] [] := by
  unfold f_X5_grows
  refine zz_aload_n C dX5_grows_0 rfl 0 rfl ?_
  refine zz_call (av := #[.ref q0]) (rest := []) (mcc := 0) (msc := 0) (relc := zzRI) (vs_X5_grows_1 C hq hkk (Nat.le_of_ble_eq_true rfl)) (zz_kI rfl rfl (fun r1 σ2 => ?_))
  refine zz_aload_n C dX5_grows_4 rfl 0 rfl ?_
  refine fig_X5_grows_5 C hq hkk ?_
  refine zz_iconst (v := 4) C dX5_grows_8 (by decide) ?_
  refine zz_idiv C dX5_grows_9 (by decide) ?_
  refine zz_iadd C dX5_grows_10 ?_
  exact zz_iret C rfl rfl (fun _ h9 => h9) (Nat.zero_le _) (Nat.zero_le _) dX5_grows_11
set_option maxHeartbeats 4000000 in
set_option maxRecDepth 100000 in
theorem k_X5_grows {l : Launch} {Z : zzG} {base : Nat} {PL : Nat → Option (Nat × Int32)} {mm : zzS} (kf : (Nat × Int32)) (q0 : Nat) (hq : PL q0 = some kf) (hkk : kf.1 = 5) (σ : zzS) : zzCT l yX5_grows wsX5_grows rX5_grows (zzA base) Z (zzX Z base PL mm) (zzX Z base PL mm) zzRI [.ref q0] (f_X5_grows kf σ) σ :=
  zzCT_of (cc := cX5_grows) (nL := 1) (ret := (some .int)) (by decide) rfl (Nat.le_of_ble_eq_true rfl) [(0, .ref q0)] rfl (fun p e s m args below meth c C => w_X5_grows_e C kf q0 hq hkk σ)
abbrev rX5_turns : Room := { frames := 0, cells := 0, slots := 0, locals := 0 }

set_option maxHeartbeats 4000000 in
set_option maxRecDepth 100000 in
theorem w_X5_turns_e {l : Launch} {Z : zzG} {base : Nat} {PL : Nat → Option (Nat × Int32)} {mm : zzS} {p : Program} {e : Env} {s : State} {m : MethodId} {args : Array Value} {below : List Frame} {meth : Method} {c : Code} (C : zzCx p m meth c s args cX5_turns 1 wsX5_turns RX5 (some .int) Z) (kf : (Nat × Int32)) (q0 : Nat) (hq : PL q0 = some kf) (hkk : kf.1 = 5) (σ : zzS) : zzGO p l e rX5_turns s m args below meth c 1 (zzA base) (zzX Z base PL mm) (zzX Z base PL mm) zzRI rX5_turns.cells rX5_turns.slots (f_X5_turns kf σ) σ 0 0 0 [(0, .ref q0)] [] := by
  unfold f_X5_turns
  refine zz_iconst (v := 1) C dX5_turns_0 (by decide) ?_
  exact zz_iret C rfl rfl (fun _ h9 => h9) (Nat.zero_le _) (Nat.zero_le _) dX5_turns_1
set_option maxHeartbeats 4000000 in
set_option maxRecDepth 100000 in
theorem k_X5_turns {l : Launch} {Z : zzG} {base : Nat} {PL : Nat → Option (Nat × Int32)} {mm : zzS} (kf : (Nat × Int32)) (q0 : Nat) (hq : PL q0 = some kf) (hkk : kf.1 = 5) (σ : zzS) : zzCT l yX5_turns wsX5_turns rX5_turns (zzA base) Z (zzX Z base PL mm) (zzX Z base PL mm) zzRI [.ref q0] (f_X5_turns kf σ) σ :=
  zzCT_of (cc := cX5_turns) (nL := 1) (ret := (some .int)) (by decide) rfl (Nat.le_of_ble_eq_true rfl) [(0, .ref q0)] rfl (fun p e s m args below meth c C => w_X5_turns_e C kf q0 hq hkk σ)
abbrev rX5_price : Room := { frames := 2, cells := 0, slots := 0, locals := 40 }
set_option maxHeartbeats 4000000 in
set_option maxRecDepth 100000 in
theorem fig_X5_price_5 {l : Launch} {Z : zzG} {base : Nat} {PL : Nat → Option (Nat × Int32)} {mm : zzS} {p : Program} {e : Env} {R : Room} {s : State} {m : MethodId} {args : Array Value} {below : List Frame} {meth : Method} {c : Code} {α : Type} {rel : α → Option Value → Prop} {Wf : zzS → Heap → Prop} {mc ms cells slots : Nat} {f : Option (α × zzS)} {σ : zzS} {loc : List (Nat × Value)} {st : List Value} (C : zzCx p m meth c s args cX5_price 1 wsX5_price RX5 (some .int) Z) {q : Nat} {kf : Nat × Int32} (hq : PL q = some kf) (hkk : kf.1 = 5)
    (kk : zzGO p l e R s m args below meth c 1 (zzA base) (zzX Z base PL mm) Wf rel mc ms f σ cells slots (5 + 3) loc (.int kf.2 :: st)) : zzGO p l e R s m args below meth c 1 (zzA base) (zzX Z base PL mm) Wf rel mc ms f σ cells slots 5 loc (.ref q :: st) := by
  obtain ⟨k9, f9⟩ := kf
  have hkk : k9 = 5 := hkk
  subst hkk
  exact zz_get C (Cn := RX5) (T := TX5) (N := 1) (zzX_pers1 hq) (fun _ h9 => List.mem_cons_of_mem _ (List.mem_append_left _ (List.mem_append_left _ (List.mem_append_left _ (List.mem_append_right _ (h9)))))) rfl 0 (by decide) (List.mem_of_getElem? (i := 1) rfl) (Or.inr (List.mem_of_getElem? (i := 2) rfl)) rfl dX5_price_5 kk

set_option maxHeartbeats 4000000 in
set_option maxRecDepth 100000 in
theorem vs_X5_price_1 {l : Launch} {Z : zzG} {base : Nat} {PL : Nat → Option (Nat × Int32)} {mm : zzS} {p : Program} {e : Env} {s : State} {m : MethodId} {args : Array Value} {below : List Frame} {meth : Method} {c : Code} {cells slots : Nat} {σ : zzS} {loc : List (Nat × Value)} {rest : List Value} (C : zzCx p m meth c s args cX5_price 1 wsX5_price RX5 (some .int) Z) {q : Nat} {kf : Nat × Int32} (hq : PL q = some kf) (hkk : kf.1 = 5) (hroom : (rest.map fun v => v.category).sum ≤ 8) (hcs : cells + 0 ≤ (rX5_price).cells ∧ slots + 0 ≤ (rX5_price).slots := by exact ⟨Nat.zero_le _, Nat.zero_le _⟩) :
    ∀ r1 σ2, f_X9_price kf σ = some (r1, σ2) → ∀ (H : Heap) (locs : List Loc) (ls : Array Slot), zzX Z base PL mm σ H → lv_has ls 1 loc → va_Run p l e rX5_price s m args below meth c H locs cells slots 0 0 (F0 m 1 ls (.ref q :: rest)) rest (zzQ zzRI (zzX Z base PL mm) (zzA base) r1 σ2 #[.ref q]) (zzA base) := by
  intro r1 σ2 hr H locs ls hW hl
  obtain ⟨k9, f9⟩ := kf
  have hkk : k9 = 5 := hkk
  subst hkk
  have ct := k_X9_price (l := l) (Z := Z) (base := base) (PL := PL) (mm := mm) (5, f9) q hq (Or.inr (Or.inr (Or.inl rfl))) σ r1 σ2 hr
  exact va_runSU (As := []) (C := RX5) (C.2.2.2.1.1 5 _ rfl).2 C.1 ct (va_cwSU 0 C.1.2.2.2.2 gX5_price_X9_price_s20 rfl rfl rfl (by decide +kernel) ⟨Nat.le_of_ble_eq_true rfl, Nat.le_of_ble_eq_true rfl⟩) ⟨zzPc_blind, zz_recv C.2.2.2 (zzX_pers1 hq H hW) rfl, fun U hU hWm => zzPc_at C.2.2.2 hU hWm hW⟩ rfl rfl hl.1 rfl (lv_room hroom) dX5_price_1 hcs

set_option maxHeartbeats 4000000 in
set_option maxRecDepth 100000 in
theorem w_X5_price_e {l : Launch} {Z : zzG} {base : Nat} {PL : Nat → Option (Nat × Int32)} {mm : zzS} {p : Program} {e : Env} {s : State} {m : MethodId} {args : Array Value} {below : List Frame} {meth : Method} {c : Code} (C : zzCx p m meth c s args cX5_price 1 wsX5_price RX5 (some .int) Z) (kf : (Nat × Int32)) (q0 : Nat) (hq : PL q0 = some kf) (hkk : kf.1 = 5) (σ : zzS) : zzGO p l e rX5_price s m args below meth c 1 (zzA base) (zzX Z base PL mm) (zzX Z base PL mm) zzRI rX5_price.cells rX5_price.slots (f_X5_price kf σ) σ 0 0 0 [(0, .ref q0)] [] := by
  unfold f_X5_price
  refine zz_aload_n C dX5_price_0 rfl 0 rfl ?_
  refine zz_call (av := #[.ref q0]) (rest := []) (mcc := 0) (msc := 0) (relc := zzRI) (vs_X5_price_1 C hq hkk (Nat.le_of_ble_eq_true rfl)) (zz_kI rfl rfl (fun r1 σ2 => ?_))
  refine zz_aload_n C dX5_price_4 rfl 0 rfl ?_
  refine fig_X5_price_5 C hq hkk ?_
  refine zz_iadd C dX5_price_8 ?_
  exact zz_iret C rfl rfl (fun _ h9 => h9) (Nat.zero_le _) (Nat.zero_le _) dX5_price_9
set_option maxHeartbeats 4000000 in
set_option maxRecDepth 100000 in
theorem k_X5_price {l : Launch} {Z : zzG} {base : Nat} {PL : Nat → Option (Nat × Int32)} {mm : zzS} (kf : (Nat × Int32)) (q0 : Nat) (hq : PL q0 = some kf) (hkk : kf.1 = 5) (σ : zzS) : zzCT l yX5_price wsX5_price rX5_price (zzA base) Z (zzX Z base PL mm) (zzX Z base PL mm) zzRI [.ref q0] (f_X5_price kf σ) σ :=
  zzCT_of (cc := cX5_price) (nL := 1) (ret := (some .int)) (by decide) rfl (Nat.le_of_ble_eq_true rfl) [(0, .ref q0)] rfl (fun p e s m args below meth c C => w_X5_price_e C kf q0 hq hkk σ)
abbrev rX6_number : Room := { frames := 0, cells := 0, slots := 0, locals := 0 }

set_option maxHeartbeats 4000000 in
set_option maxRecDepth 100000 in
theorem w_X6_number_e {l : Launch} {Z : zzG} {base : Nat} {PL : Nat → Option (Nat × Int32)} {mm : zzS} {p : Program} {e : Env} {s : State} {m : MethodId} {args : Array Value} {below : List Frame} {meth : Method} {c : Code} (C : zzCx p m meth c s args cX6_number 1 wsX6_number RX6 (some .int) Z) (kf : (Nat × Int32)) (q0 : Nat) (hq : PL q0 = some kf) (σ : zzS) : zzGO p l e rX6_number s m args below meth c 1 (zzA base) (zzX Z base PL mm) (zzX Z base PL mm) zzRI rX6_number.cells rX6_number.slots (f_X6_number kf σ) σ 0 0 0 [(0, .ref q0)] [] := by
  unfold f_X6_number
  refine zz_iconst (v := 0) C dX6_number_0 (by decide) ?_
  exact zz_iret C rfl rfl (fun _ h9 => h9) (Nat.zero_le _) (Nat.zero_le _) dX6_number_1
set_option maxHeartbeats 4000000 in
set_option maxRecDepth 100000 in
theorem k_X6_number {l : Launch} {Z : zzG} {base : Nat} {PL : Nat → Option (Nat × Int32)} {mm : zzS} (kf : (Nat × Int32)) (q0 : Nat) (hq : PL q0 = some kf) (σ : zzS) : zzCT l yX6_number wsX6_number rX6_number (zzA base) Z (zzX Z base PL mm) (zzX Z base PL mm) zzRI [.ref q0] (f_X6_number kf σ) σ :=
  zzCT_of (cc := cX6_number) (nL := 1) (ret := (some .int)) (by decide) rfl (Nat.le_of_ble_eq_true rfl) [(0, .ref q0)] rfl (fun p e s m args below meth c C => w_X6_number_e C kf q0 hq σ)
abbrev rX6_shows : Room := { frames := 0, cells := 0, slots := 0, locals := 0 }

set_option maxHeartbeats 4000000 in
set_option maxRecDepth 100000 in
theorem w_X6_shows_e {l : Launch} {Z : zzG} {base : Nat} {PL : Nat → Option (Nat × Int32)} {mm : zzS} {p : Program} {e : Env} {s : State} {m : MethodId} {args : Array Value} {below : List Frame} {meth : Method} {c : Code} (C : zzCx p m meth c s args cX6_shows 2 wsX6_shows RX6 (some .int) Z) (kf : (Nat × Int32)) (q0 : Nat) (hq : PL q0 = some kf) (p0 : Int32)  (σ : zzS) : zzGO p l e rX6_shows s m args below meth c 2 (zzA base) (zzX Z base PL mm) (zzX Z base PL mm) zzRI rX6_shows.cells rX6_shows.slots (f_X6_shows kf p0 σ) σ 0 0 0 [(0, .ref q0), (1, .int p0)] [] := by
  unfold f_X6_shows
  refine zz_iconst (v := 0) C dX6_shows_0 (by decide) ?_
  exact zz_iret C rfl rfl (fun _ h9 => h9) (Nat.zero_le _) (Nat.zero_le _) dX6_shows_1
set_option maxHeartbeats 4000000 in
set_option maxRecDepth 100000 in
theorem k_X6_shows {l : Launch} {Z : zzG} {base : Nat} {PL : Nat → Option (Nat × Int32)} {mm : zzS} (kf : (Nat × Int32)) (q0 : Nat) (hq : PL q0 = some kf) (p0 : Int32)  (σ : zzS) : zzCT l yX6_shows wsX6_shows rX6_shows (zzA base) Z (zzX Z base PL mm) (zzX Z base PL mm) zzRI [.ref q0, .int p0] (f_X6_shows kf p0 σ) σ :=
  zzCT_of (cc := cX6_shows) (nL := 2) (ret := (some .int)) (by decide) rfl (Nat.le_of_ble_eq_true rfl) [(0, .ref q0), (1, .int p0)] rfl (fun p e s m args below meth c C => w_X6_shows_e C kf q0 hq p0 σ)
abbrev rX8_number : Room := { frames := 0, cells := 0, slots := 0, locals := 0 }

set_option maxHeartbeats 4000000 in
set_option maxRecDepth 100000 in
theorem w_X8_number_e {l : Launch} {Z : zzG} {base : Nat} {PL : Nat → Option (Nat × Int32)} {mm : zzS} {p : Program} {e : Env} {s : State} {m : MethodId} {args : Array Value} {below : List Frame} {meth : Method} {c : Code} (C : zzCx p m meth c s args cX8_number 1 wsX8_number RX8 (some .int) Z) (kf : (Nat × Int32)) (q0 : Nat) (hq : PL q0 = some kf) (hkk : kf.1 = 7) (σ : zzS) : zzGO p l e rX8_number s m args below meth c 1 (zzA base) (zzX Z base PL mm) (zzX Z base PL mm) zzRI rX8_number.cells rX8_number.slots (f_X8_number kf σ) σ 0 0 0 [(0, .ref q0)] [] := by
  unfold f_X8_number
  refine zz_bipush (v := 7) C dX8_number_0 (by decide) ?_
  exact zz_iret C rfl rfl (fun _ h9 => h9) (Nat.zero_le _) (Nat.zero_le _) dX8_number_2
set_option maxHeartbeats 4000000 in
set_option maxRecDepth 100000 in
theorem k_X8_number {l : Launch} {Z : zzG} {base : Nat} {PL : Nat → Option (Nat × Int32)} {mm : zzS} (kf : (Nat × Int32)) (q0 : Nat) (hq : PL q0 = some kf) (hkk : kf.1 = 7) (σ : zzS) : zzCT l yX8_number wsX8_number rX8_number (zzA base) Z (zzX Z base PL mm) (zzX Z base PL mm) zzRI [.ref q0] (f_X8_number kf σ) σ :=
  zzCT_of (cc := cX8_number) (nL := 1) (ret := (some .int)) (by decide) rfl (Nat.le_of_ble_eq_true rfl) [(0, .ref q0)] rfl (fun p e s m args below meth c C => w_X8_number_e C kf q0 hq hkk σ)
abbrev rX8_grows : Room := { frames := 2, cells := 0, slots := 0, locals := 40 }
set_option maxHeartbeats 4000000 in
set_option maxRecDepth 100000 in
theorem vs_X8_grows_2 {l : Launch} {Z : zzG} {base : Nat} {PL : Nat → Option (Nat × Int32)} {mm : zzS} {p : Program} {e : Env} {s : State} {m : MethodId} {args : Array Value} {below : List Frame} {meth : Method} {c : Code} {cells slots : Nat} {σ : zzS} {loc : List (Nat × Value)} {rest : List Value} (C : zzCx p m meth c s args cX8_grows 1 wsX8_grows RX8 (some .int) Z) {q : Nat} {kf : Nat × Int32} (hq : PL q = some kf) (hkk : kf.1 = 7) (hroom : (rest.map fun v => v.category).sum ≤ 8) (hcs : cells + 0 ≤ (rX8_grows).cells ∧ slots + 0 ≤ (rX8_grows).slots := by exact ⟨Nat.zero_le _, Nat.zero_le _⟩) :
    ∀ r1 σ2, f_X9_grows kf σ = some (r1, σ2) → ∀ (H : Heap) (locs : List Loc) (ls : Array Slot), zzX Z base PL mm σ H → lv_has ls 1 loc → va_Run p l e rX8_grows s m args below meth c H locs cells slots 0 0 (F0 m 2 ls (.ref q :: rest)) rest (zzQ zzRI (zzX Z base PL mm) (zzA base) r1 σ2 #[.ref q]) (zzA base) := by
  intro r1 σ2 hr H locs ls hW hl
  obtain ⟨k9, f9⟩ := kf
  have hkk : k9 = 7 := hkk
  subst hkk
  have ct := k_X9_grows (l := l) (Z := Z) (base := base) (PL := PL) (mm := mm) (7, f9) q hq (Or.inr (Or.inr (Or.inr rfl))) σ r1 σ2 hr
  exact va_runSU (As := []) (C := RX8) (C.2.2.2.1.1 8 _ rfl).2 C.1 ct (va_cwSU 0 C.1.2.2.2.2 gX8_grows_X9_grows_s7 rfl rfl rfl (by decide +kernel) ⟨Nat.le_of_ble_eq_true rfl, Nat.le_of_ble_eq_true rfl⟩) ⟨zzPc_blind, zz_recv C.2.2.2 (zzX_pers1 hq H hW) rfl, fun U hU hWm => zzPc_at C.2.2.2 hU hWm hW⟩ rfl rfl hl.1 rfl (lv_room hroom) dX8_grows_2 hcs

set_option maxHeartbeats 4000000 in
set_option maxRecDepth 100000 in
theorem w_X8_grows_e {l : Launch} {Z : zzG} {base : Nat} {PL : Nat → Option (Nat × Int32)} {mm : zzS} {p : Program} {e : Env} {s : State} {m : MethodId} {args : Array Value} {below : List Frame} {meth : Method} {c : Code} (C : zzCx p m meth c s args cX8_grows 1 wsX8_grows RX8 (some .int) Z) (kf : (Nat × Int32)) (q0 : Nat) (hq : PL q0 = some kf) (hkk : kf.1 = 7) (σ : zzS) : zzGO p l e rX8_grows s m args below meth c 1 (zzA base) (zzX Z base PL mm) (zzX Z base PL mm) zzRI rX8_grows.cells rX8_grows.slots (f_X8_grows kf σ) σ 0 0 0 [(0, .ref q0)] [] := by
  unfold f_X8_grows
  refine zz_iconst (v := 3) C dX8_grows_0 (by decide) ?_
  refine zz_aload_n C dX8_grows_1 rfl 0 rfl ?_
  refine zz_call (av := #[.ref q0]) (rest := [.int (3 : Int32)]) (mcc := 0) (msc := 0) (relc := zzRI) (vs_X8_grows_2 C hq hkk (Nat.le_of_ble_eq_true rfl)) (zz_kI rfl rfl (fun r1 σ2 => ?_))
  refine zz_imul C dX8_grows_5 ?_
  exact zz_iret C rfl rfl (fun _ h9 => h9) (Nat.zero_le _) (Nat.zero_le _) dX8_grows_6
set_option maxHeartbeats 4000000 in
set_option maxRecDepth 100000 in
theorem k_X8_grows {l : Launch} {Z : zzG} {base : Nat} {PL : Nat → Option (Nat × Int32)} {mm : zzS} (kf : (Nat × Int32)) (q0 : Nat) (hq : PL q0 = some kf) (hkk : kf.1 = 7) (σ : zzS) : zzCT l yX8_grows wsX8_grows rX8_grows (zzA base) Z (zzX Z base PL mm) (zzX Z base PL mm) zzRI [.ref q0] (f_X8_grows kf σ) σ :=
  zzCT_of (cc := cX8_grows) (nL := 1) (ret := (some .int)) (by decide) rfl (Nat.le_of_ble_eq_true rfl) [(0, .ref q0)] rfl (fun p e s m args below meth c C => w_X8_grows_e C kf q0 hq hkk σ)
abbrev rX8_turns : Room := { frames := 0, cells := 0, slots := 0, locals := 0 }

set_option maxHeartbeats 4000000 in
set_option maxRecDepth 100000 in
theorem w_X8_turns_e {l : Launch} {Z : zzG} {base : Nat} {PL : Nat → Option (Nat × Int32)} {mm : zzS} {p : Program} {e : Env} {s : State} {m : MethodId} {args : Array Value} {below : List Frame} {meth : Method} {c : Code} (C : zzCx p m meth c s args cX8_turns 1 wsX8_turns RX8 (some .int) Z) (kf : (Nat × Int32)) (q0 : Nat) (hq : PL q0 = some kf) (hkk : kf.1 = 7) (σ : zzS) : zzGO p l e rX8_turns s m args below meth c 1 (zzA base) (zzX Z base PL mm) (zzX Z base PL mm) zzRI rX8_turns.cells rX8_turns.slots (f_X8_turns kf σ) σ 0 0 0 [(0, .ref q0)] [] := by
  unfold f_X8_turns
  refine zz_iconst (v := 3) C dX8_turns_0 (by decide) ?_
  exact zz_iret C rfl rfl (fun _ h9 => h9) (Nat.zero_le _) (Nat.zero_le _) dX8_turns_1
set_option maxHeartbeats 4000000 in
set_option maxRecDepth 100000 in
theorem k_X8_turns {l : Launch} {Z : zzG} {base : Nat} {PL : Nat → Option (Nat × Int32)} {mm : zzS} (kf : (Nat × Int32)) (q0 : Nat) (hq : PL q0 = some kf) (hkk : kf.1 = 7) (σ : zzS) : zzCT l yX8_turns wsX8_turns rX8_turns (zzA base) Z (zzX Z base PL mm) (zzX Z base PL mm) zzRI [.ref q0] (f_X8_turns kf σ) σ :=
  zzCT_of (cc := cX8_turns) (nL := 1) (ret := (some .int)) (by decide) rfl (Nat.le_of_ble_eq_true rfl) [(0, .ref q0)] rfl (fun p e s m args below meth c C => w_X8_turns_e C kf q0 hq hkk σ)
abbrev rX8_price : Room := { frames := 2, cells := 0, slots := 0, locals := 40 }
set_option maxHeartbeats 4000000 in
set_option maxRecDepth 100000 in
theorem vs_X8_price_1 {l : Launch} {Z : zzG} {base : Nat} {PL : Nat → Option (Nat × Int32)} {mm : zzS} {p : Program} {e : Env} {s : State} {m : MethodId} {args : Array Value} {below : List Frame} {meth : Method} {c : Code} {cells slots : Nat} {σ : zzS} {loc : List (Nat × Value)} {rest : List Value} (C : zzCx p m meth c s args cX8_price 1 wsX8_price RX8 (some .int) Z) {q : Nat} {kf : Nat × Int32} (hq : PL q = some kf) (hkk : kf.1 = 7) (hroom : (rest.map fun v => v.category).sum ≤ 8) (hcs : cells + 0 ≤ (rX8_price).cells ∧ slots + 0 ≤ (rX8_price).slots := by exact ⟨Nat.zero_le _, Nat.zero_le _⟩) :
    ∀ r1 σ2, f_X9_price kf σ = some (r1, σ2) → ∀ (H : Heap) (locs : List Loc) (ls : Array Slot), zzX Z base PL mm σ H → lv_has ls 1 loc → va_Run p l e rX8_price s m args below meth c H locs cells slots 0 0 (F0 m 1 ls (.ref q :: rest)) rest (zzQ zzRI (zzX Z base PL mm) (zzA base) r1 σ2 #[.ref q]) (zzA base) := by
  intro r1 σ2 hr H locs ls hW hl
  obtain ⟨k9, f9⟩ := kf
  have hkk : k9 = 7 := hkk
  subst hkk
  have ct := k_X9_price (l := l) (Z := Z) (base := base) (PL := PL) (mm := mm) (7, f9) q hq (Or.inr (Or.inr (Or.inr rfl))) σ r1 σ2 hr
  exact va_runSU (As := []) (C := RX8) (C.2.2.2.1.1 8 _ rfl).2 C.1 ct (va_cwSU 0 C.1.2.2.2.2 gX8_price_X9_price_s14 rfl rfl rfl (by decide +kernel) ⟨Nat.le_of_ble_eq_true rfl, Nat.le_of_ble_eq_true rfl⟩) ⟨zzPc_blind, zz_recv C.2.2.2 (zzX_pers1 hq H hW) rfl, fun U hU hWm => zzPc_at C.2.2.2 hU hWm hW⟩ rfl rfl hl.1 rfl (lv_room hroom) dX8_price_1 hcs

set_option maxHeartbeats 4000000 in
set_option maxRecDepth 100000 in
theorem w_X8_price_e {l : Launch} {Z : zzG} {base : Nat} {PL : Nat → Option (Nat × Int32)} {mm : zzS} {p : Program} {e : Env} {s : State} {m : MethodId} {args : Array Value} {below : List Frame} {meth : Method} {c : Code} (C : zzCx p m meth c s args cX8_price 1 wsX8_price RX8 (some .int) Z) (kf : (Nat × Int32)) (q0 : Nat) (hq : PL q0 = some kf) (hkk : kf.1 = 7) (σ : zzS) : zzGO p l e rX8_price s m args below meth c 1 (zzA base) (zzX Z base PL mm) (zzX Z base PL mm) zzRI rX8_price.cells rX8_price.slots (f_X8_price kf σ) σ 0 0 0 [(0, .ref q0)] [] := by
  unfold f_X8_price
  refine zz_aload_n C dX8_price_0 rfl 0 rfl ?_
  refine zz_call (av := #[.ref q0]) (rest := []) (mcc := 0) (msc := 0) (relc := zzRI) (vs_X8_price_1 C hq hkk (Nat.le_of_ble_eq_true rfl)) (zz_kI rfl rfl (fun r1 σ2 => ?_))
  refine zz_iconst (v := 2) C dX8_price_4 (by decide) ?_
  refine zz_iadd C dX8_price_5 ?_
  exact zz_iret C rfl rfl (fun _ h9 => h9) (Nat.zero_le _) (Nat.zero_le _) dX8_price_6
set_option maxHeartbeats 4000000 in
set_option maxRecDepth 100000 in
theorem k_X8_price {l : Launch} {Z : zzG} {base : Nat} {PL : Nat → Option (Nat × Int32)} {mm : zzS} (kf : (Nat × Int32)) (q0 : Nat) (hq : PL q0 = some kf) (hkk : kf.1 = 7) (σ : zzS) : zzCT l yX8_price wsX8_price rX8_price (zzA base) Z (zzX Z base PL mm) (zzX Z base PL mm) zzRI [.ref q0] (f_X8_price kf σ) σ :=
  zzCT_of (cc := cX8_price) (nL := 1) (ret := (some .int)) (by decide) rfl (Nat.le_of_ble_eq_true rfl) [(0, .ref q0)] rfl (fun p e s m args below meth c C => w_X8_price_e C kf q0 hq hkk σ)
abbrev rX9_number : Room := { frames := 0, cells := 0, slots := 0, locals := 0 }

set_option maxHeartbeats 4000000 in
set_option maxRecDepth 100000 in
theorem w_X9_number_e {l : Launch} {Z : zzG} {base : Nat} {PL : Nat → Option (Nat × Int32)} {mm : zzS} {p : Program} {e : Env} {s : State} {m : MethodId} {args : Array Value} {below : List Frame} {meth : Method} {c : Code} (C : zzCx p m meth c s args cX9_number 1 wsX9_number RX9 (some .int) Z) (kf : (Nat × Int32)) (q0 : Nat) (hq : PL q0 = some kf) (hkk : kf.1 = 1 ∨ kf.1 = 3 ∨ kf.1 = 5 ∨ kf.1 = 7) (σ : zzS) : zzGO p l e rX9_number s m args below meth c 1 (zzA base) (zzX Z base PL mm) (zzX Z base PL mm) zzRI rX9_number.cells rX9_number.slots (f_X9_number kf σ) σ 0 0 0 [(0, .ref q0)] [] := by
  unfold f_X9_number
  refine zz_iconst (v := 1) C dX9_number_0 (by decide) ?_
  exact zz_iret C rfl rfl (fun _ h9 => h9) (Nat.zero_le _) (Nat.zero_le _) dX9_number_1
set_option maxHeartbeats 4000000 in
set_option maxRecDepth 100000 in
theorem k_X9_number {l : Launch} {Z : zzG} {base : Nat} {PL : Nat → Option (Nat × Int32)} {mm : zzS} (kf : (Nat × Int32)) (q0 : Nat) (hq : PL q0 = some kf) (hkk : kf.1 = 1 ∨ kf.1 = 3 ∨ kf.1 = 5 ∨ kf.1 = 7) (σ : zzS) : zzCT l yX9_number wsX9_number rX9_number (zzA base) Z (zzX Z base PL mm) (zzX Z base PL mm) zzRI [.ref q0] (f_X9_number kf σ) σ :=
  zzCT_of (cc := cX9_number) (nL := 1) (ret := (some .int)) (by decide) rfl (Nat.le_of_ble_eq_true rfl) [(0, .ref q0)] rfl (fun p e s m args below meth c C => w_X9_number_e C kf q0 hq hkk σ)
