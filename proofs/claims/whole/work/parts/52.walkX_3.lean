abbrev rX11_strongestFit : Room := { frames := 4, cells := 0, slots := 0, locals := 88 }
set_option maxHeartbeats 4000000 in
set_option maxRecDepth 100000 in
theorem vr_X11_strongestFit_68 {l : Launch} {Z : zzG} {base : Nat} {PL : Nat → Option (Nat × Int32)} {mm : zzS} {p : Program} {e : Env} {s : State} {m : MethodId} {args : Array Value} {below : List Frame} {meth : Method} {c : Code} {cells slots : Nat} {σ : zzS} {loc : List (Nat × Value)} {rest : List Value} (C : zzCx p m meth c s args cX11_strongestFit 5 wsX11_strongestFit RX11 (some .int) Z) {q : Nat} {kf : Nat × Int32} (hq : PL q = some kf) (hroom : (rest.map fun v => v.category).sum ≤ 8) (hcs : cells + 0 ≤ (rX11_strongestFit).cells ∧ slots + 0 ≤ (rX11_strongestFit).slots := by exact ⟨Nat.zero_le _, Nat.zero_le _⟩) :
    ∀ r1 σ2, some (zzturns kf, σ) = some (r1, σ2) → ∀ (H : Heap) (locs : List Loc) (ls : Array Slot), zzX Z base PL mm σ H → lv_has ls 5 loc → va_Run p l e rX11_strongestFit s m args below meth c H locs cells slots 0 0 (F0 m 68 ls (.ref q :: rest)) rest (zzQ zzRI (zzX Z base PL mm) (zzA base) r1 σ2 #[.ref q]) (zzA base) := by
  intro r1 σ2 hr H locs ls hW hl
  have h8 := zz_kind8 (hW.1.2.2.1 q kf hq).1
  obtain ⟨k9, f9⟩ := kf
  rcases h8 with h8 | h8 | h8 | h8 | h8 | h8 | h8 | h8
  · have h8 : k9 = 0 := h8
    subst h8
    have ct := k_X6_turns (l := l) (Z := Z) (base := base) (PL := PL) (mm := mm) (0, f9) q hq σ r1 σ2 hr
    exact va_runV (As := []) (C := RX6) C.1 ct (cwV 0 C.1.2.2.2.2 gX11_strongestFit_X6_turns rfl rfl rfl (by decide +kernel) ⟨Nat.le_of_ble_eq_true rfl, Nat.le_of_ble_eq_true rfl⟩) ⟨zzPc_blind, zz_recv C.2.2.2 (zzX_pers1 hq H hW) rfl, fun U hU hWm => zzPc_at C.2.2.2 hU hWm hW⟩ rfl rfl hl.1 rfl (lv_room hroom) dX11_strongestFit_68 hcs
  · have h8 : k9 = 1 := h8
    subst h8
    have ct := k_X6_turns (l := l) (Z := Z) (base := base) (PL := PL) (mm := mm) (1, f9) q hq σ r1 σ2 hr
    exact va_runU (As := []) (C := RX9) C.1 ct (va_cwU 0 C.1.2.2.2.2 gX11_strongestFit_X6_turns_u110X9 rfl rfl rfl (by decide +kernel) (by decide +kernel) ⟨Nat.le_of_ble_eq_true rfl, Nat.le_of_ble_eq_true rfl⟩) ⟨zzPc_blind, zz_recv C.2.2.2 (zzX_pers1 hq H hW) rfl, fun U hU hWm => zzPc_at C.2.2.2 hU hWm hW⟩ rfl rfl hl.1 rfl (lv_room hroom) dX11_strongestFit_68 hcs
  · have h8 : k9 = 2 := h8
    subst h8
    have ct := k_X0_turns (l := l) (Z := Z) (base := base) (PL := PL) (mm := mm) (2, f9) q hq (Or.inl rfl) σ r1 σ2 hr
    exact va_runU (As := []) (C := RX0) C.1 ct (va_cwO 0 C.1.2.2.2.2 gX11_strongestFit_X0_turns_u110X0 rfl rfl rfl (List.mem_of_getElem? (i := 82) rfl) (by decide +kernel) ⟨Nat.le_of_ble_eq_true rfl, Nat.le_of_ble_eq_true rfl⟩) ⟨zzPc_blind, zz_recv C.2.2.2 (zzX_pers1 hq H hW) rfl, fun U hU hWm => zzPc_at C.2.2.2 hU hWm hW⟩ rfl rfl hl.1 rfl (lv_room hroom) dX11_strongestFit_68 hcs
  · have h8 : k9 = 3 := h8
    subst h8
    have ct := k_X1_turns (l := l) (Z := Z) (base := base) (PL := PL) (mm := mm) (3, f9) q hq rfl σ r1 σ2 hr
    exact va_runU (As := []) (C := RX1) C.1 ct (va_cwO 0 C.1.2.2.2.2 gX11_strongestFit_X1_turns_u110X1 rfl rfl rfl (List.mem_of_getElem? (i := 82) rfl) (by decide +kernel) ⟨Nat.le_of_ble_eq_true rfl, Nat.le_of_ble_eq_true rfl⟩) ⟨zzPc_blind, zz_recv C.2.2.2 (zzX_pers1 hq H hW) rfl, fun U hU hWm => zzPc_at C.2.2.2 hU hWm hW⟩ rfl rfl hl.1 rfl (lv_room hroom) dX11_strongestFit_68 hcs
  · have h8 : k9 = 4 := h8
    subst h8
    have ct := k_X6_turns (l := l) (Z := Z) (base := base) (PL := PL) (mm := mm) (4, f9) q hq σ r1 σ2 hr
    exact va_runU (As := []) (C := RX4) C.1 ct (va_cwU 0 C.1.2.2.2.2 gX11_strongestFit_X6_turns_u110X4 rfl rfl rfl (by decide +kernel) (by decide +kernel) ⟨Nat.le_of_ble_eq_true rfl, Nat.le_of_ble_eq_true rfl⟩) ⟨zzPc_blind, zz_recv C.2.2.2 (zzX_pers1 hq H hW) rfl, fun U hU hWm => zzPc_at C.2.2.2 hU hWm hW⟩ rfl rfl hl.1 rfl (lv_room hroom) dX11_strongestFit_68 hcs
  · have h8 : k9 = 5 := h8
    subst h8
    have ct := k_X5_turns (l := l) (Z := Z) (base := base) (PL := PL) (mm := mm) (5, f9) q hq rfl σ r1 σ2 hr
    exact va_runU (As := []) (C := RX5) C.1 ct (va_cwO 0 C.1.2.2.2.2 gX11_strongestFit_X5_turns_u110X5 rfl rfl rfl (List.mem_of_getElem? (i := 82) rfl) (by decide +kernel) ⟨Nat.le_of_ble_eq_true rfl, Nat.le_of_ble_eq_true rfl⟩) ⟨zzPc_blind, zz_recv C.2.2.2 (zzX_pers1 hq H hW) rfl, fun U hU hWm => zzPc_at C.2.2.2 hU hWm hW⟩ rfl rfl hl.1 rfl (lv_room hroom) dX11_strongestFit_68 hcs
  · have h8 : k9 = 6 := h8
    subst h8
    have ct := k_X3_turns (l := l) (Z := Z) (base := base) (PL := PL) (mm := mm) (6, f9) q hq rfl σ r1 σ2 hr
    exact va_runU (As := []) (C := RX3) C.1 ct (va_cwO 0 C.1.2.2.2.2 gX11_strongestFit_X3_turns_u110X3 rfl rfl rfl (List.mem_of_getElem? (i := 82) rfl) (by decide +kernel) ⟨Nat.le_of_ble_eq_true rfl, Nat.le_of_ble_eq_true rfl⟩) ⟨zzPc_blind, zz_recv C.2.2.2 (zzX_pers1 hq H hW) rfl, fun U hU hWm => zzPc_at C.2.2.2 hU hWm hW⟩ rfl rfl hl.1 rfl (lv_room hroom) dX11_strongestFit_68 hcs
  · have h8 : k9 = 7 := h8
    subst h8
    have ct := k_X8_turns (l := l) (Z := Z) (base := base) (PL := PL) (mm := mm) (7, f9) q hq rfl σ r1 σ2 hr
    exact va_runU (As := []) (C := RX8) C.1 ct (va_cwO 0 C.1.2.2.2.2 gX11_strongestFit_X8_turns_u110X8 rfl rfl rfl (List.mem_of_getElem? (i := 82) rfl) (by decide +kernel) ⟨Nat.le_of_ble_eq_true rfl, Nat.le_of_ble_eq_true rfl⟩) ⟨zzPc_blind, zz_recv C.2.2.2 (zzX_pers1 hq H hW) rfl, fun U hU hWm => zzPc_at C.2.2.2 hU hWm hW⟩ rfl rfl hl.1 rfl (lv_room hroom) dX11_strongestFit_68 hcs

set_option maxHeartbeats 4000000 in
set_option maxRecDepth 100000 in
theorem vr_X11_strongestFit_49 {l : Launch} {Z : zzG} {base : Nat} {PL : Nat → Option (Nat × Int32)} {mm : zzS} {p : Program} {e : Env} {s : State} {m : MethodId} {args : Array Value} {below : List Frame} {meth : Method} {c : Code} {cells slots : Nat} {σ : zzS} {loc : List (Nat × Value)} {rest : List Value} (C : zzCx p m meth c s args cX11_strongestFit 5 wsX11_strongestFit RX11 (some .int) Z) {q : Nat} {kf : Nat × Int32} (hq : PL q = some kf) (hroom : (rest.map fun v => v.category).sum ≤ 8) (hcs : cells + 0 ≤ (rX11_strongestFit).cells ∧ slots + 0 ≤ (rX11_strongestFit).slots := by exact ⟨Nat.zero_le _, Nat.zero_le _⟩) :
    ∀ r1 σ2, some (zzturns kf, σ) = some (r1, σ2) → ∀ (H : Heap) (locs : List Loc) (ls : Array Slot), zzX Z base PL mm σ H → lv_has ls 5 loc → va_Run p l e rX11_strongestFit s m args below meth c H locs cells slots 0 0 (F0 m 49 ls (.ref q :: rest)) rest (zzQ zzRI (zzX Z base PL mm) (zzA base) r1 σ2 #[.ref q]) (zzA base) := by
  intro r1 σ2 hr H locs ls hW hl
  have h8 := zz_kind8 (hW.1.2.2.1 q kf hq).1
  obtain ⟨k9, f9⟩ := kf
  rcases h8 with h8 | h8 | h8 | h8 | h8 | h8 | h8 | h8
  · have h8 : k9 = 0 := h8
    subst h8
    have ct := k_X6_turns (l := l) (Z := Z) (base := base) (PL := PL) (mm := mm) (0, f9) q hq σ r1 σ2 hr
    exact va_runV (As := []) (C := RX6) C.1 ct (cwV 0 C.1.2.2.2.2 gX11_strongestFit_X6_turns rfl rfl rfl (by decide +kernel) ⟨Nat.le_of_ble_eq_true rfl, Nat.le_of_ble_eq_true rfl⟩) ⟨zzPc_blind, zz_recv C.2.2.2 (zzX_pers1 hq H hW) rfl, fun U hU hWm => zzPc_at C.2.2.2 hU hWm hW⟩ rfl rfl hl.1 rfl (lv_room hroom) dX11_strongestFit_49 hcs
  · have h8 : k9 = 1 := h8
    subst h8
    have ct := k_X6_turns (l := l) (Z := Z) (base := base) (PL := PL) (mm := mm) (1, f9) q hq σ r1 σ2 hr
    exact va_runU (As := []) (C := RX9) C.1 ct (va_cwU 0 C.1.2.2.2.2 gX11_strongestFit_X6_turns_u110X9 rfl rfl rfl (by decide +kernel) (by decide +kernel) ⟨Nat.le_of_ble_eq_true rfl, Nat.le_of_ble_eq_true rfl⟩) ⟨zzPc_blind, zz_recv C.2.2.2 (zzX_pers1 hq H hW) rfl, fun U hU hWm => zzPc_at C.2.2.2 hU hWm hW⟩ rfl rfl hl.1 rfl (lv_room hroom) dX11_strongestFit_49 hcs
  · have h8 : k9 = 2 := h8
    subst h8
    have ct := k_X0_turns (l := l) (Z := Z) (base := base) (PL := PL) (mm := mm) (2, f9) q hq (Or.inl rfl) σ r1 σ2 hr
    exact va_runU (As := []) (C := RX0) C.1 ct (va_cwO 0 C.1.2.2.2.2 gX11_strongestFit_X0_turns_u110X0 rfl rfl rfl (List.mem_of_getElem? (i := 82) rfl) (by decide +kernel) ⟨Nat.le_of_ble_eq_true rfl, Nat.le_of_ble_eq_true rfl⟩) ⟨zzPc_blind, zz_recv C.2.2.2 (zzX_pers1 hq H hW) rfl, fun U hU hWm => zzPc_at C.2.2.2 hU hWm hW⟩ rfl rfl hl.1 rfl (lv_room hroom) dX11_strongestFit_49 hcs
  · have h8 : k9 = 3 := h8
    subst h8
    have ct := k_X1_turns (l := l) (Z := Z) (base := base) (PL := PL) (mm := mm) (3, f9) q hq rfl σ r1 σ2 hr
    exact va_runU (As := []) (C := RX1) C.1 ct (va_cwO 0 C.1.2.2.2.2 gX11_strongestFit_X1_turns_u110X1 rfl rfl rfl (List.mem_of_getElem? (i := 82) rfl) (by decide +kernel) ⟨Nat.le_of_ble_eq_true rfl, Nat.le_of_ble_eq_true rfl⟩) ⟨zzPc_blind, zz_recv C.2.2.2 (zzX_pers1 hq H hW) rfl, fun U hU hWm => zzPc_at C.2.2.2 hU hWm hW⟩ rfl rfl hl.1 rfl (lv_room hroom) dX11_strongestFit_49 hcs
  · have h8 : k9 = 4 := h8
    subst h8
    have ct := k_X6_turns (l := l) (Z := Z) (base := base) (PL := PL) (mm := mm) (4, f9) q hq σ r1 σ2 hr
    exact va_runU (As := []) (C := RX4) C.1 ct (va_cwU 0 C.1.2.2.2.2 gX11_strongestFit_X6_turns_u110X4 rfl rfl rfl (by decide +kernel) (by decide +kernel) ⟨Nat.le_of_ble_eq_true rfl, Nat.le_of_ble_eq_true rfl⟩) ⟨zzPc_blind, zz_recv C.2.2.2 (zzX_pers1 hq H hW) rfl, fun U hU hWm => zzPc_at C.2.2.2 hU hWm hW⟩ rfl rfl hl.1 rfl (lv_room hroom) dX11_strongestFit_49 hcs
  · have h8 : k9 = 5 := h8
    subst h8
    have ct := k_X5_turns (l := l) (Z := Z) (base := base) (PL := PL) (mm := mm) (5, f9) q hq rfl σ r1 σ2 hr
    exact va_runU (As := []) (C := RX5) C.1 ct (va_cwO 0 C.1.2.2.2.2 gX11_strongestFit_X5_turns_u110X5 rfl rfl rfl (List.mem_of_getElem? (i := 82) rfl) (by decide +kernel) ⟨Nat.le_of_ble_eq_true rfl, Nat.le_of_ble_eq_true rfl⟩) ⟨zzPc_blind, zz_recv C.2.2.2 (zzX_pers1 hq H hW) rfl, fun U hU hWm => zzPc_at C.2.2.2 hU hWm hW⟩ rfl rfl hl.1 rfl (lv_room hroom) dX11_strongestFit_49 hcs
  · have h8 : k9 = 6 := h8
    subst h8
    have ct := k_X3_turns (l := l) (Z := Z) (base := base) (PL := PL) (mm := mm) (6, f9) q hq rfl σ r1 σ2 hr
    exact va_runU (As := []) (C := RX3) C.1 ct (va_cwO 0 C.1.2.2.2.2 gX11_strongestFit_X3_turns_u110X3 rfl rfl rfl (List.mem_of_getElem? (i := 82) rfl) (by decide +kernel) ⟨Nat.le_of_ble_eq_true rfl, Nat.le_of_ble_eq_true rfl⟩) ⟨zzPc_blind, zz_recv C.2.2.2 (zzX_pers1 hq H hW) rfl, fun U hU hWm => zzPc_at C.2.2.2 hU hWm hW⟩ rfl rfl hl.1 rfl (lv_room hroom) dX11_strongestFit_49 hcs
  · have h8 : k9 = 7 := h8
    subst h8
    have ct := k_X8_turns (l := l) (Z := Z) (base := base) (PL := PL) (mm := mm) (7, f9) q hq rfl σ r1 σ2 hr
    exact va_runU (As := []) (C := RX8) C.1 ct (va_cwO 0 C.1.2.2.2.2 gX11_strongestFit_X8_turns_u110X8 rfl rfl rfl (List.mem_of_getElem? (i := 82) rfl) (by decide +kernel) ⟨Nat.le_of_ble_eq_true rfl, Nat.le_of_ble_eq_true rfl⟩) ⟨zzPc_blind, zz_recv C.2.2.2 (zzX_pers1 hq H hW) rfl, fun U hU hWm => zzPc_at C.2.2.2 hU hWm hW⟩ rfl rfl hl.1 rfl (lv_room hroom) dX11_strongestFit_49 hcs

set_option maxHeartbeats 4000000 in
set_option maxRecDepth 100000 in
theorem w_X11_strongestFit_72 {l : Launch} {Z : zzG} {base : Nat} {PL : Nat → Option (Nat × Int32)} {mm : zzS} {p : Program} {e : Env} {s : State} {m : MethodId} {args : Array Value} {below : List Frame} {meth : Method} {c : Code} (C : zzCx p m meth c s args cX11_strongestFit 5 wsX11_strongestFit RX11 (some .int) Z) (p0 : Int32)  (k8 : Int32 → Int32 → Int32 → zzS → Option (Int32 × zzS)) (hk8 : ∀ (l2 : Int32)  (l3 : Int32)  (l4 : Int32)  (σ : zzS), zzGO p l e rX11_strongestFit s m args below meth c 5 (zzA base) (zzX Z base PL mm) (zzX Z base PL mm) zzRI rX11_strongestFit.cells rX11_strongestFit.slots (k8 l2 l3 l4 σ) σ 0 0 8 [(0, .ref (zzad Z 0)), (1, .int p0), (2, .int l2), (3, .int l3), (4, .int l4)] []) (l2 : Int32)  (l3 : Int32)  (l4 : Int32)  (σ : zzS) : zzGO p l e rX11_strongestFit s m args below meth c 5 (zzA base) (zzX Z base PL mm) (zzX Z base PL mm) zzRI rX11_strongestFit.cells rX11_strongestFit.slots (f_X11_strongestFit_72 k8 p0 l2 l3 l4 σ) σ 0 0 72 [(0, .ref (zzad Z 0)), (1, .int p0), (2, .int l2), (3, .int l3), (4, .int l4)] [] := by
  unfold f_X11_strongestFit_72
  refine zz_iincX (d := 1) (locf := fun x1 => [(4, .int x1), (0, .ref (zzad Z 0)), (1, .int p0), (2, .int l2), (3, .int l3)]) C dX11_strongestFit_72 (k := 4) rfl (by decide) (by decide) (fun _ => rfl) (fun x1 => ?_)
  refine zz_goto (tgt := 8) C dX11_strongestFit_75 (by decide) ?_
  refine zz_sub (loc' := [(0, .ref (zzad Z 0)), (1, .int p0), (2, .int l2), (3, .int l3), (4, .int x1)]) [1, 2, 3, 4, 0] rfl ?_
  exact hk8 l2 l3 x1 σ
set_option maxHeartbeats 4000000 in
set_option maxRecDepth 100000 in
theorem w_X11_strongestFit_8b {l : Launch} {Z : zzG} {base : Nat} {PL : Nat → Option (Nat × Int32)} {mm : zzS} {p : Program} {e : Env} {s : State} {m : MethodId} {args : Array Value} {below : List Frame} {meth : Method} {c : Code} (C : zzCx p m meth c s args cX11_strongestFit 5 wsX11_strongestFit RX11 (some .int) Z) (p0 : Int32)   (k8 : Int32 → Int32 → Int32 → zzS → Option (Int32 × zzS)) (hk8 : ∀ (l2 : Int32)  (l3 : Int32)  (l4 : Int32)  (σ : zzS), zzGO p l e rX11_strongestFit s m args below meth c 5 (zzA base) (zzX Z base PL mm) (zzX Z base PL mm) zzRI rX11_strongestFit.cells rX11_strongestFit.slots (k8 l2 l3 l4 σ) σ 0 0 8 [(0, .ref (zzad Z 0)), (1, .int p0), (2, .int l2), (3, .int l3), (4, .int l4)] []) (l2 : Int32)  (l3 : Int32)  (l4 : Int32)  (σ : zzS) : zzGO p l e rX11_strongestFit s m args below meth c 5 (zzA base) (zzX Z base PL mm) (zzX Z base PL mm) zzRI rX11_strongestFit.cells rX11_strongestFit.slots (f_X11_strongestFit_8b k8 p0 l2 l3 l4 σ) σ 0 0 8 [(0, .ref (zzad Z 0)), (1, .int p0), (2, .int l2), (3, .int l3), (4, .int l4)] [] := by
  unfold f_X11_strongestFit_8b
  refine zz_iload C dX11_strongestFit_8 4 rfl ?_
  refine zz_aload_n C dX11_strongestFit_10 rfl 0 rfl ?_
  refine zz_get C zzX_obj (fun _ h9 => List.mem_cons_of_mem _ (List.mem_append_left _ (List.mem_append_left _ (List.mem_append_left _ (List.mem_append_left _ (List.mem_append_left _ (List.mem_append_left _ (List.mem_append_left _ (List.mem_append_left _ (List.mem_append_left _ (List.mem_append_right _ (h9)))))))))))) rfl 3 (by decide) (List.mem_of_getElem? (i := 1) rfl) (Or.inl rfl) rfl dX11_strongestFit_11 ?_
  refine zz_get C (zzX_town (Or.inl rfl)) (fun _ h9 => List.mem_cons_of_mem _ (List.mem_append_left _ (List.mem_append_left _ (List.mem_append_left _ (List.mem_append_left _ (List.mem_append_left _ (List.mem_append_left _ (List.mem_append_left _ (List.mem_append_left _ (List.mem_append_right _ (h9))))))))))) rfl 4 (by decide) (List.mem_of_getElem? (i := 2) rfl) (Or.inl rfl) rfl dX11_strongestFit_14 ?_
  refine zz_icmp_ge (tgt := 78) C dX11_strongestFit_17 (by decide) (fun h1 => ?_) (fun h1 => ?_)
  · refine zz_iload_n C dX11_strongestFit_78 rfl 2 rfl ?_
    exact zz_iret C rfl rfl (fun _ h9 => h9) (Nat.zero_le _) (Nat.zero_le _) dX11_strongestFit_79
  · refine zz_aload_n C dX11_strongestFit_20 rfl 0 rfl ?_
    refine zz_get C zzX_obj (fun _ h9 => List.mem_cons_of_mem _ (List.mem_append_left _ (List.mem_append_left _ (List.mem_append_left _ (List.mem_append_left _ (List.mem_append_left _ (List.mem_append_left _ (List.mem_append_left _ (List.mem_append_left _ (List.mem_append_left _ (List.mem_append_right _ (h9)))))))))))) rfl 3 (by decide) (List.mem_of_getElem? (i := 1) rfl) (Or.inl rfl) rfl dX11_strongestFit_21 ?_
    refine zz_iload C dX11_strongestFit_24 4 rfl ?_
    refine zz_iload_n C dX11_strongestFit_26 rfl 1 rfl ?_
    refine zz_aload_n C dX11_strongestFit_27 rfl 0 rfl ?_
    refine zz_get C zzX_obj (fun _ h9 => List.mem_cons_of_mem _ (List.mem_append_left _ (List.mem_append_left _ (List.mem_append_left _ (List.mem_append_left _ (List.mem_append_left _ (List.mem_append_left _ (List.mem_append_left _ (List.mem_append_left _ (List.mem_append_left _ (List.mem_append_right _ (h9)))))))))))) rfl 3 (by decide) (List.mem_of_getElem? (i := 1) rfl) (Or.inl rfl) rfl dX11_strongestFit_28 ?_
    refine zz_get C (zzX_town (Or.inl rfl)) (fun _ h9 => List.mem_cons_of_mem _ (List.mem_append_left _ (List.mem_append_left _ (List.mem_append_left _ (List.mem_append_left _ (List.mem_append_left _ (List.mem_append_left _ (List.mem_append_left _ (List.mem_append_left _ (List.mem_append_right _ (h9))))))))))) rfl 5 (by decide) (List.mem_of_getElem? (i := 3) rfl) (Or.inl rfl) rfl dX11_strongestFit_31 ?_
    refine zz_callV C (Cn := RX10) (b := zzad Z 20) (fun H hH => zz_recv C.2.2.2 ((zzX_town (Or.inl rfl)) H hH) rfl) (As := [.int l4, .int p0, .int (zzi σ 20 5)]) (rest := []) rfl (k_X10_may 20 (Or.inl rfl) l4 p0 (zzi σ 20 5) σ) (cwV 3 C.1.2.2.2.2 gX11_strongestFit_X10_may rfl rfl rfl (by decide +kernel) ⟨Nat.le_of_ble_eq_true rfl, Nat.le_of_ble_eq_true rfl⟩) rfl (Nat.le_of_ble_eq_true rfl) ⟨Nat.zero_le _, Nat.zero_le _⟩ dX11_strongestFit_34 (zz_kI rfl rfl (fun r2 σ3 => ?_))
    refine zz_if_eq (tgt := 72) C dX11_strongestFit_37 (by decide) (fun h4 => ?_) (fun h4 => ?_)
    · refine zz_sub (loc' := [(0, .ref (zzad Z 0)), (1, .int p0), (2, .int l2), (3, .int l3), (4, .int l4)]) [0, 1, 2, 3, 4] rfl ?_
      exact w_X11_strongestFit_72 C p0 k8 hk8 l2 l3 l4 σ3
    · refine zz_aload_n C dX11_strongestFit_40 rfl 0 rfl ?_
      refine zz_get C zzX_obj (fun _ h9 => List.mem_cons_of_mem _ (List.mem_append_left _ (List.mem_append_left _ (List.mem_append_left _ (List.mem_append_left _ (List.mem_append_left _ (List.mem_append_left _ (List.mem_append_left _ (List.mem_append_left _ (List.mem_append_left _ (List.mem_append_right _ (h9)))))))))))) rfl 3 (by decide) (List.mem_of_getElem? (i := 1) rfl) (Or.inl rfl) rfl dX11_strongestFit_41 ?_
      refine zz_iload C dX11_strongestFit_44 4 rfl ?_
      refine zz_callV C (Cn := RX10) (b := zzad Z 20) (fun H hH => zz_recv C.2.2.2 ((zzX_town (Or.inl rfl)) H hH) rfl) (As := [.int l4]) (rest := []) rfl (k_X10_at 20 (Or.inl rfl) l4 σ3) (cwV 1 C.1.2.2.2.2 gX11_strongestFit_X10_at rfl rfl rfl (by decide +kernel) ⟨Nat.le_of_ble_eq_true rfl, Nat.le_of_ble_eq_true rfl⟩) rfl (Nat.le_of_ble_eq_true rfl) ⟨Nat.zero_le _, Nat.zero_le _⟩ dX11_strongestFit_46 (zz_kP rfl rfl (fun r5 σ6 c7 hp8 => ?_))
      refine zz_nnP hp8 (fun kf9 q10 h11 h12 hq13 => ?_)
      subst h12
      refine zz_call (av := #[.ref q10]) (rest := []) (mcc := 0) (msc := 0) (relc := zzRI) (vr_X11_strongestFit_49 C hq13 (Nat.le_of_ble_eq_true rfl)) (zz_kI rfl rfl (fun r14 σ15 => ?_))
      refine zz_iload_n C dX11_strongestFit_52 rfl 3 rfl ?_
      refine zz_icmp_le (tgt := 72) C dX11_strongestFit_53 (by decide) (fun h16 => ?_) (fun h16 => ?_)
      · refine zz_sub (loc' := [(0, .ref (zzad Z 0)), (1, .int p0), (2, .int l2), (3, .int l3), (4, .int l4)]) [0, 1, 2, 3, 4] rfl ?_
        exact w_X11_strongestFit_72 C p0 k8 hk8 l2 l3 l4 σ15
      · refine zz_iload C dX11_strongestFit_56 4 rfl ?_
        refine zz_istore_n (loc' := [(2, .int l4), (0, .ref (zzad Z 0)), (1, .int p0), (3, .int l3), (4, .int l4)]) C dX11_strongestFit_58 rfl (by decide) rfl ?_
        refine zz_aload_n C dX11_strongestFit_59 rfl 1 rfl ?_
        refine zz_get C zzX_obj (fun _ h9 => List.mem_cons_of_mem _ (List.mem_append_left _ (List.mem_append_left _ (List.mem_append_left _ (List.mem_append_left _ (List.mem_append_left _ (List.mem_append_left _ (List.mem_append_left _ (List.mem_append_left _ (List.mem_append_left _ (List.mem_append_right _ (h9)))))))))))) rfl 3 (by decide) (List.mem_of_getElem? (i := 1) rfl) (Or.inl rfl) rfl dX11_strongestFit_60 ?_
        refine zz_iload C dX11_strongestFit_63 4 rfl ?_
        refine zz_callV C (Cn := RX10) (b := zzad Z 20) (fun H hH => zz_recv C.2.2.2 ((zzX_town (Or.inl rfl)) H hH) rfl) (As := [.int l4]) (rest := []) rfl (k_X10_at 20 (Or.inl rfl) l4 σ15) (cwV 1 C.1.2.2.2.2 gX11_strongestFit_X10_at rfl rfl rfl (by decide +kernel) ⟨Nat.le_of_ble_eq_true rfl, Nat.le_of_ble_eq_true rfl⟩) rfl (Nat.le_of_ble_eq_true rfl) ⟨Nat.zero_le _, Nat.zero_le _⟩ dX11_strongestFit_65 (zz_kP rfl rfl (fun r17 σ18 c19 hp20 => ?_))
        refine zz_nnP hp20 (fun kf21 q22 h23 h24 hq25 => ?_)
        subst h24
        refine zz_call (av := #[.ref q22]) (rest := []) (mcc := 0) (msc := 0) (relc := zzRI) (vr_X11_strongestFit_68 C hq25 (Nat.le_of_ble_eq_true rfl)) (zz_kI rfl rfl (fun r26 σ27 => ?_))
        refine zz_istore_n (loc' := [(3, .int r26), (2, .int l4), (0, .ref (zzad Z 0)), (1, .int p0), (4, .int l4)]) C dX11_strongestFit_71 rfl (by decide) rfl ?_
        refine zz_sub (loc' := [(0, .ref (zzad Z 0)), (1, .int p0), (2, .int l4), (3, .int r26), (4, .int l4)]) [2, 3, 1, 0, 4] rfl ?_
        exact w_X11_strongestFit_72 C p0 k8 hk8 l4 r26 l4 σ27
set_option maxHeartbeats 4000000 in
set_option maxRecDepth 100000 in
theorem w_X11_strongestFit_8 {l : Launch} {Z : zzG} {base : Nat} {PL : Nat → Option (Nat × Int32)} {mm : zzS} {p : Program} {e : Env} {s : State} {m : MethodId} {args : Array Value} {below : List Frame} {meth : Method} {c : Code} (C : zzCx p m meth c s args cX11_strongestFit 5 wsX11_strongestFit RX11 (some .int) Z) (p0 : Int32)   (n : Nat) : ∀ (l2 : Int32)  (l3 : Int32)  (l4 : Int32)  (σ : zzS), zzGO p l e rX11_strongestFit s m args below meth c 5 (zzA base) (zzX Z base PL mm) (zzX Z base PL mm) zzRI rX11_strongestFit.cells rX11_strongestFit.slots (f_X11_strongestFit_8 p0 n l2 l3 l4 σ) σ 0 0 8 [(0, .ref (zzad Z 0)), (1, .int p0), (2, .int l2), (3, .int l3), (4, .int l4)] [] := by
  induction n with
  | zero => exact fun _ _ _ _ r9 s9 h9 => by cases h9
  | succ n ih => exact w_X11_strongestFit_8b C p0 _ ih
set_option maxHeartbeats 4000000 in
set_option maxRecDepth 100000 in
theorem w_X11_strongestFit_e {l : Launch} {Z : zzG} {base : Nat} {PL : Nat → Option (Nat × Int32)} {mm : zzS} {p : Program} {e : Env} {s : State} {m : MethodId} {args : Array Value} {below : List Frame} {meth : Method} {c : Code} (C : zzCx p m meth c s args cX11_strongestFit 5 wsX11_strongestFit RX11 (some .int) Z) (p0 : Int32)  (σ : zzS) : zzGO p l e rX11_strongestFit s m args below meth c 5 (zzA base) (zzX Z base PL mm) (zzX Z base PL mm) zzRI rX11_strongestFit.cells rX11_strongestFit.slots (f_X11_strongestFit p0 σ) σ 0 0 0 [(0, .ref (zzad Z 0)), (1, .int p0)] [] := by
  unfold f_X11_strongestFit
  refine zz_bipush (v := -4) C dX11_strongestFit_0 (by decide) ?_
  refine zz_istore_n (loc' := [(2, .int (-4 : Int32)), (0, .ref (zzad Z 0)), (1, .int p0)]) C dX11_strongestFit_2 rfl (by decide) rfl ?_
  refine zz_iconst (v := 0) C dX11_strongestFit_3 (by decide) ?_
  refine zz_istore_n (loc' := [(3, .int (0 : Int32)), (2, .int (-4 : Int32)), (0, .ref (zzad Z 0)), (1, .int p0)]) C dX11_strongestFit_4 rfl (by decide) rfl ?_
  refine zz_iconst (v := 0) C dX11_strongestFit_5 (by decide) ?_
  refine zz_istore (loc' := [(4, .int (0 : Int32)), (3, .int (0 : Int32)), (2, .int (-4 : Int32)), (0, .ref (zzad Z 0)), (1, .int p0)]) C dX11_strongestFit_6 (by decide) rfl ?_
  refine zz_sub (loc' := [(0, .ref (zzad Z 0)), (1, .int p0), (2, .int (-4 : Int32)), (3, .int (0 : Int32)), (4, .int (0 : Int32))]) [3, 4, 2, 1, 0] rfl ?_
  exact w_X11_strongestFit_8 C p0 200 (-4 : Int32) (0 : Int32) (0 : Int32) σ
set_option maxHeartbeats 4000000 in
set_option maxRecDepth 100000 in
theorem k_X11_strongestFit {l : Launch} {Z : zzG} {base : Nat} {PL : Nat → Option (Nat × Int32)} {mm : zzS} (p0 : Int32)  (σ : zzS) : zzCT l yX11_strongestFit wsX11_strongestFit rX11_strongestFit (zzA base) Z (zzX Z base PL mm) (zzX Z base PL mm) zzRI [.ref (zzad Z 0), .int p0] (f_X11_strongestFit p0 σ) σ :=
  zzCT_of (cc := cX11_strongestFit) (nL := 5) (ret := (some .int)) (by decide) rfl (Nat.le_of_ble_eq_true rfl) [(0, .ref (zzad Z 0)), (1, .int p0)] rfl (fun p e s m args below meth c C => w_X11_strongestFit_e C p0 σ)
abbrev rX11_soonest : Room := { frames := 5, cells := 0, slots := 0, locals := 118 }

set_option maxHeartbeats 4000000 in
set_option maxRecDepth 100000 in
theorem w_X11_soonest_e {l : Launch} {Z : zzG} {base : Nat} {PL : Nat → Option (Nat × Int32)} {mm : zzS} {p : Program} {e : Env} {s : State} {m : MethodId} {args : Array Value} {below : List Frame} {meth : Method} {c : Code} (C : zzCx p m meth c s args cX11_soonest 4 wsX11_soonest RX11 (some .int) Z) (p0 : Int32)  (p1 : Int32)  (σ : zzS) : zzGO p l e rX11_soonest s m args below meth c 4 (zzA base) (zzX Z base PL mm) (zzX Z base PL mm) zzRI rX11_soonest.cells rX11_soonest.slots (f_X11_soonest p0 p1 σ) σ 0 0 0 [(0, .ref (zzad Z 0)), (1, .int p0), (2, .int p1)] [] := by
  unfold f_X11_soonest
  refine zz_aload_n C dX11_soonest_0 rfl 0 rfl ?_
  refine zz_get C zzX_obj (fun _ h9 => List.mem_cons_of_mem _ (List.mem_append_left _ (List.mem_append_left _ (List.mem_append_left _ (List.mem_append_left _ (List.mem_append_left _ (List.mem_append_left _ (List.mem_append_left _ (List.mem_append_left _ (List.mem_append_left _ (List.mem_append_right _ (h9)))))))))))) rfl 3 (by decide) (List.mem_of_getElem? (i := 1) rfl) (Or.inl rfl) rfl dX11_soonest_1 ?_
  refine zz_iload_n C dX11_soonest_4 rfl 1 rfl ?_
  refine zz_callV C (Cn := RX10) (b := zzad Z 20) (fun H hH => zz_recv C.2.2.2 ((zzX_town (Or.inl rfl)) H hH) rfl) (As := [.int p0]) (rest := []) rfl (k_X10_has 20 (Or.inl rfl) p0 σ) (cwV 1 C.1.2.2.2.2 gX11_soonest_X10_has rfl rfl rfl (by decide +kernel) ⟨Nat.le_of_ble_eq_true rfl, Nat.le_of_ble_eq_true rfl⟩) rfl (Nat.le_of_ble_eq_true rfl) ⟨Nat.zero_le _, Nat.zero_le _⟩ dX11_soonest_5 (zz_kI rfl rfl (fun r1 σ2 => ?_))
  refine zz_if_eq (tgt := 18) C dX11_soonest_8 (by decide) (fun h3 => ?_) (fun h3 => ?_)
  · refine zz_iconst (v := -1) C dX11_soonest_18 (by decide) ?_
    exact zz_iret C rfl rfl (fun _ h9 => h9) (Nat.zero_le _) (Nat.zero_le _) dX11_soonest_19
  · refine zz_iload_n C dX11_soonest_11 rfl 2 rfl ?_
    refine zz_callS (As := [.int p1]) (rest := []) C rfl (k_X11_isOneOfTwo p1 σ2) (va_cwS 1 C.1.2.2.2.2 gX11_soonest_X11_isOneOfTwo rfl rfl rfl (by decide +kernel) ⟨Nat.le_of_ble_eq_true rfl, Nat.le_of_ble_eq_true rfl⟩) rfl (Nat.le_of_ble_eq_true rfl) ⟨Nat.zero_le _, Nat.zero_le _⟩ dX11_soonest_12 (zz_kI rfl rfl (fun r4 σ5 => ?_))
    refine zz_if_ne (tgt := 20) C dX11_soonest_15 (by decide) (fun h6 => ?_) (fun h6 => ?_)
    · refine zz_aload_n C dX11_soonest_20 rfl 0 rfl ?_
      refine zz_iload_n C dX11_soonest_21 rfl 1 rfl ?_
      refine zz_callV C (Cn := RX11) (b := zzad Z 0) (fun H hH => zz_recv C.2.2.2 (zzX_obj H hH) rfl) (As := [.int p0]) (rest := []) rfl (k_X11_fewestTurnings p0 σ5) (cwV 1 C.1.2.2.2.2 gX11_soonest_X11_fewestTurnings rfl rfl rfl (by decide +kernel) ⟨Nat.le_of_ble_eq_true rfl, Nat.le_of_ble_eq_true rfl⟩) rfl (Nat.le_of_ble_eq_true rfl) ⟨Nat.zero_le _, Nat.zero_le _⟩ dX11_soonest_22 (zz_kI rfl rfl (fun r7 σ8 => ?_))
      refine zz_istore_n (loc' := [(3, .int r7), (0, .ref (zzad Z 0)), (1, .int p0), (2, .int p1)]) C dX11_soonest_25 rfl (by decide) rfl ?_
      refine zz_iload_n C dX11_soonest_26 rfl 3 rfl ?_
      refine zz_if_ne (tgt := 32) C dX11_soonest_27 (by decide) (fun h9 => ?_) (fun h9 => ?_)
      · refine zz_iload_n C dX11_soonest_32 rfl 0 rfl ?_
        refine zz_if_le (tgt := 44) C dX11_soonest_33 (by decide) (fun h10 => ?_) (fun h10 => ?_)
        · refine zz_bipush (v := -4) C dX11_soonest_44 (by decide) ?_
          exact zz_iret C rfl rfl (fun _ h9 => h9) (Nat.zero_le _) (Nat.zero_le _) dX11_soonest_46
        · refine zz_aload_n C dX11_soonest_36 rfl 1 rfl ?_
          refine zz_iload_n C dX11_soonest_37 rfl 2 rfl ?_
          refine zz_callV C (Cn := RX11) (b := zzad Z 0) (fun H hH => zz_recv C.2.2.2 (zzX_obj H hH) rfl) (As := [.int p0]) (rest := []) rfl (k_X11_strongestFit p0 σ8) (cwV 1 C.1.2.2.2.2 gX11_soonest_X11_strongestFit rfl rfl rfl (by decide +kernel) ⟨Nat.le_of_ble_eq_true rfl, Nat.le_of_ble_eq_true rfl⟩) rfl (Nat.le_of_ble_eq_true rfl) ⟨Nat.zero_le _, Nat.zero_le _⟩ dX11_soonest_38 (zz_kI rfl rfl (fun r11 σ12 => ?_))
          refine zz_goto (tgt := 46) C dX11_soonest_41 (by decide) ?_
          exact zz_iret C rfl rfl (fun _ h9 => h9) (Nat.zero_le _) (Nat.zero_le _) dX11_soonest_46
      · refine zz_iload_n C dX11_soonest_30 rfl 0 rfl ?_
        exact zz_iret C rfl rfl (fun _ h9 => h9) (Nat.zero_le _) (Nat.zero_le _) dX11_soonest_31
    · refine zz_iconst (v := -1) C dX11_soonest_18 (by decide) ?_
      exact zz_iret C rfl rfl (fun _ h9 => h9) (Nat.zero_le _) (Nat.zero_le _) dX11_soonest_19
set_option maxHeartbeats 4000000 in
set_option maxRecDepth 100000 in
theorem k_X11_soonest {l : Launch} {Z : zzG} {base : Nat} {PL : Nat → Option (Nat × Int32)} {mm : zzS} (p0 : Int32)  (p1 : Int32)  (σ : zzS) : zzCT l yX11_soonest wsX11_soonest rX11_soonest (zzA base) Z (zzX Z base PL mm) (zzX Z base PL mm) zzRI [.ref (zzad Z 0), .int p0, .int p1] (f_X11_soonest p0 p1 σ) σ :=
  zzCT_of (cc := cX11_soonest) (nL := 4) (ret := (some .int)) (by decide) rfl (Nat.le_of_ble_eq_true rfl) [(0, .ref (zzad Z 0)), (1, .int p0), (2, .int p1)] rfl (fun p e s m args below meth c C => w_X11_soonest_e C p0 p1 σ)
abbrev rX11_hide : Room := { frames := 4, cells := 0, slots := 0, locals := 91 }

set_option maxHeartbeats 4000000 in
set_option maxRecDepth 100000 in
theorem w_X11_hide_46 {l : Launch} {Z : zzG} {base : Nat} {PL : Nat → Option (Nat × Int32)} {mm : zzS} {p : Program} {e : Env} {s : State} {m : MethodId} {args : Array Value} {below : List Frame} {meth : Method} {c : Code} (C : zzCx p m meth c s args cX11_hide 5 wsX11_hide RX11 (some .int) Z) (p0 : Int32)  (k17 : Int32 → Int32 → zzS → Option (Int32 × zzS)) (hk17 : ∀ (l2 : Int32)  (l3 : Int32)  (σ : zzS), zzGO p l e rX11_hide s m args below meth c 5 (zzA base) (zzX Z base PL mm) (zzX Z base PL mm) zzRI rX11_hide.cells rX11_hide.slots (k17 l2 l3 σ) σ 0 0 17 [(0, .ref (zzad Z 0)), (1, .int p0), (2, .int l2), (3, .int l3)] []) (l2 : Int32)  (l3 : Int32)  (s0 : Int32)  (σ : zzS) : zzGO p l e rX11_hide s m args below meth c 5 (zzA base) (zzX Z base PL mm) (zzX Z base PL mm) zzRI rX11_hide.cells rX11_hide.slots (f_X11_hide_46 k17 p0 l2 l3 s0 σ) σ 0 0 46 [(0, .ref (zzad Z 0)), (1, .int p0), (2, .int l2), (3, .int l3)] [.int s0] := by
  unfold f_X11_hide_46
  refine zz_istore (loc' := [(4, .int s0), (0, .ref (zzad Z 0)), (1, .int p0), (2, .int l2), (3, .int l3)]) C dX11_hide_46 (by decide) rfl ?_
  refine zz_iload C dX11_hide_48 0 rfl ?_
  refine zz_bipush (v := 99) C dX11_hide_50 (by decide) ?_
  refine zz_icmp_lt (tgt := 58) C dX11_hide_52 (by decide) (fun h1 => ?_) (fun h1 => ?_)
  · refine zz_iload_n C dX11_hide_58 rfl 3 rfl ?_
    refine zz_iload C dX11_hide_59 0 rfl ?_
    refine zz_iadd C dX11_hide_61 ?_
    refine zz_istoreX_n (locf := fun x2 => [(2, .int x2), (4, .int s0), (0, .ref (zzad Z 0)), (1, .int p0), (3, .int l3)]) C dX11_hide_62 rfl (by decide) (fun _ => rfl) (fun x2 => ?_)
    refine zz_iincX (d := 1) (locf := fun x3 => [(3, .int x3), (2, .int x2), (4, .int s0), (0, .ref (zzad Z 0)), (1, .int p0)]) C dX11_hide_63 (k := 4) rfl (by decide) (by decide) (fun _ => rfl) (fun x3 => ?_)
    refine zz_goto (tgt := 17) C dX11_hide_66 (by decide) ?_
    refine zz_sub (loc' := [(0, .ref (zzad Z 0)), (1, .int p0), (2, .int x2), (3, .int x3)]) [3, 4, 1, 0] rfl ?_
    exact hk17 x2 x3 σ
  · refine zz_bipush (v := -4) C dX11_hide_55 (by decide) ?_
    exact zz_iret C rfl rfl (fun _ h9 => h9) (Nat.zero_le _) (Nat.zero_le _) dX11_hide_57
set_option maxHeartbeats 4000000 in
set_option maxRecDepth 100000 in
theorem w_X11_hide_17b {l : Launch} {Z : zzG} {base : Nat} {PL : Nat → Option (Nat × Int32)} {mm : zzS} {p : Program} {e : Env} {s : State} {m : MethodId} {args : Array Value} {below : List Frame} {meth : Method} {c : Code} (C : zzCx p m meth c s args cX11_hide 5 wsX11_hide RX11 (some .int) Z) (p0 : Int32)   (k17 : Int32 → Int32 → zzS → Option (Int32 × zzS)) (hk17 : ∀ (l2 : Int32)  (l3 : Int32)  (σ : zzS), zzGO p l e rX11_hide s m args below meth c 5 (zzA base) (zzX Z base PL mm) (zzX Z base PL mm) zzRI rX11_hide.cells rX11_hide.slots (k17 l2 l3 σ) σ 0 0 17 [(0, .ref (zzad Z 0)), (1, .int p0), (2, .int l2), (3, .int l3)] []) (l2 : Int32)  (l3 : Int32)  (σ : zzS) : zzGO p l e rX11_hide s m args below meth c 5 (zzA base) (zzX Z base PL mm) (zzX Z base PL mm) zzRI rX11_hide.cells rX11_hide.slots (f_X11_hide_17b k17 p0 l2 l3 σ) σ 0 0 17 [(0, .ref (zzad Z 0)), (1, .int p0), (2, .int l2), (3, .int l3)] [] := by
  unfold f_X11_hide_17b
  refine zz_iload_n C dX11_hide_17 rfl 3 rfl ?_
  refine zz_aload_n C dX11_hide_18 rfl 0 rfl ?_
  refine zz_get C zzX_obj (fun _ h9 => List.mem_cons_of_mem _ (List.mem_append_left _ (List.mem_append_left _ (List.mem_append_left _ (List.mem_append_left _ (List.mem_append_left _ (List.mem_append_left _ (List.mem_append_left _ (List.mem_append_left _ (List.mem_append_left _ (List.mem_append_right _ (h9)))))))))))) rfl 3 (by decide) (List.mem_of_getElem? (i := 1) rfl) (Or.inl rfl) rfl dX11_hide_19 ?_
  refine zz_get C (zzX_town (Or.inl rfl)) (fun _ h9 => List.mem_cons_of_mem _ (List.mem_append_left _ (List.mem_append_left _ (List.mem_append_left _ (List.mem_append_left _ (List.mem_append_left _ (List.mem_append_left _ (List.mem_append_left _ (List.mem_append_left _ (List.mem_append_right _ (h9))))))))))) rfl 4 (by decide) (List.mem_of_getElem? (i := 2) rfl) (Or.inl rfl) rfl dX11_hide_22 ?_
  refine zz_icmp_ge (tgt := 69) C dX11_hide_25 (by decide) (fun h1 => ?_) (fun h1 => ?_)
  · refine zz_iload_n C dX11_hide_69 rfl 2 rfl ?_
    exact zz_iret C rfl rfl (fun _ h9 => h9) (Nat.zero_le _) (Nat.zero_le _) dX11_hide_70
  · refine zz_iload_n C dX11_hide_28 rfl 3 rfl ?_
    refine zz_iload_n C dX11_hide_29 rfl 1 rfl ?_
    refine zz_icmp_ne (tgt := 37) C dX11_hide_30 (by decide) (fun h2 => ?_) (fun h2 => ?_)
    · refine zz_aload_n C dX11_hide_37 rfl 0 rfl ?_
      refine zz_get C zzX_obj (fun _ h9 => List.mem_cons_of_mem _ (List.mem_append_left _ (List.mem_append_left _ (List.mem_append_left _ (List.mem_append_left _ (List.mem_append_left _ (List.mem_append_left _ (List.mem_append_left _ (List.mem_append_left _ (List.mem_append_left _ (List.mem_append_right _ (h9)))))))))))) rfl 3 (by decide) (List.mem_of_getElem? (i := 1) rfl) (Or.inl rfl) rfl dX11_hide_38 ?_
      refine zz_iload_n C dX11_hide_41 rfl 3 rfl ?_
      refine zz_iload_n C dX11_hide_42 rfl 1 rfl ?_
      refine zz_callV C (Cn := RX10) (b := zzad Z 20) (fun H hH => zz_recv C.2.2.2 ((zzX_town (Or.inl rfl)) H hH) rfl) (As := [.int l3, .int p0]) (rest := []) rfl (k_X10_turningsTillUnfit 20 (Or.inl rfl) l3 p0 σ) (cwV 2 C.1.2.2.2.2 gX11_hide_X10_turningsTillUnfit rfl rfl rfl (by decide +kernel) ⟨Nat.le_of_ble_eq_true rfl, Nat.le_of_ble_eq_true rfl⟩) rfl (Nat.le_of_ble_eq_true rfl) ⟨Nat.zero_le _, Nat.zero_le _⟩ dX11_hide_43 (zz_kI rfl rfl (fun r3 σ4 => ?_))
      refine zz_sub (loc' := [(0, .ref (zzad Z 0)), (1, .int p0), (2, .int l2), (3, .int l3)]) [0, 1, 2, 3] rfl ?_
      exact w_X11_hide_46 C p0 k17 hk17 l2 l3 r3 σ4
    · refine zz_iconst (v := 0) C dX11_hide_33 (by decide) ?_
      refine zz_goto (tgt := 46) C dX11_hide_34 (by decide) ?_
      refine zz_sub (loc' := [(0, .ref (zzad Z 0)), (1, .int p0), (2, .int l2), (3, .int l3)]) [0, 1, 2, 3] rfl ?_
      exact w_X11_hide_46 C p0 k17 hk17 l2 l3 (0 : Int32) σ
set_option maxHeartbeats 4000000 in
set_option maxRecDepth 100000 in
theorem w_X11_hide_17 {l : Launch} {Z : zzG} {base : Nat} {PL : Nat → Option (Nat × Int32)} {mm : zzS} {p : Program} {e : Env} {s : State} {m : MethodId} {args : Array Value} {below : List Frame} {meth : Method} {c : Code} (C : zzCx p m meth c s args cX11_hide 5 wsX11_hide RX11 (some .int) Z) (p0 : Int32)   (n : Nat) : ∀ (l2 : Int32)  (l3 : Int32)  (σ : zzS), zzGO p l e rX11_hide s m args below meth c 5 (zzA base) (zzX Z base PL mm) (zzX Z base PL mm) zzRI rX11_hide.cells rX11_hide.slots (f_X11_hide_17 p0 n l2 l3 σ) σ 0 0 17 [(0, .ref (zzad Z 0)), (1, .int p0), (2, .int l2), (3, .int l3)] [] := by
  induction n with
  | zero => exact fun _ _ _ r9 s9 h9 => by cases h9
  | succ n ih => exact w_X11_hide_17b C p0 _ ih
set_option maxHeartbeats 4000000 in
set_option maxRecDepth 100000 in
theorem w_X11_hide_e {l : Launch} {Z : zzG} {base : Nat} {PL : Nat → Option (Nat × Int32)} {mm : zzS} {p : Program} {e : Env} {s : State} {m : MethodId} {args : Array Value} {below : List Frame} {meth : Method} {c : Code} (C : zzCx p m meth c s args cX11_hide 5 wsX11_hide RX11 (some .int) Z) (p0 : Int32)  (σ : zzS) : zzGO p l e rX11_hide s m args below meth c 5 (zzA base) (zzX Z base PL mm) (zzX Z base PL mm) zzRI rX11_hide.cells rX11_hide.slots (f_X11_hide p0 σ) σ 0 0 0 [(0, .ref (zzad Z 0)), (1, .int p0)] [] := by
  unfold f_X11_hide
  refine zz_aload_n C dX11_hide_0 rfl 0 rfl ?_
  refine zz_get C zzX_obj (fun _ h9 => List.mem_cons_of_mem _ (List.mem_append_left _ (List.mem_append_left _ (List.mem_append_left _ (List.mem_append_left _ (List.mem_append_left _ (List.mem_append_left _ (List.mem_append_left _ (List.mem_append_left _ (List.mem_append_left _ (List.mem_append_right _ (h9)))))))))))) rfl 3 (by decide) (List.mem_of_getElem? (i := 1) rfl) (Or.inl rfl) rfl dX11_hide_1 ?_
  refine zz_iload_n C dX11_hide_4 rfl 1 rfl ?_
  refine zz_callV C (Cn := RX10) (b := zzad Z 20) (fun H hH => zz_recv C.2.2.2 ((zzX_town (Or.inl rfl)) H hH) rfl) (As := [.int p0]) (rest := []) rfl (k_X10_has 20 (Or.inl rfl) p0 σ) (cwV 1 C.1.2.2.2.2 gX11_hide_X10_has rfl rfl rfl (by decide +kernel) ⟨Nat.le_of_ble_eq_true rfl, Nat.le_of_ble_eq_true rfl⟩) rfl (Nat.le_of_ble_eq_true rfl) ⟨Nat.zero_le _, Nat.zero_le _⟩ dX11_hide_5 (zz_kI rfl rfl (fun r1 σ2 => ?_))
  refine zz_if_ne (tgt := 13) C dX11_hide_8 (by decide) (fun h3 => ?_) (fun h3 => ?_)
  · refine zz_iconst (v := 0) C dX11_hide_13 (by decide) ?_
    refine zz_istore_n (loc' := [(2, .int (0 : Int32)), (0, .ref (zzad Z 0)), (1, .int p0)]) C dX11_hide_14 rfl (by decide) rfl ?_
    refine zz_iconst (v := 0) C dX11_hide_15 (by decide) ?_
    refine zz_istore_n (loc' := [(3, .int (0 : Int32)), (2, .int (0 : Int32)), (0, .ref (zzad Z 0)), (1, .int p0)]) C dX11_hide_16 rfl (by decide) rfl ?_
    refine zz_sub (loc' := [(0, .ref (zzad Z 0)), (1, .int p0), (2, .int (0 : Int32)), (3, .int (0 : Int32))]) [2, 3, 1, 0] rfl ?_
    exact w_X11_hide_17 C p0 200 (0 : Int32) (0 : Int32) σ2
  · refine zz_iconst (v := -1) C dX11_hide_11 (by decide) ?_
    exact zz_iret C rfl rfl (fun _ h9 => h9) (Nat.zero_le _) (Nat.zero_le _) dX11_hide_12
set_option maxHeartbeats 4000000 in
set_option maxRecDepth 100000 in
theorem k_X11_hide {l : Launch} {Z : zzG} {base : Nat} {PL : Nat → Option (Nat × Int32)} {mm : zzS} (p0 : Int32)  (σ : zzS) : zzCT l yX11_hide wsX11_hide rX11_hide (zzA base) Z (zzX Z base PL mm) (zzX Z base PL mm) zzRI [.ref (zzad Z 0), .int p0] (f_X11_hide p0 σ) σ :=
  zzCT_of (cc := cX11_hide) (nL := 5) (ret := (some .int)) (by decide) rfl (Nat.le_of_ble_eq_true rfl) [(0, .ref (zzad Z 0)), (1, .int p0)] rfl (fun p e s m args below meth c C => w_X11_hide_e C p0 σ)
abbrev rX11_keeps : Room := { frames := 4, cells := 0, slots := 0, locals := 91 }

set_option maxHeartbeats 4000000 in
set_option maxRecDepth 100000 in
theorem w_X11_keeps_e {l : Launch} {Z : zzG} {base : Nat} {PL : Nat → Option (Nat × Int32)} {mm : zzS} {p : Program} {e : Env} {s : State} {m : MethodId} {args : Array Value} {below : List Frame} {meth : Method} {c : Code} (C : zzCx p m meth c s args cX11_keeps 4 wsX11_keeps RX11 (some .int) Z) (p0 : Int32)  (p1 : Int32)  (σ : zzS) : zzGO p l e rX11_keeps s m args below meth c 4 (zzA base) (zzX Z base PL mm) (zzX Z base PL mm) zzRI rX11_keeps.cells rX11_keeps.slots (f_X11_keeps p0 p1 σ) σ 0 0 0 [(0, .ref (zzad Z 0)), (1, .int p0), (2, .int p1)] [] := by
  unfold f_X11_keeps
  refine zz_aload_n C dX11_keeps_0 rfl 0 rfl ?_
  refine zz_get C zzX_obj (fun _ h9 => List.mem_cons_of_mem _ (List.mem_append_left _ (List.mem_append_left _ (List.mem_append_left _ (List.mem_append_left _ (List.mem_append_left _ (List.mem_append_left _ (List.mem_append_left _ (List.mem_append_left _ (List.mem_append_left _ (List.mem_append_right _ (h9)))))))))))) rfl 3 (by decide) (List.mem_of_getElem? (i := 1) rfl) (Or.inl rfl) rfl dX11_keeps_1 ?_
  refine zz_iload_n C dX11_keeps_4 rfl 1 rfl ?_
  refine zz_iload_n C dX11_keeps_5 rfl 2 rfl ?_
  refine zz_callV C (Cn := RX10) (b := zzad Z 20) (fun H hH => zz_recv C.2.2.2 ((zzX_town (Or.inl rfl)) H hH) rfl) (As := [.int p0, .int p1]) (rest := []) rfl (k_X10_areTwo 20 (Or.inl rfl) p0 p1 σ) (cwV 2 C.1.2.2.2.2 gX11_keeps_X10_areTwo rfl rfl rfl (by decide +kernel) ⟨Nat.le_of_ble_eq_true rfl, Nat.le_of_ble_eq_true rfl⟩) rfl (Nat.le_of_ble_eq_true rfl) ⟨Nat.zero_le _, Nat.zero_le _⟩ dX11_keeps_6 (zz_kI rfl rfl (fun r1 σ2 => ?_))
  refine zz_if_ne (tgt := 14) C dX11_keeps_9 (by decide) (fun h3 => ?_) (fun h3 => ?_)
  · refine zz_aload_n C dX11_keeps_14 rfl 0 rfl ?_
    refine zz_get C zzX_obj (fun _ h9 => List.mem_cons_of_mem _ (List.mem_append_left _ (List.mem_append_left _ (List.mem_append_left _ (List.mem_append_left _ (List.mem_append_left _ (List.mem_append_left _ (List.mem_append_left _ (List.mem_append_left _ (List.mem_append_left _ (List.mem_append_right _ (h9)))))))))))) rfl 3 (by decide) (List.mem_of_getElem? (i := 1) rfl) (Or.inl rfl) rfl dX11_keeps_15 ?_
    refine zz_iload_n C dX11_keeps_18 rfl 1 rfl ?_
    refine zz_iload_n C dX11_keeps_19 rfl 2 rfl ?_
    refine zz_callV C (Cn := RX10) (b := zzad Z 20) (fun H hH => zz_recv C.2.2.2 ((zzX_town (Or.inl rfl)) H hH) rfl) (As := [.int p0, .int p1]) (rest := []) rfl (k_X10_turningsTillUnfit 20 (Or.inl rfl) p0 p1 σ2) (cwV 2 C.1.2.2.2.2 gX11_keeps_X10_turningsTillUnfit rfl rfl rfl (by decide +kernel) ⟨Nat.le_of_ble_eq_true rfl, Nat.le_of_ble_eq_true rfl⟩) rfl (Nat.le_of_ble_eq_true rfl) ⟨Nat.zero_le _, Nat.zero_le _⟩ dX11_keeps_20 (zz_kI rfl rfl (fun r4 σ5 => ?_))
    refine zz_istore_n (loc' := [(3, .int r4), (0, .ref (zzad Z 0)), (1, .int p0), (2, .int p1)]) C dX11_keeps_23 rfl (by decide) rfl ?_
    refine zz_iload_n C dX11_keeps_24 rfl 0 rfl ?_
    refine zz_if_ne (tgt := 31) C dX11_keeps_25 (by decide) (fun h6 => ?_) (fun h6 => ?_)
    · refine zz_iload_n C dX11_keeps_31 rfl 0 rfl ?_
      refine zz_bipush (v := 99) C dX11_keeps_32 (by decide) ?_
      refine zz_icmp_lt (tgt := 42) C dX11_keeps_34 (by decide) (fun h7 => ?_) (fun h7 => ?_)
      · refine zz_iload_n C dX11_keeps_42 rfl 0 rfl ?_
        refine zz_iconst (v := 1) C dX11_keeps_43 (by decide) ?_
        refine zz_isub C dX11_keeps_44 ?_
        exact zz_iret C rfl rfl (fun _ h9 => h9) (Nat.zero_le _) (Nat.zero_le _) dX11_keeps_45
      · refine zz_bipush (v := 99) C dX11_keeps_37 (by decide) ?_
        refine zz_goto (tgt := 45) C dX11_keeps_39 (by decide) ?_
        exact zz_iret C rfl rfl (fun _ h9 => h9) (Nat.zero_le _) (Nat.zero_le _) dX11_keeps_45
    · refine zz_bipush (v := -3) C dX11_keeps_28 (by decide) ?_
      exact zz_iret C rfl rfl (fun _ h9 => h9) (Nat.zero_le _) (Nat.zero_le _) dX11_keeps_30
  · refine zz_iconst (v := -1) C dX11_keeps_12 (by decide) ?_
    exact zz_iret C rfl rfl (fun _ h9 => h9) (Nat.zero_le _) (Nat.zero_le _) dX11_keeps_13
set_option maxHeartbeats 4000000 in
set_option maxRecDepth 100000 in
theorem k_X11_keeps {l : Launch} {Z : zzG} {base : Nat} {PL : Nat → Option (Nat × Int32)} {mm : zzS} (p0 : Int32)  (p1 : Int32)  (σ : zzS) : zzCT l yX11_keeps wsX11_keeps rX11_keeps (zzA base) Z (zzX Z base PL mm) (zzX Z base PL mm) zzRI [.ref (zzad Z 0), .int p0, .int p1] (f_X11_keeps p0 p1 σ) σ :=
  zzCT_of (cc := cX11_keeps) (nL := 4) (ret := (some .int)) (by decide) rfl (Nat.le_of_ble_eq_true rfl) [(0, .ref (zzad Z 0)), (1, .int p0), (2, .int p1)] rfl (fun p e s m args below meth c C => w_X11_keeps_e C p0 p1 σ)
abbrev rX11_allAreTold : Room := { frames := 6, cells := 0, slots := 0, locals := 135 }

set_option maxHeartbeats 4000000 in
set_option maxRecDepth 100000 in
theorem w_X11_allAreTold_e {l : Launch} {Z : zzG} {base : Nat} {PL : Nat → Option (Nat × Int32)} {mm : zzS} {p : Program} {e : Env} {s : State} {m : MethodId} {args : Array Value} {below : List Frame} {meth : Method} {c : Code} (C : zzCx p m meth c s args cX11_allAreTold 2 wsX11_allAreTold RX11 (some .boolean) Z) (p0 : Int32)  (σ : zzS) : zzGO p l e rX11_allAreTold s m args below meth c 2 (zzA base) (zzX Z base PL mm) (zzX Z base PL mm) zzRI rX11_allAreTold.cells rX11_allAreTold.slots (f_X11_allAreTold p0 σ) σ 0 0 0 [(0, .ref (zzad Z 0)), (1, .int p0)] [] := by
  unfold f_X11_allAreTold
  refine zz_aload_n C dX11_allAreTold_0 rfl 0 rfl ?_
  refine zz_get C zzX_obj (fun _ h9 => List.mem_cons_of_mem _ (List.mem_append_left _ (List.mem_append_left _ (List.mem_append_right _ (h9))))) rfl 6 (by decide) (List.mem_of_getElem? (i := 1) rfl) (Or.inl rfl) rfl dX11_allAreTold_1 ?_
  refine zz_aload_n C dX11_allAreTold_4 rfl 0 rfl ?_
  refine zz_get C zzX_obj (fun _ h9 => List.mem_cons_of_mem _ (List.mem_append_left _ (List.mem_append_left _ (List.mem_append_right _ (h9))))) rfl 3 (by decide) (List.mem_of_getElem? (i := 2) rfl) (Or.inl rfl) rfl dX11_allAreTold_5 ?_
  refine zz_iload_n C dX11_allAreTold_8 rfl 1 rfl ?_
  refine zz_callV C (Cn := RX2) (b := zzad Z 32) (fun H hH => zz_recv C.2.2.2 (zzX_circ H hH) rfl) (As := [.ref (zzad Z 20), .int p0]) (rest := []) rfl (k_X2_gather 20 (Or.inl rfl) p0 σ) (cwV 2 C.1.2.2.2.2 gX11_allAreTold_X2_gather rfl rfl rfl (by decide +kernel) ⟨Nat.le_of_ble_eq_true rfl, Nat.le_of_ble_eq_true rfl⟩) rfl (Nat.le_of_ble_eq_true rfl) ⟨Nat.zero_le _, Nat.zero_le _⟩ dX11_allAreTold_9 (zz_kV rfl rfl (fun r1 σ2 => ?_))
  refine zz_aload_n C dX11_allAreTold_12 rfl 0 rfl ?_
  refine zz_get C zzX_obj (fun _ h9 => List.mem_cons_of_mem _ (List.mem_append_left _ (List.mem_append_left _ (List.mem_append_right _ (h9))))) rfl 6 (by decide) (List.mem_of_getElem? (i := 1) rfl) (Or.inl rfl) rfl dX11_allAreTold_13 ?_
  refine zz_callV C (Cn := RX2) (b := zzad Z 32) (fun H hH => zz_recv C.2.2.2 (zzX_circ H hH) rfl) (As := []) (rest := []) rfl (k_X2_waysForAll σ2) (cwV 0 C.1.2.2.2.2 gX11_allAreTold_X2_waysForAll rfl rfl rfl (by decide +kernel) ⟨Nat.le_of_ble_eq_true rfl, Nat.le_of_ble_eq_true rfl⟩) rfl (Nat.le_of_ble_eq_true rfl) ⟨Nat.zero_le _, Nat.zero_le _⟩ dX11_allAreTold_16 (zz_kI rfl rfl (fun r3 σ4 => ?_))
  refine zz_if_le (tgt := 26) C dX11_allAreTold_19 (by decide) (fun h5 => ?_) (fun h5 => ?_)
  · refine zz_iconst (v := 0) C dX11_allAreTold_26 (by decide) ?_
    exact zz_zret C rfl (Or.inl rfl) rfl (fun _ h9 => h9) (Nat.zero_le _) (Nat.zero_le _) dX11_allAreTold_27
  · refine zz_iconst (v := 1) C dX11_allAreTold_22 (by decide) ?_
    refine zz_goto (tgt := 27) C dX11_allAreTold_23 (by decide) ?_
    exact zz_zret C rfl (Or.inr rfl) rfl (fun _ h9 => h9) (Nat.zero_le _) (Nat.zero_le _) dX11_allAreTold_27
set_option maxHeartbeats 4000000 in
set_option maxRecDepth 100000 in
theorem k_X11_allAreTold {l : Launch} {Z : zzG} {base : Nat} {PL : Nat → Option (Nat × Int32)} {mm : zzS} (p0 : Int32)  (σ : zzS) : zzCT l yX11_allAreTold wsX11_allAreTold rX11_allAreTold (zzA base) Z (zzX Z base PL mm) (zzX Z base PL mm) zzRI [.ref (zzad Z 0), .int p0] (f_X11_allAreTold p0 σ) σ :=
  zzCT_of (cc := cX11_allAreTold) (nL := 2) (ret := (some .boolean)) (by decide) rfl (Nat.le_of_ble_eq_true rfl) [(0, .ref (zzad Z 0)), (1, .int p0)] rfl (fun p e s m args below meth c C => w_X11_allAreTold_e C p0 σ)
abbrev rX11_eachHasSomebody : Room := { frames := 5, cells := 0, slots := 0, locals := 112 }

set_option maxHeartbeats 4000000 in
set_option maxRecDepth 100000 in
theorem w_X11_eachHasSomebody_2b {l : Launch} {Z : zzG} {base : Nat} {PL : Nat → Option (Nat × Int32)} {mm : zzS} {p : Program} {e : Env} {s : State} {m : MethodId} {args : Array Value} {below : List Frame} {meth : Method} {c : Code} (C : zzCx p m meth c s args cX11_eachHasSomebody 3 wsX11_eachHasSomebody RX11 (some .boolean) Z) (p0 : Int32)   (k2 : Int32 → zzS → Option (Int32 × zzS)) (hk2 : ∀ (l2 : Int32)  (σ : zzS), zzGO p l e rX11_eachHasSomebody s m args below meth c 3 (zzA base) (zzX Z base PL mm) (zzX Z base PL mm) zzRI rX11_eachHasSomebody.cells rX11_eachHasSomebody.slots (k2 l2 σ) σ 0 0 2 [(0, .ref (zzad Z 0)), (1, .int p0), (2, .int l2)] []) (l2 : Int32)  (σ : zzS) : zzGO p l e rX11_eachHasSomebody s m args below meth c 3 (zzA base) (zzX Z base PL mm) (zzX Z base PL mm) zzRI rX11_eachHasSomebody.cells rX11_eachHasSomebody.slots (f_X11_eachHasSomebody_2b k2 p0 l2 σ) σ 0 0 2 [(0, .ref (zzad Z 0)), (1, .int p0), (2, .int l2)] [] := by
  unfold f_X11_eachHasSomebody_2b
  refine zz_iload_n C dX11_eachHasSomebody_2 rfl 2 rfl ?_
  refine zz_aload_n C dX11_eachHasSomebody_3 rfl 0 rfl ?_
  refine zz_get C zzX_obj (fun _ h9 => List.mem_cons_of_mem _ (List.mem_append_left _ (List.mem_append_right _ (h9)))) rfl 3 (by decide) (List.mem_of_getElem? (i := 1) rfl) (Or.inl rfl) rfl dX11_eachHasSomebody_4 ?_
  refine zz_get C (zzX_town (Or.inl rfl)) (fun _ h9 => List.mem_cons_of_mem _ (List.mem_append_right _ (h9))) rfl 4 (by decide) (List.mem_of_getElem? (i := 2) rfl) (Or.inl rfl) rfl dX11_eachHasSomebody_7 ?_
  refine zz_icmp_ge (tgt := 33) C dX11_eachHasSomebody_10 (by decide) (fun h1 => ?_) (fun h1 => ?_)
  · refine zz_iconst (v := 1) C dX11_eachHasSomebody_33 (by decide) ?_
    exact zz_zret C rfl (Or.inr rfl) rfl (fun _ h9 => h9) (Nat.zero_le _) (Nat.zero_le _) dX11_eachHasSomebody_34
  · refine zz_aload_n C dX11_eachHasSomebody_13 rfl 0 rfl ?_
    refine zz_get C zzX_obj (fun _ h9 => List.mem_cons_of_mem _ (List.mem_append_left _ (List.mem_append_right _ (h9)))) rfl 3 (by decide) (List.mem_of_getElem? (i := 1) rfl) (Or.inl rfl) rfl dX11_eachHasSomebody_14 ?_
    refine zz_iload_n C dX11_eachHasSomebody_17 rfl 2 rfl ?_
    refine zz_iload_n C dX11_eachHasSomebody_18 rfl 1 rfl ?_
    refine zz_callV C (Cn := RX10) (b := zzad Z 20) (fun H hH => zz_recv C.2.2.2 ((zzX_town (Or.inl rfl)) H hH) rfl) (As := [.int l2, .int p0]) (rest := []) rfl (k_X10_fitFor 20 (Or.inl rfl) l2 p0 σ) (cwV 2 C.1.2.2.2.2 gX11_eachHasSomebody_X10_fitFor rfl rfl rfl (by decide +kernel) ⟨Nat.le_of_ble_eq_true rfl, Nat.le_of_ble_eq_true rfl⟩) rfl (Nat.le_of_ble_eq_true rfl) ⟨Nat.zero_le _, Nat.zero_le _⟩ dX11_eachHasSomebody_19 (zz_kI rfl rfl (fun r2 σ3 => ?_))
    refine zz_if_ne (tgt := 27) C dX11_eachHasSomebody_22 (by decide) (fun h4 => ?_) (fun h4 => ?_)
    · refine zz_iincX (d := 1) (locf := fun x5 => [(2, .int x5), (0, .ref (zzad Z 0)), (1, .int p0)]) C dX11_eachHasSomebody_27 (k := 2) rfl (by decide) (by decide) (fun _ => rfl) (fun x5 => ?_)
      refine zz_goto (tgt := 2) C dX11_eachHasSomebody_30 (by decide) ?_
      refine zz_sub (loc' := [(0, .ref (zzad Z 0)), (1, .int p0), (2, .int x5)]) [1, 2, 0] rfl ?_
      exact hk2 x5 σ3
    · refine zz_iconst (v := 0) C dX11_eachHasSomebody_25 (by decide) ?_
      exact zz_zret C rfl (Or.inl rfl) rfl (fun _ h9 => h9) (Nat.zero_le _) (Nat.zero_le _) dX11_eachHasSomebody_26
set_option maxHeartbeats 4000000 in
set_option maxRecDepth 100000 in
theorem w_X11_eachHasSomebody_2 {l : Launch} {Z : zzG} {base : Nat} {PL : Nat → Option (Nat × Int32)} {mm : zzS} {p : Program} {e : Env} {s : State} {m : MethodId} {args : Array Value} {below : List Frame} {meth : Method} {c : Code} (C : zzCx p m meth c s args cX11_eachHasSomebody 3 wsX11_eachHasSomebody RX11 (some .boolean) Z) (p0 : Int32)   (n : Nat) : ∀ (l2 : Int32)  (σ : zzS), zzGO p l e rX11_eachHasSomebody s m args below meth c 3 (zzA base) (zzX Z base PL mm) (zzX Z base PL mm) zzRI rX11_eachHasSomebody.cells rX11_eachHasSomebody.slots (f_X11_eachHasSomebody_2 p0 n l2 σ) σ 0 0 2 [(0, .ref (zzad Z 0)), (1, .int p0), (2, .int l2)] [] := by
  induction n with
  | zero => exact fun _ _ r9 s9 h9 => by cases h9
  | succ n ih => exact w_X11_eachHasSomebody_2b C p0 _ ih
set_option maxHeartbeats 4000000 in
set_option maxRecDepth 100000 in
theorem w_X11_eachHasSomebody_e {l : Launch} {Z : zzG} {base : Nat} {PL : Nat → Option (Nat × Int32)} {mm : zzS} {p : Program} {e : Env} {s : State} {m : MethodId} {args : Array Value} {below : List Frame} {meth : Method} {c : Code} (C : zzCx p m meth c s args cX11_eachHasSomebody 3 wsX11_eachHasSomebody RX11 (some .boolean) Z) (p0 : Int32)  (σ : zzS) : zzGO p l e rX11_eachHasSomebody s m args below meth c 3 (zzA base) (zzX Z base PL mm) (zzX Z base PL mm) zzRI rX11_eachHasSomebody.cells rX11_eachHasSomebody.slots (f_X11_eachHasSomebody p0 σ) σ 0 0 0 [(0, .ref (zzad Z 0)), (1, .int p0)] [] := by
  unfold f_X11_eachHasSomebody
  refine zz_iconst (v := 0) C dX11_eachHasSomebody_0 (by decide) ?_
  refine zz_istore_n (loc' := [(2, .int (0 : Int32)), (0, .ref (zzad Z 0)), (1, .int p0)]) C dX11_eachHasSomebody_1 rfl (by decide) rfl ?_
  refine zz_sub (loc' := [(0, .ref (zzad Z 0)), (1, .int p0), (2, .int (0 : Int32))]) [1, 2, 0] rfl ?_
  exact w_X11_eachHasSomebody_2 C p0 200 (0 : Int32) σ
set_option maxHeartbeats 4000000 in
set_option maxRecDepth 100000 in
theorem k_X11_eachHasSomebody {l : Launch} {Z : zzG} {base : Nat} {PL : Nat → Option (Nat × Int32)} {mm : zzS} (p0 : Int32)  (σ : zzS) : zzCT l yX11_eachHasSomebody wsX11_eachHasSomebody rX11_eachHasSomebody (zzA base) Z (zzX Z base PL mm) (zzX Z base PL mm) zzRI [.ref (zzad Z 0), .int p0] (f_X11_eachHasSomebody p0 σ) σ :=
  zzCT_of (cc := cX11_eachHasSomebody) (nL := 3) (ret := (some .boolean)) (by decide) rfl (Nat.le_of_ble_eq_true rfl) [(0, .ref (zzad Z 0)), (1, .int p0)] rfl (fun p e s m args below meth c C => w_X11_eachHasSomebody_e C p0 σ)
abbrev rX11_enough : Room := { frames := 7, cells := 0, slots := 0, locals := 156 }

set_option maxHeartbeats 4000000 in
set_option maxRecDepth 100000 in
theorem w_X11_enough_42 {l : Launch} {Z : zzG} {base : Nat} {PL : Nat → Option (Nat × Int32)} {mm : zzS} {p : Program} {e : Env} {s : State} {m : MethodId} {args : Array Value} {below : List Frame} {meth : Method} {c : Code} (C : zzCx p m meth c s args cX11_enough 3 wsX11_enough RX11 (some .int) Z) (p0 : Int32)  (k11 : Int32 → zzS → Option (Int32 × zzS)) (hk11 : ∀ (l2 : Int32)  (σ : zzS), zzGO p l e rX11_enough s m args below meth c 3 (zzA base) (zzX Z base PL mm) (zzX Z base PL mm) zzRI rX11_enough.cells rX11_enough.slots (k11 l2 σ) σ 0 0 11 [(0, .ref (zzad Z 0)), (1, .int p0), (2, .int l2)] []) (l2 : Int32)  (σ : zzS) : zzGO p l e rX11_enough s m args below meth c 3 (zzA base) (zzX Z base PL mm) (zzX Z base PL mm) zzRI rX11_enough.cells rX11_enough.slots (f_X11_enough_42 k11 p0 l2 σ) σ 0 0 42 [(0, .ref (zzad Z 0)), (1, .int p0), (2, .int l2)] [] := by
  unfold f_X11_enough_42
  refine zz_iincX (d := 1) (locf := fun x1 => [(2, .int x1), (0, .ref (zzad Z 0)), (1, .int p0)]) C dX11_enough_42 (k := 2) rfl (by decide) (by decide) (fun _ => rfl) (fun x1 => ?_)
  refine zz_goto (tgt := 11) C dX11_enough_45 (by decide) ?_
  refine zz_sub (loc' := [(0, .ref (zzad Z 0)), (1, .int p0), (2, .int x1)]) [1, 2, 0] rfl ?_
  exact hk11 x1 σ
set_option maxHeartbeats 4000000 in
set_option maxRecDepth 100000 in
theorem w_X11_enough_11b {l : Launch} {Z : zzG} {base : Nat} {PL : Nat → Option (Nat × Int32)} {mm : zzS} {p : Program} {e : Env} {s : State} {m : MethodId} {args : Array Value} {below : List Frame} {meth : Method} {c : Code} (C : zzCx p m meth c s args cX11_enough 3 wsX11_enough RX11 (some .int) Z) (p0 : Int32)   (k11 : Int32 → zzS → Option (Int32 × zzS)) (hk11 : ∀ (l2 : Int32)  (σ : zzS), zzGO p l e rX11_enough s m args below meth c 3 (zzA base) (zzX Z base PL mm) (zzX Z base PL mm) zzRI rX11_enough.cells rX11_enough.slots (k11 l2 σ) σ 0 0 11 [(0, .ref (zzad Z 0)), (1, .int p0), (2, .int l2)] []) (l2 : Int32)  (σ : zzS) : zzGO p l e rX11_enough s m args below meth c 3 (zzA base) (zzX Z base PL mm) (zzX Z base PL mm) zzRI rX11_enough.cells rX11_enough.slots (f_X11_enough_11b k11 p0 l2 σ) σ 0 0 11 [(0, .ref (zzad Z 0)), (1, .int p0), (2, .int l2)] [] := by
  unfold f_X11_enough_11b
  refine zz_iload_n C dX11_enough_11 rfl 2 rfl ?_
  refine zz_bipush (v := 9) C dX11_enough_12 (by decide) ?_
  refine zz_icmp_gt (tgt := 48) C dX11_enough_14 (by decide) (fun h1 => ?_) (fun h1 => ?_)
  · refine zz_bipush (v := -4) C dX11_enough_48 (by decide) ?_
    exact zz_iret C rfl rfl (fun _ h9 => h9) (Nat.zero_le _) (Nat.zero_le _) dX11_enough_50
  · refine zz_iload_n C dX11_enough_17 rfl 1 rfl ?_
    refine zz_if_ne (tgt := 32) C dX11_enough_18 (by decide) (fun h2 => ?_) (fun h2 => ?_)
    · refine zz_aload_n C dX11_enough_32 rfl 0 rfl ?_
      refine zz_iload_n C dX11_enough_33 rfl 2 rfl ?_
      refine zz_callV C (Cn := RX11) (b := zzad Z 0) (fun H hH => zz_recv C.2.2.2 (zzX_obj H hH) rfl) (As := [.int l2]) (rest := []) rfl (k_X11_eachHasSomebody l2 σ) (cwV 1 C.1.2.2.2.2 gX11_enough_X11_eachHasSomebody rfl rfl rfl (by decide +kernel) ⟨Nat.le_of_ble_eq_true rfl, Nat.le_of_ble_eq_true rfl⟩) rfl (Nat.le_of_ble_eq_true rfl) ⟨Nat.zero_le _, Nat.zero_le _⟩ dX11_enough_34 (zz_kI rfl rfl (fun r3 σ4 => ?_))
      refine zz_if_eq (tgt := 42) C dX11_enough_37 (by decide) (fun h5 => ?_) (fun h5 => ?_)
      · refine zz_sub (loc' := [(0, .ref (zzad Z 0)), (1, .int p0), (2, .int l2)]) [0, 1, 2] rfl ?_
        exact w_X11_enough_42 C p0 k11 hk11 l2 σ4
      · refine zz_iload_n C dX11_enough_40 rfl 2 rfl ?_
        exact zz_iret C rfl rfl (fun _ h9 => h9) (Nat.zero_le _) (Nat.zero_le _) dX11_enough_41
    · refine zz_aload_n C dX11_enough_21 rfl 0 rfl ?_
      refine zz_iload_n C dX11_enough_22 rfl 2 rfl ?_
      refine zz_callV C (Cn := RX11) (b := zzad Z 0) (fun H hH => zz_recv C.2.2.2 (zzX_obj H hH) rfl) (As := [.int l2]) (rest := []) rfl (k_X11_allAreTold l2 σ) (cwV 1 C.1.2.2.2.2 gX11_enough_X11_allAreTold rfl rfl rfl (by decide +kernel) ⟨Nat.le_of_ble_eq_true rfl, Nat.le_of_ble_eq_true rfl⟩) rfl (Nat.le_of_ble_eq_true rfl) ⟨Nat.zero_le _, Nat.zero_le _⟩ dX11_enough_23 (zz_kI rfl rfl (fun r6 σ7 => ?_))
      refine zz_if_eq (tgt := 42) C dX11_enough_26 (by decide) (fun h8 => ?_) (fun h8 => ?_)
      · refine zz_sub (loc' := [(0, .ref (zzad Z 0)), (1, .int p0), (2, .int l2)]) [0, 1, 2] rfl ?_
        exact w_X11_enough_42 C p0 k11 hk11 l2 σ7
      · refine zz_goto (tgt := 40) C dX11_enough_29 (by decide) ?_
        refine zz_iload_n C dX11_enough_40 rfl 2 rfl ?_
        exact zz_iret C rfl rfl (fun _ h9 => h9) (Nat.zero_le _) (Nat.zero_le _) dX11_enough_41
set_option maxHeartbeats 4000000 in
set_option maxRecDepth 100000 in
theorem w_X11_enough_11 {l : Launch} {Z : zzG} {base : Nat} {PL : Nat → Option (Nat × Int32)} {mm : zzS} {p : Program} {e : Env} {s : State} {m : MethodId} {args : Array Value} {below : List Frame} {meth : Method} {c : Code} (C : zzCx p m meth c s args cX11_enough 3 wsX11_enough RX11 (some .int) Z) (p0 : Int32)   (n : Nat) : ∀ (l2 : Int32)  (σ : zzS), zzGO p l e rX11_enough s m args below meth c 3 (zzA base) (zzX Z base PL mm) (zzX Z base PL mm) zzRI rX11_enough.cells rX11_enough.slots (f_X11_enough_11 p0 n l2 σ) σ 0 0 11 [(0, .ref (zzad Z 0)), (1, .int p0), (2, .int l2)] [] := by
  induction n with
  | zero => exact fun _ _ r9 s9 h9 => by cases h9
  | succ n ih => exact w_X11_enough_11b C p0 _ ih
set_option maxHeartbeats 4000000 in
set_option maxRecDepth 100000 in
theorem w_X11_enough_e {l : Launch} {Z : zzG} {base : Nat} {PL : Nat → Option (Nat × Int32)} {mm : zzS} {p : Program} {e : Env} {s : State} {m : MethodId} {args : Array Value} {below : List Frame} {meth : Method} {c : Code} (C : zzCx p m meth c s args cX11_enough 3 wsX11_enough RX11 (some .int) Z) (p0 : Int32)  (σ : zzS) : zzGO p l e rX11_enough s m args below meth c 3 (zzA base) (zzX Z base PL mm) (zzX Z base PL mm) zzRI rX11_enough.cells rX11_enough.slots (f_X11_enough p0 σ) σ 0 0 0 [(0, .ref (zzad Z 0)), (1, .int p0)] [] := by
  unfold f_X11_enough
  refine zz_iload_n C dX11_enough_0 rfl 1 rfl ?_
  refine zz_callS (As := [.int p0]) (rest := []) C rfl (k_X11_isOneOfTwo p0 σ) (va_cwS 1 C.1.2.2.2.2 gX11_enough_X11_isOneOfTwo rfl rfl rfl (by decide +kernel) ⟨Nat.le_of_ble_eq_true rfl, Nat.le_of_ble_eq_true rfl⟩) rfl (Nat.le_of_ble_eq_true rfl) ⟨Nat.zero_le _, Nat.zero_le _⟩ dX11_enough_1 (zz_kI rfl rfl (fun r1 σ2 => ?_))
  refine zz_if_ne (tgt := 9) C dX11_enough_4 (by decide) (fun h3 => ?_) (fun h3 => ?_)
  · refine zz_iconst (v := 0) C dX11_enough_9 (by decide) ?_
    refine zz_istore_n (loc' := [(2, .int (0 : Int32)), (0, .ref (zzad Z 0)), (1, .int p0)]) C dX11_enough_10 rfl (by decide) rfl ?_
    refine zz_sub (loc' := [(0, .ref (zzad Z 0)), (1, .int p0), (2, .int (0 : Int32))]) [1, 2, 0] rfl ?_
    exact w_X11_enough_11 C p0 200 (0 : Int32) σ2
  · refine zz_iconst (v := -1) C dX11_enough_7 (by decide) ?_
    exact zz_iret C rfl rfl (fun _ h9 => h9) (Nat.zero_le _) (Nat.zero_le _) dX11_enough_8
set_option maxHeartbeats 4000000 in
set_option maxRecDepth 100000 in
theorem k_X11_enough {l : Launch} {Z : zzG} {base : Nat} {PL : Nat → Option (Nat × Int32)} {mm : zzS} (p0 : Int32)  (σ : zzS) : zzCT l yX11_enough wsX11_enough rX11_enough (zzA base) Z (zzX Z base PL mm) (zzX Z base PL mm) zzRI [.ref (zzad Z 0), .int p0] (f_X11_enough p0 σ) σ :=
  zzCT_of (cc := cX11_enough) (nL := 3) (ret := (some .int)) (by decide) rfl (Nat.le_of_ble_eq_true rfl) [(0, .ref (zzad Z 0)), (1, .int p0)] rfl (fun p e s m args below meth c C => w_X11_enough_e C p0 σ)
abbrev rX11_loved : Room := { frames := 3, cells := 0, slots := 0, locals := 65 }

set_option maxHeartbeats 4000000 in
set_option maxRecDepth 100000 in
theorem w_X11_loved_82 {l : Launch} {Z : zzG} {base : Nat} {PL : Nat → Option (Nat × Int32)} {mm : zzS} {p : Program} {e : Env} {s : State} {m : MethodId} {args : Array Value} {below : List Frame} {meth : Method} {c : Code} (C : zzCx p m meth c s args cX11_loved 7 wsX11_loved RX11 (some .int) Z) (p0 : Int32)  (k18 : Int32 → Int32 → Int32 → zzS → Option (Int32 × zzS)) (hk18 : ∀ (l2 : Int32)  (l3 : Int32)  (l4 : Int32)  (σ : zzS), zzGO p l e rX11_loved s m args below meth c 7 (zzA base) (zzX Z base PL mm) (zzX Z base PL mm) zzRI rX11_loved.cells rX11_loved.slots (k18 l2 l3 l4 σ) σ 0 0 18 [(0, .ref (zzad Z 0)), (1, .int p0), (2, .int l2), (3, .int l3), (4, .int l4)] []) (l2 : Int32)  (l3 : Int32)  (l4 : Int32)  (σ : zzS) : zzGO p l e rX11_loved s m args below meth c 7 (zzA base) (zzX Z base PL mm) (zzX Z base PL mm) zzRI rX11_loved.cells rX11_loved.slots (f_X11_loved_82 k18 p0 l2 l3 l4 σ) σ 0 0 82 [(0, .ref (zzad Z 0)), (1, .int p0), (2, .int l2), (3, .int l3), (4, .int l4)] [] := by
  unfold f_X11_loved_82
  refine zz_iincX (d := 1) (locf := fun x1 => [(4, .int x1), (0, .ref (zzad Z 0)), (1, .int p0), (2, .int l2), (3, .int l3)]) C dX11_loved_82 (k := 4) rfl (by decide) (by decide) (fun _ => rfl) (fun x1 => ?_)
  refine zz_goto (tgt := 18) C dX11_loved_85 (by decide) ?_
  refine zz_sub (loc' := [(0, .ref (zzad Z 0)), (1, .int p0), (2, .int l2), (3, .int l3), (4, .int x1)]) [1, 2, 3, 4, 0] rfl ?_
  exact hk18 l2 l3 x1 σ
set_option maxHeartbeats 4000000 in
set_option maxRecDepth 100000 in
theorem w_X11_loved_36b {l : Launch} {Z : zzG} {base : Nat} {PL : Nat → Option (Nat × Int32)} {mm : zzS} {p : Program} {e : Env} {s : State} {m : MethodId} {args : Array Value} {below : List Frame} {meth : Method} {c : Code} (C : zzCx p m meth c s args cX11_loved 7 wsX11_loved RX11 (some .int) Z) (p0 : Int32)  (k18 : Int32 → Int32 → Int32 → zzS → Option (Int32 × zzS)) (hk18 : ∀ (l2 : Int32)  (l3 : Int32)  (l4 : Int32)  (σ : zzS), zzGO p l e rX11_loved s m args below meth c 7 (zzA base) (zzX Z base PL mm) (zzX Z base PL mm) zzRI rX11_loved.cells rX11_loved.slots (k18 l2 l3 l4 σ) σ 0 0 18 [(0, .ref (zzad Z 0)), (1, .int p0), (2, .int l2), (3, .int l3), (4, .int l4)] []) (k36 : Int32 → Int32 → Int32 → Int32 → Int32 → zzS → Option (Int32 × zzS)) (hk36 : ∀ (l2 : Int32)  (l3 : Int32)  (l4 : Int32)  (l5 : Int32)  (l6 : Int32)  (σ : zzS), zzGO p l e rX11_loved s m args below meth c 7 (zzA base) (zzX Z base PL mm) (zzX Z base PL mm) zzRI rX11_loved.cells rX11_loved.slots (k36 l2 l3 l4 l5 l6 σ) σ 0 0 36 [(0, .ref (zzad Z 0)), (1, .int p0), (2, .int l2), (3, .int l3), (4, .int l4), (5, .int l5), (6, .int l6)] []) (l2 : Int32)  (l3 : Int32)  (l4 : Int32)  (l5 : Int32)  (l6 : Int32)  (σ : zzS) : zzGO p l e rX11_loved s m args below meth c 7 (zzA base) (zzX Z base PL mm) (zzX Z base PL mm) zzRI rX11_loved.cells rX11_loved.slots (f_X11_loved_36b k18 k36 p0 l2 l3 l4 l5 l6 σ) σ 0 0 36 [(0, .ref (zzad Z 0)), (1, .int p0), (2, .int l2), (3, .int l3), (4, .int l4), (5, .int l5), (6, .int l6)] [] := by
  unfold f_X11_loved_36b
  refine zz_iload C dX11_loved_36 6 rfl ?_
  refine zz_aload_n C dX11_loved_38 rfl 0 rfl ?_
  refine zz_get C zzX_obj (fun _ h9 => List.mem_cons_of_mem _ (List.mem_append_left _ (List.mem_append_right _ (h9)))) rfl 3 (by decide) (List.mem_of_getElem? (i := 1) rfl) (Or.inl rfl) rfl dX11_loved_39 ?_
  refine zz_get C (zzX_town (Or.inl rfl)) (fun _ h9 => List.mem_cons_of_mem _ (List.mem_append_right _ (h9))) rfl 4 (by decide) (List.mem_of_getElem? (i := 2) rfl) (Or.inl rfl) rfl dX11_loved_42 ?_
  refine zz_icmp_ge (tgt := 70) C dX11_loved_45 (by decide) (fun h1 => ?_) (fun h1 => ?_)
  · refine zz_iload C dX11_loved_70 5 rfl ?_
    refine zz_iload_n C dX11_loved_72 rfl 3 rfl ?_
    refine zz_icmp_le (tgt := 82) C dX11_loved_73 (by decide) (fun h2 => ?_) (fun h2 => ?_)
    · refine zz_sub (loc' := [(0, .ref (zzad Z 0)), (1, .int p0), (2, .int l2), (3, .int l3), (4, .int l4)]) [0, 1, 2, 3, 4] rfl ?_
      exact w_X11_loved_82 C p0 k18 hk18 l2 l3 l4 σ
    · refine zz_iload C dX11_loved_76 4 rfl ?_
      refine zz_istore_n (loc' := [(2, .int l4), (0, .ref (zzad Z 0)), (1, .int p0), (3, .int l3), (4, .int l4), (5, .int l5), (6, .int l6)]) C dX11_loved_78 rfl (by decide) rfl ?_
      refine zz_iload C dX11_loved_79 5 rfl ?_
      refine zz_istore_n (loc' := [(3, .int l5), (2, .int l4), (0, .ref (zzad Z 0)), (1, .int p0), (4, .int l4), (5, .int l5), (6, .int l6)]) C dX11_loved_81 rfl (by decide) rfl ?_
      refine zz_sub (loc' := [(0, .ref (zzad Z 0)), (1, .int p0), (2, .int l4), (3, .int l5), (4, .int l4)]) [2, 3, 1, 0, 4] rfl ?_
      exact w_X11_loved_82 C p0 k18 hk18 l4 l5 l4 σ
  · refine zz_iload C dX11_loved_48 5 rfl ?_
    refine zz_aload_n C dX11_loved_50 rfl 0 rfl ?_
    refine zz_get C zzX_obj (fun _ h9 => List.mem_cons_of_mem _ (List.mem_append_left _ (List.mem_append_right _ (h9)))) rfl 3 (by decide) (List.mem_of_getElem? (i := 1) rfl) (Or.inl rfl) rfl dX11_loved_51 ?_
    refine zz_iload C dX11_loved_54 6 rfl ?_
    refine zz_iload C dX11_loved_56 4 rfl ?_
    refine zz_callV C (Cn := RX10) (b := zzad Z 20) (fun H hH => zz_recv C.2.2.2 ((zzX_town (Or.inl rfl)) H hH) rfl) (As := [.int l6, .int l4]) (rest := [.int l5]) rfl (k_X10_fondOf 20 (Or.inl rfl) l6 l4 σ) (cwV 2 C.1.2.2.2.2 gX11_loved_X10_fondOf rfl rfl rfl (by decide +kernel) ⟨Nat.le_of_ble_eq_true rfl, Nat.le_of_ble_eq_true rfl⟩) rfl (Nat.le_of_ble_eq_true rfl) ⟨Nat.zero_le _, Nat.zero_le _⟩ dX11_loved_58 (zz_kI rfl rfl (fun r3 σ4 => ?_))
    refine zz_iadd C dX11_loved_61 ?_
    refine zz_istoreX (locf := fun x5 => [(5, .int x5), (0, .ref (zzad Z 0)), (1, .int p0), (2, .int l2), (3, .int l3), (4, .int l4), (6, .int l6)]) C dX11_loved_62 (by decide) (fun _ => rfl) (fun x5 => ?_)
    refine zz_iincX (d := 1) (locf := fun x6 => [(6, .int x6), (5, .int x5), (0, .ref (zzad Z 0)), (1, .int p0), (2, .int l2), (3, .int l3), (4, .int l4)]) C dX11_loved_64 (k := 6) rfl (by decide) (by decide) (fun _ => rfl) (fun x6 => ?_)
    refine zz_goto (tgt := 36) C dX11_loved_67 (by decide) ?_
    refine zz_sub (loc' := [(0, .ref (zzad Z 0)), (1, .int p0), (2, .int l2), (3, .int l3), (4, .int l4), (5, .int x5), (6, .int x6)]) [2, 3, 4, 5, 6, 1, 0] rfl ?_
    exact hk36 l2 l3 l4 x5 x6 σ4
set_option maxHeartbeats 4000000 in
set_option maxRecDepth 100000 in
theorem w_X11_loved_36 {l : Launch} {Z : zzG} {base : Nat} {PL : Nat → Option (Nat × Int32)} {mm : zzS} {p : Program} {e : Env} {s : State} {m : MethodId} {args : Array Value} {below : List Frame} {meth : Method} {c : Code} (C : zzCx p m meth c s args cX11_loved 7 wsX11_loved RX11 (some .int) Z) (p0 : Int32)  (k18 : Int32 → Int32 → Int32 → zzS → Option (Int32 × zzS)) (hk18 : ∀ (l2 : Int32)  (l3 : Int32)  (l4 : Int32)  (σ : zzS), zzGO p l e rX11_loved s m args below meth c 7 (zzA base) (zzX Z base PL mm) (zzX Z base PL mm) zzRI rX11_loved.cells rX11_loved.slots (k18 l2 l3 l4 σ) σ 0 0 18 [(0, .ref (zzad Z 0)), (1, .int p0), (2, .int l2), (3, .int l3), (4, .int l4)] []) (n : Nat) : ∀ (l2 : Int32)  (l3 : Int32)  (l4 : Int32)  (l5 : Int32)  (l6 : Int32)  (σ : zzS), zzGO p l e rX11_loved s m args below meth c 7 (zzA base) (zzX Z base PL mm) (zzX Z base PL mm) zzRI rX11_loved.cells rX11_loved.slots (f_X11_loved_36 k18 p0 n l2 l3 l4 l5 l6 σ) σ 0 0 36 [(0, .ref (zzad Z 0)), (1, .int p0), (2, .int l2), (3, .int l3), (4, .int l4), (5, .int l5), (6, .int l6)] [] := by
  induction n with
  | zero => exact fun _ _ _ _ _ _ r9 s9 h9 => by cases h9
  | succ n ih => exact w_X11_loved_36b C p0 k18 hk18 _ ih
set_option maxHeartbeats 4000000 in
set_option maxRecDepth 100000 in
theorem w_X11_loved_18b {l : Launch} {Z : zzG} {base : Nat} {PL : Nat → Option (Nat × Int32)} {mm : zzS} {p : Program} {e : Env} {s : State} {m : MethodId} {args : Array Value} {below : List Frame} {meth : Method} {c : Code} (C : zzCx p m meth c s args cX11_loved 7 wsX11_loved RX11 (some .int) Z) (p0 : Int32)   (k18 : Int32 → Int32 → Int32 → zzS → Option (Int32 × zzS)) (hk18 : ∀ (l2 : Int32)  (l3 : Int32)  (l4 : Int32)  (σ : zzS), zzGO p l e rX11_loved s m args below meth c 7 (zzA base) (zzX Z base PL mm) (zzX Z base PL mm) zzRI rX11_loved.cells rX11_loved.slots (k18 l2 l3 l4 σ) σ 0 0 18 [(0, .ref (zzad Z 0)), (1, .int p0), (2, .int l2), (3, .int l3), (4, .int l4)] []) (l2 : Int32)  (l3 : Int32)  (l4 : Int32)  (σ : zzS) : zzGO p l e rX11_loved s m args below meth c 7 (zzA base) (zzX Z base PL mm) (zzX Z base PL mm) zzRI rX11_loved.cells rX11_loved.slots (f_X11_loved_18b k18 p0 l2 l3 l4 σ) σ 0 0 18 [(0, .ref (zzad Z 0)), (1, .int p0), (2, .int l2), (3, .int l3), (4, .int l4)] [] := by
  unfold f_X11_loved_18b
  refine zz_iload C dX11_loved_18 4 rfl ?_
  refine zz_aload_n C dX11_loved_20 rfl 0 rfl ?_
  refine zz_get C zzX_obj (fun _ h9 => List.mem_cons_of_mem _ (List.mem_append_left _ (List.mem_append_right _ (h9)))) rfl 3 (by decide) (List.mem_of_getElem? (i := 1) rfl) (Or.inl rfl) rfl dX11_loved_21 ?_
  refine zz_get C (zzX_town (Or.inl rfl)) (fun _ h9 => List.mem_cons_of_mem _ (List.mem_append_right _ (h9))) rfl 4 (by decide) (List.mem_of_getElem? (i := 2) rfl) (Or.inl rfl) rfl dX11_loved_24 ?_
  refine zz_icmp_ge (tgt := 88) C dX11_loved_27 (by decide) (fun h1 => ?_) (fun h1 => ?_)
  · refine zz_iload_n C dX11_loved_88 rfl 1 rfl ?_
    refine zz_if_ne (tgt := 96) C dX11_loved_89 (by decide) (fun h2 => ?_) (fun h2 => ?_)
    · refine zz_iload_n C dX11_loved_96 rfl 3 rfl ?_
      exact zz_iret C rfl rfl (fun _ h9 => h9) (Nat.zero_le _) (Nat.zero_le _) dX11_loved_97
    · refine zz_iload_n C dX11_loved_92 rfl 2 rfl ?_
      refine zz_goto (tgt := 97) C dX11_loved_93 (by decide) ?_
      exact zz_iret C rfl rfl (fun _ h9 => h9) (Nat.zero_le _) (Nat.zero_le _) dX11_loved_97
  · refine zz_iconst (v := 0) C dX11_loved_30 (by decide) ?_
    refine zz_istore (loc' := [(5, .int (0 : Int32)), (0, .ref (zzad Z 0)), (1, .int p0), (2, .int l2), (3, .int l3), (4, .int l4)]) C dX11_loved_31 (by decide) rfl ?_
    refine zz_iconst (v := 0) C dX11_loved_33 (by decide) ?_
    refine zz_istore (loc' := [(6, .int (0 : Int32)), (5, .int (0 : Int32)), (0, .ref (zzad Z 0)), (1, .int p0), (2, .int l2), (3, .int l3), (4, .int l4)]) C dX11_loved_34 (by decide) rfl ?_
    refine zz_sub (loc' := [(0, .ref (zzad Z 0)), (1, .int p0), (2, .int l2), (3, .int l3), (4, .int l4), (5, .int (0 : Int32)), (6, .int (0 : Int32))]) [2, 3, 4, 5, 6, 1, 0] rfl ?_
    exact w_X11_loved_36 C p0 k18 hk18 200 l2 l3 l4 (0 : Int32) (0 : Int32) σ
set_option maxHeartbeats 4000000 in
set_option maxRecDepth 100000 in
theorem w_X11_loved_18 {l : Launch} {Z : zzG} {base : Nat} {PL : Nat → Option (Nat × Int32)} {mm : zzS} {p : Program} {e : Env} {s : State} {m : MethodId} {args : Array Value} {below : List Frame} {meth : Method} {c : Code} (C : zzCx p m meth c s args cX11_loved 7 wsX11_loved RX11 (some .int) Z) (p0 : Int32)   (n : Nat) : ∀ (l2 : Int32)  (l3 : Int32)  (l4 : Int32)  (σ : zzS), zzGO p l e rX11_loved s m args below meth c 7 (zzA base) (zzX Z base PL mm) (zzX Z base PL mm) zzRI rX11_loved.cells rX11_loved.slots (f_X11_loved_18 p0 n l2 l3 l4 σ) σ 0 0 18 [(0, .ref (zzad Z 0)), (1, .int p0), (2, .int l2), (3, .int l3), (4, .int l4)] [] := by
  induction n with
  | zero => exact fun _ _ _ _ r9 s9 h9 => by cases h9
  | succ n ih => exact w_X11_loved_18b C p0 _ ih
set_option maxHeartbeats 4000000 in
set_option maxRecDepth 100000 in
theorem w_X11_loved_e {l : Launch} {Z : zzG} {base : Nat} {PL : Nat → Option (Nat × Int32)} {mm : zzS} {p : Program} {e : Env} {s : State} {m : MethodId} {args : Array Value} {below : List Frame} {meth : Method} {c : Code} (C : zzCx p m meth c s args cX11_loved 7 wsX11_loved RX11 (some .int) Z) (p0 : Int32)  (σ : zzS) : zzGO p l e rX11_loved s m args below meth c 7 (zzA base) (zzX Z base PL mm) (zzX Z base PL mm) zzRI rX11_loved.cells rX11_loved.slots (f_X11_loved p0 σ) σ 0 0 0 [(0, .ref (zzad Z 0)), (1, .int p0)] [] := by
  unfold f_X11_loved
  refine zz_iload_n C dX11_loved_0 rfl 1 rfl ?_
  refine zz_callS (As := [.int p0]) (rest := []) C rfl (k_X11_isOneOfTwo p0 σ) (va_cwS 1 C.1.2.2.2.2 gX11_loved_X11_isOneOfTwo rfl rfl rfl (by decide +kernel) ⟨Nat.le_of_ble_eq_true rfl, Nat.le_of_ble_eq_true rfl⟩) rfl (Nat.le_of_ble_eq_true rfl) ⟨Nat.zero_le _, Nat.zero_le _⟩ dX11_loved_1 (zz_kI rfl rfl (fun r1 σ2 => ?_))
  refine zz_if_ne (tgt := 9) C dX11_loved_4 (by decide) (fun h3 => ?_) (fun h3 => ?_)
  · refine zz_bipush (v := -4) C dX11_loved_9 (by decide) ?_
    refine zz_istore_n (loc' := [(2, .int (-4 : Int32)), (0, .ref (zzad Z 0)), (1, .int p0)]) C dX11_loved_11 rfl (by decide) rfl ?_
    refine zz_bipush (v := -4) C dX11_loved_12 (by decide) ?_
    refine zz_istore_n (loc' := [(3, .int (-4 : Int32)), (2, .int (-4 : Int32)), (0, .ref (zzad Z 0)), (1, .int p0)]) C dX11_loved_14 rfl (by decide) rfl ?_
    refine zz_iconst (v := 0) C dX11_loved_15 (by decide) ?_
    refine zz_istore (loc' := [(4, .int (0 : Int32)), (3, .int (-4 : Int32)), (2, .int (-4 : Int32)), (0, .ref (zzad Z 0)), (1, .int p0)]) C dX11_loved_16 (by decide) rfl ?_
    refine zz_sub (loc' := [(0, .ref (zzad Z 0)), (1, .int p0), (2, .int (-4 : Int32)), (3, .int (-4 : Int32)), (4, .int (0 : Int32))]) [3, 4, 2, 1, 0] rfl ?_
    exact w_X11_loved_18 C p0 200 (-4 : Int32) (-4 : Int32) (0 : Int32) σ2
  · refine zz_iconst (v := -1) C dX11_loved_7 (by decide) ?_
    exact zz_iret C rfl rfl (fun _ h9 => h9) (Nat.zero_le _) (Nat.zero_le _) dX11_loved_8
set_option maxHeartbeats 4000000 in
set_option maxRecDepth 100000 in
theorem k_X11_loved {l : Launch} {Z : zzG} {base : Nat} {PL : Nat → Option (Nat × Int32)} {mm : zzS} (p0 : Int32)  (σ : zzS) : zzCT l yX11_loved wsX11_loved rX11_loved (zzA base) Z (zzX Z base PL mm) (zzX Z base PL mm) zzRI [.ref (zzad Z 0), .int p0] (f_X11_loved p0 σ) σ :=
  zzCT_of (cc := cX11_loved) (nL := 7) (ret := (some .int)) (by decide) rfl (Nat.le_of_ble_eq_true rfl) [(0, .ref (zzad Z 0)), (1, .int p0)] rfl (fun p e s m args below meth c C => w_X11_loved_e C p0 σ)
abbrev rX11_warmest : Room := { frames := 3, cells := 0, slots := 0, locals := 65 }

set_option maxHeartbeats 4000000 in
set_option maxRecDepth 100000 in
theorem w_X11_warmest_72 {l : Launch} {Z : zzG} {base : Nat} {PL : Nat → Option (Nat × Int32)} {mm : zzS} {p : Program} {e : Env} {s : State} {m : MethodId} {args : Array Value} {below : List Frame} {meth : Method} {c : Code} (C : zzCx p m meth c s args cX11_warmest 5 wsX11_warmest RX11 (some .int) Z)  (k7 : Int32 → Int32 → Int32 → zzS → Option (Int32 × zzS)) (hk7 : ∀ (l1 : Int32)  (l2 : Int32)  (l3 : Int32)  (σ : zzS), zzGO p l e rX11_warmest s m args below meth c 5 (zzA base) (zzX Z base PL mm) (zzX Z base PL mm) zzRI rX11_warmest.cells rX11_warmest.slots (k7 l1 l2 l3 σ) σ 0 0 7 [(0, .ref (zzad Z 0)), (1, .int l1), (2, .int l2), (3, .int l3)] []) (k21 : Int32 → Int32 → Int32 → Int32 → zzS → Option (Int32 × zzS)) (hk21 : ∀ (l1 : Int32)  (l2 : Int32)  (l3 : Int32)  (l4 : Int32)  (σ : zzS), zzGO p l e rX11_warmest s m args below meth c 5 (zzA base) (zzX Z base PL mm) (zzX Z base PL mm) zzRI rX11_warmest.cells rX11_warmest.slots (k21 l1 l2 l3 l4 σ) σ 0 0 21 [(0, .ref (zzad Z 0)), (1, .int l1), (2, .int l2), (3, .int l3), (4, .int l4)] []) (l1 : Int32)  (l2 : Int32)  (l3 : Int32)  (l4 : Int32)  (σ : zzS) : zzGO p l e rX11_warmest s m args below meth c 5 (zzA base) (zzX Z base PL mm) (zzX Z base PL mm) zzRI rX11_warmest.cells rX11_warmest.slots (f_X11_warmest_72 k7 k21 l1 l2 l3 l4 σ) σ 0 0 72 [(0, .ref (zzad Z 0)), (1, .int l1), (2, .int l2), (3, .int l3), (4, .int l4)] [] := by
  unfold f_X11_warmest_72
  refine zz_iincX (d := 1) (locf := fun x1 => [(4, .int x1), (0, .ref (zzad Z 0)), (1, .int l1), (2, .int l2), (3, .int l3)]) C dX11_warmest_72 (k := 4) rfl (by decide) (by decide) (fun _ => rfl) (fun x1 => ?_)
  refine zz_goto (tgt := 21) C dX11_warmest_75 (by decide) ?_
  refine zz_sub (loc' := [(0, .ref (zzad Z 0)), (1, .int l1), (2, .int l2), (3, .int l3), (4, .int x1)]) [1, 2, 3, 4, 0] rfl ?_
  exact hk21 l1 l2 l3 x1 σ
set_option maxHeartbeats 4000000 in
set_option maxRecDepth 100000 in
theorem w_X11_warmest_21b {l : Launch} {Z : zzG} {base : Nat} {PL : Nat → Option (Nat × Int32)} {mm : zzS} {p : Program} {e : Env} {s : State} {m : MethodId} {args : Array Value} {below : List Frame} {meth : Method} {c : Code} (C : zzCx p m meth c s args cX11_warmest 5 wsX11_warmest RX11 (some .int) Z)  (k7 : Int32 → Int32 → Int32 → zzS → Option (Int32 × zzS)) (hk7 : ∀ (l1 : Int32)  (l2 : Int32)  (l3 : Int32)  (σ : zzS), zzGO p l e rX11_warmest s m args below meth c 5 (zzA base) (zzX Z base PL mm) (zzX Z base PL mm) zzRI rX11_warmest.cells rX11_warmest.slots (k7 l1 l2 l3 σ) σ 0 0 7 [(0, .ref (zzad Z 0)), (1, .int l1), (2, .int l2), (3, .int l3)] []) (k21 : Int32 → Int32 → Int32 → Int32 → zzS → Option (Int32 × zzS)) (hk21 : ∀ (l1 : Int32)  (l2 : Int32)  (l3 : Int32)  (l4 : Int32)  (σ : zzS), zzGO p l e rX11_warmest s m args below meth c 5 (zzA base) (zzX Z base PL mm) (zzX Z base PL mm) zzRI rX11_warmest.cells rX11_warmest.slots (k21 l1 l2 l3 l4 σ) σ 0 0 21 [(0, .ref (zzad Z 0)), (1, .int l1), (2, .int l2), (3, .int l3), (4, .int l4)] []) (l1 : Int32)  (l2 : Int32)  (l3 : Int32)  (l4 : Int32)  (σ : zzS) : zzGO p l e rX11_warmest s m args below meth c 5 (zzA base) (zzX Z base PL mm) (zzX Z base PL mm) zzRI rX11_warmest.cells rX11_warmest.slots (f_X11_warmest_21b k7 k21 l1 l2 l3 l4 σ) σ 0 0 21 [(0, .ref (zzad Z 0)), (1, .int l1), (2, .int l2), (3, .int l3), (4, .int l4)] [] := by
  unfold f_X11_warmest_21b
  refine zz_iload C dX11_warmest_21 4 rfl ?_
  refine zz_aload_n C dX11_warmest_23 rfl 0 rfl ?_
  refine zz_get C zzX_obj (fun _ h9 => List.mem_cons_of_mem _ (List.mem_append_left _ (List.mem_append_right _ (h9)))) rfl 3 (by decide) (List.mem_of_getElem? (i := 1) rfl) (Or.inl rfl) rfl dX11_warmest_24 ?_
  refine zz_get C (zzX_town (Or.inl rfl)) (fun _ h9 => List.mem_cons_of_mem _ (List.mem_append_right _ (h9))) rfl 4 (by decide) (List.mem_of_getElem? (i := 2) rfl) (Or.inl rfl) rfl dX11_warmest_27 ?_
  refine zz_icmp_ge (tgt := 78) C dX11_warmest_30 (by decide) (fun h1 => ?_) (fun h1 => ?_)
  · refine zz_iincX (d := 1) (locf := fun x2 => [(3, .int x2), (0, .ref (zzad Z 0)), (1, .int l1), (2, .int l2), (4, .int l4)]) C dX11_warmest_78 (k := 3) rfl (by decide) (by decide) (fun _ => rfl) (fun x2 => ?_)
    refine zz_goto (tgt := 7) C dX11_warmest_81 (by decide) ?_
    refine zz_sub (loc' := [(0, .ref (zzad Z 0)), (1, .int l1), (2, .int l2), (3, .int x2)]) [1, 2, 3, 0] rfl ?_
    exact hk7 l1 l2 x2 σ
  · refine zz_iload_n C dX11_warmest_33 rfl 3 rfl ?_
    refine zz_iload C dX11_warmest_34 4 rfl ?_
    refine zz_icmp_eq (tgt := 72) C dX11_warmest_36 (by decide) (fun h3 => ?_) (fun h3 => ?_)
    · refine zz_sub (loc' := [(0, .ref (zzad Z 0)), (1, .int l1), (2, .int l2), (3, .int l3), (4, .int l4)]) [0, 1, 2, 3, 4] rfl ?_
      exact w_X11_warmest_72 C k7 hk7 k21 hk21 l1 l2 l3 l4 σ
    · refine zz_aload_n C dX11_warmest_39 rfl 0 rfl ?_
      refine zz_get C zzX_obj (fun _ h9 => List.mem_cons_of_mem _ (List.mem_append_left _ (List.mem_append_right _ (h9)))) rfl 3 (by decide) (List.mem_of_getElem? (i := 1) rfl) (Or.inl rfl) rfl dX11_warmest_40 ?_
      refine zz_iload_n C dX11_warmest_43 rfl 3 rfl ?_
      refine zz_iload C dX11_warmest_44 4 rfl ?_
      refine zz_callV C (Cn := RX10) (b := zzad Z 20) (fun H hH => zz_recv C.2.2.2 ((zzX_town (Or.inl rfl)) H hH) rfl) (As := [.int l3, .int l4]) (rest := []) rfl (k_X10_fondOf 20 (Or.inl rfl) l3 l4 σ) (cwV 2 C.1.2.2.2.2 gX11_warmest_X10_fondOf rfl rfl rfl (by decide +kernel) ⟨Nat.le_of_ble_eq_true rfl, Nat.le_of_ble_eq_true rfl⟩) rfl (Nat.le_of_ble_eq_true rfl) ⟨Nat.zero_le _, Nat.zero_le _⟩ dX11_warmest_46 (zz_kI rfl rfl (fun r4 σ5 => ?_))
      refine zz_iload_n C dX11_warmest_49 rfl 2 rfl ?_
      refine zz_icmp_le (tgt := 72) C dX11_warmest_50 (by decide) (fun h6 => ?_) (fun h6 => ?_)
      · refine zz_sub (loc' := [(0, .ref (zzad Z 0)), (1, .int l1), (2, .int l2), (3, .int l3), (4, .int l4)]) [0, 1, 2, 3, 4] rfl ?_
        exact w_X11_warmest_72 C k7 hk7 k21 hk21 l1 l2 l3 l4 σ5
      · refine zz_bipush (v := 10) C dX11_warmest_53 (by decide) ?_
        refine zz_iload_n C dX11_warmest_55 rfl 3 rfl ?_
        refine zz_imul C dX11_warmest_56 ?_
        refine zz_iload C dX11_warmest_57 4 rfl ?_
        refine zz_iadd C dX11_warmest_59 ?_
        refine zz_istoreX_n (locf := fun x7 => [(1, .int x7), (0, .ref (zzad Z 0)), (2, .int l2), (3, .int l3), (4, .int l4)]) C dX11_warmest_60 rfl (by decide) (fun _ => rfl) (fun x7 => ?_)
        refine zz_aload_n C dX11_warmest_61 rfl 1 rfl ?_
        refine zz_get C zzX_obj (fun _ h9 => List.mem_cons_of_mem _ (List.mem_append_left _ (List.mem_append_right _ (h9)))) rfl 3 (by decide) (List.mem_of_getElem? (i := 1) rfl) (Or.inl rfl) rfl dX11_warmest_62 ?_
        refine zz_iload_n C dX11_warmest_65 rfl 3 rfl ?_
        refine zz_iload C dX11_warmest_66 4 rfl ?_
        refine zz_callV C (Cn := RX10) (b := zzad Z 20) (fun H hH => zz_recv C.2.2.2 ((zzX_town (Or.inl rfl)) H hH) rfl) (As := [.int l3, .int l4]) (rest := []) rfl (k_X10_fondOf 20 (Or.inl rfl) l3 l4 σ5) (cwV 2 C.1.2.2.2.2 gX11_warmest_X10_fondOf rfl rfl rfl (by decide +kernel) ⟨Nat.le_of_ble_eq_true rfl, Nat.le_of_ble_eq_true rfl⟩) rfl (Nat.le_of_ble_eq_true rfl) ⟨Nat.zero_le _, Nat.zero_le _⟩ dX11_warmest_68 (zz_kI rfl rfl (fun r8 σ9 => ?_))
        refine zz_istore_n (loc' := [(2, .int r8), (1, .int x7), (0, .ref (zzad Z 0)), (3, .int l3), (4, .int l4)]) C dX11_warmest_71 rfl (by decide) rfl ?_
        refine zz_sub (loc' := [(0, .ref (zzad Z 0)), (1, .int x7), (2, .int r8), (3, .int l3), (4, .int l4)]) [2, 1, 0, 3, 4] rfl ?_
        exact w_X11_warmest_72 C k7 hk7 k21 hk21 x7 r8 l3 l4 σ9
set_option maxHeartbeats 4000000 in
set_option maxRecDepth 100000 in
theorem w_X11_warmest_21 {l : Launch} {Z : zzG} {base : Nat} {PL : Nat → Option (Nat × Int32)} {mm : zzS} {p : Program} {e : Env} {s : State} {m : MethodId} {args : Array Value} {below : List Frame} {meth : Method} {c : Code} (C : zzCx p m meth c s args cX11_warmest 5 wsX11_warmest RX11 (some .int) Z)  (k7 : Int32 → Int32 → Int32 → zzS → Option (Int32 × zzS)) (hk7 : ∀ (l1 : Int32)  (l2 : Int32)  (l3 : Int32)  (σ : zzS), zzGO p l e rX11_warmest s m args below meth c 5 (zzA base) (zzX Z base PL mm) (zzX Z base PL mm) zzRI rX11_warmest.cells rX11_warmest.slots (k7 l1 l2 l3 σ) σ 0 0 7 [(0, .ref (zzad Z 0)), (1, .int l1), (2, .int l2), (3, .int l3)] []) (n : Nat) : ∀ (l1 : Int32)  (l2 : Int32)  (l3 : Int32)  (l4 : Int32)  (σ : zzS), zzGO p l e rX11_warmest s m args below meth c 5 (zzA base) (zzX Z base PL mm) (zzX Z base PL mm) zzRI rX11_warmest.cells rX11_warmest.slots (f_X11_warmest_21 k7 n l1 l2 l3 l4 σ) σ 0 0 21 [(0, .ref (zzad Z 0)), (1, .int l1), (2, .int l2), (3, .int l3), (4, .int l4)] [] := by
  induction n with
  | zero => exact fun _ _ _ _ _ r9 s9 h9 => by cases h9
  | succ n ih => exact w_X11_warmest_21b C k7 hk7 _ ih
set_option maxHeartbeats 4000000 in
set_option maxRecDepth 100000 in
theorem w_X11_warmest_7b {l : Launch} {Z : zzG} {base : Nat} {PL : Nat → Option (Nat × Int32)} {mm : zzS} {p : Program} {e : Env} {s : State} {m : MethodId} {args : Array Value} {below : List Frame} {meth : Method} {c : Code} (C : zzCx p m meth c s args cX11_warmest 5 wsX11_warmest RX11 (some .int) Z)   (k7 : Int32 → Int32 → Int32 → zzS → Option (Int32 × zzS)) (hk7 : ∀ (l1 : Int32)  (l2 : Int32)  (l3 : Int32)  (σ : zzS), zzGO p l e rX11_warmest s m args below meth c 5 (zzA base) (zzX Z base PL mm) (zzX Z base PL mm) zzRI rX11_warmest.cells rX11_warmest.slots (k7 l1 l2 l3 σ) σ 0 0 7 [(0, .ref (zzad Z 0)), (1, .int l1), (2, .int l2), (3, .int l3)] []) (l1 : Int32)  (l2 : Int32)  (l3 : Int32)  (σ : zzS) : zzGO p l e rX11_warmest s m args below meth c 5 (zzA base) (zzX Z base PL mm) (zzX Z base PL mm) zzRI rX11_warmest.cells rX11_warmest.slots (f_X11_warmest_7b k7 l1 l2 l3 σ) σ 0 0 7 [(0, .ref (zzad Z 0)), (1, .int l1), (2, .int l2), (3, .int l3)] [] := by
  unfold f_X11_warmest_7b
  refine zz_iload_n C dX11_warmest_7 rfl 3 rfl ?_
  refine zz_aload_n C dX11_warmest_8 rfl 0 rfl ?_
  refine zz_get C zzX_obj (fun _ h9 => List.mem_cons_of_mem _ (List.mem_append_left _ (List.mem_append_right _ (h9)))) rfl 3 (by decide) (List.mem_of_getElem? (i := 1) rfl) (Or.inl rfl) rfl dX11_warmest_9 ?_
  refine zz_get C (zzX_town (Or.inl rfl)) (fun _ h9 => List.mem_cons_of_mem _ (List.mem_append_right _ (h9))) rfl 4 (by decide) (List.mem_of_getElem? (i := 2) rfl) (Or.inl rfl) rfl dX11_warmest_12 ?_
  refine zz_icmp_ge (tgt := 84) C dX11_warmest_15 (by decide) (fun h1 => ?_) (fun h1 => ?_)
  · refine zz_iload_n C dX11_warmest_84 rfl 1 rfl ?_
    exact zz_iret C rfl rfl (fun _ h9 => h9) (Nat.zero_le _) (Nat.zero_le _) dX11_warmest_85
  · refine zz_iconst (v := 0) C dX11_warmest_18 (by decide) ?_
    refine zz_istore (loc' := [(4, .int (0 : Int32)), (0, .ref (zzad Z 0)), (1, .int l1), (2, .int l2), (3, .int l3)]) C dX11_warmest_19 (by decide) rfl ?_
    refine zz_sub (loc' := [(0, .ref (zzad Z 0)), (1, .int l1), (2, .int l2), (3, .int l3), (4, .int (0 : Int32))]) [1, 2, 3, 4, 0] rfl ?_
    exact w_X11_warmest_21 C k7 hk7 200 l1 l2 l3 (0 : Int32) σ
set_option maxHeartbeats 4000000 in
set_option maxRecDepth 100000 in
theorem w_X11_warmest_7 {l : Launch} {Z : zzG} {base : Nat} {PL : Nat → Option (Nat × Int32)} {mm : zzS} {p : Program} {e : Env} {s : State} {m : MethodId} {args : Array Value} {below : List Frame} {meth : Method} {c : Code} (C : zzCx p m meth c s args cX11_warmest 5 wsX11_warmest RX11 (some .int) Z)   (n : Nat) : ∀ (l1 : Int32)  (l2 : Int32)  (l3 : Int32)  (σ : zzS), zzGO p l e rX11_warmest s m args below meth c 5 (zzA base) (zzX Z base PL mm) (zzX Z base PL mm) zzRI rX11_warmest.cells rX11_warmest.slots (f_X11_warmest_7 n l1 l2 l3 σ) σ 0 0 7 [(0, .ref (zzad Z 0)), (1, .int l1), (2, .int l2), (3, .int l3)] [] := by
  induction n with
  | zero => exact fun _ _ _ _ r9 s9 h9 => by cases h9
  | succ n ih => exact w_X11_warmest_7b C _ ih
set_option maxHeartbeats 4000000 in
set_option maxRecDepth 100000 in
theorem w_X11_warmest_e {l : Launch} {Z : zzG} {base : Nat} {PL : Nat → Option (Nat × Int32)} {mm : zzS} {p : Program} {e : Env} {s : State} {m : MethodId} {args : Array Value} {below : List Frame} {meth : Method} {c : Code} (C : zzCx p m meth c s args cX11_warmest 5 wsX11_warmest RX11 (some .int) Z)  (σ : zzS) : zzGO p l e rX11_warmest s m args below meth c 5 (zzA base) (zzX Z base PL mm) (zzX Z base PL mm) zzRI rX11_warmest.cells rX11_warmest.slots (f_X11_warmest σ) σ 0 0 0 [(0, .ref (zzad Z 0))] [] := by
  unfold f_X11_warmest
  refine zz_bipush (v := -4) C dX11_warmest_0 (by decide) ?_
  refine zz_istore_n (loc' := [(1, .int (-4 : Int32)), (0, .ref (zzad Z 0))]) C dX11_warmest_2 rfl (by decide) rfl ?_
  refine zz_iconst (v := -1) C dX11_warmest_3 (by decide) ?_
  refine zz_istore_n (loc' := [(2, .int (-1 : Int32)), (1, .int (-4 : Int32)), (0, .ref (zzad Z 0))]) C dX11_warmest_4 rfl (by decide) rfl ?_
  refine zz_iconst (v := 0) C dX11_warmest_5 (by decide) ?_
  refine zz_istore_n (loc' := [(3, .int (0 : Int32)), (2, .int (-1 : Int32)), (1, .int (-4 : Int32)), (0, .ref (zzad Z 0))]) C dX11_warmest_6 rfl (by decide) rfl ?_
  refine zz_sub (loc' := [(0, .ref (zzad Z 0)), (1, .int (-4 : Int32)), (2, .int (-1 : Int32)), (3, .int (0 : Int32))]) [3, 2, 1, 0] rfl ?_
  exact w_X11_warmest_7 C 200 (-4 : Int32) (-1 : Int32) (0 : Int32) σ
set_option maxHeartbeats 4000000 in
set_option maxRecDepth 100000 in
theorem k_X11_warmest {l : Launch} {Z : zzG} {base : Nat} {PL : Nat → Option (Nat × Int32)} {mm : zzS}  (σ : zzS) : zzCT l yX11_warmest wsX11_warmest rX11_warmest (zzA base) Z (zzX Z base PL mm) (zzX Z base PL mm) zzRI [.ref (zzad Z 0)] (f_X11_warmest σ) σ :=
  zzCT_of (cc := cX11_warmest) (nL := 5) (ret := (some .int)) (by decide) rfl (Nat.le_of_ble_eq_true rfl) [(0, .ref (zzad Z 0))] rfl (fun p e s m args below meth c C => w_X11_warmest_e C σ)
abbrev rX11_orders : Room := { frames := 2, cells := 0, slots := 0, locals := 42 }

set_option maxHeartbeats 4000000 in
set_option maxRecDepth 100000 in
theorem w_X11_orders_32b {l : Launch} {Z : zzG} {base : Nat} {PL : Nat → Option (Nat × Int32)} {mm : zzS} {p : Program} {e : Env} {s : State} {m : MethodId} {args : Array Value} {below : List Frame} {meth : Method} {c : Code} (C : zzCx p m meth c s args cX11_orders 6 wsX11_orders RX11 (some .long) Z) (p0 : Int32)   (k32 : Int32 → Int64 → Int32 → zzS → Option (Int64 × zzS)) (hk32 : ∀ (l2 : Int32)  (l3 : Int64)  (l5 : Int32)  (σ : zzS), zzGO p l e rX11_orders s m args below meth c 6 (zzA base) (zzX Z base PL mm) (zzX Z base PL mm) zzRL rX11_orders.cells rX11_orders.slots (k32 l2 l3 l5 σ) σ 0 0 32 [(2, .int l2), (3, .long l3), (5, .int l5)] []) (l2 : Int32)  (l3 : Int64)  (l5 : Int32)  (σ : zzS) : zzGO p l e rX11_orders s m args below meth c 6 (zzA base) (zzX Z base PL mm) (zzX Z base PL mm) zzRL rX11_orders.cells rX11_orders.slots (f_X11_orders_32b k32 p0 l2 l3 l5 σ) σ 0 0 32 [(2, .int l2), (3, .long l3), (5, .int l5)] [] := by
  unfold f_X11_orders_32b
  refine zz_iload C dX11_orders_32 2 rfl ?_
  refine zz_iload_n C dX11_orders_34 rfl 0 rfl ?_
  refine zz_icmp_gt (tgt := 50) C dX11_orders_35 (by decide) (fun h1 => ?_) (fun h1 => ?_)
  · refine zz_lload_n C dX11_orders_50 rfl 1 rfl ?_
    exact zz_lret C rfl rfl (fun _ h9 => h9) (Nat.zero_le _) (Nat.zero_le _) dX11_orders_51
  · refine zz_lload_n C dX11_orders_38 rfl 1 rfl ?_
    refine zz_iload C dX11_orders_39 2 rfl ?_
    refine zz_i2l C dX11_orders_41 ?_
    refine zz_lmul C dX11_orders_42 ?_
    refine zz_lstoreX_n (locf := fun x2 => [(3, .long x2), (2, .int l2), (5, .int l5)]) C dX11_orders_43 rfl (by decide) (fun _ => rfl) (fun x2 => ?_)
    refine zz_iincX (d := 1) (locf := fun x3 => [(5, .int x3), (3, .long x2), (2, .int l2)]) C dX11_orders_44 (k := 2) rfl (by decide) (by decide) (fun _ => rfl) (fun x3 => ?_)
    refine zz_goto (tgt := 32) C dX11_orders_47 (by decide) ?_
    refine zz_sub (loc' := [(2, .int l2), (3, .long x2), (5, .int x3)]) [2, 1, 0] rfl ?_
    exact hk32 l2 x2 x3 σ
set_option maxHeartbeats 4000000 in
set_option maxRecDepth 100000 in
theorem w_X11_orders_32 {l : Launch} {Z : zzG} {base : Nat} {PL : Nat → Option (Nat × Int32)} {mm : zzS} {p : Program} {e : Env} {s : State} {m : MethodId} {args : Array Value} {below : List Frame} {meth : Method} {c : Code} (C : zzCx p m meth c s args cX11_orders 6 wsX11_orders RX11 (some .long) Z) (p0 : Int32)   (n : Nat) : ∀ (l2 : Int32)  (l3 : Int64)  (l5 : Int32)  (σ : zzS), zzGO p l e rX11_orders s m args below meth c 6 (zzA base) (zzX Z base PL mm) (zzX Z base PL mm) zzRL rX11_orders.cells rX11_orders.slots (f_X11_orders_32 p0 n l2 l3 l5 σ) σ 0 0 32 [(2, .int l2), (3, .long l3), (5, .int l5)] [] := by
  induction n with
  | zero => exact fun _ _ _ _ r9 s9 h9 => by cases h9
  | succ n ih => exact w_X11_orders_32b C p0 _ ih
set_option maxHeartbeats 4000000 in
set_option maxRecDepth 100000 in
theorem w_X11_orders_e {l : Launch} {Z : zzG} {base : Nat} {PL : Nat → Option (Nat × Int32)} {mm : zzS} {p : Program} {e : Env} {s : State} {m : MethodId} {args : Array Value} {below : List Frame} {meth : Method} {c : Code} (C : zzCx p m meth c s args cX11_orders 6 wsX11_orders RX11 (some .long) Z) (p0 : Int32)  (σ : zzS) : zzGO p l e rX11_orders s m args below meth c 6 (zzA base) (zzX Z base PL mm) (zzX Z base PL mm) zzRL rX11_orders.cells rX11_orders.slots (f_X11_orders p0 σ) σ 0 0 0 [(0, .ref (zzad Z 0)), (1, .int p0)] [] := by
  unfold f_X11_orders
  refine zz_aload_n C dX11_orders_0 rfl 0 rfl ?_
  refine zz_get C zzX_obj (fun _ h9 => List.mem_cons_of_mem _ (List.mem_append_left _ (List.mem_append_right _ (h9)))) rfl 3 (by decide) (List.mem_of_getElem? (i := 1) rfl) (Or.inl rfl) rfl dX11_orders_1 ?_
  refine zz_iload_n C dX11_orders_4 rfl 1 rfl ?_
  refine zz_callV C (Cn := RX10) (b := zzad Z 20) (fun H hH => zz_recv C.2.2.2 ((zzX_town (Or.inl rfl)) H hH) rfl) (As := [.int p0]) (rest := []) rfl (k_X10_has 20 (Or.inl rfl) p0 σ) (cwV 1 C.1.2.2.2.2 gX11_orders_X10_has rfl rfl rfl (by decide +kernel) ⟨Nat.le_of_ble_eq_true rfl, Nat.le_of_ble_eq_true rfl⟩) rfl (Nat.le_of_ble_eq_true rfl) ⟨Nat.zero_le _, Nat.zero_le _⟩ dX11_orders_5 (zz_kI rfl rfl (fun r1 σ2 => ?_))
  refine zz_if_ne (tgt := 15) C dX11_orders_8 (by decide) (fun h3 => ?_) (fun h3 => ?_)
  · refine zz_bipush (v := 9) C dX11_orders_15 (by decide) ?_
    refine zz_aload_n C dX11_orders_17 rfl 0 rfl ?_
    refine zz_get C zzX_obj (fun _ h9 => List.mem_cons_of_mem _ (List.mem_append_left _ (List.mem_append_right _ (h9)))) rfl 3 (by decide) (List.mem_of_getElem? (i := 1) rfl) (Or.inl rfl) rfl dX11_orders_18 ?_
    refine zz_iload_n C dX11_orders_21 rfl 1 rfl ?_
    refine zz_callV C (Cn := RX10) (b := zzad Z 20) (fun H hH => zz_recv C.2.2.2 ((zzX_town (Or.inl rfl)) H hH) rfl) (As := [.int p0]) (rest := [.int (9 : Int32)]) rfl (k_X10_turnedOf 20 (Or.inl rfl) p0 σ2) (cwV 1 C.1.2.2.2.2 gX11_orders_X10_turnedOf rfl rfl rfl (by decide +kernel) ⟨Nat.le_of_ble_eq_true rfl, Nat.le_of_ble_eq_true rfl⟩) rfl (Nat.le_of_ble_eq_true rfl) ⟨Nat.zero_le _, Nat.zero_le _⟩ dX11_orders_22 (zz_kI rfl rfl (fun r4 σ5 => ?_))
    refine zz_isub C dX11_orders_25 ?_
    refine zz_istoreX_n (locf := fun x6 => [(2, .int x6), (0, .ref (zzad Z 0)), (1, .int p0)]) C dX11_orders_26 rfl (by decide) (fun _ => rfl) (fun x6 => ?_)
    refine zz_lconst (v := 1) C dX11_orders_27 (by decide) ?_
    refine zz_lstore_n (loc' := [(3, .long (1 : Int64)), (2, .int x6), (0, .ref (zzad Z 0)), (1, .int p0)]) C dX11_orders_28 rfl (by decide) rfl ?_
    refine zz_iconst (v := 2) C dX11_orders_29 (by decide) ?_
    refine zz_istore (loc' := [(5, .int (2 : Int32)), (3, .long (1 : Int64)), (2, .int x6), (0, .ref (zzad Z 0)), (1, .int p0)]) C dX11_orders_30 (by decide) rfl ?_
    refine zz_sub (loc' := [(2, .int x6), (3, .long (1 : Int64)), (5, .int (2 : Int32))]) [2, 1, 0] rfl ?_
    exact w_X11_orders_32 C p0 200 x6 (1 : Int64) (2 : Int32) σ5
  · refine zz_ldc2 (v := 1000000001) C (C.1.2.2.2.2 _ (List.mem_of_getElem? (i := 2) rfl)) dX11_orders_11 ?_
    exact zz_lret C rfl rfl (fun _ h9 => h9) (Nat.zero_le _) (Nat.zero_le _) dX11_orders_14
set_option maxHeartbeats 4000000 in
set_option maxRecDepth 100000 in
theorem k_X11_orders {l : Launch} {Z : zzG} {base : Nat} {PL : Nat → Option (Nat × Int32)} {mm : zzS} (p0 : Int32)  (σ : zzS) : zzCT l yX11_orders wsX11_orders rX11_orders (zzA base) Z (zzX Z base PL mm) (zzX Z base PL mm) zzRL [.ref (zzad Z 0), .int p0] (f_X11_orders p0 σ) σ :=
  zzCT_of (cc := cX11_orders) (nL := 6) (ret := (some .long)) (by decide) rfl (Nat.le_of_ble_eq_true rfl) [(0, .ref (zzad Z 0)), (1, .int p0)] rfl (fun p e s m args below meth c C => w_X11_orders_e C p0 σ)
abbrev rX11_commonDivisor : Room := { frames := 0, cells := 0, slots := 0, locals := 0 }

set_option maxHeartbeats 4000000 in
set_option maxRecDepth 100000 in
theorem w_X11_commonDivisor_3b {l : Launch} {Z : zzG} {base : Nat} {PL : Nat → Option (Nat × Int32)} {mm : zzS} {p : Program} {e : Env} {s : State} {m : MethodId} {args : Array Value} {below : List Frame} {meth : Method} {c : Code} (C : zzCx p m meth c s args cX11_commonDivisor 7 wsX11_commonDivisor RX11 (some .long) Z)   (k3 : Int64 → Int64 → Int32 → zzS → Option (Int64 × zzS)) (hk3 : ∀ (l0 : Int64)  (l2 : Int64)  (l4 : Int32)  (σ : zzS), zzGO p l e rX11_commonDivisor s m args below meth c 7 (zzA base) (zzX Z base PL mm) (zzX Z base PL mm) zzRL rX11_commonDivisor.cells rX11_commonDivisor.slots (k3 l0 l2 l4 σ) σ 0 0 3 [(0, .long l0), (2, .long l2), (4, .int l4)] []) (l0 : Int64)  (l2 : Int64)  (l4 : Int32)  (σ : zzS) : zzGO p l e rX11_commonDivisor s m args below meth c 7 (zzA base) (zzX Z base PL mm) (zzX Z base PL mm) zzRL rX11_commonDivisor.cells rX11_commonDivisor.slots (f_X11_commonDivisor_3b k3 l0 l2 l4 σ) σ 0 0 3 [(0, .long l0), (2, .long l2), (4, .int l4)] [] := by
  unfold f_X11_commonDivisor_3b
  refine zz_iload C dX11_commonDivisor_3 2 rfl ?_
  refine zz_bipush (v := 100) C dX11_commonDivisor_5 (by decide) ?_
  refine zz_icmp_ge (tgt := 32) C dX11_commonDivisor_7 (by decide) (fun h1 => ?_) (fun h1 => ?_)
  · refine zz_lload_n C dX11_commonDivisor_32 rfl 0 rfl ?_
    exact zz_lret C rfl rfl (fun _ h9 => h9) (Nat.zero_le _) (Nat.zero_le _) dX11_commonDivisor_33
  · refine zz_lload_n C dX11_commonDivisor_10 rfl 1 rfl ?_
    refine zz_lconst (v := 0) C dX11_commonDivisor_11 (by decide) ?_
    refine zz_lcmp C dX11_commonDivisor_12 ?_
    refine zz_if_eq (tgt := 32) C dX11_commonDivisor_13 (by decide) (fun h2 => ?_) (fun h2 => ?_)
    · refine zz_lload_n C dX11_commonDivisor_32 rfl 0 rfl ?_
      exact zz_lret C rfl rfl (fun _ h9 => h9) (Nat.zero_le _) (Nat.zero_le _) dX11_commonDivisor_33
    · refine zz_lload_n C dX11_commonDivisor_16 rfl 0 rfl ?_
      refine zz_lload_n C dX11_commonDivisor_17 rfl 1 rfl ?_
      refine zz_gd (fun h3 => ?_)
      refine zz_lrem C dX11_commonDivisor_18 h3 ?_
      refine zz_lstoreX (locf := fun x4 => [(5, .long x4), (0, .long l0), (2, .long l2), (4, .int l4)]) C dX11_commonDivisor_19 (by decide) (fun _ => rfl) (fun x4 => ?_)
      refine zz_lload_n C dX11_commonDivisor_21 rfl 2 rfl ?_
      refine zz_lstore_n (loc' := [(0, .long l2), (5, .long x4), (2, .long l2), (4, .int l4)]) C dX11_commonDivisor_22 rfl (by decide) rfl ?_
      refine zz_lload C dX11_commonDivisor_23 1 rfl ?_
      refine zz_lstore_n (loc' := [(2, .long x4), (0, .long l2), (5, .long x4), (4, .int l4)]) C dX11_commonDivisor_25 rfl (by decide) rfl ?_
      refine zz_iincX (d := 1) (locf := fun x5 => [(4, .int x5), (2, .long x4), (0, .long l2), (5, .long x4)]) C dX11_commonDivisor_26 (k := 3) rfl (by decide) (by decide) (fun _ => rfl) (fun x5 => ?_)
      refine zz_goto (tgt := 3) C dX11_commonDivisor_29 (by decide) ?_
      refine zz_sub (loc' := [(0, .long l2), (2, .long x4), (4, .int x5)]) [2, 1, 0] rfl ?_
      exact hk3 l2 x4 x5 σ
set_option maxHeartbeats 4000000 in
set_option maxRecDepth 100000 in
theorem w_X11_commonDivisor_3 {l : Launch} {Z : zzG} {base : Nat} {PL : Nat → Option (Nat × Int32)} {mm : zzS} {p : Program} {e : Env} {s : State} {m : MethodId} {args : Array Value} {below : List Frame} {meth : Method} {c : Code} (C : zzCx p m meth c s args cX11_commonDivisor 7 wsX11_commonDivisor RX11 (some .long) Z)   (n : Nat) : ∀ (l0 : Int64)  (l2 : Int64)  (l4 : Int32)  (σ : zzS), zzGO p l e rX11_commonDivisor s m args below meth c 7 (zzA base) (zzX Z base PL mm) (zzX Z base PL mm) zzRL rX11_commonDivisor.cells rX11_commonDivisor.slots (f_X11_commonDivisor_3 n l0 l2 l4 σ) σ 0 0 3 [(0, .long l0), (2, .long l2), (4, .int l4)] [] := by
  induction n with
  | zero => exact fun _ _ _ _ r9 s9 h9 => by cases h9
  | succ n ih => exact w_X11_commonDivisor_3b C _ ih
set_option maxHeartbeats 4000000 in
set_option maxRecDepth 100000 in
theorem w_X11_commonDivisor_e {l : Launch} {Z : zzG} {base : Nat} {PL : Nat → Option (Nat × Int32)} {mm : zzS} {p : Program} {e : Env} {s : State} {m : MethodId} {args : Array Value} {below : List Frame} {meth : Method} {c : Code} (C : zzCx p m meth c s args cX11_commonDivisor 7 wsX11_commonDivisor RX11 (some .long) Z) (p0 : Int64)  (p1 : Int64)  (σ : zzS) : zzGO p l e rX11_commonDivisor s m args below meth c 7 (zzA base) (zzX Z base PL mm) (zzX Z base PL mm) zzRL rX11_commonDivisor.cells rX11_commonDivisor.slots (f_X11_commonDivisor p0 p1 σ) σ 0 0 0 [(0, .long p0), (2, .long p1)] [] := by
  unfold f_X11_commonDivisor
  refine zz_iconst (v := 0) C dX11_commonDivisor_0 (by decide) ?_
  refine zz_istore (loc' := [(4, .int (0 : Int32)), (0, .long p0), (2, .long p1)]) C dX11_commonDivisor_1 (by decide) rfl ?_
  refine zz_sub (loc' := [(0, .long p0), (2, .long p1), (4, .int (0 : Int32))]) [1, 2, 0] rfl ?_
  exact w_X11_commonDivisor_3 C 200 p0 p1 (0 : Int32) σ
set_option maxHeartbeats 4000000 in
set_option maxRecDepth 100000 in
theorem k_X11_commonDivisor {l : Launch} {Z : zzG} {base : Nat} {PL : Nat → Option (Nat × Int32)} {mm : zzS} (p0 : Int64)  (p1 : Int64)  (σ : zzS) : zzCT l yX11_commonDivisor wsX11_commonDivisor rX11_commonDivisor (zzA base) Z (zzX Z base PL mm) (zzX Z base PL mm) zzRL [.long p0, .long p1] (f_X11_commonDivisor p0 p1 σ) σ :=
  zzCT_of (cc := cX11_commonDivisor) (nL := 7) (ret := (some .long)) (by decide) rfl (Nat.le_of_ble_eq_true rfl) [(0, .long p0), (2, .long p1)] rfl (fun p e s m args below meth c C => w_X11_commonDivisor_e C p0 p1 σ)
abbrev rX11_partInLeastTerms : Room := { frames := 1, cells := 0, slots := 0, locals := 26 }

set_option maxHeartbeats 4000000 in
set_option maxRecDepth 100000 in
theorem w_X11_partInLeastTerms_10 {l : Launch} {Z : zzG} {base : Nat} {PL : Nat → Option (Nat × Int32)} {mm : zzS} {p : Program} {e : Env} {s : State} {m : MethodId} {args : Array Value} {below : List Frame} {meth : Method} {c : Code} (C : zzCx p m meth c s args cX11_partInLeastTerms 9 wsX11_partInLeastTerms RX11 (some .long) Z) (p0 : Int64)  (p1 : Int64)  (p2 : Int32)   (s0 : Int64)  (σ : zzS) : zzGO p l e rX11_partInLeastTerms s m args below meth c 9 (zzA base) (zzX Z base PL mm) (zzX Z base PL mm) zzRL rX11_partInLeastTerms.cells rX11_partInLeastTerms.slots (f_X11_partInLeastTerms_10 p0 p1 p2 s0 σ) σ 0 0 10 [(0, .long p0), (2, .long p1)] [.long s0] := by
  unfold f_X11_partInLeastTerms_10
  refine zz_lstore (loc' := [(5, .long s0), (0, .long p0), (2, .long p1)]) C dX11_partInLeastTerms_10 (by decide) rfl ?_
  refine zz_lload_n C dX11_partInLeastTerms_12 rfl 1 rfl ?_
  refine zz_lload_n C dX11_partInLeastTerms_13 rfl 2 rfl ?_
  refine zz_callS (As := [.long p0, .long p1]) (rest := []) C rfl (k_X11_commonDivisor p0 p1 σ) (va_cwS 2 C.1.2.2.2.2 gX11_partInLeastTerms_X11_commonDivisor rfl rfl rfl (by decide +kernel) ⟨Nat.le_of_ble_eq_true rfl, Nat.le_of_ble_eq_true rfl⟩) rfl (Nat.le_of_ble_eq_true rfl) ⟨Nat.zero_le _, Nat.zero_le _⟩ dX11_partInLeastTerms_14 (zz_kL rfl rfl (fun r1 σ2 => ?_))
  refine zz_lstore (loc' := [(7, .long r1), (5, .long s0), (0, .long p0), (2, .long p1)]) C dX11_partInLeastTerms_17 (by decide) rfl ?_
  refine zz_lload C dX11_partInLeastTerms_19 0 rfl ?_
  refine zz_lconst (v := 0) C dX11_partInLeastTerms_21 (by decide) ?_
  refine zz_lcmp C dX11_partInLeastTerms_22 ?_
  refine zz_if_ne (tgt := 31) C dX11_partInLeastTerms_23 (by decide) (fun h3 => ?_) (fun h3 => ?_)
  · refine zz_lload C dX11_partInLeastTerms_31 1 rfl ?_
    refine zz_lload C dX11_partInLeastTerms_33 0 rfl ?_
    refine zz_gd (fun h4 => ?_)
    refine zz_ldiv C dX11_partInLeastTerms_35 h4 ?_
    exact zz_lret C rfl rfl (fun _ h9 => h9) (Nat.zero_le _) (Nat.zero_le _) dX11_partInLeastTerms_36
  · refine zz_lload C dX11_partInLeastTerms_26 1 rfl ?_
    refine zz_goto (tgt := 36) C dX11_partInLeastTerms_28 (by decide) ?_
    exact zz_lret C rfl rfl (fun _ h9 => h9) (Nat.zero_le _) (Nat.zero_le _) dX11_partInLeastTerms_36
set_option maxHeartbeats 4000000 in
set_option maxRecDepth 100000 in
theorem w_X11_partInLeastTerms_e {l : Launch} {Z : zzG} {base : Nat} {PL : Nat → Option (Nat × Int32)} {mm : zzS} {p : Program} {e : Env} {s : State} {m : MethodId} {args : Array Value} {below : List Frame} {meth : Method} {c : Code} (C : zzCx p m meth c s args cX11_partInLeastTerms 9 wsX11_partInLeastTerms RX11 (some .long) Z) (p0 : Int64)  (p1 : Int64)  (p2 : Int32)  (σ : zzS) : zzGO p l e rX11_partInLeastTerms s m args below meth c 9 (zzA base) (zzX Z base PL mm) (zzX Z base PL mm) zzRL rX11_partInLeastTerms.cells rX11_partInLeastTerms.slots (f_X11_partInLeastTerms p0 p1 p2 σ) σ 0 0 0 [(0, .long p0), (2, .long p1), (4, .int p2)] [] := by
  unfold f_X11_partInLeastTerms
  refine zz_iload C dX11_partInLeastTerms_0 2 rfl ?_
  refine zz_if_ne (tgt := 9) C dX11_partInLeastTerms_2 (by decide) (fun h1 => ?_) (fun h1 => ?_)
  · refine zz_lload_n C dX11_partInLeastTerms_9 rfl 1 rfl ?_
    refine zz_sub (loc' := [(0, .long p0), (2, .long p1)]) [0, 1] rfl ?_
    exact w_X11_partInLeastTerms_10 C p0 p1 p2 p1 σ
  · refine zz_lload_n C dX11_partInLeastTerms_5 rfl 0 rfl ?_
    refine zz_goto (tgt := 10) C dX11_partInLeastTerms_6 (by decide) ?_
    refine zz_sub (loc' := [(0, .long p0), (2, .long p1)]) [0, 1] rfl ?_
    exact w_X11_partInLeastTerms_10 C p0 p1 p2 p0 σ
set_option maxHeartbeats 4000000 in
set_option maxRecDepth 100000 in
theorem k_X11_partInLeastTerms {l : Launch} {Z : zzG} {base : Nat} {PL : Nat → Option (Nat × Int32)} {mm : zzS} (p0 : Int64)  (p1 : Int64)  (p2 : Int32)  (σ : zzS) : zzCT l yX11_partInLeastTerms wsX11_partInLeastTerms rX11_partInLeastTerms (zzA base) Z (zzX Z base PL mm) (zzX Z base PL mm) zzRL [.long p0, .long p1, .int p2] (f_X11_partInLeastTerms p0 p1 p2 σ) σ :=
  zzCT_of (cc := cX11_partInLeastTerms) (nL := 9) (ret := (some .long)) (by decide) rfl (Nat.le_of_ble_eq_true rfl) [(0, .long p0), (2, .long p1), (4, .int p2)] rfl (fun p e s m args below meth c C => w_X11_partInLeastTerms_e C p0 p1 p2 σ)
abbrev rX11_drawn : Room := { frames := 3, cells := 0, slots := 0, locals := 60 }
set_option maxHeartbeats 4000000 in
set_option maxRecDepth 100000 in
theorem vr_X11_drawn_52 {l : Launch} {Z : zzG} {base : Nat} {PL : Nat → Option (Nat × Int32)} {mm : zzS} {p : Program} {e : Env} {s : State} {m : MethodId} {args : Array Value} {below : List Frame} {meth : Method} {c : Code} {cells slots : Nat} {σ : zzS} {loc : List (Nat × Value)} {rest : List Value} (C : zzCx p m meth c s args cX11_drawn 5 wsX11_drawn RX11 (some .long) Z) {q : Nat} {kf : Nat × Int32} (hq : PL q = some kf) (hroom : (rest.map fun v => v.category).sum ≤ 8) (hcs : cells + 0 ≤ (rX11_drawn).cells ∧ slots + 0 ≤ (rX11_drawn).slots := by exact ⟨Nat.zero_le _, Nat.zero_le _⟩) :
    ∀ r1 σ2, some (zzturns kf, σ) = some (r1, σ2) → ∀ (H : Heap) (locs : List Loc) (ls : Array Slot), zzX Z base PL mm σ H → lv_has ls 5 loc → va_Run p l e rX11_drawn s m args below meth c H locs cells slots 0 0 (F0 m 52 ls (.ref q :: rest)) rest (zzQ zzRI (zzX Z base PL mm) (zzA base) r1 σ2 #[.ref q]) (zzA base) := by
  intro r1 σ2 hr H locs ls hW hl
  have h8 := zz_kind8 (hW.1.2.2.1 q kf hq).1
  obtain ⟨k9, f9⟩ := kf
  rcases h8 with h8 | h8 | h8 | h8 | h8 | h8 | h8 | h8
  · have h8 : k9 = 0 := h8
    subst h8
    have ct := k_X6_turns (l := l) (Z := Z) (base := base) (PL := PL) (mm := mm) (0, f9) q hq σ r1 σ2 hr
    exact va_runV (As := []) (C := RX6) C.1 ct (cwV 0 C.1.2.2.2.2 gX11_drawn_X6_turns rfl rfl rfl (by decide +kernel) ⟨Nat.le_of_ble_eq_true rfl, Nat.le_of_ble_eq_true rfl⟩) ⟨zzPc_blind, zz_recv C.2.2.2 (zzX_pers1 hq H hW) rfl, fun U hU hWm => zzPc_at C.2.2.2 hU hWm hW⟩ rfl rfl hl.1 rfl (lv_room hroom) dX11_drawn_52 hcs
  · have h8 : k9 = 1 := h8
    subst h8
    have ct := k_X6_turns (l := l) (Z := Z) (base := base) (PL := PL) (mm := mm) (1, f9) q hq σ r1 σ2 hr
    exact va_runU (As := []) (C := RX9) C.1 ct (va_cwU 0 C.1.2.2.2.2 gX11_drawn_X6_turns_u110X9 rfl rfl rfl (by decide +kernel) (by decide +kernel) ⟨Nat.le_of_ble_eq_true rfl, Nat.le_of_ble_eq_true rfl⟩) ⟨zzPc_blind, zz_recv C.2.2.2 (zzX_pers1 hq H hW) rfl, fun U hU hWm => zzPc_at C.2.2.2 hU hWm hW⟩ rfl rfl hl.1 rfl (lv_room hroom) dX11_drawn_52 hcs
  · have h8 : k9 = 2 := h8
    subst h8
    have ct := k_X0_turns (l := l) (Z := Z) (base := base) (PL := PL) (mm := mm) (2, f9) q hq (Or.inl rfl) σ r1 σ2 hr
    exact va_runU (As := []) (C := RX0) C.1 ct (va_cwO 0 C.1.2.2.2.2 gX11_drawn_X0_turns_u110X0 rfl rfl rfl (List.mem_of_getElem? (i := 45) rfl) (by decide +kernel) ⟨Nat.le_of_ble_eq_true rfl, Nat.le_of_ble_eq_true rfl⟩) ⟨zzPc_blind, zz_recv C.2.2.2 (zzX_pers1 hq H hW) rfl, fun U hU hWm => zzPc_at C.2.2.2 hU hWm hW⟩ rfl rfl hl.1 rfl (lv_room hroom) dX11_drawn_52 hcs
  · have h8 : k9 = 3 := h8
    subst h8
    have ct := k_X1_turns (l := l) (Z := Z) (base := base) (PL := PL) (mm := mm) (3, f9) q hq rfl σ r1 σ2 hr
    exact va_runU (As := []) (C := RX1) C.1 ct (va_cwO 0 C.1.2.2.2.2 gX11_drawn_X1_turns_u110X1 rfl rfl rfl (List.mem_of_getElem? (i := 45) rfl) (by decide +kernel) ⟨Nat.le_of_ble_eq_true rfl, Nat.le_of_ble_eq_true rfl⟩) ⟨zzPc_blind, zz_recv C.2.2.2 (zzX_pers1 hq H hW) rfl, fun U hU hWm => zzPc_at C.2.2.2 hU hWm hW⟩ rfl rfl hl.1 rfl (lv_room hroom) dX11_drawn_52 hcs
  · have h8 : k9 = 4 := h8
    subst h8
    have ct := k_X6_turns (l := l) (Z := Z) (base := base) (PL := PL) (mm := mm) (4, f9) q hq σ r1 σ2 hr
    exact va_runU (As := []) (C := RX4) C.1 ct (va_cwU 0 C.1.2.2.2.2 gX11_drawn_X6_turns_u110X4 rfl rfl rfl (by decide +kernel) (by decide +kernel) ⟨Nat.le_of_ble_eq_true rfl, Nat.le_of_ble_eq_true rfl⟩) ⟨zzPc_blind, zz_recv C.2.2.2 (zzX_pers1 hq H hW) rfl, fun U hU hWm => zzPc_at C.2.2.2 hU hWm hW⟩ rfl rfl hl.1 rfl (lv_room hroom) dX11_drawn_52 hcs
  · have h8 : k9 = 5 := h8
    subst h8
    have ct := k_X5_turns (l := l) (Z := Z) (base := base) (PL := PL) (mm := mm) (5, f9) q hq rfl σ r1 σ2 hr
    exact va_runU (As := []) (C := RX5) C.1 ct (va_cwO 0 C.1.2.2.2.2 gX11_drawn_X5_turns_u110X5 rfl rfl rfl (List.mem_of_getElem? (i := 45) rfl) (by decide +kernel) ⟨Nat.le_of_ble_eq_true rfl, Nat.le_of_ble_eq_true rfl⟩) ⟨zzPc_blind, zz_recv C.2.2.2 (zzX_pers1 hq H hW) rfl, fun U hU hWm => zzPc_at C.2.2.2 hU hWm hW⟩ rfl rfl hl.1 rfl (lv_room hroom) dX11_drawn_52 hcs
  · have h8 : k9 = 6 := h8
    subst h8
    have ct := k_X3_turns (l := l) (Z := Z) (base := base) (PL := PL) (mm := mm) (6, f9) q hq rfl σ r1 σ2 hr
    exact va_runU (As := []) (C := RX3) C.1 ct (va_cwO 0 C.1.2.2.2.2 gX11_drawn_X3_turns_u110X3 rfl rfl rfl (List.mem_of_getElem? (i := 45) rfl) (by decide +kernel) ⟨Nat.le_of_ble_eq_true rfl, Nat.le_of_ble_eq_true rfl⟩) ⟨zzPc_blind, zz_recv C.2.2.2 (zzX_pers1 hq H hW) rfl, fun U hU hWm => zzPc_at C.2.2.2 hU hWm hW⟩ rfl rfl hl.1 rfl (lv_room hroom) dX11_drawn_52 hcs
  · have h8 : k9 = 7 := h8
    subst h8
    have ct := k_X8_turns (l := l) (Z := Z) (base := base) (PL := PL) (mm := mm) (7, f9) q hq rfl σ r1 σ2 hr
    exact va_runU (As := []) (C := RX8) C.1 ct (va_cwO 0 C.1.2.2.2.2 gX11_drawn_X8_turns_u110X8 rfl rfl rfl (List.mem_of_getElem? (i := 45) rfl) (by decide +kernel) ⟨Nat.le_of_ble_eq_true rfl, Nat.le_of_ble_eq_true rfl⟩) ⟨zzPc_blind, zz_recv C.2.2.2 (zzX_pers1 hq H hW) rfl, fun U hU hWm => zzPc_at C.2.2.2 hU hWm hW⟩ rfl rfl hl.1 rfl (lv_room hroom) dX11_drawn_52 hcs

set_option maxHeartbeats 4000000 in
set_option maxRecDepth 100000 in
theorem w_X11_drawn_e {l : Launch} {Z : zzG} {base : Nat} {PL : Nat → Option (Nat × Int32)} {mm : zzS} {p : Program} {e : Env} {s : State} {m : MethodId} {args : Array Value} {below : List Frame} {meth : Method} {c : Code} (C : zzCx p m meth c s args cX11_drawn 5 wsX11_drawn RX11 (some .long) Z) (p0 : Int32)  (p1 : Int32)  (p2 : Int32)  (σ : zzS) : zzGO p l e rX11_drawn s m args below meth c 5 (zzA base) (zzX Z base PL mm) (zzX Z base PL mm) zzRL rX11_drawn.cells rX11_drawn.slots (f_X11_drawn p0 p1 p2 σ) σ 0 0 0 [(0, .ref (zzad Z 0)), (1, .int p0), (2, .int p1), (3, .int p2)] [] := by
  unfold f_X11_drawn
  refine zz_aload_n C dX11_drawn_0 rfl 0 rfl ?_
  refine zz_get C zzX_obj (fun _ h9 => List.mem_cons_of_mem _ (List.mem_append_left _ (List.mem_append_left _ (List.mem_append_left _ (List.mem_append_left _ (List.mem_append_left _ (List.mem_append_left _ (List.mem_append_left _ (List.mem_append_left _ (List.mem_append_left _ (List.mem_append_right _ (h9)))))))))))) rfl 3 (by decide) (List.mem_of_getElem? (i := 1) rfl) (Or.inl rfl) rfl dX11_drawn_1 ?_
  refine zz_iload_n C dX11_drawn_4 rfl 1 rfl ?_
  refine zz_iload_n C dX11_drawn_5 rfl 2 rfl ?_
  refine zz_callV C (Cn := RX10) (b := zzad Z 20) (fun H hH => zz_recv C.2.2.2 ((zzX_town (Or.inl rfl)) H hH) rfl) (As := [.int p0, .int p1]) (rest := []) rfl (k_X10_areTwo 20 (Or.inl rfl) p0 p1 σ) (cwV 2 C.1.2.2.2.2 gX11_drawn_X10_areTwo rfl rfl rfl (by decide +kernel) ⟨Nat.le_of_ble_eq_true rfl, Nat.le_of_ble_eq_true rfl⟩) rfl (Nat.le_of_ble_eq_true rfl) ⟨Nat.zero_le _, Nat.zero_le _⟩ dX11_drawn_6 (zz_kI rfl rfl (fun r1 σ2 => ?_))
  refine zz_if_eq (tgt := 19) C dX11_drawn_9 (by decide) (fun h3 => ?_) (fun h3 => ?_)
  · refine zz_ldc2 (v := 1000000001) C (C.1.2.2.2.2 _ (List.mem_of_getElem? (i := 2) rfl)) dX11_drawn_19 ?_
    exact zz_lret C rfl rfl (fun _ h9 => h9) (Nat.zero_le _) (Nat.zero_le _) dX11_drawn_22
  · refine zz_iload_n C dX11_drawn_12 rfl 3 rfl ?_
    refine zz_callS (As := [.int p2]) (rest := []) C rfl (k_X11_isOneOfTwo p2 σ2) (va_cwS 1 C.1.2.2.2.2 gX11_drawn_X11_isOneOfTwo rfl rfl rfl (by decide +kernel) ⟨Nat.le_of_ble_eq_true rfl, Nat.le_of_ble_eq_true rfl⟩) rfl (Nat.le_of_ble_eq_true rfl) ⟨Nat.zero_le _, Nat.zero_le _⟩ dX11_drawn_13 (zz_kI rfl rfl (fun r4 σ5 => ?_))
    refine zz_if_ne (tgt := 23) C dX11_drawn_16 (by decide) (fun h6 => ?_) (fun h6 => ?_)
    · refine zz_bipush (v := 9) C dX11_drawn_23 (by decide) ?_
      refine zz_aload_n C dX11_drawn_25 rfl 0 rfl ?_
      refine zz_get C zzX_obj (fun _ h9 => List.mem_cons_of_mem _ (List.mem_append_left _ (List.mem_append_left _ (List.mem_append_left _ (List.mem_append_left _ (List.mem_append_left _ (List.mem_append_left _ (List.mem_append_left _ (List.mem_append_left _ (List.mem_append_left _ (List.mem_append_right _ (h9)))))))))))) rfl 3 (by decide) (List.mem_of_getElem? (i := 1) rfl) (Or.inl rfl) rfl dX11_drawn_26 ?_
      refine zz_iload_n C dX11_drawn_29 rfl 2 rfl ?_
      refine zz_callV C (Cn := RX10) (b := zzad Z 20) (fun H hH => zz_recv C.2.2.2 ((zzX_town (Or.inl rfl)) H hH) rfl) (As := [.int p1]) (rest := [.int (9 : Int32)]) rfl (k_X10_turnedOf 20 (Or.inl rfl) p1 σ5) (cwV 1 C.1.2.2.2.2 gX11_drawn_X10_turnedOf rfl rfl rfl (by decide +kernel) ⟨Nat.le_of_ble_eq_true rfl, Nat.le_of_ble_eq_true rfl⟩) rfl (Nat.le_of_ble_eq_true rfl) ⟨Nat.zero_le _, Nat.zero_le _⟩ dX11_drawn_30 (zz_kI rfl rfl (fun r7 σ8 => ?_))
      refine zz_isub C dX11_drawn_33 ?_
      refine zz_istoreX (locf := fun x9 => [(4, .int x9), (0, .ref (zzad Z 0)), (1, .int p0), (2, .int p1), (3, .int p2)]) C dX11_drawn_34 (by decide) (fun _ => rfl) (fun x9 => ?_)
      refine zz_iload C dX11_drawn_36 0 rfl ?_
      refine zz_if_ne (tgt := 44) C dX11_drawn_38 (by decide) (fun h10 => ?_) (fun h10 => ?_)
      · refine zz_aload_n C dX11_drawn_44 rfl 1 rfl ?_
        refine zz_get C zzX_obj (fun _ h9 => List.mem_cons_of_mem _ (List.mem_append_left _ (List.mem_append_left _ (List.mem_append_left _ (List.mem_append_left _ (List.mem_append_left _ (List.mem_append_left _ (List.mem_append_left _ (List.mem_append_left _ (List.mem_append_left _ (List.mem_append_right _ (h9)))))))))))) rfl 3 (by decide) (List.mem_of_getElem? (i := 1) rfl) (Or.inl rfl) rfl dX11_drawn_45 ?_
        refine zz_iload_n C dX11_drawn_48 rfl 2 rfl ?_
        refine zz_callV C (Cn := RX10) (b := zzad Z 20) (fun H hH => zz_recv C.2.2.2 ((zzX_town (Or.inl rfl)) H hH) rfl) (As := [.int p0]) (rest := []) rfl (k_X10_at 20 (Or.inl rfl) p0 σ8) (cwV 1 C.1.2.2.2.2 gX11_drawn_X10_at rfl rfl rfl (by decide +kernel) ⟨Nat.le_of_ble_eq_true rfl, Nat.le_of_ble_eq_true rfl⟩) rfl (Nat.le_of_ble_eq_true rfl) ⟨Nat.zero_le _, Nat.zero_le _⟩ dX11_drawn_49 (zz_kP rfl rfl (fun r11 σ12 c13 hp14 => ?_))
        refine zz_nnP hp14 (fun kf15 q16 h17 h18 hq19 => ?_)
        subst h18
        refine zz_call (av := #[.ref q16]) (rest := []) (mcc := 0) (msc := 0) (relc := zzRI) (vr_X11_drawn_52 C hq19 (Nat.le_of_ble_eq_true rfl)) (zz_kI rfl rfl (fun r20 σ21 => ?_))
        refine zz_iload C dX11_drawn_55 0 rfl ?_
        refine zz_mmin C (C.1.2.2.2.2 _ (List.mem_of_getElem? (i := 3) rfl)) (C.1.2.2.2.2 _ (List.mem_of_getElem? (i := 4) rfl)) (C.1.2.2.2.2 _ (List.mem_of_getElem? (i := 5) rfl)) (C.1.2.2.2.2 _ (List.mem_of_getElem? (i := 6) rfl)) (Nat.le_of_ble_eq_true rfl) (Nat.le_of_ble_eq_true rfl) (Nat.zero_le _) (Nat.zero_le _) dX11_drawn_57 ?_
        refine zz_i2l C dX11_drawn_60 ?_
        refine zz_iload C dX11_drawn_61 0 rfl ?_
        refine zz_i2l C dX11_drawn_63 ?_
        refine zz_iload_n C dX11_drawn_64 rfl 4 rfl ?_
        refine zz_callS (As := [.long (Int32.toInt64 (zzmin r20 x9)), .long (Int32.toInt64 x9), .int p2]) (rest := []) C rfl (k_X11_partInLeastTerms (Int32.toInt64 (zzmin r20 x9)) (Int32.toInt64 x9) p2 σ21) (va_cwS 3 C.1.2.2.2.2 gX11_drawn_X11_partInLeastTerms rfl rfl rfl (by decide +kernel) ⟨Nat.le_of_ble_eq_true rfl, Nat.le_of_ble_eq_true rfl⟩) rfl (Nat.le_of_ble_eq_true rfl) ⟨Nat.zero_le _, Nat.zero_le _⟩ dX11_drawn_65 (zz_kL rfl rfl (fun r22 σ23 => ?_))
        exact zz_lret C rfl rfl (fun _ h9 => h9) (Nat.zero_le _) (Nat.zero_le _) dX11_drawn_68
      · refine zz_iload_n C dX11_drawn_41 rfl 4 rfl ?_
        refine zz_i2l C dX11_drawn_42 ?_
        exact zz_lret C rfl rfl (fun _ h9 => h9) (Nat.zero_le _) (Nat.zero_le _) dX11_drawn_43
    · refine zz_ldc2 (v := 1000000001) C (C.1.2.2.2.2 _ (List.mem_of_getElem? (i := 2) rfl)) dX11_drawn_19 ?_
      exact zz_lret C rfl rfl (fun _ h9 => h9) (Nat.zero_le _) (Nat.zero_le _) dX11_drawn_22
set_option maxHeartbeats 4000000 in
set_option maxRecDepth 100000 in
theorem k_X11_drawn {l : Launch} {Z : zzG} {base : Nat} {PL : Nat → Option (Nat × Int32)} {mm : zzS} (p0 : Int32)  (p1 : Int32)  (p2 : Int32)  (σ : zzS) : zzCT l yX11_drawn wsX11_drawn rX11_drawn (zzA base) Z (zzX Z base PL mm) (zzX Z base PL mm) zzRL [.ref (zzad Z 0), .int p0, .int p1, .int p2] (f_X11_drawn p0 p1 p2 σ) σ :=
  zzCT_of (cc := cX11_drawn) (nL := 5) (ret := (some .long)) (by decide) rfl (Nat.le_of_ble_eq_true rfl) [(0, .ref (zzad Z 0)), (1, .int p0), (2, .int p1), (3, .int p2)] rfl (fun p e s m args below meth c C => w_X11_drawn_e C p0 p1 p2 σ)
abbrev rX11_power : Room := { frames := 0, cells := 0, slots := 0, locals := 0 }

set_option maxHeartbeats 4000000 in
set_option maxRecDepth 100000 in
theorem w_X11_power_5b {l : Launch} {Z : zzG} {base : Nat} {PL : Nat → Option (Nat × Int32)} {mm : zzS} {p : Program} {e : Env} {s : State} {m : MethodId} {args : Array Value} {below : List Frame} {meth : Method} {c : Code} (C : zzCx p m meth c s args cX11_power 5 wsX11_power RX11 (some .long) Z) (p0 : Int32)  (p1 : Int32)   (k5 : Int64 → Int32 → zzS → Option (Int64 × zzS)) (hk5 : ∀ (l2 : Int64)  (l4 : Int32)  (σ : zzS), zzGO p l e rX11_power s m args below meth c 5 (zzA base) (zzX Z base PL mm) (zzX Z base PL mm) zzRL rX11_power.cells rX11_power.slots (k5 l2 l4 σ) σ 0 0 5 [(0, .int p0), (1, .int p1), (2, .long l2), (4, .int l4)] []) (l2 : Int64)  (l4 : Int32)  (σ : zzS) : zzGO p l e rX11_power s m args below meth c 5 (zzA base) (zzX Z base PL mm) (zzX Z base PL mm) zzRL rX11_power.cells rX11_power.slots (f_X11_power_5b k5 p0 p1 l2 l4 σ) σ 0 0 5 [(0, .int p0), (1, .int p1), (2, .long l2), (4, .int l4)] [] := by
  unfold f_X11_power_5b
  refine zz_iload C dX11_power_5 3 rfl ?_
  refine zz_iload_n C dX11_power_7 rfl 1 rfl ?_
  refine zz_icmp_ge (tgt := 22) C dX11_power_8 (by decide) (fun h1 => ?_) (fun h1 => ?_)
  · refine zz_lload_n C dX11_power_22 rfl 2 rfl ?_
    exact zz_lret C rfl rfl (fun _ h9 => h9) (Nat.zero_le _) (Nat.zero_le _) dX11_power_23
  · refine zz_lload_n C dX11_power_11 rfl 2 rfl ?_
    refine zz_iload_n C dX11_power_12 rfl 0 rfl ?_
    refine zz_i2l C dX11_power_13 ?_
    refine zz_lmul C dX11_power_14 ?_
    refine zz_lstoreX_n (locf := fun x2 => [(2, .long x2), (0, .int p0), (1, .int p1), (4, .int l4)]) C dX11_power_15 rfl (by decide) (fun _ => rfl) (fun x2 => ?_)
    refine zz_iincX (d := 1) (locf := fun x3 => [(4, .int x3), (2, .long x2), (0, .int p0), (1, .int p1)]) C dX11_power_16 (k := 3) rfl (by decide) (by decide) (fun _ => rfl) (fun x3 => ?_)
    refine zz_goto (tgt := 5) C dX11_power_19 (by decide) ?_
    refine zz_sub (loc' := [(0, .int p0), (1, .int p1), (2, .long x2), (4, .int x3)]) [2, 3, 1, 0] rfl ?_
    exact hk5 x2 x3 σ
set_option maxHeartbeats 4000000 in
set_option maxRecDepth 100000 in
theorem w_X11_power_5 {l : Launch} {Z : zzG} {base : Nat} {PL : Nat → Option (Nat × Int32)} {mm : zzS} {p : Program} {e : Env} {s : State} {m : MethodId} {args : Array Value} {below : List Frame} {meth : Method} {c : Code} (C : zzCx p m meth c s args cX11_power 5 wsX11_power RX11 (some .long) Z) (p0 : Int32)  (p1 : Int32)   (n : Nat) : ∀ (l2 : Int64)  (l4 : Int32)  (σ : zzS), zzGO p l e rX11_power s m args below meth c 5 (zzA base) (zzX Z base PL mm) (zzX Z base PL mm) zzRL rX11_power.cells rX11_power.slots (f_X11_power_5 p0 p1 n l2 l4 σ) σ 0 0 5 [(0, .int p0), (1, .int p1), (2, .long l2), (4, .int l4)] [] := by
  induction n with
  | zero => exact fun _ _ _ r9 s9 h9 => by cases h9
  | succ n ih => exact w_X11_power_5b C p0 p1 _ ih
set_option maxHeartbeats 4000000 in
set_option maxRecDepth 100000 in
theorem w_X11_power_e {l : Launch} {Z : zzG} {base : Nat} {PL : Nat → Option (Nat × Int32)} {mm : zzS} {p : Program} {e : Env} {s : State} {m : MethodId} {args : Array Value} {below : List Frame} {meth : Method} {c : Code} (C : zzCx p m meth c s args cX11_power 5 wsX11_power RX11 (some .long) Z) (p0 : Int32)  (p1 : Int32)  (σ : zzS) : zzGO p l e rX11_power s m args below meth c 5 (zzA base) (zzX Z base PL mm) (zzX Z base PL mm) zzRL rX11_power.cells rX11_power.slots (f_X11_power p0 p1 σ) σ 0 0 0 [(0, .int p0), (1, .int p1)] [] := by
  unfold f_X11_power
  refine zz_lconst (v := 1) C dX11_power_0 (by decide) ?_
  refine zz_lstore_n (loc' := [(2, .long (1 : Int64)), (0, .int p0), (1, .int p1)]) C dX11_power_1 rfl (by decide) rfl ?_
  refine zz_iconst (v := 0) C dX11_power_2 (by decide) ?_
  refine zz_istore (loc' := [(4, .int (0 : Int32)), (2, .long (1 : Int64)), (0, .int p0), (1, .int p1)]) C dX11_power_3 (by decide) rfl ?_
  refine zz_sub (loc' := [(0, .int p0), (1, .int p1), (2, .long (1 : Int64)), (4, .int (0 : Int32))]) [2, 3, 1, 0] rfl ?_
  exact w_X11_power_5 C p0 p1 200 (1 : Int64) (0 : Int32) σ
set_option maxHeartbeats 4000000 in
set_option maxRecDepth 100000 in
theorem k_X11_power {l : Launch} {Z : zzG} {base : Nat} {PL : Nat → Option (Nat × Int32)} {mm : zzS} (p0 : Int32)  (p1 : Int32)  (σ : zzS) : zzCT l yX11_power wsX11_power rX11_power (zzA base) Z (zzX Z base PL mm) (zzX Z base PL mm) zzRL [.int p0, .int p1] (f_X11_power p0 p1 σ) σ :=
  zzCT_of (cc := cX11_power) (nL := 5) (ret := (some .long)) (by decide) rfl (Nat.le_of_ble_eq_true rfl) [(0, .int p0), (1, .int p1)] rfl (fun p e s m args below meth c C => w_X11_power_e C p0 p1 σ)
abbrev rX11_await : Room := { frames := 2, cells := 0, slots := 0, locals := 54 }

set_option maxHeartbeats 4000000 in
set_option maxRecDepth 100000 in
theorem w_X11_await_e {l : Launch} {Z : zzG} {base : Nat} {PL : Nat → Option (Nat × Int32)} {mm : zzS} {p : Program} {e : Env} {s : State} {m : MethodId} {args : Array Value} {below : List Frame} {meth : Method} {c : Code} (C : zzCx p m meth c s args cX11_await 6 wsX11_await RX11 (some .long) Z) (p0 : Int32)  (p1 : Int32)  (p2 : Int32)  (σ : zzS) : zzGO p l e rX11_await s m args below meth c 6 (zzA base) (zzX Z base PL mm) (zzX Z base PL mm) zzRL rX11_await.cells rX11_await.slots (f_X11_await p0 p1 p2 σ) σ 0 0 0 [(0, .ref (zzad Z 0)), (1, .int p0), (2, .int p1), (3, .int p2)] [] := by
  unfold f_X11_await
  refine zz_iload_n C dX11_await_0 rfl 1 rfl ?_
  refine zz_if_lt (tgt := 27) C dX11_await_1 (by decide) (fun h1 => ?_) (fun h1 => ?_)
  · refine zz_ldc2 (v := 1000000001) C (C.1.2.2.2.2 _ (List.mem_of_getElem? (i := 1) rfl)) dX11_await_27 ?_
    exact zz_lret C rfl rfl (fun _ h9 => h9) (Nat.zero_le _) (Nat.zero_le _) dX11_await_30
  · refine zz_iload_n C dX11_await_4 rfl 1 rfl ?_
    refine zz_bipush (v := 10) C dX11_await_5 (by decide) ?_
    refine zz_icmp_gt (tgt := 27) C dX11_await_7 (by decide) (fun h2 => ?_) (fun h2 => ?_)
    · refine zz_ldc2 (v := 1000000001) C (C.1.2.2.2.2 _ (List.mem_of_getElem? (i := 1) rfl)) dX11_await_27 ?_
      exact zz_lret C rfl rfl (fun _ h9 => h9) (Nat.zero_le _) (Nat.zero_le _) dX11_await_30
    · refine zz_iload_n C dX11_await_10 rfl 2 rfl ?_
      refine zz_if_lt (tgt := 27) C dX11_await_11 (by decide) (fun h3 => ?_) (fun h3 => ?_)
      · refine zz_ldc2 (v := 1000000001) C (C.1.2.2.2.2 _ (List.mem_of_getElem? (i := 1) rfl)) dX11_await_27 ?_
        exact zz_lret C rfl rfl (fun _ h9 => h9) (Nat.zero_le _) (Nat.zero_le _) dX11_await_30
      · refine zz_iload_n C dX11_await_14 rfl 2 rfl ?_
        refine zz_bipush (v := 12) C dX11_await_15 (by decide) ?_
        refine zz_icmp_gt (tgt := 27) C dX11_await_17 (by decide) (fun h4 => ?_) (fun h4 => ?_)
        · refine zz_ldc2 (v := 1000000001) C (C.1.2.2.2.2 _ (List.mem_of_getElem? (i := 1) rfl)) dX11_await_27 ?_
          exact zz_lret C rfl rfl (fun _ h9 => h9) (Nat.zero_le _) (Nat.zero_le _) dX11_await_30
        · refine zz_iload_n C dX11_await_20 rfl 3 rfl ?_
          refine zz_callS (As := [.int p2]) (rest := []) C rfl (k_X11_isOneOfTwo p2 σ) (va_cwS 1 C.1.2.2.2.2 gX11_await_X11_isOneOfTwo rfl rfl rfl (by decide +kernel) ⟨Nat.le_of_ble_eq_true rfl, Nat.le_of_ble_eq_true rfl⟩) rfl (Nat.le_of_ble_eq_true rfl) ⟨Nat.zero_le _, Nat.zero_le _⟩ dX11_await_21 (zz_kI rfl rfl (fun r5 σ6 => ?_))
          refine zz_if_ne (tgt := 31) C dX11_await_24 (by decide) (fun h7 => ?_) (fun h7 => ?_)
          · refine zz_bipush (v := 10) C dX11_await_31 (by decide) ?_
            refine zz_iload_n C dX11_await_33 rfl 2 rfl ?_
            refine zz_callS (As := [.int (10 : Int32), .int p1]) (rest := []) C rfl (k_X11_power (10 : Int32) p1 σ6) (va_cwS 2 C.1.2.2.2.2 gX11_await_X11_power rfl rfl rfl (by decide +kernel) ⟨Nat.le_of_ble_eq_true rfl, Nat.le_of_ble_eq_true rfl⟩) rfl (Nat.le_of_ble_eq_true rfl) ⟨Nat.zero_le _, Nat.zero_le _⟩ dX11_await_34 (zz_kL rfl rfl (fun r8 σ9 => ?_))
            refine zz_lstore (loc' := [(4, .long r8), (0, .ref (zzad Z 0)), (1, .int p0), (2, .int p1), (3, .int p2)]) C dX11_await_37 (by decide) rfl ?_
            refine zz_lload C dX11_await_39 0 rfl ?_
            refine zz_bipush (v := 10) C dX11_await_41 (by decide) ?_
            refine zz_iload_n C dX11_await_43 rfl 2 rfl ?_
            refine zz_isub C dX11_await_44 ?_
            refine zz_iload_n C dX11_await_45 rfl 3 rfl ?_
            refine zz_callS (As := [.int ((10 : Int32) - p0), .int p1]) (rest := [.long r8]) C rfl (k_X11_power ((10 : Int32) - p0) p1 σ9) (va_cwS 2 C.1.2.2.2.2 gX11_await_X11_power rfl rfl rfl (by decide +kernel) ⟨Nat.le_of_ble_eq_true rfl, Nat.le_of_ble_eq_true rfl⟩) rfl (Nat.le_of_ble_eq_true rfl) ⟨Nat.zero_le _, Nat.zero_le _⟩ dX11_await_46 (zz_kL rfl rfl (fun r10 σ11 => ?_))
            refine zz_lsub C dX11_await_49 ?_
            refine zz_lload C dX11_await_50 0 rfl ?_
            refine zz_iload_n C dX11_await_52 rfl 4 rfl ?_
            refine zz_callS (As := [.long (r8 - r10), .long r8, .int p2]) (rest := []) C rfl (k_X11_partInLeastTerms (r8 - r10) r8 p2 σ11) (va_cwS 3 C.1.2.2.2.2 gX11_await_X11_partInLeastTerms rfl rfl rfl (by decide +kernel) ⟨Nat.le_of_ble_eq_true rfl, Nat.le_of_ble_eq_true rfl⟩) rfl (Nat.le_of_ble_eq_true rfl) ⟨Nat.zero_le _, Nat.zero_le _⟩ dX11_await_53 (zz_kL rfl rfl (fun r12 σ13 => ?_))
            exact zz_lret C rfl rfl (fun _ h9 => h9) (Nat.zero_le _) (Nat.zero_le _) dX11_await_56
          · refine zz_ldc2 (v := 1000000001) C (C.1.2.2.2.2 _ (List.mem_of_getElem? (i := 1) rfl)) dX11_await_27 ?_
            exact zz_lret C rfl rfl (fun _ h9 => h9) (Nat.zero_le _) (Nat.zero_le _) dX11_await_30
set_option maxHeartbeats 4000000 in
set_option maxRecDepth 100000 in
theorem k_X11_await {l : Launch} {Z : zzG} {base : Nat} {PL : Nat → Option (Nat × Int32)} {mm : zzS} (p0 : Int32)  (p1 : Int32)  (p2 : Int32)  (σ : zzS) : zzCT l yX11_await wsX11_await rX11_await (zzA base) Z (zzX Z base PL mm) (zzX Z base PL mm) zzRL [.ref (zzad Z 0), .int p0, .int p1, .int p2] (f_X11_await p0 p1 p2 σ) σ :=
  zzCT_of (cc := cX11_await) (nL := 6) (ret := (some .long)) (by decide) rfl (Nat.le_of_ble_eq_true rfl) [(0, .ref (zzad Z 0)), (1, .int p0), (2, .int p1), (3, .int p2)] rfl (fun p e s m args below meth c C => w_X11_await_e C p0 p1 p2 σ)
abbrev rX11_daysFor : Room := { frames := 1, cells := 0, slots := 0, locals := 24 }

set_option maxHeartbeats 4000000 in
set_option maxRecDepth 100000 in
theorem w_X11_daysFor_14b {l : Launch} {Z : zzG} {base : Nat} {PL : Nat → Option (Nat × Int32)} {mm : zzS} {p : Program} {e : Env} {s : State} {m : MethodId} {args : Array Value} {below : List Frame} {meth : Method} {c : Code} (C : zzCx p m meth c s args cX11_daysFor 3 wsX11_daysFor RX11 (some .int) Z) (p0 : Int32)   (k14 : Int32 → zzS → Option (Int32 × zzS)) (hk14 : ∀ (l2 : Int32)  (σ : zzS), zzGO p l e rX11_daysFor s m args below meth c 3 (zzA base) (zzX Z base PL mm) (zzX Z base PL mm) zzRI rX11_daysFor.cells rX11_daysFor.slots (k14 l2 σ) σ 0 0 14 [(1, .int p0), (2, .int l2)] []) (l2 : Int32)  (σ : zzS) : zzGO p l e rX11_daysFor s m args below meth c 3 (zzA base) (zzX Z base PL mm) (zzX Z base PL mm) zzRI rX11_daysFor.cells rX11_daysFor.slots (f_X11_daysFor_14b k14 p0 l2 σ) σ 0 0 14 [(1, .int p0), (2, .int l2)] [] := by
  unfold f_X11_daysFor_14b
  refine zz_iload_n C dX11_daysFor_14 rfl 1 rfl ?_
  refine zz_bipush (v := 12) C dX11_daysFor_15 (by decide) ?_
  refine zz_icmp_gt (tgt := 50) C dX11_daysFor_17 (by decide) (fun h1 => ?_) (fun h1 => ?_)
  · refine zz_bipush (v := -4) C dX11_daysFor_50 (by decide) ?_
    exact zz_iret C rfl rfl (fun _ h9 => h9) (Nat.zero_le _) (Nat.zero_le _) dX11_daysFor_52
  · refine zz_ldc2 (v := 2) C (C.1.2.2.2.2 _ (List.mem_of_getElem? (i := 1) rfl)) dX11_daysFor_20 ?_
    refine zz_bipush (v := 10) C dX11_daysFor_23 (by decide) ?_
    refine zz_iload_n C dX11_daysFor_25 rfl 0 rfl ?_
    refine zz_isub C dX11_daysFor_26 ?_
    refine zz_iload_n C dX11_daysFor_27 rfl 1 rfl ?_
    refine zz_callS (As := [.int ((10 : Int32) - p0), .int l2]) (rest := [.long (2 : Int64)]) C rfl (k_X11_power ((10 : Int32) - p0) l2 σ) (va_cwS 2 C.1.2.2.2.2 gX11_daysFor_X11_power rfl rfl rfl (by decide +kernel) ⟨Nat.le_of_ble_eq_true rfl, Nat.le_of_ble_eq_true rfl⟩) rfl (Nat.le_of_ble_eq_true rfl) ⟨Nat.zero_le _, Nat.zero_le _⟩ dX11_daysFor_28 (zz_kL rfl rfl (fun r2 σ3 => ?_))
    refine zz_lmul C dX11_daysFor_31 ?_
    refine zz_bipush (v := 10) C dX11_daysFor_32 (by decide) ?_
    refine zz_iload_n C dX11_daysFor_34 rfl 1 rfl ?_
    refine zz_callS (As := [.int (10 : Int32), .int l2]) (rest := [.long ((2 : Int64) * r2)]) C rfl (k_X11_power (10 : Int32) l2 σ3) (va_cwS 2 C.1.2.2.2.2 gX11_daysFor_X11_power rfl rfl rfl (by decide +kernel) ⟨Nat.le_of_ble_eq_true rfl, Nat.le_of_ble_eq_true rfl⟩) rfl (Nat.le_of_ble_eq_true rfl) ⟨Nat.zero_le _, Nat.zero_le _⟩ dX11_daysFor_35 (zz_kL rfl rfl (fun r4 σ5 => ?_))
    refine zz_lcmp C dX11_daysFor_38 ?_
    refine zz_if_gt (tgt := 44) C dX11_daysFor_39 (by decide) (fun h6 => ?_) (fun h6 => ?_)
    · refine zz_iincX (d := 1) (locf := fun x7 => [(2, .int x7), (1, .int p0)]) C dX11_daysFor_44 (k := 1) rfl (by decide) (by decide) (fun _ => rfl) (fun x7 => ?_)
      refine zz_goto (tgt := 14) C dX11_daysFor_47 (by decide) ?_
      refine zz_sub (loc' := [(1, .int p0), (2, .int x7)]) [1, 0] rfl ?_
      exact hk14 x7 σ5
    · refine zz_iload_n C dX11_daysFor_42 rfl 1 rfl ?_
      exact zz_iret C rfl rfl (fun _ h9 => h9) (Nat.zero_le _) (Nat.zero_le _) dX11_daysFor_43
set_option maxHeartbeats 4000000 in
set_option maxRecDepth 100000 in
theorem w_X11_daysFor_14 {l : Launch} {Z : zzG} {base : Nat} {PL : Nat → Option (Nat × Int32)} {mm : zzS} {p : Program} {e : Env} {s : State} {m : MethodId} {args : Array Value} {below : List Frame} {meth : Method} {c : Code} (C : zzCx p m meth c s args cX11_daysFor 3 wsX11_daysFor RX11 (some .int) Z) (p0 : Int32)   (n : Nat) : ∀ (l2 : Int32)  (σ : zzS), zzGO p l e rX11_daysFor s m args below meth c 3 (zzA base) (zzX Z base PL mm) (zzX Z base PL mm) zzRI rX11_daysFor.cells rX11_daysFor.slots (f_X11_daysFor_14 p0 n l2 σ) σ 0 0 14 [(1, .int p0), (2, .int l2)] [] := by
  induction n with
  | zero => exact fun _ _ r9 s9 h9 => by cases h9
  | succ n ih => exact w_X11_daysFor_14b C p0 _ ih
set_option maxHeartbeats 4000000 in
set_option maxRecDepth 100000 in
theorem w_X11_daysFor_e {l : Launch} {Z : zzG} {base : Nat} {PL : Nat → Option (Nat × Int32)} {mm : zzS} {p : Program} {e : Env} {s : State} {m : MethodId} {args : Array Value} {below : List Frame} {meth : Method} {c : Code} (C : zzCx p m meth c s args cX11_daysFor 3 wsX11_daysFor RX11 (some .int) Z) (p0 : Int32)  (σ : zzS) : zzGO p l e rX11_daysFor s m args below meth c 3 (zzA base) (zzX Z base PL mm) (zzX Z base PL mm) zzRI rX11_daysFor.cells rX11_daysFor.slots (f_X11_daysFor p0 σ) σ 0 0 0 [(0, .ref (zzad Z 0)), (1, .int p0)] [] := by
  unfold f_X11_daysFor
  refine zz_iload_n C dX11_daysFor_0 rfl 1 rfl ?_
  refine zz_if_lt (tgt := 10) C dX11_daysFor_1 (by decide) (fun h1 => ?_) (fun h1 => ?_)
  · refine zz_iconst (v := -1) C dX11_daysFor_10 (by decide) ?_
    exact zz_iret C rfl rfl (fun _ h9 => h9) (Nat.zero_le _) (Nat.zero_le _) dX11_daysFor_11
  · refine zz_iload_n C dX11_daysFor_4 rfl 1 rfl ?_
    refine zz_bipush (v := 10) C dX11_daysFor_5 (by decide) ?_
    refine zz_icmp_le (tgt := 12) C dX11_daysFor_7 (by decide) (fun h2 => ?_) (fun h2 => ?_)
    · refine zz_iconst (v := 0) C dX11_daysFor_12 (by decide) ?_
      refine zz_istore_n (loc' := [(2, .int (0 : Int32)), (0, .ref (zzad Z 0)), (1, .int p0)]) C dX11_daysFor_13 rfl (by decide) rfl ?_
      refine zz_sub (loc' := [(1, .int p0), (2, .int (0 : Int32))]) [2, 0] rfl ?_
      exact w_X11_daysFor_14 C p0 200 (0 : Int32) σ
    · refine zz_iconst (v := -1) C dX11_daysFor_10 (by decide) ?_
      exact zz_iret C rfl rfl (fun _ h9 => h9) (Nat.zero_le _) (Nat.zero_le _) dX11_daysFor_11
set_option maxHeartbeats 4000000 in
set_option maxRecDepth 100000 in
theorem k_X11_daysFor {l : Launch} {Z : zzG} {base : Nat} {PL : Nat → Option (Nat × Int32)} {mm : zzS} (p0 : Int32)  (σ : zzS) : zzCT l yX11_daysFor wsX11_daysFor rX11_daysFor (zzA base) Z (zzX Z base PL mm) (zzX Z base PL mm) zzRI [.ref (zzad Z 0), .int p0] (f_X11_daysFor p0 σ) σ :=
  zzCT_of (cc := cX11_daysFor) (nL := 3) (ret := (some .int)) (by decide) rfl (Nat.le_of_ble_eq_true rfl) [(0, .ref (zzad Z 0)), (1, .int p0)] rfl (fun p e s m args below meth c C => w_X11_daysFor_e C p0 σ)
abbrev rX11_ask : Room := { frames := 6, cells := 0, slots := 0, locals := 134 }

set_option maxHeartbeats 4000000 in
set_option maxRecDepth 100000 in
theorem w_X11_ask_111 {l : Launch} {Z : zzG} {base : Nat} {PL : Nat → Option (Nat × Int32)} {mm : zzS} {p : Program} {e : Env} {s : State} {m : MethodId} {args : Array Value} {below : List Frame} {meth : Method} {c : Code} (C : zzCx p m meth c s args cX11_ask 6 wsX11_ask RX11 (some .int) Z) (p0 : Int32)  (k37 : Int32 → Int32 → Int32 → zzS → Option (Int32 × zzS)) (hk37 : ∀ (l2 : Int32)  (l3 : Int32)  (l4 : Int32)  (σ : zzS), zzGO p l e rX11_ask s m args below meth c 6 (zzA base) (zzX Z base PL mm) (zzX Z base PL mm) zzRI rX11_ask.cells rX11_ask.slots (k37 l2 l3 l4 σ) σ 0 0 37 [(0, .ref (zzad Z 0)), (1, .int p0), (2, .int l2), (3, .int l3), (4, .int l4)] []) (l2 : Int32)  (l3 : Int32)  (l4 : Int32)  (σ : zzS) : zzGO p l e rX11_ask s m args below meth c 6 (zzA base) (zzX Z base PL mm) (zzX Z base PL mm) zzRI rX11_ask.cells rX11_ask.slots (f_X11_ask_111 k37 p0 l2 l3 l4 σ) σ 0 0 111 [(0, .ref (zzad Z 0)), (1, .int p0), (2, .int l2), (3, .int l3), (4, .int l4)] [] := by
  unfold f_X11_ask_111
  refine zz_iincX (d := 1) (locf := fun x1 => [(4, .int x1), (0, .ref (zzad Z 0)), (1, .int p0), (2, .int l2), (3, .int l3)]) C dX11_ask_111 (k := 4) rfl (by decide) (by decide) (fun _ => rfl) (fun x1 => ?_)
  refine zz_goto (tgt := 37) C dX11_ask_114 (by decide) ?_
  refine zz_sub (loc' := [(0, .ref (zzad Z 0)), (1, .int p0), (2, .int l2), (3, .int l3), (4, .int x1)]) [1, 2, 3, 4, 0] rfl ?_
  exact hk37 l2 l3 x1 σ
set_option maxHeartbeats 4000000 in
set_option maxRecDepth 100000 in
theorem w_X11_ask_37b {l : Launch} {Z : zzG} {base : Nat} {PL : Nat → Option (Nat × Int32)} {mm : zzS} {p : Program} {e : Env} {s : State} {m : MethodId} {args : Array Value} {below : List Frame} {meth : Method} {c : Code} (C : zzCx p m meth c s args cX11_ask 6 wsX11_ask RX11 (some .int) Z) (p0 : Int32)   (k37 : Int32 → Int32 → Int32 → zzS → Option (Int32 × zzS)) (hk37 : ∀ (l2 : Int32)  (l3 : Int32)  (l4 : Int32)  (σ : zzS), zzGO p l e rX11_ask s m args below meth c 6 (zzA base) (zzX Z base PL mm) (zzX Z base PL mm) zzRI rX11_ask.cells rX11_ask.slots (k37 l2 l3 l4 σ) σ 0 0 37 [(0, .ref (zzad Z 0)), (1, .int p0), (2, .int l2), (3, .int l3), (4, .int l4)] []) (l2 : Int32)  (l3 : Int32)  (l4 : Int32)  (σ : zzS) : zzGO p l e rX11_ask s m args below meth c 6 (zzA base) (zzX Z base PL mm) (zzX Z base PL mm) zzRI rX11_ask.cells rX11_ask.slots (f_X11_ask_37b k37 p0 l2 l3 l4 σ) σ 0 0 37 [(0, .ref (zzad Z 0)), (1, .int p0), (2, .int l2), (3, .int l3), (4, .int l4)] [] := by
  unfold f_X11_ask_37b
  refine zz_iload C dX11_ask_37 4 rfl ?_
  refine zz_aload_n C dX11_ask_39 rfl 0 rfl ?_
  refine zz_get C zzX_obj (fun _ h9 => List.mem_cons_of_mem _ (List.mem_append_left _ (List.mem_append_left _ (List.mem_append_left _ (List.mem_append_left _ (List.mem_append_left _ (List.mem_append_left _ (List.mem_append_left _ (List.mem_append_left _ (List.mem_append_left _ (List.mem_append_right _ (h9)))))))))))) rfl 3 (by decide) (List.mem_of_getElem? (i := 1) rfl) (Or.inl rfl) rfl dX11_ask_40 ?_
  refine zz_get C (zzX_town (Or.inl rfl)) (fun _ h9 => List.mem_cons_of_mem _ (List.mem_append_left _ (List.mem_append_left _ (List.mem_append_left _ (List.mem_append_left _ (List.mem_append_left _ (List.mem_append_left _ (List.mem_append_left _ (List.mem_append_left _ (List.mem_append_right _ (h9))))))))))) rfl 4 (by decide) (List.mem_of_getElem? (i := 2) rfl) (Or.inl rfl) rfl dX11_ask_43 ?_
  refine zz_icmp_ge (tgt := 117) C dX11_ask_46 (by decide) (fun h1 => ?_) (fun h1 => ?_)
  · refine zz_iload_n C dX11_ask_117 rfl 2 rfl ?_
    exact zz_iret C rfl rfl (fun _ h9 => h9) (Nat.zero_le _) (Nat.zero_le _) dX11_ask_118
  · refine zz_aload_n C dX11_ask_49 rfl 0 rfl ?_
    refine zz_get C zzX_obj (fun _ h9 => List.mem_cons_of_mem _ (List.mem_append_left _ (List.mem_append_left _ (List.mem_append_left _ (List.mem_append_left _ (List.mem_append_left _ (List.mem_append_left _ (List.mem_append_left _ (List.mem_append_left _ (List.mem_append_left _ (List.mem_append_right _ (h9)))))))))))) rfl 3 (by decide) (List.mem_of_getElem? (i := 1) rfl) (Or.inl rfl) rfl dX11_ask_50 ?_
    refine zz_iload C dX11_ask_53 4 rfl ?_
    refine zz_iload_n C dX11_ask_55 rfl 1 rfl ?_
    refine zz_aload_n C dX11_ask_56 rfl 0 rfl ?_
    refine zz_get C zzX_obj (fun _ h9 => List.mem_cons_of_mem _ (List.mem_append_left _ (List.mem_append_left _ (List.mem_append_left _ (List.mem_append_left _ (List.mem_append_left _ (List.mem_append_left _ (List.mem_append_left _ (List.mem_append_left _ (List.mem_append_left _ (List.mem_append_right _ (h9)))))))))))) rfl 3 (by decide) (List.mem_of_getElem? (i := 1) rfl) (Or.inl rfl) rfl dX11_ask_57 ?_
    refine zz_get C (zzX_town (Or.inl rfl)) (fun _ h9 => List.mem_cons_of_mem _ (List.mem_append_left _ (List.mem_append_left _ (List.mem_append_left _ (List.mem_append_left _ (List.mem_append_left _ (List.mem_append_left _ (List.mem_append_left _ (List.mem_append_left _ (List.mem_append_right _ (h9))))))))))) rfl 5 (by decide) (List.mem_of_getElem? (i := 3) rfl) (Or.inl rfl) rfl dX11_ask_60 ?_
    refine zz_callV C (Cn := RX10) (b := zzad Z 20) (fun H hH => zz_recv C.2.2.2 ((zzX_town (Or.inl rfl)) H hH) rfl) (As := [.int l4, .int p0, .int (zzi σ 20 5)]) (rest := []) rfl (k_X10_may 20 (Or.inl rfl) l4 p0 (zzi σ 20 5) σ) (cwV 3 C.1.2.2.2.2 gX11_ask_X10_may rfl rfl rfl (by decide +kernel) ⟨Nat.le_of_ble_eq_true rfl, Nat.le_of_ble_eq_true rfl⟩) rfl (Nat.le_of_ble_eq_true rfl) ⟨Nat.zero_le _, Nat.zero_le _⟩ dX11_ask_63 (zz_kI rfl rfl (fun r2 σ3 => ?_))
    refine zz_if_eq (tgt := 111) C dX11_ask_66 (by decide) (fun h4 => ?_) (fun h4 => ?_)
    · refine zz_sub (loc' := [(0, .ref (zzad Z 0)), (1, .int p0), (2, .int l2), (3, .int l3), (4, .int l4)]) [0, 1, 2, 3, 4] rfl ?_
      exact w_X11_ask_111 C p0 k37 hk37 l2 l3 l4 σ3
    · refine zz_aload_n C dX11_ask_69 rfl 0 rfl ?_
      refine zz_get C zzX_obj (fun _ h9 => List.mem_cons_of_mem _ (List.mem_append_left _ (List.mem_append_left _ (List.mem_append_left _ (List.mem_append_left _ (List.mem_append_left _ (List.mem_append_left _ (List.mem_append_left _ (List.mem_append_left _ (List.mem_append_left _ (List.mem_append_right _ (h9)))))))))))) rfl 4 (by decide) (List.mem_of_getElem? (i := 4) rfl) (Or.inl rfl) rfl dX11_ask_70 ?_
      refine zz_aload_n C dX11_ask_73 rfl 0 rfl ?_
      refine zz_get C zzX_obj (fun _ h9 => List.mem_cons_of_mem _ (List.mem_append_left _ (List.mem_append_left _ (List.mem_append_left _ (List.mem_append_left _ (List.mem_append_left _ (List.mem_append_left _ (List.mem_append_left _ (List.mem_append_left _ (List.mem_append_left _ (List.mem_append_right _ (h9)))))))))))) rfl 3 (by decide) (List.mem_of_getElem? (i := 1) rfl) (Or.inl rfl) rfl dX11_ask_74 ?_
      refine zz_callV C (Cn := RX10) (b := zzad Z 24) (fun H hH => zz_recv C.2.2.2 ((zzX_town (Or.inr (Or.inl rfl))) H hH) rfl) (As := [.ref (zzad Z 20)]) (rest := []) rfl (k_X10_become 24 (Or.inr (Or.inl rfl)) 20 (Or.inl rfl) σ3) (cwV 1 C.1.2.2.2.2 gX11_ask_X10_become rfl rfl rfl (by decide +kernel) ⟨Nat.le_of_ble_eq_true rfl, Nat.le_of_ble_eq_true rfl⟩) rfl (Nat.le_of_ble_eq_true rfl) ⟨Nat.zero_le _, Nat.zero_le _⟩ dX11_ask_77 (zz_kV rfl rfl (fun r5 σ6 => ?_))
      refine zz_aload_n C dX11_ask_80 rfl 0 rfl ?_
      refine zz_get C zzX_obj (fun _ h9 => List.mem_cons_of_mem _ (List.mem_append_left _ (List.mem_append_left _ (List.mem_append_left _ (List.mem_append_left _ (List.mem_append_left _ (List.mem_append_left _ (List.mem_append_left _ (List.mem_append_left _ (List.mem_append_left _ (List.mem_append_right _ (h9)))))))))))) rfl 4 (by decide) (List.mem_of_getElem? (i := 4) rfl) (Or.inl rfl) rfl dX11_ask_81 ?_
      refine zz_iload C dX11_ask_84 4 rfl ?_
      refine zz_iload_n C dX11_ask_86 rfl 1 rfl ?_
      refine zz_callV C (Cn := RX10) (b := zzad Z 24) (fun H hH => zz_recv C.2.2.2 ((zzX_town (Or.inr (Or.inl rfl))) H hH) rfl) (As := [.int l4, .int p0]) (rest := []) rfl (k_X10_turnCards 24 (Or.inr (Or.inl rfl)) l4 p0 σ6) (cwV 2 C.1.2.2.2.2 gX11_ask_X10_turnCards rfl rfl rfl (by decide +kernel) ⟨Nat.le_of_ble_eq_true rfl, Nat.le_of_ble_eq_true rfl⟩) rfl (Nat.le_of_ble_eq_true rfl) ⟨Nat.zero_le _, Nat.zero_le _⟩ dX11_ask_87 (zz_kV rfl rfl (fun r7 σ8 => ?_))
      refine zz_aload_n C dX11_ask_90 rfl 0 rfl ?_
      refine zz_get C zzX_obj (fun _ h9 => List.mem_cons_of_mem _ (List.mem_append_left _ (List.mem_append_left _ (List.mem_append_left _ (List.mem_append_left _ (List.mem_append_left _ (List.mem_append_left _ (List.mem_append_left _ (List.mem_append_left _ (List.mem_append_left _ (List.mem_append_right _ (h9)))))))))))) rfl 4 (by decide) (List.mem_of_getElem? (i := 4) rfl) (Or.inl rfl) rfl dX11_ask_91 ?_
      refine zz_callV C (Cn := RX10) (b := zzad Z 24) (fun H hH => zz_recv C.2.2.2 ((zzX_town (Or.inr (Or.inl rfl))) H hH) rfl) (As := []) (rest := []) rfl (k_X10_fitForAll 24 (Or.inr (Or.inl rfl)) σ8) (cwV 0 C.1.2.2.2.2 gX11_ask_X10_fitForAll rfl rfl rfl (by decide +kernel) ⟨Nat.le_of_ble_eq_true rfl, Nat.le_of_ble_eq_true rfl⟩) rfl (Nat.le_of_ble_eq_true rfl) ⟨Nat.zero_le _, Nat.zero_le _⟩ dX11_ask_94 (zz_kI rfl rfl (fun r9 σ10 => ?_))
      refine zz_istore (loc' := [(5, .int r9), (0, .ref (zzad Z 0)), (1, .int p0), (2, .int l2), (3, .int l3), (4, .int l4)]) C dX11_ask_97 (by decide) rfl ?_
      refine zz_iload C dX11_ask_99 0 rfl ?_
      refine zz_iload_n C dX11_ask_101 rfl 4 rfl ?_
      refine zz_icmp_le (tgt := 111) C dX11_ask_102 (by decide) (fun h11 => ?_) (fun h11 => ?_)
      · refine zz_sub (loc' := [(0, .ref (zzad Z 0)), (1, .int p0), (2, .int l2), (3, .int l3), (4, .int l4)]) [1, 2, 3, 4, 5] rfl ?_
        exact w_X11_ask_111 C p0 k37 hk37 l2 l3 l4 σ10
      · refine zz_iload C dX11_ask_105 5 rfl ?_
        refine zz_istore_n (loc' := [(2, .int l4), (5, .int r9), (0, .ref (zzad Z 0)), (1, .int p0), (3, .int l3), (4, .int l4)]) C dX11_ask_107 rfl (by decide) rfl ?_
        refine zz_iload C dX11_ask_108 1 rfl ?_
        refine zz_istore_n (loc' := [(3, .int r9), (2, .int l4), (5, .int r9), (0, .ref (zzad Z 0)), (1, .int p0), (4, .int l4)]) C dX11_ask_110 rfl (by decide) rfl ?_
        refine zz_sub (loc' := [(0, .ref (zzad Z 0)), (1, .int p0), (2, .int l4), (3, .int r9), (4, .int l4)]) [3, 4, 1, 0, 5] rfl ?_
        exact w_X11_ask_111 C p0 k37 hk37 l4 r9 l4 σ10
set_option maxHeartbeats 4000000 in
set_option maxRecDepth 100000 in
theorem w_X11_ask_37 {l : Launch} {Z : zzG} {base : Nat} {PL : Nat → Option (Nat × Int32)} {mm : zzS} {p : Program} {e : Env} {s : State} {m : MethodId} {args : Array Value} {below : List Frame} {meth : Method} {c : Code} (C : zzCx p m meth c s args cX11_ask 6 wsX11_ask RX11 (some .int) Z) (p0 : Int32)   (n : Nat) : ∀ (l2 : Int32)  (l3 : Int32)  (l4 : Int32)  (σ : zzS), zzGO p l e rX11_ask s m args below meth c 6 (zzA base) (zzX Z base PL mm) (zzX Z base PL mm) zzRI rX11_ask.cells rX11_ask.slots (f_X11_ask_37 p0 n l2 l3 l4 σ) σ 0 0 37 [(0, .ref (zzad Z 0)), (1, .int p0), (2, .int l2), (3, .int l3), (4, .int l4)] [] := by
  induction n with
  | zero => exact fun _ _ _ _ r9 s9 h9 => by cases h9
  | succ n ih => exact w_X11_ask_37b C p0 _ ih
set_option maxHeartbeats 4000000 in
set_option maxRecDepth 100000 in
theorem w_X11_ask_e {l : Launch} {Z : zzG} {base : Nat} {PL : Nat → Option (Nat × Int32)} {mm : zzS} {p : Program} {e : Env} {s : State} {m : MethodId} {args : Array Value} {below : List Frame} {meth : Method} {c : Code} (C : zzCx p m meth c s args cX11_ask 6 wsX11_ask RX11 (some .int) Z) (p0 : Int32)  (σ : zzS) : zzGO p l e rX11_ask s m args below meth c 6 (zzA base) (zzX Z base PL mm) (zzX Z base PL mm) zzRI rX11_ask.cells rX11_ask.slots (f_X11_ask p0 σ) σ 0 0 0 [(0, .ref (zzad Z 0)), (1, .int p0)] [] := by
  unfold f_X11_ask
  refine zz_aload_n C dX11_ask_0 rfl 0 rfl ?_
  refine zz_get C zzX_obj (fun _ h9 => List.mem_cons_of_mem _ (List.mem_append_left _ (List.mem_append_left _ (List.mem_append_left _ (List.mem_append_left _ (List.mem_append_left _ (List.mem_append_left _ (List.mem_append_left _ (List.mem_append_left _ (List.mem_append_left _ (List.mem_append_right _ (h9)))))))))))) rfl 3 (by decide) (List.mem_of_getElem? (i := 1) rfl) (Or.inl rfl) rfl dX11_ask_1 ?_
  refine zz_iload_n C dX11_ask_4 rfl 1 rfl ?_
  refine zz_callV C (Cn := RX10) (b := zzad Z 20) (fun H hH => zz_recv C.2.2.2 ((zzX_town (Or.inl rfl)) H hH) rfl) (As := [.int p0]) (rest := []) rfl (k_X10_has 20 (Or.inl rfl) p0 σ) (cwV 1 C.1.2.2.2.2 gX11_ask_X10_has rfl rfl rfl (by decide +kernel) ⟨Nat.le_of_ble_eq_true rfl, Nat.le_of_ble_eq_true rfl⟩) rfl (Nat.le_of_ble_eq_true rfl) ⟨Nat.zero_le _, Nat.zero_le _⟩ dX11_ask_5 (zz_kI rfl rfl (fun r1 σ2 => ?_))
  refine zz_if_ne (tgt := 13) C dX11_ask_8 (by decide) (fun h3 => ?_) (fun h3 => ?_)
  · refine zz_aload_n C dX11_ask_13 rfl 0 rfl ?_
    refine zz_get C zzX_obj (fun _ h9 => List.mem_cons_of_mem _ (List.mem_append_left _ (List.mem_append_left _ (List.mem_append_left _ (List.mem_append_left _ (List.mem_append_left _ (List.mem_append_left _ (List.mem_append_left _ (List.mem_append_left _ (List.mem_append_left _ (List.mem_append_right _ (h9)))))))))))) rfl 3 (by decide) (List.mem_of_getElem? (i := 1) rfl) (Or.inl rfl) rfl dX11_ask_14 ?_
    refine zz_iload_n C dX11_ask_17 rfl 1 rfl ?_
    refine zz_callV C (Cn := RX10) (b := zzad Z 20) (fun H hH => zz_recv C.2.2.2 ((zzX_town (Or.inl rfl)) H hH) rfl) (As := [.int p0]) (rest := []) rfl (k_X10_turnedOf 20 (Or.inl rfl) p0 σ2) (cwV 1 C.1.2.2.2.2 gX11_ask_X10_turnedOf rfl rfl rfl (by decide +kernel) ⟨Nat.le_of_ble_eq_true rfl, Nat.le_of_ble_eq_true rfl⟩) rfl (Nat.le_of_ble_eq_true rfl) ⟨Nat.zero_le _, Nat.zero_le _⟩ dX11_ask_18 (zz_kI rfl rfl (fun r4 σ5 => ?_))
    refine zz_bipush (v := 9) C dX11_ask_21 (by decide) ?_
    refine zz_icmp_lt (tgt := 29) C dX11_ask_23 (by decide) (fun h6 => ?_) (fun h6 => ?_)
    · refine zz_bipush (v := -4) C dX11_ask_29 (by decide) ?_
      refine zz_istore_n (loc' := [(2, .int (-4 : Int32)), (0, .ref (zzad Z 0)), (1, .int p0)]) C dX11_ask_31 rfl (by decide) rfl ?_
      refine zz_iconst (v := -1) C dX11_ask_32 (by decide) ?_
      refine zz_istore_n (loc' := [(3, .int (-1 : Int32)), (2, .int (-4 : Int32)), (0, .ref (zzad Z 0)), (1, .int p0)]) C dX11_ask_33 rfl (by decide) rfl ?_
      refine zz_iconst (v := 0) C dX11_ask_34 (by decide) ?_
      refine zz_istore (loc' := [(4, .int (0 : Int32)), (3, .int (-1 : Int32)), (2, .int (-4 : Int32)), (0, .ref (zzad Z 0)), (1, .int p0)]) C dX11_ask_35 (by decide) rfl ?_
      refine zz_sub (loc' := [(0, .ref (zzad Z 0)), (1, .int p0), (2, .int (-4 : Int32)), (3, .int (-1 : Int32)), (4, .int (0 : Int32))]) [3, 4, 2, 1, 0] rfl ?_
      exact w_X11_ask_37 C p0 200 (-4 : Int32) (-1 : Int32) (0 : Int32) σ5
    · refine zz_bipush (v := -3) C dX11_ask_26 (by decide) ?_
      exact zz_iret C rfl rfl (fun _ h9 => h9) (Nat.zero_le _) (Nat.zero_le _) dX11_ask_28
  · refine zz_iconst (v := -1) C dX11_ask_11 (by decide) ?_
    exact zz_iret C rfl rfl (fun _ h9 => h9) (Nat.zero_le _) (Nat.zero_le _) dX11_ask_12
set_option maxHeartbeats 4000000 in
set_option maxRecDepth 100000 in
theorem k_X11_ask {l : Launch} {Z : zzG} {base : Nat} {PL : Nat → Option (Nat × Int32)} {mm : zzS} (p0 : Int32)  (σ : zzS) : zzCT l yX11_ask wsX11_ask rX11_ask (zzA base) Z (zzX Z base PL mm) (zzX Z base PL mm) zzRI [.ref (zzad Z 0), .int p0] (f_X11_ask p0 σ) σ :=
  zzCT_of (cc := cX11_ask) (nL := 6) (ret := (some .int)) (by decide) rfl (Nat.le_of_ble_eq_true rfl) [(0, .ref (zzad Z 0)), (1, .int p0)] rfl (fun p e s m args below meth c C => w_X11_ask_e C p0 σ)
