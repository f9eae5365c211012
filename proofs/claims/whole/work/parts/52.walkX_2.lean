abbrev rX11_person : Room := { frames := 3, cells := 0, slots := 0, locals := 60 }
set_option maxHeartbeats 4000000 in
set_option maxRecDepth 100000 in
theorem fig_X11_person_66 {l : Launch} {Z : zzG} {base : Nat} {PL : Nat → Option (Nat × Int32)} {mm : zzS} {p : Program} {e : Env} {R : Room} {s : State} {m : MethodId} {args : Array Value} {below : List Frame} {meth : Method} {c : Code} {α : Type} {rel : α → Option Value → Prop} {Wf : zzS → Heap → Prop} {mc ms cells slots : Nat} {f : Option (α × zzS)} {σ : zzS} {loc : List (Nat × Value)} {st : List Value} (C : zzCx p m meth c s args cX11_person 4 wsX11_person RX11 (some .int) Z) {q : Nat} {kf : Nat × Int32} (hq : PL q = some kf)
    (kk : zzGO p l e R s m args below meth c 4 (zzA base) (zzX Z base PL mm) Wf rel mc ms f σ cells slots (66 + 3) loc (.int kf.2 :: st)) : zzGO p l e R s m args below meth c 4 (zzA base) (zzX Z base PL mm) Wf rel mc ms f σ cells slots 66 loc (.ref q :: st) := by
  refine zz_fact (P := kf.1 < 8) (fun H hH => (hH.1.2.2.1 q kf hq).1) (fun h8 => ?_)
  have hkk := zz_kind8 h8
  obtain ⟨k9, f9⟩ := kf
  rcases hkk with hkk | hkk | hkk | hkk | hkk | hkk | hkk | hkk
  · have hkk : k9 = 0 := hkk
    subst hkk
    exact zz_get C (Cn := RX6) (T := TX6) (N := 1) (zzX_pers1 hq) (fun _ h9 => List.mem_cons_of_mem _ (List.mem_append_left _ (List.mem_append_left _ (List.mem_append_left _ (List.mem_append_right _ (h9)))))) rfl 0 (by decide) (List.mem_of_getElem? (i := 2) rfl) (Or.inl rfl) rfl dX11_person_66 kk
  · have hkk : k9 = 1 := hkk
    subst hkk
    exact zz_get C (Cn := RX9) (T := TX9) (N := 1) (zzX_pers1 hq) (fun _ h9 => List.mem_cons_of_mem _ (List.mem_append_left _ (List.mem_append_right _ (h9)))) rfl 0 (by decide) (List.mem_of_getElem? (i := 2) rfl) (Or.inl rfl) rfl dX11_person_66 kk
  · have hkk : k9 = 2 := hkk
    subst hkk
    exact zz_get C (Cn := RX0) (T := TX0) (N := 1) (zzX_pers1 hq) (fun _ h9 => List.mem_cons_of_mem _ (List.mem_append_left _ (List.mem_append_left _ (List.mem_append_left _ (List.mem_append_left _ (List.mem_append_left _ (List.mem_append_left _ (List.mem_append_left _ (List.mem_append_left _ (List.mem_append_right _ (h9))))))))))) rfl 0 (by decide) (List.mem_of_getElem? (i := 2) rfl) (Or.inl rfl) rfl dX11_person_66 kk
  · have hkk : k9 = 3 := hkk
    subst hkk
    exact zz_get C (Cn := RX1) (T := TX1) (N := 1) (zzX_pers1 hq) (fun _ h9 => List.mem_cons_of_mem _ (List.mem_append_left _ (List.mem_append_left _ (List.mem_append_left _ (List.mem_append_left _ (List.mem_append_left _ (List.mem_append_left _ (List.mem_append_left _ (List.mem_append_right _ (h9)))))))))) rfl 0 (by decide) (List.mem_of_getElem? (i := 2) rfl) (Or.inl rfl) rfl dX11_person_66 kk
  · have hkk : k9 = 4 := hkk
    subst hkk
    exact zz_get C (Cn := RX4) (T := TX4) (N := 1) (zzX_pers1 hq) (fun _ h9 => List.mem_cons_of_mem _ (List.mem_append_left _ (List.mem_append_left _ (List.mem_append_left _ (List.mem_append_left _ (List.mem_append_left _ (List.mem_append_right _ (h9)))))))) rfl 0 (by decide) (List.mem_of_getElem? (i := 2) rfl) (Or.inl rfl) rfl dX11_person_66 kk
  · have hkk : k9 = 5 := hkk
    subst hkk
    exact zz_get C (Cn := RX5) (T := TX5) (N := 1) (zzX_pers1 hq) (fun _ h9 => List.mem_cons_of_mem _ (List.mem_append_left _ (List.mem_append_left _ (List.mem_append_left _ (List.mem_append_left _ (List.mem_append_right _ (h9))))))) rfl 0 (by decide) (List.mem_of_getElem? (i := 2) rfl) (Or.inl rfl) rfl dX11_person_66 kk
  · have hkk : k9 = 6 := hkk
    subst hkk
    exact zz_get C (Cn := RX3) (T := TX3) (N := 1) (zzX_pers1 hq) (fun _ h9 => List.mem_cons_of_mem _ (List.mem_append_left _ (List.mem_append_left _ (List.mem_append_left _ (List.mem_append_left _ (List.mem_append_left _ (List.mem_append_left _ (List.mem_append_right _ (h9))))))))) rfl 0 (by decide) (List.mem_of_getElem? (i := 2) rfl) (Or.inl rfl) rfl dX11_person_66 kk
  · have hkk : k9 = 7 := hkk
    subst hkk
    exact zz_get C (Cn := RX8) (T := TX8) (N := 1) (zzX_pers1 hq) (fun _ h9 => List.mem_cons_of_mem _ (List.mem_append_left _ (List.mem_append_left _ (List.mem_append_right _ (h9))))) rfl 0 (by decide) (List.mem_of_getElem? (i := 2) rfl) (Or.inl rfl) rfl dX11_person_66 kk

set_option maxHeartbeats 4000000 in
set_option maxRecDepth 100000 in
theorem vr_X11_person_61 {l : Launch} {Z : zzG} {base : Nat} {PL : Nat → Option (Nat × Int32)} {mm : zzS} {p : Program} {e : Env} {s : State} {m : MethodId} {args : Array Value} {below : List Frame} {meth : Method} {c : Code} {cells slots : Nat} {σ : zzS} {loc : List (Nat × Value)} {rest : List Value} (C : zzCx p m meth c s args cX11_person 4 wsX11_person RX11 (some .int) Z) {q : Nat} {kf : Nat × Int32} (hq : PL q = some kf) (hroom : (rest.map fun v => v.category).sum ≤ 8) (hcs : cells + 0 ≤ (rX11_person).cells ∧ slots + 0 ≤ (rX11_person).slots := by exact ⟨Nat.zero_le _, Nat.zero_le _⟩) :
    ∀ r1 σ2, some (zznumber kf, σ) = some (r1, σ2) → ∀ (H : Heap) (locs : List Loc) (ls : Array Slot), zzX Z base PL mm σ H → lv_has ls 4 loc → va_Run p l e rX11_person s m args below meth c H locs cells slots 0 0 (F0 m 61 ls (.ref q :: rest)) rest (zzQ zzRI (zzX Z base PL mm) (zzA base) r1 σ2 #[.ref q]) (zzA base) := by
  intro r1 σ2 hr H locs ls hW hl
  have h8 := zz_kind8 (hW.1.2.2.1 q kf hq).1
  obtain ⟨k9, f9⟩ := kf
  rcases h8 with h8 | h8 | h8 | h8 | h8 | h8 | h8 | h8
  · have h8 : k9 = 0 := h8
    subst h8
    have ct := k_X6_number (l := l) (Z := Z) (base := base) (PL := PL) (mm := mm) (0, f9) q hq σ r1 σ2 hr
    exact va_runV (As := []) (C := RX6) C.1 ct (cwV 0 C.1.2.2.2.2 gX11_person_X6_number rfl rfl rfl (by decide +kernel) ⟨Nat.le_of_ble_eq_true rfl, Nat.le_of_ble_eq_true rfl⟩) ⟨zzPc_blind, zz_recv C.2.2.2 (zzX_pers1 hq H hW) rfl, fun U hU hWm => zzPc_at C.2.2.2 hU hWm hW⟩ rfl rfl hl.1 rfl (lv_room hroom) dX11_person_61 hcs
  · have h8 : k9 = 1 := h8
    subst h8
    have ct := k_X9_number (l := l) (Z := Z) (base := base) (PL := PL) (mm := mm) (1, f9) q hq (Or.inl rfl) σ r1 σ2 hr
    exact va_runU (As := []) (C := RX9) C.1 ct (va_cwO 0 C.1.2.2.2.2 gX11_person_X9_number_u95X9 rfl rfl rfl (List.mem_of_getElem? (i := 22) rfl) (by decide +kernel) ⟨Nat.le_of_ble_eq_true rfl, Nat.le_of_ble_eq_true rfl⟩) ⟨zzPc_blind, zz_recv C.2.2.2 (zzX_pers1 hq H hW) rfl, fun U hU hWm => zzPc_at C.2.2.2 hU hWm hW⟩ rfl rfl hl.1 rfl (lv_room hroom) dX11_person_61 hcs
  · have h8 : k9 = 2 := h8
    subst h8
    have ct := k_X0_number (l := l) (Z := Z) (base := base) (PL := PL) (mm := mm) (2, f9) q hq (Or.inl rfl) σ r1 σ2 hr
    exact va_runU (As := []) (C := RX0) C.1 ct (va_cwO 0 C.1.2.2.2.2 gX11_person_X0_number_u95X0 rfl rfl rfl (List.mem_of_getElem? (i := 22) rfl) (by decide +kernel) ⟨Nat.le_of_ble_eq_true rfl, Nat.le_of_ble_eq_true rfl⟩) ⟨zzPc_blind, zz_recv C.2.2.2 (zzX_pers1 hq H hW) rfl, fun U hU hWm => zzPc_at C.2.2.2 hU hWm hW⟩ rfl rfl hl.1 rfl (lv_room hroom) dX11_person_61 hcs
  · have h8 : k9 = 3 := h8
    subst h8
    have ct := k_X1_number (l := l) (Z := Z) (base := base) (PL := PL) (mm := mm) (3, f9) q hq rfl σ r1 σ2 hr
    exact va_runU (As := []) (C := RX1) C.1 ct (va_cwO 0 C.1.2.2.2.2 gX11_person_X1_number_u95X1 rfl rfl rfl (List.mem_of_getElem? (i := 22) rfl) (by decide +kernel) ⟨Nat.le_of_ble_eq_true rfl, Nat.le_of_ble_eq_true rfl⟩) ⟨zzPc_blind, zz_recv C.2.2.2 (zzX_pers1 hq H hW) rfl, fun U hU hWm => zzPc_at C.2.2.2 hU hWm hW⟩ rfl rfl hl.1 rfl (lv_room hroom) dX11_person_61 hcs
  · have h8 : k9 = 4 := h8
    subst h8
    have ct := k_X4_number (l := l) (Z := Z) (base := base) (PL := PL) (mm := mm) (4, f9) q hq rfl σ r1 σ2 hr
    exact va_runU (As := []) (C := RX4) C.1 ct (va_cwO 0 C.1.2.2.2.2 gX11_person_X4_number_u95X4 rfl rfl rfl (List.mem_of_getElem? (i := 22) rfl) (by decide +kernel) ⟨Nat.le_of_ble_eq_true rfl, Nat.le_of_ble_eq_true rfl⟩) ⟨zzPc_blind, zz_recv C.2.2.2 (zzX_pers1 hq H hW) rfl, fun U hU hWm => zzPc_at C.2.2.2 hU hWm hW⟩ rfl rfl hl.1 rfl (lv_room hroom) dX11_person_61 hcs
  · have h8 : k9 = 5 := h8
    subst h8
    have ct := k_X5_number (l := l) (Z := Z) (base := base) (PL := PL) (mm := mm) (5, f9) q hq rfl σ r1 σ2 hr
    exact va_runU (As := []) (C := RX5) C.1 ct (va_cwO 0 C.1.2.2.2.2 gX11_person_X5_number_u95X5 rfl rfl rfl (List.mem_of_getElem? (i := 22) rfl) (by decide +kernel) ⟨Nat.le_of_ble_eq_true rfl, Nat.le_of_ble_eq_true rfl⟩) ⟨zzPc_blind, zz_recv C.2.2.2 (zzX_pers1 hq H hW) rfl, fun U hU hWm => zzPc_at C.2.2.2 hU hWm hW⟩ rfl rfl hl.1 rfl (lv_room hroom) dX11_person_61 hcs
  · have h8 : k9 = 6 := h8
    subst h8
    have ct := k_X3_number (l := l) (Z := Z) (base := base) (PL := PL) (mm := mm) (6, f9) q hq rfl σ r1 σ2 hr
    exact va_runU (As := []) (C := RX3) C.1 ct (va_cwO 0 C.1.2.2.2.2 gX11_person_X3_number_u95X3 rfl rfl rfl (List.mem_of_getElem? (i := 22) rfl) (by decide +kernel) ⟨Nat.le_of_ble_eq_true rfl, Nat.le_of_ble_eq_true rfl⟩) ⟨zzPc_blind, zz_recv C.2.2.2 (zzX_pers1 hq H hW) rfl, fun U hU hWm => zzPc_at C.2.2.2 hU hWm hW⟩ rfl rfl hl.1 rfl (lv_room hroom) dX11_person_61 hcs
  · have h8 : k9 = 7 := h8
    subst h8
    have ct := k_X8_number (l := l) (Z := Z) (base := base) (PL := PL) (mm := mm) (7, f9) q hq rfl σ r1 σ2 hr
    exact va_runU (As := []) (C := RX8) C.1 ct (va_cwO 0 C.1.2.2.2.2 gX11_person_X8_number_u95X8 rfl rfl rfl (List.mem_of_getElem? (i := 22) rfl) (by decide +kernel) ⟨Nat.le_of_ble_eq_true rfl, Nat.le_of_ble_eq_true rfl⟩) ⟨zzPc_blind, zz_recv C.2.2.2 (zzX_pers1 hq H hW) rfl, fun U hU hWm => zzPc_at C.2.2.2 hU hWm hW⟩ rfl rfl hl.1 rfl (lv_room hroom) dX11_person_61 hcs

set_option maxHeartbeats 4000000 in
set_option maxRecDepth 100000 in
theorem vr_X11_person_80 {l : Launch} {Z : zzG} {base : Nat} {PL : Nat → Option (Nat × Int32)} {mm : zzS} {p : Program} {e : Env} {s : State} {m : MethodId} {args : Array Value} {below : List Frame} {meth : Method} {c : Code} {cells slots : Nat} {σ : zzS} {loc : List (Nat × Value)} {rest : List Value} (C : zzCx p m meth c s args cX11_person 4 wsX11_person RX11 (some .int) Z) {q : Nat} {kf : Nat × Int32} (hq : PL q = some kf) (hroom : (rest.map fun v => v.category).sum ≤ 8) (hcs : cells + 0 ≤ (rX11_person).cells ∧ slots + 0 ≤ (rX11_person).slots := by exact ⟨Nat.zero_le _, Nat.zero_le _⟩) :
    ∀ r1 σ2, some (zzgrows kf, σ) = some (r1, σ2) → ∀ (H : Heap) (locs : List Loc) (ls : Array Slot), zzX Z base PL mm σ H → lv_has ls 4 loc → va_Run p l e rX11_person s m args below meth c H locs cells slots 0 0 (F0 m 80 ls (.ref q :: rest)) rest (zzQ zzRI (zzX Z base PL mm) (zzA base) r1 σ2 #[.ref q]) (zzA base) := by
  intro r1 σ2 hr H locs ls hW hl
  have h8 := zz_kind8 (hW.1.2.2.1 q kf hq).1
  obtain ⟨k9, f9⟩ := kf
  rcases h8 with h8 | h8 | h8 | h8 | h8 | h8 | h8 | h8
  · have h8 : k9 = 0 := h8
    subst h8
    have ct := k_X6_grows (l := l) (Z := Z) (base := base) (PL := PL) (mm := mm) (0, f9) q hq σ r1 σ2 hr
    exact va_runV (As := []) (C := RX6) C.1 ct (cwV 0 C.1.2.2.2.2 gX11_person_X6_grows rfl rfl rfl (by decide +kernel) ⟨Nat.le_of_ble_eq_true rfl, Nat.le_of_ble_eq_true rfl⟩) ⟨zzPc_blind, zz_recv C.2.2.2 (zzX_pers1 hq H hW) rfl, fun U hU hWm => zzPc_at C.2.2.2 hU hWm hW⟩ rfl rfl hl.1 rfl (lv_room hroom) dX11_person_80 hcs
  · have h8 : k9 = 1 := h8
    subst h8
    have ct := k_X9_grows (l := l) (Z := Z) (base := base) (PL := PL) (mm := mm) (1, f9) q hq (Or.inl rfl) σ r1 σ2 hr
    exact va_runU (As := []) (C := RX9) C.1 ct (va_cwO 0 C.1.2.2.2.2 gX11_person_X9_grows_u104X9 rfl rfl rfl (List.mem_of_getElem? (i := 71) rfl) (by decide +kernel) ⟨Nat.le_of_ble_eq_true rfl, Nat.le_of_ble_eq_true rfl⟩) ⟨zzPc_blind, zz_recv C.2.2.2 (zzX_pers1 hq H hW) rfl, fun U hU hWm => zzPc_at C.2.2.2 hU hWm hW⟩ rfl rfl hl.1 rfl (lv_room hroom) dX11_person_80 hcs
  · have h8 : k9 = 2 := h8
    subst h8
    have ct := k_X0_grows (l := l) (Z := Z) (base := base) (PL := PL) (mm := mm) (2, f9) q hq (Or.inl rfl) σ r1 σ2 hr
    exact va_runU (As := []) (C := RX0) C.1 ct (va_cwO 0 C.1.2.2.2.2 gX11_person_X0_grows_u104X0 rfl rfl rfl (List.mem_of_getElem? (i := 71) rfl) (by decide +kernel) ⟨Nat.le_of_ble_eq_true rfl, Nat.le_of_ble_eq_true rfl⟩) ⟨zzPc_blind, zz_recv C.2.2.2 (zzX_pers1 hq H hW) rfl, fun U hU hWm => zzPc_at C.2.2.2 hU hWm hW⟩ rfl rfl hl.1 rfl (lv_room hroom) dX11_person_80 hcs
  · have h8 : k9 = 3 := h8
    subst h8
    have ct := k_X1_grows (l := l) (Z := Z) (base := base) (PL := PL) (mm := mm) (3, f9) q hq rfl σ r1 σ2 hr
    exact va_runU (As := []) (C := RX1) C.1 ct (va_cwO 0 C.1.2.2.2.2 gX11_person_X1_grows_u104X1 rfl rfl rfl (List.mem_of_getElem? (i := 71) rfl) (by decide +kernel) ⟨Nat.le_of_ble_eq_true rfl, Nat.le_of_ble_eq_true rfl⟩) ⟨zzPc_blind, zz_recv C.2.2.2 (zzX_pers1 hq H hW) rfl, fun U hU hWm => zzPc_at C.2.2.2 hU hWm hW⟩ rfl rfl hl.1 rfl (lv_room hroom) dX11_person_80 hcs
  · have h8 : k9 = 4 := h8
    subst h8
    have ct := k_X4_grows (l := l) (Z := Z) (base := base) (PL := PL) (mm := mm) (4, f9) q hq rfl σ r1 σ2 hr
    exact va_runU (As := []) (C := RX4) C.1 ct (va_cwO 0 C.1.2.2.2.2 gX11_person_X4_grows_u104X4 rfl rfl rfl (List.mem_of_getElem? (i := 71) rfl) (by decide +kernel) ⟨Nat.le_of_ble_eq_true rfl, Nat.le_of_ble_eq_true rfl⟩) ⟨zzPc_blind, zz_recv C.2.2.2 (zzX_pers1 hq H hW) rfl, fun U hU hWm => zzPc_at C.2.2.2 hU hWm hW⟩ rfl rfl hl.1 rfl (lv_room hroom) dX11_person_80 hcs
  · have h8 : k9 = 5 := h8
    subst h8
    have ct := k_X5_grows (l := l) (Z := Z) (base := base) (PL := PL) (mm := mm) (5, f9) q hq rfl σ r1 σ2 hr
    exact va_runU (As := []) (C := RX5) C.1 ct (va_cwO 0 C.1.2.2.2.2 gX11_person_X5_grows_u104X5 rfl rfl rfl (List.mem_of_getElem? (i := 71) rfl) (by decide +kernel) ⟨Nat.le_of_ble_eq_true rfl, Nat.le_of_ble_eq_true rfl⟩) ⟨zzPc_blind, zz_recv C.2.2.2 (zzX_pers1 hq H hW) rfl, fun U hU hWm => zzPc_at C.2.2.2 hU hWm hW⟩ rfl rfl hl.1 rfl (lv_room hroom) dX11_person_80 hcs
  · have h8 : k9 = 6 := h8
    subst h8
    have ct := k_X3_grows (l := l) (Z := Z) (base := base) (PL := PL) (mm := mm) (6, f9) q hq rfl σ r1 σ2 hr
    exact va_runU (As := []) (C := RX3) C.1 ct (va_cwO 0 C.1.2.2.2.2 gX11_person_X3_grows_u104X3 rfl rfl rfl (List.mem_of_getElem? (i := 71) rfl) (by decide +kernel) ⟨Nat.le_of_ble_eq_true rfl, Nat.le_of_ble_eq_true rfl⟩) ⟨zzPc_blind, zz_recv C.2.2.2 (zzX_pers1 hq H hW) rfl, fun U hU hWm => zzPc_at C.2.2.2 hU hWm hW⟩ rfl rfl hl.1 rfl (lv_room hroom) dX11_person_80 hcs
  · have h8 : k9 = 7 := h8
    subst h8
    have ct := k_X8_grows (l := l) (Z := Z) (base := base) (PL := PL) (mm := mm) (7, f9) q hq rfl σ r1 σ2 hr
    exact va_runU (As := []) (C := RX8) C.1 ct (va_cwO 0 C.1.2.2.2.2 gX11_person_X8_grows_u104X8 rfl rfl rfl (List.mem_of_getElem? (i := 71) rfl) (by decide +kernel) ⟨Nat.le_of_ble_eq_true rfl, Nat.le_of_ble_eq_true rfl⟩) ⟨zzPc_blind, zz_recv C.2.2.2 (zzX_pers1 hq H hW) rfl, fun U hU hWm => zzPc_at C.2.2.2 hU hWm hW⟩ rfl rfl hl.1 rfl (lv_room hroom) dX11_person_80 hcs

set_option maxHeartbeats 4000000 in
set_option maxRecDepth 100000 in
theorem vr_X11_person_85 {l : Launch} {Z : zzG} {base : Nat} {PL : Nat → Option (Nat × Int32)} {mm : zzS} {p : Program} {e : Env} {s : State} {m : MethodId} {args : Array Value} {below : List Frame} {meth : Method} {c : Code} {cells slots : Nat} {σ : zzS} {loc : List (Nat × Value)} {rest : List Value} (C : zzCx p m meth c s args cX11_person 4 wsX11_person RX11 (some .int) Z) {q : Nat} {kf : Nat × Int32} (hq : PL q = some kf) (hroom : (rest.map fun v => v.category).sum ≤ 8) (hcs : cells + 0 ≤ (rX11_person).cells ∧ slots + 0 ≤ (rX11_person).slots := by exact ⟨Nat.zero_le _, Nat.zero_le _⟩) :
    ∀ r1 σ2, some (zzbears kf, σ) = some (r1, σ2) → ∀ (H : Heap) (locs : List Loc) (ls : Array Slot), zzX Z base PL mm σ H → lv_has ls 4 loc → va_Run p l e rX11_person s m args below meth c H locs cells slots 0 0 (F0 m 85 ls (.ref q :: rest)) rest (zzQ zzRI (zzX Z base PL mm) (zzA base) r1 σ2 #[.ref q]) (zzA base) := by
  intro r1 σ2 hr H locs ls hW hl
  have h8 := zz_kind8 (hW.1.2.2.1 q kf hq).1
  obtain ⟨k9, f9⟩ := kf
  rcases h8 with h8 | h8 | h8 | h8 | h8 | h8 | h8 | h8
  · have h8 : k9 = 0 := h8
    subst h8
    have ct := k_X6_bears (l := l) (Z := Z) (base := base) (PL := PL) (mm := mm) (0, f9) q hq σ r1 σ2 hr
    exact va_runV (As := []) (C := RX6) C.1 ct (cwV 0 C.1.2.2.2.2 gX11_person_X6_bears rfl rfl rfl (by decide +kernel) ⟨Nat.le_of_ble_eq_true rfl, Nat.le_of_ble_eq_true rfl⟩) ⟨zzPc_blind, zz_recv C.2.2.2 (zzX_pers1 hq H hW) rfl, fun U hU hWm => zzPc_at C.2.2.2 hU hWm hW⟩ rfl rfl hl.1 rfl (lv_room hroom) dX11_person_85 hcs
  · have h8 : k9 = 1 := h8
    subst h8
    have ct := k_X9_bears (l := l) (Z := Z) (base := base) (PL := PL) (mm := mm) (1, f9) q hq (Or.inl rfl) σ r1 σ2 hr
    exact va_runU (As := []) (C := RX9) C.1 ct (va_cwO 0 C.1.2.2.2.2 gX11_person_X9_bears_u107X9 rfl rfl rfl (List.mem_of_getElem? (i := 110) rfl) (by decide +kernel) ⟨Nat.le_of_ble_eq_true rfl, Nat.le_of_ble_eq_true rfl⟩) ⟨zzPc_blind, zz_recv C.2.2.2 (zzX_pers1 hq H hW) rfl, fun U hU hWm => zzPc_at C.2.2.2 hU hWm hW⟩ rfl rfl hl.1 rfl (lv_room hroom) dX11_person_85 hcs
  · have h8 : k9 = 2 := h8
    subst h8
    have ct := k_X6_bears (l := l) (Z := Z) (base := base) (PL := PL) (mm := mm) (2, f9) q hq σ r1 σ2 hr
    exact va_runU (As := []) (C := RX0) C.1 ct (va_cwU 0 C.1.2.2.2.2 gX11_person_X6_bears_u107X0 rfl rfl rfl (by decide +kernel) (by decide +kernel) ⟨Nat.le_of_ble_eq_true rfl, Nat.le_of_ble_eq_true rfl⟩) ⟨zzPc_blind, zz_recv C.2.2.2 (zzX_pers1 hq H hW) rfl, fun U hU hWm => zzPc_at C.2.2.2 hU hWm hW⟩ rfl rfl hl.1 rfl (lv_room hroom) dX11_person_85 hcs
  · have h8 : k9 = 3 := h8
    subst h8
    have ct := k_X1_bears (l := l) (Z := Z) (base := base) (PL := PL) (mm := mm) (3, f9) q hq rfl σ r1 σ2 hr
    exact va_runU (As := []) (C := RX1) C.1 ct (va_cwO 0 C.1.2.2.2.2 gX11_person_X1_bears_u107X1 rfl rfl rfl (List.mem_of_getElem? (i := 110) rfl) (by decide +kernel) ⟨Nat.le_of_ble_eq_true rfl, Nat.le_of_ble_eq_true rfl⟩) ⟨zzPc_blind, zz_recv C.2.2.2 (zzX_pers1 hq H hW) rfl, fun U hU hWm => zzPc_at C.2.2.2 hU hWm hW⟩ rfl rfl hl.1 rfl (lv_room hroom) dX11_person_85 hcs
  · have h8 : k9 = 4 := h8
    subst h8
    have ct := k_X4_bears (l := l) (Z := Z) (base := base) (PL := PL) (mm := mm) (4, f9) q hq rfl σ r1 σ2 hr
    exact va_runU (As := []) (C := RX4) C.1 ct (va_cwO 0 C.1.2.2.2.2 gX11_person_X4_bears_u107X4 rfl rfl rfl (List.mem_of_getElem? (i := 110) rfl) (by decide +kernel) ⟨Nat.le_of_ble_eq_true rfl, Nat.le_of_ble_eq_true rfl⟩) ⟨zzPc_blind, zz_recv C.2.2.2 (zzX_pers1 hq H hW) rfl, fun U hU hWm => zzPc_at C.2.2.2 hU hWm hW⟩ rfl rfl hl.1 rfl (lv_room hroom) dX11_person_85 hcs
  · have h8 : k9 = 5 := h8
    subst h8
    have ct := k_X5_bears (l := l) (Z := Z) (base := base) (PL := PL) (mm := mm) (5, f9) q hq rfl σ r1 σ2 hr
    exact va_runU (As := []) (C := RX5) C.1 ct (va_cwO 0 C.1.2.2.2.2 gX11_person_X5_bears_u107X5 rfl rfl rfl (List.mem_of_getElem? (i := 110) rfl) (by decide +kernel) ⟨Nat.le_of_ble_eq_true rfl, Nat.le_of_ble_eq_true rfl⟩) ⟨zzPc_blind, zz_recv C.2.2.2 (zzX_pers1 hq H hW) rfl, fun U hU hWm => zzPc_at C.2.2.2 hU hWm hW⟩ rfl rfl hl.1 rfl (lv_room hroom) dX11_person_85 hcs
  · have h8 : k9 = 6 := h8
    subst h8
    have ct := k_X6_bears (l := l) (Z := Z) (base := base) (PL := PL) (mm := mm) (6, f9) q hq σ r1 σ2 hr
    exact va_runU (As := []) (C := RX3) C.1 ct (va_cwU 0 C.1.2.2.2.2 gX11_person_X6_bears_u107X3 rfl rfl rfl (by decide +kernel) (by decide +kernel) ⟨Nat.le_of_ble_eq_true rfl, Nat.le_of_ble_eq_true rfl⟩) ⟨zzPc_blind, zz_recv C.2.2.2 (zzX_pers1 hq H hW) rfl, fun U hU hWm => zzPc_at C.2.2.2 hU hWm hW⟩ rfl rfl hl.1 rfl (lv_room hroom) dX11_person_85 hcs
  · have h8 : k9 = 7 := h8
    subst h8
    have ct := k_X8_bears (l := l) (Z := Z) (base := base) (PL := PL) (mm := mm) (7, f9) q hq rfl σ r1 σ2 hr
    exact va_runU (As := []) (C := RX8) C.1 ct (va_cwO 0 C.1.2.2.2.2 gX11_person_X8_bears_u107X8 rfl rfl rfl (List.mem_of_getElem? (i := 110) rfl) (by decide +kernel) ⟨Nat.le_of_ble_eq_true rfl, Nat.le_of_ble_eq_true rfl⟩) ⟨zzPc_blind, zz_recv C.2.2.2 (zzX_pers1 hq H hW) rfl, fun U hU hWm => zzPc_at C.2.2.2 hU hWm hW⟩ rfl rfl hl.1 rfl (lv_room hroom) dX11_person_85 hcs

set_option maxHeartbeats 4000000 in
set_option maxRecDepth 100000 in
theorem vr_X11_person_93 {l : Launch} {Z : zzG} {base : Nat} {PL : Nat → Option (Nat × Int32)} {mm : zzS} {p : Program} {e : Env} {s : State} {m : MethodId} {args : Array Value} {below : List Frame} {meth : Method} {c : Code} {cells slots : Nat} {σ : zzS} {loc : List (Nat × Value)} {rest : List Value} (C : zzCx p m meth c s args cX11_person 4 wsX11_person RX11 (some .int) Z) {q : Nat} {kf : Nat × Int32} (hq : PL q = some kf) (hroom : (rest.map fun v => v.category).sum ≤ 8) (hcs : cells + 0 ≤ (rX11_person).cells ∧ slots + 0 ≤ (rX11_person).slots := by exact ⟨Nat.zero_le _, Nat.zero_le _⟩) :
    ∀ r1 σ2, some (zzturns kf, σ) = some (r1, σ2) → ∀ (H : Heap) (locs : List Loc) (ls : Array Slot), zzX Z base PL mm σ H → lv_has ls 4 loc → va_Run p l e rX11_person s m args below meth c H locs cells slots 0 0 (F0 m 93 ls (.ref q :: rest)) rest (zzQ zzRI (zzX Z base PL mm) (zzA base) r1 σ2 #[.ref q]) (zzA base) := by
  intro r1 σ2 hr H locs ls hW hl
  have h8 := zz_kind8 (hW.1.2.2.1 q kf hq).1
  obtain ⟨k9, f9⟩ := kf
  rcases h8 with h8 | h8 | h8 | h8 | h8 | h8 | h8 | h8
  · have h8 : k9 = 0 := h8
    subst h8
    have ct := k_X6_turns (l := l) (Z := Z) (base := base) (PL := PL) (mm := mm) (0, f9) q hq σ r1 σ2 hr
    exact va_runV (As := []) (C := RX6) C.1 ct (cwV 0 C.1.2.2.2.2 gX11_person_X6_turns rfl rfl rfl (by decide +kernel) ⟨Nat.le_of_ble_eq_true rfl, Nat.le_of_ble_eq_true rfl⟩) ⟨zzPc_blind, zz_recv C.2.2.2 (zzX_pers1 hq H hW) rfl, fun U hU hWm => zzPc_at C.2.2.2 hU hWm hW⟩ rfl rfl hl.1 rfl (lv_room hroom) dX11_person_93 hcs
  · have h8 : k9 = 1 := h8
    subst h8
    have ct := k_X6_turns (l := l) (Z := Z) (base := base) (PL := PL) (mm := mm) (1, f9) q hq σ r1 σ2 hr
    exact va_runU (As := []) (C := RX9) C.1 ct (va_cwU 0 C.1.2.2.2.2 gX11_person_X6_turns_u110X9 rfl rfl rfl (by decide +kernel) (by decide +kernel) ⟨Nat.le_of_ble_eq_true rfl, Nat.le_of_ble_eq_true rfl⟩) ⟨zzPc_blind, zz_recv C.2.2.2 (zzX_pers1 hq H hW) rfl, fun U hU hWm => zzPc_at C.2.2.2 hU hWm hW⟩ rfl rfl hl.1 rfl (lv_room hroom) dX11_person_93 hcs
  · have h8 : k9 = 2 := h8
    subst h8
    have ct := k_X0_turns (l := l) (Z := Z) (base := base) (PL := PL) (mm := mm) (2, f9) q hq (Or.inl rfl) σ r1 σ2 hr
    exact va_runU (As := []) (C := RX0) C.1 ct (va_cwO 0 C.1.2.2.2.2 gX11_person_X0_turns_u110X0 rfl rfl rfl (List.mem_of_getElem? (i := 144) rfl) (by decide +kernel) ⟨Nat.le_of_ble_eq_true rfl, Nat.le_of_ble_eq_true rfl⟩) ⟨zzPc_blind, zz_recv C.2.2.2 (zzX_pers1 hq H hW) rfl, fun U hU hWm => zzPc_at C.2.2.2 hU hWm hW⟩ rfl rfl hl.1 rfl (lv_room hroom) dX11_person_93 hcs
  · have h8 : k9 = 3 := h8
    subst h8
    have ct := k_X1_turns (l := l) (Z := Z) (base := base) (PL := PL) (mm := mm) (3, f9) q hq rfl σ r1 σ2 hr
    exact va_runU (As := []) (C := RX1) C.1 ct (va_cwO 0 C.1.2.2.2.2 gX11_person_X1_turns_u110X1 rfl rfl rfl (List.mem_of_getElem? (i := 144) rfl) (by decide +kernel) ⟨Nat.le_of_ble_eq_true rfl, Nat.le_of_ble_eq_true rfl⟩) ⟨zzPc_blind, zz_recv C.2.2.2 (zzX_pers1 hq H hW) rfl, fun U hU hWm => zzPc_at C.2.2.2 hU hWm hW⟩ rfl rfl hl.1 rfl (lv_room hroom) dX11_person_93 hcs
  · have h8 : k9 = 4 := h8
    subst h8
    have ct := k_X6_turns (l := l) (Z := Z) (base := base) (PL := PL) (mm := mm) (4, f9) q hq σ r1 σ2 hr
    exact va_runU (As := []) (C := RX4) C.1 ct (va_cwU 0 C.1.2.2.2.2 gX11_person_X6_turns_u110X4 rfl rfl rfl (by decide +kernel) (by decide +kernel) ⟨Nat.le_of_ble_eq_true rfl, Nat.le_of_ble_eq_true rfl⟩) ⟨zzPc_blind, zz_recv C.2.2.2 (zzX_pers1 hq H hW) rfl, fun U hU hWm => zzPc_at C.2.2.2 hU hWm hW⟩ rfl rfl hl.1 rfl (lv_room hroom) dX11_person_93 hcs
  · have h8 : k9 = 5 := h8
    subst h8
    have ct := k_X5_turns (l := l) (Z := Z) (base := base) (PL := PL) (mm := mm) (5, f9) q hq rfl σ r1 σ2 hr
    exact va_runU (As := []) (C := RX5) C.1 ct (va_cwO 0 C.1.2.2.2.2 gX11_person_X5_turns_u110X5 rfl rfl rfl (List.mem_of_getElem? (i := 144) rfl) (by decide +kernel) ⟨Nat.le_of_ble_eq_true rfl, Nat.le_of_ble_eq_true rfl⟩) ⟨zzPc_blind, zz_recv C.2.2.2 (zzX_pers1 hq H hW) rfl, fun U hU hWm => zzPc_at C.2.2.2 hU hWm hW⟩ rfl rfl hl.1 rfl (lv_room hroom) dX11_person_93 hcs
  · have h8 : k9 = 6 := h8
    subst h8
    have ct := k_X3_turns (l := l) (Z := Z) (base := base) (PL := PL) (mm := mm) (6, f9) q hq rfl σ r1 σ2 hr
    exact va_runU (As := []) (C := RX3) C.1 ct (va_cwO 0 C.1.2.2.2.2 gX11_person_X3_turns_u110X3 rfl rfl rfl (List.mem_of_getElem? (i := 144) rfl) (by decide +kernel) ⟨Nat.le_of_ble_eq_true rfl, Nat.le_of_ble_eq_true rfl⟩) ⟨zzPc_blind, zz_recv C.2.2.2 (zzX_pers1 hq H hW) rfl, fun U hU hWm => zzPc_at C.2.2.2 hU hWm hW⟩ rfl rfl hl.1 rfl (lv_room hroom) dX11_person_93 hcs
  · have h8 : k9 = 7 := h8
    subst h8
    have ct := k_X8_turns (l := l) (Z := Z) (base := base) (PL := PL) (mm := mm) (7, f9) q hq rfl σ r1 σ2 hr
    exact va_runU (As := []) (C := RX8) C.1 ct (va_cwO 0 C.1.2.2.2.2 gX11_person_X8_turns_u110X8 rfl rfl rfl (List.mem_of_getElem? (i := 144) rfl) (by decide +kernel) ⟨Nat.le_of_ble_eq_true rfl, Nat.le_of_ble_eq_true rfl⟩) ⟨zzPc_blind, zz_recv C.2.2.2 (zzX_pers1 hq H hW) rfl, fun U hU hWm => zzPc_at C.2.2.2 hU hWm hW⟩ rfl rfl hl.1 rfl (lv_room hroom) dX11_person_93 hcs

set_option maxHeartbeats 4000000 in
set_option maxRecDepth 100000 in
theorem w_X11_person_e {l : Launch} {Z : zzG} {base : Nat} {PL : Nat → Option (Nat × Int32)} {mm : zzS} {p : Program} {e : Env} {s : State} {m : MethodId} {args : Array Value} {below : List Frame} {meth : Method} {c : Code} (C : zzCx p m meth c s args cX11_person 4 wsX11_person RX11 (some .int) Z) (p0 : Int32)  (p1 : Int32)  (σ : zzS) : zzGO p l e rX11_person s m args below meth c 4 (zzA base) (zzX Z base PL mm) (zzX Z base PL mm) zzRI rX11_person.cells rX11_person.slots (f_X11_person p0 p1 σ) σ 0 0 0 [(0, .ref (zzad Z 0)), (1, .int p0), (2, .int p1)] [] := by
  unfold f_X11_person
  refine zz_aload_n C dX11_person_0 rfl 0 rfl ?_
  refine zz_get C zzX_obj (fun _ h9 => List.mem_cons_of_mem _ (List.mem_append_left _ (List.mem_append_left _ (List.mem_append_left _ (List.mem_append_left _ (List.mem_append_left _ (List.mem_append_left _ (List.mem_append_left _ (List.mem_append_left _ (List.mem_append_left _ (List.mem_append_right _ (h9)))))))))))) rfl 3 (by decide) (List.mem_of_getElem? (i := 1) rfl) (Or.inl rfl) rfl dX11_person_1 ?_
  refine zz_iload_n C dX11_person_4 rfl 1 rfl ?_
  refine zz_callV C (Cn := RX10) (b := zzad Z 20) (fun H hH => zz_recv C.2.2.2 ((zzX_town (Or.inl rfl)) H hH) rfl) (As := [.int p0]) (rest := []) rfl (k_X10_has 20 (Or.inl rfl) p0 σ) (cwV 1 C.1.2.2.2.2 gX11_person_X10_has rfl rfl rfl (by decide +kernel) ⟨Nat.le_of_ble_eq_true rfl, Nat.le_of_ble_eq_true rfl⟩) rfl (Nat.le_of_ble_eq_true rfl) ⟨Nat.zero_le _, Nat.zero_le _⟩ dX11_person_5 (zz_kI rfl rfl (fun r1 σ2 => ?_))
  refine zz_if_ne (tgt := 13) C dX11_person_8 (by decide) (fun h3 => ?_) (fun h3 => ?_)
  · refine zz_aload_n C dX11_person_13 rfl 0 rfl ?_
    refine zz_get C zzX_obj (fun _ h9 => List.mem_cons_of_mem _ (List.mem_append_left _ (List.mem_append_left _ (List.mem_append_left _ (List.mem_append_left _ (List.mem_append_left _ (List.mem_append_left _ (List.mem_append_left _ (List.mem_append_left _ (List.mem_append_left _ (List.mem_append_right _ (h9)))))))))))) rfl 3 (by decide) (List.mem_of_getElem? (i := 1) rfl) (Or.inl rfl) rfl dX11_person_14 ?_
    refine zz_iload_n C dX11_person_17 rfl 1 rfl ?_
    refine zz_callV C (Cn := RX10) (b := zzad Z 20) (fun H hH => zz_recv C.2.2.2 ((zzX_town (Or.inl rfl)) H hH) rfl) (As := [.int p0]) (rest := []) rfl (k_X10_at 20 (Or.inl rfl) p0 σ2) (cwV 1 C.1.2.2.2.2 gX11_person_X10_at rfl rfl rfl (by decide +kernel) ⟨Nat.le_of_ble_eq_true rfl, Nat.le_of_ble_eq_true rfl⟩) rfl (Nat.le_of_ble_eq_true rfl) ⟨Nat.zero_le _, Nat.zero_le _⟩ dX11_person_18 (zz_kP rfl rfl (fun r4 σ5 c6 hp7 => ?_))
    refine zz_astoreq_n (loc' := [(3, va_rf c6), (0, .ref (zzad Z 0)), (1, .int p0), (2, .int p1)]) C dX11_person_21 rfl (by decide) rfl ?_
    refine zz_iload_n C dX11_person_22 rfl 3 rfl ?_
    refine zz_ite (fun h8 => ?_) (fun h8 => ?_)
    · refine zz_tblIn (off := 37) (tgt := 60) C dX11_person_23 (by rw [h8]; decide) (by rw [h8]; decide) (by rw [h8]; rfl) (by decide) ?_
      refine zz_aloadq_n C dX11_person_60 rfl 0 rfl ?_
      refine zz_nnP hp7 (fun kf14 q15 h16 h17 hq18 => ?_)
      subst h17
      refine zz_call (av := #[.ref q15]) (rest := []) (mcc := 0) (msc := 0) (relc := zzRI) (vr_X11_person_61 C hq18 (Nat.le_of_ble_eq_true rfl)) (zz_kI rfl rfl (fun r19 σ20 => ?_))
      exact zz_iret C rfl rfl (fun _ h9 => h9) (Nat.zero_le _) (Nat.zero_le _) dX11_person_64
    · skip
      refine zz_ite (fun h9 => ?_) (fun h9 => ?_)
      · refine zz_tblIn (off := 42) (tgt := 65) C dX11_person_23 (by rw [h9]; decide) (by rw [h9]; decide) (by rw [h9]; rfl) (by decide) ?_
        refine zz_aloadq_n C dX11_person_65 rfl 0 rfl ?_
        refine zz_nnP hp7 (fun kf21 q22 h23 h24 hq25 => ?_)
        subst h24
        refine fig_X11_person_66 C hq25 ?_
        exact zz_iret C rfl rfl (fun _ h9 => h9) (Nat.zero_le _) (Nat.zero_le _) dX11_person_69
      · skip
        refine zz_ite (fun h10 => ?_) (fun h10 => ?_)
        · refine zz_tblIn (off := 47) (tgt := 70) C dX11_person_23 (by rw [h10]; decide) (by rw [h10]; decide) (by rw [h10]; rfl) (by decide) ?_
          refine zz_aload_n C dX11_person_70 rfl 1 rfl ?_
          refine zz_get C zzX_obj (fun _ h9 => List.mem_cons_of_mem _ (List.mem_append_left _ (List.mem_append_left _ (List.mem_append_left _ (List.mem_append_left _ (List.mem_append_left _ (List.mem_append_left _ (List.mem_append_left _ (List.mem_append_left _ (List.mem_append_left _ (List.mem_append_right _ (h9)))))))))))) rfl 3 (by decide) (List.mem_of_getElem? (i := 1) rfl) (Or.inl rfl) rfl dX11_person_71 ?_
          refine zz_iload_n C dX11_person_74 rfl 2 rfl ?_
          refine zz_callV C (Cn := RX10) (b := zzad Z 20) (fun H hH => zz_recv C.2.2.2 ((zzX_town (Or.inl rfl)) H hH) rfl) (As := [.int p0]) (rest := []) rfl (k_X10_turnedOf 20 (Or.inl rfl) p0 σ5) (cwV 1 C.1.2.2.2.2 gX11_person_X10_turnedOf rfl rfl rfl (by decide +kernel) ⟨Nat.le_of_ble_eq_true rfl, Nat.le_of_ble_eq_true rfl⟩) rfl (Nat.le_of_ble_eq_true rfl) ⟨Nat.zero_le _, Nat.zero_le _⟩ dX11_person_75 (zz_kI rfl rfl (fun r26 σ27 => ?_))
          exact zz_iret C rfl rfl (fun _ h9 => h9) (Nat.zero_le _) (Nat.zero_le _) dX11_person_78
        · skip
          refine zz_ite (fun h11 => ?_) (fun h11 => ?_)
          · refine zz_tblIn (off := 56) (tgt := 79) C dX11_person_23 (by rw [h11]; decide) (by rw [h11]; decide) (by rw [h11]; rfl) (by decide) ?_
            refine zz_aloadq_n C dX11_person_79 rfl 0 rfl ?_
            refine zz_nnP hp7 (fun kf28 q29 h30 h31 hq32 => ?_)
            subst h31
            refine zz_call (av := #[.ref q29]) (rest := []) (mcc := 0) (msc := 0) (relc := zzRI) (vr_X11_person_80 C hq32 (Nat.le_of_ble_eq_true rfl)) (zz_kI rfl rfl (fun r33 σ34 => ?_))
            exact zz_iret C rfl rfl (fun _ h9 => h9) (Nat.zero_le _) (Nat.zero_le _) dX11_person_83
          · skip
            refine zz_ite (fun h12 => ?_) (fun h12 => ?_)
            · refine zz_tblIn (off := 61) (tgt := 84) C dX11_person_23 (by rw [h12]; decide) (by rw [h12]; decide) (by rw [h12]; rfl) (by decide) ?_
              refine zz_aloadq_n C dX11_person_84 rfl 0 rfl ?_
              refine zz_nnP hp7 (fun kf35 q36 h37 h38 hq39 => ?_)
              subst h38
              refine zz_call (av := #[.ref q36]) (rest := []) (mcc := 0) (msc := 0) (relc := zzRI) (vr_X11_person_85 C hq39 (Nat.le_of_ble_eq_true rfl)) (zz_kI rfl rfl (fun r40 σ41 => ?_))
              refine zz_bipush (v := 10) C dX11_person_88 (by decide) ?_
              refine zz_iadd C dX11_person_90 ?_
              exact zz_iret C rfl rfl (fun _ h9 => h9) (Nat.zero_le _) (Nat.zero_le _) dX11_person_91
            · skip
              refine zz_ite (fun h13 => ?_) (fun h13 => ?_)
              · refine zz_tblIn (off := 69) (tgt := 92) C dX11_person_23 (by rw [h13]; decide) (by rw [h13]; decide) (by rw [h13]; rfl) (by decide) ?_
                refine zz_aloadq_n C dX11_person_92 rfl 0 rfl ?_
                refine zz_nnP hp7 (fun kf42 q43 h44 h45 hq46 => ?_)
                subst h45
                refine zz_call (av := #[.ref q43]) (rest := []) (mcc := 0) (msc := 0) (relc := zzRI) (vr_X11_person_93 C hq46 (Nat.le_of_ble_eq_true rfl)) (zz_kI rfl rfl (fun r47 σ48 => ?_))
                exact zz_iret C rfl rfl (fun _ h9 => h9) (Nat.zero_le _) (Nat.zero_le _) dX11_person_96
              · skip
                refine zz_tblOut (tgt := 97) C dX11_person_23 (by have := lv_neT h8 (a := 0) (by decide); have := lv_neT h9 (a := 1) (by decide); have := lv_neT h10 (a := 2) (by decide); have := lv_neT h11 (a := 3) (by decide); have := lv_neT h12 (a := 4) (by decide); have := lv_neT h13 (a := 5) (by decide); omega) (by decide) ?_
                refine zz_iconst (v := -1) C dX11_person_97 (by decide) ?_
                exact zz_iret C rfl rfl (fun _ h9 => h9) (Nat.zero_le _) (Nat.zero_le _) dX11_person_98
  · refine zz_iconst (v := -1) C dX11_person_11 (by decide) ?_
    exact zz_iret C rfl rfl (fun _ h9 => h9) (Nat.zero_le _) (Nat.zero_le _) dX11_person_12
set_option maxHeartbeats 4000000 in
set_option maxRecDepth 100000 in
theorem k_X11_person {l : Launch} {Z : zzG} {base : Nat} {PL : Nat → Option (Nat × Int32)} {mm : zzS} (p0 : Int32)  (p1 : Int32)  (σ : zzS) : zzCT l yX11_person wsX11_person rX11_person (zzA base) Z (zzX Z base PL mm) (zzX Z base PL mm) zzRI [.ref (zzad Z 0), .int p0, .int p1] (f_X11_person p0 p1 σ) σ :=
  zzCT_of (cc := cX11_person) (nL := 4) (ret := (some .int)) (by decide) rfl (Nat.le_of_ble_eq_true rfl) [(0, .ref (zzad Z 0)), (1, .int p0), (2, .int p1)] rfl (fun p e s m args below meth c C => w_X11_person_e C p0 p1 σ)
abbrev rX11_fond : Room := { frames := 3, cells := 0, slots := 0, locals := 65 }

set_option maxHeartbeats 4000000 in
set_option maxRecDepth 100000 in
theorem w_X11_fond_e {l : Launch} {Z : zzG} {base : Nat} {PL : Nat → Option (Nat × Int32)} {mm : zzS} {p : Program} {e : Env} {s : State} {m : MethodId} {args : Array Value} {below : List Frame} {meth : Method} {c : Code} (C : zzCx p m meth c s args cX11_fond 3 wsX11_fond RX11 (some .int) Z) (p0 : Int32)  (p1 : Int32)  (σ : zzS) : zzGO p l e rX11_fond s m args below meth c 3 (zzA base) (zzX Z base PL mm) (zzX Z base PL mm) zzRI rX11_fond.cells rX11_fond.slots (f_X11_fond p0 p1 σ) σ 0 0 0 [(0, .ref (zzad Z 0)), (1, .int p0), (2, .int p1)] [] := by
  unfold f_X11_fond
  refine zz_aload_n C dX11_fond_0 rfl 0 rfl ?_
  refine zz_get C zzX_obj (fun _ h9 => List.mem_cons_of_mem _ (List.mem_append_left _ (List.mem_append_right _ (h9)))) rfl 3 (by decide) (List.mem_of_getElem? (i := 1) rfl) (Or.inl rfl) rfl dX11_fond_1 ?_
  refine zz_iload_n C dX11_fond_4 rfl 1 rfl ?_
  refine zz_iload_n C dX11_fond_5 rfl 2 rfl ?_
  refine zz_callV C (Cn := RX10) (b := zzad Z 20) (fun H hH => zz_recv C.2.2.2 ((zzX_town (Or.inl rfl)) H hH) rfl) (As := [.int p0, .int p1]) (rest := []) rfl (k_X10_areTwo 20 (Or.inl rfl) p0 p1 σ) (cwV 2 C.1.2.2.2.2 gX11_fond_X10_areTwo rfl rfl rfl (by decide +kernel) ⟨Nat.le_of_ble_eq_true rfl, Nat.le_of_ble_eq_true rfl⟩) rfl (Nat.le_of_ble_eq_true rfl) ⟨Nat.zero_le _, Nat.zero_le _⟩ dX11_fond_6 (zz_kI rfl rfl (fun r1 σ2 => ?_))
  refine zz_if_eq (tgt := 24) C dX11_fond_9 (by decide) (fun h3 => ?_) (fun h3 => ?_)
  · refine zz_iconst (v := -1) C dX11_fond_24 (by decide) ?_
    exact zz_iret C rfl rfl (fun _ h9 => h9) (Nat.zero_le _) (Nat.zero_le _) dX11_fond_25
  · refine zz_aload_n C dX11_fond_12 rfl 0 rfl ?_
    refine zz_get C zzX_obj (fun _ h9 => List.mem_cons_of_mem _ (List.mem_append_left _ (List.mem_append_right _ (h9)))) rfl 3 (by decide) (List.mem_of_getElem? (i := 1) rfl) (Or.inl rfl) rfl dX11_fond_13 ?_
    refine zz_iload_n C dX11_fond_16 rfl 1 rfl ?_
    refine zz_iload_n C dX11_fond_17 rfl 2 rfl ?_
    refine zz_callV C (Cn := RX10) (b := zzad Z 20) (fun H hH => zz_recv C.2.2.2 ((zzX_town (Or.inl rfl)) H hH) rfl) (As := [.int p0, .int p1]) (rest := []) rfl (k_X10_fondOf 20 (Or.inl rfl) p0 p1 σ2) (cwV 2 C.1.2.2.2.2 gX11_fond_X10_fondOf rfl rfl rfl (by decide +kernel) ⟨Nat.le_of_ble_eq_true rfl, Nat.le_of_ble_eq_true rfl⟩) rfl (Nat.le_of_ble_eq_true rfl) ⟨Nat.zero_le _, Nat.zero_le _⟩ dX11_fond_18 (zz_kI rfl rfl (fun r4 σ5 => ?_))
    refine zz_goto (tgt := 25) C dX11_fond_21 (by decide) ?_
    exact zz_iret C rfl rfl (fun _ h9 => h9) (Nat.zero_le _) (Nat.zero_le _) dX11_fond_25
set_option maxHeartbeats 4000000 in
set_option maxRecDepth 100000 in
theorem k_X11_fond {l : Launch} {Z : zzG} {base : Nat} {PL : Nat → Option (Nat × Int32)} {mm : zzS} (p0 : Int32)  (p1 : Int32)  (σ : zzS) : zzCT l yX11_fond wsX11_fond rX11_fond (zzA base) Z (zzX Z base PL mm) (zzX Z base PL mm) zzRI [.ref (zzad Z 0), .int p0, .int p1] (f_X11_fond p0 p1 σ) σ :=
  zzCT_of (cc := cX11_fond) (nL := 3) (ret := (some .int)) (by decide) rfl (Nat.le_of_ble_eq_true rfl) [(0, .ref (zzad Z 0)), (1, .int p0), (2, .int p1)] rfl (fun p e s m args below meth c C => w_X11_fond_e C p0 p1 σ)
abbrev rX11_oneOn : Room := { frames := 0, cells := 0, slots := 0, locals := 0 }

set_option maxHeartbeats 4000000 in
set_option maxRecDepth 100000 in
theorem w_X11_oneOn_e {l : Launch} {Z : zzG} {base : Nat} {PL : Nat → Option (Nat × Int32)} {mm : zzS} {p : Program} {e : Env} {s : State} {m : MethodId} {args : Array Value} {below : List Frame} {meth : Method} {c : Code} (C : zzCx p m meth c s args cX11_oneOn 2 wsX11_oneOn RX11 (some (.object "DealtByOpposite$Person")) Z) (p0 : Int32)  (σ : zzS) : zzGO p l e rX11_oneOn s m args below meth c 2 (zzA base) (zzX Z base PL mm) (zzX Z base PL mm) (zzRP PL) rX11_oneOn.cells rX11_oneOn.slots (f_X11_oneOn p0 σ) σ 0 0 0 [(0, .ref (zzad Z 0)), (1, .int p0)] [] := by
  unfold f_X11_oneOn
  refine zz_iload_n C dX11_oneOn_0 rfl 1 rfl ?_
  refine zz_if_lt (tgt := 22) C dX11_oneOn_1 (by decide) (fun h1 => ?_) (fun h1 => ?_)
  · refine zz_null C dX11_oneOn_22 ?_
    exact zz_aret (c0 := none) C rfl ⟨none, rfl, rfl⟩ (fun _ h9 => h9) (Nat.zero_le _) (Nat.zero_le _) dX11_oneOn_23
  · refine zz_iload_n C dX11_oneOn_4 rfl 1 rfl ?_
    refine zz_aload_n C dX11_oneOn_5 rfl 0 rfl ?_
    refine zz_get C zzX_obj (fun _ h9 => List.mem_cons_of_mem _ (List.mem_append_right _ (h9))) rfl 0 (by decide) (List.mem_of_getElem? (i := 1) rfl) (Or.inl rfl) rfl dX11_oneOn_6 ?_
    refine zz_alenP C (Or.inl rfl) dX11_oneOn_9 ?_
    refine zz_icmp_ge (tgt := 22) C dX11_oneOn_10 (by decide) (fun h2 => ?_) (fun h2 => ?_)
    · refine zz_null C dX11_oneOn_22 ?_
      exact zz_aret (c0 := none) C rfl ⟨none, rfl, rfl⟩ (fun _ h9 => h9) (Nat.zero_le _) (Nat.zero_le _) dX11_oneOn_23
    · refine zz_aload_n C dX11_oneOn_13 rfl 0 rfl ?_
      refine zz_get C zzX_obj (fun _ h9 => List.mem_cons_of_mem _ (List.mem_append_right _ (h9))) rfl 0 (by decide) (List.mem_of_getElem? (i := 1) rfl) (Or.inl rfl) rfl dX11_oneOn_14 ?_
      refine zz_iload_n C dX11_oneOn_17 rfl 1 rfl ?_
      refine zz_gd (fun h3 => ?_)
      refine zz_aald (F := fun c => zzpr PL (zzr σ 1 (Int32.toNatClampNeg p0)) c) C (zzX_pers (Or.inl rfl) (Int32.toNatClampNeg p0)) rfl h3 dX11_oneOn_18 (fun c4 hp5 => ?_)
      refine zz_goto (tgt := 23) C dX11_oneOn_19 (by decide) ?_
      exact zz_aret (c0 := c4) C rfl ⟨_, hp5, rfl⟩ (fun _ h9 => h9) (Nat.zero_le _) (Nat.zero_le _) dX11_oneOn_23
set_option maxHeartbeats 4000000 in
set_option maxRecDepth 100000 in
theorem k_X11_oneOn {l : Launch} {Z : zzG} {base : Nat} {PL : Nat → Option (Nat × Int32)} {mm : zzS} (p0 : Int32)  (σ : zzS) : zzCT l yX11_oneOn wsX11_oneOn rX11_oneOn (zzA base) Z (zzX Z base PL mm) (zzX Z base PL mm) (zzRP PL) [.ref (zzad Z 0), .int p0] (f_X11_oneOn p0 σ) σ :=
  zzCT_of (cc := cX11_oneOn) (nL := 2) (ret := (some (.object "DealtByOpposite$Person"))) (by decide) rfl (Nat.le_of_ble_eq_true rfl) [(0, .ref (zzad Z 0)), (1, .int p0)] rfl (fun p e s m args below meth c C => w_X11_oneOn_e C p0 σ)
abbrev rX11_isShelf : Room := { frames := 0, cells := 0, slots := 0, locals := 0 }

set_option maxHeartbeats 4000000 in
set_option maxRecDepth 100000 in
theorem w_X11_isShelf_e {l : Launch} {Z : zzG} {base : Nat} {PL : Nat → Option (Nat × Int32)} {mm : zzS} {p : Program} {e : Env} {s : State} {m : MethodId} {args : Array Value} {below : List Frame} {meth : Method} {c : Code} (C : zzCx p m meth c s args cX11_isShelf 1 wsX11_isShelf RX11 (some .boolean) Z) (p0 : Int32)  (σ : zzS) : zzGO p l e rX11_isShelf s m args below meth c 1 (zzA base) (zzX Z base PL mm) (zzX Z base PL mm) zzRI rX11_isShelf.cells rX11_isShelf.slots (f_X11_isShelf p0 σ) σ 0 0 0 [(0, .int p0)] [] := by
  unfold f_X11_isShelf
  refine zz_iload_n C dX11_isShelf_0 rfl 0 rfl ?_
  refine zz_if_lt (tgt := 14) C dX11_isShelf_1 (by decide) (fun h1 => ?_) (fun h1 => ?_)
  · refine zz_iconst (v := 0) C dX11_isShelf_14 (by decide) ?_
    exact zz_zret C rfl (Or.inl rfl) rfl (fun _ h9 => h9) (Nat.zero_le _) (Nat.zero_le _) dX11_isShelf_15
  · refine zz_iload_n C dX11_isShelf_4 rfl 0 rfl ?_
    refine zz_bipush (v := 8) C dX11_isShelf_5 (by decide) ?_
    refine zz_icmp_ge (tgt := 14) C dX11_isShelf_7 (by decide) (fun h2 => ?_) (fun h2 => ?_)
    · refine zz_iconst (v := 0) C dX11_isShelf_14 (by decide) ?_
      exact zz_zret C rfl (Or.inl rfl) rfl (fun _ h9 => h9) (Nat.zero_le _) (Nat.zero_le _) dX11_isShelf_15
    · refine zz_iconst (v := 1) C dX11_isShelf_10 (by decide) ?_
      refine zz_goto (tgt := 15) C dX11_isShelf_11 (by decide) ?_
      exact zz_zret C rfl (Or.inr rfl) rfl (fun _ h9 => h9) (Nat.zero_le _) (Nat.zero_le _) dX11_isShelf_15
set_option maxHeartbeats 4000000 in
set_option maxRecDepth 100000 in
theorem k_X11_isShelf {l : Launch} {Z : zzG} {base : Nat} {PL : Nat → Option (Nat × Int32)} {mm : zzS} (p0 : Int32)  (σ : zzS) : zzCT l yX11_isShelf wsX11_isShelf rX11_isShelf (zzA base) Z (zzX Z base PL mm) (zzX Z base PL mm) zzRI [.int p0] (f_X11_isShelf p0 σ) σ :=
  zzCT_of (cc := cX11_isShelf) (nL := 1) (ret := (some .boolean)) (by decide) rfl (Nat.le_of_ble_eq_true rfl) [(0, .int p0)] rfl (fun p e s m args below meth c C => w_X11_isShelf_e C p0 σ)
abbrev rX11_rowOn : Room := { frames := 0, cells := 0, slots := 0, locals := 0 }

set_option maxHeartbeats 4000000 in
set_option maxRecDepth 100000 in
theorem w_X11_rowOn_e {l : Launch} {Z : zzG} {base : Nat} {PL : Nat → Option (Nat × Int32)} {mm : zzS} {p : Program} {e : Env} {s : State} {m : MethodId} {args : Array Value} {below : List Frame} {meth : Method} {c : Code} (C : zzCx p m meth c s args cX11_rowOn 2 wsX11_rowOn RX11 (some (.object "DealtByOpposite$Row")) Z) (p0 : Int32)  (σ : zzS) : zzGO p l e rX11_rowOn s m args below meth c 2 (zzA base) (zzX Z base PL mm) (zzX Z base PL mm) (zzRQ Z) rX11_rowOn.cells rX11_rowOn.slots (f_X11_rowOn p0 σ) σ 0 0 0 [(0, .ref (zzad Z 0)), (1, .int p0)] [] := by
  unfold f_X11_rowOn
  refine zz_iload_n C dX11_rowOn_0 rfl 1 rfl ?_
  refine zz_if_lt (tgt := 22) C dX11_rowOn_1 (by decide) (fun h1 => ?_) (fun h1 => ?_)
  · refine zz_null C dX11_rowOn_22 ?_
    exact zz_aret (c0 := Option.map (zzad Z) none) C rfl rfl (fun _ h9 => h9) (Nat.zero_le _) (Nat.zero_le _) dX11_rowOn_23
  · refine zz_iload_n C dX11_rowOn_4 rfl 1 rfl ?_
    refine zz_aload_n C dX11_rowOn_5 rfl 0 rfl ?_
    refine zz_get C zzX_obj (fun _ h9 => List.mem_cons_of_mem _ (List.mem_append_right _ (h9))) rfl 1 (by decide) (List.mem_of_getElem? (i := 1) rfl) (Or.inl rfl) rfl dX11_rowOn_6 ?_
    refine zz_alen (v := (8 : Int32)) C zzX_rows rfl rfl dX11_rowOn_9 ?_
    refine zz_icmp_ge (tgt := 22) C dX11_rowOn_10 (by decide) (fun h2 => ?_) (fun h2 => ?_)
    · refine zz_null C dX11_rowOn_22 ?_
      exact zz_aret (c0 := Option.map (zzad Z) none) C rfl rfl (fun _ h9 => h9) (Nat.zero_le _) (Nat.zero_le _) dX11_rowOn_23
    · refine zz_aload_n C dX11_rowOn_13 rfl 0 rfl ?_
      refine zz_get C zzX_obj (fun _ h9 => List.mem_cons_of_mem _ (List.mem_append_right _ (h9))) rfl 1 (by decide) (List.mem_of_getElem? (i := 1) rfl) (Or.inl rfl) rfl dX11_rowOn_14 ?_
      refine zz_iload_n C dX11_rowOn_17 rfl 1 rfl ?_
      refine zz_gd (fun h3 => ?_)
      refine zz_aald (F := fun c => c = Option.map (zzad Z) (zzq σ (Int32.toNatClampNeg p0))) C (fun H hH => ⟨_, zzX_rows H hH, rfl⟩) rfl h3 dX11_rowOn_18 (fun c5 h6 => ?_)
      subst h6
      refine zz_ltQ (fun x4 => ?_)
      refine zz_goto (tgt := 23) C dX11_rowOn_19 (by decide) ?_
      exact zz_aret (c0 := Option.map (zzad Z) x4) C rfl rfl (fun _ h9 => h9) (Nat.zero_le _) (Nat.zero_le _) dX11_rowOn_23
set_option maxHeartbeats 4000000 in
set_option maxRecDepth 100000 in
theorem k_X11_rowOn {l : Launch} {Z : zzG} {base : Nat} {PL : Nat → Option (Nat × Int32)} {mm : zzS} (p0 : Int32)  (σ : zzS) : zzCT l yX11_rowOn wsX11_rowOn rX11_rowOn (zzA base) Z (zzX Z base PL mm) (zzX Z base PL mm) (zzRQ Z) [.ref (zzad Z 0), .int p0] (f_X11_rowOn p0 σ) σ :=
  zzCT_of (cc := cX11_rowOn) (nL := 2) (ret := (some (.object "DealtByOpposite$Row"))) (by decide) rfl (Nat.le_of_ble_eq_true rfl) [(0, .ref (zzad Z 0)), (1, .int p0)] rfl (fun p e s m args below meth c C => w_X11_rowOn_e C p0 σ)
abbrev rX11_refusalWithoutOne : Room := { frames := 1, cells := 0, slots := 0, locals := 21 }

set_option maxHeartbeats 4000000 in
set_option maxRecDepth 100000 in
theorem w_X11_refusalWithoutOne_e {l : Launch} {Z : zzG} {base : Nat} {PL : Nat → Option (Nat × Int32)} {mm : zzS} {p : Program} {e : Env} {s : State} {m : MethodId} {args : Array Value} {below : List Frame} {meth : Method} {c : Code} (C : zzCx p m meth c s args cX11_refusalWithoutOne 2 wsX11_refusalWithoutOne RX11 (some .int) Z) (p0 : Int32)  (σ : zzS) : zzGO p l e rX11_refusalWithoutOne s m args below meth c 2 (zzA base) (zzX Z base PL mm) (zzX Z base PL mm) zzRI rX11_refusalWithoutOne.cells rX11_refusalWithoutOne.slots (f_X11_refusalWithoutOne p0 σ) σ 0 0 0 [(0, .ref (zzad Z 0)), (1, .int p0)] [] := by
  unfold f_X11_refusalWithoutOne
  refine zz_iload_n C dX11_refusalWithoutOne_0 rfl 1 rfl ?_
  refine zz_callS (As := [.int p0]) (rest := []) C rfl (k_X11_isShelf p0 σ) (va_cwS 1 C.1.2.2.2.2 gX11_refusalWithoutOne_X11_isShelf rfl rfl rfl (by decide +kernel) ⟨Nat.le_of_ble_eq_true rfl, Nat.le_of_ble_eq_true rfl⟩) rfl (Nat.le_of_ble_eq_true rfl) ⟨Nat.zero_le _, Nat.zero_le _⟩ dX11_refusalWithoutOne_1 (zz_kI rfl rfl (fun r1 σ2 => ?_))
  refine zz_if_ne (tgt := 9) C dX11_refusalWithoutOne_4 (by decide) (fun h3 => ?_) (fun h3 => ?_)
  · refine zz_aload_n C dX11_refusalWithoutOne_9 rfl 0 rfl ?_
    refine zz_iload_n C dX11_refusalWithoutOne_10 rfl 1 rfl ?_
    refine zz_callV C (Cn := RX11) (b := zzad Z 0) (fun H hH => zz_recv C.2.2.2 (zzX_obj H hH) rfl) (As := [.int p0]) (rest := []) rfl (k_X11_rowOn p0 σ2) (cwV 1 C.1.2.2.2.2 gX11_refusalWithoutOne_X11_rowOn rfl rfl rfl (by decide +kernel) ⟨Nat.le_of_ble_eq_true rfl, Nat.le_of_ble_eq_true rfl⟩) rfl (Nat.le_of_ble_eq_true rfl) ⟨Nat.zero_le _, Nat.zero_le _⟩ dX11_refusalWithoutOne_11 (zz_kQ rfl rfl (fun r4 σ5 => ?_))
    refine zz_ifnonnullQ (tgt := 22) C dX11_refusalWithoutOne_14 (by decide) (fun h7 => ?_) (fun j6 h7 => ?_)
    · subst h7
      refine zz_bipush (v := -11) C dX11_refusalWithoutOne_17 (by decide) ?_
      refine zz_goto (tgt := 24) C dX11_refusalWithoutOne_19 (by decide) ?_
      exact zz_iret C rfl rfl (fun _ h9 => h9) (Nat.zero_le _) (Nat.zero_le _) dX11_refusalWithoutOne_24
    · subst h7
      refine zz_gd (fun h8 => ?_)
      refine zz_bipush (v := -12) C dX11_refusalWithoutOne_22 (by decide) ?_
      exact zz_iret C rfl rfl (fun _ h9 => h9) (Nat.zero_le _) (Nat.zero_le _) dX11_refusalWithoutOne_24
  · refine zz_iconst (v := -1) C dX11_refusalWithoutOne_7 (by decide) ?_
    exact zz_iret C rfl rfl (fun _ h9 => h9) (Nat.zero_le _) (Nat.zero_le _) dX11_refusalWithoutOne_8
set_option maxHeartbeats 4000000 in
set_option maxRecDepth 100000 in
theorem k_X11_refusalWithoutOne {l : Launch} {Z : zzG} {base : Nat} {PL : Nat → Option (Nat × Int32)} {mm : zzS} (p0 : Int32)  (σ : zzS) : zzCT l yX11_refusalWithoutOne wsX11_refusalWithoutOne rX11_refusalWithoutOne (zzA base) Z (zzX Z base PL mm) (zzX Z base PL mm) zzRI [.ref (zzad Z 0), .int p0] (f_X11_refusalWithoutOne p0 σ) σ :=
  zzCT_of (cc := cX11_refusalWithoutOne) (nL := 2) (ret := (some .int)) (by decide) rfl (Nat.le_of_ble_eq_true rfl) [(0, .ref (zzad Z 0)), (1, .int p0)] rfl (fun p e s m args below meth c C => w_X11_refusalWithoutOne_e C p0 σ)
abbrev rX11_comes : Room := { frames := 2, cells := 0, slots := 0, locals := 42 }

set_option maxHeartbeats 4000000 in
set_option maxRecDepth 100000 in
theorem w_X11_comes_e {l : Launch} {Z : zzG} {base : Nat} {PL : Nat → Option (Nat × Int32)} {mm : zzS} {p : Program} {e : Env} {s : State} {m : MethodId} {args : Array Value} {below : List Frame} {meth : Method} {c : Code} (C : zzCx p m meth c s args cX11_comes 3 wsX11_comes RX11 (some .int) Z) (p0 : Int32)  (σ : zzS) : zzGO p l e rX11_comes s m args below meth c 3 (zzA base) (zzX Z base PL mm) (zzX Z base PL mm) zzRI rX11_comes.cells rX11_comes.slots (f_X11_comes p0 σ) σ 0 0 0 [(0, .ref (zzad Z 0)), (1, .int p0)] [] := by
  unfold f_X11_comes
  refine zz_aload_n C dX11_comes_0 rfl 0 rfl ?_
  refine zz_iload_n C dX11_comes_1 rfl 1 rfl ?_
  refine zz_callV C (Cn := RX11) (b := zzad Z 0) (fun H hH => zz_recv C.2.2.2 (zzX_obj H hH) rfl) (As := [.int p0]) (rest := []) rfl (k_X11_oneOn p0 σ) (cwV 1 C.1.2.2.2.2 gX11_comes_X11_oneOn rfl rfl rfl (by decide +kernel) ⟨Nat.le_of_ble_eq_true rfl, Nat.le_of_ble_eq_true rfl⟩) rfl (Nat.le_of_ble_eq_true rfl) ⟨Nat.zero_le _, Nat.zero_le _⟩ dX11_comes_2 (zz_kP rfl rfl (fun r1 σ2 c3 hp4 => ?_))
  refine zz_astoreq_n (loc' := [(2, va_rf c3), (0, .ref (zzad Z 0)), (1, .int p0)]) C dX11_comes_5 rfl (by decide) rfl ?_
  refine zz_aloadq_n C dX11_comes_6 rfl 0 rfl ?_
  refine zz_ifnonnullP (tgt := 16) C hp4 dX11_comes_7 (by decide) (fun h7 h8 => ?_) (fun kf5 q6 h7 h8 hq9 => ?_)
  · subst h8
    refine zz_aload_n C dX11_comes_10 rfl 1 rfl ?_
    refine zz_iload_n C dX11_comes_11 rfl 2 rfl ?_
    refine zz_callV C (Cn := RX11) (b := zzad Z 0) (fun H hH => zz_recv C.2.2.2 (zzX_obj H hH) rfl) (As := [.int p0]) (rest := []) rfl (k_X11_refusalWithoutOne p0 σ2) (cwV 1 C.1.2.2.2.2 gX11_comes_X11_refusalWithoutOne rfl rfl rfl (by decide +kernel) ⟨Nat.le_of_ble_eq_true rfl, Nat.le_of_ble_eq_true rfl⟩) rfl (Nat.le_of_ble_eq_true rfl) ⟨Nat.zero_le _, Nat.zero_le _⟩ dX11_comes_12 (zz_kI rfl rfl (fun r10 σ11 => ?_))
    exact zz_iret C rfl rfl (fun _ h9 => h9) (Nat.zero_le _) (Nat.zero_le _) dX11_comes_15
  · subst h8
    refine zz_aload_n C dX11_comes_16 rfl 1 rfl ?_
    refine zz_get C zzX_obj (fun _ h9 => List.mem_cons_of_mem _ (List.mem_append_left _ (List.mem_append_right _ (h9)))) rfl 3 (by decide) (List.mem_of_getElem? (i := 1) rfl) (Or.inl rfl) rfl dX11_comes_17 ?_
    refine zz_aload_n C dX11_comes_20 rfl 0 rfl ?_
    refine zz_callV C (Cn := RX10) (b := zzad Z 20) (fun H hH => zz_recv C.2.2.2 ((zzX_town (Or.inl rfl)) H hH) rfl) (As := [.ref q6]) (rest := []) rfl (k_X10_admit 20 (Or.inl rfl) (some kf5) (some q6) ⟨_, rfl, hq9⟩ σ2) (cwV 1 C.1.2.2.2.2 gX11_comes_X10_admit rfl rfl rfl (by decide +kernel) ⟨Nat.le_of_ble_eq_true rfl, Nat.le_of_ble_eq_true rfl⟩) rfl (Nat.le_of_ble_eq_true rfl) ⟨Nat.zero_le _, Nat.zero_le _⟩ dX11_comes_21 (zz_kI rfl rfl (fun r12 σ13 => ?_))
    refine zz_if_eq (tgt := 39) C dX11_comes_24 (by decide) (fun h14 => ?_) (fun h14 => ?_)
    · refine zz_bipush (v := -2) C dX11_comes_39 (by decide) ?_
      exact zz_iret C rfl rfl (fun _ h9 => h9) (Nat.zero_le _) (Nat.zero_le _) dX11_comes_41
    · refine zz_aload_n C dX11_comes_27 rfl 1 rfl ?_
      refine zz_get C zzX_obj (fun _ h9 => List.mem_cons_of_mem _ (List.mem_append_left _ (List.mem_append_right _ (h9)))) rfl 3 (by decide) (List.mem_of_getElem? (i := 1) rfl) (Or.inl rfl) rfl dX11_comes_28 ?_
      refine zz_get C (zzX_town (Or.inl rfl)) (fun _ h9 => List.mem_cons_of_mem _ (List.mem_append_right _ (h9))) rfl 4 (by decide) (List.mem_of_getElem? (i := 2) rfl) (Or.inl rfl) rfl dX11_comes_31 ?_
      refine zz_iconst (v := 1) C dX11_comes_34 (by decide) ?_
      refine zz_isub C dX11_comes_35 ?_
      refine zz_goto (tgt := 41) C dX11_comes_36 (by decide) ?_
      exact zz_iret C rfl rfl (fun _ h9 => h9) (Nat.zero_le _) (Nat.zero_le _) dX11_comes_41
set_option maxHeartbeats 4000000 in
set_option maxRecDepth 100000 in
theorem k_X11_comes {l : Launch} {Z : zzG} {base : Nat} {PL : Nat → Option (Nat × Int32)} {mm : zzS} (p0 : Int32)  (σ : zzS) : zzCT l yX11_comes wsX11_comes rX11_comes (zzA base) Z (zzX Z base PL mm) (zzX Z base PL mm) zzRI [.ref (zzad Z 0), .int p0] (f_X11_comes p0 σ) σ :=
  zzCT_of (cc := cX11_comes) (nL := 3) (ret := (some .int)) (by decide) rfl (Nat.le_of_ble_eq_true rfl) [(0, .ref (zzad Z 0)), (1, .int p0)] rfl (fun p e s m args below meth c C => w_X11_comes_e C p0 σ)
abbrev rX11_feels : Room := { frames := 3, cells := 0, slots := 0, locals := 66 }

set_option maxHeartbeats 4000000 in
set_option maxRecDepth 100000 in
theorem w_X11_feels_e {l : Launch} {Z : zzG} {base : Nat} {PL : Nat → Option (Nat × Int32)} {mm : zzS} {p : Program} {e : Env} {s : State} {m : MethodId} {args : Array Value} {below : List Frame} {meth : Method} {c : Code} (C : zzCx p m meth c s args cX11_feels 5 wsX11_feels RX11 (some .int) Z) (p0 : Int32)  (p1 : Int32)  (p2 : Int32)  (σ : zzS) : zzGO p l e rX11_feels s m args below meth c 5 (zzA base) (zzX Z base PL mm) (zzX Z base PL mm) zzRI rX11_feels.cells rX11_feels.slots (f_X11_feels p0 p1 p2 σ) σ 0 0 0 [(0, .ref (zzad Z 0)), (1, .int p0), (2, .int p1), (3, .int p2)] [] := by
  unfold f_X11_feels
  refine zz_aload_n C dX11_feels_0 rfl 0 rfl ?_
  refine zz_get C zzX_obj (fun _ h9 => List.mem_cons_of_mem _ (List.mem_append_left _ (List.mem_append_right _ (h9)))) rfl 3 (by decide) (List.mem_of_getElem? (i := 1) rfl) (Or.inl rfl) rfl dX11_feels_1 ?_
  refine zz_iload_n C dX11_feels_4 rfl 1 rfl ?_
  refine zz_iload_n C dX11_feels_5 rfl 2 rfl ?_
  refine zz_callV C (Cn := RX10) (b := zzad Z 20) (fun H hH => zz_recv C.2.2.2 ((zzX_town (Or.inl rfl)) H hH) rfl) (As := [.int p0, .int p1]) (rest := []) rfl (k_X10_fondOf 20 (Or.inl rfl) p0 p1 σ) (cwV 2 C.1.2.2.2.2 gX11_feels_X10_fondOf rfl rfl rfl (by decide +kernel) ⟨Nat.le_of_ble_eq_true rfl, Nat.le_of_ble_eq_true rfl⟩) rfl (Nat.le_of_ble_eq_true rfl) ⟨Nat.zero_le _, Nat.zero_le _⟩ dX11_feels_6 (zz_kI rfl rfl (fun r1 σ2 => ?_))
  refine zz_istore (loc' := [(4, .int r1), (0, .ref (zzad Z 0)), (1, .int p0), (2, .int p1), (3, .int p2)]) C dX11_feels_9 (by decide) rfl ?_
  refine zz_aload_n C dX11_feels_11 rfl 1 rfl ?_
  refine zz_get C zzX_obj (fun _ h9 => List.mem_cons_of_mem _ (List.mem_append_left _ (List.mem_append_right _ (h9)))) rfl 3 (by decide) (List.mem_of_getElem? (i := 1) rfl) (Or.inl rfl) rfl dX11_feels_12 ?_
  refine zz_iload_n C dX11_feels_15 rfl 2 rfl ?_
  refine zz_iload_n C dX11_feels_16 rfl 3 rfl ?_
  refine zz_iload_n C dX11_feels_17 rfl 4 rfl ?_
  refine zz_callV C (Cn := RX10) (b := zzad Z 20) (fun H hH => zz_recv C.2.2.2 ((zzX_town (Or.inl rfl)) H hH) rfl) (As := [.int p0, .int p1, .int p2]) (rest := []) rfl (k_X10_setFond 20 (Or.inl rfl) p0 p1 p2 σ2) (cwV 3 C.1.2.2.2.2 gX11_feels_X10_setFond rfl rfl rfl (by decide +kernel) ⟨Nat.le_of_ble_eq_true rfl, Nat.le_of_ble_eq_true rfl⟩) rfl (Nat.le_of_ble_eq_true rfl) ⟨Nat.zero_le _, Nat.zero_le _⟩ dX11_feels_18 (zz_kI rfl rfl (fun r3 σ4 => ?_))
  refine zz_if_eq (tgt := 29) C dX11_feels_21 (by decide) (fun h5 => ?_) (fun h5 => ?_)
  · refine zz_iconst (v := -1) C dX11_feels_29 (by decide) ?_
    exact zz_iret C rfl rfl (fun _ h9 => h9) (Nat.zero_le _) (Nat.zero_le _) dX11_feels_30
  · refine zz_iload C dX11_feels_24 0 rfl ?_
    refine zz_goto (tgt := 30) C dX11_feels_26 (by decide) ?_
    exact zz_iret C rfl rfl (fun _ h9 => h9) (Nat.zero_le _) (Nat.zero_le _) dX11_feels_30
set_option maxHeartbeats 4000000 in
set_option maxRecDepth 100000 in
theorem k_X11_feels {l : Launch} {Z : zzG} {base : Nat} {PL : Nat → Option (Nat × Int32)} {mm : zzS} (p0 : Int32)  (p1 : Int32)  (p2 : Int32)  (σ : zzS) : zzCT l yX11_feels wsX11_feels rX11_feels (zzA base) Z (zzX Z base PL mm) (zzX Z base PL mm) zzRI [.ref (zzad Z 0), .int p0, .int p1, .int p2] (f_X11_feels p0 p1 p2 σ) σ :=
  zzCT_of (cc := cX11_feels) (nL := 5) (ret := (some .int)) (by decide) rfl (Nat.le_of_ble_eq_true rfl) [(0, .ref (zzad Z 0)), (1, .int p0), (2, .int p1), (3, .int p2)] rfl (fun p e s m args below meth c C => w_X11_feels_e C p0 p1 p2 σ)
abbrev rX11_limit : Room := { frames := 1, cells := 0, slots := 0, locals := 21 }

set_option maxHeartbeats 4000000 in
set_option maxRecDepth 100000 in
theorem w_X11_limit_e {l : Launch} {Z : zzG} {base : Nat} {PL : Nat → Option (Nat × Int32)} {mm : zzS} {p : Program} {e : Env} {s : State} {m : MethodId} {args : Array Value} {below : List Frame} {meth : Method} {c : Code} (C : zzCx p m meth c s args cX11_limit 3 wsX11_limit RX11 (some .int) Z) (p0 : Int32)  (σ : zzS) : zzGO p l e rX11_limit s m args below meth c 3 (zzA base) (zzX Z base PL mm) (zzX Z base PL mm) zzRI rX11_limit.cells rX11_limit.slots (f_X11_limit p0 σ) σ 0 0 0 [(0, .ref (zzad Z 0)), (1, .int p0)] [] := by
  unfold f_X11_limit
  refine zz_aload_n C dX11_limit_0 rfl 0 rfl ?_
  refine zz_get C zzX_obj (fun _ h9 => List.mem_cons_of_mem _ (List.mem_append_left _ (List.mem_append_right _ (h9)))) rfl 3 (by decide) (List.mem_of_getElem? (i := 1) rfl) (Or.inl rfl) rfl dX11_limit_1 ?_
  refine zz_get C (zzX_town (Or.inl rfl)) (fun _ h9 => List.mem_cons_of_mem _ (List.mem_append_right _ (h9))) rfl 5 (by decide) (List.mem_of_getElem? (i := 2) rfl) (Or.inl rfl) rfl dX11_limit_4 ?_
  refine zz_istoreX_n (locf := fun x1 => [(2, .int x1), (0, .ref (zzad Z 0)), (1, .int p0)]) C dX11_limit_7 rfl (by decide) (fun _ => rfl) (fun x1 => ?_)
  refine zz_aload_n C dX11_limit_8 rfl 1 rfl ?_
  refine zz_get C zzX_obj (fun _ h9 => List.mem_cons_of_mem _ (List.mem_append_left _ (List.mem_append_right _ (h9)))) rfl 3 (by decide) (List.mem_of_getElem? (i := 1) rfl) (Or.inl rfl) rfl dX11_limit_9 ?_
  refine zz_iload_n C dX11_limit_12 rfl 2 rfl ?_
  refine zz_callV C (Cn := RX10) (b := zzad Z 20) (fun H hH => zz_recv C.2.2.2 ((zzX_town (Or.inl rfl)) H hH) rfl) (As := [.int p0]) (rest := []) rfl (k_X10_setLimit 20 (Or.inl rfl) p0 σ) (cwV 1 C.1.2.2.2.2 gX11_limit_X10_setLimit rfl rfl rfl (by decide +kernel) ⟨Nat.le_of_ble_eq_true rfl, Nat.le_of_ble_eq_true rfl⟩) rfl (Nat.le_of_ble_eq_true rfl) ⟨Nat.zero_le _, Nat.zero_le _⟩ dX11_limit_13 (zz_kI rfl rfl (fun r2 σ3 => ?_))
  refine zz_if_eq (tgt := 23) C dX11_limit_16 (by decide) (fun h4 => ?_) (fun h4 => ?_)
  · refine zz_iconst (v := -1) C dX11_limit_23 (by decide) ?_
    exact zz_iret C rfl rfl (fun _ h9 => h9) (Nat.zero_le _) (Nat.zero_le _) dX11_limit_24
  · refine zz_iload_n C dX11_limit_19 rfl 0 rfl ?_
    refine zz_goto (tgt := 24) C dX11_limit_20 (by decide) ?_
    exact zz_iret C rfl rfl (fun _ h9 => h9) (Nat.zero_le _) (Nat.zero_le _) dX11_limit_24
set_option maxHeartbeats 4000000 in
set_option maxRecDepth 100000 in
theorem k_X11_limit {l : Launch} {Z : zzG} {base : Nat} {PL : Nat → Option (Nat × Int32)} {mm : zzS} (p0 : Int32)  (σ : zzS) : zzCT l yX11_limit wsX11_limit rX11_limit (zzA base) Z (zzX Z base PL mm) (zzX Z base PL mm) zzRI [.ref (zzad Z 0), .int p0] (f_X11_limit p0 σ) σ :=
  zzCT_of (cc := cX11_limit) (nL := 3) (ret := (some .int)) (by decide) rfl (Nat.le_of_ble_eq_true rfl) [(0, .ref (zzad Z 0)), (1, .int p0)] rfl (fun p e s m args below meth c C => w_X11_limit_e C p0 σ)
abbrev rX11_sees : Room := { frames := 5, cells := 0, slots := 0, locals := 110 }

set_option maxHeartbeats 4000000 in
set_option maxRecDepth 100000 in
theorem w_X11_sees_e {l : Launch} {Z : zzG} {base : Nat} {PL : Nat → Option (Nat × Int32)} {mm : zzS} {p : Program} {e : Env} {s : State} {m : MethodId} {args : Array Value} {below : List Frame} {meth : Method} {c : Code} (C : zzCx p m meth c s args cX11_sees 3 wsX11_sees RX11 (some .int) Z) (p0 : Int32)  (p1 : Int32)  (σ : zzS) : zzGO p l e rX11_sees s m args below meth c 3 (zzA base) (zzX Z base PL mm) (zzX Z base PL mm) zzRI rX11_sees.cells rX11_sees.slots (f_X11_sees p0 p1 σ) σ 0 0 0 [(0, .ref (zzad Z 0)), (1, .int p0), (2, .int p1)] [] := by
  unfold f_X11_sees
  refine zz_aload_n C dX11_sees_0 rfl 0 rfl ?_
  refine zz_get C zzX_obj (fun _ h9 => List.mem_cons_of_mem _ (List.mem_append_left _ (List.mem_append_left _ (List.mem_append_left _ (List.mem_append_left _ (List.mem_append_left _ (List.mem_append_left _ (List.mem_append_left _ (List.mem_append_left _ (List.mem_append_left _ (List.mem_append_right _ (h9)))))))))))) rfl 3 (by decide) (List.mem_of_getElem? (i := 1) rfl) (Or.inl rfl) rfl dX11_sees_1 ?_
  refine zz_iload_n C dX11_sees_4 rfl 1 rfl ?_
  refine zz_iload_n C dX11_sees_5 rfl 2 rfl ?_
  refine zz_callV C (Cn := RX10) (b := zzad Z 20) (fun H hH => zz_recv C.2.2.2 ((zzX_town (Or.inl rfl)) H hH) rfl) (As := [.int p0, .int p1]) (rest := []) rfl (k_X10_areTwo 20 (Or.inl rfl) p0 p1 σ) (cwV 2 C.1.2.2.2.2 gX11_sees_X10_areTwo rfl rfl rfl (by decide +kernel) ⟨Nat.le_of_ble_eq_true rfl, Nat.le_of_ble_eq_true rfl⟩) rfl (Nat.le_of_ble_eq_true rfl) ⟨Nat.zero_le _, Nat.zero_le _⟩ dX11_sees_6 (zz_kI rfl rfl (fun r1 σ2 => ?_))
  refine zz_if_ne (tgt := 14) C dX11_sees_9 (by decide) (fun h3 => ?_) (fun h3 => ?_)
  · refine zz_aload_n C dX11_sees_14 rfl 0 rfl ?_
    refine zz_get C zzX_obj (fun _ h9 => List.mem_cons_of_mem _ (List.mem_append_left _ (List.mem_append_left _ (List.mem_append_left _ (List.mem_append_left _ (List.mem_append_left _ (List.mem_append_left _ (List.mem_append_left _ (List.mem_append_left _ (List.mem_append_left _ (List.mem_append_right _ (h9)))))))))))) rfl 3 (by decide) (List.mem_of_getElem? (i := 1) rfl) (Or.inl rfl) rfl dX11_sees_15 ?_
    refine zz_iload_n C dX11_sees_18 rfl 1 rfl ?_
    refine zz_iload_n C dX11_sees_19 rfl 2 rfl ?_
    refine zz_callV C (Cn := RX10) (b := zzad Z 20) (fun H hH => zz_recv C.2.2.2 ((zzX_town (Or.inl rfl)) H hH) rfl) (As := [.int p0, .int p1]) (rest := []) rfl (k_X10_see 20 (Or.inl rfl) p0 p1 σ2) (cwV 2 C.1.2.2.2.2 gX11_sees_X10_see rfl rfl rfl (by decide +kernel) ⟨Nat.le_of_ble_eq_true rfl, Nat.le_of_ble_eq_true rfl⟩) rfl (Nat.le_of_ble_eq_true rfl) ⟨Nat.zero_le _, Nat.zero_le _⟩ dX11_sees_20 (zz_kI rfl rfl (fun r4 σ5 => ?_))
    refine zz_if_eq (tgt := 38) C dX11_sees_23 (by decide) (fun h6 => ?_) (fun h6 => ?_)
    · refine zz_bipush (v := -3) C dX11_sees_38 (by decide) ?_
      exact zz_iret C rfl rfl (fun _ h9 => h9) (Nat.zero_le _) (Nat.zero_le _) dX11_sees_40
    · refine zz_aload_n C dX11_sees_26 rfl 0 rfl ?_
      refine zz_get C zzX_obj (fun _ h9 => List.mem_cons_of_mem _ (List.mem_append_left _ (List.mem_append_left _ (List.mem_append_left _ (List.mem_append_left _ (List.mem_append_left _ (List.mem_append_left _ (List.mem_append_left _ (List.mem_append_left _ (List.mem_append_left _ (List.mem_append_right _ (h9)))))))))))) rfl 3 (by decide) (List.mem_of_getElem? (i := 1) rfl) (Or.inl rfl) rfl dX11_sees_27 ?_
      refine zz_iload_n C dX11_sees_30 rfl 1 rfl ?_
      refine zz_iload_n C dX11_sees_31 rfl 2 rfl ?_
      refine zz_callV C (Cn := RX10) (b := zzad Z 20) (fun H hH => zz_recv C.2.2.2 ((zzX_town (Or.inl rfl)) H hH) rfl) (As := [.int p0, .int p1]) (rest := []) rfl (k_X10_fondOf 20 (Or.inl rfl) p0 p1 σ5) (cwV 2 C.1.2.2.2.2 gX11_sees_X10_fondOf rfl rfl rfl (by decide +kernel) ⟨Nat.le_of_ble_eq_true rfl, Nat.le_of_ble_eq_true rfl⟩) rfl (Nat.le_of_ble_eq_true rfl) ⟨Nat.zero_le _, Nat.zero_le _⟩ dX11_sees_32 (zz_kI rfl rfl (fun r7 σ8 => ?_))
      refine zz_goto (tgt := 40) C dX11_sees_35 (by decide) ?_
      exact zz_iret C rfl rfl (fun _ h9 => h9) (Nat.zero_le _) (Nat.zero_le _) dX11_sees_40
  · refine zz_iconst (v := -1) C dX11_sees_12 (by decide) ?_
    exact zz_iret C rfl rfl (fun _ h9 => h9) (Nat.zero_le _) (Nat.zero_le _) dX11_sees_13
set_option maxHeartbeats 4000000 in
set_option maxRecDepth 100000 in
theorem k_X11_sees {l : Launch} {Z : zzG} {base : Nat} {PL : Nat → Option (Nat × Int32)} {mm : zzS} (p0 : Int32)  (p1 : Int32)  (σ : zzS) : zzCT l yX11_sees wsX11_sees rX11_sees (zzA base) Z (zzX Z base PL mm) (zzX Z base PL mm) zzRI [.ref (zzad Z 0), .int p0, .int p1] (f_X11_sees p0 p1 σ) σ :=
  zzCT_of (cc := cX11_sees) (nL := 3) (ret := (some .int)) (by decide) rfl (Nat.le_of_ble_eq_true rfl) [(0, .ref (zzad Z 0)), (1, .int p0), (2, .int p1)] rfl (fun p e s m args below meth c C => w_X11_sees_e C p0 p1 σ)
abbrev rX11_turnsFor : Room := { frames := 6, cells := 0, slots := 0, locals := 132 }

set_option maxHeartbeats 4000000 in
set_option maxRecDepth 100000 in
theorem w_X11_turnsFor_e {l : Launch} {Z : zzG} {base : Nat} {PL : Nat → Option (Nat × Int32)} {mm : zzS} {p : Program} {e : Env} {s : State} {m : MethodId} {args : Array Value} {below : List Frame} {meth : Method} {c : Code} (C : zzCx p m meth c s args cX11_turnsFor 3 wsX11_turnsFor RX11 (some .int) Z) (p0 : Int32)  (p1 : Int32)  (σ : zzS) : zzGO p l e rX11_turnsFor s m args below meth c 3 (zzA base) (zzX Z base PL mm) (zzX Z base PL mm) zzRI rX11_turnsFor.cells rX11_turnsFor.slots (f_X11_turnsFor p0 p1 σ) σ 0 0 0 [(0, .ref (zzad Z 0)), (1, .int p0), (2, .int p1)] [] := by
  unfold f_X11_turnsFor
  refine zz_aload_n C dX11_turnsFor_0 rfl 0 rfl ?_
  refine zz_get C zzX_obj (fun _ h9 => List.mem_cons_of_mem _ (List.mem_append_left _ (List.mem_append_left _ (List.mem_append_left _ (List.mem_append_left _ (List.mem_append_left _ (List.mem_append_left _ (List.mem_append_left _ (List.mem_append_left _ (List.mem_append_left _ (List.mem_append_right _ (h9)))))))))))) rfl 3 (by decide) (List.mem_of_getElem? (i := 1) rfl) (Or.inl rfl) rfl dX11_turnsFor_1 ?_
  refine zz_iload_n C dX11_turnsFor_4 rfl 1 rfl ?_
  refine zz_iload_n C dX11_turnsFor_5 rfl 2 rfl ?_
  refine zz_callV C (Cn := RX10) (b := zzad Z 20) (fun H hH => zz_recv C.2.2.2 ((zzX_town (Or.inl rfl)) H hH) rfl) (As := [.int p0, .int p1]) (rest := []) rfl (k_X10_areTwo 20 (Or.inl rfl) p0 p1 σ) (cwV 2 C.1.2.2.2.2 gX11_turnsFor_X10_areTwo rfl rfl rfl (by decide +kernel) ⟨Nat.le_of_ble_eq_true rfl, Nat.le_of_ble_eq_true rfl⟩) rfl (Nat.le_of_ble_eq_true rfl) ⟨Nat.zero_le _, Nat.zero_le _⟩ dX11_turnsFor_6 (zz_kI rfl rfl (fun r1 σ2 => ?_))
  refine zz_if_ne (tgt := 14) C dX11_turnsFor_9 (by decide) (fun h3 => ?_) (fun h3 => ?_)
  · refine zz_aload_n C dX11_turnsFor_14 rfl 0 rfl ?_
    refine zz_get C zzX_obj (fun _ h9 => List.mem_cons_of_mem _ (List.mem_append_left _ (List.mem_append_left _ (List.mem_append_left _ (List.mem_append_left _ (List.mem_append_left _ (List.mem_append_left _ (List.mem_append_left _ (List.mem_append_left _ (List.mem_append_left _ (List.mem_append_right _ (h9)))))))))))) rfl 3 (by decide) (List.mem_of_getElem? (i := 1) rfl) (Or.inl rfl) rfl dX11_turnsFor_15 ?_
    refine zz_iload_n C dX11_turnsFor_18 rfl 1 rfl ?_
    refine zz_iload_n C dX11_turnsFor_19 rfl 2 rfl ?_
    refine zz_callV C (Cn := RX10) (b := zzad Z 20) (fun H hH => zz_recv C.2.2.2 ((zzX_town (Or.inl rfl)) H hH) rfl) (As := [.int p0, .int p1]) (rest := []) rfl (k_X10_turn 20 (Or.inl rfl) p0 p1 σ2) (cwV 2 C.1.2.2.2.2 gX11_turnsFor_X10_turn rfl rfl rfl (by decide +kernel) ⟨Nat.le_of_ble_eq_true rfl, Nat.le_of_ble_eq_true rfl⟩) rfl (Nat.le_of_ble_eq_true rfl) ⟨Nat.zero_le _, Nat.zero_le _⟩ dX11_turnsFor_20 (zz_kI rfl rfl (fun r4 σ5 => ?_))
    refine zz_if_eq (tgt := 37) C dX11_turnsFor_23 (by decide) (fun h6 => ?_) (fun h6 => ?_)
    · refine zz_bipush (v := -3) C dX11_turnsFor_37 (by decide) ?_
      exact zz_iret C rfl rfl (fun _ h9 => h9) (Nat.zero_le _) (Nat.zero_le _) dX11_turnsFor_39
    · refine zz_aload_n C dX11_turnsFor_26 rfl 0 rfl ?_
      refine zz_get C zzX_obj (fun _ h9 => List.mem_cons_of_mem _ (List.mem_append_left _ (List.mem_append_left _ (List.mem_append_left _ (List.mem_append_left _ (List.mem_append_left _ (List.mem_append_left _ (List.mem_append_left _ (List.mem_append_left _ (List.mem_append_left _ (List.mem_append_right _ (h9)))))))))))) rfl 3 (by decide) (List.mem_of_getElem? (i := 1) rfl) (Or.inl rfl) rfl dX11_turnsFor_27 ?_
      refine zz_iload_n C dX11_turnsFor_30 rfl 2 rfl ?_
      refine zz_callV C (Cn := RX10) (b := zzad Z 20) (fun H hH => zz_recv C.2.2.2 ((zzX_town (Or.inl rfl)) H hH) rfl) (As := [.int p1]) (rest := []) rfl (k_X10_turnedOf 20 (Or.inl rfl) p1 σ5) (cwV 1 C.1.2.2.2.2 gX11_turnsFor_X10_turnedOf rfl rfl rfl (by decide +kernel) ⟨Nat.le_of_ble_eq_true rfl, Nat.le_of_ble_eq_true rfl⟩) rfl (Nat.le_of_ble_eq_true rfl) ⟨Nat.zero_le _, Nat.zero_le _⟩ dX11_turnsFor_31 (zz_kI rfl rfl (fun r7 σ8 => ?_))
      refine zz_goto (tgt := 39) C dX11_turnsFor_34 (by decide) ?_
      exact zz_iret C rfl rfl (fun _ h9 => h9) (Nat.zero_le _) (Nat.zero_le _) dX11_turnsFor_39
  · refine zz_iconst (v := -1) C dX11_turnsFor_12 (by decide) ?_
    exact zz_iret C rfl rfl (fun _ h9 => h9) (Nat.zero_le _) (Nat.zero_le _) dX11_turnsFor_13
set_option maxHeartbeats 4000000 in
set_option maxRecDepth 100000 in
theorem k_X11_turnsFor {l : Launch} {Z : zzG} {base : Nat} {PL : Nat → Option (Nat × Int32)} {mm : zzS} (p0 : Int32)  (p1 : Int32)  (σ : zzS) : zzCT l yX11_turnsFor wsX11_turnsFor rX11_turnsFor (zzA base) Z (zzX Z base PL mm) (zzX Z base PL mm) zzRI [.ref (zzad Z 0), .int p0, .int p1] (f_X11_turnsFor p0 p1 σ) σ :=
  zzCT_of (cc := cX11_turnsFor) (nL := 3) (ret := (some .int)) (by decide) rfl (Nat.le_of_ble_eq_true rfl) [(0, .ref (zzad Z 0)), (1, .int p0), (2, .int p1)] rfl (fun p e s m args below meth c C => w_X11_turnsFor_e C p0 p1 σ)
abbrev rX11_days : Room := { frames := 1, cells := 0, slots := 0, locals := 21 }

set_option maxHeartbeats 4000000 in
set_option maxRecDepth 100000 in
theorem w_X11_days_e {l : Launch} {Z : zzG} {base : Nat} {PL : Nat → Option (Nat × Int32)} {mm : zzS} {p : Program} {e : Env} {s : State} {m : MethodId} {args : Array Value} {below : List Frame} {meth : Method} {c : Code} (C : zzCx p m meth c s args cX11_days 2 wsX11_days RX11 (some .int) Z) (p0 : Int32)  (σ : zzS) : zzGO p l e rX11_days s m args below meth c 2 (zzA base) (zzX Z base PL mm) (zzX Z base PL mm) zzRI rX11_days.cells rX11_days.slots (f_X11_days p0 σ) σ 0 0 0 [(0, .ref (zzad Z 0)), (1, .int p0)] [] := by
  unfold f_X11_days
  refine zz_iload_n C dX11_days_0 rfl 1 rfl ?_
  refine zz_iconst (v := 1) C dX11_days_1 (by decide) ?_
  refine zz_icmp_lt (tgt := 11) C dX11_days_2 (by decide) (fun h1 => ?_) (fun h1 => ?_)
  · refine zz_iconst (v := -1) C dX11_days_11 (by decide) ?_
    exact zz_iret C rfl rfl (fun _ h9 => h9) (Nat.zero_le _) (Nat.zero_le _) dX11_days_12
  · refine zz_iload_n C dX11_days_5 rfl 1 rfl ?_
    refine zz_bipush (v := 99) C dX11_days_6 (by decide) ?_
    refine zz_icmp_le (tgt := 13) C dX11_days_8 (by decide) (fun h2 => ?_) (fun h2 => ?_)
    · refine zz_aload_n C dX11_days_13 rfl 0 rfl ?_
      refine zz_get C zzX_obj (fun _ h9 => List.mem_cons_of_mem _ (List.mem_append_left _ (List.mem_append_right _ (h9)))) rfl 3 (by decide) (List.mem_of_getElem? (i := 1) rfl) (Or.inl rfl) rfl dX11_days_14 ?_
      refine zz_iload_n C dX11_days_17 rfl 1 rfl ?_
      refine zz_callV C (Cn := RX10) (b := zzad Z 20) (fun H hH => zz_recv C.2.2.2 ((zzX_town (Or.inl rfl)) H hH) rfl) (As := [.int p0]) (rest := []) rfl (k_X10_pass 20 (Or.inl rfl) p0 σ) (cwV 1 C.1.2.2.2.2 gX11_days_X10_pass rfl rfl rfl (by decide +kernel) ⟨Nat.le_of_ble_eq_true rfl, Nat.le_of_ble_eq_true rfl⟩) rfl (Nat.le_of_ble_eq_true rfl) ⟨Nat.zero_le _, Nat.zero_le _⟩ dX11_days_18 (zz_kI rfl rfl (fun r3 σ4 => ?_))
      refine zz_if_eq (tgt := 34) C dX11_days_21 (by decide) (fun h5 => ?_) (fun h5 => ?_)
      · refine zz_bipush (v := -3) C dX11_days_34 (by decide) ?_
        exact zz_iret C rfl rfl (fun _ h9 => h9) (Nat.zero_le _) (Nat.zero_le _) dX11_days_36
      · refine zz_aload_n C dX11_days_24 rfl 0 rfl ?_
        refine zz_get C zzX_obj (fun _ h9 => List.mem_cons_of_mem _ (List.mem_append_left _ (List.mem_append_right _ (h9)))) rfl 3 (by decide) (List.mem_of_getElem? (i := 1) rfl) (Or.inl rfl) rfl dX11_days_25 ?_
        refine zz_get C (zzX_town (Or.inl rfl)) (fun _ h9 => List.mem_cons_of_mem _ (List.mem_append_right _ (h9))) rfl 6 (by decide) (List.mem_of_getElem? (i := 2) rfl) (Or.inl rfl) rfl dX11_days_28 ?_
        refine zz_goto (tgt := 36) C dX11_days_31 (by decide) ?_
        exact zz_iret C rfl rfl (fun _ h9 => h9) (Nat.zero_le _) (Nat.zero_le _) dX11_days_36
    · refine zz_iconst (v := -1) C dX11_days_11 (by decide) ?_
      exact zz_iret C rfl rfl (fun _ h9 => h9) (Nat.zero_le _) (Nat.zero_le _) dX11_days_12
set_option maxHeartbeats 4000000 in
set_option maxRecDepth 100000 in
theorem k_X11_days {l : Launch} {Z : zzG} {base : Nat} {PL : Nat → Option (Nat × Int32)} {mm : zzS} (p0 : Int32)  (σ : zzS) : zzCT l yX11_days wsX11_days rX11_days (zzA base) Z (zzX Z base PL mm) (zzX Z base PL mm) zzRI [.ref (zzad Z 0), .int p0] (f_X11_days p0 σ) σ :=
  zzCT_of (cc := cX11_days) (nL := 2) (ret := (some .int)) (by decide) rfl (Nat.le_of_ble_eq_true rfl) [(0, .ref (zzad Z 0)), (1, .int p0)] rfl (fun p e s m args below meth c C => w_X11_days_e C p0 σ)
abbrev rX11_fit : Room := { frames := 5, cells := 0, slots := 0, locals := 112 }

set_option maxHeartbeats 4000000 in
set_option maxRecDepth 100000 in
theorem w_X11_fit_e {l : Launch} {Z : zzG} {base : Nat} {PL : Nat → Option (Nat × Int32)} {mm : zzS} {p : Program} {e : Env} {s : State} {m : MethodId} {args : Array Value} {below : List Frame} {meth : Method} {c : Code} (C : zzCx p m meth c s args cX11_fit 2 wsX11_fit RX11 (some .int) Z) (p0 : Int32)  (σ : zzS) : zzGO p l e rX11_fit s m args below meth c 2 (zzA base) (zzX Z base PL mm) (zzX Z base PL mm) zzRI rX11_fit.cells rX11_fit.slots (f_X11_fit p0 σ) σ 0 0 0 [(0, .ref (zzad Z 0)), (1, .int p0)] [] := by
  unfold f_X11_fit
  refine zz_aload_n C dX11_fit_0 rfl 0 rfl ?_
  refine zz_get C zzX_obj (fun _ h9 => List.mem_cons_of_mem _ (List.mem_append_left _ (List.mem_append_right _ (h9)))) rfl 3 (by decide) (List.mem_of_getElem? (i := 1) rfl) (Or.inl rfl) rfl dX11_fit_1 ?_
  refine zz_iload_n C dX11_fit_4 rfl 1 rfl ?_
  refine zz_callV C (Cn := RX10) (b := zzad Z 20) (fun H hH => zz_recv C.2.2.2 ((zzX_town (Or.inl rfl)) H hH) rfl) (As := [.int p0]) (rest := []) rfl (k_X10_has 20 (Or.inl rfl) p0 σ) (cwV 1 C.1.2.2.2.2 gX11_fit_X10_has rfl rfl rfl (by decide +kernel) ⟨Nat.le_of_ble_eq_true rfl, Nat.le_of_ble_eq_true rfl⟩) rfl (Nat.le_of_ble_eq_true rfl) ⟨Nat.zero_le _, Nat.zero_le _⟩ dX11_fit_5 (zz_kI rfl rfl (fun r1 σ2 => ?_))
  refine zz_if_eq (tgt := 29) C dX11_fit_8 (by decide) (fun h3 => ?_) (fun h3 => ?_)
  · refine zz_iconst (v := -1) C dX11_fit_29 (by decide) ?_
    exact zz_iret C rfl rfl (fun _ h9 => h9) (Nat.zero_le _) (Nat.zero_le _) dX11_fit_30
  · refine zz_aload_n C dX11_fit_11 rfl 0 rfl ?_
    refine zz_get C zzX_obj (fun _ h9 => List.mem_cons_of_mem _ (List.mem_append_left _ (List.mem_append_right _ (h9)))) rfl 3 (by decide) (List.mem_of_getElem? (i := 1) rfl) (Or.inl rfl) rfl dX11_fit_12 ?_
    refine zz_iload_n C dX11_fit_15 rfl 1 rfl ?_
    refine zz_aload_n C dX11_fit_16 rfl 0 rfl ?_
    refine zz_get C zzX_obj (fun _ h9 => List.mem_cons_of_mem _ (List.mem_append_left _ (List.mem_append_right _ (h9)))) rfl 3 (by decide) (List.mem_of_getElem? (i := 1) rfl) (Or.inl rfl) rfl dX11_fit_17 ?_
    refine zz_get C (zzX_town (Or.inl rfl)) (fun _ h9 => List.mem_cons_of_mem _ (List.mem_append_right _ (h9))) rfl 5 (by decide) (List.mem_of_getElem? (i := 2) rfl) (Or.inl rfl) rfl dX11_fit_20 ?_
    refine zz_callV C (Cn := RX10) (b := zzad Z 20) (fun H hH => zz_recv C.2.2.2 ((zzX_town (Or.inl rfl)) H hH) rfl) (As := [.int p0, .int (zzi σ2 20 5)]) (rest := []) rfl (k_X10_fitFor 20 (Or.inl rfl) p0 (zzi σ2 20 5) σ2) (cwV 2 C.1.2.2.2.2 gX11_fit_X10_fitFor rfl rfl rfl (by decide +kernel) ⟨Nat.le_of_ble_eq_true rfl, Nat.le_of_ble_eq_true rfl⟩) rfl (Nat.le_of_ble_eq_true rfl) ⟨Nat.zero_le _, Nat.zero_le _⟩ dX11_fit_23 (zz_kI rfl rfl (fun r4 σ5 => ?_))
    refine zz_goto (tgt := 30) C dX11_fit_26 (by decide) ?_
    exact zz_iret C rfl rfl (fun _ h9 => h9) (Nat.zero_le _) (Nat.zero_le _) dX11_fit_30
set_option maxHeartbeats 4000000 in
set_option maxRecDepth 100000 in
theorem k_X11_fit {l : Launch} {Z : zzG} {base : Nat} {PL : Nat → Option (Nat × Int32)} {mm : zzS} (p0 : Int32)  (σ : zzS) : zzCT l yX11_fit wsX11_fit rX11_fit (zzA base) Z (zzX Z base PL mm) (zzX Z base PL mm) zzRI [.ref (zzad Z 0), .int p0] (f_X11_fit p0 σ) σ :=
  zzCT_of (cc := cX11_fit) (nL := 2) (ret := (some .int)) (by decide) rfl (Nat.le_of_ble_eq_true rfl) [(0, .ref (zzad Z 0)), (1, .int p0)] rfl (fun p e s m args below meth c C => w_X11_fit_e C p0 σ)
abbrev rX11_told : Room := { frames := 6, cells := 0, slots := 0, locals := 135 }

set_option maxHeartbeats 4000000 in
set_option maxRecDepth 100000 in
theorem w_X11_told_18 {l : Launch} {Z : zzG} {base : Nat} {PL : Nat → Option (Nat × Int32)} {mm : zzS} {p : Program} {e : Env} {s : State} {m : MethodId} {args : Array Value} {below : List Frame} {meth : Method} {c : Code} (C : zzCx p m meth c s args cX11_told 3 wsX11_told RX11 (some .int) Z) (p0 : Int32)    (σ : zzS) : zzGO p l e rX11_told s m args below meth c 3 (zzA base) (zzX Z base PL mm) (zzX Z base PL mm) zzRI rX11_told.cells rX11_told.slots (f_X11_told_18 p0 σ) σ 0 0 18 [(0, .ref (zzad Z 0)), (1, .int p0)] [] := by
  unfold f_X11_told_18
  refine zz_aload_n C dX11_told_18 rfl 0 rfl ?_
  refine zz_get C zzX_obj (fun _ h9 => List.mem_cons_of_mem _ (List.mem_append_left _ (List.mem_append_left _ (List.mem_append_right _ (h9))))) rfl 6 (by decide) (List.mem_of_getElem? (i := 2) rfl) (Or.inl rfl) rfl dX11_told_19 ?_
  refine zz_aload_n C dX11_told_22 rfl 0 rfl ?_
  refine zz_get C zzX_obj (fun _ h9 => List.mem_cons_of_mem _ (List.mem_append_left _ (List.mem_append_left _ (List.mem_append_right _ (h9))))) rfl 3 (by decide) (List.mem_of_getElem? (i := 1) rfl) (Or.inl rfl) rfl dX11_told_23 ?_
  refine zz_aload_n C dX11_told_26 rfl 0 rfl ?_
  refine zz_get C zzX_obj (fun _ h9 => List.mem_cons_of_mem _ (List.mem_append_left _ (List.mem_append_left _ (List.mem_append_right _ (h9))))) rfl 3 (by decide) (List.mem_of_getElem? (i := 1) rfl) (Or.inl rfl) rfl dX11_told_27 ?_
  refine zz_get C (zzX_town (Or.inl rfl)) (fun _ h9 => List.mem_cons_of_mem _ (List.mem_append_left _ (List.mem_append_right _ (h9)))) rfl 5 (by decide) (List.mem_of_getElem? (i := 3) rfl) (Or.inl rfl) rfl dX11_told_30 ?_
  refine zz_callV C (Cn := RX2) (b := zzad Z 32) (fun H hH => zz_recv C.2.2.2 (zzX_circ H hH) rfl) (As := [.ref (zzad Z 20), .int (zzi σ 20 5)]) (rest := []) rfl (k_X2_gather 20 (Or.inl rfl) (zzi σ 20 5) σ) (cwV 2 C.1.2.2.2.2 gX11_told_X2_gather rfl rfl rfl (by decide +kernel) ⟨Nat.le_of_ble_eq_true rfl, Nat.le_of_ble_eq_true rfl⟩) rfl (Nat.le_of_ble_eq_true rfl) ⟨Nat.zero_le _, Nat.zero_le _⟩ dX11_told_33 (zz_kV rfl rfl (fun r1 σ2 => ?_))
  refine zz_aload_n C dX11_told_36 rfl 0 rfl ?_
  refine zz_get C zzX_obj (fun _ h9 => List.mem_cons_of_mem _ (List.mem_append_left _ (List.mem_append_left _ (List.mem_append_right _ (h9))))) rfl 6 (by decide) (List.mem_of_getElem? (i := 2) rfl) (Or.inl rfl) rfl dX11_told_37 ?_
  refine zz_callV C (Cn := RX2) (b := zzad Z 32) (fun H hH => zz_recv C.2.2.2 (zzX_circ H hH) rfl) (As := []) (rest := []) rfl (k_X2_mostTold σ2) (cwV 0 C.1.2.2.2.2 gX11_told_X2_mostTold rfl rfl rfl (by decide +kernel) ⟨Nat.le_of_ble_eq_true rfl, Nat.le_of_ble_eq_true rfl⟩) rfl (Nat.le_of_ble_eq_true rfl) ⟨Nat.zero_le _, Nat.zero_le _⟩ dX11_told_40 (zz_kI rfl rfl (fun r3 σ4 => ?_))
  refine zz_istore_n (loc' := [(2, .int r3), (0, .ref (zzad Z 0)), (1, .int p0)]) C dX11_told_43 rfl (by decide) rfl ?_
  refine zz_iload_n C dX11_told_44 rfl 2 rfl ?_
  refine zz_iconst (v := -1) C dX11_told_45 (by decide) ?_
  refine zz_icmp_ne (tgt := 53) C dX11_told_46 (by decide) (fun h5 => ?_) (fun h5 => ?_)
  · refine zz_aload_n C dX11_told_53 rfl 1 rfl ?_
    refine zz_get C zzX_obj (fun _ h9 => List.mem_cons_of_mem _ (List.mem_append_left _ (List.mem_append_left _ (List.mem_append_right _ (h9))))) rfl 6 (by decide) (List.mem_of_getElem? (i := 2) rfl) (Or.inl rfl) rfl dX11_told_54 ?_
    refine zz_iload_n C dX11_told_57 rfl 2 rfl ?_
    refine zz_callV C (Cn := RX2) (b := zzad Z 32) (fun H hH => zz_recv C.2.2.2 (zzX_circ H hH) rfl) (As := [.int p0]) (rest := []) rfl (k_X2_turnerOf p0 σ4) (cwV 1 C.1.2.2.2.2 gX11_told_X2_turnerOf rfl rfl rfl (by decide +kernel) ⟨Nat.le_of_ble_eq_true rfl, Nat.le_of_ble_eq_true rfl⟩) rfl (Nat.le_of_ble_eq_true rfl) ⟨Nat.zero_le _, Nat.zero_le _⟩ dX11_told_58 (zz_kI rfl rfl (fun r6 σ7 => ?_))
    exact zz_iret C rfl rfl (fun _ h9 => h9) (Nat.zero_le _) (Nat.zero_le _) dX11_told_61
  · refine zz_iload_n C dX11_told_49 rfl 0 rfl ?_
    refine zz_goto (tgt := 61) C dX11_told_50 (by decide) ?_
    exact zz_iret C rfl rfl (fun _ h9 => h9) (Nat.zero_le _) (Nat.zero_le _) dX11_told_61
set_option maxHeartbeats 4000000 in
set_option maxRecDepth 100000 in
theorem w_X11_told_e {l : Launch} {Z : zzG} {base : Nat} {PL : Nat → Option (Nat × Int32)} {mm : zzS} {p : Program} {e : Env} {s : State} {m : MethodId} {args : Array Value} {below : List Frame} {meth : Method} {c : Code} (C : zzCx p m meth c s args cX11_told 3 wsX11_told RX11 (some .int) Z) (p0 : Int32)  (σ : zzS) : zzGO p l e rX11_told s m args below meth c 3 (zzA base) (zzX Z base PL mm) (zzX Z base PL mm) zzRI rX11_told.cells rX11_told.slots (f_X11_told p0 σ) σ 0 0 0 [(0, .ref (zzad Z 0)), (1, .int p0)] [] := by
  unfold f_X11_told
  refine zz_iload_n C dX11_told_0 rfl 1 rfl ?_
  refine zz_iconst (v := -1) C dX11_told_1 (by decide) ?_
  refine zz_icmp_eq (tgt := 18) C dX11_told_2 (by decide) (fun h1 => ?_) (fun h1 => ?_)
  · refine zz_sub (loc' := [(0, .ref (zzad Z 0)), (1, .int p0)]) [0, 1] rfl ?_
    exact w_X11_told_18 C p0 σ
  · refine zz_aload_n C dX11_told_5 rfl 0 rfl ?_
    refine zz_get C zzX_obj (fun _ h9 => List.mem_cons_of_mem _ (List.mem_append_left _ (List.mem_append_left _ (List.mem_append_right _ (h9))))) rfl 3 (by decide) (List.mem_of_getElem? (i := 1) rfl) (Or.inl rfl) rfl dX11_told_6 ?_
    refine zz_iload_n C dX11_told_9 rfl 1 rfl ?_
    refine zz_callV C (Cn := RX10) (b := zzad Z 20) (fun H hH => zz_recv C.2.2.2 ((zzX_town (Or.inl rfl)) H hH) rfl) (As := [.int p0]) (rest := []) rfl (k_X10_has 20 (Or.inl rfl) p0 σ) (cwV 1 C.1.2.2.2.2 gX11_told_X10_has rfl rfl rfl (by decide +kernel) ⟨Nat.le_of_ble_eq_true rfl, Nat.le_of_ble_eq_true rfl⟩) rfl (Nat.le_of_ble_eq_true rfl) ⟨Nat.zero_le _, Nat.zero_le _⟩ dX11_told_10 (zz_kI rfl rfl (fun r2 σ3 => ?_))
    refine zz_if_ne (tgt := 18) C dX11_told_13 (by decide) (fun h4 => ?_) (fun h4 => ?_)
    · refine zz_sub (loc' := [(0, .ref (zzad Z 0)), (1, .int p0)]) [0, 1] rfl ?_
      exact w_X11_told_18 C p0 σ3
    · refine zz_iconst (v := -1) C dX11_told_16 (by decide) ?_
      exact zz_iret C rfl rfl (fun _ h9 => h9) (Nat.zero_le _) (Nat.zero_le _) dX11_told_17
set_option maxHeartbeats 4000000 in
set_option maxRecDepth 100000 in
theorem k_X11_told {l : Launch} {Z : zzG} {base : Nat} {PL : Nat → Option (Nat × Int32)} {mm : zzS} (p0 : Int32)  (σ : zzS) : zzCT l yX11_told wsX11_told rX11_told (zzA base) Z (zzX Z base PL mm) (zzX Z base PL mm) zzRI [.ref (zzad Z 0), .int p0] (f_X11_told p0 σ) σ :=
  zzCT_of (cc := cX11_told) (nL := 3) (ret := (some .int)) (by decide) rfl (Nat.le_of_ble_eq_true rfl) [(0, .ref (zzad Z 0)), (1, .int p0)] rfl (fun p e s m args below meth c C => w_X11_told_e C p0 σ)
abbrev rX11_rings : Room := { frames := 6, cells := 0, slots := 0, locals := 135 }

set_option maxHeartbeats 4000000 in
set_option maxRecDepth 100000 in
theorem w_X11_rings_e {l : Launch} {Z : zzG} {base : Nat} {PL : Nat → Option (Nat × Int32)} {mm : zzS} {p : Program} {e : Env} {s : State} {m : MethodId} {args : Array Value} {below : List Frame} {meth : Method} {c : Code} (C : zzCx p m meth c s args cX11_rings 1 wsX11_rings RX11 (some .int) Z)  (σ : zzS) : zzGO p l e rX11_rings s m args below meth c 1 (zzA base) (zzX Z base PL mm) (zzX Z base PL mm) zzRI rX11_rings.cells rX11_rings.slots (f_X11_rings σ) σ 0 0 0 [(0, .ref (zzad Z 0))] [] := by
  unfold f_X11_rings
  refine zz_aload_n C dX11_rings_0 rfl 0 rfl ?_
  refine zz_get C zzX_obj (fun _ h9 => List.mem_cons_of_mem _ (List.mem_append_left _ (List.mem_append_left _ (List.mem_append_right _ (h9))))) rfl 6 (by decide) (List.mem_of_getElem? (i := 1) rfl) (Or.inl rfl) rfl dX11_rings_1 ?_
  refine zz_aload_n C dX11_rings_4 rfl 0 rfl ?_
  refine zz_get C zzX_obj (fun _ h9 => List.mem_cons_of_mem _ (List.mem_append_left _ (List.mem_append_left _ (List.mem_append_right _ (h9))))) rfl 3 (by decide) (List.mem_of_getElem? (i := 2) rfl) (Or.inl rfl) rfl dX11_rings_5 ?_
  refine zz_aload_n C dX11_rings_8 rfl 0 rfl ?_
  refine zz_get C zzX_obj (fun _ h9 => List.mem_cons_of_mem _ (List.mem_append_left _ (List.mem_append_left _ (List.mem_append_right _ (h9))))) rfl 3 (by decide) (List.mem_of_getElem? (i := 2) rfl) (Or.inl rfl) rfl dX11_rings_9 ?_
  refine zz_get C (zzX_town (Or.inl rfl)) (fun _ h9 => List.mem_cons_of_mem _ (List.mem_append_left _ (List.mem_append_right _ (h9)))) rfl 5 (by decide) (List.mem_of_getElem? (i := 3) rfl) (Or.inl rfl) rfl dX11_rings_12 ?_
  refine zz_callV C (Cn := RX2) (b := zzad Z 32) (fun H hH => zz_recv C.2.2.2 (zzX_circ H hH) rfl) (As := [.ref (zzad Z 20), .int (zzi σ 20 5)]) (rest := []) rfl (k_X2_gather 20 (Or.inl rfl) (zzi σ 20 5) σ) (cwV 2 C.1.2.2.2.2 gX11_rings_X2_gather rfl rfl rfl (by decide +kernel) ⟨Nat.le_of_ble_eq_true rfl, Nat.le_of_ble_eq_true rfl⟩) rfl (Nat.le_of_ble_eq_true rfl) ⟨Nat.zero_le _, Nat.zero_le _⟩ dX11_rings_15 (zz_kV rfl rfl (fun r1 σ2 => ?_))
  refine zz_aload_n C dX11_rings_18 rfl 0 rfl ?_
  refine zz_get C zzX_obj (fun _ h9 => List.mem_cons_of_mem _ (List.mem_append_left _ (List.mem_append_left _ (List.mem_append_right _ (h9))))) rfl 6 (by decide) (List.mem_of_getElem? (i := 1) rfl) (Or.inl rfl) rfl dX11_rings_19 ?_
  refine zz_callV C (Cn := RX2) (b := zzad Z 32) (fun H hH => zz_recv C.2.2.2 (zzX_circ H hH) rfl) (As := []) (rest := []) rfl (k_X2_waysForAll σ2) (cwV 0 C.1.2.2.2.2 gX11_rings_X2_waysForAll rfl rfl rfl (by decide +kernel) ⟨Nat.le_of_ble_eq_true rfl, Nat.le_of_ble_eq_true rfl⟩) rfl (Nat.le_of_ble_eq_true rfl) ⟨Nat.zero_le _, Nat.zero_le _⟩ dX11_rings_22 (zz_kI rfl rfl (fun r3 σ4 => ?_))
  exact zz_iret C rfl rfl (fun _ h9 => h9) (Nat.zero_le _) (Nat.zero_le _) dX11_rings_25
set_option maxHeartbeats 4000000 in
set_option maxRecDepth 100000 in
theorem k_X11_rings {l : Launch} {Z : zzG} {base : Nat} {PL : Nat → Option (Nat × Int32)} {mm : zzS}  (σ : zzS) : zzCT l yX11_rings wsX11_rings rX11_rings (zzA base) Z (zzX Z base PL mm) (zzX Z base PL mm) zzRI [.ref (zzad Z 0)] (f_X11_rings σ) σ :=
  zzCT_of (cc := cX11_rings) (nL := 1) (ret := (some .int)) (by decide) rfl (Nat.le_of_ble_eq_true rfl) [(0, .ref (zzad Z 0))] rfl (fun p e s m args below meth c C => w_X11_rings_e C σ)
abbrev rX11_nobody : Room := { frames := 5, cells := 0, slots := 0, locals := 112 }

set_option maxHeartbeats 4000000 in
set_option maxRecDepth 100000 in
theorem w_X11_nobody_39 {l : Launch} {Z : zzG} {base : Nat} {PL : Nat → Option (Nat × Int32)} {mm : zzS} {p : Program} {e : Env} {s : State} {m : MethodId} {args : Array Value} {below : List Frame} {meth : Method} {c : Code} (C : zzCx p m meth c s args cX11_nobody 3 wsX11_nobody RX11 (some .int) Z)  (k4 : Int32 → Int32 → zzS → Option (Int32 × zzS)) (hk4 : ∀ (l1 : Int32)  (l2 : Int32)  (σ : zzS), zzGO p l e rX11_nobody s m args below meth c 3 (zzA base) (zzX Z base PL mm) (zzX Z base PL mm) zzRI rX11_nobody.cells rX11_nobody.slots (k4 l1 l2 σ) σ 0 0 4 [(0, .ref (zzad Z 0)), (1, .int l1), (2, .int l2)] []) (l1 : Int32)  (l2 : Int32)  (σ : zzS) : zzGO p l e rX11_nobody s m args below meth c 3 (zzA base) (zzX Z base PL mm) (zzX Z base PL mm) zzRI rX11_nobody.cells rX11_nobody.slots (f_X11_nobody_39 k4 l1 l2 σ) σ 0 0 39 [(0, .ref (zzad Z 0)), (1, .int l1), (2, .int l2)] [] := by
  unfold f_X11_nobody_39
  refine zz_iincX (d := 1) (locf := fun x1 => [(2, .int x1), (0, .ref (zzad Z 0)), (1, .int l1)]) C dX11_nobody_39 (k := 2) rfl (by decide) (by decide) (fun _ => rfl) (fun x1 => ?_)
  refine zz_goto (tgt := 4) C dX11_nobody_42 (by decide) ?_
  refine zz_sub (loc' := [(0, .ref (zzad Z 0)), (1, .int l1), (2, .int x1)]) [1, 2, 0] rfl ?_
  exact hk4 l1 x1 σ
set_option maxHeartbeats 4000000 in
set_option maxRecDepth 100000 in
theorem w_X11_nobody_4b {l : Launch} {Z : zzG} {base : Nat} {PL : Nat → Option (Nat × Int32)} {mm : zzS} {p : Program} {e : Env} {s : State} {m : MethodId} {args : Array Value} {below : List Frame} {meth : Method} {c : Code} (C : zzCx p m meth c s args cX11_nobody 3 wsX11_nobody RX11 (some .int) Z)   (k4 : Int32 → Int32 → zzS → Option (Int32 × zzS)) (hk4 : ∀ (l1 : Int32)  (l2 : Int32)  (σ : zzS), zzGO p l e rX11_nobody s m args below meth c 3 (zzA base) (zzX Z base PL mm) (zzX Z base PL mm) zzRI rX11_nobody.cells rX11_nobody.slots (k4 l1 l2 σ) σ 0 0 4 [(0, .ref (zzad Z 0)), (1, .int l1), (2, .int l2)] []) (l1 : Int32)  (l2 : Int32)  (σ : zzS) : zzGO p l e rX11_nobody s m args below meth c 3 (zzA base) (zzX Z base PL mm) (zzX Z base PL mm) zzRI rX11_nobody.cells rX11_nobody.slots (f_X11_nobody_4b k4 l1 l2 σ) σ 0 0 4 [(0, .ref (zzad Z 0)), (1, .int l1), (2, .int l2)] [] := by
  unfold f_X11_nobody_4b
  refine zz_iload_n C dX11_nobody_4 rfl 2 rfl ?_
  refine zz_aload_n C dX11_nobody_5 rfl 0 rfl ?_
  refine zz_get C zzX_obj (fun _ h9 => List.mem_cons_of_mem _ (List.mem_append_left _ (List.mem_append_right _ (h9)))) rfl 3 (by decide) (List.mem_of_getElem? (i := 1) rfl) (Or.inl rfl) rfl dX11_nobody_6 ?_
  refine zz_get C (zzX_town (Or.inl rfl)) (fun _ h9 => List.mem_cons_of_mem _ (List.mem_append_right _ (h9))) rfl 4 (by decide) (List.mem_of_getElem? (i := 2) rfl) (Or.inl rfl) rfl dX11_nobody_9 ?_
  refine zz_icmp_ge (tgt := 45) C dX11_nobody_12 (by decide) (fun h1 => ?_) (fun h1 => ?_)
  · refine zz_iload_n C dX11_nobody_45 rfl 1 rfl ?_
    exact zz_iret C rfl rfl (fun _ h9 => h9) (Nat.zero_le _) (Nat.zero_le _) dX11_nobody_46
  · refine zz_aload_n C dX11_nobody_15 rfl 0 rfl ?_
    refine zz_get C zzX_obj (fun _ h9 => List.mem_cons_of_mem _ (List.mem_append_left _ (List.mem_append_right _ (h9)))) rfl 3 (by decide) (List.mem_of_getElem? (i := 1) rfl) (Or.inl rfl) rfl dX11_nobody_16 ?_
    refine zz_iload_n C dX11_nobody_19 rfl 2 rfl ?_
    refine zz_aload_n C dX11_nobody_20 rfl 0 rfl ?_
    refine zz_get C zzX_obj (fun _ h9 => List.mem_cons_of_mem _ (List.mem_append_left _ (List.mem_append_right _ (h9)))) rfl 3 (by decide) (List.mem_of_getElem? (i := 1) rfl) (Or.inl rfl) rfl dX11_nobody_21 ?_
    refine zz_get C (zzX_town (Or.inl rfl)) (fun _ h9 => List.mem_cons_of_mem _ (List.mem_append_right _ (h9))) rfl 5 (by decide) (List.mem_of_getElem? (i := 3) rfl) (Or.inl rfl) rfl dX11_nobody_24 ?_
    refine zz_callV C (Cn := RX10) (b := zzad Z 20) (fun H hH => zz_recv C.2.2.2 ((zzX_town (Or.inl rfl)) H hH) rfl) (As := [.int l2, .int (zzi σ 20 5)]) (rest := []) rfl (k_X10_fitFor 20 (Or.inl rfl) l2 (zzi σ 20 5) σ) (cwV 2 C.1.2.2.2.2 gX11_nobody_X10_fitFor rfl rfl rfl (by decide +kernel) ⟨Nat.le_of_ble_eq_true rfl, Nat.le_of_ble_eq_true rfl⟩) rfl (Nat.le_of_ble_eq_true rfl) ⟨Nat.zero_le _, Nat.zero_le _⟩ dX11_nobody_27 (zz_kI rfl rfl (fun r2 σ3 => ?_))
    refine zz_if_ne (tgt := 39) C dX11_nobody_30 (by decide) (fun h4 => ?_) (fun h4 => ?_)
    · refine zz_sub (loc' := [(0, .ref (zzad Z 0)), (1, .int l1), (2, .int l2)]) [0, 1, 2] rfl ?_
      exact w_X11_nobody_39 C k4 hk4 l1 l2 σ3
    · refine zz_iload_n C dX11_nobody_33 rfl 1 rfl ?_
      refine zz_iconst (v := 1) C dX11_nobody_34 (by decide) ?_
      refine zz_iload_n C dX11_nobody_35 rfl 2 rfl ?_
      refine zz_ishl C dX11_nobody_36 ?_
      refine zz_ior C dX11_nobody_37 ?_
      refine zz_istoreX_n (locf := fun x5 => [(1, .int x5), (0, .ref (zzad Z 0)), (2, .int l2)]) C dX11_nobody_38 rfl (by decide) (fun _ => rfl) (fun x5 => ?_)
      refine zz_sub (loc' := [(0, .ref (zzad Z 0)), (1, .int x5), (2, .int l2)]) [1, 0, 2] rfl ?_
      exact w_X11_nobody_39 C k4 hk4 x5 l2 σ3
set_option maxHeartbeats 4000000 in
set_option maxRecDepth 100000 in
theorem w_X11_nobody_4 {l : Launch} {Z : zzG} {base : Nat} {PL : Nat → Option (Nat × Int32)} {mm : zzS} {p : Program} {e : Env} {s : State} {m : MethodId} {args : Array Value} {below : List Frame} {meth : Method} {c : Code} (C : zzCx p m meth c s args cX11_nobody 3 wsX11_nobody RX11 (some .int) Z)   (n : Nat) : ∀ (l1 : Int32)  (l2 : Int32)  (σ : zzS), zzGO p l e rX11_nobody s m args below meth c 3 (zzA base) (zzX Z base PL mm) (zzX Z base PL mm) zzRI rX11_nobody.cells rX11_nobody.slots (f_X11_nobody_4 n l1 l2 σ) σ 0 0 4 [(0, .ref (zzad Z 0)), (1, .int l1), (2, .int l2)] [] := by
  induction n with
  | zero => exact fun _ _ _ r9 s9 h9 => by cases h9
  | succ n ih => exact w_X11_nobody_4b C _ ih
set_option maxHeartbeats 4000000 in
set_option maxRecDepth 100000 in
theorem w_X11_nobody_e {l : Launch} {Z : zzG} {base : Nat} {PL : Nat → Option (Nat × Int32)} {mm : zzS} {p : Program} {e : Env} {s : State} {m : MethodId} {args : Array Value} {below : List Frame} {meth : Method} {c : Code} (C : zzCx p m meth c s args cX11_nobody 3 wsX11_nobody RX11 (some .int) Z)  (σ : zzS) : zzGO p l e rX11_nobody s m args below meth c 3 (zzA base) (zzX Z base PL mm) (zzX Z base PL mm) zzRI rX11_nobody.cells rX11_nobody.slots (f_X11_nobody σ) σ 0 0 0 [(0, .ref (zzad Z 0))] [] := by
  unfold f_X11_nobody
  refine zz_iconst (v := 0) C dX11_nobody_0 (by decide) ?_
  refine zz_istore_n (loc' := [(1, .int (0 : Int32)), (0, .ref (zzad Z 0))]) C dX11_nobody_1 rfl (by decide) rfl ?_
  refine zz_iconst (v := 0) C dX11_nobody_2 (by decide) ?_
  refine zz_istore_n (loc' := [(2, .int (0 : Int32)), (1, .int (0 : Int32)), (0, .ref (zzad Z 0))]) C dX11_nobody_3 rfl (by decide) rfl ?_
  refine zz_sub (loc' := [(0, .ref (zzad Z 0)), (1, .int (0 : Int32)), (2, .int (0 : Int32))]) [2, 1, 0] rfl ?_
  exact w_X11_nobody_4 C 200 (0 : Int32) (0 : Int32) σ
set_option maxHeartbeats 4000000 in
set_option maxRecDepth 100000 in
theorem k_X11_nobody {l : Launch} {Z : zzG} {base : Nat} {PL : Nat → Option (Nat × Int32)} {mm : zzS}  (σ : zzS) : zzCT l yX11_nobody wsX11_nobody rX11_nobody (zzA base) Z (zzX Z base PL mm) (zzX Z base PL mm) zzRI [.ref (zzad Z 0)] (f_X11_nobody σ) σ :=
  zzCT_of (cc := cX11_nobody) (nL := 3) (ret := (some .int)) (by decide) rfl (Nat.le_of_ble_eq_true rfl) [(0, .ref (zzad Z 0))] rfl (fun p e s m args below meth c C => w_X11_nobody_e C σ)
abbrev rX11_isOneOfTwo : Room := { frames := 0, cells := 0, slots := 0, locals := 0 }

set_option maxHeartbeats 4000000 in
set_option maxRecDepth 100000 in
theorem w_X11_isOneOfTwo_9 {l : Launch} {Z : zzG} {base : Nat} {PL : Nat → Option (Nat × Int32)} {mm : zzS} {p : Program} {e : Env} {s : State} {m : MethodId} {args : Array Value} {below : List Frame} {meth : Method} {c : Code} (C : zzCx p m meth c s args cX11_isOneOfTwo 1 wsX11_isOneOfTwo RX11 (some .boolean) Z) (p0 : Int32)    (σ : zzS) : zzGO p l e rX11_isOneOfTwo s m args below meth c 1 (zzA base) (zzX Z base PL mm) (zzX Z base PL mm) zzRI rX11_isOneOfTwo.cells rX11_isOneOfTwo.slots (f_X11_isOneOfTwo_9 p0 σ) σ 0 0 9 [] [] := by
  unfold f_X11_isOneOfTwo_9
  refine zz_iconst (v := 1) C dX11_isOneOfTwo_9 (by decide) ?_
  refine zz_goto (tgt := 14) C dX11_isOneOfTwo_10 (by decide) ?_
  exact zz_zret C rfl (Or.inr rfl) rfl (fun _ h9 => h9) (Nat.zero_le _) (Nat.zero_le _) dX11_isOneOfTwo_14
set_option maxHeartbeats 4000000 in
set_option maxRecDepth 100000 in
theorem w_X11_isOneOfTwo_e {l : Launch} {Z : zzG} {base : Nat} {PL : Nat → Option (Nat × Int32)} {mm : zzS} {p : Program} {e : Env} {s : State} {m : MethodId} {args : Array Value} {below : List Frame} {meth : Method} {c : Code} (C : zzCx p m meth c s args cX11_isOneOfTwo 1 wsX11_isOneOfTwo RX11 (some .boolean) Z) (p0 : Int32)  (σ : zzS) : zzGO p l e rX11_isOneOfTwo s m args below meth c 1 (zzA base) (zzX Z base PL mm) (zzX Z base PL mm) zzRI rX11_isOneOfTwo.cells rX11_isOneOfTwo.slots (f_X11_isOneOfTwo p0 σ) σ 0 0 0 [(0, .int p0)] [] := by
  unfold f_X11_isOneOfTwo
  refine zz_iload_n C dX11_isOneOfTwo_0 rfl 0 rfl ?_
  refine zz_if_eq (tgt := 9) C dX11_isOneOfTwo_1 (by decide) (fun h1 => ?_) (fun h1 => ?_)
  · refine zz_sub (loc' := []) [] rfl ?_
    exact w_X11_isOneOfTwo_9 C p0 σ
  · refine zz_iload_n C dX11_isOneOfTwo_4 rfl 0 rfl ?_
    refine zz_iconst (v := 1) C dX11_isOneOfTwo_5 (by decide) ?_
    refine zz_icmp_ne (tgt := 13) C dX11_isOneOfTwo_6 (by decide) (fun h2 => ?_) (fun h2 => ?_)
    · refine zz_iconst (v := 0) C dX11_isOneOfTwo_13 (by decide) ?_
      exact zz_zret C rfl (Or.inl rfl) rfl (fun _ h9 => h9) (Nat.zero_le _) (Nat.zero_le _) dX11_isOneOfTwo_14
    · refine zz_sub (loc' := []) [] rfl ?_
      exact w_X11_isOneOfTwo_9 C p0 σ
set_option maxHeartbeats 4000000 in
set_option maxRecDepth 100000 in
theorem k_X11_isOneOfTwo {l : Launch} {Z : zzG} {base : Nat} {PL : Nat → Option (Nat × Int32)} {mm : zzS} (p0 : Int32)  (σ : zzS) : zzCT l yX11_isOneOfTwo wsX11_isOneOfTwo rX11_isOneOfTwo (zzA base) Z (zzX Z base PL mm) (zzX Z base PL mm) zzRI [.int p0] (f_X11_isOneOfTwo p0 σ) σ :=
  zzCT_of (cc := cX11_isOneOfTwo) (nL := 1) (ret := (some .boolean)) (by decide) rfl (Nat.le_of_ble_eq_true rfl) [(0, .int p0)] rfl (fun p e s m args below meth c C => w_X11_isOneOfTwo_e C p0 σ)
abbrev rX11_swaps : Room := { frames := 4, cells := 0, slots := 0, locals := 88 }

set_option maxHeartbeats 4000000 in
set_option maxRecDepth 100000 in
theorem w_X11_swaps_109 {l : Launch} {Z : zzG} {base : Nat} {PL : Nat → Option (Nat × Int32)} {mm : zzS} {p : Program} {e : Env} {s : State} {m : MethodId} {args : Array Value} {below : List Frame} {meth : Method} {c : Code} (C : zzCx p m meth c s args cX11_swaps 6 wsX11_swaps RX11 (some .int) Z) (p0 : Int32)  (k17 : Int32 → Int32 → Int32 → zzS → Option (Int32 × zzS)) (hk17 : ∀ (l2 : Int32)  (l3 : Int32)  (l4 : Int32)  (σ : zzS), zzGO p l e rX11_swaps s m args below meth c 6 (zzA base) (zzX Z base PL mm) (zzX Z base PL mm) zzRI rX11_swaps.cells rX11_swaps.slots (k17 l2 l3 l4 σ) σ 0 0 17 [(0, .ref (zzad Z 0)), (1, .int p0), (2, .int l2), (3, .int l3), (4, .int l4)] []) (k35 : Int32 → Int32 → Int32 → Int32 → zzS → Option (Int32 × zzS)) (hk35 : ∀ (l2 : Int32)  (l3 : Int32)  (l4 : Int32)  (l5 : Int32)  (σ : zzS), zzGO p l e rX11_swaps s m args below meth c 6 (zzA base) (zzX Z base PL mm) (zzX Z base PL mm) zzRI rX11_swaps.cells rX11_swaps.slots (k35 l2 l3 l4 l5 σ) σ 0 0 35 [(0, .ref (zzad Z 0)), (1, .int p0), (2, .int l2), (3, .int l3), (4, .int l4), (5, .int l5)] []) (l2 : Int32)  (l3 : Int32)  (l4 : Int32)  (l5 : Int32)  (σ : zzS) : zzGO p l e rX11_swaps s m args below meth c 6 (zzA base) (zzX Z base PL mm) (zzX Z base PL mm) zzRI rX11_swaps.cells rX11_swaps.slots (f_X11_swaps_109 k17 k35 p0 l2 l3 l4 l5 σ) σ 0 0 109 [(0, .ref (zzad Z 0)), (1, .int p0), (2, .int l2), (3, .int l3), (4, .int l4), (5, .int l5)] [] := by
  unfold f_X11_swaps_109
  refine zz_iincX (d := 1) (locf := fun x1 => [(5, .int x1), (0, .ref (zzad Z 0)), (1, .int p0), (2, .int l2), (3, .int l3), (4, .int l4)]) C dX11_swaps_109 (k := 5) rfl (by decide) (by decide) (fun _ => rfl) (fun x1 => ?_)
  refine zz_goto (tgt := 35) C dX11_swaps_112 (by decide) ?_
  refine zz_sub (loc' := [(0, .ref (zzad Z 0)), (1, .int p0), (2, .int l2), (3, .int l3), (4, .int l4), (5, .int x1)]) [1, 2, 3, 4, 5, 0] rfl ?_
  exact hk35 l2 l3 l4 x1 σ
set_option maxHeartbeats 4000000 in
set_option maxRecDepth 100000 in
theorem w_X11_swaps_105 {l : Launch} {Z : zzG} {base : Nat} {PL : Nat → Option (Nat × Int32)} {mm : zzS} {p : Program} {e : Env} {s : State} {m : MethodId} {args : Array Value} {below : List Frame} {meth : Method} {c : Code} (C : zzCx p m meth c s args cX11_swaps 6 wsX11_swaps RX11 (some .int) Z) (p0 : Int32)  (k17 : Int32 → Int32 → Int32 → zzS → Option (Int32 × zzS)) (hk17 : ∀ (l2 : Int32)  (l3 : Int32)  (l4 : Int32)  (σ : zzS), zzGO p l e rX11_swaps s m args below meth c 6 (zzA base) (zzX Z base PL mm) (zzX Z base PL mm) zzRI rX11_swaps.cells rX11_swaps.slots (k17 l2 l3 l4 σ) σ 0 0 17 [(0, .ref (zzad Z 0)), (1, .int p0), (2, .int l2), (3, .int l3), (4, .int l4)] []) (k35 : Int32 → Int32 → Int32 → Int32 → zzS → Option (Int32 × zzS)) (hk35 : ∀ (l2 : Int32)  (l3 : Int32)  (l4 : Int32)  (l5 : Int32)  (σ : zzS), zzGO p l e rX11_swaps s m args below meth c 6 (zzA base) (zzX Z base PL mm) (zzX Z base PL mm) zzRI rX11_swaps.cells rX11_swaps.slots (k35 l2 l3 l4 l5 σ) σ 0 0 35 [(0, .ref (zzad Z 0)), (1, .int p0), (2, .int l2), (3, .int l3), (4, .int l4), (5, .int l5)] []) (l2 : Int32)  (l4 : Int32)  (l5 : Int32)  (s0 : Int32)  (σ : zzS) : zzGO p l e rX11_swaps s m args below meth c 6 (zzA base) (zzX Z base PL mm) (zzX Z base PL mm) zzRI rX11_swaps.cells rX11_swaps.slots (f_X11_swaps_105 k17 k35 p0 l2 l4 l5 s0 σ) σ 0 0 105 [(0, .ref (zzad Z 0)), (1, .int p0), (2, .int l2), (4, .int l4), (5, .int l5)] [.int s0] := by
  unfold f_X11_swaps_105
  refine zz_istore_n (loc' := [(3, .int s0), (0, .ref (zzad Z 0)), (1, .int p0), (2, .int l2), (4, .int l4), (5, .int l5)]) C dX11_swaps_105 rfl (by decide) rfl ?_
  refine zz_iincX (d := 1) (locf := fun x1 => [(2, .int x1), (3, .int s0), (0, .ref (zzad Z 0)), (1, .int p0), (4, .int l4), (5, .int l5)]) C dX11_swaps_106 (k := 3) rfl (by decide) (by decide) (fun _ => rfl) (fun x1 => ?_)
  refine zz_sub (loc' := [(0, .ref (zzad Z 0)), (1, .int p0), (2, .int x1), (3, .int s0), (4, .int l4), (5, .int l5)]) [2, 3, 0, 1, 4, 5] rfl ?_
  exact w_X11_swaps_109 C p0 k17 hk17 k35 hk35 x1 s0 l4 l5 σ
set_option maxHeartbeats 4000000 in
set_option maxRecDepth 100000 in
theorem w_X11_swaps_35b {l : Launch} {Z : zzG} {base : Nat} {PL : Nat → Option (Nat × Int32)} {mm : zzS} {p : Program} {e : Env} {s : State} {m : MethodId} {args : Array Value} {below : List Frame} {meth : Method} {c : Code} (C : zzCx p m meth c s args cX11_swaps 6 wsX11_swaps RX11 (some .int) Z) (p0 : Int32)  (k17 : Int32 → Int32 → Int32 → zzS → Option (Int32 × zzS)) (hk17 : ∀ (l2 : Int32)  (l3 : Int32)  (l4 : Int32)  (σ : zzS), zzGO p l e rX11_swaps s m args below meth c 6 (zzA base) (zzX Z base PL mm) (zzX Z base PL mm) zzRI rX11_swaps.cells rX11_swaps.slots (k17 l2 l3 l4 σ) σ 0 0 17 [(0, .ref (zzad Z 0)), (1, .int p0), (2, .int l2), (3, .int l3), (4, .int l4)] []) (k35 : Int32 → Int32 → Int32 → Int32 → zzS → Option (Int32 × zzS)) (hk35 : ∀ (l2 : Int32)  (l3 : Int32)  (l4 : Int32)  (l5 : Int32)  (σ : zzS), zzGO p l e rX11_swaps s m args below meth c 6 (zzA base) (zzX Z base PL mm) (zzX Z base PL mm) zzRI rX11_swaps.cells rX11_swaps.slots (k35 l2 l3 l4 l5 σ) σ 0 0 35 [(0, .ref (zzad Z 0)), (1, .int p0), (2, .int l2), (3, .int l3), (4, .int l4), (5, .int l5)] []) (l2 : Int32)  (l3 : Int32)  (l4 : Int32)  (l5 : Int32)  (σ : zzS) : zzGO p l e rX11_swaps s m args below meth c 6 (zzA base) (zzX Z base PL mm) (zzX Z base PL mm) zzRI rX11_swaps.cells rX11_swaps.slots (f_X11_swaps_35b k17 k35 p0 l2 l3 l4 l5 σ) σ 0 0 35 [(0, .ref (zzad Z 0)), (1, .int p0), (2, .int l2), (3, .int l3), (4, .int l4), (5, .int l5)] [] := by
  unfold f_X11_swaps_35b
  refine zz_iload C dX11_swaps_35 5 rfl ?_
  refine zz_aload_n C dX11_swaps_37 rfl 0 rfl ?_
  refine zz_get C zzX_obj (fun _ h9 => List.mem_cons_of_mem _ (List.mem_append_left _ (List.mem_append_right _ (h9)))) rfl 3 (by decide) (List.mem_of_getElem? (i := 1) rfl) (Or.inl rfl) rfl dX11_swaps_38 ?_
  refine zz_get C (zzX_town (Or.inl rfl)) (fun _ h9 => List.mem_cons_of_mem _ (List.mem_append_right _ (h9))) rfl 4 (by decide) (List.mem_of_getElem? (i := 2) rfl) (Or.inl rfl) rfl dX11_swaps_41 ?_
  refine zz_icmp_ge (tgt := 115) C dX11_swaps_44 (by decide) (fun h1 => ?_) (fun h1 => ?_)
  · refine zz_iincX (d := 1) (locf := fun x2 => [(4, .int x2), (0, .ref (zzad Z 0)), (1, .int p0), (2, .int l2), (3, .int l3), (5, .int l5)]) C dX11_swaps_115 (k := 4) rfl (by decide) (by decide) (fun _ => rfl) (fun x2 => ?_)
    refine zz_goto (tgt := 17) C dX11_swaps_118 (by decide) ?_
    refine zz_sub (loc' := [(0, .ref (zzad Z 0)), (1, .int p0), (2, .int l2), (3, .int l3), (4, .int x2)]) [1, 2, 3, 4, 0] rfl ?_
    exact hk17 l2 l3 x2 σ
  · refine zz_aload_n C dX11_swaps_47 rfl 0 rfl ?_
    refine zz_get C zzX_obj (fun _ h9 => List.mem_cons_of_mem _ (List.mem_append_left _ (List.mem_append_right _ (h9)))) rfl 3 (by decide) (List.mem_of_getElem? (i := 1) rfl) (Or.inl rfl) rfl dX11_swaps_48 ?_
    refine zz_iload C dX11_swaps_51 4 rfl ?_
    refine zz_iload C dX11_swaps_53 5 rfl ?_
    refine zz_aload_n C dX11_swaps_55 rfl 0 rfl ?_
    refine zz_get C zzX_obj (fun _ h9 => List.mem_cons_of_mem _ (List.mem_append_left _ (List.mem_append_right _ (h9)))) rfl 3 (by decide) (List.mem_of_getElem? (i := 1) rfl) (Or.inl rfl) rfl dX11_swaps_56 ?_
    refine zz_get C (zzX_town (Or.inl rfl)) (fun _ h9 => List.mem_cons_of_mem _ (List.mem_append_right _ (h9))) rfl 5 (by decide) (List.mem_of_getElem? (i := 3) rfl) (Or.inl rfl) rfl dX11_swaps_59 ?_
    refine zz_callV C (Cn := RX10) (b := zzad Z 20) (fun H hH => zz_recv C.2.2.2 ((zzX_town (Or.inl rfl)) H hH) rfl) (As := [.int l4, .int l5, .int (zzi σ 20 5)]) (rest := []) rfl (k_X10_may 20 (Or.inl rfl) l4 l5 (zzi σ 20 5) σ) (cwV 3 C.1.2.2.2.2 gX11_swaps_X10_may rfl rfl rfl (by decide +kernel) ⟨Nat.le_of_ble_eq_true rfl, Nat.le_of_ble_eq_true rfl⟩) rfl (Nat.le_of_ble_eq_true rfl) ⟨Nat.zero_le _, Nat.zero_le _⟩ dX11_swaps_62 (zz_kI rfl rfl (fun r3 σ4 => ?_))
    refine zz_if_eq (tgt := 109) C dX11_swaps_65 (by decide) (fun h5 => ?_) (fun h5 => ?_)
    · refine zz_sub (loc' := [(0, .ref (zzad Z 0)), (1, .int p0), (2, .int l2), (3, .int l3), (4, .int l4), (5, .int l5)]) [0, 1, 2, 3, 4, 5] rfl ?_
      exact w_X11_swaps_109 C p0 k17 hk17 k35 hk35 l2 l3 l4 l5 σ4
    · refine zz_aload_n C dX11_swaps_68 rfl 0 rfl ?_
      refine zz_get C zzX_obj (fun _ h9 => List.mem_cons_of_mem _ (List.mem_append_left _ (List.mem_append_right _ (h9)))) rfl 3 (by decide) (List.mem_of_getElem? (i := 1) rfl) (Or.inl rfl) rfl dX11_swaps_69 ?_
      refine zz_iload C dX11_swaps_72 5 rfl ?_
      refine zz_iload C dX11_swaps_74 4 rfl ?_
      refine zz_aload_n C dX11_swaps_76 rfl 0 rfl ?_
      refine zz_get C zzX_obj (fun _ h9 => List.mem_cons_of_mem _ (List.mem_append_left _ (List.mem_append_right _ (h9)))) rfl 3 (by decide) (List.mem_of_getElem? (i := 1) rfl) (Or.inl rfl) rfl dX11_swaps_77 ?_
      refine zz_get C (zzX_town (Or.inl rfl)) (fun _ h9 => List.mem_cons_of_mem _ (List.mem_append_right _ (h9))) rfl 5 (by decide) (List.mem_of_getElem? (i := 3) rfl) (Or.inl rfl) rfl dX11_swaps_80 ?_
      refine zz_callV C (Cn := RX10) (b := zzad Z 20) (fun H hH => zz_recv C.2.2.2 ((zzX_town (Or.inl rfl)) H hH) rfl) (As := [.int l5, .int l4, .int (zzi σ4 20 5)]) (rest := []) rfl (k_X10_may 20 (Or.inl rfl) l5 l4 (zzi σ4 20 5) σ4) (cwV 3 C.1.2.2.2.2 gX11_swaps_X10_may rfl rfl rfl (by decide +kernel) ⟨Nat.le_of_ble_eq_true rfl, Nat.le_of_ble_eq_true rfl⟩) rfl (Nat.le_of_ble_eq_true rfl) ⟨Nat.zero_le _, Nat.zero_le _⟩ dX11_swaps_83 (zz_kI rfl rfl (fun r6 σ7 => ?_))
      refine zz_if_eq (tgt := 109) C dX11_swaps_86 (by decide) (fun h8 => ?_) (fun h8 => ?_)
      · refine zz_sub (loc' := [(0, .ref (zzad Z 0)), (1, .int p0), (2, .int l2), (3, .int l3), (4, .int l4), (5, .int l5)]) [0, 1, 2, 3, 4, 5] rfl ?_
        exact w_X11_swaps_109 C p0 k17 hk17 k35 hk35 l2 l3 l4 l5 σ7
      · refine zz_iload_n C dX11_swaps_89 rfl 2 rfl ?_
        refine zz_if_ne (tgt := 104) C dX11_swaps_90 (by decide) (fun h9 => ?_) (fun h9 => ?_)
        · refine zz_iload_n C dX11_swaps_104 rfl 3 rfl ?_
          refine zz_sub (loc' := [(0, .ref (zzad Z 0)), (1, .int p0), (2, .int l2), (4, .int l4), (5, .int l5)]) [0, 1, 2, 4, 5] rfl ?_
          exact w_X11_swaps_105 C p0 k17 hk17 k35 hk35 l2 l4 l5 l3 σ7
        · refine zz_bipush (v := 10) C dX11_swaps_93 (by decide) ?_
          refine zz_iload C dX11_swaps_95 4 rfl ?_
          refine zz_imul C dX11_swaps_97 ?_
          refine zz_iload C dX11_swaps_98 5 rfl ?_
          refine zz_iadd C dX11_swaps_100 ?_
          refine zz_goto (tgt := 105) C dX11_swaps_101 (by decide) ?_
          refine zz_sub (loc' := [(0, .ref (zzad Z 0)), (1, .int p0), (2, .int l2), (4, .int l4), (5, .int l5)]) [0, 1, 2, 4, 5] rfl ?_
          exact w_X11_swaps_105 C p0 k17 hk17 k35 hk35 l2 l4 l5 (((10 : Int32) * l4) + l5) σ7
set_option maxHeartbeats 4000000 in
set_option maxRecDepth 100000 in
theorem w_X11_swaps_35 {l : Launch} {Z : zzG} {base : Nat} {PL : Nat → Option (Nat × Int32)} {mm : zzS} {p : Program} {e : Env} {s : State} {m : MethodId} {args : Array Value} {below : List Frame} {meth : Method} {c : Code} (C : zzCx p m meth c s args cX11_swaps 6 wsX11_swaps RX11 (some .int) Z) (p0 : Int32)  (k17 : Int32 → Int32 → Int32 → zzS → Option (Int32 × zzS)) (hk17 : ∀ (l2 : Int32)  (l3 : Int32)  (l4 : Int32)  (σ : zzS), zzGO p l e rX11_swaps s m args below meth c 6 (zzA base) (zzX Z base PL mm) (zzX Z base PL mm) zzRI rX11_swaps.cells rX11_swaps.slots (k17 l2 l3 l4 σ) σ 0 0 17 [(0, .ref (zzad Z 0)), (1, .int p0), (2, .int l2), (3, .int l3), (4, .int l4)] []) (n : Nat) : ∀ (l2 : Int32)  (l3 : Int32)  (l4 : Int32)  (l5 : Int32)  (σ : zzS), zzGO p l e rX11_swaps s m args below meth c 6 (zzA base) (zzX Z base PL mm) (zzX Z base PL mm) zzRI rX11_swaps.cells rX11_swaps.slots (f_X11_swaps_35 k17 p0 n l2 l3 l4 l5 σ) σ 0 0 35 [(0, .ref (zzad Z 0)), (1, .int p0), (2, .int l2), (3, .int l3), (4, .int l4), (5, .int l5)] [] := by
  induction n with
  | zero => exact fun _ _ _ _ _ r9 s9 h9 => by cases h9
  | succ n ih => exact w_X11_swaps_35b C p0 k17 hk17 _ ih
set_option maxHeartbeats 4000000 in
set_option maxRecDepth 100000 in
theorem w_X11_swaps_17b {l : Launch} {Z : zzG} {base : Nat} {PL : Nat → Option (Nat × Int32)} {mm : zzS} {p : Program} {e : Env} {s : State} {m : MethodId} {args : Array Value} {below : List Frame} {meth : Method} {c : Code} (C : zzCx p m meth c s args cX11_swaps 6 wsX11_swaps RX11 (some .int) Z) (p0 : Int32)   (k17 : Int32 → Int32 → Int32 → zzS → Option (Int32 × zzS)) (hk17 : ∀ (l2 : Int32)  (l3 : Int32)  (l4 : Int32)  (σ : zzS), zzGO p l e rX11_swaps s m args below meth c 6 (zzA base) (zzX Z base PL mm) (zzX Z base PL mm) zzRI rX11_swaps.cells rX11_swaps.slots (k17 l2 l3 l4 σ) σ 0 0 17 [(0, .ref (zzad Z 0)), (1, .int p0), (2, .int l2), (3, .int l3), (4, .int l4)] []) (l2 : Int32)  (l3 : Int32)  (l4 : Int32)  (σ : zzS) : zzGO p l e rX11_swaps s m args below meth c 6 (zzA base) (zzX Z base PL mm) (zzX Z base PL mm) zzRI rX11_swaps.cells rX11_swaps.slots (f_X11_swaps_17b k17 p0 l2 l3 l4 σ) σ 0 0 17 [(0, .ref (zzad Z 0)), (1, .int p0), (2, .int l2), (3, .int l3), (4, .int l4)] [] := by
  unfold f_X11_swaps_17b
  refine zz_iload C dX11_swaps_17 4 rfl ?_
  refine zz_aload_n C dX11_swaps_19 rfl 0 rfl ?_
  refine zz_get C zzX_obj (fun _ h9 => List.mem_cons_of_mem _ (List.mem_append_left _ (List.mem_append_right _ (h9)))) rfl 3 (by decide) (List.mem_of_getElem? (i := 1) rfl) (Or.inl rfl) rfl dX11_swaps_20 ?_
  refine zz_get C (zzX_town (Or.inl rfl)) (fun _ h9 => List.mem_cons_of_mem _ (List.mem_append_right _ (h9))) rfl 4 (by decide) (List.mem_of_getElem? (i := 2) rfl) (Or.inl rfl) rfl dX11_swaps_23 ?_
  refine zz_icmp_ge (tgt := 121) C dX11_swaps_26 (by decide) (fun h1 => ?_) (fun h1 => ?_)
  · refine zz_iload_n C dX11_swaps_121 rfl 1 rfl ?_
    refine zz_if_ne (tgt := 129) C dX11_swaps_122 (by decide) (fun h2 => ?_) (fun h2 => ?_)
    · refine zz_iload_n C dX11_swaps_129 rfl 3 rfl ?_
      exact zz_iret C rfl rfl (fun _ h9 => h9) (Nat.zero_le _) (Nat.zero_le _) dX11_swaps_130
    · refine zz_iload_n C dX11_swaps_125 rfl 2 rfl ?_
      refine zz_goto (tgt := 130) C dX11_swaps_126 (by decide) ?_
      exact zz_iret C rfl rfl (fun _ h9 => h9) (Nat.zero_le _) (Nat.zero_le _) dX11_swaps_130
  · refine zz_iload C dX11_swaps_29 4 rfl ?_
    refine zz_iconst (v := 1) C dX11_swaps_31 (by decide) ?_
    refine zz_iadd C dX11_swaps_32 ?_
    refine zz_istoreX (locf := fun x3 => [(5, .int x3), (0, .ref (zzad Z 0)), (1, .int p0), (2, .int l2), (3, .int l3), (4, .int l4)]) C dX11_swaps_33 (by decide) (fun _ => rfl) (fun x3 => ?_)
    refine zz_sub (loc' := [(0, .ref (zzad Z 0)), (1, .int p0), (2, .int l2), (3, .int l3), (4, .int l4), (5, .int x3)]) [1, 2, 3, 4, 5, 0] rfl ?_
    exact w_X11_swaps_35 C p0 k17 hk17 200 l2 l3 l4 x3 σ
set_option maxHeartbeats 4000000 in
set_option maxRecDepth 100000 in
theorem w_X11_swaps_17 {l : Launch} {Z : zzG} {base : Nat} {PL : Nat → Option (Nat × Int32)} {mm : zzS} {p : Program} {e : Env} {s : State} {m : MethodId} {args : Array Value} {below : List Frame} {meth : Method} {c : Code} (C : zzCx p m meth c s args cX11_swaps 6 wsX11_swaps RX11 (some .int) Z) (p0 : Int32)   (n : Nat) : ∀ (l2 : Int32)  (l3 : Int32)  (l4 : Int32)  (σ : zzS), zzGO p l e rX11_swaps s m args below meth c 6 (zzA base) (zzX Z base PL mm) (zzX Z base PL mm) zzRI rX11_swaps.cells rX11_swaps.slots (f_X11_swaps_17 p0 n l2 l3 l4 σ) σ 0 0 17 [(0, .ref (zzad Z 0)), (1, .int p0), (2, .int l2), (3, .int l3), (4, .int l4)] [] := by
  induction n with
  | zero => exact fun _ _ _ _ r9 s9 h9 => by cases h9
  | succ n ih => exact w_X11_swaps_17b C p0 _ ih
set_option maxHeartbeats 4000000 in
set_option maxRecDepth 100000 in
theorem w_X11_swaps_e {l : Launch} {Z : zzG} {base : Nat} {PL : Nat → Option (Nat × Int32)} {mm : zzS} {p : Program} {e : Env} {s : State} {m : MethodId} {args : Array Value} {below : List Frame} {meth : Method} {c : Code} (C : zzCx p m meth c s args cX11_swaps 6 wsX11_swaps RX11 (some .int) Z) (p0 : Int32)  (σ : zzS) : zzGO p l e rX11_swaps s m args below meth c 6 (zzA base) (zzX Z base PL mm) (zzX Z base PL mm) zzRI rX11_swaps.cells rX11_swaps.slots (f_X11_swaps p0 σ) σ 0 0 0 [(0, .ref (zzad Z 0)), (1, .int p0)] [] := by
  unfold f_X11_swaps
  refine zz_iload_n C dX11_swaps_0 rfl 1 rfl ?_
  refine zz_callS (As := [.int p0]) (rest := []) C rfl (k_X11_isOneOfTwo p0 σ) (va_cwS 1 C.1.2.2.2.2 gX11_swaps_X11_isOneOfTwo rfl rfl rfl (by decide +kernel) ⟨Nat.le_of_ble_eq_true rfl, Nat.le_of_ble_eq_true rfl⟩) rfl (Nat.le_of_ble_eq_true rfl) ⟨Nat.zero_le _, Nat.zero_le _⟩ dX11_swaps_1 (zz_kI rfl rfl (fun r1 σ2 => ?_))
  refine zz_if_ne (tgt := 9) C dX11_swaps_4 (by decide) (fun h3 => ?_) (fun h3 => ?_)
  · refine zz_iconst (v := 0) C dX11_swaps_9 (by decide) ?_
    refine zz_istore_n (loc' := [(2, .int (0 : Int32)), (0, .ref (zzad Z 0)), (1, .int p0)]) C dX11_swaps_10 rfl (by decide) rfl ?_
    refine zz_bipush (v := -4) C dX11_swaps_11 (by decide) ?_
    refine zz_istore_n (loc' := [(3, .int (-4 : Int32)), (2, .int (0 : Int32)), (0, .ref (zzad Z 0)), (1, .int p0)]) C dX11_swaps_13 rfl (by decide) rfl ?_
    refine zz_iconst (v := 0) C dX11_swaps_14 (by decide) ?_
    refine zz_istore (loc' := [(4, .int (0 : Int32)), (3, .int (-4 : Int32)), (2, .int (0 : Int32)), (0, .ref (zzad Z 0)), (1, .int p0)]) C dX11_swaps_15 (by decide) rfl ?_
    refine zz_sub (loc' := [(0, .ref (zzad Z 0)), (1, .int p0), (2, .int (0 : Int32)), (3, .int (-4 : Int32)), (4, .int (0 : Int32))]) [3, 4, 2, 1, 0] rfl ?_
    exact w_X11_swaps_17 C p0 200 (0 : Int32) (-4 : Int32) (0 : Int32) σ2
  · refine zz_iconst (v := -1) C dX11_swaps_7 (by decide) ?_
    exact zz_iret C rfl rfl (fun _ h9 => h9) (Nat.zero_le _) (Nat.zero_le _) dX11_swaps_8
set_option maxHeartbeats 4000000 in
set_option maxRecDepth 100000 in
theorem k_X11_swaps {l : Launch} {Z : zzG} {base : Nat} {PL : Nat → Option (Nat × Int32)} {mm : zzS} (p0 : Int32)  (σ : zzS) : zzCT l yX11_swaps wsX11_swaps rX11_swaps (zzA base) Z (zzX Z base PL mm) (zzX Z base PL mm) zzRI [.ref (zzad Z 0), .int p0] (f_X11_swaps p0 σ) σ :=
  zzCT_of (cc := cX11_swaps) (nL := 6) (ret := (some .int)) (by decide) rfl (Nat.le_of_ble_eq_true rfl) [(0, .ref (zzad Z 0)), (1, .int p0)] rfl (fun p e s m args below meth c C => w_X11_swaps_e C p0 σ)
abbrev rX11_lasts : Room := { frames := 4, cells := 0, slots := 0, locals := 91 }

set_option maxHeartbeats 4000000 in
set_option maxRecDepth 100000 in
theorem w_X11_lasts_e {l : Launch} {Z : zzG} {base : Nat} {PL : Nat → Option (Nat × Int32)} {mm : zzS} {p : Program} {e : Env} {s : State} {m : MethodId} {args : Array Value} {below : List Frame} {meth : Method} {c : Code} (C : zzCx p m meth c s args cX11_lasts 3 wsX11_lasts RX11 (some .int) Z) (p0 : Int32)  (p1 : Int32)  (σ : zzS) : zzGO p l e rX11_lasts s m args below meth c 3 (zzA base) (zzX Z base PL mm) (zzX Z base PL mm) zzRI rX11_lasts.cells rX11_lasts.slots (f_X11_lasts p0 p1 σ) σ 0 0 0 [(0, .ref (zzad Z 0)), (1, .int p0), (2, .int p1)] [] := by
  unfold f_X11_lasts
  refine zz_aload_n C dX11_lasts_0 rfl 0 rfl ?_
  refine zz_get C zzX_obj (fun _ h9 => List.mem_cons_of_mem _ (List.mem_append_left _ (List.mem_append_left _ (List.mem_append_left _ (List.mem_append_left _ (List.mem_append_left _ (List.mem_append_left _ (List.mem_append_left _ (List.mem_append_left _ (List.mem_append_left _ (List.mem_append_right _ (h9)))))))))))) rfl 3 (by decide) (List.mem_of_getElem? (i := 1) rfl) (Or.inl rfl) rfl dX11_lasts_1 ?_
  refine zz_iload_n C dX11_lasts_4 rfl 1 rfl ?_
  refine zz_iload_n C dX11_lasts_5 rfl 2 rfl ?_
  refine zz_callV C (Cn := RX10) (b := zzad Z 20) (fun H hH => zz_recv C.2.2.2 ((zzX_town (Or.inl rfl)) H hH) rfl) (As := [.int p0, .int p1]) (rest := []) rfl (k_X10_areTwo 20 (Or.inl rfl) p0 p1 σ) (cwV 2 C.1.2.2.2.2 gX11_lasts_X10_areTwo rfl rfl rfl (by decide +kernel) ⟨Nat.le_of_ble_eq_true rfl, Nat.le_of_ble_eq_true rfl⟩) rfl (Nat.le_of_ble_eq_true rfl) ⟨Nat.zero_le _, Nat.zero_le _⟩ dX11_lasts_6 (zz_kI rfl rfl (fun r1 σ2 => ?_))
  refine zz_if_eq (tgt := 24) C dX11_lasts_9 (by decide) (fun h3 => ?_) (fun h3 => ?_)
  · refine zz_iconst (v := -1) C dX11_lasts_24 (by decide) ?_
    exact zz_iret C rfl rfl (fun _ h9 => h9) (Nat.zero_le _) (Nat.zero_le _) dX11_lasts_25
  · refine zz_aload_n C dX11_lasts_12 rfl 0 rfl ?_
    refine zz_get C zzX_obj (fun _ h9 => List.mem_cons_of_mem _ (List.mem_append_left _ (List.mem_append_left _ (List.mem_append_left _ (List.mem_append_left _ (List.mem_append_left _ (List.mem_append_left _ (List.mem_append_left _ (List.mem_append_left _ (List.mem_append_left _ (List.mem_append_right _ (h9)))))))))))) rfl 3 (by decide) (List.mem_of_getElem? (i := 1) rfl) (Or.inl rfl) rfl dX11_lasts_13 ?_
    refine zz_iload_n C dX11_lasts_16 rfl 1 rfl ?_
    refine zz_iload_n C dX11_lasts_17 rfl 2 rfl ?_
    refine zz_callV C (Cn := RX10) (b := zzad Z 20) (fun H hH => zz_recv C.2.2.2 ((zzX_town (Or.inl rfl)) H hH) rfl) (As := [.int p0, .int p1]) (rest := []) rfl (k_X10_turningsTillUnfit 20 (Or.inl rfl) p0 p1 σ2) (cwV 2 C.1.2.2.2.2 gX11_lasts_X10_turningsTillUnfit rfl rfl rfl (by decide +kernel) ⟨Nat.le_of_ble_eq_true rfl, Nat.le_of_ble_eq_true rfl⟩) rfl (Nat.le_of_ble_eq_true rfl) ⟨Nat.zero_le _, Nat.zero_le _⟩ dX11_lasts_18 (zz_kI rfl rfl (fun r4 σ5 => ?_))
    refine zz_goto (tgt := 25) C dX11_lasts_21 (by decide) ?_
    exact zz_iret C rfl rfl (fun _ h9 => h9) (Nat.zero_le _) (Nat.zero_le _) dX11_lasts_25
set_option maxHeartbeats 4000000 in
set_option maxRecDepth 100000 in
theorem k_X11_lasts {l : Launch} {Z : zzG} {base : Nat} {PL : Nat → Option (Nat × Int32)} {mm : zzS} (p0 : Int32)  (p1 : Int32)  (σ : zzS) : zzCT l yX11_lasts wsX11_lasts rX11_lasts (zzA base) Z (zzX Z base PL mm) (zzX Z base PL mm) zzRI [.ref (zzad Z 0), .int p0, .int p1] (f_X11_lasts p0 p1 σ) σ :=
  zzCT_of (cc := cX11_lasts) (nL := 3) (ret := (some .int)) (by decide) rfl (Nat.le_of_ble_eq_true rfl) [(0, .ref (zzad Z 0)), (1, .int p0), (2, .int p1)] rfl (fun p e s m args below meth c C => w_X11_lasts_e C p0 p1 σ)
abbrev rX11_fewestTurnings : Room := { frames := 4, cells := 0, slots := 0, locals := 91 }
set_option maxHeartbeats 4000000 in
set_option maxRecDepth 100000 in
theorem vr_X11_fewestTurnings_53 {l : Launch} {Z : zzG} {base : Nat} {PL : Nat → Option (Nat × Int32)} {mm : zzS} {p : Program} {e : Env} {s : State} {m : MethodId} {args : Array Value} {below : List Frame} {meth : Method} {c : Code} {cells slots : Nat} {σ : zzS} {loc : List (Nat × Value)} {rest : List Value} (C : zzCx p m meth c s args cX11_fewestTurnings 8 wsX11_fewestTurnings RX11 (some .int) Z) {q : Nat} {kf : Nat × Int32} (hq : PL q = some kf) (hroom : (rest.map fun v => v.category).sum ≤ 8) (hcs : cells + 0 ≤ (rX11_fewestTurnings).cells ∧ slots + 0 ≤ (rX11_fewestTurnings).slots := by exact ⟨Nat.zero_le _, Nat.zero_le _⟩) :
    ∀ r1 σ2, some (zzturns kf, σ) = some (r1, σ2) → ∀ (H : Heap) (locs : List Loc) (ls : Array Slot), zzX Z base PL mm σ H → lv_has ls 8 loc → va_Run p l e rX11_fewestTurnings s m args below meth c H locs cells slots 0 0 (F0 m 53 ls (.ref q :: rest)) rest (zzQ zzRI (zzX Z base PL mm) (zzA base) r1 σ2 #[.ref q]) (zzA base) := by
  intro r1 σ2 hr H locs ls hW hl
  have h8 := zz_kind8 (hW.1.2.2.1 q kf hq).1
  obtain ⟨k9, f9⟩ := kf
  rcases h8 with h8 | h8 | h8 | h8 | h8 | h8 | h8 | h8
  · have h8 : k9 = 0 := h8
    subst h8
    have ct := k_X6_turns (l := l) (Z := Z) (base := base) (PL := PL) (mm := mm) (0, f9) q hq σ r1 σ2 hr
    exact va_runV (As := []) (C := RX6) C.1 ct (cwV 0 C.1.2.2.2.2 gX11_fewestTurnings_X6_turns rfl rfl rfl (by decide +kernel) ⟨Nat.le_of_ble_eq_true rfl, Nat.le_of_ble_eq_true rfl⟩) ⟨zzPc_blind, zz_recv C.2.2.2 (zzX_pers1 hq H hW) rfl, fun U hU hWm => zzPc_at C.2.2.2 hU hWm hW⟩ rfl rfl hl.1 rfl (lv_room hroom) dX11_fewestTurnings_53 hcs
  · have h8 : k9 = 1 := h8
    subst h8
    have ct := k_X6_turns (l := l) (Z := Z) (base := base) (PL := PL) (mm := mm) (1, f9) q hq σ r1 σ2 hr
    exact va_runU (As := []) (C := RX9) C.1 ct (va_cwU 0 C.1.2.2.2.2 gX11_fewestTurnings_X6_turns_u110X9 rfl rfl rfl (by decide +kernel) (by decide +kernel) ⟨Nat.le_of_ble_eq_true rfl, Nat.le_of_ble_eq_true rfl⟩) ⟨zzPc_blind, zz_recv C.2.2.2 (zzX_pers1 hq H hW) rfl, fun U hU hWm => zzPc_at C.2.2.2 hU hWm hW⟩ rfl rfl hl.1 rfl (lv_room hroom) dX11_fewestTurnings_53 hcs
  · have h8 : k9 = 2 := h8
    subst h8
    have ct := k_X0_turns (l := l) (Z := Z) (base := base) (PL := PL) (mm := mm) (2, f9) q hq (Or.inl rfl) σ r1 σ2 hr
    exact va_runU (As := []) (C := RX0) C.1 ct (va_cwO 0 C.1.2.2.2.2 gX11_fewestTurnings_X0_turns_u110X0 rfl rfl rfl (List.mem_of_getElem? (i := 41) rfl) (by decide +kernel) ⟨Nat.le_of_ble_eq_true rfl, Nat.le_of_ble_eq_true rfl⟩) ⟨zzPc_blind, zz_recv C.2.2.2 (zzX_pers1 hq H hW) rfl, fun U hU hWm => zzPc_at C.2.2.2 hU hWm hW⟩ rfl rfl hl.1 rfl (lv_room hroom) dX11_fewestTurnings_53 hcs
  · have h8 : k9 = 3 := h8
    subst h8
    have ct := k_X1_turns (l := l) (Z := Z) (base := base) (PL := PL) (mm := mm) (3, f9) q hq rfl σ r1 σ2 hr
    exact va_runU (As := []) (C := RX1) C.1 ct (va_cwO 0 C.1.2.2.2.2 gX11_fewestTurnings_X1_turns_u110X1 rfl rfl rfl (List.mem_of_getElem? (i := 41) rfl) (by decide +kernel) ⟨Nat.le_of_ble_eq_true rfl, Nat.le_of_ble_eq_true rfl⟩) ⟨zzPc_blind, zz_recv C.2.2.2 (zzX_pers1 hq H hW) rfl, fun U hU hWm => zzPc_at C.2.2.2 hU hWm hW⟩ rfl rfl hl.1 rfl (lv_room hroom) dX11_fewestTurnings_53 hcs
  · have h8 : k9 = 4 := h8
    subst h8
    have ct := k_X6_turns (l := l) (Z := Z) (base := base) (PL := PL) (mm := mm) (4, f9) q hq σ r1 σ2 hr
    exact va_runU (As := []) (C := RX4) C.1 ct (va_cwU 0 C.1.2.2.2.2 gX11_fewestTurnings_X6_turns_u110X4 rfl rfl rfl (by decide +kernel) (by decide +kernel) ⟨Nat.le_of_ble_eq_true rfl, Nat.le_of_ble_eq_true rfl⟩) ⟨zzPc_blind, zz_recv C.2.2.2 (zzX_pers1 hq H hW) rfl, fun U hU hWm => zzPc_at C.2.2.2 hU hWm hW⟩ rfl rfl hl.1 rfl (lv_room hroom) dX11_fewestTurnings_53 hcs
  · have h8 : k9 = 5 := h8
    subst h8
    have ct := k_X5_turns (l := l) (Z := Z) (base := base) (PL := PL) (mm := mm) (5, f9) q hq rfl σ r1 σ2 hr
    exact va_runU (As := []) (C := RX5) C.1 ct (va_cwO 0 C.1.2.2.2.2 gX11_fewestTurnings_X5_turns_u110X5 rfl rfl rfl (List.mem_of_getElem? (i := 41) rfl) (by decide +kernel) ⟨Nat.le_of_ble_eq_true rfl, Nat.le_of_ble_eq_true rfl⟩) ⟨zzPc_blind, zz_recv C.2.2.2 (zzX_pers1 hq H hW) rfl, fun U hU hWm => zzPc_at C.2.2.2 hU hWm hW⟩ rfl rfl hl.1 rfl (lv_room hroom) dX11_fewestTurnings_53 hcs
  · have h8 : k9 = 6 := h8
    subst h8
    have ct := k_X3_turns (l := l) (Z := Z) (base := base) (PL := PL) (mm := mm) (6, f9) q hq rfl σ r1 σ2 hr
    exact va_runU (As := []) (C := RX3) C.1 ct (va_cwO 0 C.1.2.2.2.2 gX11_fewestTurnings_X3_turns_u110X3 rfl rfl rfl (List.mem_of_getElem? (i := 41) rfl) (by decide +kernel) ⟨Nat.le_of_ble_eq_true rfl, Nat.le_of_ble_eq_true rfl⟩) ⟨zzPc_blind, zz_recv C.2.2.2 (zzX_pers1 hq H hW) rfl, fun U hU hWm => zzPc_at C.2.2.2 hU hWm hW⟩ rfl rfl hl.1 rfl (lv_room hroom) dX11_fewestTurnings_53 hcs
  · have h8 : k9 = 7 := h8
    subst h8
    have ct := k_X8_turns (l := l) (Z := Z) (base := base) (PL := PL) (mm := mm) (7, f9) q hq rfl σ r1 σ2 hr
    exact va_runU (As := []) (C := RX8) C.1 ct (va_cwO 0 C.1.2.2.2.2 gX11_fewestTurnings_X8_turns_u110X8 rfl rfl rfl (List.mem_of_getElem? (i := 41) rfl) (by decide +kernel) ⟨Nat.le_of_ble_eq_true rfl, Nat.le_of_ble_eq_true rfl⟩) ⟨zzPc_blind, zz_recv C.2.2.2 (zzX_pers1 hq H hW) rfl, fun U hU hWm => zzPc_at C.2.2.2 hU hWm hW⟩ rfl rfl hl.1 rfl (lv_room hroom) dX11_fewestTurnings_53 hcs

set_option maxHeartbeats 4000000 in
set_option maxRecDepth 100000 in
theorem w_X11_fewestTurnings_106 {l : Launch} {Z : zzG} {base : Nat} {PL : Nat → Option (Nat × Int32)} {mm : zzS} {p : Program} {e : Env} {s : State} {m : MethodId} {args : Array Value} {below : List Frame} {meth : Method} {c : Code} (C : zzCx p m meth c s args cX11_fewestTurnings 8 wsX11_fewestTurnings RX11 (some .int) Z) (p0 : Int32)  (k18 : Int32 → Int32 → Int32 → zzS → Option (Int32 × zzS)) (hk18 : ∀ (l2 : Int32)  (l3 : Int32)  (l4 : Int32)  (σ : zzS), zzGO p l e rX11_fewestTurnings s m args below meth c 8 (zzA base) (zzX Z base PL mm) (zzX Z base PL mm) zzRI rX11_fewestTurnings.cells rX11_fewestTurnings.slots (k18 l2 l3 l4 σ) σ 0 0 18 [(0, .ref (zzad Z 0)), (1, .int p0), (2, .int l2), (3, .int l3), (4, .int l4)] []) (k26 : Int32 → Int32 → Int32 → Int32 → zzS → Option (Int32 × zzS)) (hk26 : ∀ (l2 : Int32)  (l3 : Int32)  (l4 : Int32)  (l5 : Int32)  (σ : zzS), zzGO p l e rX11_fewestTurnings s m args below meth c 8 (zzA base) (zzX Z base PL mm) (zzX Z base PL mm) zzRI rX11_fewestTurnings.cells rX11_fewestTurnings.slots (k26 l2 l3 l4 l5 σ) σ 0 0 26 [(0, .ref (zzad Z 0)), (1, .int p0), (2, .int l2), (3, .int l3), (4, .int l4), (5, .int l5)] []) (l2 : Int32)  (l3 : Int32)  (l4 : Int32)  (l5 : Int32)  (σ : zzS) : zzGO p l e rX11_fewestTurnings s m args below meth c 8 (zzA base) (zzX Z base PL mm) (zzX Z base PL mm) zzRI rX11_fewestTurnings.cells rX11_fewestTurnings.slots (f_X11_fewestTurnings_106 k18 k26 p0 l2 l3 l4 l5 σ) σ 0 0 106 [(0, .ref (zzad Z 0)), (1, .int p0), (2, .int l2), (3, .int l3), (4, .int l4), (5, .int l5)] [] := by
  unfold f_X11_fewestTurnings_106
  refine zz_iincX (d := 1) (locf := fun x1 => [(5, .int x1), (0, .ref (zzad Z 0)), (1, .int p0), (2, .int l2), (3, .int l3), (4, .int l4)]) C dX11_fewestTurnings_106 (k := 5) rfl (by decide) (by decide) (fun _ => rfl) (fun x1 => ?_)
  refine zz_goto (tgt := 26) C dX11_fewestTurnings_109 (by decide) ?_
  refine zz_sub (loc' := [(0, .ref (zzad Z 0)), (1, .int p0), (2, .int l2), (3, .int l3), (4, .int l4), (5, .int x1)]) [1, 2, 3, 4, 5, 0] rfl ?_
  exact hk26 l2 l3 l4 x1 σ
set_option maxHeartbeats 4000000 in
set_option maxRecDepth 100000 in
theorem w_X11_fewestTurnings_26b {l : Launch} {Z : zzG} {base : Nat} {PL : Nat → Option (Nat × Int32)} {mm : zzS} {p : Program} {e : Env} {s : State} {m : MethodId} {args : Array Value} {below : List Frame} {meth : Method} {c : Code} (C : zzCx p m meth c s args cX11_fewestTurnings 8 wsX11_fewestTurnings RX11 (some .int) Z) (p0 : Int32)  (k18 : Int32 → Int32 → Int32 → zzS → Option (Int32 × zzS)) (hk18 : ∀ (l2 : Int32)  (l3 : Int32)  (l4 : Int32)  (σ : zzS), zzGO p l e rX11_fewestTurnings s m args below meth c 8 (zzA base) (zzX Z base PL mm) (zzX Z base PL mm) zzRI rX11_fewestTurnings.cells rX11_fewestTurnings.slots (k18 l2 l3 l4 σ) σ 0 0 18 [(0, .ref (zzad Z 0)), (1, .int p0), (2, .int l2), (3, .int l3), (4, .int l4)] []) (k26 : Int32 → Int32 → Int32 → Int32 → zzS → Option (Int32 × zzS)) (hk26 : ∀ (l2 : Int32)  (l3 : Int32)  (l4 : Int32)  (l5 : Int32)  (σ : zzS), zzGO p l e rX11_fewestTurnings s m args below meth c 8 (zzA base) (zzX Z base PL mm) (zzX Z base PL mm) zzRI rX11_fewestTurnings.cells rX11_fewestTurnings.slots (k26 l2 l3 l4 l5 σ) σ 0 0 26 [(0, .ref (zzad Z 0)), (1, .int p0), (2, .int l2), (3, .int l3), (4, .int l4), (5, .int l5)] []) (l2 : Int32)  (l3 : Int32)  (l4 : Int32)  (l5 : Int32)  (σ : zzS) : zzGO p l e rX11_fewestTurnings s m args below meth c 8 (zzA base) (zzX Z base PL mm) (zzX Z base PL mm) zzRI rX11_fewestTurnings.cells rX11_fewestTurnings.slots (f_X11_fewestTurnings_26b k18 k26 p0 l2 l3 l4 l5 σ) σ 0 0 26 [(0, .ref (zzad Z 0)), (1, .int p0), (2, .int l2), (3, .int l3), (4, .int l4), (5, .int l5)] [] := by
  unfold f_X11_fewestTurnings_26b
  refine zz_iload C dX11_fewestTurnings_26 5 rfl ?_
  refine zz_aload_n C dX11_fewestTurnings_28 rfl 0 rfl ?_
  refine zz_get C zzX_obj (fun _ h9 => List.mem_cons_of_mem _ (List.mem_append_left _ (List.mem_append_left _ (List.mem_append_left _ (List.mem_append_left _ (List.mem_append_left _ (List.mem_append_left _ (List.mem_append_left _ (List.mem_append_left _ (List.mem_append_left _ (List.mem_append_right _ (h9)))))))))))) rfl 3 (by decide) (List.mem_of_getElem? (i := 1) rfl) (Or.inl rfl) rfl dX11_fewestTurnings_29 ?_
  refine zz_get C (zzX_town (Or.inl rfl)) (fun _ h9 => List.mem_cons_of_mem _ (List.mem_append_left _ (List.mem_append_left _ (List.mem_append_left _ (List.mem_append_left _ (List.mem_append_left _ (List.mem_append_left _ (List.mem_append_left _ (List.mem_append_left _ (List.mem_append_right _ (h9))))))))))) rfl 4 (by decide) (List.mem_of_getElem? (i := 2) rfl) (Or.inl rfl) rfl dX11_fewestTurnings_32 ?_
  refine zz_icmp_ge (tgt := 112) C dX11_fewestTurnings_35 (by decide) (fun h1 => ?_) (fun h1 => ?_)
  · refine zz_iincX (d := -1) (locf := fun x2 => [(4, .int x2), (0, .ref (zzad Z 0)), (1, .int p0), (2, .int l2), (3, .int l3), (5, .int l5)]) C dX11_fewestTurnings_112 (k := 4) rfl (by decide) (by decide) (fun _ => rfl) (fun x2 => ?_)
    refine zz_goto (tgt := 18) C dX11_fewestTurnings_115 (by decide) ?_
    refine zz_sub (loc' := [(0, .ref (zzad Z 0)), (1, .int p0), (2, .int l2), (3, .int l3), (4, .int x2)]) [1, 2, 3, 4, 0] rfl ?_
    exact hk18 l2 l3 x2 σ
  · refine zz_iload C dX11_fewestTurnings_38 5 rfl ?_
    refine zz_iload_n C dX11_fewestTurnings_40 rfl 1 rfl ?_
    refine zz_icmp_eq (tgt := 106) C dX11_fewestTurnings_41 (by decide) (fun h3 => ?_) (fun h3 => ?_)
    · refine zz_sub (loc' := [(0, .ref (zzad Z 0)), (1, .int p0), (2, .int l2), (3, .int l3), (4, .int l4), (5, .int l5)]) [0, 1, 2, 3, 4, 5] rfl ?_
      exact w_X11_fewestTurnings_106 C p0 k18 hk18 k26 hk26 l2 l3 l4 l5 σ
    · refine zz_aload_n C dX11_fewestTurnings_44 rfl 0 rfl ?_
      refine zz_get C zzX_obj (fun _ h9 => List.mem_cons_of_mem _ (List.mem_append_left _ (List.mem_append_left _ (List.mem_append_left _ (List.mem_append_left _ (List.mem_append_left _ (List.mem_append_left _ (List.mem_append_left _ (List.mem_append_left _ (List.mem_append_left _ (List.mem_append_right _ (h9)))))))))))) rfl 3 (by decide) (List.mem_of_getElem? (i := 1) rfl) (Or.inl rfl) rfl dX11_fewestTurnings_45 ?_
      refine zz_iload C dX11_fewestTurnings_48 5 rfl ?_
      refine zz_callV C (Cn := RX10) (b := zzad Z 20) (fun H hH => zz_recv C.2.2.2 ((zzX_town (Or.inl rfl)) H hH) rfl) (As := [.int l5]) (rest := []) rfl (k_X10_at 20 (Or.inl rfl) l5 σ) (cwV 1 C.1.2.2.2.2 gX11_fewestTurnings_X10_at rfl rfl rfl (by decide +kernel) ⟨Nat.le_of_ble_eq_true rfl, Nat.le_of_ble_eq_true rfl⟩) rfl (Nat.le_of_ble_eq_true rfl) ⟨Nat.zero_le _, Nat.zero_le _⟩ dX11_fewestTurnings_50 (zz_kP rfl rfl (fun r4 σ5 c6 hp7 => ?_))
      refine zz_nnP hp7 (fun kf8 q9 h10 h11 hq12 => ?_)
      subst h11
      refine zz_call (av := #[.ref q9]) (rest := []) (mcc := 0) (msc := 0) (relc := zzRI) (vr_X11_fewestTurnings_53 C hq12 (Nat.le_of_ble_eq_true rfl)) (zz_kI rfl rfl (fun r13 σ14 => ?_))
      refine zz_iload C dX11_fewestTurnings_56 4 rfl ?_
      refine zz_icmp_ne (tgt := 106) C dX11_fewestTurnings_58 (by decide) (fun h15 => ?_) (fun h15 => ?_)
      · refine zz_sub (loc' := [(0, .ref (zzad Z 0)), (1, .int p0), (2, .int l2), (3, .int l3), (4, .int l4), (5, .int l5)]) [0, 1, 2, 3, 4, 5] rfl ?_
        exact w_X11_fewestTurnings_106 C p0 k18 hk18 k26 hk26 l2 l3 l4 l5 σ14
      · refine zz_iload_n C dX11_fewestTurnings_61 rfl 2 rfl ?_
        refine zz_iload C dX11_fewestTurnings_62 4 rfl ?_
        refine zz_iadd C dX11_fewestTurnings_64 ?_
        refine zz_iconst (v := 1) C dX11_fewestTurnings_65 (by decide) ?_
        refine zz_isub C dX11_fewestTurnings_66 ?_
        refine zz_iload C dX11_fewestTurnings_67 4 rfl ?_
        refine zz_gd (fun h16 => ?_)
        refine zz_idiv C dX11_fewestTurnings_69 h16 ?_
        refine zz_istoreX (locf := fun x17 => [(6, .int x17), (0, .ref (zzad Z 0)), (1, .int p0), (2, .int l2), (3, .int l3), (4, .int l4), (5, .int l5)]) C dX11_fewestTurnings_70 (by decide) (fun _ => rfl) (fun x17 => ?_)
        refine zz_iload C dX11_fewestTurnings_72 0 rfl ?_
        refine zz_aload_n C dX11_fewestTurnings_74 rfl 1 rfl ?_
        refine zz_get C zzX_obj (fun _ h9 => List.mem_cons_of_mem _ (List.mem_append_left _ (List.mem_append_left _ (List.mem_append_left _ (List.mem_append_left _ (List.mem_append_left _ (List.mem_append_left _ (List.mem_append_left _ (List.mem_append_left _ (List.mem_append_left _ (List.mem_append_right _ (h9)))))))))))) rfl 3 (by decide) (List.mem_of_getElem? (i := 1) rfl) (Or.inl rfl) rfl dX11_fewestTurnings_75 ?_
        refine zz_iload C dX11_fewestTurnings_78 6 rfl ?_
        refine zz_iload_n C dX11_fewestTurnings_80 rfl 2 rfl ?_
        refine zz_callV C (Cn := RX10) (b := zzad Z 20) (fun H hH => zz_recv C.2.2.2 ((zzX_town (Or.inl rfl)) H hH) rfl) (As := [.int l5, .int p0]) (rest := [.int x17]) rfl (k_X10_turningsTillUnfit 20 (Or.inl rfl) l5 p0 σ14) (cwV 2 C.1.2.2.2.2 gX11_fewestTurnings_X10_turningsTillUnfit rfl rfl rfl (by decide +kernel) ⟨Nat.le_of_ble_eq_true rfl, Nat.le_of_ble_eq_true rfl⟩) rfl (Nat.le_of_ble_eq_true rfl) ⟨Nat.zero_le _, Nat.zero_le _⟩ dX11_fewestTurnings_81 (zz_kI rfl rfl (fun r18 σ19 => ?_))
        refine zz_mmin C (C.1.2.2.2.2 _ (List.mem_of_getElem? (i := 3) rfl)) (C.1.2.2.2.2 _ (List.mem_of_getElem? (i := 4) rfl)) (C.1.2.2.2.2 _ (List.mem_of_getElem? (i := 5) rfl)) (C.1.2.2.2.2 _ (List.mem_of_getElem? (i := 6) rfl)) (Nat.le_of_ble_eq_true rfl) (Nat.le_of_ble_eq_true rfl) (Nat.zero_le _) (Nat.zero_le _) dX11_fewestTurnings_84 ?_
        refine zz_istoreX (locf := fun x20 => [(7, .int x20), (6, .int x17), (0, .ref (zzad Z 0)), (1, .int p0), (2, .int l2), (3, .int l3), (4, .int l4), (5, .int l5)]) C dX11_fewestTurnings_87 (by decide) (fun _ => rfl) (fun x20 => ?_)
        refine zz_iconst (v := 0) C dX11_fewestTurnings_89 (by decide) ?_
        refine zz_iload_n C dX11_fewestTurnings_90 rfl 4 rfl ?_
        refine zz_iload C dX11_fewestTurnings_91 0 rfl ?_
        refine zz_iload C dX11_fewestTurnings_93 6 rfl ?_
        refine zz_imul C dX11_fewestTurnings_95 ?_
        refine zz_isub C dX11_fewestTurnings_96 ?_
        refine zz_mmax C (C.1.2.2.2.2 _ (List.mem_of_getElem? (i := 7) rfl)) (C.1.2.2.2.2 _ (List.mem_of_getElem? (i := 8) rfl)) (C.1.2.2.2.2 _ (List.mem_of_getElem? (i := 5) rfl)) (C.1.2.2.2.2 _ (List.mem_of_getElem? (i := 9) rfl)) (Nat.le_of_ble_eq_true rfl) (Nat.le_of_ble_eq_true rfl) (Nat.zero_le _) (Nat.zero_le _) dX11_fewestTurnings_97 ?_
        refine zz_istoreX_n (locf := fun x21 => [(2, .int x21), (7, .int x20), (6, .int x17), (0, .ref (zzad Z 0)), (1, .int p0), (3, .int l3), (4, .int l4), (5, .int l5)]) C dX11_fewestTurnings_100 rfl (by decide) (fun _ => rfl) (fun x21 => ?_)
        refine zz_iload_n C dX11_fewestTurnings_101 rfl 5 rfl ?_
        refine zz_iload C dX11_fewestTurnings_102 1 rfl ?_
        refine zz_iadd C dX11_fewestTurnings_104 ?_
        refine zz_istoreX_n (locf := fun x22 => [(3, .int x22), (2, .int x21), (7, .int x20), (6, .int x17), (0, .ref (zzad Z 0)), (1, .int p0), (4, .int l4), (5, .int l5)]) C dX11_fewestTurnings_105 rfl (by decide) (fun _ => rfl) (fun x22 => ?_)
        refine zz_sub (loc' := [(0, .ref (zzad Z 0)), (1, .int p0), (2, .int x21), (3, .int x22), (4, .int l4), (5, .int l5)]) [4, 5, 1, 0, 6, 7] rfl ?_
        exact w_X11_fewestTurnings_106 C p0 k18 hk18 k26 hk26 x21 x22 l4 l5 σ19
set_option maxHeartbeats 4000000 in
set_option maxRecDepth 100000 in
theorem w_X11_fewestTurnings_26 {l : Launch} {Z : zzG} {base : Nat} {PL : Nat → Option (Nat × Int32)} {mm : zzS} {p : Program} {e : Env} {s : State} {m : MethodId} {args : Array Value} {below : List Frame} {meth : Method} {c : Code} (C : zzCx p m meth c s args cX11_fewestTurnings 8 wsX11_fewestTurnings RX11 (some .int) Z) (p0 : Int32)  (k18 : Int32 → Int32 → Int32 → zzS → Option (Int32 × zzS)) (hk18 : ∀ (l2 : Int32)  (l3 : Int32)  (l4 : Int32)  (σ : zzS), zzGO p l e rX11_fewestTurnings s m args below meth c 8 (zzA base) (zzX Z base PL mm) (zzX Z base PL mm) zzRI rX11_fewestTurnings.cells rX11_fewestTurnings.slots (k18 l2 l3 l4 σ) σ 0 0 18 [(0, .ref (zzad Z 0)), (1, .int p0), (2, .int l2), (3, .int l3), (4, .int l4)] []) (n : Nat) : ∀ (l2 : Int32)  (l3 : Int32)  (l4 : Int32)  (l5 : Int32)  (σ : zzS), zzGO p l e rX11_fewestTurnings s m args below meth c 8 (zzA base) (zzX Z base PL mm) (zzX Z base PL mm) zzRI rX11_fewestTurnings.cells rX11_fewestTurnings.slots (f_X11_fewestTurnings_26 k18 p0 n l2 l3 l4 l5 σ) σ 0 0 26 [(0, .ref (zzad Z 0)), (1, .int p0), (2, .int l2), (3, .int l3), (4, .int l4), (5, .int l5)] [] := by
  induction n with
  | zero => exact fun _ _ _ _ _ r9 s9 h9 => by cases h9
  | succ n ih => exact w_X11_fewestTurnings_26b C p0 k18 hk18 _ ih
set_option maxHeartbeats 4000000 in
set_option maxRecDepth 100000 in
theorem w_X11_fewestTurnings_18b {l : Launch} {Z : zzG} {base : Nat} {PL : Nat → Option (Nat × Int32)} {mm : zzS} {p : Program} {e : Env} {s : State} {m : MethodId} {args : Array Value} {below : List Frame} {meth : Method} {c : Code} (C : zzCx p m meth c s args cX11_fewestTurnings 8 wsX11_fewestTurnings RX11 (some .int) Z) (p0 : Int32)   (k18 : Int32 → Int32 → Int32 → zzS → Option (Int32 × zzS)) (hk18 : ∀ (l2 : Int32)  (l3 : Int32)  (l4 : Int32)  (σ : zzS), zzGO p l e rX11_fewestTurnings s m args below meth c 8 (zzA base) (zzX Z base PL mm) (zzX Z base PL mm) zzRI rX11_fewestTurnings.cells rX11_fewestTurnings.slots (k18 l2 l3 l4 σ) σ 0 0 18 [(0, .ref (zzad Z 0)), (1, .int p0), (2, .int l2), (3, .int l3), (4, .int l4)] []) (l2 : Int32)  (l3 : Int32)  (l4 : Int32)  (σ : zzS) : zzGO p l e rX11_fewestTurnings s m args below meth c 8 (zzA base) (zzX Z base PL mm) (zzX Z base PL mm) zzRI rX11_fewestTurnings.cells rX11_fewestTurnings.slots (f_X11_fewestTurnings_18b k18 p0 l2 l3 l4 σ) σ 0 0 18 [(0, .ref (zzad Z 0)), (1, .int p0), (2, .int l2), (3, .int l3), (4, .int l4)] [] := by
  unfold f_X11_fewestTurnings_18b
  refine zz_iload C dX11_fewestTurnings_18 4 rfl ?_
  refine zz_if_le (tgt := 118) C dX11_fewestTurnings_20 (by decide) (fun h1 => ?_) (fun h1 => ?_)
  · refine zz_iload_n C dX11_fewestTurnings_118 rfl 2 rfl ?_
    refine zz_if_le (tgt := 127) C dX11_fewestTurnings_119 (by decide) (fun h2 => ?_) (fun h2 => ?_)
    · refine zz_iload_n C dX11_fewestTurnings_127 rfl 3 rfl ?_
      exact zz_iret C rfl rfl (fun _ h9 => h9) (Nat.zero_le _) (Nat.zero_le _) dX11_fewestTurnings_128
    · refine zz_bipush (v := -4) C dX11_fewestTurnings_122 (by decide) ?_
      refine zz_goto (tgt := 128) C dX11_fewestTurnings_124 (by decide) ?_
      exact zz_iret C rfl rfl (fun _ h9 => h9) (Nat.zero_le _) (Nat.zero_le _) dX11_fewestTurnings_128
  · refine zz_iconst (v := 0) C dX11_fewestTurnings_23 (by decide) ?_
    refine zz_istore (loc' := [(5, .int (0 : Int32)), (0, .ref (zzad Z 0)), (1, .int p0), (2, .int l2), (3, .int l3), (4, .int l4)]) C dX11_fewestTurnings_24 (by decide) rfl ?_
    refine zz_sub (loc' := [(0, .ref (zzad Z 0)), (1, .int p0), (2, .int l2), (3, .int l3), (4, .int l4), (5, .int (0 : Int32))]) [1, 2, 3, 4, 5, 0] rfl ?_
    exact w_X11_fewestTurnings_26 C p0 k18 hk18 200 l2 l3 l4 (0 : Int32) σ
set_option maxHeartbeats 4000000 in
set_option maxRecDepth 100000 in
theorem w_X11_fewestTurnings_18 {l : Launch} {Z : zzG} {base : Nat} {PL : Nat → Option (Nat × Int32)} {mm : zzS} {p : Program} {e : Env} {s : State} {m : MethodId} {args : Array Value} {below : List Frame} {meth : Method} {c : Code} (C : zzCx p m meth c s args cX11_fewestTurnings 8 wsX11_fewestTurnings RX11 (some .int) Z) (p0 : Int32)   (n : Nat) : ∀ (l2 : Int32)  (l3 : Int32)  (l4 : Int32)  (σ : zzS), zzGO p l e rX11_fewestTurnings s m args below meth c 8 (zzA base) (zzX Z base PL mm) (zzX Z base PL mm) zzRI rX11_fewestTurnings.cells rX11_fewestTurnings.slots (f_X11_fewestTurnings_18 p0 n l2 l3 l4 σ) σ 0 0 18 [(0, .ref (zzad Z 0)), (1, .int p0), (2, .int l2), (3, .int l3), (4, .int l4)] [] := by
  induction n with
  | zero => exact fun _ _ _ _ r9 s9 h9 => by cases h9
  | succ n ih => exact w_X11_fewestTurnings_18b C p0 _ ih
set_option maxHeartbeats 4000000 in
set_option maxRecDepth 100000 in
theorem w_X11_fewestTurnings_e {l : Launch} {Z : zzG} {base : Nat} {PL : Nat → Option (Nat × Int32)} {mm : zzS} {p : Program} {e : Env} {s : State} {m : MethodId} {args : Array Value} {below : List Frame} {meth : Method} {c : Code} (C : zzCx p m meth c s args cX11_fewestTurnings 8 wsX11_fewestTurnings RX11 (some .int) Z) (p0 : Int32)  (σ : zzS) : zzGO p l e rX11_fewestTurnings s m args below meth c 8 (zzA base) (zzX Z base PL mm) (zzX Z base PL mm) zzRI rX11_fewestTurnings.cells rX11_fewestTurnings.slots (f_X11_fewestTurnings p0 σ) σ 0 0 0 [(0, .ref (zzad Z 0)), (1, .int p0)] [] := by
  unfold f_X11_fewestTurnings
  refine zz_bipush (v := 9) C dX11_fewestTurnings_0 (by decide) ?_
  refine zz_aload_n C dX11_fewestTurnings_2 rfl 0 rfl ?_
  refine zz_get C zzX_obj (fun _ h9 => List.mem_cons_of_mem _ (List.mem_append_left _ (List.mem_append_left _ (List.mem_append_left _ (List.mem_append_left _ (List.mem_append_left _ (List.mem_append_left _ (List.mem_append_left _ (List.mem_append_left _ (List.mem_append_left _ (List.mem_append_right _ (h9)))))))))))) rfl 3 (by decide) (List.mem_of_getElem? (i := 1) rfl) (Or.inl rfl) rfl dX11_fewestTurnings_3 ?_
  refine zz_iload_n C dX11_fewestTurnings_6 rfl 1 rfl ?_
  refine zz_callV C (Cn := RX10) (b := zzad Z 20) (fun H hH => zz_recv C.2.2.2 ((zzX_town (Or.inl rfl)) H hH) rfl) (As := [.int p0]) (rest := [.int (9 : Int32)]) rfl (k_X10_turnedOf 20 (Or.inl rfl) p0 σ) (cwV 1 C.1.2.2.2.2 gX11_fewestTurnings_X10_turnedOf rfl rfl rfl (by decide +kernel) ⟨Nat.le_of_ble_eq_true rfl, Nat.le_of_ble_eq_true rfl⟩) rfl (Nat.le_of_ble_eq_true rfl) ⟨Nat.zero_le _, Nat.zero_le _⟩ dX11_fewestTurnings_7 (zz_kI rfl rfl (fun r1 σ2 => ?_))
  refine zz_isub C dX11_fewestTurnings_10 ?_
  refine zz_istoreX_n (locf := fun x3 => [(2, .int x3), (0, .ref (zzad Z 0)), (1, .int p0)]) C dX11_fewestTurnings_11 rfl (by decide) (fun _ => rfl) (fun x3 => ?_)
  refine zz_iconst (v := 0) C dX11_fewestTurnings_12 (by decide) ?_
  refine zz_istore_n (loc' := [(3, .int (0 : Int32)), (2, .int x3), (0, .ref (zzad Z 0)), (1, .int p0)]) C dX11_fewestTurnings_13 rfl (by decide) rfl ?_
  refine zz_bipush (v := 9) C dX11_fewestTurnings_14 (by decide) ?_
  refine zz_istore (loc' := [(4, .int (9 : Int32)), (3, .int (0 : Int32)), (2, .int x3), (0, .ref (zzad Z 0)), (1, .int p0)]) C dX11_fewestTurnings_16 (by decide) rfl ?_
  refine zz_sub (loc' := [(0, .ref (zzad Z 0)), (1, .int p0), (2, .int x3), (3, .int (0 : Int32)), (4, .int (9 : Int32))]) [3, 4, 2, 1, 0] rfl ?_
  exact w_X11_fewestTurnings_18 C p0 200 x3 (0 : Int32) (9 : Int32) σ2
set_option maxHeartbeats 4000000 in
set_option maxRecDepth 100000 in
theorem k_X11_fewestTurnings {l : Launch} {Z : zzG} {base : Nat} {PL : Nat → Option (Nat × Int32)} {mm : zzS} (p0 : Int32)  (σ : zzS) : zzCT l yX11_fewestTurnings wsX11_fewestTurnings rX11_fewestTurnings (zzA base) Z (zzX Z base PL mm) (zzX Z base PL mm) zzRI [.ref (zzad Z 0), .int p0] (f_X11_fewestTurnings p0 σ) σ :=
  zzCT_of (cc := cX11_fewestTurnings) (nL := 8) (ret := (some .int)) (by decide) rfl (Nat.le_of_ble_eq_true rfl) [(0, .ref (zzad Z 0)), (1, .int p0)] rfl (fun p e s m args below meth c C => w_X11_fewestTurnings_e C p0 σ)
