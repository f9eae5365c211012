set_option maxHeartbeats 4000000 in
theorem lc_2 {p : Program} {l : Launch} {e : Env} {s : State} {m : MethodId} {b : Nat} {below : List Frame} {meth : Method} {c : Code} {Z : zzG} {L t : Nat} {xs : Nat → Int32} (K : zlC p l e s m b below meth c Z L xs) (ht : t ≤ 511) (hL : 6 * t + 6 ≤ L) (Tl : zlT p l e s m b below meth c Z t) {x mm : zzS} {PL : Nat → Option (Nat × Int32)} {H : Heap} {locs : List Loc} {ls : Array Slot} (hR : zRel x mm) (hW : zzH Z s.heap.size PL x mm H) (hS : va_S (zzA s.heap.size) s.heap H locs) (hl : lv_has ls 8 (zlLoc Z b t)) : W p l e room_1 s m #[Value.ref b] below meth c H locs (64 + 200 * t) (6000 + 200 * t) (lw_Z below #[Value.ref b] s) (F0 m 282 ls []) := by
  have C := K.1
  obtain ⟨r, x', m', e1, e2, hR'⟩ := s_fond (xs (6 * t + 1)) (xs (6 * t + 2)) x mm hR
  have hW : zzX Z s.heap.size PL mm x H := hW
  refine lv_aload_n C.1.1 C.1.2.1 dL_law_282 rfl (lv_at hl 1 rfl) ?_
  refine zl_arg K hL hS hl 1 (by decide) rfl dL_law_283 dL_law_284 dL_law_286 dL_law_287 dL_law_288 ?_
  refine zl_arg K hL hS hl 2 (by decide) rfl dL_law_289 dL_law_290 dL_law_292 dL_law_293 dL_law_294 ?_
  refine zx_call (w := [.int r]) (fun v h => by rw [show v = some (.int r) from h]; rfl) (va_runV (As := [.int (xs (6 * t + 1)), .int (xs (6 * t + 2))]) (rest := []) (C := RX11) C.1 (k_X11_fond (PL := PL) (mm := mm) (xs (6 * t + 1)) (xs (6 * t + 2)) x r x' e1) (cwV 2 C.1.2.2.2.2 gL_law_X11_fond rfl rfl rfl (by decide +kernel) ⟨Nat.le_of_ble_eq_true rfl, Nat.le_of_ble_eq_true rfl⟩) ⟨zzPc_blind, zz_recv C.2.2.2 (zzX_obj H hW) rfl, fun U hU hWm => zzPc_at C.2.2.2 hU hWm hW⟩ rfl rfl hl.1 rfl (lv_room (Nat.le_of_ble_eq_true rfl)) dL_law_295 ⟨zl_c1 ht (Nat.le_of_ble_eq_true rfl), zl_s1 ht (Nat.le_of_ble_eq_true rfl)⟩) hS (fun H1 locs1 hW1 hS1 => ?_)
  have hW1 : zzM Z s.heap.size PL x' mm H1 := hW1
  refine lv_aload_n C.1.1 C.1.2.1 dL_law_298 rfl (lv_at hl 2 rfl) ?_
  refine zl_arg K hL hS1 hl 1 (by decide) rfl dL_law_299 dL_law_300 dL_law_302 dL_law_303 dL_law_304 ?_
  refine zl_arg K hL hS1 hl 2 (by decide) rfl dL_law_305 dL_law_306 dL_law_308 dL_law_309 dL_law_310 ?_
  refine zx_call (w := [.int r]) (fun v h => by rw [show v = some (.int r) from h]; rfl) (va_runV (As := [.int (xs (6 * t + 1)), .int (xs (6 * t + 2))]) (rest := [.int r]) (C := RX12) C.1 (k_X12_fond (PL := PL) (mm := x') (xs (6 * t + 1)) (xs (6 * t + 2)) mm r m' e2) (cwV 2 C.1.2.2.2.2 gL_law_X12_fond rfl rfl rfl (by decide +kernel) ⟨Nat.le_of_ble_eq_true rfl, Nat.le_of_ble_eq_true rfl⟩) ⟨zzPc_blind, zz_recv C.2.2.2 (zzM_obj H1 hW1) rfl, fun U hU hWm => zzPc_at C.2.2.2 hU hWm hW1⟩ rfl rfl hl.1 rfl (lv_room (Nat.le_of_ble_eq_true rfl)) dL_law_311 ⟨zl_c2 ht (Nat.le_of_ble_eq_true rfl), zl_s2 ht (Nat.le_of_ble_eq_true rfl)⟩) hS1 (fun H2 locs2 hW2 hS2 => ?_)
  refine lv_icmp_eq (tgt := 1602) C.1.1 C.1.2.1 dL_law_314 (by decide) (fun _ => ?_) (fun h => absurd rfl h)
  exact Tl x' m' PL H2 locs2 ls _ _ hR' hW2 hS2 hl (Nat.add_le_add_left (show rX11_fond.cells + rX12_fond.cells ≤ 200 from Nat.le_of_ble_eq_true rfl) _ |> fun h => by rw [Nat.add_assoc]; exact h) (Nat.add_le_add_left (show rX11_fond.slots + rX12_fond.slots ≤ 200 from Nat.le_of_ble_eq_true rfl) _ |> fun h => by rw [Nat.add_assoc]; exact h)
set_option maxHeartbeats 4000000 in
theorem lc_7 {p : Program} {l : Launch} {e : Env} {s : State} {m : MethodId} {b : Nat} {below : List Frame} {meth : Method} {c : Code} {Z : zzG} {L t : Nat} {xs : Nat → Int32} (K : zlC p l e s m b below meth c Z L xs) (ht : t ≤ 511) (hL : 6 * t + 6 ≤ L) (Tl : zlT p l e s m b below meth c Z t) {x mm : zzS} {PL : Nat → Option (Nat × Int32)} {H : Heap} {locs : List Loc} {ls : Array Slot} (hR : zRel x mm) (hW : zzH Z s.heap.size PL x mm H) (hS : va_S (zzA s.heap.size) s.heap H locs) (hl : lv_has ls 8 (zlLoc Z b t)) : W p l e room_1 s m #[Value.ref b] below meth c H locs (64 + 200 * t) (6000 + 200 * t) (lw_Z below #[Value.ref b] s) (F0 m 455 ls []) := by
  have C := K.1
  obtain ⟨r, x', m', e1, e2, hR'⟩ := s_turnsFor (xs (6 * t + 1)) (xs (6 * t + 2)) x mm hR
  have hW : zzX Z s.heap.size PL mm x H := hW
  refine lv_aload_n C.1.1 C.1.2.1 dL_law_455 rfl (lv_at hl 1 rfl) ?_
  refine zl_arg K hL hS hl 1 (by decide) rfl dL_law_456 dL_law_457 dL_law_459 dL_law_460 dL_law_461 ?_
  refine zl_arg K hL hS hl 2 (by decide) rfl dL_law_462 dL_law_463 dL_law_465 dL_law_466 dL_law_467 ?_
  refine zx_call (w := [.int r]) (fun v h => by rw [show v = some (.int r) from h]; rfl) (va_runV (As := [.int (xs (6 * t + 1)), .int (xs (6 * t + 2))]) (rest := []) (C := RX11) C.1 (k_X11_turnsFor (PL := PL) (mm := mm) (xs (6 * t + 1)) (xs (6 * t + 2)) x r x' e1) (cwV 2 C.1.2.2.2.2 gL_law_X11_turnsFor rfl rfl rfl (by decide +kernel) ⟨Nat.le_of_ble_eq_true rfl, Nat.le_of_ble_eq_true rfl⟩) ⟨zzPc_blind, zz_recv C.2.2.2 (zzX_obj H hW) rfl, fun U hU hWm => zzPc_at C.2.2.2 hU hWm hW⟩ rfl rfl hl.1 rfl (lv_room (Nat.le_of_ble_eq_true rfl)) dL_law_468 ⟨zl_c1 ht (Nat.le_of_ble_eq_true rfl), zl_s1 ht (Nat.le_of_ble_eq_true rfl)⟩) hS (fun H1 locs1 hW1 hS1 => ?_)
  have hW1 : zzM Z s.heap.size PL x' mm H1 := hW1
  refine lv_aload_n C.1.1 C.1.2.1 dL_law_471 rfl (lv_at hl 2 rfl) ?_
  refine zl_arg K hL hS1 hl 1 (by decide) rfl dL_law_472 dL_law_473 dL_law_475 dL_law_476 dL_law_477 ?_
  refine zl_arg K hL hS1 hl 2 (by decide) rfl dL_law_478 dL_law_479 dL_law_481 dL_law_482 dL_law_483 ?_
  refine zx_call (w := [.int r]) (fun v h => by rw [show v = some (.int r) from h]; rfl) (va_runV (As := [.int (xs (6 * t + 1)), .int (xs (6 * t + 2))]) (rest := [.int r]) (C := RX12) C.1 (k_X12_turnsFor (PL := PL) (mm := x') (xs (6 * t + 1)) (xs (6 * t + 2)) mm r m' e2) (cwV 2 C.1.2.2.2.2 gL_law_X12_turnsFor rfl rfl rfl (by decide +kernel) ⟨Nat.le_of_ble_eq_true rfl, Nat.le_of_ble_eq_true rfl⟩) ⟨zzPc_blind, zz_recv C.2.2.2 (zzM_obj H1 hW1) rfl, fun U hU hWm => zzPc_at C.2.2.2 hU hWm hW1⟩ rfl rfl hl.1 rfl (lv_room (Nat.le_of_ble_eq_true rfl)) dL_law_484 ⟨zl_c2 ht (Nat.le_of_ble_eq_true rfl), zl_s2 ht (Nat.le_of_ble_eq_true rfl)⟩) hS1 (fun H2 locs2 hW2 hS2 => ?_)
  refine lv_icmp_eq (tgt := 1602) C.1.1 C.1.2.1 dL_law_487 (by decide) (fun _ => ?_) (fun h => absurd rfl h)
  exact Tl x' m' PL H2 locs2 ls _ _ hR' hW2 hS2 hl (Nat.add_le_add_left (show rX11_turnsFor.cells + rX12_turnsFor.cells ≤ 200 from Nat.le_of_ble_eq_true rfl) _ |> fun h => by rw [Nat.add_assoc]; exact h) (Nat.add_le_add_left (show rX11_turnsFor.slots + rX12_turnsFor.slots ≤ 200 from Nat.le_of_ble_eq_true rfl) _ |> fun h => by rw [Nat.add_assoc]; exact h)
set_option maxHeartbeats 4000000 in
theorem lc_12 {p : Program} {l : Launch} {e : Env} {s : State} {m : MethodId} {b : Nat} {below : List Frame} {meth : Method} {c : Code} {Z : zzG} {L t : Nat} {xs : Nat → Int32} (K : zlC p l e s m b below meth c Z L xs) (ht : t ≤ 511) (hL : 6 * t + 6 ≤ L) (Tl : zlT p l e s m b below meth c Z t) {x mm : zzS} {PL : Nat → Option (Nat × Int32)} {H : Heap} {locs : List Loc} {ls : Array Slot} (hR : zRel x mm) (hW : zzH Z s.heap.size PL x mm H) (hS : va_S (zzA s.heap.size) s.heap H locs) (hl : lv_has ls 8 (zlLoc Z b t)) : W p l e room_1 s m #[Value.ref b] below meth c H locs (64 + 200 * t) (6000 + 200 * t) (lw_Z below #[Value.ref b] s) (F0 m 580 ls []) := by
  have C := K.1
  obtain ⟨r, x', m', e1, e2, hR'⟩ := s_nobody  x mm hR
  have hW : zzX Z s.heap.size PL mm x H := hW
  refine lv_aload_n C.1.1 C.1.2.1 dL_law_580 rfl (lv_at hl 1 rfl) ?_
  refine zx_call (w := [.int r]) (fun v h => by rw [show v = some (.int r) from h]; rfl) (va_runV (As := []) (rest := []) (C := RX11) C.1 (k_X11_nobody (PL := PL) (mm := mm)  x r x' e1) (cwV 0 C.1.2.2.2.2 gL_law_X11_nobody rfl rfl rfl (by decide +kernel) ⟨Nat.le_of_ble_eq_true rfl, Nat.le_of_ble_eq_true rfl⟩) ⟨zzPc_blind, zz_recv C.2.2.2 (zzX_obj H hW) rfl, fun U hU hWm => zzPc_at C.2.2.2 hU hWm hW⟩ rfl rfl hl.1 rfl (lv_room (Nat.le_of_ble_eq_true rfl)) dL_law_581 ⟨zl_c1 ht (Nat.le_of_ble_eq_true rfl), zl_s1 ht (Nat.le_of_ble_eq_true rfl)⟩) hS (fun H1 locs1 hW1 hS1 => ?_)
  have hW1 : zzM Z s.heap.size PL x' mm H1 := hW1
  refine lv_aload_n C.1.1 C.1.2.1 dL_law_584 rfl (lv_at hl 2 rfl) ?_
  refine zx_call (w := [.int r]) (fun v h => by rw [show v = some (.int r) from h]; rfl) (va_runV (As := []) (rest := [.int r]) (C := RX12) C.1 (k_X12_nobody (PL := PL) (mm := x')  mm r m' e2) (cwV 0 C.1.2.2.2.2 gL_law_X12_nobody rfl rfl rfl (by decide +kernel) ⟨Nat.le_of_ble_eq_true rfl, Nat.le_of_ble_eq_true rfl⟩) ⟨zzPc_blind, zz_recv C.2.2.2 (zzM_obj H1 hW1) rfl, fun U hU hWm => zzPc_at C.2.2.2 hU hWm hW1⟩ rfl rfl hl.1 rfl (lv_room (Nat.le_of_ble_eq_true rfl)) dL_law_585 ⟨zl_c2 ht (Nat.le_of_ble_eq_true rfl), zl_s2 ht (Nat.le_of_ble_eq_true rfl)⟩) hS1 (fun H2 locs2 hW2 hS2 => ?_)
  refine lv_icmp_eq (tgt := 1602) C.1.1 C.1.2.1 dL_law_588 (by decide) (fun _ => ?_) (fun h => absurd rfl h)
  exact Tl x' m' PL H2 locs2 ls _ _ hR' hW2 hS2 hl (Nat.add_le_add_left (show rX11_nobody.cells + rX12_nobody.cells ≤ 200 from Nat.le_of_ble_eq_true rfl) _ |> fun h => by rw [Nat.add_assoc]; exact h) (Nat.add_le_add_left (show rX11_nobody.slots + rX12_nobody.slots ≤ 200 from Nat.le_of_ble_eq_true rfl) _ |> fun h => by rw [Nat.add_assoc]; exact h)
set_option maxHeartbeats 4000000 in
theorem lc_17 {p : Program} {l : Launch} {e : Env} {s : State} {m : MethodId} {b : Nat} {below : List Frame} {meth : Method} {c : Code} {Z : zzG} {L t : Nat} {xs : Nat → Int32} (K : zlC p l e s m b below meth c Z L xs) (ht : t ≤ 511) (hL : 6 * t + 6 ≤ L) (Tl : zlT p l e s m b below meth c Z t) {x mm : zzS} {PL : Nat → Option (Nat × Int32)} {H : Heap} {locs : List Loc} {ls : Array Slot} (hR : zRel x mm) (hW : zzH Z s.heap.size PL x mm H) (hS : va_S (zzA s.heap.size) s.heap H locs) (hl : lv_has ls 8 (zlLoc Z b t)) : W p l e room_1 s m #[Value.ref b] below meth c H locs (64 + 200 * t) (6000 + 200 * t) (lw_Z below #[Value.ref b] s) (F0 m 717 ls []) := by
  have C := K.1
  obtain ⟨r, x', m', e1, e2, hR'⟩ := s_keeps (xs (6 * t + 1)) (xs (6 * t + 2)) x mm hR
  have hW : zzX Z s.heap.size PL mm x H := hW
  refine lv_aload_n C.1.1 C.1.2.1 dL_law_717 rfl (lv_at hl 1 rfl) ?_
  refine zl_arg K hL hS hl 1 (by decide) rfl dL_law_718 dL_law_719 dL_law_721 dL_law_722 dL_law_723 ?_
  refine zl_arg K hL hS hl 2 (by decide) rfl dL_law_724 dL_law_725 dL_law_727 dL_law_728 dL_law_729 ?_
  refine zx_call (w := [.int r]) (fun v h => by rw [show v = some (.int r) from h]; rfl) (va_runV (As := [.int (xs (6 * t + 1)), .int (xs (6 * t + 2))]) (rest := []) (C := RX11) C.1 (k_X11_keeps (PL := PL) (mm := mm) (xs (6 * t + 1)) (xs (6 * t + 2)) x r x' e1) (cwV 2 C.1.2.2.2.2 gL_law_X11_keeps rfl rfl rfl (by decide +kernel) ⟨Nat.le_of_ble_eq_true rfl, Nat.le_of_ble_eq_true rfl⟩) ⟨zzPc_blind, zz_recv C.2.2.2 (zzX_obj H hW) rfl, fun U hU hWm => zzPc_at C.2.2.2 hU hWm hW⟩ rfl rfl hl.1 rfl (lv_room (Nat.le_of_ble_eq_true rfl)) dL_law_730 ⟨zl_c1 ht (Nat.le_of_ble_eq_true rfl), zl_s1 ht (Nat.le_of_ble_eq_true rfl)⟩) hS (fun H1 locs1 hW1 hS1 => ?_)
  have hW1 : zzM Z s.heap.size PL x' mm H1 := hW1
  refine lv_aload_n C.1.1 C.1.2.1 dL_law_733 rfl (lv_at hl 2 rfl) ?_
  refine zl_arg K hL hS1 hl 1 (by decide) rfl dL_law_734 dL_law_735 dL_law_737 dL_law_738 dL_law_739 ?_
  refine zl_arg K hL hS1 hl 2 (by decide) rfl dL_law_740 dL_law_741 dL_law_743 dL_law_744 dL_law_745 ?_
  refine zx_call (w := [.int r]) (fun v h => by rw [show v = some (.int r) from h]; rfl) (va_runV (As := [.int (xs (6 * t + 1)), .int (xs (6 * t + 2))]) (rest := [.int r]) (C := RX12) C.1 (k_X12_keeps (PL := PL) (mm := x') (xs (6 * t + 1)) (xs (6 * t + 2)) mm r m' e2) (cwV 2 C.1.2.2.2.2 gL_law_X12_keeps rfl rfl rfl (by decide +kernel) ⟨Nat.le_of_ble_eq_true rfl, Nat.le_of_ble_eq_true rfl⟩) ⟨zzPc_blind, zz_recv C.2.2.2 (zzM_obj H1 hW1) rfl, fun U hU hWm => zzPc_at C.2.2.2 hU hWm hW1⟩ rfl rfl hl.1 rfl (lv_room (Nat.le_of_ble_eq_true rfl)) dL_law_746 ⟨zl_c2 ht (Nat.le_of_ble_eq_true rfl), zl_s2 ht (Nat.le_of_ble_eq_true rfl)⟩) hS1 (fun H2 locs2 hW2 hS2 => ?_)
  refine lv_icmp_eq (tgt := 1602) C.1.1 C.1.2.1 dL_law_749 (by decide) (fun _ => ?_) (fun h => absurd rfl h)
  exact Tl x' m' PL H2 locs2 ls _ _ hR' hW2 hS2 hl (Nat.add_le_add_left (show rX11_keeps.cells + rX12_keeps.cells ≤ 200 from Nat.le_of_ble_eq_true rfl) _ |> fun h => by rw [Nat.add_assoc]; exact h) (Nat.add_le_add_left (show rX11_keeps.slots + rX12_keeps.slots ≤ 200 from Nat.le_of_ble_eq_true rfl) _ |> fun h => by rw [Nat.add_assoc]; exact h)
set_option maxHeartbeats 4000000 in
theorem lc_22 {p : Program} {l : Launch} {e : Env} {s : State} {m : MethodId} {b : Nat} {below : List Frame} {meth : Method} {c : Code} {Z : zzG} {L t : Nat} {xs : Nat → Int32} (K : zlC p l e s m b below meth c Z L xs) (ht : t ≤ 511) (hL : 6 * t + 6 ≤ L) (Tl : zlT p l e s m b below meth c Z t) {x mm : zzS} {PL : Nat → Option (Nat × Int32)} {H : Heap} {locs : List Loc} {ls : Array Slot} (hR : zRel x mm) (hW : zzH Z s.heap.size PL x mm H) (hS : va_S (zzA s.heap.size) s.heap H locs) (hl : lv_has ls 8 (zlLoc Z b t)) : W p l e room_1 s m #[Value.ref b] below meth c H locs (64 + 200 * t) (6000 + 200 * t) (lw_Z below #[Value.ref b] s) (F0 m 843 ls []) := by
  have C := K.1
  obtain ⟨r, x', m', e1, e2, hR'⟩ := s_drawn (xs (6 * t + 1)) (xs (6 * t + 2)) (xs (6 * t + 3)) x mm hR
  have hW : zzX Z s.heap.size PL mm x H := hW
  refine lv_aload_n C.1.1 C.1.2.1 dL_law_843 rfl (lv_at hl 1 rfl) ?_
  refine zl_arg K hL hS hl 1 (by decide) rfl dL_law_844 dL_law_845 dL_law_847 dL_law_848 dL_law_849 ?_
  refine zl_arg K hL hS hl 2 (by decide) rfl dL_law_850 dL_law_851 dL_law_853 dL_law_854 dL_law_855 ?_
  refine zl_arg K hL hS hl 3 (by decide) rfl dL_law_856 dL_law_857 dL_law_859 dL_law_860 dL_law_861 ?_
  refine zx_call (w := [.long r]) (fun v h => by rw [show v = some (.long r) from h]; rfl) (va_runV (As := [.int (xs (6 * t + 1)), .int (xs (6 * t + 2)), .int (xs (6 * t + 3))]) (rest := []) (C := RX11) C.1 (k_X11_drawn (PL := PL) (mm := mm) (xs (6 * t + 1)) (xs (6 * t + 2)) (xs (6 * t + 3)) x r x' e1) (cwV 3 C.1.2.2.2.2 gL_law_X11_drawn rfl rfl rfl (by decide +kernel) ⟨Nat.le_of_ble_eq_true rfl, Nat.le_of_ble_eq_true rfl⟩) ⟨zzPc_blind, zz_recv C.2.2.2 (zzX_obj H hW) rfl, fun U hU hWm => zzPc_at C.2.2.2 hU hWm hW⟩ rfl rfl hl.1 rfl (lv_room (Nat.le_of_ble_eq_true rfl)) dL_law_862 ⟨zl_c1 ht (Nat.le_of_ble_eq_true rfl), zl_s1 ht (Nat.le_of_ble_eq_true rfl)⟩) hS (fun H1 locs1 hW1 hS1 => ?_)
  have hW1 : zzM Z s.heap.size PL x' mm H1 := hW1
  refine lv_aload_n C.1.1 C.1.2.1 dL_law_865 rfl (lv_at hl 2 rfl) ?_
  refine zl_arg K hL hS1 hl 1 (by decide) rfl dL_law_866 dL_law_867 dL_law_869 dL_law_870 dL_law_871 ?_
  refine zl_arg K hL hS1 hl 2 (by decide) rfl dL_law_872 dL_law_873 dL_law_875 dL_law_876 dL_law_877 ?_
  refine zl_arg K hL hS1 hl 3 (by decide) rfl dL_law_878 dL_law_879 dL_law_881 dL_law_882 dL_law_883 ?_
  refine zx_call (w := [.long r]) (fun v h => by rw [show v = some (.long r) from h]; rfl) (va_runV (As := [.int (xs (6 * t + 1)), .int (xs (6 * t + 2)), .int (xs (6 * t + 3))]) (rest := [.long r]) (C := RX12) C.1 (k_X12_drawn (PL := PL) (mm := x') (xs (6 * t + 1)) (xs (6 * t + 2)) (xs (6 * t + 3)) mm r m' e2) (cwV 3 C.1.2.2.2.2 gL_law_X12_drawn rfl rfl rfl (by decide +kernel) ⟨Nat.le_of_ble_eq_true rfl, Nat.le_of_ble_eq_true rfl⟩) ⟨zzPc_blind, zz_recv C.2.2.2 (zzM_obj H1 hW1) rfl, fun U hU hWm => zzPc_at C.2.2.2 hU hWm hW1⟩ rfl rfl hl.1 rfl (lv_room (Nat.le_of_ble_eq_true rfl)) dL_law_884 ⟨zl_c2 ht (Nat.le_of_ble_eq_true rfl), zl_s2 ht (Nat.le_of_ble_eq_true rfl)⟩) hS1 (fun H2 locs2 hW2 hS2 => ?_)
  refine W.lcmp C.1.1 C.1.2.1 dL_law_887 ?_
  rw [zl_cmp0]
  refine lv_if_eq (tgt := 1602) C.1.1 C.1.2.1 dL_law_888 (by decide) (fun _ => ?_) (fun h => absurd rfl h)
  exact Tl x' m' PL H2 locs2 ls _ _ hR' hW2 hS2 hl (Nat.add_le_add_left (show rX11_drawn.cells + rX12_drawn.cells ≤ 200 from Nat.le_of_ble_eq_true rfl) _ |> fun h => by rw [Nat.add_assoc]; exact h) (Nat.add_le_add_left (show rX11_drawn.slots + rX12_drawn.slots ≤ 200 from Nat.le_of_ble_eq_true rfl) _ |> fun h => by rw [Nat.add_assoc]; exact h)
set_option maxHeartbeats 4000000 in
theorem lc_27 {p : Program} {l : Launch} {e : Env} {s : State} {m : MethodId} {b : Nat} {below : List Frame} {meth : Method} {c : Code} {Z : zzG} {L t : Nat} {xs : Nat → Int32} (K : zlC p l e s m b below meth c Z L xs) (ht : t ≤ 511) (hL : 6 * t + 6 ≤ L) (Tl : zlT p l e s m b below meth c Z t) {x mm : zzS} {PL : Nat → Option (Nat × Int32)} {H : Heap} {locs : List Loc} {ls : Array Slot} (hR : zRel x mm) (hW : zzH Z s.heap.size PL x mm H) (hS : va_S (zzA s.heap.size) s.heap H locs) (hl : lv_has ls 8 (zlLoc Z b t)) : W p l e room_1 s m #[Value.ref b] below meth c H locs (64 + 200 * t) (6000 + 200 * t) (lw_Z below #[Value.ref b] s) (F0 m 1030 ls []) := by
  have C := K.1
  obtain ⟨r, x', m', e1, e2, hR'⟩ := s_blushes (xs (6 * t + 1)) (xs (6 * t + 2)) (xs (6 * t + 3)) x mm hR
  have hW : zzX Z s.heap.size PL mm x H := hW
  refine lv_aload_n C.1.1 C.1.2.1 dL_law_1030 rfl (lv_at hl 1 rfl) ?_
  refine zl_arg K hL hS hl 1 (by decide) rfl dL_law_1031 dL_law_1032 dL_law_1034 dL_law_1035 dL_law_1036 ?_
  refine zl_arg K hL hS hl 2 (by decide) rfl dL_law_1037 dL_law_1038 dL_law_1040 dL_law_1041 dL_law_1042 ?_
  refine zl_arg K hL hS hl 3 (by decide) rfl dL_law_1043 dL_law_1044 dL_law_1046 dL_law_1047 dL_law_1048 ?_
  refine zx_call (w := [.int r]) (fun v h => by rw [show v = some (.int r) from h]; rfl) (va_runV (As := [.int (xs (6 * t + 1)), .int (xs (6 * t + 2)), .int (xs (6 * t + 3))]) (rest := []) (C := RX11) C.1 (k_X11_blushes (PL := PL) (mm := mm) (xs (6 * t + 1)) (xs (6 * t + 2)) (xs (6 * t + 3)) x r x' e1) (cwV 3 C.1.2.2.2.2 gL_law_X11_blushes rfl rfl rfl (by decide +kernel) ⟨Nat.le_of_ble_eq_true rfl, Nat.le_of_ble_eq_true rfl⟩) ⟨zzPc_blind, zz_recv C.2.2.2 (zzX_obj H hW) rfl, fun U hU hWm => zzPc_at C.2.2.2 hU hWm hW⟩ rfl rfl hl.1 rfl (lv_room (Nat.le_of_ble_eq_true rfl)) dL_law_1049 ⟨zl_c1 ht (Nat.le_of_ble_eq_true rfl), zl_s1 ht (Nat.le_of_ble_eq_true rfl)⟩) hS (fun H1 locs1 hW1 hS1 => ?_)
  have hW1 : zzM Z s.heap.size PL x' mm H1 := hW1
  refine lv_aload_n C.1.1 C.1.2.1 dL_law_1052 rfl (lv_at hl 2 rfl) ?_
  refine zl_arg K hL hS1 hl 1 (by decide) rfl dL_law_1053 dL_law_1054 dL_law_1056 dL_law_1057 dL_law_1058 ?_
  refine zl_arg K hL hS1 hl 2 (by decide) rfl dL_law_1059 dL_law_1060 dL_law_1062 dL_law_1063 dL_law_1064 ?_
  refine zl_arg K hL hS1 hl 3 (by decide) rfl dL_law_1065 dL_law_1066 dL_law_1068 dL_law_1069 dL_law_1070 ?_
  refine zx_call (w := [.int r]) (fun v h => by rw [show v = some (.int r) from h]; rfl) (va_runV (As := [.int (xs (6 * t + 1)), .int (xs (6 * t + 2)), .int (xs (6 * t + 3))]) (rest := [.int r]) (C := RX12) C.1 (k_X12_blushes (PL := PL) (mm := x') (xs (6 * t + 1)) (xs (6 * t + 2)) (xs (6 * t + 3)) mm r m' e2) (cwV 3 C.1.2.2.2.2 gL_law_X12_blushes rfl rfl rfl (by decide +kernel) ⟨Nat.le_of_ble_eq_true rfl, Nat.le_of_ble_eq_true rfl⟩) ⟨zzPc_blind, zz_recv C.2.2.2 (zzM_obj H1 hW1) rfl, fun U hU hWm => zzPc_at C.2.2.2 hU hWm hW1⟩ rfl rfl hl.1 rfl (lv_room (Nat.le_of_ble_eq_true rfl)) dL_law_1071 ⟨zl_c2 ht (Nat.le_of_ble_eq_true rfl), zl_s2 ht (Nat.le_of_ble_eq_true rfl)⟩) hS1 (fun H2 locs2 hW2 hS2 => ?_)
  refine lv_icmp_eq (tgt := 1602) C.1.1 C.1.2.1 dL_law_1074 (by decide) (fun _ => ?_) (fun h => absurd rfl h)
  exact Tl x' m' PL H2 locs2 ls _ _ hR' hW2 hS2 hl (Nat.add_le_add_left (show rX11_blushes.cells + rX12_blushes.cells ≤ 200 from Nat.le_of_ble_eq_true rfl) _ |> fun h => by rw [Nat.add_assoc]; exact h) (Nat.add_le_add_left (show rX11_blushes.slots + rX12_blushes.slots ≤ 200 from Nat.le_of_ble_eq_true rfl) _ |> fun h => by rw [Nat.add_assoc]; exact h)
set_option maxHeartbeats 4000000 in
theorem lc_32 {p : Program} {l : Launch} {e : Env} {s : State} {m : MethodId} {b : Nat} {below : List Frame} {meth : Method} {c : Code} {Z : zzG} {L t : Nat} {xs : Nat → Int32} (K : zlC p l e s m b below meth c Z L xs) (ht : t ≤ 511) (hL : 6 * t + 6 ≤ L) (Tl : zlT p l e s m b below meth c Z t) {x mm : zzS} {PL : Nat → Option (Nat × Int32)} {H : Heap} {locs : List Loc} {ls : Array Slot} (hR : zRel x mm) (hW : zzH Z s.heap.size PL x mm H) (hS : va_S (zzA s.heap.size) s.heap H locs) (hl : lv_has ls 8 (zlLoc Z b t)) : W p l e room_1 s m #[Value.ref b] below meth c H locs (64 + 200 * t) (6000 + 200 * t) (lw_Z below #[Value.ref b] s) (F0 m 1215 ls []) := by
  have C := K.1
  obtain ⟨r, x', m', e1, e2, hR'⟩ := s_restore  x mm hR
  have hW : zzX Z s.heap.size PL mm x H := hW
  refine lv_aload_n C.1.1 C.1.2.1 dL_law_1215 rfl (lv_at hl 1 rfl) ?_
  refine zx_call (w := [.int r]) (fun v h => by rw [show v = some (.int r) from h]; rfl) (va_runV (As := []) (rest := []) (C := RX11) C.1 (k_X11_restore (PL := PL) (mm := mm)  x r x' e1) (cwV 0 C.1.2.2.2.2 gL_law_X11_restore rfl rfl rfl (by decide +kernel) ⟨Nat.le_of_ble_eq_true rfl, Nat.le_of_ble_eq_true rfl⟩) ⟨zzPc_blind, zz_recv C.2.2.2 (zzX_obj H hW) rfl, fun U hU hWm => zzPc_at C.2.2.2 hU hWm hW⟩ rfl rfl hl.1 rfl (lv_room (Nat.le_of_ble_eq_true rfl)) dL_law_1216 ⟨zl_c1 ht (Nat.le_of_ble_eq_true rfl), zl_s1 ht (Nat.le_of_ble_eq_true rfl)⟩) hS (fun H1 locs1 hW1 hS1 => ?_)
  have hW1 : zzM Z s.heap.size PL x' mm H1 := hW1
  refine lv_aload_n C.1.1 C.1.2.1 dL_law_1219 rfl (lv_at hl 2 rfl) ?_
  refine zx_call (w := [.int r]) (fun v h => by rw [show v = some (.int r) from h]; rfl) (va_runV (As := []) (rest := [.int r]) (C := RX12) C.1 (k_X12_restore (PL := PL) (mm := x')  mm r m' e2) (cwV 0 C.1.2.2.2.2 gL_law_X12_restore rfl rfl rfl (by decide +kernel) ⟨Nat.le_of_ble_eq_true rfl, Nat.le_of_ble_eq_true rfl⟩) ⟨zzPc_blind, zz_recv C.2.2.2 (zzM_obj H1 hW1) rfl, fun U hU hWm => zzPc_at C.2.2.2 hU hWm hW1⟩ rfl rfl hl.1 rfl (lv_room (Nat.le_of_ble_eq_true rfl)) dL_law_1220 ⟨zl_c2 ht (Nat.le_of_ble_eq_true rfl), zl_s2 ht (Nat.le_of_ble_eq_true rfl)⟩) hS1 (fun H2 locs2 hW2 hS2 => ?_)
  refine lv_icmp_eq (tgt := 1602) C.1.1 C.1.2.1 dL_law_1223 (by decide) (fun _ => ?_) (fun h => absurd rfl h)
  exact Tl x' m' PL H2 locs2 ls _ _ hR' hW2 hS2 hl (Nat.add_le_add_left (show rX11_restore.cells + rX12_restore.cells ≤ 200 from Nat.le_of_ble_eq_true rfl) _ |> fun h => by rw [Nat.add_assoc]; exact h) (Nat.add_le_add_left (show rX11_restore.slots + rX12_restore.slots ≤ 200 from Nat.le_of_ble_eq_true rfl) _ |> fun h => by rw [Nat.add_assoc]; exact h)
set_option maxHeartbeats 4000000 in
theorem lc_38 {p : Program} {l : Launch} {e : Env} {s : State} {m : MethodId} {b : Nat} {below : List Frame} {meth : Method} {c : Code} {Z : zzG} {L t : Nat} {xs : Nat → Int32} (K : zlC p l e s m b below meth c Z L xs) (ht : t ≤ 511) (hL : 6 * t + 6 ≤ L) (Tl : zlT p l e s m b below meth c Z t) {x mm : zzS} {PL : Nat → Option (Nat × Int32)} {H : Heap} {locs : List Loc} {ls : Array Slot} (hR : zRel x mm) (hW : zzH Z s.heap.size PL x mm H) (hS : va_S (zzA s.heap.size) s.heap H locs) (hl : lv_has ls 8 (zlLoc Z b t)) : W p l e room_1 s m #[Value.ref b] below meth c H locs (64 + 200 * t) (6000 + 200 * t) (lw_Z below #[Value.ref b] s) (F0 m 1479 ls []) := by
  have C := K.1
  obtain ⟨r, x', m', e1, e2, hR'⟩ := s_copy (xs (6 * t + 1)) (xs (6 * t + 2)) (xs (6 * t + 3)) (xs (6 * t + 4)) (xs (6 * t + 5)) x mm hR
  have hW : zzX Z s.heap.size PL mm x H := hW
  refine lv_aload_n C.1.1 C.1.2.1 dL_law_1479 rfl (lv_at hl 1 rfl) ?_
  refine zl_arg K hL hS hl 1 (by decide) rfl dL_law_1480 dL_law_1481 dL_law_1483 dL_law_1484 dL_law_1485 ?_
  refine zl_arg K hL hS hl 2 (by decide) rfl dL_law_1486 dL_law_1487 dL_law_1489 dL_law_1490 dL_law_1491 ?_
  refine zl_arg K hL hS hl 3 (by decide) rfl dL_law_1492 dL_law_1493 dL_law_1495 dL_law_1496 dL_law_1497 ?_
  refine zl_arg K hL hS hl 4 (by decide) rfl dL_law_1498 dL_law_1499 dL_law_1501 dL_law_1502 dL_law_1503 ?_
  refine zl_arg K hL hS hl 5 (by decide) rfl dL_law_1504 dL_law_1505 dL_law_1507 dL_law_1508 dL_law_1509 ?_
  refine zx_call (w := [.int r]) (fun v h => by rw [show v = some (.int r) from h]; rfl) (va_runV (As := [.int (xs (6 * t + 1)), .int (xs (6 * t + 2)), .int (xs (6 * t + 3)), .int (xs (6 * t + 4)), .int (xs (6 * t + 5))]) (rest := []) (C := RX11) C.1 (k_X11_copy (PL := PL) (mm := mm) (xs (6 * t + 1)) (xs (6 * t + 2)) (xs (6 * t + 3)) (xs (6 * t + 4)) (xs (6 * t + 5)) x (zl_copy hR) r x' e1) (cwV 5 C.1.2.2.2.2 gL_law_X11_copy rfl rfl rfl (by decide +kernel) ⟨Nat.le_of_ble_eq_true rfl, Nat.le_of_ble_eq_true rfl⟩) ⟨zzPc_blind, zz_recv C.2.2.2 (zzX_obj H hW) rfl, fun U hU hWm => zzPc_at C.2.2.2 hU hWm hW⟩ rfl rfl hl.1 rfl (lv_room (Nat.le_of_ble_eq_true rfl)) dL_law_1510 ⟨zl_c1 ht (Nat.le_of_ble_eq_true rfl), zl_s1 ht (Nat.le_of_ble_eq_true rfl)⟩) hS (fun H1 locs1 hW1 hS1 => ?_)
  have hW1 : zzM Z s.heap.size PL x' mm H1 := hW1
  refine lv_aload_n C.1.1 C.1.2.1 dL_law_1513 rfl (lv_at hl 2 rfl) ?_
  refine zl_arg K hL hS1 hl 1 (by decide) rfl dL_law_1514 dL_law_1515 dL_law_1517 dL_law_1518 dL_law_1519 ?_
  refine zl_arg K hL hS1 hl 2 (by decide) rfl dL_law_1520 dL_law_1521 dL_law_1523 dL_law_1524 dL_law_1525 ?_
  refine zl_arg K hL hS1 hl 3 (by decide) rfl dL_law_1526 dL_law_1527 dL_law_1529 dL_law_1530 dL_law_1531 ?_
  refine zl_arg K hL hS1 hl 4 (by decide) rfl dL_law_1532 dL_law_1533 dL_law_1535 dL_law_1536 dL_law_1537 ?_
  refine zl_arg K hL hS1 hl 5 (by decide) rfl dL_law_1538 dL_law_1539 dL_law_1541 dL_law_1542 dL_law_1543 ?_
  refine zx_call (w := [.int r]) (fun v h => by rw [show v = some (.int r) from h]; rfl) (va_runV (As := [.int (xs (6 * t + 1)), .int (xs (6 * t + 2)), .int (xs (6 * t + 3)), .int (xs (6 * t + 4)), .int (xs (6 * t + 5))]) (rest := [.int r]) (C := RX12) C.1 (k_X12_copy (PL := PL) (mm := x') (xs (6 * t + 1)) (xs (6 * t + 2)) (xs (6 * t + 3)) (xs (6 * t + 4)) (xs (6 * t + 5)) mm r m' e2) (cwV 5 C.1.2.2.2.2 gL_law_X12_copy rfl rfl rfl (by decide +kernel) ⟨Nat.le_of_ble_eq_true rfl, Nat.le_of_ble_eq_true rfl⟩) ⟨zzPc_blind, zz_recv C.2.2.2 (zzM_obj H1 hW1) rfl, fun U hU hWm => zzPc_at C.2.2.2 hU hWm hW1⟩ rfl rfl hl.1 rfl (lv_room (Nat.le_of_ble_eq_true rfl)) dL_law_1544 ⟨zl_c2 ht (Nat.le_of_ble_eq_true rfl), zl_s2 ht (Nat.le_of_ble_eq_true rfl)⟩) hS1 (fun H2 locs2 hW2 hS2 => ?_)
  refine lv_icmp_eq (tgt := 1602) C.1.1 C.1.2.1 dL_law_1547 (by decide) (fun _ => ?_) (fun h => absurd rfl h)
  exact Tl x' m' PL H2 locs2 ls _ _ hR' hW2 hS2 hl (Nat.add_le_add_left (show rX11_copy.cells + rX12_copy.cells ≤ 200 from Nat.le_of_ble_eq_true rfl) _ |> fun h => by rw [Nat.add_assoc]; exact h) (Nat.add_le_add_left (show rX11_copy.slots + rX12_copy.slots ≤ 200 from Nat.le_of_ble_eq_true rfl) _ |> fun h => by rw [Nat.add_assoc]; exact h)
