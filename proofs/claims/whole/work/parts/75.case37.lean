theorem p_in {a b c : Int64} {σ σ' : zzS} {r : Int32} (h : f_X12_in a b c σ = some (r, σ')) : σ' = σ := by
  unfold f_X12_in at h
  by_cases c1 : (lg_cmp a b) < 0
  · rw [if_pos c1] at h; cases h; rfl
  · by_cases c2 : 0 < (lg_cmp a c)
    · rw [if_neg c1, if_pos c2] at h; cases h; rfl
    · rw [if_neg c1, if_neg c2] at h; cases h; rfl
theorem p_wrongRow {a : Int32} {σ σ' : zzS} {r : Int32} (h : f_X12_wrongRow a σ = some (r, σ')) : σ' = σ := by
  unfold f_X12_wrongRow at h
  replace h := zzbd_some h
  obtain ⟨r1, σ2, e1, h⟩ := h
  have e2 := p_in e1
  subst e2
  by_cases c1 : r1 = 0
  · rw [if_pos c1] at h; cases h; rfl
  · rw [if_neg c1] at h
    replace h := (zzgd_some h).2
    by_cases c2 : (zza σ2 41 (Int32.toNatClampNeg a)) = 0
    · rw [if_pos c2] at h; cases h; rfl
    · rw [if_neg c2] at h
      replace h := (zzgd_some h).2
      by_cases c3 : (zza σ2 41 (Int32.toNatClampNeg a)) = (2 : Int32)
      · rw [if_pos c3] at h; cases h; rfl
      · rw [if_neg c3] at h; cases h; rfl
theorem p_el43 {a b v : Int32} {σ σ' : zzS} {r : Int64} (h : f_X12_element_43 a b v σ = some (r, σ')) : σ' = zzsi σ 36 13 v := by
  unfold f_X12_element_43 at h
  rw [zzlt_eq] at h
  by_cases c1 : 0 < (zzi (zzsi σ 36 13 v) 36 13)
  · rw [if_pos c1] at h; cases h; rfl
  · rw [if_neg c1] at h
    replace h := (zzgd_some h).2
    cases h; rfl
theorem p_el55 {a b : Int32} {σ σ' : zzS} {r : Int64} (h : f_X12_element a b σ = some (r, σ')) : ∃ v, σ' = zzsi σ 36 13 v := by
  unfold f_X12_element at h
  replace h := zzbd_some h
  obtain ⟨r1, σ2, e1, h⟩ := h
  have e2 := p_wrongRow e1
  subst e2
  by_cases c1 : r1 = (-1 : Int32)
  · rw [if_pos c1] at h; exact ⟨_, p_el43 h⟩
  · rw [if_neg c1] at h
    by_cases c2 : r1 < 0
    · rw [if_pos c2] at h; exact ⟨_, p_el43 h⟩
    · rw [if_neg c2] at h
      replace h := (zzgd_some h).2
      replace h := zzbd_some h
      obtain ⟨r6, σ7, e6, h⟩ := h
      have e7 := p_in e6
      subst e7
      by_cases c3 : r6 = 0
      · rw [if_pos c3] at h; exact ⟨_, p_el43 h⟩
      · rw [if_neg c3] at h; exact ⟨_, p_el43 h⟩
set_option maxHeartbeats 4000000 in
theorem lc_37 {p : Program} {l : Launch} {e : Env} {s : State} {m : MethodId} {b : Nat} {below : List Frame} {meth : Method} {c : Code} {Z : zzG} {L t : Nat} {xs : Nat → Int32} (K : zlC p l e s m b below meth c Z L xs) (ht : t ≤ 511) (hL : 6 * t + 6 ≤ L) (Tl : zlT p l e s m b below meth c Z t) {x mm : zzS} {PL : Nat → Option (Nat × Int32)} {H : Heap} {locs : List Loc} {ls : Array Slot} (hR : zRel x mm) (hW : zzH Z s.heap.size PL x mm H) (hS : va_S (zzA s.heap.size) s.heap H locs) (hl : lv_has ls 8 (zlLoc Z b t)) : W p l e room_1 s m #[Value.ref b] below meth c H locs (64 + 200 * t) (6000 + 200 * t) (lw_Z below #[Value.ref b] s) (F0 m 1412 ls []) := by
  have C := K.1
  obtain ⟨⟨code, num⟩, x', m0, e1, -, -⟩ := s_element (xs (6 * t + 1)) (xs (6 * t + 2)) x mm hR
  have hW : zzX Z s.heap.size PL mm x H := hW
  refine lv_aload_n C.1.1 C.1.2.1 dL_law_1412 rfl (lv_at hl 1 rfl) ?_
  refine zl_arg K hL hS hl 1 (by decide) rfl dL_law_1413 dL_law_1414 dL_law_1416 dL_law_1417 dL_law_1418 ?_
  refine zl_arg K hL hS hl 2 (by decide) rfl dL_law_1419 dL_law_1420 dL_law_1422 dL_law_1423 dL_law_1424 ?_
  refine lv_aload_n C.1.1 C.1.2.1 dL_law_1425 rfl (lv_at hl 3 rfl) ?_
  refine va_calli (zl_run0 (vx_runSX (hh := [(0, 9, 12, 13), (0, 9, 16, 15)]) (As := [.ref (zzad Z 0), .int (xs (6 * t + 1)), .int (xs (6 * t + 2)), .ref (zzad Z 55)]) (rest := []) C.1 (kx_L_element (PL := PL) K.2.2.2.2.2.1 (xs (6 * t + 1)) (xs (6 * t + 2)) x mm code num x' e1) (vx_cwSW 4 C.1.2.2.2.2 gL_law_L_element rfl rfl rfl (by decide +kernel) ⟨Nat.le_of_ble_eq_true rfl, Nat.le_of_ble_eq_true rfl⟩) ⟨zxPc_blind, fun U hU hWm => zxPc_at (Wd := zzB Z s.heap.size PL) (σ := (x, mm)) C.2.2.2 K.2.1 K.2.2.1 hS hU hWm hW⟩ rfl rfl hl.1 rfl (lv_room (Nat.le_of_ble_eq_true rfl)) dL_law_1426 ⟨zl_c1 ht (Nat.le_of_ble_eq_true rfl), zl_s1 ht (Nat.le_of_ble_eq_true rfl)⟩)) hS (fun _ _ h => h) (fun _ h => h) (fun r m2 t9 H1 locs1 h1 _ hp hW1 _ _ hS1 => ?_)
  obtain ⟨hr, hm2, h0⟩ := hp
  subst hr
  have hW1 : zzM Z s.heap.size PL x' m2 H1 := h1 ▸ hW1
  have hR2 : zRel x m2 := by
    rcases hm2 with rfl | rfl
    · exact hR
    · exact zRel_55 hR
  obtain ⟨⟨code2, num2⟩, x2, m', f1, f2, hR'⟩ := s_element (xs (6 * t + 1)) (xs (6 * t + 2)) x m2 hR2
  rw [e1] at f1
  cases f1
  unfold g_X12_element at f2
  replace f2 := zzbd_some f2
  obtain ⟨bq, m3, f3, f4⟩ := f2
  have f4 : some ((zzi m3 36 13, bq), m3) = some ((r, num), m') := f4
  obtain ⟨vv, hvv⟩ := p_el55 f3
  have h13 : zzi m3 36 13 = r := congrArg (fun z => z.1.1) (Option.some.inj f4)
  have hb : bq = num := congrArg (fun z => z.1.2) (Option.some.inj f4)
  have hm3 : m3 = m' := congrArg (fun z => z.2) (Option.some.inj f4)
  subst hb hm3
  refine lv_istore (lv' := (5, .int r) :: zlLoc Z b t) C.1.1 C.1.2.1 dL_law_1429 hl (by decide) rfl (fun ls hl5 => ?_)
  have hl := lv_sub (l' := zlLoc Z b t) hl5 [1, 2, 3, 4, 5] rfl
  refine lv_aload_n C.1.1 C.1.2.1 dL_law_1431 rfl (lv_at hl 2 rfl) ?_
  refine zl_arg K hL hS1 hl 1 (by decide) rfl dL_law_1432 dL_law_1433 dL_law_1435 dL_law_1436 dL_law_1437 ?_
  refine zl_arg K hL hS1 hl 2 (by decide) rfl dL_law_1438 dL_law_1439 dL_law_1441 dL_law_1442 dL_law_1443 ?_
  refine zx_call (w := [.long bq]) (fun v h => by rw [show v = some (.long bq) from h]; rfl) (va_runV (As := [.int (xs (6 * t + 1)), .int (xs (6 * t + 2))]) (rest := []) (C := RX12) C.1 (k_X12_element (PL := PL) (mm := x') (xs (6 * t + 1)) (xs (6 * t + 2)) m2 bq m3 f3) (cwV 2 C.1.2.2.2.2 gL_law_X12_element rfl rfl rfl (by decide +kernel) ⟨Nat.le_of_ble_eq_true rfl, Nat.le_of_ble_eq_true rfl⟩) ⟨zzPc_blind, zz_recv C.2.2.2 (zzM_obj H1 hW1) rfl, fun U hU hWm => zzPc_at C.2.2.2 hU hWm hW1⟩ rfl rfl hl.1 rfl (lv_room (Nat.le_of_ble_eq_true rfl)) dL_law_1444 ⟨zl_c2 ht (Nat.le_of_ble_eq_true rfl), zl_s2 ht (Nat.le_of_ble_eq_true rfl)⟩) hS1 (fun H2 locs2 hW2 hS2 => ?_)
  refine lv_lstore (lv' := (6, .long bq) :: (5, .int r) :: zlLoc Z b t) C.1.1 C.1.2.1 dL_law_1447 hl5 (by decide) rfl (fun ls hl6 => ?_)
  have hl := lv_sub (l' := zlLoc Z b t) hl6 [2, 3, 4, 5, 6] rfl
  refine lv_aload_n C.1.1 C.1.2.1 dL_law_1449 rfl (lv_at hl 2 rfl) ?_
  refine zx_call (w := [.int r]) (fun v h => by rw [show v = some (.int (zzi m3 36 13)) from h, h13]; rfl) (va_runV (As := []) (rest := []) (C := RX12) C.1 (k_X12_thrown (PL := PL) (mm := x') m3 (zzi m3 36 13) m3 rfl) (cwV 0 C.1.2.2.2.2 gL_law_X12_thrown rfl rfl rfl (by decide +kernel) ⟨Nat.le_of_ble_eq_true rfl, Nat.le_of_ble_eq_true rfl⟩) ⟨zzPc_blind, zz_recv C.2.2.2 (zzM_obj H2 hW2) rfl, fun U hU hWm => zzPc_at C.2.2.2 hU hWm hW2⟩ rfl rfl hl.1 rfl (lv_room (Nat.le_of_ble_eq_true rfl)) dL_law_1450 ⟨zl_c3 ht (Nat.le_of_ble_eq_true rfl), zl_s3 ht (Nat.le_of_ble_eq_true rfl)⟩) hS2 (fun H3 locs3 hW3 hS3 => ?_)
  refine lv_iload C.1.1 C.1.2.1 dL_law_1453 (lv_at hl6 1 rfl) ?_
  refine lv_icmp_eq (tgt := 1460) C.1.1 C.1.2.1 dL_law_1455 (by decide) (fun _ => ?_) (fun h => absurd rfl h)
  refine lv_iload C.1.1 C.1.2.1 dL_law_1460 (lv_at hl6 1 rfl) ?_
  have fin : ∀ ls : Array Slot, lv_has ls 8 (zlLoc Z b t) → W p l e room_1 s m #[Value.ref b] below meth c H3 locs3 (64 + 200 * t + rL_element.cells + rX12_element.cells + rX12_thrown.cells) (6000 + 200 * t + rL_element.slots + rX12_element.slots + rX12_thrown.slots) (lw_Z below #[Value.ref b] s) (F0 m 1476 ls []) := fun ls hl => by
    refine lv_goto (tgt := 1602) C.1.1 C.1.2.1 dL_law_1476 (by decide) ?_
    refine Tl x' m3 PL H3 locs3 ls _ _ hR' hW3 hS3 hl ?_ ?_
    · have : rL_element.cells + (rX12_element.cells + rX12_thrown.cells) ≤ 200 := Nat.le_of_ble_eq_true rfl
      rw [Nat.add_assoc, Nat.add_assoc]
      exact Nat.add_le_add_left this _
    · have : rL_element.slots + (rX12_element.slots + rX12_thrown.slots) ≤ 200 := Nat.le_of_ble_eq_true rfl
      rw [Nat.add_assoc, Nat.add_assoc]
      exact Nat.add_le_add_left this _
  refine lv_if_ne (tgt := 1476) C.1.1 C.1.2.1 dL_law_1462 (by decide) (fun _ => ?_) (fun hz => ?_)
  · exact fin ls hl
  · have hout : zzl m3 55 0 = bq := by
      rw [hvv, h0 hz]
      show zzl (zzsl mm 55 0 bq) 55 0 = bq
      rw [zzsl_at]
      rfl
    refine lv_aload_n C.1.1 C.1.2.1 dL_law_1465 rfl (lv_at hl 3 rfl) ?_
    refine lv_iconst (v := 0) C.1.1 C.1.2.1 dL_law_1466 (by decide) ?_
    have hE : va_at Z.1 vwCl (zzad Z 55, .inl (zzcA Z 1, 1, .inr (.inl (zzl m3 55)))) H3 := by
      obtain ⟨g, -, h2⟩ := zzH_at hW3 (show 55 < 56 by omega)
      exact h2
    refine va_lald C.1.1 C.1.2.1 C.2.2.2.1 (zzP1 hE) 0 1 rfl rfl (show ¬ ((0 : Int32) < 0 ∨ 1 ≤ (0 : Int32).toNatClampNeg) by decide) dL_law_1467 ?_
    rw [show (0 : Int32).toNatClampNeg = 0 from rfl, hout]
    refine lv_lload C.1.1 C.1.2.1 dL_law_1468 (lv_at hl6 0 rfl) ?_
    refine W.lcmp C.1.1 C.1.2.1 dL_law_1470 ?_
    rw [zl_cmp0]
    refine lv_if_eq (tgt := 1476) C.1.1 C.1.2.1 dL_law_1471 (by decide) (fun _ => ?_) (fun h => absurd rfl h)
    exact fin ls hl
