abbrev rX6_fail : Room := { frames := 6, cells := 1, slots := 6, locals := 82 }
set_option maxHeartbeats 8000000 in
set_option maxRecDepth 100000 in
theorem kx_X6_fail {l : Launch} (hst : l.stackTraces = false) {Z : zzG} {base : Nat} {PL : Nat → Option (Nat × Int32)} {mm : zzS} (kf : Nat × Int32) (q0 : Nat) (hq : PL q0 = some kf) (hkk : kf.1 = 0 ∨ kf.1 = 1 ∨ kf.1 = 4 ∨ kf.1 = 5 ∨ kf.1 = 7) (σ : zzS) : vx_Met l yX6_fail wsX6_fail rX6_fail (zxPc Z base (zzX Z base PL mm) [.ref q0] σ) (va_Qv (S := Unit) (fun _ => kf.2 = 0) (fun _ t => zzX Z base PL mm σ t.heap) (zzA base)) (zxE Z base PL mm σ "java/lang/IllegalStateException" (¬ kf.2 = 0)) rX6_fail.cells rX6_fail.slots (zzA base) := by
  refine zxMet_of (cc := cX6_fail) (nL := 1) (ret := none) (by decide) rfl (Nat.le_of_ble_eq_true rfl) [(0, .ref q0)] rfl (fun p e s m args below meth c C ht hT hZ H locs ls hW hS hl => ?_)
  refine lv_aload_n C.1.1 C.1.2.1 dX6_fail_0 rfl (lv_at hl 0 rfl) ?_
  have g : W p l e rX6_fail s m args below meth c H locs 0 0 (vx_MQ below (va_Qv (S := Unit) (fun _ => kf.2 = 0) (fun _ t => zzX Z base PL mm σ t.heap) (zzA base)) (zxE Z base PL mm σ "java/lang/IllegalStateException" (¬ kf.2 = 0)) args s rX6_fail.cells rX6_fail.slots (zzA base)) (F0 m (0 + 1 + 3) ls [.int kf.2]) → W p l e rX6_fail s m args below meth c H locs 0 0 (vx_MQ below (va_Qv (S := Unit) (fun _ => kf.2 = 0) (fun _ t => zzX Z base PL mm σ t.heap) (zzA base)) (zxE Z base PL mm σ "java/lang/IllegalStateException" (¬ kf.2 = 0)) args s rX6_fail.cells rX6_fail.slots (zzA base)) (F0 m (0 + 1) ls [.ref q0]) := by
    intro kk
    obtain ⟨k9, f9⟩ := kf
    rcases hkk with hkk | hkk | hkk | hkk | hkk
    · have hkk : k9 = 0 := hkk
      subst hkk
      refine va_get (C := RX6) (T := TX6) (N := 1) (own := RX6) (ref := RX6) C.1.1 C.1.2.1 C.1.2.2.2.2 (fun _ h9 => List.mem_cons_of_mem _ (List.mem_append_left _ (List.mem_append_left _ (List.mem_append_left _ (List.mem_append_right _ (h9)))))) C.1.2.2.2.1 C.2.2.2.1 (zzP1 (zzX_pers1 hq H hW)) 0 rfl rfl 0 (by decide) (C.1.2.2.2.2 _ (List.mem_of_getElem? (i := 3) rfl)) ?_ rfl dX6_fail_1 kk
      exact fun _ h => h
    · have hkk : k9 = 1 := hkk
      subst hkk
      refine va_get (C := RX9) (T := TX9) (N := 1) (own := RX6) (ref := RX6) C.1.1 C.1.2.1 C.1.2.2.2.2 (fun _ h9 => List.mem_cons_of_mem _ (List.mem_append_left _ (List.mem_append_right _ (h9)))) C.1.2.2.2.1 C.2.2.2.1 (zzP1 (zzX_pers1 hq H hW)) 0 rfl rfl 0 (by decide) (C.1.2.2.2.2 _ (List.mem_of_getElem? (i := 3) rfl)) ?_ rfl dX6_fail_1 kk
      exact fun _ h => h
    · have hkk : k9 = 4 := hkk
      subst hkk
      refine va_get (C := RX4) (T := TX4) (N := 1) (own := RX6) (ref := RX6) C.1.1 C.1.2.1 C.1.2.2.2.2 (fun _ h9 => List.mem_cons_of_mem _ (List.mem_append_left _ (List.mem_append_left _ (List.mem_append_left _ (List.mem_append_left _ (List.mem_append_left _ (List.mem_append_right _ (h9)))))))) C.1.2.2.2.1 C.2.2.2.1 (zzP1 (zzX_pers1 hq H hW)) 0 rfl rfl 0 (by decide) (C.1.2.2.2.2 _ (List.mem_of_getElem? (i := 3) rfl)) ?_ rfl dX6_fail_1 kk
      exact fun _ h => h
    · have hkk : k9 = 5 := hkk
      subst hkk
      refine va_get (C := RX5) (T := TX5) (N := 1) (own := RX6) (ref := RX6) C.1.1 C.1.2.1 C.1.2.2.2.2 (fun _ h9 => List.mem_cons_of_mem _ (List.mem_append_left _ (List.mem_append_left _ (List.mem_append_left _ (List.mem_append_left _ (List.mem_append_right _ (h9))))))) C.1.2.2.2.1 C.2.2.2.1 (zzP1 (zzX_pers1 hq H hW)) 0 rfl rfl 0 (by decide) (C.1.2.2.2.2 _ (List.mem_of_getElem? (i := 3) rfl)) ?_ rfl dX6_fail_1 kk
      exact fun _ h => h
    · have hkk : k9 = 7 := hkk
      subst hkk
      refine va_get (C := RX8) (T := TX8) (N := 1) (own := RX6) (ref := RX6) C.1.1 C.1.2.1 C.1.2.2.2.2 (fun _ h9 => List.mem_cons_of_mem _ (List.mem_append_left _ (List.mem_append_left _ (List.mem_append_right _ (h9))))) C.1.2.2.2.1 C.2.2.2.1 (zzP1 (zzX_pers1 hq H hW)) 0 rfl rfl 0 (by decide) (C.1.2.2.2.2 _ (List.mem_of_getElem? (i := 3) rfl)) ?_ rfl dX6_fail_1 kk
      exact fun _ h => h
  refine g ?_
  refine lv_if_eq (tgt := 17) C.1.1 C.1.2.1 dX6_fail_4 (by decide) (fun h0 => ?_) (fun h0 => ?_)
  · refine vx_ret (W.widen (k := 1) (n := 6) (Nat.zero_le _) (Nat.zero_le _) ?_)
    exact W.vret C.1.1 C.1.2.1 C.2.1 (fun t ht hWm => ⟨⟨(), rfl, h0, by show zzX Z base PL mm σ t.heap; rw [ht]; exact hW⟩, hS.F ht⟩) hS.2.2 dX6_fail_17 C.2.2.1
  · obtain ⟨sa, hsa⟩ := hT.2.2 _ (List.mem_of_getElem? (i := 2) rfl)
    refine vx_throwS (own := RX6) (cls := "java/lang/IllegalStateException") (text := "a person fails") (names := ["java/lang/RuntimeException", "java/lang/Exception"]) (ik := 13) (is := 15) (ic := 17) (sa := sa) (A := zzA base) C.1.1 C.1.2.1 hst C.1.2.2.2.1 (by decide +kernel) (by decide +kernel) (C.1.2.2.2.2 _ (List.mem_of_getElem? (i := 1) rfl)) (C.1.2.2.2.2 _ (List.mem_of_getElem? (i := 2) rfl)) hsa (zx_hat (ws := wsX6_fail) hT zxW_2 (fun w h => C.1.2.2.2.2 w (List.mem_cons_of_mem _ (List.mem_append_right _ (h)))) (by decide +kernel)) (fun w h => ?_) hZ.1 hZ.2 hS (hl.1.trans C.1.2.2.1.symm) dX6_fail_7 dX6_fail_10 dX6_fail_11 dX6_fail_13 dX6_fail_16 (fun x hx => (ht x hx).elim) (by decide) (by decide) (by decide) (by decide) C.2.2.1 (zxE_of h0 hW hS) hS.2.2 (Nat.le_refl _) (Nat.le_refl _)
    exact List.all_eq_true.mp (show (Cond.classLink RX6 13 "java/lang/IllegalStateException" :: Cond.initialized "java/lang/IllegalStateException" :: vx_atS RX6 17 "java/lang/IllegalStateException" ["java/lang/RuntimeException", "java/lang/Exception"]).all vx_ot = true by decide +kernel) w h
abbrev rX0_fail : Room := { frames := 6, cells := 1, slots := 6, locals := 82 }
set_option maxHeartbeats 8000000 in
set_option maxRecDepth 100000 in
theorem kx_X0_fail {l : Launch} (hst : l.stackTraces = false) {Z : zzG} {base : Nat} {PL : Nat → Option (Nat × Int32)} {mm : zzS} (kf : Nat × Int32) (q0 : Nat) (hq : PL q0 = some kf) (hkk : kf.1 = 2) (σ : zzS) : vx_Met l yX0_fail wsX0_fail rX0_fail (zxPc Z base (zzX Z base PL mm) [.ref q0] σ) (va_Qv (S := Unit) (fun _ => kf.2 = 0) (fun _ t => zzX Z base PL mm σ t.heap) (zzA base)) (zxE Z base PL mm σ "java/lang/IllegalArgumentException" (¬ kf.2 = 0)) rX0_fail.cells rX0_fail.slots (zzA base) := by
  refine zxMet_of (cc := cX0_fail) (nL := 1) (ret := none) (by decide) rfl (Nat.le_of_ble_eq_true rfl) [(0, .ref q0)] rfl (fun p e s m args below meth c C ht hT hZ H locs ls hW hS hl => ?_)
  refine lv_aload_n C.1.1 C.1.2.1 dX0_fail_0 rfl (lv_at hl 0 rfl) ?_
  have g : W p l e rX0_fail s m args below meth c H locs 0 0 (vx_MQ below (va_Qv (S := Unit) (fun _ => kf.2 = 0) (fun _ t => zzX Z base PL mm σ t.heap) (zzA base)) (zxE Z base PL mm σ "java/lang/IllegalArgumentException" (¬ kf.2 = 0)) args s rX0_fail.cells rX0_fail.slots (zzA base)) (F0 m (0 + 1 + 3) ls [.int kf.2]) → W p l e rX0_fail s m args below meth c H locs 0 0 (vx_MQ below (va_Qv (S := Unit) (fun _ => kf.2 = 0) (fun _ t => zzX Z base PL mm σ t.heap) (zzA base)) (zxE Z base PL mm σ "java/lang/IllegalArgumentException" (¬ kf.2 = 0)) args s rX0_fail.cells rX0_fail.slots (zzA base)) (F0 m (0 + 1) ls [.ref q0]) := by
    intro kk
    obtain ⟨k9, f9⟩ := kf
    have hkk : k9 = 2 := hkk
    subst hkk
    refine va_get (C := RX0) (T := TX0) (N := 1) (own := RX0) (ref := RX0) C.1.1 C.1.2.1 C.1.2.2.2.2 (fun _ h9 => List.mem_cons_of_mem _ (List.mem_append_left _ (List.mem_append_left _ (List.mem_append_left _ (List.mem_append_left _ (List.mem_append_left _ (List.mem_append_left _ (List.mem_append_left _ (List.mem_append_left _ (List.mem_append_right _ (h9))))))))))) C.1.2.2.2.1 C.2.2.2.1 (zzP1 (zzX_pers1 hq H hW)) 0 rfl rfl 0 (by decide) (C.1.2.2.2.2 _ (List.mem_of_getElem? (i := 3) rfl)) ?_ rfl dX0_fail_1 kk
    exact fun x => u_same (C.1.2.2.2.2 _ (List.mem_of_getElem? (i := 4) rfl)) x
  refine g ?_
  refine lv_if_eq (tgt := 17) C.1.1 C.1.2.1 dX0_fail_4 (by decide) (fun h0 => ?_) (fun h0 => ?_)
  · refine vx_ret (W.widen (k := 1) (n := 6) (Nat.zero_le _) (Nat.zero_le _) ?_)
    exact W.vret C.1.1 C.1.2.1 C.2.1 (fun t ht hWm => ⟨⟨(), rfl, h0, by show zzX Z base PL mm σ t.heap; rw [ht]; exact hW⟩, hS.F ht⟩) hS.2.2 dX0_fail_17 C.2.2.1
  · obtain ⟨sa, hsa⟩ := hT.2.2 _ (List.mem_of_getElem? (i := 0) rfl)
    refine vx_throwS (own := RX0) (cls := "java/lang/IllegalArgumentException") (text := "a blusher fails") (names := ["java/lang/RuntimeException", "java/lang/Exception"]) (ik := 23) (is := 25) (ic := 27) (sa := sa) (A := zzA base) C.1.1 C.1.2.1 hst C.1.2.2.2.1 (by decide +kernel) (by decide +kernel) (C.1.2.2.2.2 _ (List.mem_of_getElem? (i := 1) rfl)) (C.1.2.2.2.2 _ (List.mem_of_getElem? (i := 2) rfl)) hsa (zx_hat (ws := wsX0_fail) hT zxW_1 (fun w h => C.1.2.2.2.2 w (List.mem_cons_of_mem _ (List.mem_append_right _ (h)))) (by decide +kernel)) (fun w h => ?_) hZ.1 hZ.2 hS (hl.1.trans C.1.2.2.1.symm) dX0_fail_7 dX0_fail_10 dX0_fail_11 dX0_fail_13 dX0_fail_16 (fun x hx => (ht x hx).elim) (by decide) (by decide) (by decide) (by decide) C.2.2.1 (zxE_of h0 hW hS) hS.2.2 (Nat.le_refl _) (Nat.le_refl _)
    exact List.all_eq_true.mp (show (Cond.classLink RX0 23 "java/lang/IllegalArgumentException" :: Cond.initialized "java/lang/IllegalArgumentException" :: vx_atS RX0 27 "java/lang/IllegalArgumentException" ["java/lang/RuntimeException", "java/lang/Exception"]).all vx_ot = true by decide +kernel) w h
abbrev rX3_fail : Room := { frames := 6, cells := 1, slots := 6, locals := 82 }
set_option maxHeartbeats 8000000 in
set_option maxRecDepth 100000 in
theorem kx_X3_fail {l : Launch} (hst : l.stackTraces = false) {Z : zzG} {base : Nat} {PL : Nat → Option (Nat × Int32)} {mm : zzS} (kf : Nat × Int32) (q0 : Nat) (hq : PL q0 = some kf) (hkk : kf.1 = 6) (σ : zzS) : vx_Met l yX3_fail wsX3_fail rX3_fail (zxPc Z base (zzX Z base PL mm) [.ref q0] σ) (va_Qv (S := Unit) (fun _ => kf.2 = 0) (fun _ t => zzX Z base PL mm σ t.heap) (zzA base)) (zxE Z base PL mm σ "java/lang/UnsupportedOperationException" (¬ kf.2 = 0)) rX3_fail.cells rX3_fail.slots (zzA base) := by
  refine zxMet_of (cc := cX3_fail) (nL := 1) (ret := none) (by decide) rfl (Nat.le_of_ble_eq_true rfl) [(0, .ref q0)] rfl (fun p e s m args below meth c C ht hT hZ H locs ls hW hS hl => ?_)
  refine lv_aload_n C.1.1 C.1.2.1 dX3_fail_0 rfl (lv_at hl 0 rfl) ?_
  have g : W p l e rX3_fail s m args below meth c H locs 0 0 (vx_MQ below (va_Qv (S := Unit) (fun _ => kf.2 = 0) (fun _ t => zzX Z base PL mm σ t.heap) (zzA base)) (zxE Z base PL mm σ "java/lang/UnsupportedOperationException" (¬ kf.2 = 0)) args s rX3_fail.cells rX3_fail.slots (zzA base)) (F0 m (0 + 1 + 3) ls [.int kf.2]) → W p l e rX3_fail s m args below meth c H locs 0 0 (vx_MQ below (va_Qv (S := Unit) (fun _ => kf.2 = 0) (fun _ t => zzX Z base PL mm σ t.heap) (zzA base)) (zxE Z base PL mm σ "java/lang/UnsupportedOperationException" (¬ kf.2 = 0)) args s rX3_fail.cells rX3_fail.slots (zzA base)) (F0 m (0 + 1) ls [.ref q0]) := by
    intro kk
    obtain ⟨k9, f9⟩ := kf
    have hkk : k9 = 6 := hkk
    subst hkk
    refine va_get (C := RX3) (T := TX3) (N := 1) (own := RX3) (ref := RX3) C.1.1 C.1.2.1 C.1.2.2.2.2 (fun _ h9 => List.mem_cons_of_mem _ (List.mem_append_left _ (List.mem_append_left _ (List.mem_append_left _ (List.mem_append_left _ (List.mem_append_left _ (List.mem_append_left _ (List.mem_append_right _ (h9))))))))) C.1.2.2.2.1 C.2.2.2.1 (zzP1 (zzX_pers1 hq H hW)) 0 rfl rfl 0 (by decide) (C.1.2.2.2.2 _ (List.mem_of_getElem? (i := 3) rfl)) ?_ rfl dX3_fail_1 kk
    exact fun x => u_same (C.1.2.2.2.2 _ (List.mem_of_getElem? (i := 4) rfl)) x
  refine g ?_
  refine lv_if_eq (tgt := 17) C.1.1 C.1.2.1 dX3_fail_4 (by decide) (fun h0 => ?_) (fun h0 => ?_)
  · refine vx_ret (W.widen (k := 1) (n := 6) (Nat.zero_le _) (Nat.zero_le _) ?_)
    exact W.vret C.1.1 C.1.2.1 C.2.1 (fun t ht hWm => ⟨⟨(), rfl, h0, by show zzX Z base PL mm σ t.heap; rw [ht]; exact hW⟩, hS.F ht⟩) hS.2.2 dX3_fail_17 C.2.2.1
  · obtain ⟨sa, hsa⟩ := hT.2.2 _ (List.mem_of_getElem? (i := 1) rfl)
    refine vx_throwS (own := RX3) (cls := "java/lang/UnsupportedOperationException") (text := "a deaf one fails") (names := ["java/lang/RuntimeException", "java/lang/Exception"]) (ik := 23) (is := 25) (ic := 27) (sa := sa) (A := zzA base) C.1.1 C.1.2.1 hst C.1.2.2.2.1 (by decide +kernel) (by decide +kernel) (C.1.2.2.2.2 _ (List.mem_of_getElem? (i := 1) rfl)) (C.1.2.2.2.2 _ (List.mem_of_getElem? (i := 2) rfl)) hsa (zx_hat (ws := wsX3_fail) hT zxW_3 (fun w h => C.1.2.2.2.2 w (List.mem_cons_of_mem _ (List.mem_append_right _ (h)))) (by decide +kernel)) (fun w h => ?_) hZ.1 hZ.2 hS (hl.1.trans C.1.2.2.1.symm) dX3_fail_7 dX3_fail_10 dX3_fail_11 dX3_fail_13 dX3_fail_16 (fun x hx => (ht x hx).elim) (by decide) (by decide) (by decide) (by decide) C.2.2.1 (zxE_of h0 hW hS) hS.2.2 (Nat.le_refl _) (Nat.le_refl _)
    exact List.all_eq_true.mp (show (Cond.classLink RX3 23 "java/lang/UnsupportedOperationException" :: Cond.initialized "java/lang/UnsupportedOperationException" :: vx_atS RX3 27 "java/lang/UnsupportedOperationException" ["java/lang/RuntimeException", "java/lang/Exception"]).all vx_ot = true by decide +kernel) w h
abbrev rX1_fail : Room := { frames := 6, cells := 1, slots := 6, locals := 82 }
set_option maxHeartbeats 8000000 in
theorem kx_X1_fail {l : Launch} {Z : zzG} {base : Nat} {PL : Nat → Option (Nat × Int32)} {mm : zzS} (q0 : Nat) (σ : zzS) : vx_Met l yX1_fail wsX1_fail rX1_fail (zxPc Z base (zzX Z base PL mm) [.ref q0] σ) (va_Qv (S := Unit) (fun _ => True) (fun _ t => zzX Z base PL mm σ t.heap) (zzA base)) (fun _ _ _ => False) rX1_fail.cells rX1_fail.slots (zzA base) := by
  refine zxMet_of (cc := cX1_fail) (nL := 1) (ret := none) (by decide) rfl (Nat.le_of_ble_eq_true rfl) [(0, .ref q0)] rfl (fun p e s m args below meth c C ht hT hZ H locs ls hW hS hl => ?_)
  refine vx_ret (W.widen (k := 1) (n := 6) (Nat.zero_le _) (Nat.zero_le _) ?_)
  exact W.vret C.1.1 C.1.2.1 C.2.1 (fun t ht hWm => ⟨⟨(), rfl, trivial, by show zzX Z base PL mm σ t.heap; rw [ht]; exact hW⟩, hS.F ht⟩) hS.2.2 dX1_fail_0 C.2.2.1
