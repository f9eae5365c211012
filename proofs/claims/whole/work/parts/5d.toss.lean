/-! ===== toss ===== -/
theorem zt_0 {k : Nat} {f : Int32} (h : f = 0) : ztoss (k, f) = -15 := by
  unfold ztoss
  by_cases c : k = 3
  · rw [if_pos c]
  · rw [if_neg c, if_pos h]
theorem zt_2 {f : Int32} (h : ¬ f = 0) : ztoss (2, f) = 100 + f := by
  unfold ztoss
  rw [if_neg (show ¬ 2 = 3 by decide), if_neg h, if_pos rfl]
theorem zt_6 {f : Int32} (h : ¬ f = 0) : ztoss (6, f) = 200 + zzprice (6, f) := by
  unfold ztoss
  rw [if_neg (show ¬ 6 = 3 by decide), if_neg h, if_neg (show ¬ 6 = 2 by decide), if_pos rfl]
theorem zt_o {k : Nat} {f : Int32} (h : ¬ f = 0) (h2 : k ≠ 2) (h3 : k ≠ 3) (h6 : k ≠ 6) : ztoss (k, f) = f := by
  unfold ztoss
  rw [if_neg h3, if_neg h, if_neg h2, if_neg h6]
section TS
variable {p : Program} {l : Launch} {e : Env} {R : Room} {s : State} {m : MethodId} {args : Array Value} {below : List Frame} {meth : Method} {c : Code} {H : Heap} {locs : List Loc} {cells slots pc : Nat} {Q : State → Prop} {ls : Array Slot} {st0 rest : List Value} {Z : zzG} {base : Nat} {PL : Nat → Option (Nat × Int32)} {mm σ : zzS}
theorem zx_callv {P px : Prop} {E : String} {XC : String → State → State → Prop} {a : Array Value} (hXC : ∀ E1 st t, XC E1 st t → zxE Z base PL mm σ E px E1 st t) (hr : vx_Run p l e R s m args below meth c H locs cells slots 1 6 (F0 m pc ls st0) rest (va_Qv (S := Unit) (fun _ => P) (fun _ t => zzX Z base PL mm σ t.heap) (zzA base) a) XC (zzA base)) (hS : va_S (zzA base) s.heap H locs)
    (kx : px → ∀ (q9 : Addr) (ce : Cell) (H1 : Heap) (locs1 : List Loc), zzX Z base PL mm σ H1 → va_S (zzA base) s.heap H1 locs1 → H1[q9]? = some ce → ce.vm = .none → s.vm.findClass E = some ce.cls → vx_W p l e R s m args below meth c H1 locs1 (cells + 1) (slots + 6) Q (F0 m pc ls rest) q9)
    (kk : P → ∀ (H1 : Heap) (locs1 : List Loc), zzX Z base PL mm σ H1 → va_S (zzA base) s.heap H1 locs1 → W p l e R s m args below meth c H1 locs1 (cells + 1) (slots + 6) Q (F0 m (pc + 3) ls rest)) : W p l e R s m args below meth c H locs cells slots Q (F0 m pc ls st0) := by
  have hr2 : vx_Run p l e R s m args below meth c H locs cells slots 1 6 (F0 m pc ls st0) rest (va_Qv (S := Unit) (fun _ => P) (fun _ t => zzX Z base PL mm σ t.heap) (zzA base) a) (zxE Z base PL mm σ E px) (zzA base) := fun T hT X => by
    rcases hr T hT X with h | ⟨q, st₀, t, T', L, E1, ce, h1, h2, h3, h4, h5, h6, h7⟩
    · exact Or.inl h
    · exact Or.inr ⟨q, st₀, t, T', L, E1, ce, h1, h2, h3, h4, h5, hXC _ _ _ h6, h7⟩
  refine vx_callv hr2 hS (fun _ _ h => h) (fun _ h => h) (fun _ _ h => h) (fun E1 ce q9 u t H1 locs1 h1 _ hp ⟨hE, hW⟩ _ _ hS1 h2 h3 h4 => ?_) (fun u t H1 locs1 h1 _ hp hW _ _ hS1 => ?_)
  · subst hE
    exact kx hp q9 ce H1 locs1 (h1 ▸ hW) hS1 h2 h3 h4
  · exact kk hp H1 locs1 (h1 ▸ hW) hS1
end TS
abbrev rX11_toss : Room := { frames := 7, cells := 1, slots := 6, locals := 102 }
set_option maxHeartbeats 8000000 in
set_option maxRecDepth 100000 in
theorem w_X11_toss_e {l : Launch} (hst : l.stackTraces = false) {Z : zzG} {base : Nat} {PL : Nat → Option (Nat × Int32)} {mm : zzS} {p : Program} {e : Env} {s : State} {m : MethodId} {args : Array Value} {below : List Frame} {meth : Method} {c : Code} (C : zzCx p m meth c s args cX11_toss 4 wsX11_toss RX11 (some .int) Z) (ht : c.exceptionTable.toList = tableOf [(16, 20, 23, 298), (16, 20, 33, 265), (16, 20, 42, 274)]) (hT : zxT s) (hZ : zxZ (zzA base) s s.heap) (p0 : Int32)  (σ : zzS) : zzGO p l e rX11_toss s m args below meth c 4 (zzA base) (zzX Z base PL mm) (zzX Z base PL mm) zzRI rX11_toss.cells rX11_toss.slots (f_X11_toss p0 σ) σ 0 0 0 [(0, .ref (zzad Z 0)), (1, .int p0)] [] := by
  unfold f_X11_toss
  refine zz_aload_n C dX11_toss_0 rfl 0 rfl ?_
  refine zz_iload_n C dX11_toss_1 rfl 1 rfl ?_
  refine zz_callV C (Cn := RX11) (b := zzad Z 0) (fun H hH => zz_recv C.2.2.2 (zzX_obj H hH) rfl) (As := [.int p0]) (rest := []) rfl (k_X11_oneOn p0 σ) (cwV 1 C.1.2.2.2.2 gX11_toss_X11_oneOn rfl rfl rfl (by decide +kernel) ⟨Nat.le_of_ble_eq_true rfl, Nat.le_of_ble_eq_true rfl⟩) rfl (Nat.le_of_ble_eq_true rfl) ⟨Nat.zero_le _, Nat.zero_le _⟩ dX11_toss_2 (zz_kP rfl rfl (fun r1 σ2 c3 hp4 => ?_))
  refine zz_astoreq_n (loc' := [(2, va_rf c3), (0, .ref (zzad Z 0)), (1, .int p0)]) C dX11_toss_5 rfl (by decide) rfl ?_
  refine zz_aloadq_n C dX11_toss_6 rfl 0 rfl ?_
  refine zz_ifnonnullP (tgt := 16) C hp4 dX11_toss_7 (by decide) (fun h7 h8 => ?_) (fun kf5 q6 h7 h8 hq9 => ?_)
  · subst h8
    refine zz_aload_n C dX11_toss_10 rfl 1 rfl ?_
    refine zz_iload_n C dX11_toss_11 rfl 2 rfl ?_
    refine zz_callV C (Cn := RX11) (b := zzad Z 0) (fun H hH => zz_recv C.2.2.2 (zzX_obj H hH) rfl) (As := [.int p0]) (rest := []) rfl (k_X11_refusalWithoutOne p0 σ2) (cwV 1 C.1.2.2.2.2 gX11_toss_X11_refusalWithoutOne rfl rfl rfl (by decide +kernel) ⟨Nat.le_of_ble_eq_true rfl, Nat.le_of_ble_eq_true rfl⟩) rfl (Nat.le_of_ble_eq_true rfl) ⟨Nat.zero_le _, Nat.zero_le _⟩ dX11_toss_12 (zz_kI rfl rfl (fun r10 σ11 => ?_))
    exact zz_iret C rfl rfl (fun _ h9 => h9) (Nat.zero_le _) (Nat.zero_le _) dX11_toss_15
  · subst h8
    refine zz_aload_n C dX11_toss_16 rfl 0 rfl ?_
    have done : ∀ r, zzRI r (some (.int (-15))) → zzGO p l e rX11_toss s m args below meth c 4 (zzA base) (zzX Z base PL mm) (zzX Z base PL mm) zzRI rX11_toss.cells rX11_toss.slots (some (r, σ2)) σ2 (0 + 0 + 1) (0 + 0 + 6) (16 + 1 + 3) [(2, .ref q6), (0, .ref (zzad Z 0)), (1, .int p0)] [] := fun r hr => by
      refine zz_goto (tgt := 48) C dX11_toss_20 (by decide) ?_
      refine zz_bipush (v := -15) C dX11_toss_48 (by decide) ?_
      exact zz_iret C rfl hr (fun _ h9 => h9) (Nat.le_refl _) (Nat.le_refl _) dX11_toss_50
    intro r σ' hf H locs ls hW hS hl
    have h8 := zz_kind8 (hW.1.2.2.1 q6 kf5 hq9).1
    obtain ⟨k9, f9⟩ := kf5
    rcases h8 with h8 | h8 | h8 | h8 | h8 | h8 | h8 | h8
    · have h8 : k9 = 0 := h8
      subst h8
      refine zx_callv (fun _ _ _ h => h) (vx_runV (As := []) (rest := []) (C := RX6) C.1 (kx_X6_fail hst (0, f9) q6 hq9 (Or.inl rfl) σ2) (cwV 0 C.1.2.2.2.2 gX11_toss_X6_fail rfl rfl rfl (by decide +kernel) ⟨Nat.le_of_ble_eq_true rfl, Nat.le_of_ble_eq_true rfl⟩) ⟨zxPc_blind, zz_recv C.2.2.2 (zzX_pers1 hq9 H hW) rfl, fun U hU hWm => zxPc_at C.2.2.2 hT hZ hS hU hWm hW⟩ rfl rfl hl.1 rfl (lv_room (show ([].map fun v : Value => v.category).sum ≤ 8 by decide)) dX11_toss_17 ⟨Nat.le_of_ble_eq_true rfl, Nat.le_of_ble_eq_true rfl⟩) hS (fun hn q9 ce H1 locs1 hW1 hS1 c1 c2 c3 => ?_) (fun h0 H1 locs1 hW1 hS1 => ?_)
      · refine vx_catch (own := RX11) (name := "java/lang/IllegalStateException") C.1.2.2.2.1 [⟨16, 20, 23, 298⟩, ⟨16, 20, 33, 265⟩] ⟨16, 20, 42, 274⟩ [] (ht.trans rfl) (fun z hz => ?_) (by decide) (by decide) (C.1.2.2.2.2 _ (List.mem_of_getElem? (i := 3) rfl)) (va_Nw.use rfl (hT.1 _ (List.mem_of_getElem? (i := 4) rfl))) c1 c2 c3 ?_
        · simp only [List.mem_cons, List.not_mem_nil, or_false] at hz
          rcases hz with rfl | rfl
          · exact Or.inr ⟨by decide, _, C.1.2.2.2.2 _ (List.mem_of_getElem? (i := 1) rfl), hT.2.1 _ (List.mem_of_getElem? (i := 1) rfl)⟩
          · exact Or.inr ⟨by decide, _, C.1.2.2.2.2 _ (List.mem_of_getElem? (i := 2) rfl), hT.2.1 _ (List.mem_of_getElem? (i := 2) rfl)⟩
        · have hf2 : some ((f9 : Int32), σ2) = some (r, σ') := by rw [← hf, zt_o hn (by decide) (by decide) (by decide)]
          have go : zzGO p l e rX11_toss s m args below meth c 4 (zzA base) (zzX Z base PL mm) (zzX Z base PL mm) zzRI rX11_toss.cells rX11_toss.slots (some ((f9 : Int32), σ2)) σ2 (0 + 0 + 1) (0 + 0 + 6) 42 [(2, .ref q6), (0, .ref (zzad Z 0)), (1, .int p0)] [.ref q9] := by
            refine zz_astore_n (loc' := [(3, .ref q9), (2, .ref q6), (0, .ref (zzad Z 0)), (1, .int p0)]) C dX11_toss_42 rfl (by decide) rfl ?_
            refine zz_aload_n C dX11_toss_43 rfl 1 rfl ?_
            refine zz_get C (Cn := RX6) (T := TX6) (N := 1) (zzX_pers1 hq9) (fun _ h9 => List.mem_cons_of_mem _ (List.mem_append_left _ (List.mem_append_left _ (List.mem_append_left _ (List.mem_append_left _ (List.mem_append_left _ (List.mem_append_left _ (List.mem_append_right _ (h9))))))))) rfl 0 (by decide) (List.mem_of_getElem? (i := 4) rfl) (Or.inl rfl) rfl dX11_toss_44 ?_
            exact zz_iret C rfl rfl (fun _ h9 => h9) (Nat.le_refl _) (Nat.le_refl _) dX11_toss_47
          exact go r σ' hf2 H1 locs1 ls hW1 hS1 hl
      · exact done (ztoss (0, f9)) (by rw [zt_0 h0]; rfl) r σ' hf H1 locs1 ls hW1 hS1 hl
    · have h8 : k9 = 1 := h8
      subst h8
      refine zx_callv (fun _ _ _ h => h) (vx_runU (As := []) (rest := []) (C := RX9) C.1 (kx_X6_fail hst (1, f9) q6 hq9 (Or.inr (Or.inl rfl)) σ2) (va_cwU 0 C.1.2.2.2.2 gX11_toss_X6_fail_u295X9 rfl rfl rfl rfl (by decide +kernel) ⟨Nat.le_of_ble_eq_true rfl, Nat.le_of_ble_eq_true rfl⟩) ⟨zxPc_blind, zz_recv C.2.2.2 (zzX_pers1 hq9 H hW) rfl, fun U hU hWm => zxPc_at C.2.2.2 hT hZ hS hU hWm hW⟩ rfl rfl hl.1 rfl (lv_room (show ([].map fun v : Value => v.category).sum ≤ 8 by decide)) dX11_toss_17 ⟨Nat.le_of_ble_eq_true rfl, Nat.le_of_ble_eq_true rfl⟩) hS (fun hn q9 ce H1 locs1 hW1 hS1 c1 c2 c3 => ?_) (fun h0 H1 locs1 hW1 hS1 => ?_)
      · refine vx_catch (own := RX11) (name := "java/lang/IllegalStateException") C.1.2.2.2.1 [⟨16, 20, 23, 298⟩, ⟨16, 20, 33, 265⟩] ⟨16, 20, 42, 274⟩ [] (ht.trans rfl) (fun z hz => ?_) (by decide) (by decide) (C.1.2.2.2.2 _ (List.mem_of_getElem? (i := 3) rfl)) (va_Nw.use rfl (hT.1 _ (List.mem_of_getElem? (i := 4) rfl))) c1 c2 c3 ?_
        · simp only [List.mem_cons, List.not_mem_nil, or_false] at hz
          rcases hz with rfl | rfl
          · exact Or.inr ⟨by decide, _, C.1.2.2.2.2 _ (List.mem_of_getElem? (i := 1) rfl), hT.2.1 _ (List.mem_of_getElem? (i := 1) rfl)⟩
          · exact Or.inr ⟨by decide, _, C.1.2.2.2.2 _ (List.mem_of_getElem? (i := 2) rfl), hT.2.1 _ (List.mem_of_getElem? (i := 2) rfl)⟩
        · have hf2 : some ((f9 : Int32), σ2) = some (r, σ') := by rw [← hf, zt_o hn (by decide) (by decide) (by decide)]
          have go : zzGO p l e rX11_toss s m args below meth c 4 (zzA base) (zzX Z base PL mm) (zzX Z base PL mm) zzRI rX11_toss.cells rX11_toss.slots (some ((f9 : Int32), σ2)) σ2 (0 + 0 + 1) (0 + 0 + 6) 42 [(2, .ref q6), (0, .ref (zzad Z 0)), (1, .int p0)] [.ref q9] := by
            refine zz_astore_n (loc' := [(3, .ref q9), (2, .ref q6), (0, .ref (zzad Z 0)), (1, .int p0)]) C dX11_toss_42 rfl (by decide) rfl ?_
            refine zz_aload_n C dX11_toss_43 rfl 1 rfl ?_
            refine zz_get C (Cn := RX9) (T := TX9) (N := 1) (zzX_pers1 hq9) (fun _ h9 => List.mem_cons_of_mem _ (List.mem_append_left _ (List.mem_append_left _ (List.mem_append_left _ (List.mem_append_left _ (List.mem_append_right _ (h9))))))) rfl 0 (by decide) (List.mem_of_getElem? (i := 4) rfl) (Or.inl rfl) rfl dX11_toss_44 ?_
            exact zz_iret C rfl rfl (fun _ h9 => h9) (Nat.le_refl _) (Nat.le_refl _) dX11_toss_47
          exact go r σ' hf2 H1 locs1 ls hW1 hS1 hl
      · exact done (ztoss (1, f9)) (by rw [zt_0 h0]; rfl) r σ' hf H1 locs1 ls hW1 hS1 hl
    · have h8 : k9 = 2 := h8
      subst h8
      refine zx_callv (fun _ _ _ h => h) (vx_runU (As := []) (rest := []) (C := RX0) C.1 (kx_X0_fail hst (2, f9) q6 hq9 rfl σ2) (va_cwO 0 C.1.2.2.2.2 gX11_toss_X0_fail_u295X0 rfl rfl rfl (List.mem_of_getElem? (i := 34) rfl) (by decide +kernel) ⟨Nat.le_of_ble_eq_true rfl, Nat.le_of_ble_eq_true rfl⟩) ⟨zxPc_blind, zz_recv C.2.2.2 (zzX_pers1 hq9 H hW) rfl, fun U hU hWm => zxPc_at C.2.2.2 hT hZ hS hU hWm hW⟩ rfl rfl hl.1 rfl (lv_room (show ([].map fun v : Value => v.category).sum ≤ 8 by decide)) dX11_toss_17 ⟨Nat.le_of_ble_eq_true rfl, Nat.le_of_ble_eq_true rfl⟩) hS (fun hn q9 ce H1 locs1 hW1 hS1 c1 c2 c3 => ?_) (fun h0 H1 locs1 hW1 hS1 => ?_)
      · refine vx_catch (own := RX11) (name := "java/lang/IllegalArgumentException") C.1.2.2.2.1 [⟨16, 20, 23, 298⟩] ⟨16, 20, 33, 265⟩ [⟨16, 20, 42, 274⟩] (ht.trans rfl) (fun z hz => ?_) (by decide) (by decide) (C.1.2.2.2.2 _ (List.mem_of_getElem? (i := 2) rfl)) (va_Nw.use rfl (hT.1 _ (List.mem_of_getElem? (i := 0) rfl))) c1 c2 c3 ?_
        · rcases List.mem_singleton.mp hz with rfl
          exact Or.inr ⟨by decide, _, C.1.2.2.2.2 _ (List.mem_of_getElem? (i := 1) rfl), hT.2.1 _ (List.mem_of_getElem? (i := 0) rfl)⟩
        · have hf2 : some ((100 + f9 : Int32), σ2) = some (r, σ') := by rw [← hf, zt_2 hn]
          have go : zzGO p l e rX11_toss s m args below meth c 4 (zzA base) (zzX Z base PL mm) (zzX Z base PL mm) zzRI rX11_toss.cells rX11_toss.slots (some ((100 + f9 : Int32), σ2)) σ2 (0 + 0 + 1) (0 + 0 + 6) 33 [(2, .ref q6), (0, .ref (zzad Z 0)), (1, .int p0)] [.ref q9] := by
            refine zz_astore_n (loc' := [(3, .ref q9), (2, .ref q6), (0, .ref (zzad Z 0)), (1, .int p0)]) C dX11_toss_33 rfl (by decide) rfl ?_
            refine zz_bipush (v := 100) C dX11_toss_34 (by decide) ?_
            refine zz_aload_n C dX11_toss_36 rfl 1 rfl ?_
            refine zz_get C (Cn := RX0) (T := TX0) (N := 1) (zzX_pers1 hq9) (fun _ h9 => List.mem_cons_of_mem _ (List.mem_append_left _ (List.mem_append_left _ (List.mem_append_left _ (List.mem_append_left _ (List.mem_append_left _ (List.mem_append_left _ (List.mem_append_left _ (List.mem_append_left _ (List.mem_append_left _ (List.mem_append_left _ (List.mem_append_left _ (List.mem_append_right _ (h9)))))))))))))) rfl 0 (by decide) (List.mem_of_getElem? (i := 4) rfl) (Or.inl rfl) rfl dX11_toss_37 ?_
            refine zz_iadd C dX11_toss_40 ?_
            exact zz_iret C rfl rfl (fun _ h9 => h9) (Nat.le_refl _) (Nat.le_refl _) dX11_toss_41
          exact go r σ' hf2 H1 locs1 ls hW1 hS1 hl
      · exact done (ztoss (2, f9)) (by rw [zt_0 h0]; rfl) r σ' hf H1 locs1 ls hW1 hS1 hl
    · have h8 : k9 = 3 := h8
      subst h8
      refine zx_callv (E := "") (px := False) (fun _ _ _ h => False.elim h) (vx_runU (As := []) (rest := []) (C := RX1) C.1 (kx_X1_fail q6 σ2) (va_cwO 0 C.1.2.2.2.2 gX11_toss_X1_fail_u295X1 rfl rfl rfl (List.mem_of_getElem? (i := 34) rfl) (by decide +kernel) ⟨Nat.le_of_ble_eq_true rfl, Nat.le_of_ble_eq_true rfl⟩) ⟨zxPc_blind, zz_recv C.2.2.2 (zzX_pers1 hq9 H hW) rfl, fun U hU hWm => zxPc_at C.2.2.2 hT hZ hS hU hWm hW⟩ rfl rfl hl.1 rfl (lv_room (show ([].map fun v : Value => v.category).sum ≤ 8 by decide)) dX11_toss_17 ⟨Nat.le_of_ble_eq_true rfl, Nat.le_of_ble_eq_true rfl⟩) hS (fun hn => False.elim hn) (fun _ H1 locs1 hW1 hS1 => ?_)
      exact done (ztoss (3, f9)) rfl r σ' hf H1 locs1 ls hW1 hS1 hl
    · have h8 : k9 = 4 := h8
      subst h8
      refine zx_callv (fun _ _ _ h => h) (vx_runU (As := []) (rest := []) (C := RX4) C.1 (kx_X6_fail hst (4, f9) q6 hq9 (Or.inr (Or.inr (Or.inl rfl))) σ2) (va_cwU 0 C.1.2.2.2.2 gX11_toss_X6_fail_u295X4 rfl rfl rfl rfl (by decide +kernel) ⟨Nat.le_of_ble_eq_true rfl, Nat.le_of_ble_eq_true rfl⟩) ⟨zxPc_blind, zz_recv C.2.2.2 (zzX_pers1 hq9 H hW) rfl, fun U hU hWm => zxPc_at C.2.2.2 hT hZ hS hU hWm hW⟩ rfl rfl hl.1 rfl (lv_room (show ([].map fun v : Value => v.category).sum ≤ 8 by decide)) dX11_toss_17 ⟨Nat.le_of_ble_eq_true rfl, Nat.le_of_ble_eq_true rfl⟩) hS (fun hn q9 ce H1 locs1 hW1 hS1 c1 c2 c3 => ?_) (fun h0 H1 locs1 hW1 hS1 => ?_)
      · refine vx_catch (own := RX11) (name := "java/lang/IllegalStateException") C.1.2.2.2.1 [⟨16, 20, 23, 298⟩, ⟨16, 20, 33, 265⟩] ⟨16, 20, 42, 274⟩ [] (ht.trans rfl) (fun z hz => ?_) (by decide) (by decide) (C.1.2.2.2.2 _ (List.mem_of_getElem? (i := 3) rfl)) (va_Nw.use rfl (hT.1 _ (List.mem_of_getElem? (i := 4) rfl))) c1 c2 c3 ?_
        · simp only [List.mem_cons, List.not_mem_nil, or_false] at hz
          rcases hz with rfl | rfl
          · exact Or.inr ⟨by decide, _, C.1.2.2.2.2 _ (List.mem_of_getElem? (i := 1) rfl), hT.2.1 _ (List.mem_of_getElem? (i := 1) rfl)⟩
          · exact Or.inr ⟨by decide, _, C.1.2.2.2.2 _ (List.mem_of_getElem? (i := 2) rfl), hT.2.1 _ (List.mem_of_getElem? (i := 2) rfl)⟩
        · have hf2 : some ((f9 : Int32), σ2) = some (r, σ') := by rw [← hf, zt_o hn (by decide) (by decide) (by decide)]
          have go : zzGO p l e rX11_toss s m args below meth c 4 (zzA base) (zzX Z base PL mm) (zzX Z base PL mm) zzRI rX11_toss.cells rX11_toss.slots (some ((f9 : Int32), σ2)) σ2 (0 + 0 + 1) (0 + 0 + 6) 42 [(2, .ref q6), (0, .ref (zzad Z 0)), (1, .int p0)] [.ref q9] := by
            refine zz_astore_n (loc' := [(3, .ref q9), (2, .ref q6), (0, .ref (zzad Z 0)), (1, .int p0)]) C dX11_toss_42 rfl (by decide) rfl ?_
            refine zz_aload_n C dX11_toss_43 rfl 1 rfl ?_
            refine zz_get C (Cn := RX4) (T := TX4) (N := 1) (zzX_pers1 hq9) (fun _ h9 => List.mem_cons_of_mem _ (List.mem_append_left _ (List.mem_append_left _ (List.mem_append_left _ (List.mem_append_left _ (List.mem_append_left _ (List.mem_append_left _ (List.mem_append_left _ (List.mem_append_left _ (List.mem_append_right _ (h9))))))))))) rfl 0 (by decide) (List.mem_of_getElem? (i := 4) rfl) (Or.inl rfl) rfl dX11_toss_44 ?_
            exact zz_iret C rfl rfl (fun _ h9 => h9) (Nat.le_refl _) (Nat.le_refl _) dX11_toss_47
          exact go r σ' hf2 H1 locs1 ls hW1 hS1 hl
      · exact done (ztoss (4, f9)) (by rw [zt_0 h0]; rfl) r σ' hf H1 locs1 ls hW1 hS1 hl
    · have h8 : k9 = 5 := h8
      subst h8
      refine zx_callv (fun _ _ _ h => h) (vx_runU (As := []) (rest := []) (C := RX5) C.1 (kx_X6_fail hst (5, f9) q6 hq9 (Or.inr (Or.inr (Or.inr (Or.inl rfl)))) σ2) (va_cwU 0 C.1.2.2.2.2 gX11_toss_X6_fail_u295X5 rfl rfl rfl rfl (by decide +kernel) ⟨Nat.le_of_ble_eq_true rfl, Nat.le_of_ble_eq_true rfl⟩) ⟨zxPc_blind, zz_recv C.2.2.2 (zzX_pers1 hq9 H hW) rfl, fun U hU hWm => zxPc_at C.2.2.2 hT hZ hS hU hWm hW⟩ rfl rfl hl.1 rfl (lv_room (show ([].map fun v : Value => v.category).sum ≤ 8 by decide)) dX11_toss_17 ⟨Nat.le_of_ble_eq_true rfl, Nat.le_of_ble_eq_true rfl⟩) hS (fun hn q9 ce H1 locs1 hW1 hS1 c1 c2 c3 => ?_) (fun h0 H1 locs1 hW1 hS1 => ?_)
      · refine vx_catch (own := RX11) (name := "java/lang/IllegalStateException") C.1.2.2.2.1 [⟨16, 20, 23, 298⟩, ⟨16, 20, 33, 265⟩] ⟨16, 20, 42, 274⟩ [] (ht.trans rfl) (fun z hz => ?_) (by decide) (by decide) (C.1.2.2.2.2 _ (List.mem_of_getElem? (i := 3) rfl)) (va_Nw.use rfl (hT.1 _ (List.mem_of_getElem? (i := 4) rfl))) c1 c2 c3 ?_
        · simp only [List.mem_cons, List.not_mem_nil, or_false] at hz
          rcases hz with rfl | rfl
          · exact Or.inr ⟨by decide, _, C.1.2.2.2.2 _ (List.mem_of_getElem? (i := 1) rfl), hT.2.1 _ (List.mem_of_getElem? (i := 1) rfl)⟩
          · exact Or.inr ⟨by decide, _, C.1.2.2.2.2 _ (List.mem_of_getElem? (i := 2) rfl), hT.2.1 _ (List.mem_of_getElem? (i := 2) rfl)⟩
        · have hf2 : some ((f9 : Int32), σ2) = some (r, σ') := by rw [← hf, zt_o hn (by decide) (by decide) (by decide)]
          have go : zzGO p l e rX11_toss s m args below meth c 4 (zzA base) (zzX Z base PL mm) (zzX Z base PL mm) zzRI rX11_toss.cells rX11_toss.slots (some ((f9 : Int32), σ2)) σ2 (0 + 0 + 1) (0 + 0 + 6) 42 [(2, .ref q6), (0, .ref (zzad Z 0)), (1, .int p0)] [.ref q9] := by
            refine zz_astore_n (loc' := [(3, .ref q9), (2, .ref q6), (0, .ref (zzad Z 0)), (1, .int p0)]) C dX11_toss_42 rfl (by decide) rfl ?_
            refine zz_aload_n C dX11_toss_43 rfl 1 rfl ?_
            refine zz_get C (Cn := RX5) (T := TX5) (N := 1) (zzX_pers1 hq9) (fun _ h9 => List.mem_cons_of_mem _ (List.mem_append_left _ (List.mem_append_left _ (List.mem_append_left _ (List.mem_append_left _ (List.mem_append_left _ (List.mem_append_left _ (List.mem_append_left _ (List.mem_append_right _ (h9)))))))))) rfl 0 (by decide) (List.mem_of_getElem? (i := 4) rfl) (Or.inl rfl) rfl dX11_toss_44 ?_
            exact zz_iret C rfl rfl (fun _ h9 => h9) (Nat.le_refl _) (Nat.le_refl _) dX11_toss_47
          exact go r σ' hf2 H1 locs1 ls hW1 hS1 hl
      · exact done (ztoss (5, f9)) (by rw [zt_0 h0]; rfl) r σ' hf H1 locs1 ls hW1 hS1 hl
    · have h8 : k9 = 6 := h8
      subst h8
      refine zx_callv (fun _ _ _ h => h) (vx_runU (As := []) (rest := []) (C := RX3) C.1 (kx_X3_fail hst (6, f9) q6 hq9 rfl σ2) (va_cwO 0 C.1.2.2.2.2 gX11_toss_X3_fail_u295X3 rfl rfl rfl (List.mem_of_getElem? (i := 34) rfl) (by decide +kernel) ⟨Nat.le_of_ble_eq_true rfl, Nat.le_of_ble_eq_true rfl⟩) ⟨zxPc_blind, zz_recv C.2.2.2 (zzX_pers1 hq9 H hW) rfl, fun U hU hWm => zxPc_at C.2.2.2 hT hZ hS hU hWm hW⟩ rfl rfl hl.1 rfl (lv_room (show ([].map fun v : Value => v.category).sum ≤ 8 by decide)) dX11_toss_17 ⟨Nat.le_of_ble_eq_true rfl, Nat.le_of_ble_eq_true rfl⟩) hS (fun hn q9 ce H1 locs1 hW1 hS1 c1 c2 c3 => ?_) (fun h0 H1 locs1 hW1 hS1 => ?_)
      · refine vx_catch (own := RX11) (name := "java/lang/UnsupportedOperationException") C.1.2.2.2.1 [] ⟨16, 20, 23, 298⟩ [⟨16, 20, 33, 265⟩, ⟨16, 20, 42, 274⟩] (ht.trans rfl) (fun z hz => ?_) (by decide) (by decide) (C.1.2.2.2.2 _ (List.mem_of_getElem? (i := 1) rfl)) (va_Nw.use rfl (hT.1 _ (List.mem_of_getElem? (i := 8) rfl))) c1 c2 c3 ?_
        · cases hz
        · have hf2 : some ((200 + zzprice (6, f9) : Int32), σ2) = some (r, σ') := by rw [← hf, zt_6 hn]
          have go : zzGO p l e rX11_toss s m args below meth c 4 (zzA base) (zzX Z base PL mm) (zzX Z base PL mm) zzRI rX11_toss.cells rX11_toss.slots (some ((200 + zzprice (6, f9) : Int32), σ2)) σ2 (0 + 0 + 1) (0 + 0 + 6) 23 [(2, .ref q6), (0, .ref (zzad Z 0)), (1, .int p0)] [.ref q9] := by
            refine zz_astore_n (loc' := [(3, .ref q9), (2, .ref q6), (0, .ref (zzad Z 0)), (1, .int p0)]) C dX11_toss_23 rfl (by decide) rfl ?_
            refine zz_sipush (v := 200) C dX11_toss_24 (by decide) ?_
            refine zz_aload_n C dX11_toss_27 rfl 1 rfl ?_
            refine zz_eq (f' := zzbd (some (zzprice (6, f9), σ2)) (fun r13 σ14 => some (((200 : Int32) + r13), σ14))) rfl ?_
            refine zz_call (av := #[.ref q6]) (rest := [.int 200]) (mcc := 0) (msc := 0) (relc := zzRI) (Wc := zzX Z base PL mm) (fun r1 σ3 h3 H2 locs2 ls2 hW2 hl2 => ?_) (zz_kI rfl rfl (fun r13 σ14 => ?_))
            · exact va_runU (As := []) (rest := [.int 200]) (C := RX3) C.1 (k_X3_price (l := l) (Z := Z) (base := base) (PL := PL) (mm := mm) (6, f9) q6 hq9 rfl σ2 r1 σ3 h3) (va_cwO 0 C.1.2.2.2.2 gX11_toss_X3_price_u292X3 rfl rfl rfl (List.mem_of_getElem? (i := 67) rfl) (by decide +kernel) ⟨Nat.le_of_ble_eq_true rfl, Nat.le_of_ble_eq_true rfl⟩) ⟨zzPc_blind, zz_recv C.2.2.2 (zzX_pers1 hq9 H2 hW2) rfl, fun U hU hWm => zzPc_at C.2.2.2 hU hWm hW2⟩ rfl rfl hl2.1 rfl (lv_room (by decide)) dX11_toss_28 ⟨Nat.le_of_ble_eq_true rfl, Nat.le_of_ble_eq_true rfl⟩
            refine zz_iadd C dX11_toss_31 ?_
            exact zz_iret C rfl rfl (fun _ h9 => h9) (Nat.le_refl _) (Nat.le_refl _) dX11_toss_32
          exact go r σ' hf2 H1 locs1 ls hW1 hS1 hl
      · exact done (ztoss (6, f9)) (by rw [zt_0 h0]; rfl) r σ' hf H1 locs1 ls hW1 hS1 hl
    · have h8 : k9 = 7 := h8
      subst h8
      refine zx_callv (fun _ _ _ h => h) (vx_runU (As := []) (rest := []) (C := RX8) C.1 (kx_X6_fail hst (7, f9) q6 hq9 (Or.inr (Or.inr (Or.inr (Or.inr rfl)))) σ2) (va_cwU 0 C.1.2.2.2.2 gX11_toss_X6_fail_u295X8 rfl rfl rfl rfl (by decide +kernel) ⟨Nat.le_of_ble_eq_true rfl, Nat.le_of_ble_eq_true rfl⟩) ⟨zxPc_blind, zz_recv C.2.2.2 (zzX_pers1 hq9 H hW) rfl, fun U hU hWm => zxPc_at C.2.2.2 hT hZ hS hU hWm hW⟩ rfl rfl hl.1 rfl (lv_room (show ([].map fun v : Value => v.category).sum ≤ 8 by decide)) dX11_toss_17 ⟨Nat.le_of_ble_eq_true rfl, Nat.le_of_ble_eq_true rfl⟩) hS (fun hn q9 ce H1 locs1 hW1 hS1 c1 c2 c3 => ?_) (fun h0 H1 locs1 hW1 hS1 => ?_)
      · refine vx_catch (own := RX11) (name := "java/lang/IllegalStateException") C.1.2.2.2.1 [⟨16, 20, 23, 298⟩, ⟨16, 20, 33, 265⟩] ⟨16, 20, 42, 274⟩ [] (ht.trans rfl) (fun z hz => ?_) (by decide) (by decide) (C.1.2.2.2.2 _ (List.mem_of_getElem? (i := 3) rfl)) (va_Nw.use rfl (hT.1 _ (List.mem_of_getElem? (i := 4) rfl))) c1 c2 c3 ?_
        · simp only [List.mem_cons, List.not_mem_nil, or_false] at hz
          rcases hz with rfl | rfl
          · exact Or.inr ⟨by decide, _, C.1.2.2.2.2 _ (List.mem_of_getElem? (i := 1) rfl), hT.2.1 _ (List.mem_of_getElem? (i := 1) rfl)⟩
          · exact Or.inr ⟨by decide, _, C.1.2.2.2.2 _ (List.mem_of_getElem? (i := 2) rfl), hT.2.1 _ (List.mem_of_getElem? (i := 2) rfl)⟩
        · have hf2 : some ((f9 : Int32), σ2) = some (r, σ') := by rw [← hf, zt_o hn (by decide) (by decide) (by decide)]
          have go : zzGO p l e rX11_toss s m args below meth c 4 (zzA base) (zzX Z base PL mm) (zzX Z base PL mm) zzRI rX11_toss.cells rX11_toss.slots (some ((f9 : Int32), σ2)) σ2 (0 + 0 + 1) (0 + 0 + 6) 42 [(2, .ref q6), (0, .ref (zzad Z 0)), (1, .int p0)] [.ref q9] := by
            refine zz_astore_n (loc' := [(3, .ref q9), (2, .ref q6), (0, .ref (zzad Z 0)), (1, .int p0)]) C dX11_toss_42 rfl (by decide) rfl ?_
            refine zz_aload_n C dX11_toss_43 rfl 1 rfl ?_
            refine zz_get C (Cn := RX8) (T := TX8) (N := 1) (zzX_pers1 hq9) (fun _ h9 => List.mem_cons_of_mem _ (List.mem_append_left _ (List.mem_append_left _ (List.mem_append_left _ (List.mem_append_left _ (List.mem_append_left _ (List.mem_append_right _ (h9)))))))) rfl 0 (by decide) (List.mem_of_getElem? (i := 4) rfl) (Or.inl rfl) rfl dX11_toss_44 ?_
            exact zz_iret C rfl rfl (fun _ h9 => h9) (Nat.le_refl _) (Nat.le_refl _) dX11_toss_47
          exact go r σ' hf2 H1 locs1 ls hW1 hS1 hl
      · exact done (ztoss (7, f9)) (by rw [zt_0 h0]; rfl) r σ' hf H1 locs1 ls hW1 hS1 hl
set_option maxHeartbeats 4000000 in
theorem kx_X11_toss {l : Launch} (hst : l.stackTraces = false) {Z : zzG} {base : Nat} {PL : Nat → Option (Nat × Int32)} {mm : zzS} (p0 : Int32) (σ : zzS) (r : Int32) (σ' : zzS) (hf : f_X11_toss p0 σ = some (r, σ')) : vx_Met l yX11_toss wsX11_toss rX11_toss (zxPc Z base (zzX Z base PL mm) [.ref (zzad Z 0), .int p0] σ) (zzQ zzRI (zzX Z base PL mm) (zzA base) r σ') (fun _ _ _ => False) rX11_toss.cells rX11_toss.slots (zzA base) := by
  refine zxMetH_of (cc := cX11_toss) (nL := 4) (ret := some .int) (hh := [(16, 20, 23, 298), (16, 20, 33, 265), (16, 20, 42, 274)]) (by decide) rfl (Nat.le_of_ble_eq_true rfl) [(0, .ref (zzad Z 0)), (1, .int p0)] rfl (fun p e s m args below meth c C ht hT hZ H locs ls hW hS hl => ?_)
  exact vx_ret (w_X11_toss_e hst C ht hT hZ p0 σ r σ' hf H locs ls hW hS hl)
