/-! ===== element: the class's, and the law's ===== -/
section EL
variable {p : Program} {l : Launch} {e : Env} {R : Room} {s : State} {m : MethodId} {args : Array Value} {below : List Frame} {meth : Method} {c : Code} {H : Heap} {locs : List Loc} {cells slots pc : Nat} {Q : State → Prop} {ls : Array Slot} {st0 rest : List Value} {Z : zzG} {base : Nat} {PL : Nat → Option (Nat × Int32)} {mm σ : zzS}
/-- a call whose answer is told, whatever the method's own end is -/
theorem zx_call {S β : Type} {relc : β → Option Value → Prop} {Wc : S → Heap → Prop} {A : Nat → Prop} {r1 : β} {σ2 : S} {av : Array Value} {mcc msc : Nat} {w : List Value} (hv : ∀ v, relc r1 v → v.toList = w) (hr : va_Run p l e R s m args below meth c H locs cells slots mcc msc (F0 m pc ls st0) rest (zzQ relc Wc A r1 σ2 av) A) (hS : va_S A s.heap H locs)
    (kk : ∀ (H1 : Heap) (locs1 : List Loc), Wc σ2 H1 → va_S A s.heap H1 locs1 → W p l e R s m args below meth c H1 locs1 (cells + mcc) (slots + msc) Q (F0 m (pc + 3) ls (w ++ rest))) : W p l e R s m args below meth c H locs cells slots Q (F0 m pc ls st0) := by
  intro T hT X
  obtain ⟨v, st₀, t, T', L, h0, X', hL, g1, g2, ⟨⟨v', hv1, hrel, hWd⟩, hz, hk⟩, stp⟩ := hr T hT X
  cases hv1
  rw [h0] at hz hk
  obtain ⟨t2, a1, b1⟩ := kk T'.heap (locs ++ L) (by rw [g1]; exact hWd)
    ⟨Nat.le_trans hS.1 (by rw [g1]; exact hz), fun q h1 h2 => by rw [g1, hk q (Nat.lt_of_lt_of_le h1 hS.1) h2]; exact hS.2.1 q h1 h2, fun q hq => by
      rcases List.mem_append.mp hq with h | h
      · exact hS.2.2 q h
      · exact hL q h⟩ T' rfl X'
  rw [← hv v hrel] at a1
  exact ⟨t2, stp t2 a1, b1⟩
end EL
abbrev rX11_element : Room := { frames := 6, cells := 1, slots := 6, locals := 82 }
/-- what the class's element leaves when it throws -/
def zxEE (Z : zzG) (base : Nat) (PL : Nat → Option (Nat × Int32)) (mm σ : zzS) (code : Int32) : String → State → State → Prop := vx_X (S := Unit) (fun _ => True) (fun E _ t => (code = 1 ∧ E = "java/lang/IllegalArgumentException" ∨ code = 2 ∧ E = "java/lang/IllegalStateException") ∧ zzX Z base PL mm σ t.heap) (zzA base)
theorem zxEE_of {Z : zzG} {base : Nat} {PL : Nat → Option (Nat × Int32)} {mm σ : zzS} {code : Int32} {E0 : String} {s : State} {H : Heap} {locs : List Loc} (hE : code = 1 ∧ E0 = "java/lang/IllegalArgumentException" ∨ code = 2 ∧ E0 = "java/lang/IllegalStateException") (hW : zzX Z base PL mm σ H) (hS : va_S (zzA base) s.heap H locs) : ∀ t : State, s.vm.Alike t.vm → H.size ≤ t.heap.size → (∀ q : Nat, q < H.size → t.heap[q]? = H[q]?) → zxEE Z base PL mm σ code E0 s t := fun t _ h1 h2 => ⟨(), trivial, ⟨hE, zzX_keptAll hW h2⟩, Nat.le_trans hS.1 h1, fun q h3 h4 => by rw [h2 q (Nat.lt_of_lt_of_le h3 hS.1)]; exact hS.2.1 q h3 h4⟩
set_option maxHeartbeats 8000000 in
set_option maxRecDepth 100000 in
theorem kx_X11_element {l : Launch} (hst : l.stackTraces = false) {Z : zzG} {base : Nat} {PL : Nat → Option (Nat × Int32)} {mm : zzS} (p0 p1 : Int32) (σ : zzS) (code : Int32) (num : Int64) (σ' : zzS) (hf : f_X11_element p0 p1 σ = some ((code, num), σ')) : vx_Met l yX11_element wsX11_element rX11_element (zxPc Z base (zzX Z base PL mm) [.ref (zzad Z 0), .int p0, .int p1] σ) (va_Ql (S := Unit) (fun r _ => code = 0 ∧ r = num) (fun _ t => zzX Z base PL mm σ' t.heap) (zzA base)) (zxEE Z base PL mm σ' code) rX11_element.cells rX11_element.slots (zzA base) := by
  refine zxMet_of (cc := cX11_element) (nL := 4) (ret := some .long) (by decide) rfl (Nat.le_of_ble_eq_true rfl) [(0, .ref (zzad Z 0)), (1, .int p0), (2, .int p1)] rfl (fun p e s m args below meth c C ht hT hZ H locs ls hW hS hl => ?_)
  unfold f_X11_element at hf
  obtain ⟨r1, σ2, e1, hf⟩ := zzbd_some hf
  refine lv_iload_n C.1.1 C.1.2.1 dX11_element_0 rfl (lv_at hl 1 rfl) ?_
  refine zx_call (w := [.int r1]) (fun v h => by rw [show v = some (.int r1) from h]; rfl) (va_runS (As := [.int p0]) (rest := []) C.1 (k_X11_isShelf p0 σ r1 σ2 e1) (va_cwS 1 C.1.2.2.2.2 gX11_element_X11_isShelf rfl rfl rfl (by decide +kernel) ⟨Nat.le_of_ble_eq_true rfl, Nat.le_of_ble_eq_true rfl⟩) ⟨zzPc_blind, fun U hU hWm => zzPc_at C.2.2.2 hU hWm hW⟩ rfl rfl hl.1 rfl (lv_room (by decide)) dX11_element_1 ⟨Nat.le_of_ble_eq_true rfl, Nat.le_of_ble_eq_true rfl⟩) hS (fun H2 locs2 hW2 hS2 => ?_)
  refine lv_if_ne (tgt := 18) C.1.1 C.1.2.1 dX11_element_4 (by decide) (fun h => ?_) (fun h => ?_)
  · rw [if_neg h] at hf
    obtain ⟨r4, σ5, e4, hf⟩ := zzbd_some hf
    refine lv_aload_n C.1.1 C.1.2.1 dX11_element_18 rfl (lv_at hl 0 rfl) ?_
    refine lv_iload_n C.1.1 C.1.2.1 dX11_element_19 rfl (lv_at hl 1 rfl) ?_
    refine zx_call (w := [va_rf (r4.map (zzad Z))]) (fun v h => by rw [show v = some (va_rf (r4.map (zzad Z))) from h]; rfl) (va_runV (As := [.int p0]) (rest := []) (C := RX11) C.1 (k_X11_rowOn p0 σ2 r4 σ5 e4) (cwV 1 C.1.2.2.2.2 gX11_element_X11_rowOn rfl rfl rfl (by decide +kernel) ⟨Nat.le_of_ble_eq_true rfl, Nat.le_of_ble_eq_true rfl⟩) ⟨zzPc_blind, zz_recv C.2.2.2 (zzX_obj H2 hW2) rfl, fun U hU hWm => zzPc_at C.2.2.2 hU hWm hW2⟩ rfl rfl hl.1 rfl (lv_room (by decide)) dX11_element_20 ⟨Nat.le_of_ble_eq_true rfl, Nat.le_of_ble_eq_true rfl⟩) hS2 (fun H5 locs5 hW5 hS5 => ?_)
    have bad : ∀ (H6 : Heap) (locs6 : List Loc) (ls : Array Slot), (code = 2 ∧ num = 0 ∧ zzX Z base PL mm σ' H6) → va_S (zzA base) s.heap H6 locs6 → ls.size = 4 → W p l e rX11_element s m args below meth c H6 locs6 0 0 (vx_MQ below (va_Ql (S := Unit) (fun r _ => code = 0 ∧ r = num) (fun _ t => zzX Z base PL mm σ' t.heap) (zzA base)) (zxEE Z base PL mm σ' code) args s rX11_element.cells rX11_element.slots (zzA base)) (F0 m 37 ls []) := by
      intro H6 locs6 ls h6 hS6 hl6
      have hl : ls.size = 4 ∧ True := ⟨hl6, trivial⟩
      obtain ⟨sa, hsa⟩ := hT.2.2 _ (List.mem_of_getElem? (i := 4) rfl)
      refine vx_throwSW (own := RX11) (cls := "java/lang/IllegalStateException") (text := "no row, or no such place in it") (names := ["java/lang/RuntimeException", "java/lang/Exception"]) (ik := 274) (is := 276) (ic := 278) (sa := sa) (A := zzA base) C.1.1 C.1.2.1 hst C.1.2.2.2.1 (by decide +kernel) (by decide +kernel) (C.1.2.2.2.2 _ (List.mem_of_getElem? (i := 3) rfl)) (C.1.2.2.2.2 _ (List.mem_of_getElem? (i := 4) rfl)) hsa (zx_hat (ws := wsX11_element) hT zxW_2 (fun w h => C.1.2.2.2.2 w (List.mem_cons_of_mem _ (List.mem_append_right _ (h)))) (by decide +kernel)) (fun w h => ?_) hZ.1 hZ.2 hS6 (hl.1.trans C.1.2.2.1.symm) dX11_element_37 dX11_element_40 dX11_element_41 dX11_element_44 dX11_element_47 (fun x hx => (ht x hx).elim) (by decide) (by decide) (Nat.le_of_ble_eq_true rfl) (Nat.le_of_ble_eq_true rfl) C.2.2.1 (zxEE_of (Or.inr ⟨h6.1, rfl⟩) h6.2.2 hS6) hS6.2.2 (Nat.le_of_ble_eq_true rfl) (Nat.le_of_ble_eq_true rfl)
      exact List.all_eq_true.mp (show (Cond.classLink RX11 274 "java/lang/IllegalStateException" :: Cond.initialized "java/lang/IllegalStateException" :: vx_atS RX11 278 "java/lang/IllegalStateException" ["java/lang/RuntimeException", "java/lang/Exception"]).all vx_ot = true by decide +kernel) w h
    cases r4 with
    | none =>
      refine lv_astore_nN C.1.1 C.1.2.1 dX11_element_23 rfl hl (by decide) rfl (fun ls3 hl3 => ?_)
      refine lv_aload_nN C.1.1 C.1.2.1 dX11_element_24 rfl (lv_at hl3 0 rfl) ?_
      refine lv_ifnullN (tgt := 37) C.1.1 C.1.2.1 dX11_element_25 (by decide) ?_
      have hf : some (((2 : Int32), (0 : Int64)), σ5) = some ((code, num), σ') := hf
      cases hf
      exact bad H5 locs5 ls3 ⟨rfl, rfl, hW5⟩ hS5 hl3.1
    | some j =>
      have hf : zzgd (zzrow j) (zzbd (f_X7_has j p1 (1 : Int32) σ5) (fun r7 σ8 => (if r7 = 0 then (some (((2 : Int32), (0 : Int64)), σ8)) else (zzbd (f_X7_at j p1 σ8) (fun r9 σ10 => some (((0 : Int32), r9.toInt64), σ10)))))) = some ((code, num), σ') := hf
      obtain ⟨hj, hf⟩ := zzgd_some hf
      obtain ⟨r7, σ8, e7, hf⟩ := zzbd_some hf
      refine lv_astore_n C.1.1 C.1.2.1 dX11_element_23 rfl hl (by decide) rfl (fun ls3 hl3 => ?_)
      refine lv_aload_n C.1.1 C.1.2.1 dX11_element_24 rfl (lv_at hl3 0 rfl) ?_
      refine lv_ifnull C.1.1 C.1.2.1 dX11_element_25 ?_
      refine lv_aload_n C.1.1 C.1.2.1 dX11_element_28 rfl (lv_at hl3 0 rfl) ?_
      refine lv_iload_n C.1.1 C.1.2.1 dX11_element_29 rfl (lv_at hl3 3 rfl) ?_
      refine lv_iconst (v := 1) C.1.1 C.1.2.1 dX11_element_30 (by decide) ?_
      refine zx_call (w := [.int r7]) (fun v h => by rw [show v = some (.int r7) from h]; rfl) (va_runV (As := [.int p1, .int 1]) (rest := []) (C := RX7) C.1 (k_X7_has j hj p1 1 σ5 r7 σ8 e7) (cwV 2 C.1.2.2.2.2 gX11_element_X7_has rfl rfl rfl (by decide +kernel) ⟨Nat.le_of_ble_eq_true rfl, Nat.le_of_ble_eq_true rfl⟩) ⟨zzPc_blind, zz_recv C.2.2.2 (zzX_row hj H5 hW5) rfl, fun U hU hWm => zzPc_at C.2.2.2 hU hWm hW5⟩ rfl rfl hl3.1 rfl (lv_room (by decide)) dX11_element_31 ⟨Nat.le_of_ble_eq_true rfl, Nat.le_of_ble_eq_true rfl⟩) hS5 (fun H8 locs8 hW8 hS8 => ?_)
      refine lv_if_ne (tgt := 48) C.1.1 C.1.2.1 dX11_element_34 (by decide) (fun h => ?_) (fun h => ?_)
      · rw [if_neg h] at hf
        obtain ⟨r9, σ10, e9, hf⟩ := zzbd_some hf
        refine lv_aload_n C.1.1 C.1.2.1 dX11_element_48 rfl (lv_at hl3 0 rfl) ?_
        refine lv_iload_n C.1.1 C.1.2.1 dX11_element_49 rfl (lv_at hl3 3 rfl) ?_
        refine zx_call (w := [.int r9]) (fun v h => by rw [show v = some (.int r9) from h]; rfl) (va_runV (As := [.int p1]) (rest := []) (C := RX7) C.1 (k_X7_at j hj p1 σ8 r9 σ10 e9) (cwV 1 C.1.2.2.2.2 gX11_element_X7_at rfl rfl rfl (by decide +kernel) ⟨Nat.le_of_ble_eq_true rfl, Nat.le_of_ble_eq_true rfl⟩) ⟨zzPc_blind, zz_recv C.2.2.2 (zzX_row hj H8 hW8) rfl, fun U hU hWm => zzPc_at C.2.2.2 hU hWm hW8⟩ rfl rfl hl3.1 rfl (lv_room (by decide)) dX11_element_50 ⟨Nat.le_of_ble_eq_true rfl, Nat.le_of_ble_eq_true rfl⟩) hS8 (fun H10 locs10 hW10 hS10 => ?_)
        refine lv_i2l C.1.1 C.1.2.1 dX11_element_53 rfl ?_
        cases hf
        refine vx_ret (W.widen (k := 1) (n := 6) (Nat.le_of_ble_eq_true rfl) (Nat.le_of_ble_eq_true rfl) ?_)
        exact W.lret C.1.1 C.1.2.1 C.2.1 (fun t ht hWm => ⟨⟨_, (), rfl, ⟨rfl, rfl⟩, by show zzX Z base PL mm σ' t.heap; rw [ht]; exact hW10⟩, hS10.F ht⟩) hS10.2.2 dX11_element_54 C.2.2.1
      · rw [if_pos h] at hf
        cases hf
        exact bad H8 locs8 ls3 ⟨rfl, rfl, hW8⟩ hS8 hl3.1
  · rw [if_pos h] at hf
    cases hf
    obtain ⟨sa, hsa⟩ := hT.2.2 _ (List.mem_of_getElem? (i := 3) rfl)
    refine vx_throwSW (own := RX11) (cls := "java/lang/IllegalArgumentException") (text := "no such shelf") (names := ["java/lang/RuntimeException", "java/lang/Exception"]) (ik := 265) (is := 267) (ic := 269) (sa := sa) (A := zzA base) C.1.1 C.1.2.1 hst C.1.2.2.2.1 (by decide +kernel) (by decide +kernel) (C.1.2.2.2.2 _ (List.mem_of_getElem? (i := 1) rfl)) (C.1.2.2.2.2 _ (List.mem_of_getElem? (i := 2) rfl)) hsa (zx_hat (ws := wsX11_element) hT zxW_1 (fun w h => C.1.2.2.2.2 w (List.mem_cons_of_mem _ (List.mem_append_left _ (List.mem_append_right _ (h))))) (by decide +kernel)) (fun w h => ?_) hZ.1 hZ.2 hS2 (hl.1.trans C.1.2.2.1.symm) dX11_element_7 dX11_element_10 dX11_element_11 dX11_element_14 dX11_element_17 (fun x hx => (ht x hx).elim) (by decide) (by decide) (Nat.le_of_ble_eq_true rfl) (Nat.le_of_ble_eq_true rfl) C.2.2.1 (zxEE_of (Or.inl ⟨rfl, rfl⟩) hW2 hS2) hS2.2.2 (Nat.le_of_ble_eq_true rfl) (Nat.le_of_ble_eq_true rfl)
    exact List.all_eq_true.mp (show (Cond.classLink RX11 265 "java/lang/IllegalArgumentException" :: Cond.initialized "java/lang/IllegalArgumentException" :: vx_atS RX11 269 "java/lang/IllegalArgumentException" ["java/lang/RuntimeException", "java/lang/Exception"]).all vx_ot = true by decide +kernel) w h
