abbrev rL_element : Room := { frames := 7, cells := 1, slots := 6, locals := 105 }
/-- both sides' states at once, for the law's own method -/
def zzB (Z : zzG) (base : Nat) (PL : Nat → Option (Nat × Int32)) : zzS × zzS → Heap → Prop := fun q H => zzH Z base PL q.1 q.2 H
set_option maxHeartbeats 8000000 in
set_option maxRecDepth 100000 in
theorem kx_L_element {l : Launch} (hst : l.stackTraces = false) {Z : zzG} {base : Nat} {PL : Nat → Option (Nat × Int32)} (p0 p1 : Int32) (x mm : zzS) (code : Int32) (num : Int64) (x' : zzS) (hf : f_X11_element p0 p1 x = some ((code, num), x')) : vx_Met l yL_element wsL_element rL_element (zxPc Z base (zzB Z base PL) [.ref (zzad Z 0), .int p0, .int p1, .ref (zzad Z 55)] (x, mm)) (va_Qi (S := zzS) (fun r m2 => r = code ∧ (m2 = mm ∨ m2 = zzsl mm 55 0 num) ∧ (code = 0 → m2 = zzsl mm 55 0 num)) (fun m2 t => zzH Z base PL x' m2 t.heap) (zzA base)) (fun _ _ _ => False) rL_element.cells rL_element.slots (zzA base) := by
  refine zxMetH_of (cc := cL_element) (nL := 5) (ret := some .int) (hh := [(0, 9, 12, 13), (0, 9, 16, 15)]) (by decide) rfl (Nat.le_of_ble_eq_true rfl) [(0, .ref (zzad Z 0)), (1, .int p0), (2, .int p1), (3, .ref (zzad Z 55))] rfl (fun p e s m args below meth c C ht hT hZ H locs ls hW hS hl => ?_)
  have hW : zzX Z base PL mm x H := hW
  refine vx_ret ?_
  refine lv_aload_n C.1.1 C.1.2.1 dL_element_0 rfl (lv_at hl 3 rfl) ?_
  refine lv_iconst (v := 0) C.1.1 C.1.2.1 dL_element_1 (by decide) ?_
  refine lv_aload_n C.1.1 C.1.2.1 dL_element_2 rfl (lv_at hl 0 rfl) ?_
  refine lv_iload_n C.1.1 C.1.2.1 dL_element_3 rfl (lv_at hl 1 rfl) ?_
  refine lv_iload_n C.1.1 C.1.2.1 dL_element_4 rfl (lv_at hl 2 rfl) ?_
  refine vx_calll (vx_runV (As := [.int p0, .int p1]) (rest := [.int 0, .ref (zzad Z 55)]) (C := RX11) C.1 (kx_X11_element hst p0 p1 x code num x' hf) (cwV 2 C.1.2.2.2.2 gL_element_X11_element rfl rfl rfl (by decide +kernel) ⟨Nat.le_of_ble_eq_true rfl, Nat.le_of_ble_eq_true rfl⟩) ⟨zxPc_blind, zz_recv C.2.2.2 (zzX_obj H hW) rfl, fun U hU hWm => zxPc_at C.2.2.2 hT hZ hS hU hWm hW⟩ rfl rfl hl.1 rfl (lv_room (Nat.le_of_ble_eq_true rfl)) dL_element_5 ⟨Nat.le_of_ble_eq_true rfl, Nat.le_of_ble_eq_true rfl⟩) hS (fun _ _ h => h) (fun _ h => h) (fun _ _ h => h) (fun E ce q9 u t H1 locs1 h1 _ hp ⟨hE, hW1⟩ _ _ hS1 c1 c2 c3 => ?_) (fun r u t H1 locs1 h1 _ hp hW1 _ _ hS1 => ?_)
  · have hW1 : zzX Z base PL mm x' H1 := h1 ▸ hW1
    rcases hE with ⟨rfl, rfl⟩ | ⟨rfl, rfl⟩
    · refine vx_catch (own := RL) (name := "java/lang/IllegalArgumentException") C.1.2.2.2.1 [] ⟨0, 9, 12, 13⟩ [⟨0, 9, 16, 15⟩] (ht.trans rfl) (fun z hz => ?_) (by decide) (by decide) (C.1.2.2.2.2 _ (List.mem_of_getElem? (i := 1) rfl)) (va_Nw.use rfl (hT.1 _ (List.mem_of_getElem? (i := 0) rfl))) c1 c2 c3 ?_
      · cases hz
      · refine lv_astore C.1.1 C.1.2.1 dL_element_12 hl (by decide) rfl (fun ls3 hl3 => ?_)
        refine lv_iconst (v := 1) C.1.1 C.1.2.1 dL_element_14 (by decide) ?_
        exact W.iret C.1.1 C.1.2.1 C.2.1 (fun t ht hWm => ⟨⟨1, mm, rfl, ⟨rfl, Or.inl rfl, fun h => absurd h (by decide)⟩, by show zzH Z base PL x' mm t.heap; rw [ht]; exact hW1⟩, hS1.F ht⟩) hS1.2.2 dL_element_15 C.2.2.1
    · refine vx_catch (own := RL) (name := "java/lang/IllegalStateException") C.1.2.2.2.1 [⟨0, 9, 12, 13⟩] ⟨0, 9, 16, 15⟩ [] (ht.trans rfl) (fun z hz => ?_) (by decide) (by decide) (C.1.2.2.2.2 _ (List.mem_of_getElem? (i := 2) rfl)) (va_Nw.use rfl (hT.1 _ (List.mem_of_getElem? (i := 4) rfl))) c1 c2 c3 ?_
      · rcases List.mem_singleton.mp hz with rfl
        exact Or.inr ⟨by decide, _, C.1.2.2.2.2 _ (List.mem_of_getElem? (i := 1) rfl), hT.2.1 _ (List.mem_of_getElem? (i := 2) rfl)⟩
      · refine lv_astore C.1.1 C.1.2.1 dL_element_16 hl (by decide) rfl (fun ls3 hl3 => ?_)
        refine lv_iconst (v := 2) C.1.1 C.1.2.1 dL_element_18 (by decide) ?_
        exact W.iret C.1.1 C.1.2.1 C.2.1 (fun t ht hWm => ⟨⟨2, mm, rfl, ⟨rfl, Or.inl rfl, fun h => absurd h (by decide)⟩, by show zzH Z base PL x' mm t.heap; rw [ht]; exact hW1⟩, hS1.F ht⟩) hS1.2.2 dL_element_19 C.2.2.1
  · have hW1 : zzH Z base PL x' mm H1 := h1 ▸ hW1
    obtain ⟨rfl, rfl⟩ := hp
    have hE : va_at Z.1 vwCl (zzad Z 55, .inl (zzcA Z 1, 1, .inr (.inl (zzl mm 55)))) H1 := by
      obtain ⟨g, -, h2⟩ := zzH_at hW1 (show 55 < 56 by omega)
      exact h2
    refine W.last C.1.1 C.1.2.1 hE ((C.2.2.2.1.2 1 _ rfl).1 1 (fun j => .long (zzl mm 55 j))) (fun q => by cases q) (by show ¬ ((0 : Int32) < 0 ∨ (arrV _ _ _).slots.size ≤ _); rw [arrV_size]; exact (show ¬ ((0 : Int32) < 0 ∨ 1 ≤ Int32.toNatClampNeg 0) by decide)) rfl rfl dL_element_8 fun H2 e0 z oq => ?_
    have hnew : va_at Z.1 vwCl (zzad Z 55, .inl (zzcA Z 1, 1, .inr (.inl (vp_updL (zzl mm 55) 0 r)))) H2 := by
      show H2[zzad Z 55]? = some (vp_cell _ _)
      rw [e0]
      rw [vp_cell_l, vp_cell_l, arrV_store]
      rfl
    have hW2 : zzM Z base PL x' (zzsl mm 55 0 r) H2 := by
      refine zzM_wr (k := 55) (mm := mm) (by omega) (by omega) (fun _ _ => rfl) (fun _ _ => rfl) (fun i hi => zzsl_ne hi) (fun _ => rfl) zzM_q36 (fun g => ?_) hW1 hnew oq
      rw [zzsl_at]
      rfl
    have hS2 : va_S (zzA base) s.heap H2 (locs1 ++ [⟨zzad Z 55, (0 : Int32).toNatClampNeg⟩]) := hS1.put z oq (hW1.1.2.1 55 (by omega))
    refine (show W p l e rL_element s m args below meth c H2 _ _ _ _ (F0 m 9 ls []) from ?_)
    refine lv_goto (tgt := 20) C.1.1 C.1.2.1 dL_element_9 (by decide) ?_
    refine lv_iconst (v := 0) C.1.1 C.1.2.1 dL_element_20 (by decide) ?_
    exact W.iret C.1.1 C.1.2.1 C.2.1 (fun t ht hWm => ⟨⟨0, zzsl mm 55 0 r, rfl, ⟨rfl, Or.inr rfl, fun _ => rfl⟩, by show zzH Z base PL x' _ t.heap; rw [ht]; exact hW2⟩, hS2.F ht⟩) hS2.2.2 dL_element_21 C.2.2.1
