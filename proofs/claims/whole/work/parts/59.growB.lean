abbrev rX11_town : Room := { frames := 7, cells := 200, slots := 200, locals := 156 }

set_option maxHeartbeats 4000000 in
set_option maxRecDepth 100000 in
theorem w_X11_town_131 {l : Launch} {Z : zzG} {base : Nat} {PL : Nat → Option (Nat × Int32)} {mm : zzS} {p : Program} {e : Env} {s : State} {m : MethodId} {args : Array Value} {below : List Frame} {meth : Method} {c : Code} (C : zzCx p m meth c s args cX11_town 7 wsX11_town RX11 (some .int) Z) (p0 : Int32)  (k60 : Nat → Int32 → Int32 → zzS → Option (Int32 × zzS)) (N : Nat) (hN : N ≤ 200) (hk60 : ∀ (PL : Nat → Option (Nat × Int32)) (ca sl : Nat), ca ≤ N → sl ≤ N → ∀ (l2 : Nat) (hl2 : zzrow l2) (l4 : Int32)  (l5 : Int32)  (σ : zzS), zzGO p l e rX11_town s m args below meth c 7 (zzA base) (zzX Z base PL mm) (zzXx Z base mm) zzRI rX11_town.cells rX11_town.slots (k60 l2 l4 l5 σ) σ ca sl 60 [(0, .ref (zzad Z 0)), (2, .ref (zzad Z l2)), (4, .int l4), (5, .int l5)] []) (ca sl : Nat) (hca : ca ≤ N) (hsl : sl ≤ N) (l2 : Nat) (hl2 : zzrow l2) (l4 : Int32)  (l5 : Int32)  (σ : zzS) : zzGO p l e rX11_town s m args below meth c 7 (zzA base) (zzX Z base PL mm) (zzXx Z base mm) zzRI rX11_town.cells rX11_town.slots (f_X11_town_131 k60 p0 l2 l4 l5 σ) σ ca sl 131 [(0, .ref (zzad Z 0)), (2, .ref (zzad Z l2)), (4, .int l4), (5, .int l5)] [] := by
  unfold f_X11_town_131
  refine zz_iincX (d := 1) (locf := fun x1 => [(5, .int x1), (0, .ref (zzad Z 0)), (2, .ref (zzad Z l2)), (4, .int l4)]) C dX11_town_131 (k := 3) rfl (by decide) (by decide) (fun _ => rfl) (fun x1 => ?_)
  refine zz_goto (tgt := 60) C dX11_town_134 (by decide) ?_
  refine zz_sub (loc' := [(0, .ref (zzad Z 0)), (2, .ref (zzad Z l2)), (4, .int l4), (5, .int x1)]) [1, 2, 3, 0] rfl ?_
  exact hk60 _ _ _ hca hsl l2 hl2 l4 x1 σ
set_option maxHeartbeats 4000000 in
set_option maxRecDepth 100000 in
theorem w_X11_town_60b {l : Launch} {Z : zzG} {base : Nat} {PL : Nat → Option (Nat × Int32)} {mm : zzS} {p : Program} {e : Env} {s : State} {m : MethodId} {args : Array Value} {below : List Frame} {meth : Method} {c : Code} (C : zzCx p m meth c s args cX11_town 7 wsX11_town RX11 (some .int) Z) (p0 : Int32)   (k60 : Nat → Int32 → Int32 → zzS → Option (Int32 × zzS)) (N : Nat) (hN : (N + 1) ≤ 200) (hk60 : ∀ (PL : Nat → Option (Nat × Int32)) (ca sl : Nat), ca ≤ (N + 1) → sl ≤ (N + 1) → ∀ (l2 : Nat) (hl2 : zzrow l2) (l4 : Int32)  (l5 : Int32)  (σ : zzS), zzGO p l e rX11_town s m args below meth c 7 (zzA base) (zzX Z base PL mm) (zzXx Z base mm) zzRI rX11_town.cells rX11_town.slots (k60 l2 l4 l5 σ) σ ca sl 60 [(0, .ref (zzad Z 0)), (2, .ref (zzad Z l2)), (4, .int l4), (5, .int l5)] []) (ca sl : Nat) (hca : ca ≤ N) (hsl : sl ≤ N) (l2 : Nat) (hl2 : zzrow l2) (l4 : Int32)  (l5 : Int32)  (σ : zzS) : zzGO p l e rX11_town s m args below meth c 7 (zzA base) (zzX Z base PL mm) (zzXx Z base mm) zzRI rX11_town.cells rX11_town.slots (f_X11_town_60b k60 p0 l2 l4 l5 σ) σ ca sl 60 [(0, .ref (zzad Z 0)), (2, .ref (zzad Z l2)), (4, .int l4), (5, .int l5)] [] := by
  unfold f_X11_town_60b
  refine zz_iload C dX11_town_60 3 rfl ?_
  refine zz_aload_n C dX11_town_62 rfl 1 rfl ?_
  refine zz_get C (zzX_row hl2) (fun _ h9 => List.mem_cons_of_mem _ (List.mem_append_left _ (List.mem_append_left _ (List.mem_append_left _ (List.mem_append_left _ (List.mem_append_left _ (List.mem_append_left _ (List.mem_append_left _ (List.mem_append_left _ (List.mem_append_left _ (List.mem_append_left _ (List.mem_append_right _ (h9))))))))))))) rfl 2 (by decide) (List.mem_of_getElem? (i := 4) rfl) (Or.inl rfl) rfl dX11_town_63 ?_
  refine zz_icmp_ge (tgt := 137) C dX11_town_66 (by decide) (fun h1 => ?_) (fun h1 => ?_)
  · refine zz_aload_n C dX11_town_137 rfl 0 rfl ?_
    refine zz_get C zzX_obj (fun _ h9 => List.mem_cons_of_mem _ (List.mem_append_left _ (List.mem_append_left _ (List.mem_append_left _ (List.mem_append_left _ (List.mem_append_left _ (List.mem_append_left _ (List.mem_append_left _ (List.mem_append_left _ (List.mem_append_left _ (List.mem_append_right _ (h9)))))))))))) rfl 3 (by decide) (List.mem_of_getElem? (i := 3) rfl) (Or.inl rfl) rfl dX11_town_138 ?_
    refine zz_aload_n C dX11_town_141 rfl 0 rfl ?_
    refine zz_get C zzX_obj (fun _ h9 => List.mem_cons_of_mem _ (List.mem_append_left _ (List.mem_append_left _ (List.mem_append_left _ (List.mem_append_left _ (List.mem_append_left _ (List.mem_append_left _ (List.mem_append_left _ (List.mem_append_left _ (List.mem_append_left _ (List.mem_append_right _ (h9)))))))))))) rfl 4 (by decide) (List.mem_of_getElem? (i := 2) rfl) (Or.inl rfl) rfl dX11_town_142 ?_
    refine zz_callV C (Cn := RX10) (b := zzad Z 20) (fun H hH => zz_recv C.2.2.2 ((zzX_town (Or.inl rfl)) H hH) rfl) (As := [.ref (zzad Z 24)]) (rest := []) rfl (k_X10_become 20 (Or.inl rfl) 24 (Or.inr (Or.inl rfl)) σ) (cwV 1 C.1.2.2.2.2 gX11_town_X10_become rfl rfl rfl (by decide +kernel) ⟨Nat.le_of_ble_eq_true rfl, Nat.le_of_ble_eq_true rfl⟩) rfl (Nat.le_of_ble_eq_true rfl) ⟨by show ca + 0 ≤ 200; omega, by show sl + 0 ≤ 200; omega⟩ dX11_town_145 (zz_kV rfl rfl (fun r2 σ3 => ?_))
    refine zz_iload C dX11_town_148 2 rfl ?_
    exact zz_iret C rfl rfl (fun _ h9 => zzXx_of h9) (by show ca ≤ 200; omega) (by show sl ≤ 200; omega) dX11_town_150
  · refine zz_aload_n C dX11_town_69 rfl 1 rfl ?_
    refine zz_iload C dX11_town_70 3 rfl ?_
    refine zz_callV C (Cn := RX7) (b := zzad Z l2) (fun H hH => zz_recv C.2.2.2 ((zzX_row hl2) H hH) rfl) (As := [.int l5]) (rest := []) rfl (k_X7_at l2 hl2 l5 σ) (cwV 1 C.1.2.2.2.2 gX11_town_X7_at rfl rfl rfl (by decide +kernel) ⟨Nat.le_of_ble_eq_true rfl, Nat.le_of_ble_eq_true rfl⟩) rfl (Nat.le_of_ble_eq_true rfl) ⟨by show ca + 0 ≤ 200; omega, by show sl + 0 ≤ 200; omega⟩ dX11_town_72 (zz_kI rfl rfl (fun r4 σ5 => ?_))
    refine zz_istore (loc' := [(6, .int r4), (0, .ref (zzad Z 0)), (2, .ref (zzad Z l2)), (4, .int l4), (5, .int l5)]) C dX11_town_75 (by decide) rfl ?_
    refine zz_iload C dX11_town_77 0 rfl ?_
    refine zz_callS (As := [.int r4]) (rest := []) C rfl (k_X11_digitsBehind r4 σ5) (va_cwS 1 C.1.2.2.2.2 gX11_town_X11_digitsBehind rfl rfl rfl (by decide +kernel) ⟨Nat.le_of_ble_eq_true rfl, Nat.le_of_ble_eq_true rfl⟩) rfl (Nat.le_of_ble_eq_true rfl) ⟨by show ca + 0 ≤ 200; omega, by show sl + 0 ≤ 200; omega⟩ dX11_town_79 (zz_kI rfl rfl (fun r6 σ7 => ?_))
    refine zz_if_le (tgt := 131) C dX11_town_82 (by decide) (fun h8 => ?_) (fun h8 => ?_)
    · refine zz_sub (loc' := [(0, .ref (zzad Z 0)), (2, .ref (zzad Z l2)), (4, .int l4), (5, .int l5)]) [1, 2, 3, 4] rfl ?_
      exact w_X11_town_131 C p0 k60 (N + 1) hN hk60 ca sl (by omega) (by omega) l2 hl2 l4 l5 σ7
    · refine zz_aload_n C dX11_town_85 rfl 1 rfl ?_
      refine zz_get C zzX_obj (fun _ h9 => List.mem_cons_of_mem _ (List.mem_append_left _ (List.mem_append_left _ (List.mem_append_left _ (List.mem_append_left _ (List.mem_append_left _ (List.mem_append_left _ (List.mem_append_left _ (List.mem_append_left _ (List.mem_append_left _ (List.mem_append_right _ (h9)))))))))))) rfl 4 (by decide) (List.mem_of_getElem? (i := 2) rfl) (Or.inl rfl) rfl dX11_town_86 ?_
      refine zz_iload C dX11_town_89 0 rfl ?_
      refine zz_aload_n C dX11_town_91 rfl 2 rfl ?_
      refine zz_iload C dX11_town_92 4 rfl ?_
      refine zz_iconst (v := 1) C dX11_town_94 (by decide) ?_
      refine zz_iadd C dX11_town_95 ?_
      refine zz_callV C (Cn := RX7) (b := zzad Z l2) (fun H hH => zz_recv C.2.2.2 ((zzX_row hl2) H hH) rfl) (As := [.int (l5 + (1 : Int32))]) (rest := [.int r4, .ref (zzad Z 24)]) rfl (k_X7_digitAt l2 hl2 (l5 + (1 : Int32)) σ7) (cwV 1 C.1.2.2.2.2 gX11_town_X7_digitAt rfl rfl rfl (by decide +kernel) ⟨Nat.le_of_ble_eq_true rfl, Nat.le_of_ble_eq_true rfl⟩) rfl (Nat.le_of_ble_eq_true rfl) ⟨by show ca + 0 ≤ 200; omega, by show sl + 0 ≤ 200; omega⟩ dX11_town_96 (zz_kI rfl rfl (fun r9 σ10 => ?_))
      refine zz_aload_n C dX11_town_99 rfl 2 rfl ?_
      refine zz_iload C dX11_town_100 4 rfl ?_
      refine zz_iconst (v := 2) C dX11_town_102 (by decide) ?_
      refine zz_iadd C dX11_town_103 ?_
      refine zz_callV C (Cn := RX7) (b := zzad Z l2) (fun H hH => zz_recv C.2.2.2 ((zzX_row hl2) H hH) rfl) (As := [.int (l5 + (2 : Int32))]) (rest := [.int r9, .int r4, .ref (zzad Z 24)]) rfl (k_X7_digitAt l2 hl2 (l5 + (2 : Int32)) σ10) (cwV 1 C.1.2.2.2.2 gX11_town_X7_digitAt rfl rfl rfl (by decide +kernel) ⟨Nat.le_of_ble_eq_true rfl, Nat.le_of_ble_eq_true rfl⟩) rfl (Nat.le_of_ble_eq_true rfl) ⟨by show ca + 0 ≤ 200; omega, by show sl + 0 ≤ 200; omega⟩ dX11_town_104 (zz_kI rfl rfl (fun r11 σ12 => ?_))
      refine zz_aload_n C dX11_town_107 rfl 2 rfl ?_
      refine zz_iload C dX11_town_108 4 rfl ?_
      refine zz_iconst (v := 3) C dX11_town_110 (by decide) ?_
      refine zz_iadd C dX11_town_111 ?_
      refine zz_callV C (Cn := RX7) (b := zzad Z l2) (fun H hH => zz_recv C.2.2.2 ((zzX_row hl2) H hH) rfl) (As := [.int (l5 + (3 : Int32))]) (rest := [.int r11, .int r9, .int r4, .ref (zzad Z 24)]) rfl (k_X7_digitAt l2 hl2 (l5 + (3 : Int32)) σ12) (cwV 1 C.1.2.2.2.2 gX11_town_X7_digitAt rfl rfl rfl (by decide +kernel) ⟨Nat.le_of_ble_eq_true rfl, Nat.le_of_ble_eq_true rfl⟩) rfl (Nat.le_of_ble_eq_true rfl) ⟨by show ca + 0 ≤ 200; omega, by show sl + 0 ≤ 200; omega⟩ dX11_town_112 (zz_kI rfl rfl (fun r13 σ14 => ?_))
      refine zz_callV C (Cn := RX10) (b := zzad Z 24) (fun H hH => zz_recv C.2.2.2 ((zzX_town (Or.inr (Or.inl rfl))) H hH) rfl) (As := [.int r4, .int r9, .int r11, .int r13]) (rest := []) rfl (k_X10_perform 24 (Or.inr (Or.inl rfl)) r4 r9 r11 r13 σ14) (cwV 4 C.1.2.2.2.2 gX11_town_X10_perform rfl rfl rfl (by decide +kernel) ⟨Nat.le_of_ble_eq_true rfl, Nat.le_of_ble_eq_true rfl⟩) rfl (Nat.le_of_ble_eq_true rfl) ⟨by show ca + 1 ≤ 200; omega, by show sl + 1 ≤ 200; omega⟩ dX11_town_115 (zz_kIX (fun r15 σ16 PL => ?_))
      refine zz_if_ne (tgt := 128) C dX11_town_118 (by decide) (fun h17 => ?_) (fun h17 => ?_)
      · refine zz_iincX (d := 1) (locf := fun x18 => [(4, .int x18), (6, .int r4), (0, .ref (zzad Z 0)), (2, .ref (zzad Z l2)), (5, .int l5)]) C dX11_town_128 (k := 3) rfl (by decide) (by decide) (fun _ => rfl) (fun x18 => ?_)
        refine zz_sub (loc' := [(0, .ref (zzad Z 0)), (2, .ref (zzad Z l2)), (4, .int x18), (5, .int l5)]) [2, 3, 0, 4] rfl ?_
        exact w_X11_town_131 C p0 k60 (N + 1) hN hk60 (ca + 1) (sl + 1) (by omega) (by omega) l2 hl2 x18 l5 σ16
      · refine zz_sipush (v := -2000) C dX11_town_121 (by decide) ?_
        refine zz_iload C dX11_town_124 4 rfl ?_
        refine zz_isub C dX11_town_126 ?_
        exact zz_iret C rfl rfl (fun _ h9 => zzXx_of h9) (by show ca + 1 ≤ 200; omega) (by show sl + 1 ≤ 200; omega) dX11_town_127
set_option maxHeartbeats 4000000 in
set_option maxRecDepth 100000 in
theorem w_X11_town_60 {l : Launch} {Z : zzG} {base : Nat} {mm : zzS} {p : Program} {e : Env} {s : State} {m : MethodId} {args : Array Value} {below : List Frame} {meth : Method} {c : Code} (C : zzCx p m meth c s args cX11_town 7 wsX11_town RX11 (some .int) Z) (p0 : Int32)   (n : Nat) : ∀ (PL : Nat → Option (Nat × Int32)) (ca sl : Nat), ca + n ≤ 200 → sl + n ≤ 200 → ∀ (l2 : Nat) (hl2 : zzrow l2) (l4 : Int32)  (l5 : Int32)  (σ : zzS), zzGO p l e rX11_town s m args below meth c 7 (zzA base) (zzX Z base PL mm) (zzXx Z base mm) zzRI rX11_town.cells rX11_town.slots (f_X11_town_60 p0 n l2 l4 l5 σ) σ ca sl 60 [(0, .ref (zzad Z 0)), (2, .ref (zzad Z l2)), (4, .int l4), (5, .int l5)] [] := by
  induction n with
  | zero => exact fun _ _ _ _ _ _ _ _ _ _ r9 s9 h9 => by cases h9
  | succ n ih => exact fun PL ca sl h1 h2 l2 hl2 l4 l5 σ => w_X11_town_60b C p0 (f_X11_town_60 p0 n) (199 - n) (by omega) (fun PL' ca' sl' g1 g2 l2' hl2' l4' l5' σ' => ih PL' ca' sl' (by omega) (by omega) l2' hl2' l4' l5' σ') ca sl (by omega) (by omega) l2 hl2 l4 l5 σ
set_option maxHeartbeats 4000000 in
set_option maxRecDepth 100000 in
theorem w_X11_town_e {l : Launch} {Z : zzG} {base : Nat} {PL : Nat → Option (Nat × Int32)} {mm : zzS} {p : Program} {e : Env} {s : State} {m : MethodId} {args : Array Value} {below : List Frame} {meth : Method} {c : Code} (C : zzCx p m meth c s args cX11_town 7 wsX11_town RX11 (some .int) Z) (p0 : Int32)  (σ : zzS) : zzGO p l e rX11_town s m args below meth c 7 (zzA base) (zzX Z base PL mm) (zzXx Z base mm) zzRI rX11_town.cells rX11_town.slots (f_X11_town p0 σ) σ 0 0 0 [(0, .ref (zzad Z 0)), (1, .int p0)] [] := by
  unfold f_X11_town
  refine zz_aload_n C dX11_town_0 rfl 0 rfl ?_
  refine zz_iload_n C dX11_town_1 rfl 1 rfl ?_
  refine zz_callV C (Cn := RX11) (b := zzad Z 0) (fun H hH => zz_recv C.2.2.2 (zzX_obj H hH) rfl) (As := [.int p0]) (rest := []) rfl (k_X11_rowOn p0 σ) (cwV 1 C.1.2.2.2.2 gX11_town_X11_rowOn rfl rfl rfl (by decide +kernel) ⟨Nat.le_of_ble_eq_true rfl, Nat.le_of_ble_eq_true rfl⟩) rfl (Nat.le_of_ble_eq_true rfl) ⟨Nat.le_of_ble_eq_true rfl, Nat.le_of_ble_eq_true rfl⟩ dX11_town_2 (zz_kQ rfl rfl (fun r1 σ2 => ?_))
  refine zz_astoreq_n (loc' := [(2, va_rf (Option.map (zzad Z) r1)), (0, .ref (zzad Z 0)), (1, .int p0)]) C dX11_town_5 rfl (by decide) rfl ?_
  refine zz_aloadq_n C dX11_town_6 rfl 0 rfl ?_
  refine zz_ifnonnullQ (tgt := 16) C dX11_town_7 (by decide) (fun h4 => ?_) (fun j3 h4 => ?_)
  · subst h4
    refine zz_aload_n C dX11_town_10 rfl 1 rfl ?_
    refine zz_iload_n C dX11_town_11 rfl 2 rfl ?_
    refine zz_callV C (Cn := RX11) (b := zzad Z 0) (fun H hH => zz_recv C.2.2.2 (zzX_obj H hH) rfl) (As := [.int p0]) (rest := []) rfl (k_X11_refusalWithoutRow p0 σ2) (cwV 1 C.1.2.2.2.2 gX11_town_X11_refusalWithoutRow rfl rfl rfl (by decide +kernel) ⟨Nat.le_of_ble_eq_true rfl, Nat.le_of_ble_eq_true rfl⟩) rfl (Nat.le_of_ble_eq_true rfl) ⟨Nat.le_of_ble_eq_true rfl, Nat.le_of_ble_eq_true rfl⟩ dX11_town_12 (zz_kI rfl rfl (fun r6 σ7 => ?_))
    exact zz_iret C rfl rfl (fun _ h9 => zzXx_of h9) (Nat.le_of_ble_eq_true rfl) (Nat.le_of_ble_eq_true rfl) dX11_town_15
  · subst h4
    refine zz_gd (fun h5 => ?_)
    refine zz_aload_n C dX11_town_16 rfl 0 rfl ?_
    refine zz_get C (zzX_row h5) (fun _ h9 => List.mem_cons_of_mem _ (List.mem_append_left _ (List.mem_append_left _ (List.mem_append_left _ (List.mem_append_left _ (List.mem_append_left _ (List.mem_append_left _ (List.mem_append_left _ (List.mem_append_left _ (List.mem_append_left _ (List.mem_append_left _ (List.mem_append_right _ (h9))))))))))))) rfl 1 (by decide) (List.mem_of_getElem? (i := 1) rfl) (Or.inl rfl) rfl dX11_town_17 ?_
    refine zz_if_eq (tgt := 26) C dX11_town_20 (by decide) (fun h8 => ?_) (fun h8 => ?_)
    · refine zz_aload_n C dX11_town_26 rfl 0 rfl ?_
      refine zz_callV C (Cn := RX7) (b := zzad Z j3) (fun H hH => zz_recv C.2.2.2 ((zzX_row h5) H hH) rfl) (As := []) (rest := []) rfl (k_X7_firstWrongByte j3 h5 σ2) (cwV 0 C.1.2.2.2.2 gX11_town_X7_firstWrongByte rfl rfl rfl (by decide +kernel) ⟨Nat.le_of_ble_eq_true rfl, Nat.le_of_ble_eq_true rfl⟩) rfl (Nat.le_of_ble_eq_true rfl) ⟨Nat.le_of_ble_eq_true rfl, Nat.le_of_ble_eq_true rfl⟩ dX11_town_27 (zz_kI rfl rfl (fun r9 σ10 => ?_))
      refine zz_istore_n (loc' := [(3, .int r9), (2, .ref (zzad Z j3)), (0, .ref (zzad Z 0)), (1, .int p0)]) C dX11_town_30 rfl (by decide) rfl ?_
      refine zz_iload_n C dX11_town_31 rfl 0 rfl ?_
      refine zz_bipush (v := -4) C dX11_town_32 (by decide) ?_
      refine zz_icmp_eq (tgt := 43) C dX11_town_34 (by decide) (fun h11 => ?_) (fun h11 => ?_)
      · refine zz_aload_n C dX11_town_43 rfl 2 rfl ?_
        refine zz_get C zzX_obj (fun _ h9 => List.mem_cons_of_mem _ (List.mem_append_left _ (List.mem_append_left _ (List.mem_append_left _ (List.mem_append_left _ (List.mem_append_left _ (List.mem_append_left _ (List.mem_append_left _ (List.mem_append_left _ (List.mem_append_left _ (List.mem_append_right _ (h9)))))))))))) rfl 4 (by decide) (List.mem_of_getElem? (i := 2) rfl) (Or.inl rfl) rfl dX11_town_44 ?_
        refine zz_aload_n C dX11_town_47 rfl 2 rfl ?_
        refine zz_get C zzX_obj (fun _ h9 => List.mem_cons_of_mem _ (List.mem_append_left _ (List.mem_append_left _ (List.mem_append_left _ (List.mem_append_left _ (List.mem_append_left _ (List.mem_append_left _ (List.mem_append_left _ (List.mem_append_left _ (List.mem_append_left _ (List.mem_append_right _ (h9)))))))))))) rfl 3 (by decide) (List.mem_of_getElem? (i := 3) rfl) (Or.inl rfl) rfl dX11_town_48 ?_
        refine zz_callV C (Cn := RX10) (b := zzad Z 24) (fun H hH => zz_recv C.2.2.2 ((zzX_town (Or.inr (Or.inl rfl))) H hH) rfl) (As := [.ref (zzad Z 20)]) (rest := []) rfl (k_X10_become 24 (Or.inr (Or.inl rfl)) 20 (Or.inl rfl) σ10) (cwV 1 C.1.2.2.2.2 gX11_town_X10_become rfl rfl rfl (by decide +kernel) ⟨Nat.le_of_ble_eq_true rfl, Nat.le_of_ble_eq_true rfl⟩) rfl (Nat.le_of_ble_eq_true rfl) ⟨Nat.le_of_ble_eq_true rfl, Nat.le_of_ble_eq_true rfl⟩ dX11_town_51 (zz_kV rfl rfl (fun r12 σ13 => ?_))
        refine zz_iconst (v := 0) C dX11_town_54 (by decide) ?_
        refine zz_istore (loc' := [(4, .int (0 : Int32)), (3, .int r9), (2, .ref (zzad Z j3)), (0, .ref (zzad Z 0)), (1, .int p0)]) C dX11_town_55 (by decide) rfl ?_
        refine zz_iconst (v := 0) C dX11_town_57 (by decide) ?_
        refine zz_istore (loc' := [(5, .int (0 : Int32)), (4, .int (0 : Int32)), (3, .int r9), (2, .ref (zzad Z j3)), (0, .ref (zzad Z 0)), (1, .int p0)]) C dX11_town_58 (by decide) rfl ?_
        refine zz_sub (loc' := [(0, .ref (zzad Z 0)), (2, .ref (zzad Z j3)), (4, .int (0 : Int32)), (5, .int (0 : Int32))]) [4, 3, 1, 0] rfl ?_
        exact w_X11_town_60 C p0 200 _ 0 0 (by decide) (by decide) j3 h5 (0 : Int32) (0 : Int32) σ13
      · refine zz_sipush (v := -1000) C dX11_town_37 (by decide) ?_
        refine zz_iload_n C dX11_town_40 rfl 0 rfl ?_
        refine zz_isub C dX11_town_41 ?_
        exact zz_iret C rfl rfl (fun _ h9 => zzXx_of h9) (Nat.le_of_ble_eq_true rfl) (Nat.le_of_ble_eq_true rfl) dX11_town_42
    · refine zz_bipush (v := -12) C dX11_town_23 (by decide) ?_
      exact zz_iret C rfl rfl (fun _ h9 => zzXx_of h9) (Nat.le_of_ble_eq_true rfl) (Nat.le_of_ble_eq_true rfl) dX11_town_25
set_option maxHeartbeats 4000000 in
set_option maxRecDepth 100000 in
theorem k_X11_town {l : Launch} {Z : zzG} {base : Nat} {PL : Nat → Option (Nat × Int32)} {mm : zzS} (p0 : Int32)  (σ : zzS) : zzCT l yX11_town wsX11_town rX11_town (zzA base) Z (zzX Z base PL mm) (zzXx Z base mm) zzRI [.ref (zzad Z 0), .int p0] (f_X11_town p0 σ) σ :=
  zzCT_of (cc := cX11_town) (nL := 7) (ret := (some .int)) (by decide) rfl (Nat.le_of_ble_eq_true rfl) [(0, .ref (zzad Z 0)), (1, .int p0)] rfl (fun p e s m args below meth c C => w_X11_town_e C p0 σ)
