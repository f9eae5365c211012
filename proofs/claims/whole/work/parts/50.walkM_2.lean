abbrev rX12_told : Room := { frames := 4, cells := 0, slots := 0, locals := 93 }

set_option maxHeartbeats 4000000 in
set_option maxRecDepth 100000 in
theorem w_X12_told_141 {l : Launch} {Z : zzG} {base : Nat} {PL : Nat → Option (Nat × Int32)} {mm : zzS} {p : Program} {e : Env} {s : State} {m : MethodId} {args : Array Value} {below : List Frame} {meth : Method} {c : Code} (C : zzCx p m meth c s args cX12_told 9 wsX12_told RX12 (some .int) Z) (p0 : Int32)  (k45 : Int32 → Int32 → Int32 → zzS → Option (Int32 × zzS)) (hk45 : ∀ (l3 : Int32)  (l4 : Int32)  (l5 : Int32)  (σ : zzS), zzGO p l e rX12_told s m args below meth c 9 (zzA base) (zzM Z base PL mm) (zzM Z base PL mm) zzRI rX12_told.cells rX12_told.slots (k45 l3 l4 l5 σ) σ 0 0 45 [(0, .ref (zzad Z 36)), (1, .int p0), (3, .int l3), (4, .int l4), (5, .int l5)] []) (k78 : Int32 → Int32 → Int32 → Int32 → Int32 → zzS → Option (Int32 × zzS)) (hk78 : ∀ (l3 : Int32)  (l4 : Int32)  (l5 : Int32)  (l6 : Int32)  (l7 : Int32)  (σ : zzS), zzGO p l e rX12_told s m args below meth c 9 (zzA base) (zzM Z base PL mm) (zzM Z base PL mm) zzRI rX12_told.cells rX12_told.slots (k78 l3 l4 l5 l6 l7 σ) σ 0 0 78 [(0, .ref (zzad Z 36)), (1, .int p0), (3, .int l3), (4, .int l4), (5, .int l5), (6, .int l6), (7, .int l7)] []) (l3 : Int32)  (l5 : Int32)  (l6 : Int32)  (l7 : Int32)  (s0 : Int32)  (σ : zzS) : zzGO p l e rX12_told s m args below meth c 9 (zzA base) (zzM Z base PL mm) (zzM Z base PL mm) zzRI rX12_told.cells rX12_told.slots (f_X12_told_141 k45 k78 p0 l3 l5 l6 l7 s0 σ) σ 0 0 141 [(0, .ref (zzad Z 36)), (1, .int p0), (3, .int l3), (5, .int l5), (6, .int l6), (7, .int l7)] [.int s0] := by
  unfold f_X12_told_141
  refine zz_istore (loc' := [(4, .int s0), (0, .ref (zzad Z 36)), (1, .int p0), (3, .int l3), (5, .int l5), (6, .int l6), (7, .int l7)]) C dX12_told_141 (by decide) rfl ?_
  refine zz_iincX (d := -1) (locf := fun x1 => [(7, .int x1), (4, .int s0), (0, .ref (zzad Z 36)), (1, .int p0), (3, .int l3), (5, .int l5), (6, .int l6)]) C dX12_told_143 (k := 6) rfl (by decide) (by decide) (fun _ => rfl) (fun x1 => ?_)
  refine zz_goto (tgt := 78) C dX12_told_146 (by decide) ?_
  refine zz_sub (loc' := [(0, .ref (zzad Z 36)), (1, .int p0), (3, .int l3), (4, .int s0), (5, .int l5), (6, .int l6), (7, .int x1)]) [2, 3, 4, 1, 5, 6, 0] rfl ?_
  exact hk78 l3 s0 l5 l6 x1 σ
set_option maxHeartbeats 4000000 in
set_option maxRecDepth 100000 in
theorem w_X12_told_139 {l : Launch} {Z : zzG} {base : Nat} {PL : Nat → Option (Nat × Int32)} {mm : zzS} {p : Program} {e : Env} {s : State} {m : MethodId} {args : Array Value} {below : List Frame} {meth : Method} {c : Code} (C : zzCx p m meth c s args cX12_told 9 wsX12_told RX12 (some .int) Z) (p0 : Int32)  (k45 : Int32 → Int32 → Int32 → zzS → Option (Int32 × zzS)) (hk45 : ∀ (l3 : Int32)  (l4 : Int32)  (l5 : Int32)  (σ : zzS), zzGO p l e rX12_told s m args below meth c 9 (zzA base) (zzM Z base PL mm) (zzM Z base PL mm) zzRI rX12_told.cells rX12_told.slots (k45 l3 l4 l5 σ) σ 0 0 45 [(0, .ref (zzad Z 36)), (1, .int p0), (3, .int l3), (4, .int l4), (5, .int l5)] []) (k78 : Int32 → Int32 → Int32 → Int32 → Int32 → zzS → Option (Int32 × zzS)) (hk78 : ∀ (l3 : Int32)  (l4 : Int32)  (l5 : Int32)  (l6 : Int32)  (l7 : Int32)  (σ : zzS), zzGO p l e rX12_told s m args below meth c 9 (zzA base) (zzM Z base PL mm) (zzM Z base PL mm) zzRI rX12_told.cells rX12_told.slots (k78 l3 l4 l5 l6 l7 σ) σ 0 0 78 [(0, .ref (zzad Z 36)), (1, .int p0), (3, .int l3), (4, .int l4), (5, .int l5), (6, .int l6), (7, .int l7)] []) (l3 : Int32)  (l4 : Int32)  (l5 : Int32)  (l6 : Int32)  (l7 : Int32)  (σ : zzS) : zzGO p l e rX12_told s m args below meth c 9 (zzA base) (zzM Z base PL mm) (zzM Z base PL mm) zzRI rX12_told.cells rX12_told.slots (f_X12_told_139 k45 k78 p0 l3 l4 l5 l6 l7 σ) σ 0 0 139 [(0, .ref (zzad Z 36)), (1, .int p0), (3, .int l3), (4, .int l4), (5, .int l5), (6, .int l6), (7, .int l7)] [] := by
  unfold f_X12_told_139
  refine zz_iload C dX12_told_139 3 rfl ?_
  refine zz_sub (loc' := [(0, .ref (zzad Z 36)), (1, .int p0), (3, .int l3), (5, .int l5), (6, .int l6), (7, .int l7)]) [0, 1, 2, 4, 5, 6] rfl ?_
  exact w_X12_told_141 C p0 k45 hk45 k78 hk78 l3 l5 l6 l7 l4 σ
set_option maxHeartbeats 4000000 in
set_option maxRecDepth 100000 in
theorem w_X12_told_165 {l : Launch} {Z : zzG} {base : Nat} {PL : Nat → Option (Nat × Int32)} {mm : zzS} {p : Program} {e : Env} {s : State} {m : MethodId} {args : Array Value} {below : List Frame} {meth : Method} {c : Code} (C : zzCx p m meth c s args cX12_told 9 wsX12_told RX12 (some .int) Z) (p0 : Int32)  (k45 : Int32 → Int32 → Int32 → zzS → Option (Int32 × zzS)) (hk45 : ∀ (l3 : Int32)  (l4 : Int32)  (l5 : Int32)  (σ : zzS), zzGO p l e rX12_told s m args below meth c 9 (zzA base) (zzM Z base PL mm) (zzM Z base PL mm) zzRI rX12_told.cells rX12_told.slots (k45 l3 l4 l5 σ) σ 0 0 45 [(0, .ref (zzad Z 36)), (1, .int p0), (3, .int l3), (4, .int l4), (5, .int l5)] []) (l4 : Int32)  (l5 : Int32)  (s0 : Int32)  (s1 : Int32)  (σ : zzS) : zzGO p l e rX12_told s m args below meth c 9 (zzA base) (zzM Z base PL mm) (zzM Z base PL mm) zzRI rX12_told.cells rX12_told.slots (f_X12_told_165 k45 p0 l4 l5 s0 s1 σ) σ 0 0 165 [(0, .ref (zzad Z 36)), (1, .int p0), (4, .int l4), (5, .int l5)] [.int s0, .int s1] := by
  unfold f_X12_told_165
  refine zz_ior C dX12_told_165 ?_
  refine zz_istoreX_n (locf := fun x1 => [(3, .int x1), (0, .ref (zzad Z 36)), (1, .int p0), (4, .int l4), (5, .int l5)]) C dX12_told_166 rfl (by decide) (fun _ => rfl) (fun x1 => ?_)
  refine zz_iincX (d := 1) (locf := fun x2 => [(5, .int x2), (3, .int x1), (0, .ref (zzad Z 36)), (1, .int p0), (4, .int l4)]) C dX12_told_167 (k := 4) rfl (by decide) (by decide) (fun _ => rfl) (fun x2 => ?_)
  refine zz_goto (tgt := 45) C dX12_told_170 (by decide) ?_
  refine zz_sub (loc' := [(0, .ref (zzad Z 36)), (1, .int p0), (3, .int x1), (4, .int l4), (5, .int x2)]) [2, 3, 1, 4, 0] rfl ?_
  exact hk45 x1 l4 x2 σ
set_option maxHeartbeats 4000000 in
set_option maxRecDepth 100000 in
theorem w_X12_told_78b {l : Launch} {Z : zzG} {base : Nat} {PL : Nat → Option (Nat × Int32)} {mm : zzS} {p : Program} {e : Env} {s : State} {m : MethodId} {args : Array Value} {below : List Frame} {meth : Method} {c : Code} (C : zzCx p m meth c s args cX12_told 9 wsX12_told RX12 (some .int) Z) (p0 : Int32)  (k45 : Int32 → Int32 → Int32 → zzS → Option (Int32 × zzS)) (hk45 : ∀ (l3 : Int32)  (l4 : Int32)  (l5 : Int32)  (σ : zzS), zzGO p l e rX12_told s m args below meth c 9 (zzA base) (zzM Z base PL mm) (zzM Z base PL mm) zzRI rX12_told.cells rX12_told.slots (k45 l3 l4 l5 σ) σ 0 0 45 [(0, .ref (zzad Z 36)), (1, .int p0), (3, .int l3), (4, .int l4), (5, .int l5)] []) (k78 : Int32 → Int32 → Int32 → Int32 → Int32 → zzS → Option (Int32 × zzS)) (hk78 : ∀ (l3 : Int32)  (l4 : Int32)  (l5 : Int32)  (l6 : Int32)  (l7 : Int32)  (σ : zzS), zzGO p l e rX12_told s m args below meth c 9 (zzA base) (zzM Z base PL mm) (zzM Z base PL mm) zzRI rX12_told.cells rX12_told.slots (k78 l3 l4 l5 l6 l7 σ) σ 0 0 78 [(0, .ref (zzad Z 36)), (1, .int p0), (3, .int l3), (4, .int l4), (5, .int l5), (6, .int l6), (7, .int l7)] []) (l3 : Int32)  (l4 : Int32)  (l5 : Int32)  (l6 : Int32)  (l7 : Int32)  (σ : zzS) : zzGO p l e rX12_told s m args below meth c 9 (zzA base) (zzM Z base PL mm) (zzM Z base PL mm) zzRI rX12_told.cells rX12_told.slots (f_X12_told_78b k45 k78 p0 l3 l4 l5 l6 l7 σ) σ 0 0 78 [(0, .ref (zzad Z 36)), (1, .int p0), (3, .int l3), (4, .int l4), (5, .int l5), (6, .int l6), (7, .int l7)] [] := by
  unfold f_X12_told_78b
  refine zz_iload C dX12_told_78 6 rfl ?_
  refine zz_if_lt (tgt := 149) C dX12_told_80 (by decide) (fun h1 => ?_) (fun h1 => ?_)
  · refine zz_iload_n C dX12_told_149 rfl 2 rfl ?_
    refine zz_iload C dX12_told_150 3 rfl ?_
    refine zz_bipush (v := 9) C dX12_told_152 (by decide) ?_
    refine zz_icmp_ne (tgt := 161) C dX12_told_154 (by decide) (fun h2 => ?_) (fun h2 => ?_)
    · refine zz_iconst (v := 1) C dX12_told_161 (by decide) ?_
      refine zz_iload C dX12_told_162 3 rfl ?_
      refine zz_ishl C dX12_told_164 ?_
      refine zz_sub (loc' := [(0, .ref (zzad Z 36)), (1, .int p0), (4, .int l4), (5, .int l5)]) [0, 1, 3, 4] rfl ?_
      exact w_X12_told_165 C p0 k45 hk45 l4 l5 ((1 : Int32) <<< (l4 &&& 31)) l3 σ
    · refine zz_iconst (v := 0) C dX12_told_157 (by decide) ?_
      refine zz_goto (tgt := 165) C dX12_told_158 (by decide) ?_
      refine zz_sub (loc' := [(0, .ref (zzad Z 36)), (1, .int p0), (4, .int l4), (5, .int l5)]) [0, 1, 3, 4] rfl ?_
      exact w_X12_told_165 C p0 k45 hk45 l4 l5 (0 : Int32) l3 σ
  · refine zz_aload_n C dX12_told_83 rfl 0 rfl ?_
    refine zz_iload C dX12_told_84 4 rfl ?_
    refine zz_callV C (Cn := RX12) (b := zzad Z 36) (fun H hH => zz_recv C.2.2.2 (zzM_obj H hH) rfl) (As := [.int l5]) (rest := []) rfl (k_X12_fitFor l5 σ) (cwV 1 C.1.2.2.2.2 gX12_told_X12_fitFor rfl rfl rfl (by decide +kernel) ⟨Nat.le_of_ble_eq_true rfl, Nat.le_of_ble_eq_true rfl⟩) rfl (Nat.le_of_ble_eq_true rfl) ⟨Nat.zero_le _, Nat.zero_le _⟩ dX12_told_86 (zz_kI rfl rfl (fun r3 σ4 => ?_))
    refine zz_iload_n C dX12_told_89 rfl 2 rfl ?_
    refine zz_iconst (v := -1) C dX12_told_90 (by decide) ?_
    refine zz_ixor C dX12_told_91 ?_
    refine zz_iand C dX12_told_92 ?_
    refine zz_iload C dX12_told_93 6 rfl ?_
    refine zz_callS (As := [.int (r3 &&& (l3 ^^^ (-1 : Int32))), .int l7]) (rest := []) C rfl (k_X12_hasBit (r3 &&& (l3 ^^^ (-1 : Int32))) l7 σ4) (va_cwS 2 C.1.2.2.2.2 gX12_told_X12_hasBit rfl rfl rfl (by decide +kernel) ⟨Nat.le_of_ble_eq_true rfl, Nat.le_of_ble_eq_true rfl⟩) rfl (Nat.le_of_ble_eq_true rfl) ⟨Nat.zero_le _, Nat.zero_le _⟩ dX12_told_95 (zz_kI rfl rfl (fun r5 σ6 => ?_))
    refine zz_istore (loc' := [(8, .int r5), (0, .ref (zzad Z 36)), (1, .int p0), (3, .int l3), (4, .int l4), (5, .int l5), (6, .int l6), (7, .int l7)]) C dX12_told_98 (by decide) rfl ?_
    refine zz_iload C dX12_told_100 0 rfl ?_
    refine zz_if_eq (tgt := 139) C dX12_told_102 (by decide) (fun h7 => ?_) (fun h7 => ?_)
    · refine zz_sub (loc' := [(0, .ref (zzad Z 36)), (1, .int p0), (3, .int l3), (4, .int l4), (5, .int l5), (6, .int l6), (7, .int l7)]) [1, 2, 3, 4, 5, 6, 7] rfl ?_
      exact w_X12_told_139 C p0 k45 hk45 k78 hk78 l3 l4 l5 l6 l7 σ6
    · refine zz_aload_n C dX12_told_105 rfl 1 rfl ?_
      refine zz_get C zzM_obj (fun _ h9 => List.mem_cons_of_mem _ (List.mem_append_right _ (h9))) rfl 27 (by decide) (List.mem_of_getElem? (i := 4) rfl) (Or.inl rfl) rfl dX12_told_106 ?_
      refine zz_sipush (v := 128) C dX12_told_109 (by decide) ?_
      refine zz_iload C dX12_told_112 5 rfl ?_
      refine zz_imul C dX12_told_114 ?_
      refine zz_sipush (v := 128) C dX12_told_115 (by decide) ?_
      refine zz_iadd C dX12_told_118 ?_
      refine zz_iload_n C dX12_told_119 rfl 3 rfl ?_
      refine zz_iconst (v := 1) C dX12_told_120 (by decide) ?_
      refine zz_iload C dX12_told_121 7 rfl ?_
      refine zz_ishl C dX12_told_123 ?_
      refine zz_ior C dX12_told_124 ?_
      refine zz_iadd C dX12_told_125 ?_
      refine zz_gd (fun h8 => ?_)
      refine zz_iald C (zzM_arr (by decide)) h8 dX12_told_126 ?_
      refine zz_iconst (v := 1) C dX12_told_127 (by decide) ?_
      refine zz_iadd C dX12_told_128 ?_
      refine zz_iload C dX12_told_129 6 rfl ?_
      refine zz_icmp_ne (tgt := 139) C dX12_told_131 (by decide) (fun h9 => ?_) (fun h9 => ?_)
      · refine zz_sub (loc' := [(0, .ref (zzad Z 36)), (1, .int p0), (3, .int l3), (4, .int l4), (5, .int l5), (6, .int l6), (7, .int l7)]) [1, 2, 3, 4, 5, 6, 7] rfl ?_
        exact w_X12_told_139 C p0 k45 hk45 k78 hk78 l3 l4 l5 l6 l7 σ6
      · refine zz_iload C dX12_told_134 7 rfl ?_
        refine zz_goto (tgt := 141) C dX12_told_136 (by decide) ?_
        refine zz_sub (loc' := [(0, .ref (zzad Z 36)), (1, .int p0), (3, .int l3), (5, .int l5), (6, .int l6), (7, .int l7)]) [1, 2, 3, 5, 6, 7] rfl ?_
        exact w_X12_told_141 C p0 k45 hk45 k78 hk78 l3 l5 l6 l7 l7 σ6
set_option maxHeartbeats 4000000 in
set_option maxRecDepth 100000 in
theorem w_X12_told_78 {l : Launch} {Z : zzG} {base : Nat} {PL : Nat → Option (Nat × Int32)} {mm : zzS} {p : Program} {e : Env} {s : State} {m : MethodId} {args : Array Value} {below : List Frame} {meth : Method} {c : Code} (C : zzCx p m meth c s args cX12_told 9 wsX12_told RX12 (some .int) Z) (p0 : Int32)  (k45 : Int32 → Int32 → Int32 → zzS → Option (Int32 × zzS)) (hk45 : ∀ (l3 : Int32)  (l4 : Int32)  (l5 : Int32)  (σ : zzS), zzGO p l e rX12_told s m args below meth c 9 (zzA base) (zzM Z base PL mm) (zzM Z base PL mm) zzRI rX12_told.cells rX12_told.slots (k45 l3 l4 l5 σ) σ 0 0 45 [(0, .ref (zzad Z 36)), (1, .int p0), (3, .int l3), (4, .int l4), (5, .int l5)] []) (n : Nat) : ∀ (l3 : Int32)  (l4 : Int32)  (l5 : Int32)  (l6 : Int32)  (l7 : Int32)  (σ : zzS), zzGO p l e rX12_told s m args below meth c 9 (zzA base) (zzM Z base PL mm) (zzM Z base PL mm) zzRI rX12_told.cells rX12_told.slots (f_X12_told_78 k45 p0 n l3 l4 l5 l6 l7 σ) σ 0 0 78 [(0, .ref (zzad Z 36)), (1, .int p0), (3, .int l3), (4, .int l4), (5, .int l5), (6, .int l6), (7, .int l7)] [] := by
  induction n with
  | zero => exact fun _ _ _ _ _ _ r9 s9 h9 => by cases h9
  | succ n ih => exact w_X12_told_78b C p0 k45 hk45 _ ih
set_option maxHeartbeats 4000000 in
set_option maxRecDepth 100000 in
theorem w_X12_told_45b {l : Launch} {Z : zzG} {base : Nat} {PL : Nat → Option (Nat × Int32)} {mm : zzS} {p : Program} {e : Env} {s : State} {m : MethodId} {args : Array Value} {below : List Frame} {meth : Method} {c : Code} (C : zzCx p m meth c s args cX12_told 9 wsX12_told RX12 (some .int) Z) (p0 : Int32)   (k45 : Int32 → Int32 → Int32 → zzS → Option (Int32 × zzS)) (hk45 : ∀ (l3 : Int32)  (l4 : Int32)  (l5 : Int32)  (σ : zzS), zzGO p l e rX12_told s m args below meth c 9 (zzA base) (zzM Z base PL mm) (zzM Z base PL mm) zzRI rX12_told.cells rX12_told.slots (k45 l3 l4 l5 σ) σ 0 0 45 [(0, .ref (zzad Z 36)), (1, .int p0), (3, .int l3), (4, .int l4), (5, .int l5)] []) (l3 : Int32)  (l4 : Int32)  (l5 : Int32)  (σ : zzS) : zzGO p l e rX12_told s m args below meth c 9 (zzA base) (zzM Z base PL mm) (zzM Z base PL mm) zzRI rX12_told.cells rX12_told.slots (f_X12_told_45b k45 p0 l3 l4 l5 σ) σ 0 0 45 [(0, .ref (zzad Z 36)), (1, .int p0), (3, .int l3), (4, .int l4), (5, .int l5)] [] := by
  unfold f_X12_told_45b
  refine zz_iload C dX12_told_45 4 rfl ?_
  refine zz_iload_n C dX12_told_47 rfl 1 rfl ?_
  refine zz_icmp_gt (tgt := 173) C dX12_told_48 (by decide) (fun h1 => ?_) (fun h1 => ?_)
  · refine zz_iload C dX12_told_173 3 rfl ?_
    exact zz_iret C rfl rfl (fun _ h9 => h9) (Nat.zero_le _) (Nat.zero_le _) dX12_told_175
  · refine zz_aload_n C dX12_told_51 rfl 0 rfl ?_
    refine zz_get C zzM_obj (fun _ h9 => List.mem_cons_of_mem _ (List.mem_append_right _ (h9))) rfl 27 (by decide) (List.mem_of_getElem? (i := 4) rfl) (Or.inl rfl) rfl dX12_told_52 ?_
    refine zz_sipush (v := 128) C dX12_told_55 (by decide) ?_
    refine zz_iload C dX12_told_58 4 rfl ?_
    refine zz_imul C dX12_told_60 ?_
    refine zz_iload_n C dX12_told_61 rfl 2 rfl ?_
    refine zz_iadd C dX12_told_62 ?_
    refine zz_gd (fun h2 => ?_)
    refine zz_iald C (zzM_arr (by decide)) h2 dX12_told_63 ?_
    refine zz_istoreX (locf := fun x3 => [(6, .int x3), (0, .ref (zzad Z 36)), (1, .int p0), (3, .int l3), (4, .int l4), (5, .int l5)]) C dX12_told_64 (by decide) (fun _ => rfl) (fun x3 => ?_)
    refine zz_bipush (v := 9) C dX12_told_66 (by decide) ?_
    refine zz_istore (loc' := [(4, .int (9 : Int32)), (6, .int x3), (0, .ref (zzad Z 36)), (1, .int p0), (3, .int l3), (5, .int l5)]) C dX12_told_68 (by decide) rfl ?_
    refine zz_aload_n C dX12_told_70 rfl 2 rfl ?_
    refine zz_get C zzM_obj (fun _ h9 => List.mem_cons_of_mem _ (List.mem_append_right _ (h9))) rfl 0 (by decide) (List.mem_of_getElem? (i := 3) rfl) (Or.inl rfl) rfl dX12_told_71 ?_
    refine zz_iconst (v := 1) C dX12_told_74 (by decide) ?_
    refine zz_isub C dX12_told_75 ?_
    refine zz_istoreX (locf := fun x4 => [(7, .int x4), (4, .int (9 : Int32)), (6, .int x3), (0, .ref (zzad Z 36)), (1, .int p0), (3, .int l3), (5, .int l5)]) C dX12_told_76 (by decide) (fun _ => rfl) (fun x4 => ?_)
    refine zz_sub (loc' := [(0, .ref (zzad Z 36)), (1, .int p0), (3, .int l3), (4, .int (9 : Int32)), (5, .int l5), (6, .int x3), (7, .int x4)]) [3, 4, 5, 1, 6, 2, 0] rfl ?_
    exact w_X12_told_78 C p0 k45 hk45 200 l3 (9 : Int32) l5 x3 x4 σ
set_option maxHeartbeats 4000000 in
set_option maxRecDepth 100000 in
theorem w_X12_told_45 {l : Launch} {Z : zzG} {base : Nat} {PL : Nat → Option (Nat × Int32)} {mm : zzS} {p : Program} {e : Env} {s : State} {m : MethodId} {args : Array Value} {below : List Frame} {meth : Method} {c : Code} (C : zzCx p m meth c s args cX12_told 9 wsX12_told RX12 (some .int) Z) (p0 : Int32)   (n : Nat) : ∀ (l3 : Int32)  (l4 : Int32)  (l5 : Int32)  (σ : zzS), zzGO p l e rX12_told s m args below meth c 9 (zzA base) (zzM Z base PL mm) (zzM Z base PL mm) zzRI rX12_told.cells rX12_told.slots (f_X12_told_45 p0 n l3 l4 l5 σ) σ 0 0 45 [(0, .ref (zzad Z 36)), (1, .int p0), (3, .int l3), (4, .int l4), (5, .int l5)] [] := by
  induction n with
  | zero => exact fun _ _ _ _ r9 s9 h9 => by cases h9
  | succ n ih => exact w_X12_told_45b C p0 _ ih
set_option maxHeartbeats 4000000 in
set_option maxRecDepth 100000 in
theorem w_X12_told_e {l : Launch} {Z : zzG} {base : Nat} {PL : Nat → Option (Nat × Int32)} {mm : zzS} {p : Program} {e : Env} {s : State} {m : MethodId} {args : Array Value} {below : List Frame} {meth : Method} {c : Code} (C : zzCx p m meth c s args cX12_told 9 wsX12_told RX12 (some .int) Z) (p0 : Int32)  (σ : zzS) : zzGO p l e rX12_told s m args below meth c 9 (zzA base) (zzM Z base PL mm) (zzM Z base PL mm) zzRI rX12_told.cells rX12_told.slots (f_X12_told p0 σ) σ 0 0 0 [(0, .ref (zzad Z 36)), (1, .int p0)] [] := by
  unfold f_X12_told
  refine zz_aload_n C dX12_told_0 rfl 0 rfl ?_
  refine zz_iconst (v := 0) C dX12_told_1 (by decide) ?_
  refine zz_put (ty := .int) C zzM_obj (fun _ h9 => List.mem_cons_of_mem _ (List.mem_append_right _ (h9))) rfl 13 (by decide) (List.mem_of_getElem? (i := 1) rfl) rfl tyX12_ok nmX12 rfl (by decide +kernel) rfl rfl (Nat.le_of_ble_eq_true rfl) (zzM_uobj (by decide)) (zzA_M (by decide)) dX12_told_2 ?_
  refine zz_ltS (fun σ1 => ?_)
  refine zz_iload_n C dX12_told_5 rfl 1 rfl ?_
  refine zz_i2l C dX12_told_6 ?_
  refine zz_ldc2 (v := -1) C (C.1.2.2.2.2 _ (List.mem_of_getElem? (i := 2) rfl)) dX12_told_7 ?_
  refine zz_aload_n C dX12_told_10 rfl 0 rfl ?_
  refine zz_get C zzM_obj (fun _ h9 => List.mem_cons_of_mem _ (List.mem_append_right _ (h9))) rfl 0 (by decide) (List.mem_of_getElem? (i := 3) rfl) (Or.inl rfl) rfl dX12_told_11 ?_
  refine zz_iconst (v := 1) C dX12_told_14 (by decide) ?_
  refine zz_isub C dX12_told_15 ?_
  refine zz_i2l C dX12_told_16 ?_
  refine zz_callS (As := [.long (Int32.toInt64 p0), .long (-1 : Int64), .long (Int32.toInt64 ((zzi σ1 36 0) - (1 : Int32)))]) (rest := []) C rfl (k_X12_in (Int32.toInt64 p0) (-1 : Int64) (Int32.toInt64 ((zzi σ1 36 0) - (1 : Int32))) σ1) (va_cwS 3 C.1.2.2.2.2 gX12_told_X12_in rfl rfl rfl (by decide +kernel) ⟨Nat.le_of_ble_eq_true rfl, Nat.le_of_ble_eq_true rfl⟩) rfl (Nat.le_of_ble_eq_true rfl) ⟨Nat.zero_le _, Nat.zero_le _⟩ dX12_told_17 (zz_kI rfl rfl (fun r2 σ3 => ?_))
  refine zz_if_ne (tgt := 25) C dX12_told_20 (by decide) (fun h4 => ?_) (fun h4 => ?_)
  · refine zz_aload_n C dX12_told_25 rfl 0 rfl ?_
    refine zz_callV C (Cn := RX12) (b := zzad Z 36) (fun H hH => zz_recv C.2.2.2 (zzM_obj H hH) rfl) (As := []) (rest := []) rfl (k_X12_layTold σ3) (cwV 0 C.1.2.2.2.2 gX12_told_X12_layTold rfl rfl rfl (by decide +kernel) ⟨Nat.le_of_ble_eq_true rfl, Nat.le_of_ble_eq_true rfl⟩) rfl (Nat.le_of_ble_eq_true rfl) ⟨Nat.zero_le _, Nat.zero_le _⟩ dX12_told_26 (zz_kI rfl rfl (fun r5 σ6 => ?_))
    refine zz_istore_n (loc' := [(2, .int r5), (0, .ref (zzad Z 36)), (1, .int p0)]) C dX12_told_29 rfl (by decide) rfl ?_
    refine zz_iload_n C dX12_told_30 rfl 2 rfl ?_
    refine zz_if_ge (tgt := 36) C dX12_told_31 (by decide) (fun h7 => ?_) (fun h7 => ?_)
    · refine zz_iconst (v := 0) C dX12_told_36 (by decide) ?_
      refine zz_istore_n (loc' := [(3, .int (0 : Int32)), (2, .int r5), (0, .ref (zzad Z 36)), (1, .int p0)]) C dX12_told_37 rfl (by decide) rfl ?_
      refine zz_bipush (v := 9) C dX12_told_38 (by decide) ?_
      refine zz_istore (loc' := [(4, .int (9 : Int32)), (3, .int (0 : Int32)), (2, .int r5), (0, .ref (zzad Z 36)), (1, .int p0)]) C dX12_told_40 (by decide) rfl ?_
      refine zz_iconst (v := 0) C dX12_told_42 (by decide) ?_
      refine zz_istore (loc' := [(5, .int (0 : Int32)), (4, .int (9 : Int32)), (3, .int (0 : Int32)), (2, .int r5), (0, .ref (zzad Z 36)), (1, .int p0)]) C dX12_told_43 (by decide) rfl ?_
      refine zz_sub (loc' := [(0, .ref (zzad Z 36)), (1, .int p0), (3, .int (0 : Int32)), (4, .int (9 : Int32)), (5, .int (0 : Int32))]) [4, 5, 2, 1, 0] rfl ?_
      exact w_X12_told_45 C p0 200 (0 : Int32) (9 : Int32) (0 : Int32) σ6
    · refine zz_iload_n C dX12_told_34 rfl 0 rfl ?_
      exact zz_iret C rfl rfl (fun _ h9 => h9) (Nat.zero_le _) (Nat.zero_le _) dX12_told_35
  · refine zz_iconst (v := -1) C dX12_told_23 (by decide) ?_
    exact zz_iret C rfl rfl (fun _ h9 => h9) (Nat.zero_le _) (Nat.zero_le _) dX12_told_24
set_option maxHeartbeats 4000000 in
set_option maxRecDepth 100000 in
theorem k_X12_told {l : Launch} {Z : zzG} {base : Nat} {PL : Nat → Option (Nat × Int32)} {mm : zzS} (p0 : Int32)  (σ : zzS) : zzCT l yX12_told wsX12_told rX12_told (zzA base) Z (zzM Z base PL mm) (zzM Z base PL mm) zzRI [.ref (zzad Z 36), .int p0] (f_X12_told p0 σ) σ :=
  zzCT_of (cc := cX12_told) (nL := 9) (ret := (some .int)) (by decide) rfl (Nat.le_of_ble_eq_true rfl) [(0, .ref (zzad Z 36)), (1, .int p0)] rfl (fun p e s m args below meth c C => w_X12_told_e C p0 σ)
abbrev rX12_rings : Room := { frames := 4, cells := 0, slots := 0, locals := 93 }

set_option maxHeartbeats 4000000 in
set_option maxRecDepth 100000 in
theorem w_X12_rings_e {l : Launch} {Z : zzG} {base : Nat} {PL : Nat → Option (Nat × Int32)} {mm : zzS} {p : Program} {e : Env} {s : State} {m : MethodId} {args : Array Value} {below : List Frame} {meth : Method} {c : Code} (C : zzCx p m meth c s args cX12_rings 1 wsX12_rings RX12 (some .int) Z)  (σ : zzS) : zzGO p l e rX12_rings s m args below meth c 1 (zzA base) (zzM Z base PL mm) (zzM Z base PL mm) zzRI rX12_rings.cells rX12_rings.slots (f_X12_rings σ) σ 0 0 0 [(0, .ref (zzad Z 36))] [] := by
  unfold f_X12_rings
  refine zz_aload_n C dX12_rings_0 rfl 0 rfl ?_
  refine zz_iconst (v := 0) C dX12_rings_1 (by decide) ?_
  refine zz_put (ty := .int) C zzM_obj (fun _ h9 => List.mem_cons_of_mem _ (List.mem_append_right _ (h9))) rfl 13 (by decide) (List.mem_of_getElem? (i := 1) rfl) rfl tyX12_ok nmX12 rfl (by decide +kernel) rfl rfl (Nat.le_of_ble_eq_true rfl) (zzM_uobj (by decide)) (zzA_M (by decide)) dX12_rings_2 ?_
  refine zz_ltS (fun σ1 => ?_)
  refine zz_aload_n C dX12_rings_5 rfl 0 rfl ?_
  refine zz_callV C (Cn := RX12) (b := zzad Z 36) (fun H hH => zz_recv C.2.2.2 (zzM_obj H hH) rfl) (As := []) (rest := []) rfl (k_X12_layTold σ1) (cwV 0 C.1.2.2.2.2 gX12_rings_X12_layTold rfl rfl rfl (by decide +kernel) ⟨Nat.le_of_ble_eq_true rfl, Nat.le_of_ble_eq_true rfl⟩) rfl (Nat.le_of_ble_eq_true rfl) ⟨Nat.zero_le _, Nat.zero_le _⟩ dX12_rings_6 (zz_kI rfl rfl (fun r2 σ3 => ?_))
  refine zz_pop C dX12_rings_9 rfl ?_
  refine zz_aload_n C dX12_rings_10 rfl 0 rfl ?_
  refine zz_get C zzM_obj (fun _ h9 => List.mem_cons_of_mem _ (List.mem_append_right _ (h9))) rfl 28 (by decide) (List.mem_of_getElem? (i := 2) rfl) (Or.inl rfl) rfl dX12_rings_11 ?_
  refine zz_iconst (v := 0) C dX12_rings_14 (by decide) ?_
  refine zz_gd (fun h4 => ?_)
  refine zz_iald C (zzM_arr (by decide)) h4 dX12_rings_15 ?_
  exact zz_iret C rfl rfl (fun _ h9 => h9) (Nat.zero_le _) (Nat.zero_le _) dX12_rings_16
set_option maxHeartbeats 4000000 in
set_option maxRecDepth 100000 in
theorem k_X12_rings {l : Launch} {Z : zzG} {base : Nat} {PL : Nat → Option (Nat × Int32)} {mm : zzS}  (σ : zzS) : zzCT l yX12_rings wsX12_rings rX12_rings (zzA base) Z (zzM Z base PL mm) (zzM Z base PL mm) zzRI [.ref (zzad Z 36)] (f_X12_rings σ) σ :=
  zzCT_of (cc := cX12_rings) (nL := 1) (ret := (some .int)) (by decide) rfl (Nat.le_of_ble_eq_true rfl) [(0, .ref (zzad Z 36))] rfl (fun p e s m args below meth c C => w_X12_rings_e C σ)
abbrev rX12_nobodyBits : Room := { frames := 3, cells := 0, slots := 0, locals := 66 }

set_option maxHeartbeats 4000000 in
set_option maxRecDepth 100000 in
theorem w_X12_nobodyBits_28 {l : Launch} {Z : zzG} {base : Nat} {PL : Nat → Option (Nat × Int32)} {mm : zzS} {p : Program} {e : Env} {s : State} {m : MethodId} {args : Array Value} {below : List Frame} {meth : Method} {c : Code} (C : zzCx p m meth c s args cX12_nobodyBits 3 wsX12_nobodyBits RX12 (some .int) Z)  (k4 : Int32 → Int32 → zzS → Option (Int32 × zzS)) (hk4 : ∀ (l1 : Int32)  (l2 : Int32)  (σ : zzS), zzGO p l e rX12_nobodyBits s m args below meth c 3 (zzA base) (zzM Z base PL mm) (zzM Z base PL mm) zzRI rX12_nobodyBits.cells rX12_nobodyBits.slots (k4 l1 l2 σ) σ 0 0 4 [(0, .ref (zzad Z 36)), (1, .int l1), (2, .int l2)] []) (l2 : Int32)  (s0 : Int32)  (s1 : Int32)  (σ : zzS) : zzGO p l e rX12_nobodyBits s m args below meth c 3 (zzA base) (zzM Z base PL mm) (zzM Z base PL mm) zzRI rX12_nobodyBits.cells rX12_nobodyBits.slots (f_X12_nobodyBits_28 k4 l2 s0 s1 σ) σ 0 0 28 [(0, .ref (zzad Z 36)), (2, .int l2)] [.int s0, .int s1] := by
  unfold f_X12_nobodyBits_28
  refine zz_ior C dX12_nobodyBits_28 ?_
  refine zz_istoreX_n (locf := fun x1 => [(1, .int x1), (0, .ref (zzad Z 36)), (2, .int l2)]) C dX12_nobodyBits_29 rfl (by decide) (fun _ => rfl) (fun x1 => ?_)
  refine zz_iincX (d := 1) (locf := fun x2 => [(2, .int x2), (1, .int x1), (0, .ref (zzad Z 36))]) C dX12_nobodyBits_30 (k := 2) rfl (by decide) (by decide) (fun _ => rfl) (fun x2 => ?_)
  refine zz_goto (tgt := 4) C dX12_nobodyBits_33 (by decide) ?_
  refine zz_sub (loc' := [(0, .ref (zzad Z 36)), (1, .int x1), (2, .int x2)]) [2, 1, 0] rfl ?_
  exact hk4 x1 x2 σ
set_option maxHeartbeats 4000000 in
set_option maxRecDepth 100000 in
theorem w_X12_nobodyBits_4b {l : Launch} {Z : zzG} {base : Nat} {PL : Nat → Option (Nat × Int32)} {mm : zzS} {p : Program} {e : Env} {s : State} {m : MethodId} {args : Array Value} {below : List Frame} {meth : Method} {c : Code} (C : zzCx p m meth c s args cX12_nobodyBits 3 wsX12_nobodyBits RX12 (some .int) Z)   (k4 : Int32 → Int32 → zzS → Option (Int32 × zzS)) (hk4 : ∀ (l1 : Int32)  (l2 : Int32)  (σ : zzS), zzGO p l e rX12_nobodyBits s m args below meth c 3 (zzA base) (zzM Z base PL mm) (zzM Z base PL mm) zzRI rX12_nobodyBits.cells rX12_nobodyBits.slots (k4 l1 l2 σ) σ 0 0 4 [(0, .ref (zzad Z 36)), (1, .int l1), (2, .int l2)] []) (l1 : Int32)  (l2 : Int32)  (σ : zzS) : zzGO p l e rX12_nobodyBits s m args below meth c 3 (zzA base) (zzM Z base PL mm) (zzM Z base PL mm) zzRI rX12_nobodyBits.cells rX12_nobodyBits.slots (f_X12_nobodyBits_4b k4 l1 l2 σ) σ 0 0 4 [(0, .ref (zzad Z 36)), (1, .int l1), (2, .int l2)] [] := by
  unfold f_X12_nobodyBits_4b
  refine zz_iload_n C dX12_nobodyBits_4 rfl 2 rfl ?_
  refine zz_aload_n C dX12_nobodyBits_5 rfl 0 rfl ?_
  refine zz_get C zzM_obj (fun _ h9 => List.mem_cons_of_mem _ (List.mem_append_right _ (h9))) rfl 0 (by decide) (List.mem_of_getElem? (i := 1) rfl) (Or.inl rfl) rfl dX12_nobodyBits_6 ?_
  refine zz_icmp_ge (tgt := 36) C dX12_nobodyBits_9 (by decide) (fun h1 => ?_) (fun h1 => ?_)
  · refine zz_iload_n C dX12_nobodyBits_36 rfl 1 rfl ?_
    exact zz_iret C rfl rfl (fun _ h9 => h9) (Nat.zero_le _) (Nat.zero_le _) dX12_nobodyBits_37
  · refine zz_iload_n C dX12_nobodyBits_12 rfl 1 rfl ?_
    refine zz_aload_n C dX12_nobodyBits_13 rfl 0 rfl ?_
    refine zz_iload_n C dX12_nobodyBits_14 rfl 2 rfl ?_
    refine zz_callV C (Cn := RX12) (b := zzad Z 36) (fun H hH => zz_recv C.2.2.2 (zzM_obj H hH) rfl) (As := [.int l2]) (rest := [.int l1]) rfl (k_X12_fitFor l2 σ) (cwV 1 C.1.2.2.2.2 gX12_nobodyBits_X12_fitFor rfl rfl rfl (by decide +kernel) ⟨Nat.le_of_ble_eq_true rfl, Nat.le_of_ble_eq_true rfl⟩) rfl (Nat.le_of_ble_eq_true rfl) ⟨Nat.zero_le _, Nat.zero_le _⟩ dX12_nobodyBits_15 (zz_kI rfl rfl (fun r2 σ3 => ?_))
    refine zz_if_ne (tgt := 27) C dX12_nobodyBits_18 (by decide) (fun h4 => ?_) (fun h4 => ?_)
    · refine zz_iconst (v := 0) C dX12_nobodyBits_27 (by decide) ?_
      refine zz_sub (loc' := [(0, .ref (zzad Z 36)), (2, .int l2)]) [0, 2] rfl ?_
      exact w_X12_nobodyBits_28 C k4 hk4 l2 (0 : Int32) l1 σ3
    · refine zz_iconst (v := 1) C dX12_nobodyBits_21 (by decide) ?_
      refine zz_iload_n C dX12_nobodyBits_22 rfl 2 rfl ?_
      refine zz_ishl C dX12_nobodyBits_23 ?_
      refine zz_goto (tgt := 28) C dX12_nobodyBits_24 (by decide) ?_
      refine zz_sub (loc' := [(0, .ref (zzad Z 36)), (2, .int l2)]) [0, 2] rfl ?_
      exact w_X12_nobodyBits_28 C k4 hk4 l2 ((1 : Int32) <<< (l2 &&& 31)) l1 σ3
set_option maxHeartbeats 4000000 in
set_option maxRecDepth 100000 in
theorem w_X12_nobodyBits_4 {l : Launch} {Z : zzG} {base : Nat} {PL : Nat → Option (Nat × Int32)} {mm : zzS} {p : Program} {e : Env} {s : State} {m : MethodId} {args : Array Value} {below : List Frame} {meth : Method} {c : Code} (C : zzCx p m meth c s args cX12_nobodyBits 3 wsX12_nobodyBits RX12 (some .int) Z)   (n : Nat) : ∀ (l1 : Int32)  (l2 : Int32)  (σ : zzS), zzGO p l e rX12_nobodyBits s m args below meth c 3 (zzA base) (zzM Z base PL mm) (zzM Z base PL mm) zzRI rX12_nobodyBits.cells rX12_nobodyBits.slots (f_X12_nobodyBits_4 n l1 l2 σ) σ 0 0 4 [(0, .ref (zzad Z 36)), (1, .int l1), (2, .int l2)] [] := by
  induction n with
  | zero => exact fun _ _ _ r9 s9 h9 => by cases h9
  | succ n ih => exact w_X12_nobodyBits_4b C _ ih
set_option maxHeartbeats 4000000 in
set_option maxRecDepth 100000 in
theorem w_X12_nobodyBits_e {l : Launch} {Z : zzG} {base : Nat} {PL : Nat → Option (Nat × Int32)} {mm : zzS} {p : Program} {e : Env} {s : State} {m : MethodId} {args : Array Value} {below : List Frame} {meth : Method} {c : Code} (C : zzCx p m meth c s args cX12_nobodyBits 3 wsX12_nobodyBits RX12 (some .int) Z)  (σ : zzS) : zzGO p l e rX12_nobodyBits s m args below meth c 3 (zzA base) (zzM Z base PL mm) (zzM Z base PL mm) zzRI rX12_nobodyBits.cells rX12_nobodyBits.slots (f_X12_nobodyBits σ) σ 0 0 0 [(0, .ref (zzad Z 36))] [] := by
  unfold f_X12_nobodyBits
  refine zz_iconst (v := 0) C dX12_nobodyBits_0 (by decide) ?_
  refine zz_istore_n (loc' := [(1, .int (0 : Int32)), (0, .ref (zzad Z 36))]) C dX12_nobodyBits_1 rfl (by decide) rfl ?_
  refine zz_iconst (v := 0) C dX12_nobodyBits_2 (by decide) ?_
  refine zz_istore_n (loc' := [(2, .int (0 : Int32)), (1, .int (0 : Int32)), (0, .ref (zzad Z 36))]) C dX12_nobodyBits_3 rfl (by decide) rfl ?_
  refine zz_sub (loc' := [(0, .ref (zzad Z 36)), (1, .int (0 : Int32)), (2, .int (0 : Int32))]) [2, 1, 0] rfl ?_
  exact w_X12_nobodyBits_4 C 200 (0 : Int32) (0 : Int32) σ
set_option maxHeartbeats 4000000 in
set_option maxRecDepth 100000 in
theorem k_X12_nobodyBits {l : Launch} {Z : zzG} {base : Nat} {PL : Nat → Option (Nat × Int32)} {mm : zzS}  (σ : zzS) : zzCT l yX12_nobodyBits wsX12_nobodyBits rX12_nobodyBits (zzA base) Z (zzM Z base PL mm) (zzM Z base PL mm) zzRI [.ref (zzad Z 36)] (f_X12_nobodyBits σ) σ :=
  zzCT_of (cc := cX12_nobodyBits) (nL := 3) (ret := (some .int)) (by decide) rfl (Nat.le_of_ble_eq_true rfl) [(0, .ref (zzad Z 36))] rfl (fun p e s m args below meth c C => w_X12_nobodyBits_e C σ)
abbrev rX12_nobody : Room := { frames := 4, cells := 0, slots := 0, locals := 88 }

set_option maxHeartbeats 4000000 in
set_option maxRecDepth 100000 in
theorem w_X12_nobody_e {l : Launch} {Z : zzG} {base : Nat} {PL : Nat → Option (Nat × Int32)} {mm : zzS} {p : Program} {e : Env} {s : State} {m : MethodId} {args : Array Value} {below : List Frame} {meth : Method} {c : Code} (C : zzCx p m meth c s args cX12_nobody 1 wsX12_nobody RX12 (some .int) Z)  (σ : zzS) : zzGO p l e rX12_nobody s m args below meth c 1 (zzA base) (zzM Z base PL mm) (zzM Z base PL mm) zzRI rX12_nobody.cells rX12_nobody.slots (f_X12_nobody σ) σ 0 0 0 [(0, .ref (zzad Z 36))] [] := by
  unfold f_X12_nobody
  refine zz_aload_n C dX12_nobody_0 rfl 0 rfl ?_
  refine zz_iconst (v := 0) C dX12_nobody_1 (by decide) ?_
  refine zz_put (ty := .int) C zzM_obj (fun _ h9 => List.mem_cons_of_mem _ (List.mem_append_right _ (h9))) rfl 13 (by decide) (List.mem_of_getElem? (i := 1) rfl) rfl tyX12_ok nmX12 rfl (by decide +kernel) rfl rfl (Nat.le_of_ble_eq_true rfl) (zzM_uobj (by decide)) (zzA_M (by decide)) dX12_nobody_2 ?_
  refine zz_ltS (fun σ1 => ?_)
  refine zz_aload_n C dX12_nobody_5 rfl 0 rfl ?_
  refine zz_callV C (Cn := RX12) (b := zzad Z 36) (fun H hH => zz_recv C.2.2.2 (zzM_obj H hH) rfl) (As := []) (rest := []) rfl (k_X12_nobodyBits σ1) (cwV 0 C.1.2.2.2.2 gX12_nobody_X12_nobodyBits rfl rfl rfl (by decide +kernel) ⟨Nat.le_of_ble_eq_true rfl, Nat.le_of_ble_eq_true rfl⟩) rfl (Nat.le_of_ble_eq_true rfl) ⟨Nat.zero_le _, Nat.zero_le _⟩ dX12_nobody_6 (zz_kI rfl rfl (fun r2 σ3 => ?_))
  exact zz_iret C rfl rfl (fun _ h9 => h9) (Nat.zero_le _) (Nat.zero_le _) dX12_nobody_9
set_option maxHeartbeats 4000000 in
set_option maxRecDepth 100000 in
theorem k_X12_nobody {l : Launch} {Z : zzG} {base : Nat} {PL : Nat → Option (Nat × Int32)} {mm : zzS}  (σ : zzS) : zzCT l yX12_nobody wsX12_nobody rX12_nobody (zzA base) Z (zzM Z base PL mm) (zzM Z base PL mm) zzRI [.ref (zzad Z 36)] (f_X12_nobody σ) σ :=
  zzCT_of (cc := cX12_nobody) (nL := 1) (ret := (some .int)) (by decide) rfl (Nat.le_of_ble_eq_true rfl) [(0, .ref (zzad Z 36))] rfl (fun p e s m args below meth c C => w_X12_nobody_e C σ)
abbrev rX12_swaps : Room := { frames := 2, cells := 0, slots := 0, locals := 43 }

set_option maxHeartbeats 4000000 in
set_option maxRecDepth 100000 in
theorem w_X12_swaps_109 {l : Launch} {Z : zzG} {base : Nat} {PL : Nat → Option (Nat × Int32)} {mm : zzS} {p : Program} {e : Env} {s : State} {m : MethodId} {args : Array Value} {below : List Frame} {meth : Method} {c : Code} (C : zzCx p m meth c s args cX12_swaps 7 wsX12_swaps RX12 (some .int) Z) (p0 : Int32)  (k30 : Int32 → Int32 → Int32 → zzS → Option (Int32 × zzS)) (hk30 : ∀ (l2 : Int32)  (l3 : Int32)  (l4 : Int32)  (σ : zzS), zzGO p l e rX12_swaps s m args below meth c 7 (zzA base) (zzM Z base PL mm) (zzM Z base PL mm) zzRI rX12_swaps.cells rX12_swaps.slots (k30 l2 l3 l4 σ) σ 0 0 30 [(0, .ref (zzad Z 36)), (1, .int p0), (2, .int l2), (3, .int l3), (4, .int l4)] []) (k43 : Int32 → Int32 → Int32 → Int32 → zzS → Option (Int32 × zzS)) (hk43 : ∀ (l2 : Int32)  (l3 : Int32)  (l4 : Int32)  (l5 : Int32)  (σ : zzS), zzGO p l e rX12_swaps s m args below meth c 7 (zzA base) (zzM Z base PL mm) (zzM Z base PL mm) zzRI rX12_swaps.cells rX12_swaps.slots (k43 l2 l3 l4 l5 σ) σ 0 0 43 [(0, .ref (zzad Z 36)), (1, .int p0), (2, .int l2), (3, .int l3), (4, .int l4), (5, .int l5)] []) (l2 : Int32)  (l4 : Int32)  (l5 : Int32)  (s0 : Int32)  (σ : zzS) : zzGO p l e rX12_swaps s m args below meth c 7 (zzA base) (zzM Z base PL mm) (zzM Z base PL mm) zzRI rX12_swaps.cells rX12_swaps.slots (f_X12_swaps_109 k30 k43 p0 l2 l4 l5 s0 σ) σ 0 0 109 [(0, .ref (zzad Z 36)), (1, .int p0), (2, .int l2), (4, .int l4), (5, .int l5)] [.int s0] := by
  unfold f_X12_swaps_109
  refine zz_istore_n (loc' := [(3, .int s0), (0, .ref (zzad Z 36)), (1, .int p0), (2, .int l2), (4, .int l4), (5, .int l5)]) C dX12_swaps_109 rfl (by decide) rfl ?_
  refine zz_iincX (d := -1) (locf := fun x1 => [(5, .int x1), (3, .int s0), (0, .ref (zzad Z 36)), (1, .int p0), (2, .int l2), (4, .int l4)]) C dX12_swaps_110 (k := 5) rfl (by decide) (by decide) (fun _ => rfl) (fun x1 => ?_)
  refine zz_goto (tgt := 43) C dX12_swaps_113 (by decide) ?_
  refine zz_sub (loc' := [(0, .ref (zzad Z 36)), (1, .int p0), (2, .int l2), (3, .int s0), (4, .int l4), (5, .int x1)]) [2, 3, 4, 1, 5, 0] rfl ?_
  exact hk43 l2 s0 l4 x1 σ
set_option maxHeartbeats 4000000 in
set_option maxRecDepth 100000 in
theorem w_X12_swaps_90 {l : Launch} {Z : zzG} {base : Nat} {PL : Nat → Option (Nat × Int32)} {mm : zzS} {p : Program} {e : Env} {s : State} {m : MethodId} {args : Array Value} {below : List Frame} {meth : Method} {c : Code} (C : zzCx p m meth c s args cX12_swaps 7 wsX12_swaps RX12 (some .int) Z) (p0 : Int32)  (k30 : Int32 → Int32 → Int32 → zzS → Option (Int32 × zzS)) (hk30 : ∀ (l2 : Int32)  (l3 : Int32)  (l4 : Int32)  (σ : zzS), zzGO p l e rX12_swaps s m args below meth c 7 (zzA base) (zzM Z base PL mm) (zzM Z base PL mm) zzRI rX12_swaps.cells rX12_swaps.slots (k30 l2 l3 l4 σ) σ 0 0 30 [(0, .ref (zzad Z 36)), (1, .int p0), (2, .int l2), (3, .int l3), (4, .int l4)] []) (k43 : Int32 → Int32 → Int32 → Int32 → zzS → Option (Int32 × zzS)) (hk43 : ∀ (l2 : Int32)  (l3 : Int32)  (l4 : Int32)  (l5 : Int32)  (σ : zzS), zzGO p l e rX12_swaps s m args below meth c 7 (zzA base) (zzM Z base PL mm) (zzM Z base PL mm) zzRI rX12_swaps.cells rX12_swaps.slots (k43 l2 l3 l4 l5 σ) σ 0 0 43 [(0, .ref (zzad Z 36)), (1, .int p0), (2, .int l2), (3, .int l3), (4, .int l4), (5, .int l5)] []) (l3 : Int32)  (l4 : Int32)  (l5 : Int32)  (l6 : Int32)  (s0 : Int32)  (s1 : Int32)  (σ : zzS) : zzGO p l e rX12_swaps s m args below meth c 7 (zzA base) (zzM Z base PL mm) (zzM Z base PL mm) zzRI rX12_swaps.cells rX12_swaps.slots (f_X12_swaps_90 k30 k43 p0 l3 l4 l5 l6 s0 s1 σ) σ 0 0 90 [(0, .ref (zzad Z 36)), (1, .int p0), (3, .int l3), (4, .int l4), (5, .int l5), (6, .int l6)] [.int s0, .int s1] := by
  unfold f_X12_swaps_90
  refine zz_iadd C dX12_swaps_90 ?_
  refine zz_istoreX_n (locf := fun x1 => [(2, .int x1), (0, .ref (zzad Z 36)), (1, .int p0), (3, .int l3), (4, .int l4), (5, .int l5), (6, .int l6)]) C dX12_swaps_91 rfl (by decide) (fun _ => rfl) (fun x1 => ?_)
  refine zz_iload C dX12_swaps_92 6 rfl ?_
  refine zz_if_eq (tgt := 108) C dX12_swaps_94 (by decide) (fun h2 => ?_) (fun h2 => ?_)
  · refine zz_iload_n C dX12_swaps_108 rfl 3 rfl ?_
    refine zz_sub (loc' := [(0, .ref (zzad Z 36)), (1, .int p0), (2, .int x1), (4, .int l4), (5, .int l5)]) [1, 2, 0, 4, 5] rfl ?_
    exact w_X12_swaps_109 C p0 k30 hk30 k43 hk43 x1 l4 l5 l3 σ
  · refine zz_bipush (v := 10) C dX12_swaps_97 (by decide) ?_
    refine zz_iload C dX12_swaps_99 4 rfl ?_
    refine zz_imul C dX12_swaps_101 ?_
    refine zz_iload C dX12_swaps_102 5 rfl ?_
    refine zz_iadd C dX12_swaps_104 ?_
    refine zz_goto (tgt := 109) C dX12_swaps_105 (by decide) ?_
    refine zz_sub (loc' := [(0, .ref (zzad Z 36)), (1, .int p0), (2, .int x1), (4, .int l4), (5, .int l5)]) [1, 2, 0, 4, 5] rfl ?_
    exact w_X12_swaps_109 C p0 k30 hk30 k43 hk43 x1 l4 l5 (((10 : Int32) * l4) + l5) σ
set_option maxHeartbeats 4000000 in
set_option maxRecDepth 100000 in
theorem w_X12_swaps_77 {l : Launch} {Z : zzG} {base : Nat} {PL : Nat → Option (Nat × Int32)} {mm : zzS} {p : Program} {e : Env} {s : State} {m : MethodId} {args : Array Value} {below : List Frame} {meth : Method} {c : Code} (C : zzCx p m meth c s args cX12_swaps 7 wsX12_swaps RX12 (some .int) Z) (p0 : Int32)  (k30 : Int32 → Int32 → Int32 → zzS → Option (Int32 × zzS)) (hk30 : ∀ (l2 : Int32)  (l3 : Int32)  (l4 : Int32)  (σ : zzS), zzGO p l e rX12_swaps s m args below meth c 7 (zzA base) (zzM Z base PL mm) (zzM Z base PL mm) zzRI rX12_swaps.cells rX12_swaps.slots (k30 l2 l3 l4 σ) σ 0 0 30 [(0, .ref (zzad Z 36)), (1, .int p0), (2, .int l2), (3, .int l3), (4, .int l4)] []) (k43 : Int32 → Int32 → Int32 → Int32 → zzS → Option (Int32 × zzS)) (hk43 : ∀ (l2 : Int32)  (l3 : Int32)  (l4 : Int32)  (l5 : Int32)  (σ : zzS), zzGO p l e rX12_swaps s m args below meth c 7 (zzA base) (zzM Z base PL mm) (zzM Z base PL mm) zzRI rX12_swaps.cells rX12_swaps.slots (k43 l2 l3 l4 l5 σ) σ 0 0 43 [(0, .ref (zzad Z 36)), (1, .int p0), (2, .int l2), (3, .int l3), (4, .int l4), (5, .int l5)] []) (l2 : Int32)  (l3 : Int32)  (l4 : Int32)  (l5 : Int32)  (s0 : Int32)  (σ : zzS) : zzGO p l e rX12_swaps s m args below meth c 7 (zzA base) (zzM Z base PL mm) (zzM Z base PL mm) zzRI rX12_swaps.cells rX12_swaps.slots (f_X12_swaps_77 k30 k43 p0 l2 l3 l4 l5 s0 σ) σ 0 0 77 [(0, .ref (zzad Z 36)), (1, .int p0), (2, .int l2), (3, .int l3), (4, .int l4), (5, .int l5)] [.int s0] := by
  unfold f_X12_swaps_77
  refine zz_istore (loc' := [(6, .int s0), (0, .ref (zzad Z 36)), (1, .int p0), (2, .int l2), (3, .int l3), (4, .int l4), (5, .int l5)]) C dX12_swaps_77 (by decide) rfl ?_
  refine zz_iload_n C dX12_swaps_79 rfl 3 rfl ?_
  refine zz_iload C dX12_swaps_80 0 rfl ?_
  refine zz_if_eq (tgt := 89) C dX12_swaps_82 (by decide) (fun h1 => ?_) (fun h1 => ?_)
  · refine zz_iconst (v := 0) C dX12_swaps_89 (by decide) ?_
    refine zz_sub (loc' := [(0, .ref (zzad Z 36)), (1, .int p0), (3, .int l3), (4, .int l4), (5, .int l5), (6, .int s0)]) [1, 2, 4, 5, 6, 0] rfl ?_
    exact w_X12_swaps_90 C p0 k30 hk30 k43 hk43 l3 l4 l5 s0 (0 : Int32) l2 σ
  · refine zz_iconst (v := 1) C dX12_swaps_85 (by decide) ?_
    refine zz_goto (tgt := 90) C dX12_swaps_86 (by decide) ?_
    refine zz_sub (loc' := [(0, .ref (zzad Z 36)), (1, .int p0), (3, .int l3), (4, .int l4), (5, .int l5), (6, .int s0)]) [1, 2, 4, 5, 6, 0] rfl ?_
    exact w_X12_swaps_90 C p0 k30 hk30 k43 hk43 l3 l4 l5 s0 (1 : Int32) l2 σ
set_option maxHeartbeats 4000000 in
set_option maxRecDepth 100000 in
theorem w_X12_swaps_76 {l : Launch} {Z : zzG} {base : Nat} {PL : Nat → Option (Nat × Int32)} {mm : zzS} {p : Program} {e : Env} {s : State} {m : MethodId} {args : Array Value} {below : List Frame} {meth : Method} {c : Code} (C : zzCx p m meth c s args cX12_swaps 7 wsX12_swaps RX12 (some .int) Z) (p0 : Int32)  (k30 : Int32 → Int32 → Int32 → zzS → Option (Int32 × zzS)) (hk30 : ∀ (l2 : Int32)  (l3 : Int32)  (l4 : Int32)  (σ : zzS), zzGO p l e rX12_swaps s m args below meth c 7 (zzA base) (zzM Z base PL mm) (zzM Z base PL mm) zzRI rX12_swaps.cells rX12_swaps.slots (k30 l2 l3 l4 σ) σ 0 0 30 [(0, .ref (zzad Z 36)), (1, .int p0), (2, .int l2), (3, .int l3), (4, .int l4)] []) (k43 : Int32 → Int32 → Int32 → Int32 → zzS → Option (Int32 × zzS)) (hk43 : ∀ (l2 : Int32)  (l3 : Int32)  (l4 : Int32)  (l5 : Int32)  (σ : zzS), zzGO p l e rX12_swaps s m args below meth c 7 (zzA base) (zzM Z base PL mm) (zzM Z base PL mm) zzRI rX12_swaps.cells rX12_swaps.slots (k43 l2 l3 l4 l5 σ) σ 0 0 43 [(0, .ref (zzad Z 36)), (1, .int p0), (2, .int l2), (3, .int l3), (4, .int l4), (5, .int l5)] []) (l2 : Int32)  (l3 : Int32)  (l4 : Int32)  (l5 : Int32)  (σ : zzS) : zzGO p l e rX12_swaps s m args below meth c 7 (zzA base) (zzM Z base PL mm) (zzM Z base PL mm) zzRI rX12_swaps.cells rX12_swaps.slots (f_X12_swaps_76 k30 k43 p0 l2 l3 l4 l5 σ) σ 0 0 76 [(0, .ref (zzad Z 36)), (1, .int p0), (2, .int l2), (3, .int l3), (4, .int l4), (5, .int l5)] [] := by
  unfold f_X12_swaps_76
  refine zz_iconst (v := 0) C dX12_swaps_76 (by decide) ?_
  refine zz_sub (loc' := [(0, .ref (zzad Z 36)), (1, .int p0), (2, .int l2), (3, .int l3), (4, .int l4), (5, .int l5)]) [0, 1, 2, 3, 4, 5] rfl ?_
  exact w_X12_swaps_77 C p0 k30 hk30 k43 hk43 l2 l3 l4 l5 (0 : Int32) σ
set_option maxHeartbeats 4000000 in
set_option maxRecDepth 100000 in
theorem w_X12_swaps_43b {l : Launch} {Z : zzG} {base : Nat} {PL : Nat → Option (Nat × Int32)} {mm : zzS} {p : Program} {e : Env} {s : State} {m : MethodId} {args : Array Value} {below : List Frame} {meth : Method} {c : Code} (C : zzCx p m meth c s args cX12_swaps 7 wsX12_swaps RX12 (some .int) Z) (p0 : Int32)  (k30 : Int32 → Int32 → Int32 → zzS → Option (Int32 × zzS)) (hk30 : ∀ (l2 : Int32)  (l3 : Int32)  (l4 : Int32)  (σ : zzS), zzGO p l e rX12_swaps s m args below meth c 7 (zzA base) (zzM Z base PL mm) (zzM Z base PL mm) zzRI rX12_swaps.cells rX12_swaps.slots (k30 l2 l3 l4 σ) σ 0 0 30 [(0, .ref (zzad Z 36)), (1, .int p0), (2, .int l2), (3, .int l3), (4, .int l4)] []) (k43 : Int32 → Int32 → Int32 → Int32 → zzS → Option (Int32 × zzS)) (hk43 : ∀ (l2 : Int32)  (l3 : Int32)  (l4 : Int32)  (l5 : Int32)  (σ : zzS), zzGO p l e rX12_swaps s m args below meth c 7 (zzA base) (zzM Z base PL mm) (zzM Z base PL mm) zzRI rX12_swaps.cells rX12_swaps.slots (k43 l2 l3 l4 l5 σ) σ 0 0 43 [(0, .ref (zzad Z 36)), (1, .int p0), (2, .int l2), (3, .int l3), (4, .int l4), (5, .int l5)] []) (l2 : Int32)  (l3 : Int32)  (l4 : Int32)  (l5 : Int32)  (σ : zzS) : zzGO p l e rX12_swaps s m args below meth c 7 (zzA base) (zzM Z base PL mm) (zzM Z base PL mm) zzRI rX12_swaps.cells rX12_swaps.slots (f_X12_swaps_43b k30 k43 p0 l2 l3 l4 l5 σ) σ 0 0 43 [(0, .ref (zzad Z 36)), (1, .int p0), (2, .int l2), (3, .int l3), (4, .int l4), (5, .int l5)] [] := by
  unfold f_X12_swaps_43b
  refine zz_iload C dX12_swaps_43 5 rfl ?_
  refine zz_iload C dX12_swaps_45 4 rfl ?_
  refine zz_icmp_le (tgt := 116) C dX12_swaps_47 (by decide) (fun h1 => ?_) (fun h1 => ?_)
  · refine zz_iincX (d := -1) (locf := fun x2 => [(4, .int x2), (0, .ref (zzad Z 36)), (1, .int p0), (2, .int l2), (3, .int l3), (5, .int l5)]) C dX12_swaps_116 (k := 4) rfl (by decide) (by decide) (fun _ => rfl) (fun x2 => ?_)
    refine zz_goto (tgt := 30) C dX12_swaps_119 (by decide) ?_
    refine zz_sub (loc' := [(0, .ref (zzad Z 36)), (1, .int p0), (2, .int l2), (3, .int l3), (4, .int x2)]) [1, 2, 3, 4, 0] rfl ?_
    exact hk30 l2 l3 x2 σ
  · refine zz_aload_n C dX12_swaps_50 rfl 0 rfl ?_
    refine zz_iload C dX12_swaps_51 4 rfl ?_
    refine zz_iload C dX12_swaps_53 5 rfl ?_
    refine zz_callV C (Cn := RX12) (b := zzad Z 36) (fun H hH => zz_recv C.2.2.2 (zzM_obj H hH) rfl) (As := [.int l4, .int l5]) (rest := []) rfl (k_X12_mayTurn l4 l5 σ) (cwV 2 C.1.2.2.2.2 gX12_swaps_X12_mayTurn rfl rfl rfl (by decide +kernel) ⟨Nat.le_of_ble_eq_true rfl, Nat.le_of_ble_eq_true rfl⟩) rfl (Nat.le_of_ble_eq_true rfl) ⟨Nat.zero_le _, Nat.zero_le _⟩ dX12_swaps_55 (zz_kI rfl rfl (fun r3 σ4 => ?_))
    refine zz_if_eq (tgt := 76) C dX12_swaps_58 (by decide) (fun h5 => ?_) (fun h5 => ?_)
    · refine zz_sub (loc' := [(0, .ref (zzad Z 36)), (1, .int p0), (2, .int l2), (3, .int l3), (4, .int l4), (5, .int l5)]) [0, 1, 2, 3, 4, 5] rfl ?_
      exact w_X12_swaps_76 C p0 k30 hk30 k43 hk43 l2 l3 l4 l5 σ4
    · refine zz_aload_n C dX12_swaps_61 rfl 0 rfl ?_
      refine zz_iload C dX12_swaps_62 5 rfl ?_
      refine zz_iload C dX12_swaps_64 4 rfl ?_
      refine zz_callV C (Cn := RX12) (b := zzad Z 36) (fun H hH => zz_recv C.2.2.2 (zzM_obj H hH) rfl) (As := [.int l5, .int l4]) (rest := []) rfl (k_X12_mayTurn l5 l4 σ4) (cwV 2 C.1.2.2.2.2 gX12_swaps_X12_mayTurn rfl rfl rfl (by decide +kernel) ⟨Nat.le_of_ble_eq_true rfl, Nat.le_of_ble_eq_true rfl⟩) rfl (Nat.le_of_ble_eq_true rfl) ⟨Nat.zero_le _, Nat.zero_le _⟩ dX12_swaps_66 (zz_kI rfl rfl (fun r6 σ7 => ?_))
      refine zz_if_eq (tgt := 76) C dX12_swaps_69 (by decide) (fun h8 => ?_) (fun h8 => ?_)
      · refine zz_sub (loc' := [(0, .ref (zzad Z 36)), (1, .int p0), (2, .int l2), (3, .int l3), (4, .int l4), (5, .int l5)]) [0, 1, 2, 3, 4, 5] rfl ?_
        exact w_X12_swaps_76 C p0 k30 hk30 k43 hk43 l2 l3 l4 l5 σ7
      · refine zz_iconst (v := 1) C dX12_swaps_72 (by decide) ?_
        refine zz_goto (tgt := 77) C dX12_swaps_73 (by decide) ?_
        refine zz_sub (loc' := [(0, .ref (zzad Z 36)), (1, .int p0), (2, .int l2), (3, .int l3), (4, .int l4), (5, .int l5)]) [0, 1, 2, 3, 4, 5] rfl ?_
        exact w_X12_swaps_77 C p0 k30 hk30 k43 hk43 l2 l3 l4 l5 (1 : Int32) σ7
set_option maxHeartbeats 4000000 in
set_option maxRecDepth 100000 in
theorem w_X12_swaps_43 {l : Launch} {Z : zzG} {base : Nat} {PL : Nat → Option (Nat × Int32)} {mm : zzS} {p : Program} {e : Env} {s : State} {m : MethodId} {args : Array Value} {below : List Frame} {meth : Method} {c : Code} (C : zzCx p m meth c s args cX12_swaps 7 wsX12_swaps RX12 (some .int) Z) (p0 : Int32)  (k30 : Int32 → Int32 → Int32 → zzS → Option (Int32 × zzS)) (hk30 : ∀ (l2 : Int32)  (l3 : Int32)  (l4 : Int32)  (σ : zzS), zzGO p l e rX12_swaps s m args below meth c 7 (zzA base) (zzM Z base PL mm) (zzM Z base PL mm) zzRI rX12_swaps.cells rX12_swaps.slots (k30 l2 l3 l4 σ) σ 0 0 30 [(0, .ref (zzad Z 36)), (1, .int p0), (2, .int l2), (3, .int l3), (4, .int l4)] []) (n : Nat) : ∀ (l2 : Int32)  (l3 : Int32)  (l4 : Int32)  (l5 : Int32)  (σ : zzS), zzGO p l e rX12_swaps s m args below meth c 7 (zzA base) (zzM Z base PL mm) (zzM Z base PL mm) zzRI rX12_swaps.cells rX12_swaps.slots (f_X12_swaps_43 k30 p0 n l2 l3 l4 l5 σ) σ 0 0 43 [(0, .ref (zzad Z 36)), (1, .int p0), (2, .int l2), (3, .int l3), (4, .int l4), (5, .int l5)] [] := by
  induction n with
  | zero => exact fun _ _ _ _ _ r9 s9 h9 => by cases h9
  | succ n ih => exact w_X12_swaps_43b C p0 k30 hk30 _ ih
set_option maxHeartbeats 4000000 in
set_option maxRecDepth 100000 in
theorem w_X12_swaps_30b {l : Launch} {Z : zzG} {base : Nat} {PL : Nat → Option (Nat × Int32)} {mm : zzS} {p : Program} {e : Env} {s : State} {m : MethodId} {args : Array Value} {below : List Frame} {meth : Method} {c : Code} (C : zzCx p m meth c s args cX12_swaps 7 wsX12_swaps RX12 (some .int) Z) (p0 : Int32)   (k30 : Int32 → Int32 → Int32 → zzS → Option (Int32 × zzS)) (hk30 : ∀ (l2 : Int32)  (l3 : Int32)  (l4 : Int32)  (σ : zzS), zzGO p l e rX12_swaps s m args below meth c 7 (zzA base) (zzM Z base PL mm) (zzM Z base PL mm) zzRI rX12_swaps.cells rX12_swaps.slots (k30 l2 l3 l4 σ) σ 0 0 30 [(0, .ref (zzad Z 36)), (1, .int p0), (2, .int l2), (3, .int l3), (4, .int l4)] []) (l2 : Int32)  (l3 : Int32)  (l4 : Int32)  (σ : zzS) : zzGO p l e rX12_swaps s m args below meth c 7 (zzA base) (zzM Z base PL mm) (zzM Z base PL mm) zzRI rX12_swaps.cells rX12_swaps.slots (f_X12_swaps_30b k30 p0 l2 l3 l4 σ) σ 0 0 30 [(0, .ref (zzad Z 36)), (1, .int p0), (2, .int l2), (3, .int l3), (4, .int l4)] [] := by
  unfold f_X12_swaps_30b
  refine zz_iload C dX12_swaps_30 4 rfl ?_
  refine zz_if_lt (tgt := 122) C dX12_swaps_32 (by decide) (fun h1 => ?_) (fun h1 => ?_)
  · refine zz_iload_n C dX12_swaps_122 rfl 1 rfl ?_
    refine zz_if_ne (tgt := 130) C dX12_swaps_123 (by decide) (fun h2 => ?_) (fun h2 => ?_)
    · refine zz_iload_n C dX12_swaps_130 rfl 3 rfl ?_
      exact zz_iret C rfl rfl (fun _ h9 => h9) (Nat.zero_le _) (Nat.zero_le _) dX12_swaps_131
    · refine zz_iload_n C dX12_swaps_126 rfl 2 rfl ?_
      refine zz_goto (tgt := 131) C dX12_swaps_127 (by decide) ?_
      exact zz_iret C rfl rfl (fun _ h9 => h9) (Nat.zero_le _) (Nat.zero_le _) dX12_swaps_131
  · refine zz_aload_n C dX12_swaps_35 rfl 0 rfl ?_
    refine zz_get C zzM_obj (fun _ h9 => List.mem_cons_of_mem _ (List.mem_append_right _ (h9))) rfl 0 (by decide) (List.mem_of_getElem? (i := 2) rfl) (Or.inl rfl) rfl dX12_swaps_36 ?_
    refine zz_iconst (v := 1) C dX12_swaps_39 (by decide) ?_
    refine zz_isub C dX12_swaps_40 ?_
    refine zz_istoreX (locf := fun x3 => [(5, .int x3), (0, .ref (zzad Z 36)), (1, .int p0), (2, .int l2), (3, .int l3), (4, .int l4)]) C dX12_swaps_41 (by decide) (fun _ => rfl) (fun x3 => ?_)
    refine zz_sub (loc' := [(0, .ref (zzad Z 36)), (1, .int p0), (2, .int l2), (3, .int l3), (4, .int l4), (5, .int x3)]) [1, 2, 3, 4, 5, 0] rfl ?_
    exact w_X12_swaps_43 C p0 k30 hk30 200 l2 l3 l4 x3 σ
set_option maxHeartbeats 4000000 in
set_option maxRecDepth 100000 in
theorem w_X12_swaps_30 {l : Launch} {Z : zzG} {base : Nat} {PL : Nat → Option (Nat × Int32)} {mm : zzS} {p : Program} {e : Env} {s : State} {m : MethodId} {args : Array Value} {below : List Frame} {meth : Method} {c : Code} (C : zzCx p m meth c s args cX12_swaps 7 wsX12_swaps RX12 (some .int) Z) (p0 : Int32)   (n : Nat) : ∀ (l2 : Int32)  (l3 : Int32)  (l4 : Int32)  (σ : zzS), zzGO p l e rX12_swaps s m args below meth c 7 (zzA base) (zzM Z base PL mm) (zzM Z base PL mm) zzRI rX12_swaps.cells rX12_swaps.slots (f_X12_swaps_30 p0 n l2 l3 l4 σ) σ 0 0 30 [(0, .ref (zzad Z 36)), (1, .int p0), (2, .int l2), (3, .int l3), (4, .int l4)] [] := by
  induction n with
  | zero => exact fun _ _ _ _ r9 s9 h9 => by cases h9
  | succ n ih => exact w_X12_swaps_30b C p0 _ ih
set_option maxHeartbeats 4000000 in
set_option maxRecDepth 100000 in
theorem w_X12_swaps_e {l : Launch} {Z : zzG} {base : Nat} {PL : Nat → Option (Nat × Int32)} {mm : zzS} {p : Program} {e : Env} {s : State} {m : MethodId} {args : Array Value} {below : List Frame} {meth : Method} {c : Code} (C : zzCx p m meth c s args cX12_swaps 7 wsX12_swaps RX12 (some .int) Z) (p0 : Int32)  (σ : zzS) : zzGO p l e rX12_swaps s m args below meth c 7 (zzA base) (zzM Z base PL mm) (zzM Z base PL mm) zzRI rX12_swaps.cells rX12_swaps.slots (f_X12_swaps p0 σ) σ 0 0 0 [(0, .ref (zzad Z 36)), (1, .int p0)] [] := by
  unfold f_X12_swaps
  refine zz_aload_n C dX12_swaps_0 rfl 0 rfl ?_
  refine zz_iconst (v := 0) C dX12_swaps_1 (by decide) ?_
  refine zz_put (ty := .int) C zzM_obj (fun _ h9 => List.mem_cons_of_mem _ (List.mem_append_right _ (h9))) rfl 13 (by decide) (List.mem_of_getElem? (i := 1) rfl) rfl tyX12_ok nmX12 rfl (by decide +kernel) rfl rfl (Nat.le_of_ble_eq_true rfl) (zzM_uobj (by decide)) (zzA_M (by decide)) dX12_swaps_2 ?_
  refine zz_ltS (fun σ1 => ?_)
  refine zz_iload_n C dX12_swaps_5 rfl 1 rfl ?_
  refine zz_i2l C dX12_swaps_6 ?_
  refine zz_lconst (v := 0) C dX12_swaps_7 (by decide) ?_
  refine zz_lconst (v := 1) C dX12_swaps_8 (by decide) ?_
  refine zz_callS (As := [.long (Int32.toInt64 p0), .long (0 : Int64), .long (1 : Int64)]) (rest := []) C rfl (k_X12_in (Int32.toInt64 p0) (0 : Int64) (1 : Int64) σ1) (va_cwS 3 C.1.2.2.2.2 gX12_swaps_X12_in rfl rfl rfl (by decide +kernel) ⟨Nat.le_of_ble_eq_true rfl, Nat.le_of_ble_eq_true rfl⟩) rfl (Nat.le_of_ble_eq_true rfl) ⟨Nat.zero_le _, Nat.zero_le _⟩ dX12_swaps_9 (zz_kI rfl rfl (fun r2 σ3 => ?_))
  refine zz_if_ne (tgt := 17) C dX12_swaps_12 (by decide) (fun h4 => ?_) (fun h4 => ?_)
  · refine zz_iconst (v := 0) C dX12_swaps_17 (by decide) ?_
    refine zz_istore_n (loc' := [(2, .int (0 : Int32)), (0, .ref (zzad Z 36)), (1, .int p0)]) C dX12_swaps_18 rfl (by decide) rfl ?_
    refine zz_bipush (v := -4) C dX12_swaps_19 (by decide) ?_
    refine zz_istore_n (loc' := [(3, .int (-4 : Int32)), (2, .int (0 : Int32)), (0, .ref (zzad Z 36)), (1, .int p0)]) C dX12_swaps_21 rfl (by decide) rfl ?_
    refine zz_aload_n C dX12_swaps_22 rfl 2 rfl ?_
    refine zz_get C zzM_obj (fun _ h9 => List.mem_cons_of_mem _ (List.mem_append_right _ (h9))) rfl 0 (by decide) (List.mem_of_getElem? (i := 2) rfl) (Or.inl rfl) rfl dX12_swaps_23 ?_
    refine zz_iconst (v := 1) C dX12_swaps_26 (by decide) ?_
    refine zz_isub C dX12_swaps_27 ?_
    refine zz_istoreX (locf := fun x5 => [(4, .int x5), (3, .int (-4 : Int32)), (2, .int (0 : Int32)), (0, .ref (zzad Z 36)), (1, .int p0)]) C dX12_swaps_28 (by decide) (fun _ => rfl) (fun x5 => ?_)
    refine zz_sub (loc' := [(0, .ref (zzad Z 36)), (1, .int p0), (2, .int (0 : Int32)), (3, .int (-4 : Int32)), (4, .int x5)]) [3, 4, 2, 1, 0] rfl ?_
    exact w_X12_swaps_30 C p0 200 (0 : Int32) (-4 : Int32) x5 σ3
  · refine zz_iconst (v := -1) C dX12_swaps_15 (by decide) ?_
    exact zz_iret C rfl rfl (fun _ h9 => h9) (Nat.zero_le _) (Nat.zero_le _) dX12_swaps_16
set_option maxHeartbeats 4000000 in
set_option maxRecDepth 100000 in
theorem k_X12_swaps {l : Launch} {Z : zzG} {base : Nat} {PL : Nat → Option (Nat × Int32)} {mm : zzS} (p0 : Int32)  (σ : zzS) : zzCT l yX12_swaps wsX12_swaps rX12_swaps (zzA base) Z (zzM Z base PL mm) (zzM Z base PL mm) zzRI [.ref (zzad Z 36), .int p0] (f_X12_swaps p0 σ) σ :=
  zzCT_of (cc := cX12_swaps) (nL := 7) (ret := (some .int)) (by decide) rfl (Nat.le_of_ble_eq_true rfl) [(0, .ref (zzad Z 36)), (1, .int p0)] rfl (fun p e s m args below meth c C => w_X12_swaps_e C p0 σ)
abbrev rX12_lastsFor : Room := { frames := 1, cells := 0, slots := 0, locals := 22 }

set_option maxHeartbeats 4000000 in
set_option maxRecDepth 100000 in
theorem w_X12_lastsFor_15b {l : Launch} {Z : zzG} {base : Nat} {PL : Nat → Option (Nat × Int32)} {mm : zzS} {p : Program} {e : Env} {s : State} {m : MethodId} {args : Array Value} {below : List Frame} {meth : Method} {c : Code} (C : zzCx p m meth c s args cX12_lastsFor 5 wsX12_lastsFor RX12 (some .int) Z) (p0 : Int32)  (p1 : Int32)   (k15 : Int32 → Int32 → zzS → Option (Int32 × zzS)) (hk15 : ∀ (l3 : Int32)  (l4 : Int32)  (σ : zzS), zzGO p l e rX12_lastsFor s m args below meth c 5 (zzA base) (zzM Z base PL mm) (zzM Z base PL mm) zzRI rX12_lastsFor.cells rX12_lastsFor.slots (k15 l3 l4 σ) σ 0 0 15 [(0, .ref (zzad Z 36)), (1, .int p0), (3, .int l3), (4, .int l4)] []) (l3 : Int32)  (l4 : Int32)  (σ : zzS) : zzGO p l e rX12_lastsFor s m args below meth c 5 (zzA base) (zzM Z base PL mm) (zzM Z base PL mm) zzRI rX12_lastsFor.cells rX12_lastsFor.slots (f_X12_lastsFor_15b k15 p0 p1 l3 l4 σ) σ 0 0 15 [(0, .ref (zzad Z 36)), (1, .int p0), (3, .int l3), (4, .int l4)] [] := by
  unfold f_X12_lastsFor_15b
  refine zz_iload C dX12_lastsFor_15 3 rfl ?_
  refine zz_bipush (v := 99) C dX12_lastsFor_17 (by decide) ?_
  refine zz_icmp_ge (tgt := 55) C dX12_lastsFor_19 (by decide) (fun h1 => ?_) (fun h1 => ?_)
  · refine zz_iload C dX12_lastsFor_55 3 rfl ?_
    exact zz_iret C rfl rfl (fun _ h9 => h9) (Nat.zero_le _) (Nat.zero_le _) dX12_lastsFor_57
  · refine zz_iload_n C dX12_lastsFor_22 rfl 2 rfl ?_
    refine zz_aload_n C dX12_lastsFor_23 rfl 0 rfl ?_
    refine zz_iload_n C dX12_lastsFor_24 rfl 1 rfl ?_
    refine zz_callV C (Cn := RX12) (b := zzad Z 36) (fun H hH => zz_recv C.2.2.2 (zzM_obj H hH) rfl) (As := [.int p0]) (rest := [.int l3]) rfl (k_X12_bearsOf p0 σ) (cwV 1 C.1.2.2.2.2 gX12_lastsFor_X12_bearsOf rfl rfl rfl (by decide +kernel) ⟨Nat.le_of_ble_eq_true rfl, Nat.le_of_ble_eq_true rfl⟩) rfl (Nat.le_of_ble_eq_true rfl) ⟨Nat.zero_le _, Nat.zero_le _⟩ dX12_lastsFor_25 (zz_kI rfl rfl (fun r2 σ3 => ?_))
    refine zz_aload_n C dX12_lastsFor_28 rfl 0 rfl ?_
    refine zz_get C zzM_obj (fun _ h9 => List.mem_cons_of_mem _ (List.mem_append_right _ (h9))) rfl 5 (by decide) (List.mem_of_getElem? (i := 2) rfl) (Or.inl rfl) rfl dX12_lastsFor_29 ?_
    refine zz_iadd C dX12_lastsFor_32 ?_
    refine zz_icmp_gt (tgt := 55) C dX12_lastsFor_33 (by decide) (fun h4 => ?_) (fun h4 => ?_)
    · refine zz_iload C dX12_lastsFor_55 3 rfl ?_
      exact zz_iret C rfl rfl (fun _ h9 => h9) (Nat.zero_le _) (Nat.zero_le _) dX12_lastsFor_57
    · refine zz_bipush (v := 9) C dX12_lastsFor_36 (by decide) ?_
      refine zz_iload_n C dX12_lastsFor_38 rfl 2 rfl ?_
      refine zz_aload_n C dX12_lastsFor_39 rfl 0 rfl ?_
      refine zz_iload_n C dX12_lastsFor_40 rfl 1 rfl ?_
      refine zz_callV C (Cn := RX12) (b := zzad Z 36) (fun H hH => zz_recv C.2.2.2 (zzM_obj H hH) rfl) (As := [.int p0]) (rest := [.int l3, .int (9 : Int32)]) rfl (k_X12_growsOf p0 σ3) (cwV 1 C.1.2.2.2.2 gX12_lastsFor_X12_growsOf rfl rfl rfl (by decide +kernel) ⟨Nat.le_of_ble_eq_true rfl, Nat.le_of_ble_eq_true rfl⟩) rfl (Nat.le_of_ble_eq_true rfl) ⟨Nat.zero_le _, Nat.zero_le _⟩ dX12_lastsFor_41 (zz_kI rfl rfl (fun r5 σ6 => ?_))
      refine zz_iadd C dX12_lastsFor_44 ?_
      refine zz_callS (As := [.int (9 : Int32), .int (l3 + r5)]) (rest := []) C rfl (k_X12_lesser (9 : Int32) (l3 + r5) σ6) (va_cwS 2 C.1.2.2.2.2 gX12_lastsFor_X12_lesser rfl rfl rfl (by decide +kernel) ⟨Nat.le_of_ble_eq_true rfl, Nat.le_of_ble_eq_true rfl⟩) rfl (Nat.le_of_ble_eq_true rfl) ⟨Nat.zero_le _, Nat.zero_le _⟩ dX12_lastsFor_45 (zz_kI rfl rfl (fun r7 σ8 => ?_))
      refine zz_istore_n (loc' := [(3, .int r7), (0, .ref (zzad Z 36)), (1, .int p0), (4, .int l4)]) C dX12_lastsFor_48 rfl (by decide) rfl ?_
      refine zz_iincX (d := 1) (locf := fun x9 => [(4, .int x9), (3, .int r7), (0, .ref (zzad Z 36)), (1, .int p0)]) C dX12_lastsFor_49 (k := 3) rfl (by decide) (by decide) (fun _ => rfl) (fun x9 => ?_)
      refine zz_goto (tgt := 15) C dX12_lastsFor_52 (by decide) ?_
      refine zz_sub (loc' := [(0, .ref (zzad Z 36)), (1, .int p0), (3, .int r7), (4, .int x9)]) [2, 3, 1, 0] rfl ?_
      exact hk15 r7 x9 σ8
set_option maxHeartbeats 4000000 in
set_option maxRecDepth 100000 in
theorem w_X12_lastsFor_15 {l : Launch} {Z : zzG} {base : Nat} {PL : Nat → Option (Nat × Int32)} {mm : zzS} {p : Program} {e : Env} {s : State} {m : MethodId} {args : Array Value} {below : List Frame} {meth : Method} {c : Code} (C : zzCx p m meth c s args cX12_lastsFor 5 wsX12_lastsFor RX12 (some .int) Z) (p0 : Int32)  (p1 : Int32)   (n : Nat) : ∀ (l3 : Int32)  (l4 : Int32)  (σ : zzS), zzGO p l e rX12_lastsFor s m args below meth c 5 (zzA base) (zzM Z base PL mm) (zzM Z base PL mm) zzRI rX12_lastsFor.cells rX12_lastsFor.slots (f_X12_lastsFor_15 p0 p1 n l3 l4 σ) σ 0 0 15 [(0, .ref (zzad Z 36)), (1, .int p0), (3, .int l3), (4, .int l4)] [] := by
  induction n with
  | zero => exact fun _ _ _ r9 s9 h9 => by cases h9
  | succ n ih => exact w_X12_lastsFor_15b C p0 p1 _ ih
set_option maxHeartbeats 4000000 in
set_option maxRecDepth 100000 in
theorem w_X12_lastsFor_e {l : Launch} {Z : zzG} {base : Nat} {PL : Nat → Option (Nat × Int32)} {mm : zzS} {p : Program} {e : Env} {s : State} {m : MethodId} {args : Array Value} {below : List Frame} {meth : Method} {c : Code} (C : zzCx p m meth c s args cX12_lastsFor 5 wsX12_lastsFor RX12 (some .int) Z) (p0 : Int32)  (p1 : Int32)  (σ : zzS) : zzGO p l e rX12_lastsFor s m args below meth c 5 (zzA base) (zzM Z base PL mm) (zzM Z base PL mm) zzRI rX12_lastsFor.cells rX12_lastsFor.slots (f_X12_lastsFor p0 p1 σ) σ 0 0 0 [(0, .ref (zzad Z 36)), (1, .int p0), (2, .int p1)] [] := by
  unfold f_X12_lastsFor
  refine zz_aload_n C dX12_lastsFor_0 rfl 0 rfl ?_
  refine zz_get C zzM_obj (fun _ h9 => List.mem_cons_of_mem _ (List.mem_append_right _ (h9))) rfl 4 (by decide) (List.mem_of_getElem? (i := 1) rfl) (Or.inl rfl) rfl dX12_lastsFor_1 ?_
  refine zz_bipush (v := 7) C dX12_lastsFor_4 (by decide) ?_
  refine zz_iload_n C dX12_lastsFor_6 rfl 1 rfl ?_
  refine zz_imul C dX12_lastsFor_7 ?_
  refine zz_iload_n C dX12_lastsFor_8 rfl 2 rfl ?_
  refine zz_iadd C dX12_lastsFor_9 ?_
  refine zz_gd (fun h1 => ?_)
  refine zz_iald C (zzM_arr (by decide)) h1 dX12_lastsFor_10 ?_
  refine zz_istoreX_n (locf := fun x2 => [(3, .int x2), (0, .ref (zzad Z 36)), (1, .int p0), (2, .int p1)]) C dX12_lastsFor_11 rfl (by decide) (fun _ => rfl) (fun x2 => ?_)
  refine zz_iconst (v := 0) C dX12_lastsFor_12 (by decide) ?_
  refine zz_istore (loc' := [(4, .int (0 : Int32)), (3, .int x2), (0, .ref (zzad Z 36)), (1, .int p0), (2, .int p1)]) C dX12_lastsFor_13 (by decide) rfl ?_
  refine zz_sub (loc' := [(0, .ref (zzad Z 36)), (1, .int p0), (3, .int x2), (4, .int (0 : Int32))]) [2, 3, 1, 0] rfl ?_
  exact w_X12_lastsFor_15 C p0 p1 200 x2 (0 : Int32) σ
set_option maxHeartbeats 4000000 in
set_option maxRecDepth 100000 in
theorem k_X12_lastsFor {l : Launch} {Z : zzG} {base : Nat} {PL : Nat → Option (Nat × Int32)} {mm : zzS} (p0 : Int32)  (p1 : Int32)  (σ : zzS) : zzCT l yX12_lastsFor wsX12_lastsFor rX12_lastsFor (zzA base) Z (zzM Z base PL mm) (zzM Z base PL mm) zzRI [.ref (zzad Z 36), .int p0, .int p1] (f_X12_lastsFor p0 p1 σ) σ :=
  zzCT_of (cc := cX12_lastsFor) (nL := 5) (ret := (some .int)) (by decide) rfl (Nat.le_of_ble_eq_true rfl) [(0, .ref (zzad Z 36)), (1, .int p0), (2, .int p1)] rfl (fun p e s m args below meth c C => w_X12_lastsFor_e C p0 p1 σ)
abbrev rX12_lasts : Room := { frames := 3, cells := 0, slots := 0, locals := 68 }

set_option maxHeartbeats 4000000 in
set_option maxRecDepth 100000 in
theorem w_X12_lasts_e {l : Launch} {Z : zzG} {base : Nat} {PL : Nat → Option (Nat × Int32)} {mm : zzS} {p : Program} {e : Env} {s : State} {m : MethodId} {args : Array Value} {below : List Frame} {meth : Method} {c : Code} (C : zzCx p m meth c s args cX12_lasts 3 wsX12_lasts RX12 (some .int) Z) (p0 : Int32)  (p1 : Int32)  (σ : zzS) : zzGO p l e rX12_lasts s m args below meth c 3 (zzA base) (zzM Z base PL mm) (zzM Z base PL mm) zzRI rX12_lasts.cells rX12_lasts.slots (f_X12_lasts p0 p1 σ) σ 0 0 0 [(0, .ref (zzad Z 36)), (1, .int p0), (2, .int p1)] [] := by
  unfold f_X12_lasts
  refine zz_aload_n C dX12_lasts_0 rfl 0 rfl ?_
  refine zz_iconst (v := 0) C dX12_lasts_1 (by decide) ?_
  refine zz_put (ty := .int) C zzM_obj (fun _ h9 => List.mem_cons_of_mem _ (List.mem_append_right _ (h9))) rfl 13 (by decide) (List.mem_of_getElem? (i := 1) rfl) rfl tyX12_ok nmX12 rfl (by decide +kernel) rfl rfl (Nat.le_of_ble_eq_true rfl) (zzM_uobj (by decide)) (zzA_M (by decide)) dX12_lasts_2 ?_
  refine zz_ltS (fun σ1 => ?_)
  refine zz_aload_n C dX12_lasts_5 rfl 0 rfl ?_
  refine zz_iload_n C dX12_lasts_6 rfl 1 rfl ?_
  refine zz_iload_n C dX12_lasts_7 rfl 2 rfl ?_
  refine zz_callV C (Cn := RX12) (b := zzad Z 36) (fun H hH => zz_recv C.2.2.2 (zzM_obj H hH) rfl) (As := [.int p0, .int p1]) (rest := []) rfl (k_X12_areTwo p0 p1 σ1) (cwV 2 C.1.2.2.2.2 gX12_lasts_X12_areTwo rfl rfl rfl (by decide +kernel) ⟨Nat.le_of_ble_eq_true rfl, Nat.le_of_ble_eq_true rfl⟩) rfl (Nat.le_of_ble_eq_true rfl) ⟨Nat.zero_le _, Nat.zero_le _⟩ dX12_lasts_8 (zz_kI rfl rfl (fun r2 σ3 => ?_))
  refine zz_if_eq (tgt := 23) C dX12_lasts_11 (by decide) (fun h4 => ?_) (fun h4 => ?_)
  · refine zz_iconst (v := -1) C dX12_lasts_23 (by decide) ?_
    exact zz_iret C rfl rfl (fun _ h9 => h9) (Nat.zero_le _) (Nat.zero_le _) dX12_lasts_24
  · refine zz_aload_n C dX12_lasts_14 rfl 0 rfl ?_
    refine zz_iload_n C dX12_lasts_15 rfl 1 rfl ?_
    refine zz_iload_n C dX12_lasts_16 rfl 2 rfl ?_
    refine zz_callV C (Cn := RX12) (b := zzad Z 36) (fun H hH => zz_recv C.2.2.2 (zzM_obj H hH) rfl) (As := [.int p0, .int p1]) (rest := []) rfl (k_X12_lastsFor p0 p1 σ3) (cwV 2 C.1.2.2.2.2 gX12_lasts_X12_lastsFor rfl rfl rfl (by decide +kernel) ⟨Nat.le_of_ble_eq_true rfl, Nat.le_of_ble_eq_true rfl⟩) rfl (Nat.le_of_ble_eq_true rfl) ⟨Nat.zero_le _, Nat.zero_le _⟩ dX12_lasts_17 (zz_kI rfl rfl (fun r5 σ6 => ?_))
    refine zz_goto (tgt := 24) C dX12_lasts_20 (by decide) ?_
    exact zz_iret C rfl rfl (fun _ h9 => h9) (Nat.zero_le _) (Nat.zero_le _) dX12_lasts_24
set_option maxHeartbeats 4000000 in
set_option maxRecDepth 100000 in
theorem k_X12_lasts {l : Launch} {Z : zzG} {base : Nat} {PL : Nat → Option (Nat × Int32)} {mm : zzS} (p0 : Int32)  (p1 : Int32)  (σ : zzS) : zzCT l yX12_lasts wsX12_lasts rX12_lasts (zzA base) Z (zzM Z base PL mm) (zzM Z base PL mm) zzRI [.ref (zzad Z 36), .int p0, .int p1] (f_X12_lasts p0 p1 σ) σ :=
  zzCT_of (cc := cX12_lasts) (nL := 3) (ret := (some .int)) (by decide) rfl (Nat.le_of_ble_eq_true rfl) [(0, .ref (zzad Z 36)), (1, .int p0), (2, .int p1)] rfl (fun p e s m args below meth c C => w_X12_lasts_e C p0 p1 σ)
abbrev rX12_soonest : Room := { frames := 2, cells := 0, slots := 0, locals := 46 }

set_option maxHeartbeats 4000000 in
set_option maxRecDepth 100000 in
theorem w_X12_soonest_145 {l : Launch} {Z : zzG} {base : Nat} {PL : Nat → Option (Nat × Int32)} {mm : zzS} {p : Program} {e : Env} {s : State} {m : MethodId} {args : Array Value} {below : List Frame} {meth : Method} {c : Code} (C : zzCx p m meth c s args cX12_soonest 10 wsX12_soonest RX12 (some .int) Z) (p0 : Int32)  (p1 : Int32)  (k56 : Int32 → Int32 → Int32 → Int32 → Int32 → zzS → Option (Int32 × zzS)) (hk56 : ∀ (l3 : Int32)  (l4 : Int32)  (l5 : Int32)  (l6 : Int32)  (l7 : Int32)  (σ : zzS), zzGO p l e rX12_soonest s m args below meth c 10 (zzA base) (zzM Z base PL mm) (zzM Z base PL mm) zzRI rX12_soonest.cells rX12_soonest.slots (k56 l3 l4 l5 l6 l7 σ) σ 0 0 56 [(0, .ref (zzad Z 36)), (1, .int p0), (2, .int p1), (3, .int l3), (4, .int l4), (5, .int l5), (6, .int l6), (7, .int l7)] []) (k64 : Int32 → Int32 → Int32 → Int32 → Int32 → Int32 → zzS → Option (Int32 × zzS)) (hk64 : ∀ (l3 : Int32)  (l4 : Int32)  (l5 : Int32)  (l6 : Int32)  (l7 : Int32)  (l8 : Int32)  (σ : zzS), zzGO p l e rX12_soonest s m args below meth c 10 (zzA base) (zzM Z base PL mm) (zzM Z base PL mm) zzRI rX12_soonest.cells rX12_soonest.slots (k64 l3 l4 l5 l6 l7 l8 σ) σ 0 0 64 [(0, .ref (zzad Z 36)), (1, .int p0), (2, .int p1), (3, .int l3), (4, .int l4), (5, .int l5), (6, .int l6), (7, .int l7), (8, .int l8)] []) (l3 : Int32)  (l4 : Int32)  (l5 : Int32)  (l6 : Int32)  (l7 : Int32)  (l8 : Int32)  (σ : zzS) : zzGO p l e rX12_soonest s m args below meth c 10 (zzA base) (zzM Z base PL mm) (zzM Z base PL mm) zzRI rX12_soonest.cells rX12_soonest.slots (f_X12_soonest_145 k56 k64 p0 p1 l3 l4 l5 l6 l7 l8 σ) σ 0 0 145 [(0, .ref (zzad Z 36)), (1, .int p0), (2, .int p1), (3, .int l3), (4, .int l4), (5, .int l5), (6, .int l6), (7, .int l7), (8, .int l8)] [] := by
  unfold f_X12_soonest_145
  refine zz_iincX (d := 1) (locf := fun x1 => [(8, .int x1), (0, .ref (zzad Z 36)), (1, .int p0), (2, .int p1), (3, .int l3), (4, .int l4), (5, .int l5), (6, .int l6), (7, .int l7)]) C dX12_soonest_145 (k := 8) rfl (by decide) (by decide) (fun _ => rfl) (fun x1 => ?_)
  refine zz_goto (tgt := 64) C dX12_soonest_148 (by decide) ?_
  refine zz_sub (loc' := [(0, .ref (zzad Z 36)), (1, .int p0), (2, .int p1), (3, .int l3), (4, .int l4), (5, .int l5), (6, .int l6), (7, .int l7), (8, .int x1)]) [1, 2, 3, 4, 5, 6, 7, 8, 0] rfl ?_
  exact hk64 l3 l4 l5 l6 l7 x1 σ
set_option maxHeartbeats 4000000 in
set_option maxRecDepth 100000 in
theorem w_X12_soonest_122b {l : Launch} {Z : zzG} {base : Nat} {PL : Nat → Option (Nat × Int32)} {mm : zzS} {p : Program} {e : Env} {s : State} {m : MethodId} {args : Array Value} {below : List Frame} {meth : Method} {c : Code} (C : zzCx p m meth c s args cX12_soonest 10 wsX12_soonest RX12 (some .int) Z) (p0 : Int32)  (p1 : Int32)  (k56 : Int32 → Int32 → Int32 → Int32 → Int32 → zzS → Option (Int32 × zzS)) (hk56 : ∀ (l3 : Int32)  (l4 : Int32)  (l5 : Int32)  (l6 : Int32)  (l7 : Int32)  (σ : zzS), zzGO p l e rX12_soonest s m args below meth c 10 (zzA base) (zzM Z base PL mm) (zzM Z base PL mm) zzRI rX12_soonest.cells rX12_soonest.slots (k56 l3 l4 l5 l6 l7 σ) σ 0 0 56 [(0, .ref (zzad Z 36)), (1, .int p0), (2, .int p1), (3, .int l3), (4, .int l4), (5, .int l5), (6, .int l6), (7, .int l7)] []) (k64 : Int32 → Int32 → Int32 → Int32 → Int32 → Int32 → zzS → Option (Int32 × zzS)) (hk64 : ∀ (l3 : Int32)  (l4 : Int32)  (l5 : Int32)  (l6 : Int32)  (l7 : Int32)  (l8 : Int32)  (σ : zzS), zzGO p l e rX12_soonest s m args below meth c 10 (zzA base) (zzM Z base PL mm) (zzM Z base PL mm) zzRI rX12_soonest.cells rX12_soonest.slots (k64 l3 l4 l5 l6 l7 l8 σ) σ 0 0 64 [(0, .ref (zzad Z 36)), (1, .int p0), (2, .int p1), (3, .int l3), (4, .int l4), (5, .int l5), (6, .int l6), (7, .int l7), (8, .int l8)] []) (k122 : Int32 → Int32 → Int32 → Int32 → Int32 → Int32 → Int32 → zzS → Option (Int32 × zzS)) (hk122 : ∀ (l3 : Int32)  (l4 : Int32)  (l5 : Int32)  (l6 : Int32)  (l7 : Int32)  (l8 : Int32)  (l9 : Int32)  (σ : zzS), zzGO p l e rX12_soonest s m args below meth c 10 (zzA base) (zzM Z base PL mm) (zzM Z base PL mm) zzRI rX12_soonest.cells rX12_soonest.slots (k122 l3 l4 l5 l6 l7 l8 l9 σ) σ 0 0 122 [(0, .ref (zzad Z 36)), (1, .int p0), (2, .int p1), (3, .int l3), (4, .int l4), (5, .int l5), (6, .int l6), (7, .int l7), (8, .int l8), (9, .int l9)] []) (l3 : Int32)  (l4 : Int32)  (l5 : Int32)  (l6 : Int32)  (l7 : Int32)  (l8 : Int32)  (l9 : Int32)  (σ : zzS) : zzGO p l e rX12_soonest s m args below meth c 10 (zzA base) (zzM Z base PL mm) (zzM Z base PL mm) zzRI rX12_soonest.cells rX12_soonest.slots (f_X12_soonest_122b k56 k64 k122 p0 p1 l3 l4 l5 l6 l7 l8 l9 σ) σ 0 0 122 [(0, .ref (zzad Z 36)), (1, .int p0), (2, .int p1), (3, .int l3), (4, .int l4), (5, .int l5), (6, .int l6), (7, .int l7), (8, .int l8), (9, .int l9)] [] := by
  unfold f_X12_soonest_122b
  refine zz_iload C dX12_soonest_122 9 rfl ?_
  refine zz_if_le (tgt := 145) C dX12_soonest_124 (by decide) (fun h1 => ?_) (fun h1 => ?_)
  · refine zz_sub (loc' := [(0, .ref (zzad Z 36)), (1, .int p0), (2, .int p1), (3, .int l3), (4, .int l4), (5, .int l5), (6, .int l6), (7, .int l7), (8, .int l8)]) [0, 1, 2, 3, 4, 5, 6, 7, 8] rfl ?_
    exact w_X12_soonest_145 C p0 p1 k56 hk56 k64 hk64 l3 l4 l5 l6 l7 l8 σ
  · refine zz_iload_n C dX12_soonest_127 rfl 3 rfl ?_
    refine zz_if_le (tgt := 145) C dX12_soonest_128 (by decide) (fun h2 => ?_) (fun h2 => ?_)
    · refine zz_sub (loc' := [(0, .ref (zzad Z 36)), (1, .int p0), (2, .int p1), (3, .int l3), (4, .int l4), (5, .int l5), (6, .int l6), (7, .int l7), (8, .int l8)]) [0, 1, 2, 3, 4, 5, 6, 7, 8] rfl ?_
      exact w_X12_soonest_145 C p0 p1 k56 hk56 k64 hk64 l3 l4 l5 l6 l7 l8 σ
    · refine zz_iload_n C dX12_soonest_131 rfl 3 rfl ?_
      refine zz_iload C dX12_soonest_132 7 rfl ?_
      refine zz_isub C dX12_soonest_134 ?_
      refine zz_istoreX_n (locf := fun x3 => [(3, .int x3), (0, .ref (zzad Z 36)), (1, .int p0), (2, .int p1), (4, .int l4), (5, .int l5), (6, .int l6), (7, .int l7), (8, .int l8), (9, .int l9)]) C dX12_soonest_135 rfl (by decide) (fun _ => rfl) (fun x3 => ?_)
      refine zz_iincX (d := 1) (locf := fun x4 => [(4, .int x4), (3, .int x3), (0, .ref (zzad Z 36)), (1, .int p0), (2, .int p1), (5, .int l5), (6, .int l6), (7, .int l7), (8, .int l8), (9, .int l9)]) C dX12_soonest_136 (k := 4) rfl (by decide) (by decide) (fun _ => rfl) (fun x4 => ?_)
      refine zz_iincX (d := -1) (locf := fun x5 => [(9, .int x5), (4, .int x4), (3, .int x3), (0, .ref (zzad Z 36)), (1, .int p0), (2, .int p1), (5, .int l5), (6, .int l6), (7, .int l7), (8, .int l8)]) C dX12_soonest_139 (k := 9) rfl (by decide) (by decide) (fun _ => rfl) (fun x5 => ?_)
      refine zz_goto (tgt := 122) C dX12_soonest_142 (by decide) ?_
      refine zz_sub (loc' := [(0, .ref (zzad Z 36)), (1, .int p0), (2, .int p1), (3, .int x3), (4, .int x4), (5, .int l5), (6, .int l6), (7, .int l7), (8, .int l8), (9, .int x5)]) [3, 4, 5, 2, 1, 6, 7, 8, 9, 0] rfl ?_
      exact hk122 x3 x4 l5 l6 l7 l8 x5 σ
set_option maxHeartbeats 4000000 in
set_option maxRecDepth 100000 in
theorem w_X12_soonest_122 {l : Launch} {Z : zzG} {base : Nat} {PL : Nat → Option (Nat × Int32)} {mm : zzS} {p : Program} {e : Env} {s : State} {m : MethodId} {args : Array Value} {below : List Frame} {meth : Method} {c : Code} (C : zzCx p m meth c s args cX12_soonest 10 wsX12_soonest RX12 (some .int) Z) (p0 : Int32)  (p1 : Int32)  (k56 : Int32 → Int32 → Int32 → Int32 → Int32 → zzS → Option (Int32 × zzS)) (hk56 : ∀ (l3 : Int32)  (l4 : Int32)  (l5 : Int32)  (l6 : Int32)  (l7 : Int32)  (σ : zzS), zzGO p l e rX12_soonest s m args below meth c 10 (zzA base) (zzM Z base PL mm) (zzM Z base PL mm) zzRI rX12_soonest.cells rX12_soonest.slots (k56 l3 l4 l5 l6 l7 σ) σ 0 0 56 [(0, .ref (zzad Z 36)), (1, .int p0), (2, .int p1), (3, .int l3), (4, .int l4), (5, .int l5), (6, .int l6), (7, .int l7)] []) (k64 : Int32 → Int32 → Int32 → Int32 → Int32 → Int32 → zzS → Option (Int32 × zzS)) (hk64 : ∀ (l3 : Int32)  (l4 : Int32)  (l5 : Int32)  (l6 : Int32)  (l7 : Int32)  (l8 : Int32)  (σ : zzS), zzGO p l e rX12_soonest s m args below meth c 10 (zzA base) (zzM Z base PL mm) (zzM Z base PL mm) zzRI rX12_soonest.cells rX12_soonest.slots (k64 l3 l4 l5 l6 l7 l8 σ) σ 0 0 64 [(0, .ref (zzad Z 36)), (1, .int p0), (2, .int p1), (3, .int l3), (4, .int l4), (5, .int l5), (6, .int l6), (7, .int l7), (8, .int l8)] []) (n : Nat) : ∀ (l3 : Int32)  (l4 : Int32)  (l5 : Int32)  (l6 : Int32)  (l7 : Int32)  (l8 : Int32)  (l9 : Int32)  (σ : zzS), zzGO p l e rX12_soonest s m args below meth c 10 (zzA base) (zzM Z base PL mm) (zzM Z base PL mm) zzRI rX12_soonest.cells rX12_soonest.slots (f_X12_soonest_122 k56 k64 p0 p1 n l3 l4 l5 l6 l7 l8 l9 σ) σ 0 0 122 [(0, .ref (zzad Z 36)), (1, .int p0), (2, .int p1), (3, .int l3), (4, .int l4), (5, .int l5), (6, .int l6), (7, .int l7), (8, .int l8), (9, .int l9)] [] := by
  induction n with
  | zero => exact fun _ _ _ _ _ _ _ _ r9 s9 h9 => by cases h9
  | succ n ih => exact w_X12_soonest_122b C p0 p1 k56 hk56 k64 hk64 _ ih
set_option maxHeartbeats 4000000 in
set_option maxRecDepth 100000 in
theorem w_X12_soonest_111 {l : Launch} {Z : zzG} {base : Nat} {PL : Nat → Option (Nat × Int32)} {mm : zzS} {p : Program} {e : Env} {s : State} {m : MethodId} {args : Array Value} {below : List Frame} {meth : Method} {c : Code} (C : zzCx p m meth c s args cX12_soonest 10 wsX12_soonest RX12 (some .int) Z) (p0 : Int32)  (p1 : Int32)  (k56 : Int32 → Int32 → Int32 → Int32 → Int32 → zzS → Option (Int32 × zzS)) (hk56 : ∀ (l3 : Int32)  (l4 : Int32)  (l5 : Int32)  (l6 : Int32)  (l7 : Int32)  (σ : zzS), zzGO p l e rX12_soonest s m args below meth c 10 (zzA base) (zzM Z base PL mm) (zzM Z base PL mm) zzRI rX12_soonest.cells rX12_soonest.slots (k56 l3 l4 l5 l6 l7 σ) σ 0 0 56 [(0, .ref (zzad Z 36)), (1, .int p0), (2, .int p1), (3, .int l3), (4, .int l4), (5, .int l5), (6, .int l6), (7, .int l7)] []) (k64 : Int32 → Int32 → Int32 → Int32 → Int32 → Int32 → zzS → Option (Int32 × zzS)) (hk64 : ∀ (l3 : Int32)  (l4 : Int32)  (l5 : Int32)  (l6 : Int32)  (l7 : Int32)  (l8 : Int32)  (σ : zzS), zzGO p l e rX12_soonest s m args below meth c 10 (zzA base) (zzM Z base PL mm) (zzM Z base PL mm) zzRI rX12_soonest.cells rX12_soonest.slots (k64 l3 l4 l5 l6 l7 l8 σ) σ 0 0 64 [(0, .ref (zzad Z 36)), (1, .int p0), (2, .int p1), (3, .int l3), (4, .int l4), (5, .int l5), (6, .int l6), (7, .int l7), (8, .int l8)] []) (l3 : Int32)  (l4 : Int32)  (l6 : Int32)  (l7 : Int32)  (l8 : Int32)  (s0 : Int32)  (σ : zzS) : zzGO p l e rX12_soonest s m args below meth c 10 (zzA base) (zzM Z base PL mm) (zzM Z base PL mm) zzRI rX12_soonest.cells rX12_soonest.slots (f_X12_soonest_111 k56 k64 p0 p1 l3 l4 l6 l7 l8 s0 σ) σ 0 0 111 [(0, .ref (zzad Z 36)), (1, .int p0), (2, .int p1), (3, .int l3), (4, .int l4), (6, .int l6), (7, .int l7), (8, .int l8)] [.int s0] := by
  unfold f_X12_soonest_111
  refine zz_istore (loc' := [(5, .int s0), (0, .ref (zzad Z 36)), (1, .int p0), (2, .int p1), (3, .int l3), (4, .int l4), (6, .int l6), (7, .int l7), (8, .int l8)]) C dX12_soonest_111 (by decide) rfl ?_
  refine zz_aload_n C dX12_soonest_113 rfl 1 rfl ?_
  refine zz_iload C dX12_soonest_114 8 rfl ?_
  refine zz_iload_n C dX12_soonest_116 rfl 2 rfl ?_
  refine zz_callV C (Cn := RX12) (b := zzad Z 36) (fun H hH => zz_recv C.2.2.2 (zzM_obj H hH) rfl) (As := [.int l8, .int p0]) (rest := []) rfl (k_X12_lastsFor l8 p0 σ) (cwV 2 C.1.2.2.2.2 gX12_soonest_X12_lastsFor rfl rfl rfl (by decide +kernel) ⟨Nat.le_of_ble_eq_true rfl, Nat.le_of_ble_eq_true rfl⟩) rfl (Nat.le_of_ble_eq_true rfl) ⟨Nat.zero_le _, Nat.zero_le _⟩ dX12_soonest_117 (zz_kI rfl rfl (fun r1 σ2 => ?_))
  refine zz_istore (loc' := [(9, .int r1), (5, .int s0), (0, .ref (zzad Z 36)), (1, .int p0), (2, .int p1), (3, .int l3), (4, .int l4), (6, .int l6), (7, .int l7), (8, .int l8)]) C dX12_soonest_120 (by decide) rfl ?_
  refine zz_sub (loc' := [(0, .ref (zzad Z 36)), (1, .int p0), (2, .int p1), (3, .int l3), (4, .int l4), (5, .int s0), (6, .int l6), (7, .int l7), (8, .int l8), (9, .int r1)]) [2, 3, 4, 5, 6, 1, 7, 8, 9, 0] rfl ?_
  exact w_X12_soonest_122 C p0 p1 k56 hk56 k64 hk64 200 l3 l4 s0 l6 l7 l8 r1 σ2
set_option maxHeartbeats 4000000 in
set_option maxRecDepth 100000 in
theorem w_X12_soonest_109 {l : Launch} {Z : zzG} {base : Nat} {PL : Nat → Option (Nat × Int32)} {mm : zzS} {p : Program} {e : Env} {s : State} {m : MethodId} {args : Array Value} {below : List Frame} {meth : Method} {c : Code} (C : zzCx p m meth c s args cX12_soonest 10 wsX12_soonest RX12 (some .int) Z) (p0 : Int32)  (p1 : Int32)  (k56 : Int32 → Int32 → Int32 → Int32 → Int32 → zzS → Option (Int32 × zzS)) (hk56 : ∀ (l3 : Int32)  (l4 : Int32)  (l5 : Int32)  (l6 : Int32)  (l7 : Int32)  (σ : zzS), zzGO p l e rX12_soonest s m args below meth c 10 (zzA base) (zzM Z base PL mm) (zzM Z base PL mm) zzRI rX12_soonest.cells rX12_soonest.slots (k56 l3 l4 l5 l6 l7 σ) σ 0 0 56 [(0, .ref (zzad Z 36)), (1, .int p0), (2, .int p1), (3, .int l3), (4, .int l4), (5, .int l5), (6, .int l6), (7, .int l7)] []) (k64 : Int32 → Int32 → Int32 → Int32 → Int32 → Int32 → zzS → Option (Int32 × zzS)) (hk64 : ∀ (l3 : Int32)  (l4 : Int32)  (l5 : Int32)  (l6 : Int32)  (l7 : Int32)  (l8 : Int32)  (σ : zzS), zzGO p l e rX12_soonest s m args below meth c 10 (zzA base) (zzM Z base PL mm) (zzM Z base PL mm) zzRI rX12_soonest.cells rX12_soonest.slots (k64 l3 l4 l5 l6 l7 l8 σ) σ 0 0 64 [(0, .ref (zzad Z 36)), (1, .int p0), (2, .int p1), (3, .int l3), (4, .int l4), (5, .int l5), (6, .int l6), (7, .int l7), (8, .int l8)] []) (l3 : Int32)  (l4 : Int32)  (l5 : Int32)  (l6 : Int32)  (l7 : Int32)  (l8 : Int32)  (σ : zzS) : zzGO p l e rX12_soonest s m args below meth c 10 (zzA base) (zzM Z base PL mm) (zzM Z base PL mm) zzRI rX12_soonest.cells rX12_soonest.slots (f_X12_soonest_109 k56 k64 p0 p1 l3 l4 l5 l6 l7 l8 σ) σ 0 0 109 [(0, .ref (zzad Z 36)), (1, .int p0), (2, .int p1), (3, .int l3), (4, .int l4), (5, .int l5), (6, .int l6), (7, .int l7), (8, .int l8)] [] := by
  unfold f_X12_soonest_109
  refine zz_iload C dX12_soonest_109 5 rfl ?_
  refine zz_sub (loc' := [(0, .ref (zzad Z 36)), (1, .int p0), (2, .int p1), (3, .int l3), (4, .int l4), (6, .int l6), (7, .int l7), (8, .int l8)]) [0, 1, 2, 3, 4, 6, 7, 8] rfl ?_
  exact w_X12_soonest_111 C p0 p1 k56 hk56 k64 hk64 l3 l4 l6 l7 l8 l5 σ
set_option maxHeartbeats 4000000 in
set_option maxRecDepth 100000 in
theorem w_X12_soonest_64b {l : Launch} {Z : zzG} {base : Nat} {PL : Nat → Option (Nat × Int32)} {mm : zzS} {p : Program} {e : Env} {s : State} {m : MethodId} {args : Array Value} {below : List Frame} {meth : Method} {c : Code} (C : zzCx p m meth c s args cX12_soonest 10 wsX12_soonest RX12 (some .int) Z) (p0 : Int32)  (p1 : Int32)  (k56 : Int32 → Int32 → Int32 → Int32 → Int32 → zzS → Option (Int32 × zzS)) (hk56 : ∀ (l3 : Int32)  (l4 : Int32)  (l5 : Int32)  (l6 : Int32)  (l7 : Int32)  (σ : zzS), zzGO p l e rX12_soonest s m args below meth c 10 (zzA base) (zzM Z base PL mm) (zzM Z base PL mm) zzRI rX12_soonest.cells rX12_soonest.slots (k56 l3 l4 l5 l6 l7 σ) σ 0 0 56 [(0, .ref (zzad Z 36)), (1, .int p0), (2, .int p1), (3, .int l3), (4, .int l4), (5, .int l5), (6, .int l6), (7, .int l7)] []) (k64 : Int32 → Int32 → Int32 → Int32 → Int32 → Int32 → zzS → Option (Int32 × zzS)) (hk64 : ∀ (l3 : Int32)  (l4 : Int32)  (l5 : Int32)  (l6 : Int32)  (l7 : Int32)  (l8 : Int32)  (σ : zzS), zzGO p l e rX12_soonest s m args below meth c 10 (zzA base) (zzM Z base PL mm) (zzM Z base PL mm) zzRI rX12_soonest.cells rX12_soonest.slots (k64 l3 l4 l5 l6 l7 l8 σ) σ 0 0 64 [(0, .ref (zzad Z 36)), (1, .int p0), (2, .int p1), (3, .int l3), (4, .int l4), (5, .int l5), (6, .int l6), (7, .int l7), (8, .int l8)] []) (l3 : Int32)  (l4 : Int32)  (l5 : Int32)  (l6 : Int32)  (l7 : Int32)  (l8 : Int32)  (σ : zzS) : zzGO p l e rX12_soonest s m args below meth c 10 (zzA base) (zzM Z base PL mm) (zzM Z base PL mm) zzRI rX12_soonest.cells rX12_soonest.slots (f_X12_soonest_64b k56 k64 p0 p1 l3 l4 l5 l6 l7 l8 σ) σ 0 0 64 [(0, .ref (zzad Z 36)), (1, .int p0), (2, .int p1), (3, .int l3), (4, .int l4), (5, .int l5), (6, .int l6), (7, .int l7), (8, .int l8)] [] := by
  unfold f_X12_soonest_64b
  refine zz_iload C dX12_soonest_64 8 rfl ?_
  refine zz_aload_n C dX12_soonest_66 rfl 0 rfl ?_
  refine zz_get C zzM_obj (fun _ h9 => List.mem_cons_of_mem _ (List.mem_append_right _ (h9))) rfl 0 (by decide) (List.mem_of_getElem? (i := 3) rfl) (Or.inl rfl) rfl dX12_soonest_67 ?_
  refine zz_icmp_ge (tgt := 151) C dX12_soonest_70 (by decide) (fun h1 => ?_) (fun h1 => ?_)
  · refine zz_iincX (d := -1) (locf := fun x2 => [(7, .int x2), (0, .ref (zzad Z 36)), (1, .int p0), (2, .int p1), (3, .int l3), (4, .int l4), (5, .int l5), (6, .int l6), (8, .int l8)]) C dX12_soonest_151 (k := 7) rfl (by decide) (by decide) (fun _ => rfl) (fun x2 => ?_)
    refine zz_goto (tgt := 56) C dX12_soonest_154 (by decide) ?_
    refine zz_sub (loc' := [(0, .ref (zzad Z 36)), (1, .int p0), (2, .int p1), (3, .int l3), (4, .int l4), (5, .int l5), (6, .int l6), (7, .int x2)]) [1, 2, 3, 4, 5, 6, 7, 0] rfl ?_
    exact hk56 l3 l4 l5 l6 x2 σ
  · refine zz_aload_n C dX12_soonest_73 rfl 0 rfl ?_
    refine zz_iload C dX12_soonest_74 8 rfl ?_
    refine zz_iload_n C dX12_soonest_76 rfl 1 rfl ?_
    refine zz_callV C (Cn := RX12) (b := zzad Z 36) (fun H hH => zz_recv C.2.2.2 (zzM_obj H hH) rfl) (As := [.int l8, .int p0]) (rest := []) rfl (k_X12_mayTurn l8 p0 σ) (cwV 2 C.1.2.2.2.2 gX12_soonest_X12_mayTurn rfl rfl rfl (by decide +kernel) ⟨Nat.le_of_ble_eq_true rfl, Nat.le_of_ble_eq_true rfl⟩) rfl (Nat.le_of_ble_eq_true rfl) ⟨Nat.zero_le _, Nat.zero_le _⟩ dX12_soonest_77 (zz_kI rfl rfl (fun r3 σ4 => ?_))
    refine zz_if_eq (tgt := 145) C dX12_soonest_80 (by decide) (fun h5 => ?_) (fun h5 => ?_)
    · refine zz_sub (loc' := [(0, .ref (zzad Z 36)), (1, .int p0), (2, .int p1), (3, .int l3), (4, .int l4), (5, .int l5), (6, .int l6), (7, .int l7), (8, .int l8)]) [0, 1, 2, 3, 4, 5, 6, 7, 8] rfl ?_
      exact w_X12_soonest_145 C p0 p1 k56 hk56 k64 hk64 l3 l4 l5 l6 l7 l8 σ4
    · refine zz_aload_n C dX12_soonest_83 rfl 0 rfl ?_
      refine zz_iload C dX12_soonest_84 8 rfl ?_
      refine zz_callV C (Cn := RX12) (b := zzad Z 36) (fun H hH => zz_recv C.2.2.2 (zzM_obj H hH) rfl) (As := [.int l8]) (rest := []) rfl (k_X12_turnsOf l8 σ4) (cwV 1 C.1.2.2.2.2 gX12_soonest_X12_turnsOf rfl rfl rfl (by decide +kernel) ⟨Nat.le_of_ble_eq_true rfl, Nat.le_of_ble_eq_true rfl⟩) rfl (Nat.le_of_ble_eq_true rfl) ⟨Nat.zero_le _, Nat.zero_le _⟩ dX12_soonest_86 (zz_kI rfl rfl (fun r6 σ7 => ?_))
      refine zz_iload C dX12_soonest_89 7 rfl ?_
      refine zz_icmp_ne (tgt := 145) C dX12_soonest_91 (by decide) (fun h8 => ?_) (fun h8 => ?_)
      · refine zz_sub (loc' := [(0, .ref (zzad Z 36)), (1, .int p0), (2, .int p1), (3, .int l3), (4, .int l4), (5, .int l5), (6, .int l6), (7, .int l7), (8, .int l8)]) [0, 1, 2, 3, 4, 5, 6, 7, 8] rfl ?_
        exact w_X12_soonest_145 C p0 p1 k56 hk56 k64 hk64 l3 l4 l5 l6 l7 l8 σ7
      · refine zz_iload C dX12_soonest_94 5 rfl ?_
        refine zz_if_ge (tgt := 109) C dX12_soonest_96 (by decide) (fun h9 => ?_) (fun h9 => ?_)
        · refine zz_sub (loc' := [(0, .ref (zzad Z 36)), (1, .int p0), (2, .int p1), (3, .int l3), (4, .int l4), (5, .int l5), (6, .int l6), (7, .int l7), (8, .int l8)]) [0, 1, 2, 3, 4, 5, 6, 7, 8] rfl ?_
          exact w_X12_soonest_109 C p0 p1 k56 hk56 k64 hk64 l3 l4 l5 l6 l7 l8 σ7
        · refine zz_iload C dX12_soonest_99 6 rfl ?_
          refine zz_if_eq (tgt := 109) C dX12_soonest_101 (by decide) (fun h10 => ?_) (fun h10 => ?_)
          · refine zz_sub (loc' := [(0, .ref (zzad Z 36)), (1, .int p0), (2, .int p1), (3, .int l3), (4, .int l4), (5, .int l5), (6, .int l6), (7, .int l7), (8, .int l8)]) [0, 1, 2, 3, 4, 5, 6, 7, 8] rfl ?_
            exact w_X12_soonest_109 C p0 p1 k56 hk56 k64 hk64 l3 l4 l5 l6 l7 l8 σ7
          · refine zz_iload C dX12_soonest_104 8 rfl ?_
            refine zz_goto (tgt := 111) C dX12_soonest_106 (by decide) ?_
            refine zz_sub (loc' := [(0, .ref (zzad Z 36)), (1, .int p0), (2, .int p1), (3, .int l3), (4, .int l4), (6, .int l6), (7, .int l7), (8, .int l8)]) [0, 1, 2, 3, 4, 6, 7, 8] rfl ?_
            exact w_X12_soonest_111 C p0 p1 k56 hk56 k64 hk64 l3 l4 l6 l7 l8 l8 σ7
set_option maxHeartbeats 4000000 in
set_option maxRecDepth 100000 in
theorem w_X12_soonest_64 {l : Launch} {Z : zzG} {base : Nat} {PL : Nat → Option (Nat × Int32)} {mm : zzS} {p : Program} {e : Env} {s : State} {m : MethodId} {args : Array Value} {below : List Frame} {meth : Method} {c : Code} (C : zzCx p m meth c s args cX12_soonest 10 wsX12_soonest RX12 (some .int) Z) (p0 : Int32)  (p1 : Int32)  (k56 : Int32 → Int32 → Int32 → Int32 → Int32 → zzS → Option (Int32 × zzS)) (hk56 : ∀ (l3 : Int32)  (l4 : Int32)  (l5 : Int32)  (l6 : Int32)  (l7 : Int32)  (σ : zzS), zzGO p l e rX12_soonest s m args below meth c 10 (zzA base) (zzM Z base PL mm) (zzM Z base PL mm) zzRI rX12_soonest.cells rX12_soonest.slots (k56 l3 l4 l5 l6 l7 σ) σ 0 0 56 [(0, .ref (zzad Z 36)), (1, .int p0), (2, .int p1), (3, .int l3), (4, .int l4), (5, .int l5), (6, .int l6), (7, .int l7)] []) (n : Nat) : ∀ (l3 : Int32)  (l4 : Int32)  (l5 : Int32)  (l6 : Int32)  (l7 : Int32)  (l8 : Int32)  (σ : zzS), zzGO p l e rX12_soonest s m args below meth c 10 (zzA base) (zzM Z base PL mm) (zzM Z base PL mm) zzRI rX12_soonest.cells rX12_soonest.slots (f_X12_soonest_64 k56 p0 p1 n l3 l4 l5 l6 l7 l8 σ) σ 0 0 64 [(0, .ref (zzad Z 36)), (1, .int p0), (2, .int p1), (3, .int l3), (4, .int l4), (5, .int l5), (6, .int l6), (7, .int l7), (8, .int l8)] [] := by
  induction n with
  | zero => exact fun _ _ _ _ _ _ _ r9 s9 h9 => by cases h9
  | succ n ih => exact w_X12_soonest_64b C p0 p1 k56 hk56 _ ih
set_option maxHeartbeats 4000000 in
set_option maxRecDepth 100000 in
theorem w_X12_soonest_56b {l : Launch} {Z : zzG} {base : Nat} {PL : Nat → Option (Nat × Int32)} {mm : zzS} {p : Program} {e : Env} {s : State} {m : MethodId} {args : Array Value} {below : List Frame} {meth : Method} {c : Code} (C : zzCx p m meth c s args cX12_soonest 10 wsX12_soonest RX12 (some .int) Z) (p0 : Int32)  (p1 : Int32)   (k56 : Int32 → Int32 → Int32 → Int32 → Int32 → zzS → Option (Int32 × zzS)) (hk56 : ∀ (l3 : Int32)  (l4 : Int32)  (l5 : Int32)  (l6 : Int32)  (l7 : Int32)  (σ : zzS), zzGO p l e rX12_soonest s m args below meth c 10 (zzA base) (zzM Z base PL mm) (zzM Z base PL mm) zzRI rX12_soonest.cells rX12_soonest.slots (k56 l3 l4 l5 l6 l7 σ) σ 0 0 56 [(0, .ref (zzad Z 36)), (1, .int p0), (2, .int p1), (3, .int l3), (4, .int l4), (5, .int l5), (6, .int l6), (7, .int l7)] []) (l3 : Int32)  (l4 : Int32)  (l5 : Int32)  (l6 : Int32)  (l7 : Int32)  (σ : zzS) : zzGO p l e rX12_soonest s m args below meth c 10 (zzA base) (zzM Z base PL mm) (zzM Z base PL mm) zzRI rX12_soonest.cells rX12_soonest.slots (f_X12_soonest_56b k56 p0 p1 l3 l4 l5 l6 l7 σ) σ 0 0 56 [(0, .ref (zzad Z 36)), (1, .int p0), (2, .int p1), (3, .int l3), (4, .int l4), (5, .int l5), (6, .int l6), (7, .int l7)] [] := by
  unfold f_X12_soonest_56b
  refine zz_iload C dX12_soonest_56 7 rfl ?_
  refine zz_if_le (tgt := 157) C dX12_soonest_58 (by decide) (fun h1 => ?_) (fun h1 => ?_)
  · refine zz_iload_n C dX12_soonest_157 rfl 3 rfl ?_
    refine zz_if_le (tgt := 166) C dX12_soonest_158 (by decide) (fun h2 => ?_) (fun h2 => ?_)
    · refine zz_iload_n C dX12_soonest_166 rfl 2 rfl ?_
      refine zz_if_ne (tgt := 175) C dX12_soonest_167 (by decide) (fun h3 => ?_) (fun h3 => ?_)
      · refine zz_iload C dX12_soonest_175 5 rfl ?_
        exact zz_iret C rfl rfl (fun _ h9 => h9) (Nat.zero_le _) (Nat.zero_le _) dX12_soonest_177
      · refine zz_iload C dX12_soonest_170 4 rfl ?_
        refine zz_goto (tgt := 177) C dX12_soonest_172 (by decide) ?_
        exact zz_iret C rfl rfl (fun _ h9 => h9) (Nat.zero_le _) (Nat.zero_le _) dX12_soonest_177
    · refine zz_bipush (v := -4) C dX12_soonest_161 (by decide) ?_
      refine zz_goto (tgt := 177) C dX12_soonest_163 (by decide) ?_
      exact zz_iret C rfl rfl (fun _ h9 => h9) (Nat.zero_le _) (Nat.zero_le _) dX12_soonest_177
  · refine zz_iconst (v := 0) C dX12_soonest_61 (by decide) ?_
    refine zz_istore (loc' := [(8, .int (0 : Int32)), (0, .ref (zzad Z 36)), (1, .int p0), (2, .int p1), (3, .int l3), (4, .int l4), (5, .int l5), (6, .int l6), (7, .int l7)]) C dX12_soonest_62 (by decide) rfl ?_
    refine zz_sub (loc' := [(0, .ref (zzad Z 36)), (1, .int p0), (2, .int p1), (3, .int l3), (4, .int l4), (5, .int l5), (6, .int l6), (7, .int l7), (8, .int (0 : Int32))]) [1, 2, 3, 4, 5, 6, 7, 8, 0] rfl ?_
    exact w_X12_soonest_64 C p0 p1 k56 hk56 200 l3 l4 l5 l6 l7 (0 : Int32) σ
set_option maxHeartbeats 4000000 in
set_option maxRecDepth 100000 in
theorem w_X12_soonest_56 {l : Launch} {Z : zzG} {base : Nat} {PL : Nat → Option (Nat × Int32)} {mm : zzS} {p : Program} {e : Env} {s : State} {m : MethodId} {args : Array Value} {below : List Frame} {meth : Method} {c : Code} (C : zzCx p m meth c s args cX12_soonest 10 wsX12_soonest RX12 (some .int) Z) (p0 : Int32)  (p1 : Int32)   (n : Nat) : ∀ (l3 : Int32)  (l4 : Int32)  (l5 : Int32)  (l6 : Int32)  (l7 : Int32)  (σ : zzS), zzGO p l e rX12_soonest s m args below meth c 10 (zzA base) (zzM Z base PL mm) (zzM Z base PL mm) zzRI rX12_soonest.cells rX12_soonest.slots (f_X12_soonest_56 p0 p1 n l3 l4 l5 l6 l7 σ) σ 0 0 56 [(0, .ref (zzad Z 36)), (1, .int p0), (2, .int p1), (3, .int l3), (4, .int l4), (5, .int l5), (6, .int l6), (7, .int l7)] [] := by
  induction n with
  | zero => exact fun _ _ _ _ _ _ r9 s9 h9 => by cases h9
  | succ n ih => exact w_X12_soonest_56b C p0 p1 _ ih
set_option maxHeartbeats 4000000 in
set_option maxRecDepth 100000 in
theorem w_X12_soonest_51 {l : Launch} {Z : zzG} {base : Nat} {PL : Nat → Option (Nat × Int32)} {mm : zzS} {p : Program} {e : Env} {s : State} {m : MethodId} {args : Array Value} {below : List Frame} {meth : Method} {c : Code} (C : zzCx p m meth c s args cX12_soonest 10 wsX12_soonest RX12 (some .int) Z) (p0 : Int32)  (p1 : Int32)   (l3 : Int32)  (l4 : Int32)  (l5 : Int32)  (s0 : Int32)  (σ : zzS) : zzGO p l e rX12_soonest s m args below meth c 10 (zzA base) (zzM Z base PL mm) (zzM Z base PL mm) zzRI rX12_soonest.cells rX12_soonest.slots (f_X12_soonest_51 p0 p1 l3 l4 l5 s0 σ) σ 0 0 51 [(0, .ref (zzad Z 36)), (1, .int p0), (2, .int p1), (3, .int l3), (4, .int l4), (5, .int l5)] [.int s0] := by
  unfold f_X12_soonest_51
  refine zz_istore (loc' := [(6, .int s0), (0, .ref (zzad Z 36)), (1, .int p0), (2, .int p1), (3, .int l3), (4, .int l4), (5, .int l5)]) C dX12_soonest_51 (by decide) rfl ?_
  refine zz_iconst (v := 5) C dX12_soonest_53 (by decide) ?_
  refine zz_istore (loc' := [(7, .int (5 : Int32)), (6, .int s0), (0, .ref (zzad Z 36)), (1, .int p0), (2, .int p1), (3, .int l3), (4, .int l4), (5, .int l5)]) C dX12_soonest_54 (by decide) rfl ?_
  refine zz_sub (loc' := [(0, .ref (zzad Z 36)), (1, .int p0), (2, .int p1), (3, .int l3), (4, .int l4), (5, .int l5), (6, .int s0), (7, .int (5 : Int32))]) [2, 3, 4, 5, 6, 7, 1, 0] rfl ?_
  exact w_X12_soonest_56 C p0 p1 200 l3 l4 l5 s0 (5 : Int32) σ
set_option maxHeartbeats 4000000 in
set_option maxRecDepth 100000 in
theorem w_X12_soonest_e {l : Launch} {Z : zzG} {base : Nat} {PL : Nat → Option (Nat × Int32)} {mm : zzS} {p : Program} {e : Env} {s : State} {m : MethodId} {args : Array Value} {below : List Frame} {meth : Method} {c : Code} (C : zzCx p m meth c s args cX12_soonest 10 wsX12_soonest RX12 (some .int) Z) (p0 : Int32)  (p1 : Int32)  (σ : zzS) : zzGO p l e rX12_soonest s m args below meth c 10 (zzA base) (zzM Z base PL mm) (zzM Z base PL mm) zzRI rX12_soonest.cells rX12_soonest.slots (f_X12_soonest p0 p1 σ) σ 0 0 0 [(0, .ref (zzad Z 36)), (1, .int p0), (2, .int p1)] [] := by
  unfold f_X12_soonest
  refine zz_aload_n C dX12_soonest_0 rfl 0 rfl ?_
  refine zz_iconst (v := 0) C dX12_soonest_1 (by decide) ?_
  refine zz_put (ty := .int) C zzM_obj (fun _ h9 => List.mem_cons_of_mem _ (List.mem_append_right _ (h9))) rfl 13 (by decide) (List.mem_of_getElem? (i := 1) rfl) rfl tyX12_ok nmX12 rfl (by decide +kernel) rfl rfl (Nat.le_of_ble_eq_true rfl) (zzM_uobj (by decide)) (zzA_M (by decide)) dX12_soonest_2 ?_
  refine zz_ltS (fun σ1 => ?_)
  refine zz_aload_n C dX12_soonest_5 rfl 0 rfl ?_
  refine zz_iload_n C dX12_soonest_6 rfl 1 rfl ?_
  refine zz_callV C (Cn := RX12) (b := zzad Z 36) (fun H hH => zz_recv C.2.2.2 (zzM_obj H hH) rfl) (As := [.int p0]) (rest := []) rfl (k_X12_isOne p0 σ1) (cwV 1 C.1.2.2.2.2 gX12_soonest_X12_isOne rfl rfl rfl (by decide +kernel) ⟨Nat.le_of_ble_eq_true rfl, Nat.le_of_ble_eq_true rfl⟩) rfl (Nat.le_of_ble_eq_true rfl) ⟨Nat.zero_le _, Nat.zero_le _⟩ dX12_soonest_7 (zz_kI rfl rfl (fun r2 σ3 => ?_))
  refine zz_if_eq (tgt := 23) C dX12_soonest_10 (by decide) (fun h4 => ?_) (fun h4 => ?_)
  · refine zz_iconst (v := -1) C dX12_soonest_23 (by decide) ?_
    exact zz_iret C rfl rfl (fun _ h9 => h9) (Nat.zero_le _) (Nat.zero_le _) dX12_soonest_24
  · refine zz_iload_n C dX12_soonest_13 rfl 2 rfl ?_
    refine zz_i2l C dX12_soonest_14 ?_
    refine zz_lconst (v := 0) C dX12_soonest_15 (by decide) ?_
    refine zz_lconst (v := 1) C dX12_soonest_16 (by decide) ?_
    refine zz_callS (As := [.long (Int32.toInt64 p1), .long (0 : Int64), .long (1 : Int64)]) (rest := []) C rfl (k_X12_in (Int32.toInt64 p1) (0 : Int64) (1 : Int64) σ3) (va_cwS 3 C.1.2.2.2.2 gX12_soonest_X12_in rfl rfl rfl (by decide +kernel) ⟨Nat.le_of_ble_eq_true rfl, Nat.le_of_ble_eq_true rfl⟩) rfl (Nat.le_of_ble_eq_true rfl) ⟨Nat.zero_le _, Nat.zero_le _⟩ dX12_soonest_17 (zz_kI rfl rfl (fun r5 σ6 => ?_))
    refine zz_if_ne (tgt := 25) C dX12_soonest_20 (by decide) (fun h7 => ?_) (fun h7 => ?_)
    · refine zz_bipush (v := 9) C dX12_soonest_25 (by decide) ?_
      refine zz_aload_n C dX12_soonest_27 rfl 0 rfl ?_
      refine zz_get C zzM_obj (fun _ h9 => List.mem_cons_of_mem _ (List.mem_append_right _ (h9))) rfl 3 (by decide) (List.mem_of_getElem? (i := 2) rfl) (Or.inl rfl) rfl dX12_soonest_28 ?_
      refine zz_iload_n C dX12_soonest_31 rfl 1 rfl ?_
      refine zz_gd (fun h8 => ?_)
      refine zz_iald C (zzM_arr (by decide)) h8 dX12_soonest_32 ?_
      refine zz_isub C dX12_soonest_33 ?_
      refine zz_istoreX_n (locf := fun x9 => [(3, .int x9), (0, .ref (zzad Z 36)), (1, .int p0), (2, .int p1)]) C dX12_soonest_34 rfl (by decide) (fun _ => rfl) (fun x9 => ?_)
      refine zz_iconst (v := 0) C dX12_soonest_35 (by decide) ?_
      refine zz_istore (loc' := [(4, .int (0 : Int32)), (3, .int x9), (0, .ref (zzad Z 36)), (1, .int p0), (2, .int p1)]) C dX12_soonest_36 (by decide) rfl ?_
      refine zz_bipush (v := -4) C dX12_soonest_38 (by decide) ?_
      refine zz_istore (loc' := [(5, .int (-4 : Int32)), (4, .int (0 : Int32)), (3, .int x9), (0, .ref (zzad Z 36)), (1, .int p0), (2, .int p1)]) C dX12_soonest_40 (by decide) rfl ?_
      refine zz_iload_n C dX12_soonest_42 rfl 2 rfl ?_
      refine zz_if_le (tgt := 50) C dX12_soonest_43 (by decide) (fun h10 => ?_) (fun h10 => ?_)
      · refine zz_iconst (v := 0) C dX12_soonest_50 (by decide) ?_
        refine zz_sub (loc' := [(0, .ref (zzad Z 36)), (1, .int p0), (2, .int p1), (3, .int x9), (4, .int (0 : Int32)), (5, .int (-4 : Int32))]) [3, 4, 5, 2, 1, 0] rfl ?_
        exact w_X12_soonest_51 C p0 p1 x9 (0 : Int32) (-4 : Int32) (0 : Int32) σ6
      · refine zz_iconst (v := 1) C dX12_soonest_46 (by decide) ?_
        refine zz_goto (tgt := 51) C dX12_soonest_47 (by decide) ?_
        refine zz_sub (loc' := [(0, .ref (zzad Z 36)), (1, .int p0), (2, .int p1), (3, .int x9), (4, .int (0 : Int32)), (5, .int (-4 : Int32))]) [3, 4, 5, 2, 1, 0] rfl ?_
        exact w_X12_soonest_51 C p0 p1 x9 (0 : Int32) (-4 : Int32) (1 : Int32) σ6
    · refine zz_iconst (v := -1) C dX12_soonest_23 (by decide) ?_
      exact zz_iret C rfl rfl (fun _ h9 => h9) (Nat.zero_le _) (Nat.zero_le _) dX12_soonest_24
set_option maxHeartbeats 4000000 in
set_option maxRecDepth 100000 in
theorem k_X12_soonest {l : Launch} {Z : zzG} {base : Nat} {PL : Nat → Option (Nat × Int32)} {mm : zzS} (p0 : Int32)  (p1 : Int32)  (σ : zzS) : zzCT l yX12_soonest wsX12_soonest rX12_soonest (zzA base) Z (zzM Z base PL mm) (zzM Z base PL mm) zzRI [.ref (zzad Z 36), .int p0, .int p1] (f_X12_soonest p0 p1 σ) σ :=
  zzCT_of (cc := cX12_soonest) (nL := 10) (ret := (some .int)) (by decide) rfl (Nat.le_of_ble_eq_true rfl) [(0, .ref (zzad Z 36)), (1, .int p0), (2, .int p1)] rfl (fun p e s m args below meth c C => w_X12_soonest_e C p0 p1 σ)
abbrev rX12_hide : Room := { frames := 2, cells := 0, slots := 0, locals := 46 }

set_option maxHeartbeats 4000000 in
set_option maxRecDepth 100000 in
theorem w_X12_hide_59 {l : Launch} {Z : zzG} {base : Nat} {PL : Nat → Option (Nat × Int32)} {mm : zzS} {p : Program} {e : Env} {s : State} {m : MethodId} {args : Array Value} {below : List Frame} {meth : Method} {c : Code} (C : zzCx p m meth c s args cX12_hide 5 wsX12_hide RX12 (some .int) Z) (p0 : Int32)  (k19 : Int32 → Int32 → zzS → Option (Int32 × zzS)) (hk19 : ∀ (l2 : Int32)  (l3 : Int32)  (σ : zzS), zzGO p l e rX12_hide s m args below meth c 5 (zzA base) (zzM Z base PL mm) (zzM Z base PL mm) zzRI rX12_hide.cells rX12_hide.slots (k19 l2 l3 σ) σ 0 0 19 [(0, .ref (zzad Z 36)), (1, .int p0), (2, .int l2), (3, .int l3)] []) (l2 : Int32)  (l3 : Int32)  (σ : zzS) : zzGO p l e rX12_hide s m args below meth c 5 (zzA base) (zzM Z base PL mm) (zzM Z base PL mm) zzRI rX12_hide.cells rX12_hide.slots (f_X12_hide_59 k19 p0 l2 l3 σ) σ 0 0 59 [(0, .ref (zzad Z 36)), (1, .int p0), (2, .int l2), (3, .int l3)] [] := by
  unfold f_X12_hide_59
  refine zz_iincX (d := 1) (locf := fun x1 => [(3, .int x1), (0, .ref (zzad Z 36)), (1, .int p0), (2, .int l2)]) C dX12_hide_59 (k := 3) rfl (by decide) (by decide) (fun _ => rfl) (fun x1 => ?_)
  refine zz_goto (tgt := 19) C dX12_hide_62 (by decide) ?_
  refine zz_sub (loc' := [(0, .ref (zzad Z 36)), (1, .int p0), (2, .int l2), (3, .int x1)]) [1, 2, 3, 0] rfl ?_
  exact hk19 l2 x1 σ
set_option maxHeartbeats 4000000 in
set_option maxRecDepth 100000 in
theorem w_X12_hide_19b {l : Launch} {Z : zzG} {base : Nat} {PL : Nat → Option (Nat × Int32)} {mm : zzS} {p : Program} {e : Env} {s : State} {m : MethodId} {args : Array Value} {below : List Frame} {meth : Method} {c : Code} (C : zzCx p m meth c s args cX12_hide 5 wsX12_hide RX12 (some .int) Z) (p0 : Int32)   (k19 : Int32 → Int32 → zzS → Option (Int32 × zzS)) (hk19 : ∀ (l2 : Int32)  (l3 : Int32)  (σ : zzS), zzGO p l e rX12_hide s m args below meth c 5 (zzA base) (zzM Z base PL mm) (zzM Z base PL mm) zzRI rX12_hide.cells rX12_hide.slots (k19 l2 l3 σ) σ 0 0 19 [(0, .ref (zzad Z 36)), (1, .int p0), (2, .int l2), (3, .int l3)] []) (l2 : Int32)  (l3 : Int32)  (σ : zzS) : zzGO p l e rX12_hide s m args below meth c 5 (zzA base) (zzM Z base PL mm) (zzM Z base PL mm) zzRI rX12_hide.cells rX12_hide.slots (f_X12_hide_19b k19 p0 l2 l3 σ) σ 0 0 19 [(0, .ref (zzad Z 36)), (1, .int p0), (2, .int l2), (3, .int l3)] [] := by
  unfold f_X12_hide_19b
  refine zz_iload_n C dX12_hide_19 rfl 3 rfl ?_
  refine zz_aload_n C dX12_hide_20 rfl 0 rfl ?_
  refine zz_get C zzM_obj (fun _ h9 => List.mem_cons_of_mem _ (List.mem_append_right _ (h9))) rfl 0 (by decide) (List.mem_of_getElem? (i := 2) rfl) (Or.inl rfl) rfl dX12_hide_21 ?_
  refine zz_icmp_ge (tgt := 65) C dX12_hide_24 (by decide) (fun h1 => ?_) (fun h1 => ?_)
  · refine zz_iload_n C dX12_hide_65 rfl 2 rfl ?_
    exact zz_iret C rfl rfl (fun _ h9 => h9) (Nat.zero_le _) (Nat.zero_le _) dX12_hide_66
  · refine zz_aload_n C dX12_hide_27 rfl 0 rfl ?_
    refine zz_iload_n C dX12_hide_28 rfl 3 rfl ?_
    refine zz_iload_n C dX12_hide_29 rfl 1 rfl ?_
    refine zz_callV C (Cn := RX12) (b := zzad Z 36) (fun H hH => zz_recv C.2.2.2 (zzM_obj H hH) rfl) (As := [.int l3, .int p0]) (rest := []) rfl (k_X12_mayTurn l3 p0 σ) (cwV 2 C.1.2.2.2.2 gX12_hide_X12_mayTurn rfl rfl rfl (by decide +kernel) ⟨Nat.le_of_ble_eq_true rfl, Nat.le_of_ble_eq_true rfl⟩) rfl (Nat.le_of_ble_eq_true rfl) ⟨Nat.zero_le _, Nat.zero_le _⟩ dX12_hide_30 (zz_kI rfl rfl (fun r2 σ3 => ?_))
    refine zz_if_eq (tgt := 59) C dX12_hide_33 (by decide) (fun h4 => ?_) (fun h4 => ?_)
    · refine zz_sub (loc' := [(0, .ref (zzad Z 36)), (1, .int p0), (2, .int l2), (3, .int l3)]) [0, 1, 2, 3] rfl ?_
      exact w_X12_hide_59 C p0 k19 hk19 l2 l3 σ3
    · refine zz_aload_n C dX12_hide_36 rfl 0 rfl ?_
      refine zz_iload_n C dX12_hide_37 rfl 3 rfl ?_
      refine zz_iload_n C dX12_hide_38 rfl 1 rfl ?_
      refine zz_callV C (Cn := RX12) (b := zzad Z 36) (fun H hH => zz_recv C.2.2.2 (zzM_obj H hH) rfl) (As := [.int l3, .int p0]) (rest := []) rfl (k_X12_lastsFor l3 p0 σ3) (cwV 2 C.1.2.2.2.2 gX12_hide_X12_lastsFor rfl rfl rfl (by decide +kernel) ⟨Nat.le_of_ble_eq_true rfl, Nat.le_of_ble_eq_true rfl⟩) rfl (Nat.le_of_ble_eq_true rfl) ⟨Nat.zero_le _, Nat.zero_le _⟩ dX12_hide_39 (zz_kI rfl rfl (fun r5 σ6 => ?_))
      refine zz_istore (loc' := [(4, .int r5), (0, .ref (zzad Z 36)), (1, .int p0), (2, .int l2), (3, .int l3)]) C dX12_hide_42 (by decide) rfl ?_
      refine zz_iload C dX12_hide_44 0 rfl ?_
      refine zz_bipush (v := 99) C dX12_hide_46 (by decide) ?_
      refine zz_icmp_ne (tgt := 54) C dX12_hide_48 (by decide) (fun h7 => ?_) (fun h7 => ?_)
      · refine zz_iload_n C dX12_hide_54 rfl 3 rfl ?_
        refine zz_iload C dX12_hide_55 0 rfl ?_
        refine zz_iadd C dX12_hide_57 ?_
        refine zz_istoreX_n (locf := fun x8 => [(2, .int x8), (4, .int r5), (0, .ref (zzad Z 36)), (1, .int p0), (3, .int l3)]) C dX12_hide_58 rfl (by decide) (fun _ => rfl) (fun x8 => ?_)
        refine zz_sub (loc' := [(0, .ref (zzad Z 36)), (1, .int p0), (2, .int x8), (3, .int l3)]) [2, 3, 0, 4] rfl ?_
        exact w_X12_hide_59 C p0 k19 hk19 x8 l3 σ6
      · refine zz_bipush (v := -4) C dX12_hide_51 (by decide) ?_
        exact zz_iret C rfl rfl (fun _ h9 => h9) (Nat.zero_le _) (Nat.zero_le _) dX12_hide_53
set_option maxHeartbeats 4000000 in
set_option maxRecDepth 100000 in
theorem w_X12_hide_19 {l : Launch} {Z : zzG} {base : Nat} {PL : Nat → Option (Nat × Int32)} {mm : zzS} {p : Program} {e : Env} {s : State} {m : MethodId} {args : Array Value} {below : List Frame} {meth : Method} {c : Code} (C : zzCx p m meth c s args cX12_hide 5 wsX12_hide RX12 (some .int) Z) (p0 : Int32)   (n : Nat) : ∀ (l2 : Int32)  (l3 : Int32)  (σ : zzS), zzGO p l e rX12_hide s m args below meth c 5 (zzA base) (zzM Z base PL mm) (zzM Z base PL mm) zzRI rX12_hide.cells rX12_hide.slots (f_X12_hide_19 p0 n l2 l3 σ) σ 0 0 19 [(0, .ref (zzad Z 36)), (1, .int p0), (2, .int l2), (3, .int l3)] [] := by
  induction n with
  | zero => exact fun _ _ _ r9 s9 h9 => by cases h9
  | succ n ih => exact w_X12_hide_19b C p0 _ ih
set_option maxHeartbeats 4000000 in
set_option maxRecDepth 100000 in
theorem w_X12_hide_e {l : Launch} {Z : zzG} {base : Nat} {PL : Nat → Option (Nat × Int32)} {mm : zzS} {p : Program} {e : Env} {s : State} {m : MethodId} {args : Array Value} {below : List Frame} {meth : Method} {c : Code} (C : zzCx p m meth c s args cX12_hide 5 wsX12_hide RX12 (some .int) Z) (p0 : Int32)  (σ : zzS) : zzGO p l e rX12_hide s m args below meth c 5 (zzA base) (zzM Z base PL mm) (zzM Z base PL mm) zzRI rX12_hide.cells rX12_hide.slots (f_X12_hide p0 σ) σ 0 0 0 [(0, .ref (zzad Z 36)), (1, .int p0)] [] := by
  unfold f_X12_hide
  refine zz_aload_n C dX12_hide_0 rfl 0 rfl ?_
  refine zz_iconst (v := 0) C dX12_hide_1 (by decide) ?_
  refine zz_put (ty := .int) C zzM_obj (fun _ h9 => List.mem_cons_of_mem _ (List.mem_append_right _ (h9))) rfl 13 (by decide) (List.mem_of_getElem? (i := 1) rfl) rfl tyX12_ok nmX12 rfl (by decide +kernel) rfl rfl (Nat.le_of_ble_eq_true rfl) (zzM_uobj (by decide)) (zzA_M (by decide)) dX12_hide_2 ?_
  refine zz_ltS (fun σ1 => ?_)
  refine zz_aload_n C dX12_hide_5 rfl 0 rfl ?_
  refine zz_iload_n C dX12_hide_6 rfl 1 rfl ?_
  refine zz_callV C (Cn := RX12) (b := zzad Z 36) (fun H hH => zz_recv C.2.2.2 (zzM_obj H hH) rfl) (As := [.int p0]) (rest := []) rfl (k_X12_isOne p0 σ1) (cwV 1 C.1.2.2.2.2 gX12_hide_X12_isOne rfl rfl rfl (by decide +kernel) ⟨Nat.le_of_ble_eq_true rfl, Nat.le_of_ble_eq_true rfl⟩) rfl (Nat.le_of_ble_eq_true rfl) ⟨Nat.zero_le _, Nat.zero_le _⟩ dX12_hide_7 (zz_kI rfl rfl (fun r2 σ3 => ?_))
  refine zz_if_ne (tgt := 15) C dX12_hide_10 (by decide) (fun h4 => ?_) (fun h4 => ?_)
  · refine zz_iconst (v := 0) C dX12_hide_15 (by decide) ?_
    refine zz_istore_n (loc' := [(2, .int (0 : Int32)), (0, .ref (zzad Z 36)), (1, .int p0)]) C dX12_hide_16 rfl (by decide) rfl ?_
    refine zz_iconst (v := 0) C dX12_hide_17 (by decide) ?_
    refine zz_istore_n (loc' := [(3, .int (0 : Int32)), (2, .int (0 : Int32)), (0, .ref (zzad Z 36)), (1, .int p0)]) C dX12_hide_18 rfl (by decide) rfl ?_
    refine zz_sub (loc' := [(0, .ref (zzad Z 36)), (1, .int p0), (2, .int (0 : Int32)), (3, .int (0 : Int32))]) [2, 3, 1, 0] rfl ?_
    exact w_X12_hide_19 C p0 200 (0 : Int32) (0 : Int32) σ3
  · refine zz_iconst (v := -1) C dX12_hide_13 (by decide) ?_
    exact zz_iret C rfl rfl (fun _ h9 => h9) (Nat.zero_le _) (Nat.zero_le _) dX12_hide_14
set_option maxHeartbeats 4000000 in
set_option maxRecDepth 100000 in
theorem k_X12_hide {l : Launch} {Z : zzG} {base : Nat} {PL : Nat → Option (Nat × Int32)} {mm : zzS} (p0 : Int32)  (σ : zzS) : zzCT l yX12_hide wsX12_hide rX12_hide (zzA base) Z (zzM Z base PL mm) (zzM Z base PL mm) zzRI [.ref (zzad Z 36), .int p0] (f_X12_hide p0 σ) σ :=
  zzCT_of (cc := cX12_hide) (nL := 5) (ret := (some .int)) (by decide) rfl (Nat.le_of_ble_eq_true rfl) [(0, .ref (zzad Z 36)), (1, .int p0)] rfl (fun p e s m args below meth c C => w_X12_hide_e C p0 σ)
abbrev rX12_keeps : Room := { frames := 3, cells := 0, slots := 0, locals := 68 }

set_option maxHeartbeats 4000000 in
set_option maxRecDepth 100000 in
theorem w_X12_keeps_54b {l : Launch} {Z : zzG} {base : Nat} {PL : Nat → Option (Nat × Int32)} {mm : zzS} {p : Program} {e : Env} {s : State} {m : MethodId} {args : Array Value} {below : List Frame} {meth : Method} {c : Code} (C : zzCx p m meth c s args cX12_keeps 5 wsX12_keeps RX12 (some .int) Z) (p0 : Int32)  (p1 : Int32)   (k54 : Int32 → Int32 → zzS → Option (Int32 × zzS)) (hk54 : ∀ (l3 : Int32)  (l4 : Int32)  (σ : zzS), zzGO p l e rX12_keeps s m args below meth c 5 (zzA base) (zzM Z base PL mm) (zzM Z base PL mm) zzRI rX12_keeps.cells rX12_keeps.slots (k54 l3 l4 σ) σ 0 0 54 [(0, .ref (zzad Z 36)), (1, .int p0), (3, .int l3), (4, .int l4)] []) (l3 : Int32)  (l4 : Int32)  (σ : zzS) : zzGO p l e rX12_keeps s m args below meth c 5 (zzA base) (zzM Z base PL mm) (zzM Z base PL mm) zzRI rX12_keeps.cells rX12_keeps.slots (f_X12_keeps_54b k54 p0 p1 l3 l4 σ) σ 0 0 54 [(0, .ref (zzad Z 36)), (1, .int p0), (3, .int l3), (4, .int l4)] [] := by
  unfold f_X12_keeps_54b
  refine zz_iload C dX12_keeps_54 3 rfl ?_
  refine zz_bipush (v := 99) C dX12_keeps_56 (by decide) ?_
  refine zz_icmp_ge (tgt := 94) C dX12_keeps_58 (by decide) (fun h1 => ?_) (fun h1 => ?_)
  · refine zz_iload C dX12_keeps_94 3 rfl ?_
    exact zz_iret C rfl rfl (fun _ h9 => h9) (Nat.zero_le _) (Nat.zero_le _) dX12_keeps_96
  · refine zz_iload_n C dX12_keeps_61 rfl 2 rfl ?_
    refine zz_aload_n C dX12_keeps_62 rfl 0 rfl ?_
    refine zz_iload_n C dX12_keeps_63 rfl 1 rfl ?_
    refine zz_callV C (Cn := RX12) (b := zzad Z 36) (fun H hH => zz_recv C.2.2.2 (zzM_obj H hH) rfl) (As := [.int p0]) (rest := [.int l3]) rfl (k_X12_bearsOf p0 σ) (cwV 1 C.1.2.2.2.2 gX12_keeps_X12_bearsOf rfl rfl rfl (by decide +kernel) ⟨Nat.le_of_ble_eq_true rfl, Nat.le_of_ble_eq_true rfl⟩) rfl (Nat.le_of_ble_eq_true rfl) ⟨Nat.zero_le _, Nat.zero_le _⟩ dX12_keeps_64 (zz_kI rfl rfl (fun r2 σ3 => ?_))
    refine zz_aload_n C dX12_keeps_67 rfl 0 rfl ?_
    refine zz_get C zzM_obj (fun _ h9 => List.mem_cons_of_mem _ (List.mem_append_right _ (h9))) rfl 5 (by decide) (List.mem_of_getElem? (i := 3) rfl) (Or.inl rfl) rfl dX12_keeps_68 ?_
    refine zz_iadd C dX12_keeps_71 ?_
    refine zz_icmp_gt (tgt := 94) C dX12_keeps_72 (by decide) (fun h4 => ?_) (fun h4 => ?_)
    · refine zz_iload C dX12_keeps_94 3 rfl ?_
      exact zz_iret C rfl rfl (fun _ h9 => h9) (Nat.zero_le _) (Nat.zero_le _) dX12_keeps_96
    · refine zz_bipush (v := 9) C dX12_keeps_75 (by decide) ?_
      refine zz_iload_n C dX12_keeps_77 rfl 2 rfl ?_
      refine zz_aload_n C dX12_keeps_78 rfl 0 rfl ?_
      refine zz_iload_n C dX12_keeps_79 rfl 1 rfl ?_
      refine zz_callV C (Cn := RX12) (b := zzad Z 36) (fun H hH => zz_recv C.2.2.2 (zzM_obj H hH) rfl) (As := [.int p0]) (rest := [.int l3, .int (9 : Int32)]) rfl (k_X12_growsOf p0 σ3) (cwV 1 C.1.2.2.2.2 gX12_keeps_X12_growsOf rfl rfl rfl (by decide +kernel) ⟨Nat.le_of_ble_eq_true rfl, Nat.le_of_ble_eq_true rfl⟩) rfl (Nat.le_of_ble_eq_true rfl) ⟨Nat.zero_le _, Nat.zero_le _⟩ dX12_keeps_80 (zz_kI rfl rfl (fun r5 σ6 => ?_))
      refine zz_iadd C dX12_keeps_83 ?_
      refine zz_callS (As := [.int (9 : Int32), .int (l3 + r5)]) (rest := []) C rfl (k_X12_lesser (9 : Int32) (l3 + r5) σ6) (va_cwS 2 C.1.2.2.2.2 gX12_keeps_X12_lesser rfl rfl rfl (by decide +kernel) ⟨Nat.le_of_ble_eq_true rfl, Nat.le_of_ble_eq_true rfl⟩) rfl (Nat.le_of_ble_eq_true rfl) ⟨Nat.zero_le _, Nat.zero_le _⟩ dX12_keeps_84 (zz_kI rfl rfl (fun r7 σ8 => ?_))
      refine zz_istore_n (loc' := [(3, .int r7), (0, .ref (zzad Z 36)), (1, .int p0), (4, .int l4)]) C dX12_keeps_87 rfl (by decide) rfl ?_
      refine zz_iincX (d := 1) (locf := fun x9 => [(4, .int x9), (3, .int r7), (0, .ref (zzad Z 36)), (1, .int p0)]) C dX12_keeps_88 (k := 3) rfl (by decide) (by decide) (fun _ => rfl) (fun x9 => ?_)
      refine zz_goto (tgt := 54) C dX12_keeps_91 (by decide) ?_
      refine zz_sub (loc' := [(0, .ref (zzad Z 36)), (1, .int p0), (3, .int r7), (4, .int x9)]) [2, 3, 1, 0] rfl ?_
      exact hk54 r7 x9 σ8
set_option maxHeartbeats 4000000 in
set_option maxRecDepth 100000 in
theorem w_X12_keeps_54 {l : Launch} {Z : zzG} {base : Nat} {PL : Nat → Option (Nat × Int32)} {mm : zzS} {p : Program} {e : Env} {s : State} {m : MethodId} {args : Array Value} {below : List Frame} {meth : Method} {c : Code} (C : zzCx p m meth c s args cX12_keeps 5 wsX12_keeps RX12 (some .int) Z) (p0 : Int32)  (p1 : Int32)   (n : Nat) : ∀ (l3 : Int32)  (l4 : Int32)  (σ : zzS), zzGO p l e rX12_keeps s m args below meth c 5 (zzA base) (zzM Z base PL mm) (zzM Z base PL mm) zzRI rX12_keeps.cells rX12_keeps.slots (f_X12_keeps_54 p0 p1 n l3 l4 σ) σ 0 0 54 [(0, .ref (zzad Z 36)), (1, .int p0), (3, .int l3), (4, .int l4)] [] := by
  induction n with
  | zero => exact fun _ _ _ r9 s9 h9 => by cases h9
  | succ n ih => exact w_X12_keeps_54b C p0 p1 _ ih
set_option maxHeartbeats 4000000 in
set_option maxRecDepth 100000 in
theorem w_X12_keeps_e {l : Launch} {Z : zzG} {base : Nat} {PL : Nat → Option (Nat × Int32)} {mm : zzS} {p : Program} {e : Env} {s : State} {m : MethodId} {args : Array Value} {below : List Frame} {meth : Method} {c : Code} (C : zzCx p m meth c s args cX12_keeps 5 wsX12_keeps RX12 (some .int) Z) (p0 : Int32)  (p1 : Int32)  (σ : zzS) : zzGO p l e rX12_keeps s m args below meth c 5 (zzA base) (zzM Z base PL mm) (zzM Z base PL mm) zzRI rX12_keeps.cells rX12_keeps.slots (f_X12_keeps p0 p1 σ) σ 0 0 0 [(0, .ref (zzad Z 36)), (1, .int p0), (2, .int p1)] [] := by
  unfold f_X12_keeps
  refine zz_aload_n C dX12_keeps_0 rfl 0 rfl ?_
  refine zz_iconst (v := 0) C dX12_keeps_1 (by decide) ?_
  refine zz_put (ty := .int) C zzM_obj (fun _ h9 => List.mem_cons_of_mem _ (List.mem_append_right _ (h9))) rfl 13 (by decide) (List.mem_of_getElem? (i := 1) rfl) rfl tyX12_ok nmX12 rfl (by decide +kernel) rfl rfl (Nat.le_of_ble_eq_true rfl) (zzM_uobj (by decide)) (zzA_M (by decide)) dX12_keeps_2 ?_
  refine zz_ltS (fun σ1 => ?_)
  refine zz_aload_n C dX12_keeps_5 rfl 0 rfl ?_
  refine zz_iload_n C dX12_keeps_6 rfl 1 rfl ?_
  refine zz_iload_n C dX12_keeps_7 rfl 2 rfl ?_
  refine zz_callV C (Cn := RX12) (b := zzad Z 36) (fun H hH => zz_recv C.2.2.2 (zzM_obj H hH) rfl) (As := [.int p0, .int p1]) (rest := []) rfl (k_X12_areTwo p0 p1 σ1) (cwV 2 C.1.2.2.2.2 gX12_keeps_X12_areTwo rfl rfl rfl (by decide +kernel) ⟨Nat.le_of_ble_eq_true rfl, Nat.le_of_ble_eq_true rfl⟩) rfl (Nat.le_of_ble_eq_true rfl) ⟨Nat.zero_le _, Nat.zero_le _⟩ dX12_keeps_8 (zz_kI rfl rfl (fun r2 σ3 => ?_))
  refine zz_if_ne (tgt := 16) C dX12_keeps_11 (by decide) (fun h4 => ?_) (fun h4 => ?_)
  · refine zz_aload_n C dX12_keeps_16 rfl 0 rfl ?_
    refine zz_iload_n C dX12_keeps_17 rfl 1 rfl ?_
    refine zz_iload_n C dX12_keeps_18 rfl 2 rfl ?_
    refine zz_callV C (Cn := RX12) (b := zzad Z 36) (fun H hH => zz_recv C.2.2.2 (zzM_obj H hH) rfl) (As := [.int p0, .int p1]) (rest := []) rfl (k_X12_mayTurn p0 p1 σ3) (cwV 2 C.1.2.2.2.2 gX12_keeps_X12_mayTurn rfl rfl rfl (by decide +kernel) ⟨Nat.le_of_ble_eq_true rfl, Nat.le_of_ble_eq_true rfl⟩) rfl (Nat.le_of_ble_eq_true rfl) ⟨Nat.zero_le _, Nat.zero_le _⟩ dX12_keeps_19 (zz_kI rfl rfl (fun r5 σ6 => ?_))
    refine zz_if_ne (tgt := 28) C dX12_keeps_22 (by decide) (fun h7 => ?_) (fun h7 => ?_)
    · refine zz_bipush (v := 9) C dX12_keeps_28 (by decide) ?_
      refine zz_aload_n C dX12_keeps_30 rfl 0 rfl ?_
      refine zz_get C zzM_obj (fun _ h9 => List.mem_cons_of_mem _ (List.mem_append_right _ (h9))) rfl 4 (by decide) (List.mem_of_getElem? (i := 2) rfl) (Or.inl rfl) rfl dX12_keeps_31 ?_
      refine zz_bipush (v := 7) C dX12_keeps_34 (by decide) ?_
      refine zz_iload_n C dX12_keeps_36 rfl 1 rfl ?_
      refine zz_imul C dX12_keeps_37 ?_
      refine zz_iload_n C dX12_keeps_38 rfl 2 rfl ?_
      refine zz_iadd C dX12_keeps_39 ?_
      refine zz_gd (fun h8 => ?_)
      refine zz_iald C (zzM_arr (by decide)) h8 dX12_keeps_40 ?_
      refine zz_aload_n C dX12_keeps_41 rfl 0 rfl ?_
      refine zz_iload_n C dX12_keeps_42 rfl 1 rfl ?_
      refine zz_callV C (Cn := RX12) (b := zzad Z 36) (fun H hH => zz_recv C.2.2.2 (zzM_obj H hH) rfl) (As := [.int p0]) (rest := [.int (zza σ6 40 (Int32.toNatClampNeg (((7 : Int32) * p0) + p1))), .int (9 : Int32)]) rfl (k_X12_growsOf p0 σ6) (cwV 1 C.1.2.2.2.2 gX12_keeps_X12_growsOf rfl rfl rfl (by decide +kernel) ⟨Nat.le_of_ble_eq_true rfl, Nat.le_of_ble_eq_true rfl⟩) rfl (Nat.le_of_ble_eq_true rfl) ⟨Nat.zero_le _, Nat.zero_le _⟩ dX12_keeps_43 (zz_kI rfl rfl (fun r9 σ10 => ?_))
      refine zz_iadd C dX12_keeps_46 ?_
      refine zz_callS (As := [.int (9 : Int32), .int ((zza σ6 40 (Int32.toNatClampNeg (((7 : Int32) * p0) + p1))) + r9)]) (rest := []) C rfl (k_X12_lesser (9 : Int32) ((zza σ6 40 (Int32.toNatClampNeg (((7 : Int32) * p0) + p1))) + r9) σ10) (va_cwS 2 C.1.2.2.2.2 gX12_keeps_X12_lesser rfl rfl rfl (by decide +kernel) ⟨Nat.le_of_ble_eq_true rfl, Nat.le_of_ble_eq_true rfl⟩) rfl (Nat.le_of_ble_eq_true rfl) ⟨Nat.zero_le _, Nat.zero_le _⟩ dX12_keeps_47 (zz_kI rfl rfl (fun r11 σ12 => ?_))
      refine zz_istore_n (loc' := [(3, .int r11), (0, .ref (zzad Z 36)), (1, .int p0), (2, .int p1)]) C dX12_keeps_50 rfl (by decide) rfl ?_
      refine zz_iconst (v := 0) C dX12_keeps_51 (by decide) ?_
      refine zz_istore (loc' := [(4, .int (0 : Int32)), (3, .int r11), (0, .ref (zzad Z 36)), (1, .int p0), (2, .int p1)]) C dX12_keeps_52 (by decide) rfl ?_
      refine zz_sub (loc' := [(0, .ref (zzad Z 36)), (1, .int p0), (3, .int r11), (4, .int (0 : Int32))]) [2, 3, 1, 0] rfl ?_
      exact w_X12_keeps_54 C p0 p1 200 r11 (0 : Int32) σ12
    · refine zz_bipush (v := -3) C dX12_keeps_25 (by decide) ?_
      exact zz_iret C rfl rfl (fun _ h9 => h9) (Nat.zero_le _) (Nat.zero_le _) dX12_keeps_27
  · refine zz_iconst (v := -1) C dX12_keeps_14 (by decide) ?_
    exact zz_iret C rfl rfl (fun _ h9 => h9) (Nat.zero_le _) (Nat.zero_le _) dX12_keeps_15
set_option maxHeartbeats 4000000 in
set_option maxRecDepth 100000 in
theorem k_X12_keeps {l : Launch} {Z : zzG} {base : Nat} {PL : Nat → Option (Nat × Int32)} {mm : zzS} (p0 : Int32)  (p1 : Int32)  (σ : zzS) : zzCT l yX12_keeps wsX12_keeps rX12_keeps (zzA base) Z (zzM Z base PL mm) (zzM Z base PL mm) zzRI [.ref (zzad Z 36), .int p0, .int p1] (f_X12_keeps p0 p1 σ) σ :=
  zzCT_of (cc := cX12_keeps) (nL := 5) (ret := (some .int)) (by decide) rfl (Nat.le_of_ble_eq_true rfl) [(0, .ref (zzad Z 36)), (1, .int p0), (2, .int p1)] rfl (fun p e s m args below meth c C => w_X12_keeps_e C p0 p1 σ)
abbrev rX12_enough : Room := { frames := 4, cells := 0, slots := 0, locals := 93 }

set_option maxHeartbeats 4000000 in
set_option maxRecDepth 100000 in
theorem w_X12_enough_88 {l : Launch} {Z : zzG} {base : Nat} {PL : Nat → Option (Nat × Int32)} {mm : zzS} {p : Program} {e : Env} {s : State} {m : MethodId} {args : Array Value} {below : List Frame} {meth : Method} {c : Code} (C : zzCx p m meth c s args cX12_enough 6 wsX12_enough RX12 (some .int) Z) (p0 : Int32)  (k29 : Int32 → Int32 → Int32 → zzS → Option (Int32 × zzS)) (hk29 : ∀ (l2 : Int32)  (l3 : Int32)  (l4 : Int32)  (σ : zzS), zzGO p l e rX12_enough s m args below meth c 6 (zzA base) (zzM Z base PL mm) (zzM Z base PL mm) zzRI rX12_enough.cells rX12_enough.slots (k29 l2 l3 l4 σ) σ 0 0 29 [(0, .ref (zzad Z 36)), (1, .int p0), (2, .int l2), (3, .int l3), (4, .int l4)] []) (l2 : Int32)  (l4 : Int32)  (s0 : Int32)  (σ : zzS) : zzGO p l e rX12_enough s m args below meth c 6 (zzA base) (zzM Z base PL mm) (zzM Z base PL mm) zzRI rX12_enough.cells rX12_enough.slots (f_X12_enough_88 k29 p0 l2 l4 s0 σ) σ 0 0 88 [(0, .ref (zzad Z 36)), (1, .int p0), (2, .int l2), (4, .int l4)] [.int s0] := by
  unfold f_X12_enough_88
  refine zz_istore_n (loc' := [(3, .int s0), (0, .ref (zzad Z 36)), (1, .int p0), (2, .int l2), (4, .int l4)]) C dX12_enough_88 rfl (by decide) rfl ?_
  refine zz_iincX (d := -1) (locf := fun x1 => [(4, .int x1), (3, .int s0), (0, .ref (zzad Z 36)), (1, .int p0), (2, .int l2)]) C dX12_enough_89 (k := 4) rfl (by decide) (by decide) (fun _ => rfl) (fun x1 => ?_)
  refine zz_goto (tgt := 29) C dX12_enough_92 (by decide) ?_
  refine zz_sub (loc' := [(0, .ref (zzad Z 36)), (1, .int p0), (2, .int l2), (3, .int s0), (4, .int x1)]) [2, 3, 4, 1, 0] rfl ?_
  exact hk29 l2 s0 x1 σ
set_option maxHeartbeats 4000000 in
set_option maxRecDepth 100000 in
theorem w_X12_enough_75 {l : Launch} {Z : zzG} {base : Nat} {PL : Nat → Option (Nat × Int32)} {mm : zzS} {p : Program} {e : Env} {s : State} {m : MethodId} {args : Array Value} {below : List Frame} {meth : Method} {c : Code} (C : zzCx p m meth c s args cX12_enough 6 wsX12_enough RX12 (some .int) Z) (p0 : Int32)  (k29 : Int32 → Int32 → Int32 → zzS → Option (Int32 × zzS)) (hk29 : ∀ (l2 : Int32)  (l3 : Int32)  (l4 : Int32)  (σ : zzS), zzGO p l e rX12_enough s m args below meth c 6 (zzA base) (zzM Z base PL mm) (zzM Z base PL mm) zzRI rX12_enough.cells rX12_enough.slots (k29 l2 l3 l4 σ) σ 0 0 29 [(0, .ref (zzad Z 36)), (1, .int p0), (2, .int l2), (3, .int l3), (4, .int l4)] []) (l2 : Int32)  (l3 : Int32)  (l4 : Int32)  (s0 : Int32)  (σ : zzS) : zzGO p l e rX12_enough s m args below meth c 6 (zzA base) (zzM Z base PL mm) (zzM Z base PL mm) zzRI rX12_enough.cells rX12_enough.slots (f_X12_enough_75 k29 p0 l2 l3 l4 s0 σ) σ 0 0 75 [(0, .ref (zzad Z 36)), (1, .int p0), (2, .int l2), (3, .int l3), (4, .int l4)] [.int s0] := by
  unfold f_X12_enough_75
  refine zz_istore (loc' := [(5, .int s0), (0, .ref (zzad Z 36)), (1, .int p0), (2, .int l2), (3, .int l3), (4, .int l4)]) C dX12_enough_75 (by decide) rfl ?_
  refine zz_iload C dX12_enough_77 0 rfl ?_
  refine zz_if_eq (tgt := 87) C dX12_enough_79 (by decide) (fun h1 => ?_) (fun h1 => ?_)
  · refine zz_iload_n C dX12_enough_87 rfl 4 rfl ?_
    refine zz_sub (loc' := [(0, .ref (zzad Z 36)), (1, .int p0), (2, .int l2), (4, .int l4)]) [1, 2, 3, 5] rfl ?_
    exact w_X12_enough_88 C p0 k29 hk29 l2 l4 l3 σ
  · refine zz_iload C dX12_enough_82 5 rfl ?_
    refine zz_goto (tgt := 88) C dX12_enough_84 (by decide) ?_
    refine zz_sub (loc' := [(0, .ref (zzad Z 36)), (1, .int p0), (2, .int l2), (4, .int l4)]) [1, 2, 3, 5] rfl ?_
    exact w_X12_enough_88 C p0 k29 hk29 l2 l4 l4 σ
set_option maxHeartbeats 4000000 in
set_option maxRecDepth 100000 in
theorem w_X12_enough_29b {l : Launch} {Z : zzG} {base : Nat} {PL : Nat → Option (Nat × Int32)} {mm : zzS} {p : Program} {e : Env} {s : State} {m : MethodId} {args : Array Value} {below : List Frame} {meth : Method} {c : Code} (C : zzCx p m meth c s args cX12_enough 6 wsX12_enough RX12 (some .int) Z) (p0 : Int32)   (k29 : Int32 → Int32 → Int32 → zzS → Option (Int32 × zzS)) (hk29 : ∀ (l2 : Int32)  (l3 : Int32)  (l4 : Int32)  (σ : zzS), zzGO p l e rX12_enough s m args below meth c 6 (zzA base) (zzM Z base PL mm) (zzM Z base PL mm) zzRI rX12_enough.cells rX12_enough.slots (k29 l2 l3 l4 σ) σ 0 0 29 [(0, .ref (zzad Z 36)), (1, .int p0), (2, .int l2), (3, .int l3), (4, .int l4)] []) (l2 : Int32)  (l3 : Int32)  (l4 : Int32)  (σ : zzS) : zzGO p l e rX12_enough s m args below meth c 6 (zzA base) (zzM Z base PL mm) (zzM Z base PL mm) zzRI rX12_enough.cells rX12_enough.slots (f_X12_enough_29b k29 p0 l2 l3 l4 σ) σ 0 0 29 [(0, .ref (zzad Z 36)), (1, .int p0), (2, .int l2), (3, .int l3), (4, .int l4)] [] := by
  unfold f_X12_enough_29b
  refine zz_iload C dX12_enough_29 4 rfl ?_
  refine zz_if_lt (tgt := 95) C dX12_enough_31 (by decide) (fun h1 => ?_) (fun h1 => ?_)
  · refine zz_aload_n C dX12_enough_95 rfl 0 rfl ?_
    refine zz_iload_n C dX12_enough_96 rfl 2 rfl ?_
    refine zz_put (ty := .int) C zzM_obj (fun _ h9 => List.mem_cons_of_mem _ (List.mem_append_right _ (h9))) rfl 5 (by decide) (List.mem_of_getElem? (i := 2) rfl) rfl tyX12_ok nmX12 rfl (by decide +kernel) rfl rfl (Nat.le_of_ble_eq_true rfl) (zzM_uobj (by decide)) (zzA_M (by decide)) dX12_enough_97 ?_
    refine zz_ltS (fun σ2 => ?_)
    refine zz_iload_n C dX12_enough_100 rfl 3 rfl ?_
    exact zz_iret C rfl rfl (fun _ h9 => h9) (Nat.zero_le _) (Nat.zero_le _) dX12_enough_101
  · refine zz_aload_n C dX12_enough_34 rfl 0 rfl ?_
    refine zz_iload C dX12_enough_35 4 rfl ?_
    refine zz_put (ty := .int) C zzM_obj (fun _ h9 => List.mem_cons_of_mem _ (List.mem_append_right _ (h9))) rfl 5 (by decide) (List.mem_of_getElem? (i := 2) rfl) rfl tyX12_ok nmX12 rfl (by decide +kernel) rfl rfl (Nat.le_of_ble_eq_true rfl) (zzM_uobj (by decide)) (zzA_M (by decide)) dX12_enough_37 ?_
    refine zz_ltS (fun σ3 => ?_)
    refine zz_iload_n C dX12_enough_40 rfl 1 rfl ?_
    refine zz_if_ne (tgt := 63) C dX12_enough_41 (by decide) (fun h4 => ?_) (fun h4 => ?_)
    · refine zz_aload_n C dX12_enough_63 rfl 0 rfl ?_
      refine zz_callV C (Cn := RX12) (b := zzad Z 36) (fun H hH => zz_recv C.2.2.2 (zzM_obj H hH) rfl) (As := []) (rest := []) rfl (k_X12_nobodyBits σ3) (cwV 0 C.1.2.2.2.2 gX12_enough_X12_nobodyBits rfl rfl rfl (by decide +kernel) ⟨Nat.le_of_ble_eq_true rfl, Nat.le_of_ble_eq_true rfl⟩) rfl (Nat.le_of_ble_eq_true rfl) ⟨Nat.zero_le _, Nat.zero_le _⟩ dX12_enough_64 (zz_kI rfl rfl (fun r5 σ6 => ?_))
      refine zz_if_ne (tgt := 74) C dX12_enough_67 (by decide) (fun h7 => ?_) (fun h7 => ?_)
      · refine zz_iconst (v := 0) C dX12_enough_74 (by decide) ?_
        refine zz_sub (loc' := [(0, .ref (zzad Z 36)), (1, .int p0), (2, .int l2), (3, .int l3), (4, .int l4)]) [0, 1, 2, 3, 4] rfl ?_
        exact w_X12_enough_75 C p0 k29 hk29 l2 l3 l4 (0 : Int32) σ6
      · refine zz_iconst (v := 1) C dX12_enough_70 (by decide) ?_
        refine zz_goto (tgt := 75) C dX12_enough_71 (by decide) ?_
        refine zz_sub (loc' := [(0, .ref (zzad Z 36)), (1, .int p0), (2, .int l2), (3, .int l3), (4, .int l4)]) [0, 1, 2, 3, 4] rfl ?_
        exact w_X12_enough_75 C p0 k29 hk29 l2 l3 l4 (1 : Int32) σ6
    · refine zz_aload_n C dX12_enough_44 rfl 0 rfl ?_
      refine zz_callV C (Cn := RX12) (b := zzad Z 36) (fun H hH => zz_recv C.2.2.2 (zzM_obj H hH) rfl) (As := []) (rest := []) rfl (k_X12_layTold σ3) (cwV 0 C.1.2.2.2.2 gX12_enough_X12_layTold rfl rfl rfl (by decide +kernel) ⟨Nat.le_of_ble_eq_true rfl, Nat.le_of_ble_eq_true rfl⟩) rfl (Nat.le_of_ble_eq_true rfl) ⟨Nat.zero_le _, Nat.zero_le _⟩ dX12_enough_45 (zz_kI rfl rfl (fun r8 σ9 => ?_))
      refine zz_aload_n C dX12_enough_48 rfl 0 rfl ?_
      refine zz_get C zzM_obj (fun _ h9 => List.mem_cons_of_mem _ (List.mem_append_right _ (h9))) rfl 0 (by decide) (List.mem_of_getElem? (i := 3) rfl) (Or.inl rfl) rfl dX12_enough_49 ?_
      refine zz_icmp_ne (tgt := 59) C dX12_enough_52 (by decide) (fun h10 => ?_) (fun h10 => ?_)
      · refine zz_iconst (v := 0) C dX12_enough_59 (by decide) ?_
        refine zz_goto (tgt := 75) C dX12_enough_60 (by decide) ?_
        refine zz_sub (loc' := [(0, .ref (zzad Z 36)), (1, .int p0), (2, .int l2), (3, .int l3), (4, .int l4)]) [0, 1, 2, 3, 4] rfl ?_
        exact w_X12_enough_75 C p0 k29 hk29 l2 l3 l4 (0 : Int32) σ9
      · refine zz_iconst (v := 1) C dX12_enough_55 (by decide) ?_
        refine zz_goto (tgt := 75) C dX12_enough_56 (by decide) ?_
        refine zz_sub (loc' := [(0, .ref (zzad Z 36)), (1, .int p0), (2, .int l2), (3, .int l3), (4, .int l4)]) [0, 1, 2, 3, 4] rfl ?_
        exact w_X12_enough_75 C p0 k29 hk29 l2 l3 l4 (1 : Int32) σ9
set_option maxHeartbeats 4000000 in
set_option maxRecDepth 100000 in
theorem w_X12_enough_29 {l : Launch} {Z : zzG} {base : Nat} {PL : Nat → Option (Nat × Int32)} {mm : zzS} {p : Program} {e : Env} {s : State} {m : MethodId} {args : Array Value} {below : List Frame} {meth : Method} {c : Code} (C : zzCx p m meth c s args cX12_enough 6 wsX12_enough RX12 (some .int) Z) (p0 : Int32)   (n : Nat) : ∀ (l2 : Int32)  (l3 : Int32)  (l4 : Int32)  (σ : zzS), zzGO p l e rX12_enough s m args below meth c 6 (zzA base) (zzM Z base PL mm) (zzM Z base PL mm) zzRI rX12_enough.cells rX12_enough.slots (f_X12_enough_29 p0 n l2 l3 l4 σ) σ 0 0 29 [(0, .ref (zzad Z 36)), (1, .int p0), (2, .int l2), (3, .int l3), (4, .int l4)] [] := by
  induction n with
  | zero => exact fun _ _ _ _ r9 s9 h9 => by cases h9
  | succ n ih => exact w_X12_enough_29b C p0 _ ih
set_option maxHeartbeats 4000000 in
set_option maxRecDepth 100000 in
theorem w_X12_enough_e {l : Launch} {Z : zzG} {base : Nat} {PL : Nat → Option (Nat × Int32)} {mm : zzS} {p : Program} {e : Env} {s : State} {m : MethodId} {args : Array Value} {below : List Frame} {meth : Method} {c : Code} (C : zzCx p m meth c s args cX12_enough 6 wsX12_enough RX12 (some .int) Z) (p0 : Int32)  (σ : zzS) : zzGO p l e rX12_enough s m args below meth c 6 (zzA base) (zzM Z base PL mm) (zzM Z base PL mm) zzRI rX12_enough.cells rX12_enough.slots (f_X12_enough p0 σ) σ 0 0 0 [(0, .ref (zzad Z 36)), (1, .int p0)] [] := by
  unfold f_X12_enough
  refine zz_aload_n C dX12_enough_0 rfl 0 rfl ?_
  refine zz_iconst (v := 0) C dX12_enough_1 (by decide) ?_
  refine zz_put (ty := .int) C zzM_obj (fun _ h9 => List.mem_cons_of_mem _ (List.mem_append_right _ (h9))) rfl 13 (by decide) (List.mem_of_getElem? (i := 1) rfl) rfl tyX12_ok nmX12 rfl (by decide +kernel) rfl rfl (Nat.le_of_ble_eq_true rfl) (zzM_uobj (by decide)) (zzA_M (by decide)) dX12_enough_2 ?_
  refine zz_ltS (fun σ1 => ?_)
  refine zz_iload_n C dX12_enough_5 rfl 1 rfl ?_
  refine zz_i2l C dX12_enough_6 ?_
  refine zz_lconst (v := 0) C dX12_enough_7 (by decide) ?_
  refine zz_lconst (v := 1) C dX12_enough_8 (by decide) ?_
  refine zz_callS (As := [.long (Int32.toInt64 p0), .long (0 : Int64), .long (1 : Int64)]) (rest := []) C rfl (k_X12_in (Int32.toInt64 p0) (0 : Int64) (1 : Int64) σ1) (va_cwS 3 C.1.2.2.2.2 gX12_enough_X12_in rfl rfl rfl (by decide +kernel) ⟨Nat.le_of_ble_eq_true rfl, Nat.le_of_ble_eq_true rfl⟩) rfl (Nat.le_of_ble_eq_true rfl) ⟨Nat.zero_le _, Nat.zero_le _⟩ dX12_enough_9 (zz_kI rfl rfl (fun r2 σ3 => ?_))
  refine zz_if_ne (tgt := 17) C dX12_enough_12 (by decide) (fun h4 => ?_) (fun h4 => ?_)
  · refine zz_aload_n C dX12_enough_17 rfl 0 rfl ?_
    refine zz_get C zzM_obj (fun _ h9 => List.mem_cons_of_mem _ (List.mem_append_right _ (h9))) rfl 5 (by decide) (List.mem_of_getElem? (i := 2) rfl) (Or.inl rfl) rfl dX12_enough_18 ?_
    refine zz_istoreX_n (locf := fun x5 => [(2, .int x5), (0, .ref (zzad Z 36)), (1, .int p0)]) C dX12_enough_21 rfl (by decide) (fun _ => rfl) (fun x5 => ?_)
    refine zz_bipush (v := -4) C dX12_enough_22 (by decide) ?_
    refine zz_istore_n (loc' := [(3, .int (-4 : Int32)), (2, .int x5), (0, .ref (zzad Z 36)), (1, .int p0)]) C dX12_enough_24 rfl (by decide) rfl ?_
    refine zz_bipush (v := 9) C dX12_enough_25 (by decide) ?_
    refine zz_istore (loc' := [(4, .int (9 : Int32)), (3, .int (-4 : Int32)), (2, .int x5), (0, .ref (zzad Z 36)), (1, .int p0)]) C dX12_enough_27 (by decide) rfl ?_
    refine zz_sub (loc' := [(0, .ref (zzad Z 36)), (1, .int p0), (2, .int x5), (3, .int (-4 : Int32)), (4, .int (9 : Int32))]) [3, 4, 2, 1, 0] rfl ?_
    exact w_X12_enough_29 C p0 200 x5 (-4 : Int32) (9 : Int32) σ3
  · refine zz_iconst (v := -1) C dX12_enough_15 (by decide) ?_
    exact zz_iret C rfl rfl (fun _ h9 => h9) (Nat.zero_le _) (Nat.zero_le _) dX12_enough_16
set_option maxHeartbeats 4000000 in
set_option maxRecDepth 100000 in
theorem k_X12_enough {l : Launch} {Z : zzG} {base : Nat} {PL : Nat → Option (Nat × Int32)} {mm : zzS} (p0 : Int32)  (σ : zzS) : zzCT l yX12_enough wsX12_enough rX12_enough (zzA base) Z (zzM Z base PL mm) (zzM Z base PL mm) zzRI [.ref (zzad Z 36), .int p0] (f_X12_enough p0 σ) σ :=
  zzCT_of (cc := cX12_enough) (nL := 6) (ret := (some .int)) (by decide) rfl (Nat.le_of_ble_eq_true rfl) [(0, .ref (zzad Z 36)), (1, .int p0)] rfl (fun p e s m args below meth c C => w_X12_enough_e C p0 σ)
abbrev rX12_lovedBy : Room := { frames := 0, cells := 0, slots := 0, locals := 0 }

set_option maxHeartbeats 4000000 in
set_option maxRecDepth 100000 in
theorem w_X12_lovedBy_33 {l : Launch} {Z : zzG} {base : Nat} {PL : Nat → Option (Nat × Int32)} {mm : zzS} {p : Program} {e : Env} {s : State} {m : MethodId} {args : Array Value} {below : List Frame} {meth : Method} {c : Code} (C : zzCx p m meth c s args cX12_lovedBy 4 wsX12_lovedBy RX12 (some .int) Z) (p0 : Int32)  (k4 : Int32 → Int32 → zzS → Option (Int32 × zzS)) (hk4 : ∀ (l2 : Int32)  (l3 : Int32)  (σ : zzS), zzGO p l e rX12_lovedBy s m args below meth c 4 (zzA base) (zzM Z base PL mm) (zzM Z base PL mm) zzRI rX12_lovedBy.cells rX12_lovedBy.slots (k4 l2 l3 σ) σ 0 0 4 [(0, .ref (zzad Z 36)), (1, .int p0), (2, .int l2), (3, .int l3)] []) (l3 : Int32)  (s0 : Int32)  (s1 : Int32)  (σ : zzS) : zzGO p l e rX12_lovedBy s m args below meth c 4 (zzA base) (zzM Z base PL mm) (zzM Z base PL mm) zzRI rX12_lovedBy.cells rX12_lovedBy.slots (f_X12_lovedBy_33 k4 p0 l3 s0 s1 σ) σ 0 0 33 [(0, .ref (zzad Z 36)), (1, .int p0), (3, .int l3)] [.int s0, .int s1] := by
  unfold f_X12_lovedBy_33
  refine zz_iadd C dX12_lovedBy_33 ?_
  refine zz_istoreX_n (locf := fun x1 => [(2, .int x1), (0, .ref (zzad Z 36)), (1, .int p0), (3, .int l3)]) C dX12_lovedBy_34 rfl (by decide) (fun _ => rfl) (fun x1 => ?_)
  refine zz_iincX (d := 1) (locf := fun x2 => [(3, .int x2), (2, .int x1), (0, .ref (zzad Z 36)), (1, .int p0)]) C dX12_lovedBy_35 (k := 3) rfl (by decide) (by decide) (fun _ => rfl) (fun x2 => ?_)
  refine zz_goto (tgt := 4) C dX12_lovedBy_38 (by decide) ?_
  refine zz_sub (loc' := [(0, .ref (zzad Z 36)), (1, .int p0), (2, .int x1), (3, .int x2)]) [2, 3, 1, 0] rfl ?_
  exact hk4 x1 x2 σ
set_option maxHeartbeats 4000000 in
set_option maxRecDepth 100000 in
theorem w_X12_lovedBy_4b {l : Launch} {Z : zzG} {base : Nat} {PL : Nat → Option (Nat × Int32)} {mm : zzS} {p : Program} {e : Env} {s : State} {m : MethodId} {args : Array Value} {below : List Frame} {meth : Method} {c : Code} (C : zzCx p m meth c s args cX12_lovedBy 4 wsX12_lovedBy RX12 (some .int) Z) (p0 : Int32)   (k4 : Int32 → Int32 → zzS → Option (Int32 × zzS)) (hk4 : ∀ (l2 : Int32)  (l3 : Int32)  (σ : zzS), zzGO p l e rX12_lovedBy s m args below meth c 4 (zzA base) (zzM Z base PL mm) (zzM Z base PL mm) zzRI rX12_lovedBy.cells rX12_lovedBy.slots (k4 l2 l3 σ) σ 0 0 4 [(0, .ref (zzad Z 36)), (1, .int p0), (2, .int l2), (3, .int l3)] []) (l2 : Int32)  (l3 : Int32)  (σ : zzS) : zzGO p l e rX12_lovedBy s m args below meth c 4 (zzA base) (zzM Z base PL mm) (zzM Z base PL mm) zzRI rX12_lovedBy.cells rX12_lovedBy.slots (f_X12_lovedBy_4b k4 p0 l2 l3 σ) σ 0 0 4 [(0, .ref (zzad Z 36)), (1, .int p0), (2, .int l2), (3, .int l3)] [] := by
  unfold f_X12_lovedBy_4b
  refine zz_iload_n C dX12_lovedBy_4 rfl 3 rfl ?_
  refine zz_aload_n C dX12_lovedBy_5 rfl 0 rfl ?_
  refine zz_get C zzM_obj (fun _ h9 => List.mem_cons_of_mem _ (List.mem_append_right _ (h9))) rfl 0 (by decide) (List.mem_of_getElem? (i := 1) rfl) (Or.inl rfl) rfl dX12_lovedBy_6 ?_
  refine zz_icmp_ge (tgt := 41) C dX12_lovedBy_9 (by decide) (fun h1 => ?_) (fun h1 => ?_)
  · refine zz_iload_n C dX12_lovedBy_41 rfl 2 rfl ?_
    exact zz_iret C rfl rfl (fun _ h9 => h9) (Nat.zero_le _) (Nat.zero_le _) dX12_lovedBy_42
  · refine zz_iload_n C dX12_lovedBy_12 rfl 2 rfl ?_
    refine zz_iload_n C dX12_lovedBy_13 rfl 3 rfl ?_
    refine zz_iload_n C dX12_lovedBy_14 rfl 1 rfl ?_
    refine zz_icmp_ne (tgt := 22) C dX12_lovedBy_15 (by decide) (fun h2 => ?_) (fun h2 => ?_)
    · refine zz_aload_n C dX12_lovedBy_22 rfl 0 rfl ?_
      refine zz_get C zzM_obj (fun _ h9 => List.mem_cons_of_mem _ (List.mem_append_right _ (h9))) rfl 4 (by decide) (List.mem_of_getElem? (i := 2) rfl) (Or.inl rfl) rfl dX12_lovedBy_23 ?_
      refine zz_bipush (v := 7) C dX12_lovedBy_26 (by decide) ?_
      refine zz_iload_n C dX12_lovedBy_28 rfl 3 rfl ?_
      refine zz_imul C dX12_lovedBy_29 ?_
      refine zz_iload_n C dX12_lovedBy_30 rfl 1 rfl ?_
      refine zz_iadd C dX12_lovedBy_31 ?_
      refine zz_gd (fun h3 => ?_)
      refine zz_iald C (zzM_arr (by decide)) h3 dX12_lovedBy_32 ?_
      refine zz_sub (loc' := [(0, .ref (zzad Z 36)), (1, .int p0), (3, .int l3)]) [0, 1, 3] rfl ?_
      exact w_X12_lovedBy_33 C p0 k4 hk4 l3 (zza σ 40 (Int32.toNatClampNeg (((7 : Int32) * l3) + p0))) l2 σ
    · refine zz_iconst (v := 0) C dX12_lovedBy_18 (by decide) ?_
      refine zz_goto (tgt := 33) C dX12_lovedBy_19 (by decide) ?_
      refine zz_sub (loc' := [(0, .ref (zzad Z 36)), (1, .int p0), (3, .int l3)]) [0, 1, 3] rfl ?_
      exact w_X12_lovedBy_33 C p0 k4 hk4 l3 (0 : Int32) l2 σ
set_option maxHeartbeats 4000000 in
set_option maxRecDepth 100000 in
theorem w_X12_lovedBy_4 {l : Launch} {Z : zzG} {base : Nat} {PL : Nat → Option (Nat × Int32)} {mm : zzS} {p : Program} {e : Env} {s : State} {m : MethodId} {args : Array Value} {below : List Frame} {meth : Method} {c : Code} (C : zzCx p m meth c s args cX12_lovedBy 4 wsX12_lovedBy RX12 (some .int) Z) (p0 : Int32)   (n : Nat) : ∀ (l2 : Int32)  (l3 : Int32)  (σ : zzS), zzGO p l e rX12_lovedBy s m args below meth c 4 (zzA base) (zzM Z base PL mm) (zzM Z base PL mm) zzRI rX12_lovedBy.cells rX12_lovedBy.slots (f_X12_lovedBy_4 p0 n l2 l3 σ) σ 0 0 4 [(0, .ref (zzad Z 36)), (1, .int p0), (2, .int l2), (3, .int l3)] [] := by
  induction n with
  | zero => exact fun _ _ _ r9 s9 h9 => by cases h9
  | succ n ih => exact w_X12_lovedBy_4b C p0 _ ih
set_option maxHeartbeats 4000000 in
set_option maxRecDepth 100000 in
theorem w_X12_lovedBy_e {l : Launch} {Z : zzG} {base : Nat} {PL : Nat → Option (Nat × Int32)} {mm : zzS} {p : Program} {e : Env} {s : State} {m : MethodId} {args : Array Value} {below : List Frame} {meth : Method} {c : Code} (C : zzCx p m meth c s args cX12_lovedBy 4 wsX12_lovedBy RX12 (some .int) Z) (p0 : Int32)  (σ : zzS) : zzGO p l e rX12_lovedBy s m args below meth c 4 (zzA base) (zzM Z base PL mm) (zzM Z base PL mm) zzRI rX12_lovedBy.cells rX12_lovedBy.slots (f_X12_lovedBy p0 σ) σ 0 0 0 [(0, .ref (zzad Z 36)), (1, .int p0)] [] := by
  unfold f_X12_lovedBy
  refine zz_iconst (v := 0) C dX12_lovedBy_0 (by decide) ?_
  refine zz_istore_n (loc' := [(2, .int (0 : Int32)), (0, .ref (zzad Z 36)), (1, .int p0)]) C dX12_lovedBy_1 rfl (by decide) rfl ?_
  refine zz_iconst (v := 0) C dX12_lovedBy_2 (by decide) ?_
  refine zz_istore_n (loc' := [(3, .int (0 : Int32)), (2, .int (0 : Int32)), (0, .ref (zzad Z 36)), (1, .int p0)]) C dX12_lovedBy_3 rfl (by decide) rfl ?_
  refine zz_sub (loc' := [(0, .ref (zzad Z 36)), (1, .int p0), (2, .int (0 : Int32)), (3, .int (0 : Int32))]) [2, 3, 1, 0] rfl ?_
  exact w_X12_lovedBy_4 C p0 200 (0 : Int32) (0 : Int32) σ
set_option maxHeartbeats 4000000 in
set_option maxRecDepth 100000 in
theorem k_X12_lovedBy {l : Launch} {Z : zzG} {base : Nat} {PL : Nat → Option (Nat × Int32)} {mm : zzS} (p0 : Int32)  (σ : zzS) : zzCT l yX12_lovedBy wsX12_lovedBy rX12_lovedBy (zzA base) Z (zzM Z base PL mm) (zzM Z base PL mm) zzRI [.ref (zzad Z 36), .int p0] (f_X12_lovedBy p0 σ) σ :=
  zzCT_of (cc := cX12_lovedBy) (nL := 4) (ret := (some .int)) (by decide) rfl (Nat.le_of_ble_eq_true rfl) [(0, .ref (zzad Z 36)), (1, .int p0)] rfl (fun p e s m args below meth c C => w_X12_lovedBy_e C p0 σ)
