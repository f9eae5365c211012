/-! ===== the start of the law ===== -/
section WS
variable {p : Program} {l : Launch} {e : Env} {R : Room} {s : State} {m : MethodId} {args : Array Value} {below : List Frame} {meth : Method} {c : Code} {nL : Nat} {A : Nat → Prop} {Z : zzG} {Q : State → Prop} {ws ws' : va_W} {cells slots pc : Nat} {loc loc' : List (Nat × Value)} {st rest : List Value}
variable {cc : ByteArray} {wds : List Cond} {own : String} {ret0 : Option FieldType}
theorem zw_astore_n (C : zzCx p m meth c s args cc nL wds own ret0 Z) {k : Fin 4} {i x : Nat} (hd : decode cc pc = .ok (.astore_n k, 1)) (hi : (k : Nat) = i) (hn : i < nL) (hl' : zzst1 i (.ref x) loc = loc')
    (kk : zwG p l e R s m args below meth c nL A Z Q ws cells slots (pc + 1) loc' st) : zwG p l e R s m args below meth c nL A Z Q ws cells slots pc loc (.ref x :: st) := by
  intro H locs ls hP hD hS hl
  exact lv_astore_n C.1.1 C.1.2.1 hd hi hl hn hl' (fun ls hl => kk H locs ls hP hD hS hl)
theorem zw_istore4 (C : zzCx p m meth c s args cc nL wds own ret0 Z) {i : Nat} {x : Int32} (hd : decode cc pc = .ok (.istore i, 2)) (hn : i < nL) (hl' : zzst1 i (.int x) loc = loc')
    (kk : zwG p l e R s m args below meth c nL A Z Q ws cells slots (pc + 2) loc' st) : zwG p l e R s m args below meth c nL A Z Q ws cells slots pc loc (.int x :: st) := by
  intro H locs ls hP hD hS hl
  exact lv_istore C.1.1 C.1.2.1 hd hl hn hl' (fun ls hl => kk H locs ls hP hD hS hl)
end WS
theorem zs_l1 : Cond.classLink RL 8 RX11 ∈ wsL_law := by decide +kernel
theorem zs_l2 : Cond.instantiable RX11 9 ∈ wsL_law := by decide +kernel
theorem zs_l3 : Cond.initialized RX11 ∈ wsL_law := by decide +kernel
theorem zs_l4 : Cond.methodLink RL 17 yX11_init ∈ wsL_law := by decide +kernel
theorem zs_l5 : Cond.instanceMethod yX11_init ∈ wsL_law := by decide +kernel
theorem zs_m1 : Cond.classLink RL 18 RX12 ∈ wsL_law := by decide +kernel
theorem zs_m2 : Cond.instantiable RX12 31 ∈ wsL_law := by decide +kernel
theorem zs_m3 : Cond.initialized RX12 ∈ wsL_law := by decide +kernel
theorem zs_m4 : Cond.methodLink RL 20 yX12_init ∈ wsL_law := by decide +kernel
theorem zs_m5 : Cond.instanceMethod yX12_init ∈ wsL_law := by decide +kernel
theorem zs_m6 : Cond.arrayClass (newarray.typeOf .long) ∈ wsL_law := by decide +kernel
theorem zs_31 {j : Nat} (h : j < 31) : j = 0 ∨ j = 1 ∨ j = 2 ∨ j = 3 ∨ j = 4 ∨ j = 5 ∨ j = 6 ∨ j = 7 ∨ j = 8 ∨ j = 9 ∨ j = 10 ∨ j = 11 ∨ j = 12 ∨ j = 13 ∨ j = 14 ∨ j = 15 ∨ j = 16 ∨ j = 17 ∨ j = 18 ∨ j = 19 ∨ j = 20 ∨ j = 21 ∨ j = 22 ∨ j = 23 ∨ j = 24 ∨ j = 25 ∨ j = 26 ∨ j = 27 ∨ j = 28 ∨ j = 29 ∨ j = 30 := by omega
set_option maxHeartbeats 8000000 in
set_option maxRecDepth 100000 in
theorem whole_start {p : Program} {e : Env} {s : State} {m : MethodId} {below : List Frame} {meth : Method} {c : Code} (l : Launch) (hflags : l.flags = flags0) {b L : Nat} {xs : Nat → Int32} (hL : L ≤ 3072) (C0 : lw_At p s m meth c b L xs) : W p l e room_1 s m #[Value.ref b] below meth c s.heap [] 0 0 (lw_Z below #[Value.ref b] s) (entryFrame m ([Value.ref b] : List Value).toArray 8) := by
  obtain ⟨hx, hb, hr, hml, hown, hts, hX, hbl, hlocks, hgv⟩ := C0
  obtain ⟨D, cA, hKK⟩ := zs_KK hts
  have C : ∀ ad sp, zzCx p m meth c s #[Value.ref b] cL_law 8 wsL_law RL (some .boolean) (D, ad, sp, cA) := fun ad sp => ⟨⟨hx, hb, hml, hown, fun w h => hts w (wsL_law_in w h)⟩, hr, hlocks, hKK ad sp⟩
  have hl := lv_entry ([.ref b]) (n := 8) (Nat.le_of_ble_eq_true rfl)
  rw [lg_entry_eq]
  generalize (lg_sl ([.ref b]) ++ List.replicate (8 - (lg_sl ([.ref b])).length) Slot.unset).toArray = ls at hl ⊢
  have hl : lv_has ls 8 [(0, .ref b)] := hl
  have hA : ∀ q, s.heap.size ≤ q → zzA s.heap.size q := fun _ h => h
  have hP : va_P D vwCl [] s.heap := fun k q h => by simp at h
  have hD : va_D (zzA s.heap.size) [] := ⟨fun i j p q h => by simp at h, fun k q h => by simp at h⟩
  have C1 := C (fun _ => 0) (fun _ => 0)
  suffices G : zwG p l e room_1 s m #[Value.ref b] below meth c 8 (zzA s.heap.size) (D, (fun _ => 0), (fun _ => 0), cA) (lw_Z below #[Value.ref b] s) [] 0 0 0 [(0, .ref b)] [] from G s.heap [] ls hP hD va_S.rf hl
  refine zw_new C1 hA (ci := 11) (fs := [.null, .null, .null, .null, .null, .null, .null, .int 0, .int 0]) (Cn := RX11) (T := TX11) (N := 9) inlX11 tyX11 tyX11_ok zs_l1 zs_l2 zs_l3 rfl (fun j hj => by rcases (show j = 0 ∨ j = 1 ∨ j = 2 ∨ j = 3 ∨ j = 4 ∨ j = 5 ∨ j = 6 ∨ j = 7 ∨ j = 8 by omega) with rfl | rfl | rfl | rfl | rfl | rfl | rfl | rfl | rfl <;> rfl) (Nat.le_of_ble_eq_true rfl) (Nat.le_of_ble_eq_true rfl) dL_law_0 (fun h0 => ?_)
  refine zw_dup C1 dL_law_3 rfl ?_
  refine zw_callI C1 (zs_X hts) hA (As := []) (rest := [.ref h0]) (wr := []) rfl (kc_X11_init h0) (cwI 0 C1.1.2.2.2.2 gL_law_X11_init rfl rfl rfl (C1.1.2.2.2.2 _ zs_l3) (C1.1.2.2.2.2 _ zs_l4) (C1.1.2.2.2.2 _ zs_l5) rfl (by decide +kernel) ⟨Nat.le_of_ble_eq_true rfl, Nat.le_of_ble_eq_true rfl⟩) [0] [] rfl rfl rfl rfl rfl (fun i h => absurd h List.not_mem_nil) rfl (Nat.le_of_ble_eq_true rfl) ⟨Nat.le_of_ble_eq_true rfl, Nat.le_of_ble_eq_true rfl⟩ dL_law_4 (fun w1 hw1 => ?_)
  obtain ⟨q1, q2, q3, q4, q5, q6, q7, q8, q9, q10, q11, q12, q13, q14, q15, q16, q17, q18, q19, q20, q21, q22, q23, q24, q25, q26, q27, q28, q29, q30, q31, q32, q33, q34, q35, q36, q37, q38, rfl⟩ := hw1
  refine zw_astore_n (loc' := [(1, .ref h0), (0, .ref b)]) C1 dL_law_7 rfl (by decide) rfl ?_
  refine zw_new C1 hA (ci := 12) (fs := [.int 0, .null, .null, .null, .null, .int 0, .int 0, .null, .null, .null, .null, .null, .null, .int 0, .int 0, .int 0, .int 0, .int 0, .null, .null, .null, .null, .null, .int 0, .int 0, .int 0, .null, .null, .null, .int 0, .null]) (Cn := RX12) (T := TX12) (N := 31) inlX12 tyX12 tyX12_ok zs_m1 zs_m2 zs_m3 rfl (fun j hj => by rcases zs_31 hj with rfl | rfl | rfl | rfl | rfl | rfl | rfl | rfl | rfl | rfl | rfl | rfl | rfl | rfl | rfl | rfl | rfl | rfl | rfl | rfl | rfl | rfl | rfl | rfl | rfl | rfl | rfl | rfl | rfl | rfl | rfl <;> rfl) (Nat.le_of_ble_eq_true rfl) (Nat.le_of_ble_eq_true rfl) dL_law_8 (fun z0 => ?_)
  refine zw_dup C1 dL_law_11 rfl ?_
  refine zw_callI C1 zwX_f hA (As := []) (rest := [.ref z0]) (wr := [(h0, .inr (11, [.ref q1, .ref q2, .ref q3, .ref q4, .ref q9, .ref q14, .ref q19, .int 0, .int 0])), (q1, .inl (cA 2, 8, .inr (.inr (.inr (.inr (fun _ => none)))))), (q2, .inl (cA 3, 8, .inr (.inr (.inr (.inr (fun _ => none)))))), (q3, .inl (cA 3, 8, .inr (.inr (.inr (.inr (va_up (va_up (va_up (va_up (va_up (va_up (va_up (va_up (fun _ => none) 0 (some q23)) 1 (some q25)) 2 (some q27)) 3 (some q29)) 4 (some q31)) 5 (some q33)) 6 (some q35)) 7 (some q37))))))), (q4, .inr (10, [.ref q5, .ref q6, .ref q7, .ref q8, .int 0, .int 0, .int 0])), (q5, .inl (cA 2, 7, .inr (.inr (.inr (.inr (fun _ => none)))))), (q6, .inl (cA 0, 7, .inl (fun _ => 0))), (q7, .inl (cA 0, 49, .inl (fun _ => 0))), (q8, .inr (6, [.int 0])), (q9, .inr (10, [.ref q10, .ref q11, .ref q12, .ref q13, .int 0, .int 0, .int 0])), (q10, .inl (cA 2, 7, .inr (.inr (.inr (.inr (fun _ => none)))))), (q11, .inl (cA 0, 7, .inl (fun _ => 0))), (q12, .inl (cA 0, 49, .inl (fun _ => 0))), (q13, .inr (6, [.int 0])), (q14, .inr (10, [.ref q15, .ref q16, .ref q17, .ref q18, .int 0, .int 0, .int 0])), (q15, .inl (cA 2, 7, .inr (.inr (.inr (.inr (fun _ => none)))))), (q16, .inl (cA 0, 7, .inl (fun _ => 0))), (q17, .inl (cA 0, 49, .inl (fun _ => 0))), (q18, .inr (6, [.int 0])), (q19, .inr (2, [.ref q20, .ref q21, .ref q22, .int 0])), (q20, .inl (cA 0, 7, .inl (fun _ => 0))), (q21, .inl (cA 0, 1024, .inl (fun _ => 0))), (q22, .inl (cA 0, 128, .inl (fun _ => 0))), (q23, .inr (7, [.ref q24, .int 0, .int 0])), (q24, .inl (cA 0, 100, .inl (fun _ => 0))), (q25, .inr (7, [.ref q26, .int 0, .int 0])), (q26, .inl (cA 0, 100, .inl (fun _ => 0))), (q27, .inr (7, [.ref q28, .int 0, .int 0])), (q28, .inl (cA 0, 100, .inl (fun _ => 0))), (q29, .inr (7, [.ref q30, .int 0, .int 0])), (q30, .inl (cA 0, 100, .inl (fun _ => 0))), (q31, .inr (7, [.ref q32, .int 0, .int 0])), (q32, .inl (cA 0, 100, .inl (fun _ => 0))), (q33, .inr (7, [.ref q34, .int 0, .int 0])), (q34, .inl (cA 0, 100, .inl (fun _ => 0))), (q35, .inr (7, [.ref q36, .int 0, .int 0])), (q36, .inl (cA 0, 100, .inl (fun _ => 0))), (q37, .inr (7, [.ref q38, .int 0, .int 0])), (q38, .inl (cA 0, 100, .inl (fun _ => 0)))]) rfl (kc_X12_init z0) (cwI 0 C1.1.2.2.2.2 gL_law_X12_init rfl rfl rfl (C1.1.2.2.2.2 _ zs_m3) (C1.1.2.2.2.2 _ zs_m4) (C1.1.2.2.2.2 _ zs_m5) rfl (by decide +kernel) ⟨Nat.le_of_ble_eq_true rfl, Nat.le_of_ble_eq_true rfl⟩) [39] [0, 1, 2, 3, 4, 5, 6, 7, 8, 9, 10, 11, 12, 13, 14, 15, 16, 17, 18, 19, 20, 21, 22, 23, 24, 25, 26, 27, 28, 29, 30, 31, 32, 33, 34, 35, 36, 37, 38] rfl rfl rfl rfl rfl (by decide) rfl (Nat.le_of_ble_eq_true rfl) ⟨Nat.le_of_ble_eq_true rfl, Nat.le_of_ble_eq_true rfl⟩ dL_law_12 (fun w1 hw1 => ?_)
  obtain ⟨y1, y2, y3, y4, y5, y6, y7, y8, y9, y10, y11, y12, y13, y14, y15, y16, y17, y18, rfl⟩ := hw1
  refine zw_astore_n (loc' := [(2, .ref z0), (1, .ref h0), (0, .ref b)]) C1 dL_law_15 rfl (by decide) rfl ?_
  refine zw_iconst (v := 1) C1 dL_law_16 (by decide) ?_
  refine zw_newa C1 hA (ty := .long) (N' := 1) (a0 := (1, .inr (.inl (fun _ => 0)))) 1 rfl rfl zs_m6 (fun _ => rfl) (by decide) rfl (by decide) (Nat.le_of_ble_eq_true rfl) (Nat.le_of_ble_eq_true rfl) dL_law_17 (fun o => ?_)
  refine zw_astore_n (loc' := [(3, .ref o), (2, .ref z0), (1, .ref h0), (0, .ref b)]) C1 dL_law_19 rfl (by decide) rfl ?_
  refine zw_iconst (v := 0) C1 dL_law_20 (by decide) ?_
  refine zw_istore4 (loc' := [(4, .int 0), (3, .ref o), (2, .ref z0), (1, .ref h0), (0, .ref b)]) C1 dL_law_21 (by decide) rfl ?_
  intro H locs ls hP hD hS hl
  refine W.widen (k := 64 + 200 * 0) (n := 6000 + 200 * 0) (Nat.le_of_ble_eq_true rfl) (Nat.le_of_ble_eq_true rfl) ?_
  have hP : va_P D vwCl (zsW (fun k => ([h0, q1, q2, q3, q4, q5, q6, q7, q8, q9, q10, q11, q12, q13, q14, q15, q16, q17, q18, q19, q20, q21, q22, q23, q24, q25, q26, q27, q28, q29, q30, q31, q32, q33, q34, q35, q36, q37, q38, z0, y1, y2, y3, y4, y5, y6, y7, y8, y9, y10, y11, y12, y13, y14, y15, y16, y17, y18, o] : List Nat).getD k 0) cA) H := hP
  have hD : va_D (zzA s.heap.size) (zsW (fun k => ([h0, q1, q2, q3, q4, q5, q6, q7, q8, q9, q10, q11, q12, q13, q14, q15, q16, q17, q18, q19, q20, q21, q22, q23, q24, q25, q26, q27, q28, q29, q30, q31, q32, q33, q34, q35, q36, q37, q38, z0, y1, y2, y3, y4, y5, y6, y7, y8, y9, y10, y11, y12, y13, y14, y15, y16, y17, y18, o] : List Nat).getD k 0) cA) := hD
  have hl : lv_has ls 8 (zlLoc (zsZ D (fun k => ([h0, q1, q2, q3, q4, q5, q6, q7, q8, q9, q10, q11, q12, q13, q14, q15, q16, q17, q18, q19, q20, q21, q22, q23, q24, q25, q26, q27, q28, q29, q30, q31, q32, q33, q34, q35, q36, q37, q38, z0, y1, y2, y3, y4, y5, y6, y7, y8, y9, y10, y11, y12, y13, y14, y15, y16, y17, y18, o] : List Nat).getD k 0) cA) b 0) := lv_sub hl [4, 3, 2, 1, 0] rfl
  exact zl_loop (Z := zsZ D (fun k => ([h0, q1, q2, q3, q4, q5, q6, q7, q8, q9, q10, q11, q12, q13, q14, q15, q16, q17, q18, q19, q20, q21, q22, q23, q24, q25, q26, q27, q28, q29, q30, q31, q32, q33, q34, q35, q36, q37, q38, z0, y1, y2, y3, y4, y5, y6, y7, y8, y9, y10, y11, y12, y13, y14, y15, y16, y17, y18, o] : List Nat).getD k 0) cA) ⟨C _ _, zs_T hts hgv, zs_Z hts hgv, hX, hbl, zs_st hflags, hL⟩ 512 0 rfl (Nat.zero_le _) zS0 zS0 _ H locs ls zRel0 (zs_world hP hD) hS hl
