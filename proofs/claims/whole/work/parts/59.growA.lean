abbrev rX10_perform : Room := { frames := 6, cells := 1, slots := 1, locals := 132 }

set_option maxHeartbeats 4000000 in
set_option maxRecDepth 100000 in
theorem w_X10_perform_e {l : Launch} {Z : zzG} {base : Nat} {PL : Nat → Option (Nat × Int32)} {mm : zzS} {p : Program} {e : Env} {s : State} {m : MethodId} {args : Array Value} {below : List Frame} {meth : Method} {c : Code} (C : zzCx p m meth c s args cX10_perform 5 wsX10_perform RX10 (some .boolean) Z) (t0 : Nat) (ht0 : zztown t0) (p0 : Int32)  (p1 : Int32)  (p2 : Int32)  (p3 : Int32)  (σ : zzS) : zzGO p l e rX10_perform s m args below meth c 5 (zzA base) (zzX Z base PL mm) (zzXx Z base mm) zzRI rX10_perform.cells rX10_perform.slots (f_X10_perform t0 p0 p1 p2 p3 σ) σ 0 0 0 [(0, .ref (zzad Z t0)), (1, .int p0), (2, .int p1), (3, .int p2), (4, .int p3)] [] := by
  unfold f_X10_perform
  refine zz_iload_n C dX10_perform_0 rfl 1 rfl ?_
  refine zz_ite (fun h1 => ?_) (fun h1 => ?_)
  · refine zz_tblIn (off := 136) (tgt := 137) C dX10_perform_1 (by rw [h1]; decide) (by rw [h1]; decide) (by rw [h1]; rfl) (by decide) ?_
    refine zz_aload_n C dX10_perform_137 rfl 0 rfl ?_
    refine zz_bipush (v := 10) C dX10_perform_138 (by decide) ?_
    refine zz_iload_n C dX10_perform_140 rfl 2 rfl ?_
    refine zz_imul C dX10_perform_141 ?_
    refine zz_iload_n C dX10_perform_142 rfl 3 rfl ?_
    refine zz_iadd C dX10_perform_143 ?_
    refine zz_callV C (Cn := RX10) (b := zzad Z t0) (fun H hH => zz_recv C.2.2.2 ((zzX_town ht0) H hH) rfl) (As := [.int (((10 : Int32) * p1) + p2)]) (rest := []) rfl (k_X10_pass t0 ht0 (((10 : Int32) * p1) + p2) σ) (cwV 1 C.1.2.2.2.2 gX10_perform_X10_pass rfl rfl rfl (by decide +kernel) ⟨Nat.le_of_ble_eq_true rfl, Nat.le_of_ble_eq_true rfl⟩) rfl (Nat.le_of_ble_eq_true rfl) ⟨Nat.le_of_ble_eq_true rfl, Nat.le_of_ble_eq_true rfl⟩ dX10_perform_144 (zz_kI rfl rfl (fun r18 σ19 => ?_))
    refine zz_gd (fun h20 => ?_)
    exact zz_zret C rfl h20 rfl (fun _ h9 => zzXx_of h9) (Nat.le_of_ble_eq_true rfl) (Nat.le_of_ble_eq_true rfl) dX10_perform_147
  · skip
    refine zz_ite (fun h2 => ?_) (fun h2 => ?_)
    · refine zz_tblIn (off := 147) (tgt := 148) C dX10_perform_1 (by rw [h2]; decide) (by rw [h2]; decide) (by rw [h2]; rfl) (by decide) ?_
      refine zz_iconst (v := 0) C dX10_perform_148 (by decide) ?_
      exact zz_zret C rfl (Or.inl rfl) rfl (fun _ h9 => zzXx_of h9) (Nat.le_of_ble_eq_true rfl) (Nat.le_of_ble_eq_true rfl) dX10_perform_149
    · skip
      refine zz_ite (fun h3 => ?_) (fun h3 => ?_)
      · refine zz_tblIn (off := 107) (tgt := 108) C dX10_perform_1 (by rw [h3]; decide) (by rw [h3]; decide) (by rw [h3]; rfl) (by decide) ?_
        refine zz_aload_n C dX10_perform_108 rfl 0 rfl ?_
        refine zz_iload_n C dX10_perform_109 rfl 2 rfl ?_
        refine zz_iload_n C dX10_perform_110 rfl 3 rfl ?_
        refine zz_iload C dX10_perform_111 4 rfl ?_
        refine zz_callV C (Cn := RX10) (b := zzad Z t0) (fun H hH => zz_recv C.2.2.2 ((zzX_town ht0) H hH) rfl) (As := [.int p1, .int p2, .int p3]) (rest := []) rfl (k_X10_setFond t0 ht0 p1 p2 p3 σ) (cwV 3 C.1.2.2.2.2 gX10_perform_X10_setFond rfl rfl rfl (by decide +kernel) ⟨Nat.le_of_ble_eq_true rfl, Nat.le_of_ble_eq_true rfl⟩) rfl (Nat.le_of_ble_eq_true rfl) ⟨Nat.le_of_ble_eq_true rfl, Nat.le_of_ble_eq_true rfl⟩ dX10_perform_113 (zz_kI rfl rfl (fun r21 σ22 => ?_))
        refine zz_gd (fun h23 => ?_)
        exact zz_zret C rfl h23 rfl (fun _ h9 => zzXx_of h9) (Nat.le_of_ble_eq_true rfl) (Nat.le_of_ble_eq_true rfl) dX10_perform_116
      · skip
        refine zz_ite (fun h4 => ?_) (fun h4 => ?_)
        · refine zz_tblIn (off := 147) (tgt := 148) C dX10_perform_1 (by rw [h4]; decide) (by rw [h4]; decide) (by rw [h4]; rfl) (by decide) ?_
          refine zz_iconst (v := 0) C dX10_perform_148 (by decide) ?_
          exact zz_zret C rfl (Or.inl rfl) rfl (fun _ h9 => zzXx_of h9) (Nat.le_of_ble_eq_true rfl) (Nat.le_of_ble_eq_true rfl) dX10_perform_149
        · skip
          refine zz_ite (fun h5 => ?_) (fun h5 => ?_)
          · refine zz_tblIn (off := 147) (tgt := 148) C dX10_perform_1 (by rw [h5]; decide) (by rw [h5]; decide) (by rw [h5]; rfl) (by decide) ?_
            refine zz_iconst (v := 0) C dX10_perform_148 (by decide) ?_
            exact zz_zret C rfl (Or.inl rfl) rfl (fun _ h9 => zzXx_of h9) (Nat.le_of_ble_eq_true rfl) (Nat.le_of_ble_eq_true rfl) dX10_perform_149
          · skip
            refine zz_ite (fun h6 => ?_) (fun h6 => ?_)
            · refine zz_tblIn (off := 147) (tgt := 148) C dX10_perform_1 (by rw [h6]; decide) (by rw [h6]; decide) (by rw [h6]; rfl) (by decide) ?_
              refine zz_iconst (v := 0) C dX10_perform_148 (by decide) ?_
              exact zz_zret C rfl (Or.inl rfl) rfl (fun _ h9 => zzXx_of h9) (Nat.le_of_ble_eq_true rfl) (Nat.le_of_ble_eq_true rfl) dX10_perform_149
            · skip
              refine zz_ite (fun h7 => ?_) (fun h7 => ?_)
              · refine zz_tblIn (off := 147) (tgt := 148) C dX10_perform_1 (by rw [h7]; decide) (by rw [h7]; decide) (by rw [h7]; rfl) (by decide) ?_
                refine zz_iconst (v := 0) C dX10_perform_148 (by decide) ?_
                exact zz_zret C rfl (Or.inl rfl) rfl (fun _ h9 => zzXx_of h9) (Nat.le_of_ble_eq_true rfl) (Nat.le_of_ble_eq_true rfl) dX10_perform_149
              · skip
                refine zz_ite (fun h8 => ?_) (fun h8 => ?_)
                · refine zz_tblIn (off := 147) (tgt := 148) C dX10_perform_1 (by rw [h8]; decide) (by rw [h8]; decide) (by rw [h8]; rfl) (by decide) ?_
                  refine zz_iconst (v := 0) C dX10_perform_148 (by decide) ?_
                  exact zz_zret C rfl (Or.inl rfl) rfl (fun _ h9 => zzXx_of h9) (Nat.le_of_ble_eq_true rfl) (Nat.le_of_ble_eq_true rfl) dX10_perform_149
                · skip
                  refine zz_ite (fun h9 => ?_) (fun h9 => ?_)
                  · refine zz_tblIn (off := 130) (tgt := 131) C dX10_perform_1 (by rw [h9]; decide) (by rw [h9]; decide) (by rw [h9]; rfl) (by decide) ?_
                    refine zz_aload_n C dX10_perform_131 rfl 0 rfl ?_
                    refine zz_iload_n C dX10_perform_132 rfl 2 rfl ?_
                    refine zz_callV C (Cn := RX10) (b := zzad Z t0) (fun H hH => zz_recv C.2.2.2 ((zzX_town ht0) H hH) rfl) (As := [.int p1]) (rest := []) rfl (k_X10_setLimit t0 ht0 p1 σ) (cwV 1 C.1.2.2.2.2 gX10_perform_X10_setLimit rfl rfl rfl (by decide +kernel) ⟨Nat.le_of_ble_eq_true rfl, Nat.le_of_ble_eq_true rfl⟩) rfl (Nat.le_of_ble_eq_true rfl) ⟨Nat.le_of_ble_eq_true rfl, Nat.le_of_ble_eq_true rfl⟩ dX10_perform_133 (zz_kI rfl rfl (fun r24 σ25 => ?_))
                    refine zz_gd (fun h26 => ?_)
                    exact zz_zret C rfl h26 rfl (fun _ h9 => zzXx_of h9) (Nat.le_of_ble_eq_true rfl) (Nat.le_of_ble_eq_true rfl) dX10_perform_136
                  · skip
                    refine zz_ite (fun h10 => ?_) (fun h10 => ?_)
                    · refine zz_tblIn (off := 147) (tgt := 148) C dX10_perform_1 (by rw [h10]; decide) (by rw [h10]; decide) (by rw [h10]; rfl) (by decide) ?_
                      refine zz_iconst (v := 0) C dX10_perform_148 (by decide) ?_
                      exact zz_zret C rfl (Or.inl rfl) rfl (fun _ h9 => zzXx_of h9) (Nat.le_of_ble_eq_true rfl) (Nat.le_of_ble_eq_true rfl) dX10_perform_149
                    · skip
                      refine zz_ite (fun h11 => ?_) (fun h11 => ?_)
                      · refine zz_tblIn (off := 147) (tgt := 148) C dX10_perform_1 (by rw [h11]; decide) (by rw [h11]; decide) (by rw [h11]; rfl) (by decide) ?_
                        refine zz_iconst (v := 0) C dX10_perform_148 (by decide) ?_
                        exact zz_zret C rfl (Or.inl rfl) rfl (fun _ h9 => zzXx_of h9) (Nat.le_of_ble_eq_true rfl) (Nat.le_of_ble_eq_true rfl) dX10_perform_149
                      · skip
                        refine zz_ite (fun h12 => ?_) (fun h12 => ?_)
                        · refine zz_tblIn (off := 147) (tgt := 148) C dX10_perform_1 (by rw [h12]; decide) (by rw [h12]; decide) (by rw [h12]; rfl) (by decide) ?_
                          refine zz_iconst (v := 0) C dX10_perform_148 (by decide) ?_
                          exact zz_zret C rfl (Or.inl rfl) rfl (fun _ h9 => zzXx_of h9) (Nat.le_of_ble_eq_true rfl) (Nat.le_of_ble_eq_true rfl) dX10_perform_149
                        · skip
                          refine zz_ite (fun h13 => ?_) (fun h13 => ?_)
                          · refine zz_tblIn (off := 83) (tgt := 84) C dX10_perform_1 (by rw [h13]; decide) (by rw [h13]; decide) (by rw [h13]; rfl) (by decide) ?_
                            refine zz_iload_n C dX10_perform_84 rfl 2 rfl ?_
                            refine zz_bipush (v := 8) C dX10_perform_85 (by decide) ?_
                            refine zz_icmp_ge (tgt := 106) C dX10_perform_87 (by decide) (fun h27 => ?_) (fun h27 => ?_)
                            · refine zz_iconst (v := 0) C dX10_perform_106 (by decide) ?_
                              exact zz_zret C rfl (Or.inl rfl) rfl (fun _ h9 => zzXx_of h9) (Nat.le_of_ble_eq_true rfl) (Nat.le_of_ble_eq_true rfl) dX10_perform_107
                            · refine zz_aload_n C dX10_perform_90 rfl 0 rfl ?_
                              refine zz_iload_n C dX10_perform_91 rfl 2 rfl ?_
                              refine zz_iload_n C dX10_perform_92 rfl 3 rfl ?_
                              refine zz_callSNP (As := [.int p1, .int p2]) (rest := [.ref (zzad Z t0)]) C rfl (kp_X11_personOf p1 p2 σ) ⟨va_cnB 2 C.1.2.2.2.2 gX10_perform_X11_personOf_n61 rfl rfl rfl (C.2.2.2.2 _ (List.mem_of_getElem? (i := 9) rfl)) (C.1.2.2.2.2 _ (List.mem_of_getElem? (i := 2) rfl)) (by decide +kernel) ⟨Nat.le_of_ble_eq_true rfl, Nat.le_of_ble_eq_true rfl⟩, C.1.2.2.2.2 _ (List.mem_of_getElem? (i := 1) rfl), trivial⟩ rfl (Nat.le_of_ble_eq_true rfl) ⟨Nat.le_of_ble_eq_true rfl, Nat.le_of_ble_eq_true rfl⟩ dX10_perform_93 (fun r28 σ29 PL c30 hp31 => ?_)
                              refine zz_callV C (Cn := RX10) (b := zzad Z t0) (fun H hH => zz_recv C.2.2.2 ((zzX_town ht0) H hH) rfl) (As := [va_rf c30]) (rest := []) rfl (k_X10_admit t0 ht0 r28 c30 hp31 σ29) (cwV 1 C.1.2.2.2.2 gX10_perform_X10_admit rfl rfl rfl (by decide +kernel) ⟨Nat.le_of_ble_eq_true rfl, Nat.le_of_ble_eq_true rfl⟩) rfl (Nat.le_of_ble_eq_true rfl) ⟨Nat.le_of_ble_eq_true rfl, Nat.le_of_ble_eq_true rfl⟩ dX10_perform_96 (zz_kI rfl rfl (fun r32 σ33 => ?_))
                              refine zz_if_eq (tgt := 106) C dX10_perform_99 (by decide) (fun h34 => ?_) (fun h34 => ?_)
                              · refine zz_iconst (v := 0) C dX10_perform_106 (by decide) ?_
                                exact zz_zret C rfl (Or.inl rfl) rfl (fun _ h9 => zzXx_of h9) (Nat.le_of_ble_eq_true rfl) (Nat.le_of_ble_eq_true rfl) dX10_perform_107
                              · refine zz_iconst (v := 1) C dX10_perform_102 (by decide) ?_
                                refine zz_goto (tgt := 107) C dX10_perform_103 (by decide) ?_
                                exact zz_zret C rfl (Or.inr rfl) rfl (fun _ h9 => zzXx_of h9) (Nat.le_of_ble_eq_true rfl) (Nat.le_of_ble_eq_true rfl) dX10_perform_107
                          · skip
                            refine zz_ite (fun h14 => ?_) (fun h14 => ?_)
                            · refine zz_tblIn (off := 147) (tgt := 148) C dX10_perform_1 (by rw [h14]; decide) (by rw [h14]; decide) (by rw [h14]; rfl) (by decide) ?_
                              refine zz_iconst (v := 0) C dX10_perform_148 (by decide) ?_
                              exact zz_zret C rfl (Or.inl rfl) rfl (fun _ h9 => zzXx_of h9) (Nat.le_of_ble_eq_true rfl) (Nat.le_of_ble_eq_true rfl) dX10_perform_149
                            · skip
                              refine zz_ite (fun h15 => ?_) (fun h15 => ?_)
                              · refine zz_tblIn (off := 147) (tgt := 148) C dX10_perform_1 (by rw [h15]; decide) (by rw [h15]; decide) (by rw [h15]; rfl) (by decide) ?_
                                refine zz_iconst (v := 0) C dX10_perform_148 (by decide) ?_
                                exact zz_zret C rfl (Or.inl rfl) rfl (fun _ h9 => zzXx_of h9) (Nat.le_of_ble_eq_true rfl) (Nat.le_of_ble_eq_true rfl) dX10_perform_149
                              · skip
                                refine zz_ite (fun h16 => ?_) (fun h16 => ?_)
                                · refine zz_tblIn (off := 116) (tgt := 117) C dX10_perform_1 (by rw [h16]; decide) (by rw [h16]; decide) (by rw [h16]; rfl) (by decide) ?_
                                  refine zz_aload_n C dX10_perform_117 rfl 0 rfl ?_
                                  refine zz_iload_n C dX10_perform_118 rfl 2 rfl ?_
                                  refine zz_iload_n C dX10_perform_119 rfl 3 rfl ?_
                                  refine zz_callV C (Cn := RX10) (b := zzad Z t0) (fun H hH => zz_recv C.2.2.2 ((zzX_town ht0) H hH) rfl) (As := [.int p1, .int p2]) (rest := []) rfl (k_X10_see t0 ht0 p1 p2 σ) (cwV 2 C.1.2.2.2.2 gX10_perform_X10_see rfl rfl rfl (by decide +kernel) ⟨Nat.le_of_ble_eq_true rfl, Nat.le_of_ble_eq_true rfl⟩) rfl (Nat.le_of_ble_eq_true rfl) ⟨Nat.le_of_ble_eq_true rfl, Nat.le_of_ble_eq_true rfl⟩ dX10_perform_120 (zz_kI rfl rfl (fun r35 σ36 => ?_))
                                  refine zz_gd (fun h37 => ?_)
                                  exact zz_zret C rfl h37 rfl (fun _ h9 => zzXx_of h9) (Nat.le_of_ble_eq_true rfl) (Nat.le_of_ble_eq_true rfl) dX10_perform_123
                                · skip
                                  refine zz_ite (fun h17 => ?_) (fun h17 => ?_)
                                  · refine zz_tblIn (off := 123) (tgt := 124) C dX10_perform_1 (by rw [h17]; decide) (by rw [h17]; decide) (by rw [h17]; rfl) (by decide) ?_
                                    refine zz_aload_n C dX10_perform_124 rfl 0 rfl ?_
                                    refine zz_iload_n C dX10_perform_125 rfl 2 rfl ?_
                                    refine zz_iload_n C dX10_perform_126 rfl 3 rfl ?_
                                    refine zz_callV C (Cn := RX10) (b := zzad Z t0) (fun H hH => zz_recv C.2.2.2 ((zzX_town ht0) H hH) rfl) (As := [.int p1, .int p2]) (rest := []) rfl (k_X10_turn t0 ht0 p1 p2 σ) (cwV 2 C.1.2.2.2.2 gX10_perform_X10_turn rfl rfl rfl (by decide +kernel) ⟨Nat.le_of_ble_eq_true rfl, Nat.le_of_ble_eq_true rfl⟩) rfl (Nat.le_of_ble_eq_true rfl) ⟨Nat.le_of_ble_eq_true rfl, Nat.le_of_ble_eq_true rfl⟩ dX10_perform_127 (zz_kI rfl rfl (fun r38 σ39 => ?_))
                                    refine zz_gd (fun h40 => ?_)
                                    exact zz_zret C rfl h40 rfl (fun _ h9 => zzXx_of h9) (Nat.le_of_ble_eq_true rfl) (Nat.le_of_ble_eq_true rfl) dX10_perform_130
                                  · skip
                                    refine zz_tblOut (tgt := 148) C dX10_perform_1 (by have := lv_neT h1 (a := 100) (by decide); have := lv_neT h2 (a := 101) (by decide); have := lv_neT h3 (a := 102) (by decide); have := lv_neT h4 (a := 103) (by decide); have := lv_neT h5 (a := 104) (by decide); have := lv_neT h6 (a := 105) (by decide); have := lv_neT h7 (a := 106) (by decide); have := lv_neT h8 (a := 107) (by decide); have := lv_neT h9 (a := 108) (by decide); have := lv_neT h10 (a := 109) (by decide); have := lv_neT h11 (a := 110) (by decide); have := lv_neT h12 (a := 111) (by decide); have := lv_neT h13 (a := 112) (by decide); have := lv_neT h14 (a := 113) (by decide); have := lv_neT h15 (a := 114) (by decide); have := lv_neT h16 (a := 115) (by decide); have := lv_neT h17 (a := 116) (by decide); omega) (by decide) ?_
                                    refine zz_iconst (v := 0) C dX10_perform_148 (by decide) ?_
                                    exact zz_zret C rfl (Or.inl rfl) rfl (fun _ h9 => zzXx_of h9) (Nat.le_of_ble_eq_true rfl) (Nat.le_of_ble_eq_true rfl) dX10_perform_149
set_option maxHeartbeats 4000000 in
set_option maxRecDepth 100000 in
theorem k_X10_perform {l : Launch} {Z : zzG} {base : Nat} {PL : Nat → Option (Nat × Int32)} {mm : zzS} (t0 : Nat) (ht0 : zztown t0) (p0 : Int32)  (p1 : Int32)  (p2 : Int32)  (p3 : Int32)  (σ : zzS) : zzCT l yX10_perform wsX10_perform rX10_perform (zzA base) Z (zzX Z base PL mm) (zzXx Z base mm) zzRI [.ref (zzad Z t0), .int p0, .int p1, .int p2, .int p3] (f_X10_perform t0 p0 p1 p2 p3 σ) σ :=
  zzCT_of (cc := cX10_perform) (nL := 5) (ret := (some .boolean)) (by decide) rfl (Nat.le_of_ble_eq_true rfl) [(0, .ref (zzad Z t0)), (1, .int p0), (2, .int p1), (3, .int p2), (4, .int p3)] rfl (fun p e s m args below meth c C => w_X10_perform_e C t0 ht0 p0 p1 p2 p3 σ)
abbrev rX11_keep : Room := { frames := 5, cells := 1, slots := 1, locals := 96 }

set_option maxHeartbeats 4000000 in
set_option maxRecDepth 100000 in
theorem w_X11_keep_62 {l : Launch} {Z : zzG} {base : Nat} {PL : Nat → Option (Nat × Int32)} {mm : zzS} {p : Program} {e : Env} {s : State} {m : MethodId} {args : Array Value} {below : List Frame} {meth : Method} {c : Code} (C : zzCx p m meth c s args cX11_keep 5 wsX11_keep RX11 (some .int) Z) (p0 : Int32)  (p1 : Int32)  (p2 : Int32)  (p3 : Int32)   (s0 : (Option (Nat × Int32))) (cs0 : Option Nat) (hs0 : zzpr PL s0 cs0) (s1 : Int32)  (σ : zzS) : zzGO p l e rX11_keep s m args below meth c 5 (zzA base) (zzX Z base PL mm) (zzXx Z base mm) zzRI rX11_keep.cells rX11_keep.slots (f_X11_keep_62 p0 p1 p2 p3 s0 s1 σ) σ 1 1 62 [] [va_rf cs0, .int s1, .ref (zzad Z 0)] := by
  unfold f_X11_keep_62
  refine zz_null C dX11_keep_62 ?_
  refine zz_callV C (Cn := RX11) (b := zzad Z 0) (fun H hH => zz_recv C.2.2.2 (zzX_obj H hH) rfl) (As := [.int s1, va_rf cs0, va_rf none]) (rest := []) rfl (k_X11_lay s1 s0 cs0 hs0 none σ) (cwV 3 C.1.2.2.2.2 gX11_keep_X11_lay rfl rfl rfl (by decide +kernel) ⟨Nat.le_of_ble_eq_true rfl, Nat.le_of_ble_eq_true rfl⟩) rfl (Nat.le_of_ble_eq_true rfl) ⟨Nat.le_of_ble_eq_true rfl, Nat.le_of_ble_eq_true rfl⟩ dX11_keep_63 (zz_kV rfl rfl (fun r1 σ2 => ?_))
  refine zz_iconst (v := 0) C dX11_keep_66 (by decide) ?_
  exact zz_iret C rfl rfl (fun _ h9 => zzXx_of h9) (Nat.le_of_ble_eq_true rfl) (Nat.le_of_ble_eq_true rfl) dX11_keep_67
set_option maxHeartbeats 4000000 in
set_option maxRecDepth 100000 in
theorem w_X11_keep_45 {l : Launch} {Z : zzG} {base : Nat} {PL : Nat → Option (Nat × Int32)} {mm : zzS} {p : Program} {e : Env} {s : State} {m : MethodId} {args : Array Value} {below : List Frame} {meth : Method} {c : Code} (C : zzCx p m meth c s args cX11_keep 5 wsX11_keep RX11 (some .int) Z) (p0 : Int32)  (p1 : Int32)  (p2 : Int32)  (p3 : Int32)    (σ : zzS) : zzGO p l e rX11_keep s m args below meth c 5 (zzA base) (zzX Z base PL mm) (zzXx Z base mm) zzRI rX11_keep.cells rX11_keep.slots (f_X11_keep_45 p0 p1 p2 p3 σ) σ 0 0 45 [(0, .ref (zzad Z 0)), (1, .int p0), (2, .int p1), (3, .int p2), (4, .int p3)] [] := by
  unfold f_X11_keep_45
  refine zz_aload_n C dX11_keep_45 rfl 0 rfl ?_
  refine zz_iload_n C dX11_keep_46 rfl 1 rfl ?_
  refine zz_iload_n C dX11_keep_47 rfl 2 rfl ?_
  refine zz_iconst (v := 1) C dX11_keep_48 (by decide) ?_
  refine zz_icmp_ne (tgt := 61) C dX11_keep_49 (by decide) (fun h1 => ?_) (fun h1 => ?_)
  · refine zz_null C dX11_keep_61 ?_
    refine zz_sub (loc' := []) [] rfl ?_
    refine zz_widen (k := 1) (n := 1) (by decide) (by decide) ?_
    exact w_X11_keep_62 C p0 p1 p2 p3 none none rfl p0 σ
  · refine zz_iload_n C dX11_keep_52 rfl 3 rfl ?_
    refine zz_iload C dX11_keep_53 4 rfl ?_
    refine zz_callSP (As := [.int p2, .int p3]) (rest := [.int p0, .ref (zzad Z 0)]) C rfl (kp_X11_personOf p2 p3 σ) (va_cwS 2 C.1.2.2.2.2 gX11_keep_X11_personOf rfl rfl rfl (by decide +kernel) ⟨Nat.le_of_ble_eq_true rfl, Nat.le_of_ble_eq_true rfl⟩) rfl (Nat.le_of_ble_eq_true rfl) ⟨Nat.le_of_ble_eq_true rfl, Nat.le_of_ble_eq_true rfl⟩ dX11_keep_55 (fun r2 σ3 PL c4 hp5 => ?_)
    refine zz_goto (tgt := 62) C dX11_keep_58 (by decide) ?_
    refine zz_sub (loc' := []) [] rfl ?_
    exact w_X11_keep_62 C p0 p1 p2 p3 r2 c4 hp5 p0 σ3
set_option maxHeartbeats 4000000 in
set_option maxRecDepth 100000 in
theorem w_X11_keep_e {l : Launch} {Z : zzG} {base : Nat} {PL : Nat → Option (Nat × Int32)} {mm : zzS} {p : Program} {e : Env} {s : State} {m : MethodId} {args : Array Value} {below : List Frame} {meth : Method} {c : Code} (C : zzCx p m meth c s args cX11_keep 5 wsX11_keep RX11 (some .int) Z) (p0 : Int32)  (p1 : Int32)  (p2 : Int32)  (p3 : Int32)  (σ : zzS) : zzGO p l e rX11_keep s m args below meth c 5 (zzA base) (zzX Z base PL mm) (zzXx Z base mm) zzRI rX11_keep.cells rX11_keep.slots (f_X11_keep p0 p1 p2 p3 σ) σ 0 0 0 [(0, .ref (zzad Z 0)), (1, .int p0), (2, .int p1), (3, .int p2), (4, .int p3)] [] := by
  unfold f_X11_keep
  refine zz_iload_n C dX11_keep_0 rfl 1 rfl ?_
  refine zz_callS (As := [.int p0]) (rest := []) C rfl (k_X11_isShelf p0 σ) (va_cwS 1 C.1.2.2.2.2 gX11_keep_X11_isShelf rfl rfl rfl (by decide +kernel) ⟨Nat.le_of_ble_eq_true rfl, Nat.le_of_ble_eq_true rfl⟩) rfl (Nat.le_of_ble_eq_true rfl) ⟨Nat.le_of_ble_eq_true rfl, Nat.le_of_ble_eq_true rfl⟩ dX11_keep_1 (zz_kI rfl rfl (fun r1 σ2 => ?_))
  refine zz_if_eq (tgt := 14) C dX11_keep_4 (by decide) (fun h3 => ?_) (fun h3 => ?_)
  · refine zz_iconst (v := -1) C dX11_keep_14 (by decide) ?_
    exact zz_iret C rfl rfl (fun _ h9 => zzXx_of h9) (Nat.le_of_ble_eq_true rfl) (Nat.le_of_ble_eq_true rfl) dX11_keep_15
  · refine zz_iload_n C dX11_keep_7 rfl 2 rfl ?_
    refine zz_callS (As := [.int p1]) (rest := []) C rfl (k_X11_isOneOfTwo p1 σ2) (va_cwS 1 C.1.2.2.2.2 gX11_keep_X11_isOneOfTwo rfl rfl rfl (by decide +kernel) ⟨Nat.le_of_ble_eq_true rfl, Nat.le_of_ble_eq_true rfl⟩) rfl (Nat.le_of_ble_eq_true rfl) ⟨Nat.le_of_ble_eq_true rfl, Nat.le_of_ble_eq_true rfl⟩ dX11_keep_8 (zz_kI rfl rfl (fun r4 σ5 => ?_))
    refine zz_if_ne (tgt := 16) C dX11_keep_11 (by decide) (fun h6 => ?_) (fun h6 => ?_)
    · refine zz_iload_n C dX11_keep_16 rfl 2 rfl ?_
      refine zz_iconst (v := 1) C dX11_keep_17 (by decide) ?_
      refine zz_icmp_ne (tgt := 45) C dX11_keep_18 (by decide) (fun h7 => ?_) (fun h7 => ?_)
      · refine zz_sub (loc' := [(0, .ref (zzad Z 0)), (1, .int p0), (2, .int p1), (3, .int p2), (4, .int p3)]) [0, 1, 2, 3, 4] rfl ?_
        exact w_X11_keep_45 C p0 p1 p2 p3 σ5
      · refine zz_iload_n C dX11_keep_21 rfl 3 rfl ?_
        refine zz_if_lt (tgt := 43) C dX11_keep_22 (by decide) (fun h8 => ?_) (fun h8 => ?_)
        · refine zz_iconst (v := -1) C dX11_keep_43 (by decide) ?_
          exact zz_iret C rfl rfl (fun _ h9 => zzXx_of h9) (Nat.le_of_ble_eq_true rfl) (Nat.le_of_ble_eq_true rfl) dX11_keep_44
        · refine zz_iload_n C dX11_keep_25 rfl 3 rfl ?_
          refine zz_bipush (v := 8) C dX11_keep_26 (by decide) ?_
          refine zz_icmp_ge (tgt := 43) C dX11_keep_28 (by decide) (fun h9 => ?_) (fun h9 => ?_)
          · refine zz_iconst (v := -1) C dX11_keep_43 (by decide) ?_
            exact zz_iret C rfl rfl (fun _ h9 => zzXx_of h9) (Nat.le_of_ble_eq_true rfl) (Nat.le_of_ble_eq_true rfl) dX11_keep_44
          · refine zz_iload C dX11_keep_31 4 rfl ?_
            refine zz_if_lt (tgt := 43) C dX11_keep_33 (by decide) (fun h10 => ?_) (fun h10 => ?_)
            · refine zz_iconst (v := -1) C dX11_keep_43 (by decide) ?_
              exact zz_iret C rfl rfl (fun _ h9 => zzXx_of h9) (Nat.le_of_ble_eq_true rfl) (Nat.le_of_ble_eq_true rfl) dX11_keep_44
            · refine zz_iload C dX11_keep_36 4 rfl ?_
              refine zz_bipush (v := 9) C dX11_keep_38 (by decide) ?_
              refine zz_icmp_le (tgt := 45) C dX11_keep_40 (by decide) (fun h11 => ?_) (fun h11 => ?_)
              · refine zz_sub (loc' := [(0, .ref (zzad Z 0)), (1, .int p0), (2, .int p1), (3, .int p2), (4, .int p3)]) [0, 1, 2, 3, 4] rfl ?_
                exact w_X11_keep_45 C p0 p1 p2 p3 σ5
              · refine zz_iconst (v := -1) C dX11_keep_43 (by decide) ?_
                exact zz_iret C rfl rfl (fun _ h9 => zzXx_of h9) (Nat.le_of_ble_eq_true rfl) (Nat.le_of_ble_eq_true rfl) dX11_keep_44
    · refine zz_iconst (v := -1) C dX11_keep_14 (by decide) ?_
      exact zz_iret C rfl rfl (fun _ h9 => zzXx_of h9) (Nat.le_of_ble_eq_true rfl) (Nat.le_of_ble_eq_true rfl) dX11_keep_15
set_option maxHeartbeats 4000000 in
set_option maxRecDepth 100000 in
theorem k_X11_keep {l : Launch} {Z : zzG} {base : Nat} {PL : Nat → Option (Nat × Int32)} {mm : zzS} (p0 : Int32)  (p1 : Int32)  (p2 : Int32)  (p3 : Int32)  (σ : zzS) : zzCT l yX11_keep wsX11_keep rX11_keep (zzA base) Z (zzX Z base PL mm) (zzXx Z base mm) zzRI [.ref (zzad Z 0), .int p0, .int p1, .int p2, .int p3] (f_X11_keep p0 p1 p2 p3 σ) σ :=
  zzCT_of (cc := cX11_keep) (nL := 5) (ret := (some .int)) (by decide) rfl (Nat.le_of_ble_eq_true rfl) [(0, .ref (zzad Z 0)), (1, .int p0), (2, .int p1), (3, .int p2), (4, .int p3)] rfl (fun p e s m args below meth c C => w_X11_keep_e C p0 p1 p2 p3 σ)
