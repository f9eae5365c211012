theorem zl_sub6 {L : Nat} (h : L ≤ 3072) : (Int32.ofNat L - 6).toInt = (L : Int) - 6 := by
  rw [Int32.toInt_sub, show Int32.ofNat L = nI L from rfl, nI_toInt (by omega), show (6 : Int32).toInt = 6 from rfl]
  exact Int.bmod_eq_of_le (by omega) (by omega)
theorem zl_tab (v : Int32) : (∃ k, k < 41 ∧ v = nI k) ∨ (v.toInt < 0 ∨ 40 < v.toInt) := by
  by_cases h : v.toInt < 0
  · exact Or.inr (Or.inl h)
  · by_cases h2 : 40 < v.toInt
    · exact Or.inr (Or.inr h2)
    · refine Or.inl ⟨v.toInt.toNat, by omega, Int32.toInt_inj.mp ?_⟩
      rw [nI_toInt (by omega)]
      omega
set_option maxHeartbeats 8000000 in
/-- one turn of the loop -/
theorem zl_disp {p : Program} {l : Launch} {e : Env} {s : State} {m : MethodId} {b : Nat} {below : List Frame} {meth : Method} {c : Code} {Z : zzG} {L : Nat} {xs : Nat → Int32} {t : Nat} (K : zlC p l e s m b below meth c Z L xs) (ht : t ≤ 511) (hL : 6 * t + 6 ≤ L) (Tl : zlT p l e s m b below meth c Z t) {x mm : zzS} {PL : Nat → Option (Nat × Int32)} {H : Heap} {locs : List Loc} {ls : Array Slot} (hR : zRel x mm) (hW : zzH Z s.heap.size PL x mm H) (hS : va_S (zzA s.heap.size) s.heap H locs) (hl : lv_has ls 8 (zlLoc Z b t)) (v : Int32) : W p l e room_1 s m #[Value.ref b] below meth c H locs (64 + 200 * t) (6000 + 200 * t) (lw_Z below #[Value.ref b] s) (F0 m 40 ls [.int v]) := by
  have C := K.1
  rcases zl_tab v with ⟨k, hk, rfl⟩ | h
  · rcases (show k = 0 ∨ k = 1 ∨ k = 2 ∨ k = 3 ∨ k = 4 ∨ k = 5 ∨ k = 6 ∨ k = 7 ∨ k = 8 ∨ k = 9 ∨ k = 10 ∨ k = 11 ∨ k = 12 ∨ k = 13 ∨ k = 14 ∨ k = 15 ∨ k = 16 ∨ k = 17 ∨ k = 18 ∨ k = 19 ∨ k = 20 ∨ k = 21 ∨ k = 22 ∨ k = 23 ∨ k = 24 ∨ k = 25 ∨ k = 26 ∨ k = 27 ∨ k = 28 ∨ k = 29 ∨ k = 30 ∨ k = 31 ∨ k = 32 ∨ k = 33 ∨ k = 34 ∨ k = 35 ∨ k = 36 ∨ k = 37 ∨ k = 38 ∨ k = 39 ∨ k = 40 by omega) with rfl | rfl | rfl | rfl | rfl | rfl | rfl | rfl | rfl | rfl | rfl | rfl | rfl | rfl | rfl | rfl | rfl | rfl | rfl | rfl | rfl | rfl | rfl | rfl | rfl | rfl | rfl | rfl | rfl | rfl | rfl | rfl | rfl | rfl | rfl | rfl | rfl | rfl | rfl | rfl | rfl
    · exact lv_tableIn (x := nI 0) (off := 180) (tgt := 220) C.1.1 C.1.2.1 dL_law_40 (by decide) (by decide) rfl (by decide) (lc_0 K ht hL Tl hR hW hS hl)
    · exact lv_tableIn (x := nI 1) (off := 205) (tgt := 245) C.1.1 C.1.2.1 dL_law_40 (by decide) (by decide) rfl (by decide) (lc_1 K ht hL Tl hR hW hS hl)
    · exact lv_tableIn (x := nI 2) (off := 242) (tgt := 282) C.1.1 C.1.2.1 dL_law_40 (by decide) (by decide) rfl (by decide) (lc_2 K ht hL Tl hR hW hS hl)
    · exact lv_tableIn (x := nI 3) (off := 279) (tgt := 319) C.1.1 C.1.2.1 dL_law_40 (by decide) (by decide) rfl (by decide) (lc_3 K ht hL Tl hR hW hS hl)
    · exact lv_tableIn (x := nI 4) (off := 304) (tgt := 344) C.1.1 C.1.2.1 dL_law_40 (by decide) (by decide) rfl (by decide) (lc_4 K ht hL Tl hR hW hS hl)
    · exact lv_tableIn (x := nI 5) (off := 353) (tgt := 393) C.1.1 C.1.2.1 dL_law_40 (by decide) (by decide) rfl (by decide) (lc_5 K ht hL Tl hR hW hS hl)
    · exact lv_tableIn (x := nI 6) (off := 378) (tgt := 418) C.1.1 C.1.2.1 dL_law_40 (by decide) (by decide) rfl (by decide) (lc_6 K ht hL Tl hR hW hS hl)
    · exact lv_tableIn (x := nI 7) (off := 415) (tgt := 455) C.1.1 C.1.2.1 dL_law_40 (by decide) (by decide) rfl (by decide) (lc_7 K ht hL Tl hR hW hS hl)
    · exact lv_tableIn (x := nI 8) (off := 452) (tgt := 492) C.1.1 C.1.2.1 dL_law_40 (by decide) (by decide) rfl (by decide) (lc_8 K ht hL Tl hR hW hS hl)
    · exact lv_tableIn (x := nI 9) (off := 477) (tgt := 517) C.1.1 C.1.2.1 dL_law_40 (by decide) (by decide) rfl (by decide) (lc_9 K ht hL Tl hR hW hS hl)
    · exact lv_tableIn (x := nI 10) (off := 502) (tgt := 542) C.1.1 C.1.2.1 dL_law_40 (by decide) (by decide) rfl (by decide) (lc_10 K ht hL Tl hR hW hS hl)
    · exact lv_tableIn (x := nI 11) (off := 527) (tgt := 567) C.1.1 C.1.2.1 dL_law_40 (by decide) (by decide) rfl (by decide) (lc_11 K ht hL Tl hR hW hS hl)
    · exact lv_tableIn (x := nI 12) (off := 540) (tgt := 580) C.1.1 C.1.2.1 dL_law_40 (by decide) (by decide) rfl (by decide) (lc_12 K ht hL Tl hR hW hS hl)
    · exact lv_tableIn (x := nI 13) (off := 553) (tgt := 593) C.1.1 C.1.2.1 dL_law_40 (by decide) (by decide) rfl (by decide) (lc_13 K ht hL Tl hR hW hS hl)
    · exact lv_tableIn (x := nI 14) (off := 578) (tgt := 618) C.1.1 C.1.2.1 dL_law_40 (by decide) (by decide) rfl (by decide) (lc_14 K ht hL Tl hR hW hS hl)
    · exact lv_tableIn (x := nI 15) (off := 615) (tgt := 655) C.1.1 C.1.2.1 dL_law_40 (by decide) (by decide) rfl (by decide) (lc_15 K ht hL Tl hR hW hS hl)
    · exact lv_tableIn (x := nI 16) (off := 652) (tgt := 692) C.1.1 C.1.2.1 dL_law_40 (by decide) (by decide) rfl (by decide) (lc_16 K ht hL Tl hR hW hS hl)
    · exact lv_tableIn (x := nI 17) (off := 677) (tgt := 717) C.1.1 C.1.2.1 dL_law_40 (by decide) (by decide) rfl (by decide) (lc_17 K ht hL Tl hR hW hS hl)
    · exact lv_tableIn (x := nI 18) (off := 714) (tgt := 754) C.1.1 C.1.2.1 dL_law_40 (by decide) (by decide) rfl (by decide) (lc_18 K ht hL Tl hR hW hS hl)
    · exact lv_tableIn (x := nI 19) (off := 739) (tgt := 779) C.1.1 C.1.2.1 dL_law_40 (by decide) (by decide) rfl (by decide) (lc_19 K ht hL Tl hR hW hS hl)
    · exact lv_tableIn (x := nI 20) (off := 764) (tgt := 804) C.1.1 C.1.2.1 dL_law_40 (by decide) (by decide) rfl (by decide) (lc_20 K ht hL Tl hR hW hS hl)
    · exact lv_tableIn (x := nI 21) (off := 777) (tgt := 817) C.1.1 C.1.2.1 dL_law_40 (by decide) (by decide) rfl (by decide) (lc_21 K ht hL Tl hR hW hS hl)
    · exact lv_tableIn (x := nI 22) (off := 803) (tgt := 843) C.1.1 C.1.2.1 dL_law_40 (by decide) (by decide) rfl (by decide) (lc_22 K ht hL Tl hR hW hS hl)
    · exact lv_tableIn (x := nI 23) (off := 853) (tgt := 893) C.1.1 C.1.2.1 dL_law_40 (by decide) (by decide) rfl (by decide) (lc_23 K ht hL Tl hR hW hS hl)
    · exact lv_tableIn (x := nI 24) (off := 903) (tgt := 943) C.1.1 C.1.2.1 dL_law_40 (by decide) (by decide) rfl (by decide) (lc_24 K ht hL Tl hR hW hS hl)
    · exact lv_tableIn (x := nI 25) (off := 928) (tgt := 968) C.1.1 C.1.2.1 dL_law_40 (by decide) (by decide) rfl (by decide) (lc_25 K ht hL Tl hR hW hS hl)
    · exact lv_tableIn (x := nI 26) (off := 953) (tgt := 993) C.1.1 C.1.2.1 dL_law_40 (by decide) (by decide) rfl (by decide) (lc_26 K ht hL Tl hR hW hS hl)
    · exact lv_tableIn (x := nI 27) (off := 990) (tgt := 1030) C.1.1 C.1.2.1 dL_law_40 (by decide) (by decide) rfl (by decide) (lc_27 K ht hL Tl hR hW hS hl)
    · exact lv_tableIn (x := nI 28) (off := 1039) (tgt := 1079) C.1.1 C.1.2.1 dL_law_40 (by decide) (by decide) rfl (by decide) (lc_28 K ht hL Tl hR hW hS hl)
    · exact lv_tableIn (x := nI 29) (off := 1076) (tgt := 1116) C.1.1 C.1.2.1 dL_law_40 (by decide) (by decide) rfl (by decide) (lc_29 K ht hL Tl hR hW hS hl)
    · exact lv_tableIn (x := nI 30) (off := 1113) (tgt := 1153) C.1.1 C.1.2.1 dL_law_40 (by decide) (by decide) rfl (by decide) (lc_30 K ht hL Tl hR hW hS hl)
    · exact lv_tableIn (x := nI 31) (off := 1162) (tgt := 1202) C.1.1 C.1.2.1 dL_law_40 (by decide) (by decide) rfl (by decide) (lc_31 K ht hL Tl hR hW hS hl)
    · exact lv_tableIn (x := nI 32) (off := 1175) (tgt := 1215) C.1.1 C.1.2.1 dL_law_40 (by decide) (by decide) rfl (by decide) (lc_32 K ht hL Tl hR hW hS hl)
    · exact lv_tableIn (x := nI 33) (off := 1188) (tgt := 1228) C.1.1 C.1.2.1 dL_law_40 (by decide) (by decide) rfl (by decide) (lc_33 K ht hL Tl hR hW hS hl)
    · exact lv_tableIn (x := nI 34) (off := 1213) (tgt := 1253) C.1.1 C.1.2.1 dL_law_40 (by decide) (by decide) rfl (by decide) (lc_34 K ht hL Tl hR hW hS hl)
    · exact lv_tableIn (x := nI 35) (off := 1274) (tgt := 1314) C.1.1 C.1.2.1 dL_law_40 (by decide) (by decide) rfl (by decide) (lc_35 K ht hL Tl hR hW hS hl)
    · exact lv_tableIn (x := nI 36) (off := 1323) (tgt := 1363) C.1.1 C.1.2.1 dL_law_40 (by decide) (by decide) rfl (by decide) (lc_36 K ht hL Tl hR hW hS hl)
    · exact lv_tableIn (x := nI 37) (off := 1372) (tgt := 1412) C.1.1 C.1.2.1 dL_law_40 (by decide) (by decide) rfl (by decide) (lc_37 K ht hL Tl hR hW hS hl)
    · exact lv_tableIn (x := nI 38) (off := 1439) (tgt := 1479) C.1.1 C.1.2.1 dL_law_40 (by decide) (by decide) rfl (by decide) (lc_38 K ht hL Tl hR hW hS hl)
    · exact lv_tableIn (x := nI 39) (off := 1512) (tgt := 1552) C.1.1 C.1.2.1 dL_law_40 (by decide) (by decide) rfl (by decide) (lc_39 K ht hL Tl hR hW hS hl)
    · exact lv_tableIn (x := nI 40) (off := 1537) (tgt := 1577) C.1.1 C.1.2.1 dL_law_40 (by decide) (by decide) rfl (by decide) (lc_40 K ht hL Tl hR hW hS hl)
  · exact lv_tableOut (tgt := 1602) C.1.1 C.1.2.1 dL_law_40 h (by decide) (Tl x mm PL H locs ls _ _ hR hW hS hl (Nat.le_add_right _ _) (Nat.le_add_right _ _))
set_option maxHeartbeats 4000000 in
theorem zl_step {p : Program} {l : Launch} {e : Env} {s : State} {m : MethodId} {b : Nat} {below : List Frame} {meth : Method} {c : Code} {Z : zzG} {L : Nat} {xs : Nat → Int32} {t : Nat} (K : zlC p l e s m b below meth c Z L xs) (h6 : 6 * t ≤ L) (Tl : 6 * t + 6 ≤ L → zlT p l e s m b below meth c Z t) {x mm : zzS} {PL : Nat → Option (Nat × Int32)} {H : Heap} {locs : List Loc} {ls : Array Slot} (hR : zRel x mm) (hW : zzH Z s.heap.size PL x mm H) (hS : va_S (zzA s.heap.size) s.heap H locs) (hl : lv_has ls 8 (zlLoc Z b t)) : W p l e room_1 s m #[Value.ref b] below meth c H locs (64 + 200 * t) (6000 + 200 * t) (lw_Z below #[Value.ref b] s) (F0 m 23 ls []) := by
  have C := K.1
  have L2 := K.2.2.2.2.2.2
  refine lv_iload C.1.1 C.1.2.1 dL_law_23 (lv_at hl 4 rfl) ?_
  refine lv_aload_n C.1.1 C.1.2.1 dL_law_25 rfl (lv_at hl 0 rfl) ?_
  refine va_slen C.1.1 C.1.2.1 K.2.2.2.1 K.2.2.2.2.1 (Nat.not_le.mpr K.2.2.2.2.1) hS dL_law_26 ?_
  refine lv_bipush (v := 6) C.1.1 C.1.2.1 dL_law_27 (by decide) ?_
  refine lv_isub C.1.1 C.1.2.1 dL_law_29 ?_
  refine lv_icmp_gt (tgt := 1608) C.1.1 C.1.2.1 dL_law_30 (by decide) (fun _ => ?_) (fun hg => ?_)
  · refine lv_iconst (v := 1) C.1.1 C.1.2.1 dL_law_1608 (by decide) ?_
    refine va_forget (fun q hq => hS.2.2 q hq) ?_
    refine W.widen (k := 601024) (n := 7293034) (by omega) (by omega) ?_
    exact lw_ret C.1.1 C.1.2.1 C.2.1 C.2.2.1 dL_law_1609
  · have hL : 6 * t + 6 ≤ L := by
      rcases Nat.lt_or_ge L (6 * t + 6) with q | q
      · exfalso
        refine hg (Int32.lt_iff_toInt_lt.mpr ?_)
        rw [zl_sub6 L2, nI_toInt (by omega)]
        omega
      · exact q
    refine lv_aload_n C.1.1 C.1.2.1 dL_law_33 rfl (lv_at hl 0 rfl) ?_
    refine lv_iload C.1.1 C.1.2.1 dL_law_34 (lv_at hl 4 rfl) ?_
    refine va_sld C.1.1 C.1.2.1 K.2.2.2.1 K.2.2.2.2.1 (Nat.not_le.mpr K.2.2.2.2.1) hS (vp_in_nI (by omega) (by omega)) dL_law_36 ?_
    refine lv_bipush (v := 63) C.1.1 C.1.2.1 dL_law_37 (by decide) ?_
    refine lv_iand C.1.1 C.1.2.1 dL_law_39 ?_
    exact zl_disp K (by omega) hL (Tl hL) hR hW hS hl _
set_option maxHeartbeats 4000000 in
theorem zl_loop {p : Program} {l : Launch} {e : Env} {s : State} {m : MethodId} {b : Nat} {below : List Frame} {meth : Method} {c : Code} {Z : zzG} {L : Nat} {xs : Nat → Int32} (K : zlC p l e s m b below meth c Z L xs) : ∀ (n t : Nat), t + n = 512 → 6 * t ≤ L → ∀ (x mm : zzS) (PL : Nat → Option (Nat × Int32)) (H : Heap) (locs : List Loc) (ls : Array Slot), zRel x mm → zzH Z s.heap.size PL x mm H → va_S (zzA s.heap.size) s.heap H locs → lv_has ls 8 (zlLoc Z b t) → W p l e room_1 s m #[Value.ref b] below meth c H locs (64 + 200 * t) (6000 + 200 * t) (lw_Z below #[Value.ref b] s) (F0 m 23 ls []) := by
  have C := K.1
  have L2 := K.2.2.2.2.2.2
  intro n
  induction n with
  | zero =>
    intro t ht h6 x mm PL H locs ls hR hW hS hl
    exact zl_step K h6 (fun h => by omega) hR hW hS hl
  | succ n ih =>
    intro t ht h6 x mm PL H locs ls hR hW hS hl
    refine zl_step K h6 (fun hL => ?_) hR hW hS hl
    intro x mm PL H locs ls ca sa hR hW hS hl hca hsa
    have e1 : nI (6 * t) + Int32.ofInt 6 = nI (6 * (t + 1)) := by
      rw [show Int32.ofInt 6 = nI 6 from rfl, nI_add, show 6 * t + 6 = 6 * (t + 1) by omega]
    refine lv_iinc (k := 4) (lv' := [(4, .int (nI (6 * (t + 1)))), (0, .ref b), (1, .ref (zzad Z 0)), (2, .ref (zzad Z 36)), (3, .ref (zzad Z 55))]) C.1.1 C.1.2.1 dL_law_1602 hl rfl e1 (by decide) rfl (fun ls hl => ?_)
    have hl := lv_sub (l' := zlLoc Z b (t + 1)) hl [1, 2, 3, 4, 0] rfl
    refine lv_goto (tgt := 23) C.1.1 C.1.2.1 dL_law_1605 (by decide) ?_
    refine W.widen (k := 64 + 200 * (t + 1)) (n := 6000 + 200 * (t + 1)) (by omega) (by omega) ?_
    exact ih (t + 1) (by omega) (by omega) x mm PL H locs ls hR hW hS hl
