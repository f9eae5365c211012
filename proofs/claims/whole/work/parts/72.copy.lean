/-! ===== copy: the class's walk ===== -/
section CP
variable {p : Program} {l : Launch} {e : Env} {R : Room} {s : State} {m : MethodId} {args : Array Value} {below : List Frame} {meth : Method} {c : Code} {H : Heap} {locs : List Loc} {cells slots pc : Nat} {Q : State → Prop} {ls : Array Slot} {rest : List Value} {Z : zzG} {base : Nat} {cc : ByteArray} {ws : List Cond} {own : String} {ret : Option FieldType} {nL : Nat}
theorem zx_astoreq (C : zzCx p m meth c s args cc nL ws own ret Z) {i : Nat} {x : Option Nat} {loc loc' : List (Nat × Value)} (hd : decode cc pc = .ok (.astore i, 2)) (hl : lv_has ls nL loc) (hn : i < nL) (hl' : zzst1 i (va_rf x) loc = loc') (kk : ∀ ls' : Array Slot, lv_has ls' nL loc' → W p l e R s m args below meth c H locs cells slots Q (F0 m (pc + 2) ls' rest)) : W p l e R s m args below meth c H locs cells slots Q (F0 m pc ls (va_rf x :: rest)) := by
  cases x with
  | none => exact lv_astoreN C.1.1 C.1.2.1 hd hl hn hl' kk
  | some x => exact lv_astore C.1.1 C.1.2.1 hd hl hn hl' kk
theorem zx_aloadq (C : zzCx p m meth c s args cc nL ws own ret Z) {i : Nat} {x : Option Nat} (hd : decode cc pc = .ok (.aload i, 2)) (hj : ls[i]? = some (.val (va_rf x))) (kk : W p l e R s m args below meth c H locs cells slots Q (F0 m (pc + 2) ls (va_rf x :: rest))) : W p l e R s m args below meth c H locs cells slots Q (F0 m pc ls rest) := by
  cases x with
  | none => exact lv_aloadN C.1.1 C.1.2.1 hd hj kk
  | some x => exact lv_aload C.1.1 C.1.2.1 hd hj kk
/-- System.arraycopy between two int arrays -/
theorem zx_acopy (C : zzCx p m meth c s args cc nL ws own ret Z) {index a0 a n0 n1 : Nat} {f g : Nat → Int32} {sp dp n : Int32} (w1 : Cond.methodLink own index arraycopyName ∈ ws) (w2 : Cond.native arraycopyName ∈ ws) (w3 : Cond.static arraycopyName ∈ ws) (w4 : Cond.initialized "java/lang/System" ∈ ws)
    (hE0 : va_at Z.1 vwCl (a0, .inl (zzcA Z 0, n0, .inl f)) H) (hE1 : va_at Z.1 vwCl (a, .inl (zzcA Z 0, n1, .inl g)) H) (h1 : ¬ sp < 0) (h2 : ¬ dp < 0) (h3 : ¬ n < 0) (h4 : sp.toNatClampNeg + n.toNatClampNeg ≤ n0) (h5 : dp.toNatClampNeg + n.toNatClampNeg ≤ n1)
    (hS : va_S (zzA base) s.heap H locs) (hA : base ≤ a) (hsz : ls.size = nL) (hframes : 1 ≤ R.frames) (hlocals : (rest.map fun v => v.category).sum + (nativeFrameWords "java/lang/System" "arraycopy" 5 + 11) ≤ R.locals) (hdg : decode cc pc = .ok (.invokestatic index, 3))
    (kk : ∀ (H1 : Heap) (locs1 : List Loc), va_at Z.1 vwCl (a, .inl (zzcA Z 0, n1, .inl (va_cpy f g sp.toNatClampNeg dp.toNatClampNeg n.toNatClampNeg))) H1 → (∀ q : Nat, q ≠ a → H1[q]? = H[q]?) → va_S (zzA base) s.heap H1 locs1 → W p l e R s m args below meth c H1 locs1 cells slots Q (F0 m (pc + 3) ls rest)) : W p l e R s m args below meth c H locs cells slots Q (F0 m pc ls (.int n :: .int dp :: .ref a :: .int sp :: .ref a0 :: rest)) := by
  have nn : ∀ z : Int32, ¬ z < 0 → z.toInt = (z.toNatClampNeg : Int) := by
    intro z hz
    have hz0 : 0 ≤ z.toInt := by
      have := Int32.not_lt.mp hz
      simpa using Int32.le_iff_toInt_le.mp this
    show z.toInt = ((z.toInt.toNat : Nat) : Int)
    omega
  intro T hT X
  have hK := C.2.2.2.1
  have hc0 : H[a0]? = some (vp_cell (zzcA Z 0) (n0, .inl f)) := hE0
  have hc1 : H[a]? = some (vp_cell (zzcA Z 0) (n1, .inl g)) := hE1
  obtain ⟨-, k0, hk0, cm0, hkk0⟩ := (hK.2 0 _ rfl).1 n0 (fun j => .int (f j))
  obtain ⟨-, k1, hk1, cm1, hkk1⟩ := (hK.2 0 _ rfl).1 n1 (fun j => .int (g j))
  obtain ⟨vm', X', step⟩ := X.arraycopy C.1.1 C.1.2.2.2.1 (C.1.2.2.2.2 _ w1) (C.1.2.2.2.2 _ w2) (C.1.2.2.2.2 _ w3) (C.1.2.2.2.2 _ w4) (src := a0) (dst := a) (cs := vp_cell (zzcA Z 0) (n0, .inl f)) (cd := vp_cell (zzcA Z 0) (n1, .inl g)) (srcPos := sp) (destPos := dp) (n := n) (by rw [hT]; exact hc0) (by rw [hT]; exact hc1)
    (fun _ h => by cases h) (fun _ h => by cases h) (fun h => by cases h) (fun h => by cases h) hk0 hk1 hkk0 hkk1 (by rfl) h1 h2 h3
    (by rw [nn sp h1, nn n h3]; show ¬ _ > ((arrV (zzcA Z 0) n0 (fun j => .int (f j))).slots.size : Int); rw [arrV_size]; omega)
    (by rw [nn dp h2, nn n h3]; show ¬ _ > ((arrV (zzcA Z 0) n1 (fun j => .int (g j))).slots.size : Int); rw [arrV_size]; omega)
    (fun vm₁ _ i hi => by
      have e : (vp_cell (zzcA Z 0) (n0, .inl f)).slots.getD (sp.toNatClampNeg + i) .null = .int (f (sp.toNatClampNeg + i)) := by
        show (arrV (zzcA Z 0) n0 (fun j => .int (f j))).slots.getD _ _ = _
        rw [Array.getD_eq_getD_getElem?, arrV_read _ _ (by omega)]
        rfl
      rw [e]
      exact ⟨rfl, trivial⟩)
    (g := F0 m pc ls (.int n :: .int dp :: .ref a :: .int sp :: .ref a0 :: rest)) rfl (hsz.trans C.1.2.2.1.symm) (rest := rest) rfl (by rw [C.1.2.1]; exact hdg) hframes (by show 2 * 0 + _ + _ ≤ _; omega)
  have e1 : copied (vp_cell (zzcA Z 0) (n0, .inl f)) (vp_cell (zzcA Z 0) (n1, .inl g)) sp dp n = vp_cell (zzcA Z 0) (n1, .inl (va_cpy f g sp.toNatClampNeg dp.toNatClampNeg n.toNatClampNeg)) := va_copied (fun z => .int z) (zzcA Z 0) (zzcA Z 0) f g h4
  rw [e1] at X' step
  have hl : a < H.size := (Array.getElem?_eq_some_iff.mp hc1).1
  have hheap : ((T.setVm vm').setCell a (vp_cell (zzcA Z 0) (n1, .inl (va_cpy f g sp.toNatClampNeg dp.toNatClampNeg n.toNatClampNeg)))).heap = H.setIfInBounds a (vp_cell (zzcA Z 0) (n1, .inl (va_cpy f g sp.toNatClampNeg dp.toNatClampNeg n.toNatClampNeg))) := by rw [← hT]; rfl
  have oq : ∀ q : Nat, q ≠ a → (H.setIfInBounds a (vp_cell (zzcA Z 0) (n1, .inl (va_cpy f g sp.toNatClampNeg dp.toNatClampNeg n.toNatClampNeg))))[q]? = H[q]? := fun q hq => by simp [Array.getElem?_setIfInBounds, Ne.symm hq]
  obtain ⟨t, a1, b1⟩ := kk _ _ (show (H.setIfInBounds a _)[a]? = some _ by simp [Array.getElem?_setIfInBounds, hl]) oq ⟨by simp; exact hS.1, fun q g1 g2 => by
      rw [oq q (fun e => g2 (by rw [e]; exact hA))]
      exact hS.2.1 q g1 g2, fun q hq => by
      rcases List.mem_append.mp hq with h | h
      · exact hS.2.2 q h
      · obtain ⟨z, -, hz⟩ := List.mem_map.mp h
        rw [← hz]
        exact hA⟩ _ hheap X'
  exact ⟨t, step t a1, b1⟩
end CP
theorem p_isShelf {p0 : Int32} {σ σ' : zzS} {r : Int32} (h : f_X11_isShelf p0 σ = some (r, σ')) : σ' = σ := by
  unfold f_X11_isShelf at h
  by_cases c1 : p0 < 0
  · rw [if_pos c1] at h; cases h; rfl
  · by_cases c2 : p0 < 8
    · rw [if_neg c1, if_pos c2] at h; cases h; rfl
    · rw [if_neg c1, if_neg c2] at h; cases h; rfl
theorem p_rowOn {p0 : Int32} {σ σ' : zzS} {r : Option Nat} (h : f_X11_rowOn p0 σ = some (r, σ')) : σ' = σ ∧ ∀ j, r = some j → ∃ d, d < 8 ∧ zzq σ d = some j := by
  unfold f_X11_rowOn at h
  by_cases c1 : p0 < 0
  · rw [if_pos c1] at h; cases h; exact ⟨rfl, fun j h => by cases h⟩
  · by_cases c2 : p0 < 8
    · rw [if_neg c1, if_pos c2] at h
      have h2 := (zzgd_some h).2
      have h2 : some (zzq σ (Int32.toNatClampNeg p0), σ) = some (r, σ') := h2
      cases h2
      exact ⟨rfl, fun j h3 => ⟨_, Nat.not_le.mp (fun q => (zzgd_some h).1 (Or.inr q)), h3⟩⟩
    · rw [if_neg c1, if_neg c2] at h; cases h; exact ⟨rfl, fun j h => by cases h⟩
theorem p_oneOn {p0 : Int32} {σ σ' : zzS} {r : Option (Nat × Int32)} (h : f_X11_oneOn p0 σ = some (r, σ')) : σ' = σ := by
  unfold f_X11_oneOn at h
  by_cases c1 : p0 < 0
  · rw [if_pos c1] at h; cases h; rfl
  · by_cases c2 : p0 < (Int32.ofNat (zzplen 1))
    · rw [if_neg c1, if_pos c2] at h
      have h2 := (zzgd_some h).2
      cases h2
      rfl
    · rw [if_neg c1, if_neg c2] at h; cases h; rfl
theorem p_isBare {p0 : Int32} {σ σ' : zzS} {r : Int32} (h : f_X11_isBare p0 σ = some (r, σ')) : σ' = σ := by
  unfold f_X11_isBare at h
  obtain ⟨r1, σ2, e1, h⟩ := zzbd_some h
  have e2 := p_oneOn e1
  subst e2
  cases r1 with
  | none =>
    obtain ⟨r10, σ11, e3, h⟩ := zzbd_some (show zzbd (f_X11_rowOn p0 σ2) (fun r10 σ11 => (zzon r10 (some ((1 : Int32), σ11)) (fun j12 => zzgd (zzrow j12) (some ((0 : Int32), σ11))))) = some (r, σ') from h)
    have e4 := (p_rowOn e3).1
    subst e4
    cases r10 with
    | none =>
      have h : some ((1 : Int32), σ11) = some (r, σ') := h
      cases h; rfl
    | some j =>
      have h : zzgd (zzrow j) (some ((0 : Int32), σ11)) = some (r, σ') := h
      have h2 := (zzgd_some h).2
      cases h2; rfl
  | some kf =>
    have h : some ((0 : Int32), σ2) = some (r, σ') := h
    cases h; rfl
theorem p_has {r0 n : Nat} {p0 p1 : Int32} {σ σ' : zzS} {r : Int32} (hn : n ≤ 100) (hz : zzi σ r0 2 = nI n) (h : f_X7_has r0 p0 p1 σ = some (r, σ')) : σ' = σ ∧ (¬ r = 0 → zok3 n p0 p1) := by
  by_cases c : zok3 n p0 p1
  · rw [x7_hasN hz hn, if_pos c] at h
    cases h
    exact ⟨rfl, fun _ => c⟩
  · rw [x7_hasN hz hn, if_neg c] at h
    cases h
    exact ⟨rfl, fun h => absurd rfl h⟩
theorem zcl {z : Int32} (h : 0 ≤ z.toInt) : ¬ z < 0 ∧ (z.toNatClampNeg : Int) = z.toInt := by
  refine ⟨fun c => ?_, ?_⟩
  · have := Int32.lt_iff_toInt_lt.mp c
    have h0 : (0 : Int32).toInt = 0 := rfl
    omega
  · show ((z.toInt.toNat : Nat) : Int) = z.toInt
    omega
abbrev rX11_copy : Room := { frames := 2, cells := 0, slots := 0, locals := 43 }
set_option maxHeartbeats 8000000 in
set_option maxRecDepth 100000 in
theorem w_X11_copy_e {l : Launch} {Z : zzG} {base : Nat} {PL : Nat → Option (Nat × Int32)} {mm : zzS} {p : Program} {e : Env} {s : State} {m : MethodId} {args : Array Value} {below : List Frame} {meth : Method} {c : Code} (C : zzCx p m meth c s args cX11_copy 8 wsX11_copy RX11 (some .int) Z) (p0 p1 p2 p3 p4 : Int32) (σ : zzS) (hσ : ∀ d j, d < 8 → zzq σ d = some j → ∃ n, n ≤ 100 ∧ zzi σ j 2 = nI n) : zzGO p l e rX11_copy s m args below meth c 8 (zzA base) (zzX Z base PL mm) (zzX Z base PL mm) zzRI rX11_copy.cells rX11_copy.slots (f_X11_copy p0 p1 p2 p3 p4 σ) σ 0 0 0 [(0, .ref (zzad Z 0)), (1, .int p0), (2, .int p1), (3, .int p2), (4, .int p3), (5, .int p4)] [] := by
  intro r σ' hf H locs ls hW hS hl
  unfold f_X11_copy at hf
  replace hf := zzbd_some hf
  obtain ⟨r1, σ2, e1, hf⟩ := hf
  have q1 := p_isShelf e1
  subst q1
  have done : ∀ (v : Int32) (pcv : Nat) (hd : decode cX11_copy pcv = .ok (.ireturn, 1)) (H : Heap) (locs : List Loc) (ls : Array Slot) (τ : zzS), some (v, τ) = some (r, σ') → zzX Z base PL mm τ H → va_S (zzA base) s.heap H locs → W p l e rX11_copy s m args below meth c H locs 0 0 (MQ below (zzQ zzRI (zzX Z base PL mm) (zzA base) r σ') args s rX11_copy.cells rX11_copy.slots (zzA base)) (F0 m pcv ls [.int v]) := fun v pcv hd H locs ls τ he hW hS => by
    cases he
    exact W.iret C.1.1 C.1.2.1 C.2.1 (fun t ht hWm => ⟨⟨_, rfl, rfl, by rw [ht]; exact hW⟩, hS.F ht⟩) hS.2.2 hd C.2.2.1
  have sh : ∀ (q : Int32) (r1 : Int32) (σ3 : zzS) (e1 : f_X11_isShelf q σ2 = some (r1, σ3)), Met l yX11_isShelf wsX11_isShelf rX11_isShelf (zzPc Z (zzX Z base PL mm) [.int q] σ2) (zzQ zzRI (zzX Z base PL mm) (zzA base) r1 σ3) rX11_isShelf.cells rX11_isShelf.slots (zzA base) := fun q r1 σ3 e1 => k_X11_isShelf q σ2 r1 σ3 e1
  refine lv_iload_n C.1.1 C.1.2.1 dX11_copy_0 rfl (lv_at hl 1 rfl) ?_
  refine zx_call (w := [.int r1]) (fun v h => by rw [show v = some (.int r1) from h]; rfl) (va_runS (As := [.int p0]) (rest := []) C.1 (sh p0 r1 σ2 e1) (va_cwS 1 C.1.2.2.2.2 gX11_copy_X11_isShelf rfl rfl rfl (by decide +kernel) ⟨Nat.le_of_ble_eq_true rfl, Nat.le_of_ble_eq_true rfl⟩) ⟨zzPc_blind, fun U hU hWm => zzPc_at C.2.2.2 hU hWm hW⟩ rfl rfl hl.1 rfl (lv_room (by decide)) dX11_copy_1 ⟨Nat.le_of_ble_eq_true rfl, Nat.le_of_ble_eq_true rfl⟩) hS (fun H locs hW hS => ?_)
  refine lv_if_eq (tgt := 14) C.1.1 C.1.2.1 dX11_copy_4 (by decide) (fun h => ?_) (fun h => ?_)
  · rw [if_pos h] at hf
    refine lv_iconst (v := -1) C.1.1 C.1.2.1 dX11_copy_14 (by decide) ?_
    exact done _ _ dX11_copy_15 _ _ _ _ hf hW hS
  rw [if_neg h] at hf
  replace hf := zzbd_some hf
  obtain ⟨r3, σ4, e3, hf⟩ := hf
  have q3 := p_isShelf e3
  subst q3
  refine lv_iload_n C.1.1 C.1.2.1 dX11_copy_7 rfl (lv_at hl 3 rfl) ?_
  refine zx_call (w := [.int r3]) (fun v h => by rw [show v = some (.int r3) from h]; rfl) (va_runS (As := [.int p2]) (rest := []) C.1 (sh p2 r3 _ e3) (va_cwS 1 C.1.2.2.2.2 gX11_copy_X11_isShelf rfl rfl rfl (by decide +kernel) ⟨Nat.le_of_ble_eq_true rfl, Nat.le_of_ble_eq_true rfl⟩) ⟨zzPc_blind, fun U hU hWm => zzPc_at C.2.2.2 hU hWm hW⟩ rfl rfl hl.1 rfl (lv_room (by decide)) dX11_copy_8 ⟨Nat.le_of_ble_eq_true rfl, Nat.le_of_ble_eq_true rfl⟩) hS (fun H locs hW hS => ?_)
  refine lv_if_ne (tgt := 16) C.1.1 C.1.2.1 dX11_copy_11 (by decide) (fun h => ?_) (fun h => ?_)
  rotate_left
  · rw [if_pos h] at hf
    refine lv_iconst (v := -1) C.1.1 C.1.2.1 dX11_copy_14 (by decide) ?_
    exact done _ _ dX11_copy_15 _ _ _ _ hf hW hS
  rw [if_neg h] at hf
  replace hf := zzbd_some hf
  obtain ⟨r5, σ6, e5, hf⟩ := hf
  have q5 := p_isBare e5
  subst q5
  have bare : ∀ (H : Heap) (locs : List Loc) (ls : Array Slot) (τ : zzS), some ((-11 : Int32), τ) = some (r, σ') → zzX Z base PL mm τ H → va_S (zzA base) s.heap H locs → W p l e rX11_copy s m args below meth c H locs 0 0 (MQ below (zzQ zzRI (zzX Z base PL mm) (zzA base) r σ') args s rX11_copy.cells rX11_copy.slots (zzA base)) (F0 m 32 ls []) := fun H locs ls τ he hW hS => by
    refine lv_bipush (v := -11) C.1.1 C.1.2.1 dX11_copy_32 (by decide) ?_
    exact done _ _ dX11_copy_34 _ _ _ _ he hW hS
  refine lv_aload_n C.1.1 C.1.2.1 dX11_copy_16 rfl (lv_at hl 0 rfl) ?_
  refine lv_iload_n C.1.1 C.1.2.1 dX11_copy_17 rfl (lv_at hl 1 rfl) ?_
  refine zx_call (w := [.int r5]) (fun v h => by rw [show v = some (.int r5) from h]; rfl) (va_runV (As := [.int p0]) (rest := []) (C := RX11) C.1 (k_X11_isBare p0 _ r5 _ e5) (cwV 1 C.1.2.2.2.2 gX11_copy_X11_isBare rfl rfl rfl (by decide +kernel) ⟨Nat.le_of_ble_eq_true rfl, Nat.le_of_ble_eq_true rfl⟩) ⟨zzPc_blind, zz_recv C.2.2.2 (zzX_obj H hW) rfl, fun U hU hWm => zzPc_at C.2.2.2 hU hWm hW⟩ rfl rfl hl.1 rfl (lv_room (by decide)) dX11_copy_18 ⟨Nat.le_of_ble_eq_true rfl, Nat.le_of_ble_eq_true rfl⟩) hS (fun H locs hW hS => ?_)
  refine lv_if_ne (tgt := 32) C.1.1 C.1.2.1 dX11_copy_21 (by decide) (fun h => ?_) (fun h => ?_)
  · rw [if_neg h] at hf
    exact bare _ _ _ _ hf hW hS
  rw [if_pos h] at hf
  replace hf := zzbd_some hf
  obtain ⟨r7, σ8, e7, hf⟩ := hf
  have q7 := p_isBare e7
  subst q7
  refine lv_aload_n C.1.1 C.1.2.1 dX11_copy_24 rfl (lv_at hl 0 rfl) ?_
  refine lv_iload_n C.1.1 C.1.2.1 dX11_copy_25 rfl (lv_at hl 3 rfl) ?_
  refine zx_call (w := [.int r7]) (fun v h => by rw [show v = some (.int r7) from h]; rfl) (va_runV (As := [.int p2]) (rest := []) (C := RX11) C.1 (k_X11_isBare p2 _ r7 _ e7) (cwV 1 C.1.2.2.2.2 gX11_copy_X11_isBare rfl rfl rfl (by decide +kernel) ⟨Nat.le_of_ble_eq_true rfl, Nat.le_of_ble_eq_true rfl⟩) ⟨zzPc_blind, zz_recv C.2.2.2 (zzX_obj H hW) rfl, fun U hU hWm => zzPc_at C.2.2.2 hU hWm hW⟩ rfl rfl hl.1 rfl (lv_room (by decide)) dX11_copy_26 ⟨Nat.le_of_ble_eq_true rfl, Nat.le_of_ble_eq_true rfl⟩) hS (fun H locs hW hS => ?_)
  refine lv_if_eq (tgt := 35) C.1.1 C.1.2.1 dX11_copy_29 (by decide) (fun h => ?_) (fun h => ?_)
  rotate_left
  · rw [if_neg h] at hf
    exact bare _ _ _ _ hf hW hS
  rw [if_pos h] at hf
  replace hf := zzbd_some hf
  obtain ⟨r9, σ10, e9, hf⟩ := hf
  replace hf := zzbd_some hf
  obtain ⟨r11, σ12, e11, hf⟩ := hf
  have q9 := p_rowOn e9
  obtain ⟨q9, n9⟩ := q9
  subst q9
  have q11 := p_rowOn e11
  obtain ⟨q11, n11⟩ := q11
  subst q11
  refine lv_aload_n C.1.1 C.1.2.1 dX11_copy_35 rfl (lv_at hl 0 rfl) ?_
  refine lv_iload_n C.1.1 C.1.2.1 dX11_copy_36 rfl (lv_at hl 1 rfl) ?_
  refine zx_call (w := [va_rf (r9.map (zzad Z))]) (fun v h => by rw [show v = some (va_rf (r9.map (zzad Z))) from h]; rfl) (va_runV (As := [.int p0]) (rest := []) (C := RX11) C.1 (k_X11_rowOn p0 _ r9 _ e9) (cwV 1 C.1.2.2.2.2 gX11_copy_X11_rowOn rfl rfl rfl (by decide +kernel) ⟨Nat.le_of_ble_eq_true rfl, Nat.le_of_ble_eq_true rfl⟩) ⟨zzPc_blind, zz_recv C.2.2.2 (zzX_obj H hW) rfl, fun U hU hWm => zzPc_at C.2.2.2 hU hWm hW⟩ rfl rfl hl.1 rfl (lv_room (by decide)) dX11_copy_37 ⟨Nat.le_of_ble_eq_true rfl, Nat.le_of_ble_eq_true rfl⟩) hS (fun H locs hW hS => ?_)
  refine zx_astoreq (loc' := [(6, va_rf (r9.map (zzad Z))), (0, .ref (zzad Z 0)), (1, .int p0), (2, .int p1), (3, .int p2), (4, .int p3), (5, .int p4)]) C dX11_copy_40 hl (by decide) rfl (fun ls hl6 => ?_)
  refine lv_aload_n C.1.1 C.1.2.1 dX11_copy_42 rfl (lv_at hl6 1 rfl) ?_
  refine lv_iload_n C.1.1 C.1.2.1 dX11_copy_43 rfl (lv_at hl6 4 rfl) ?_
  refine zx_call (w := [va_rf (r11.map (zzad Z))]) (fun v h => by rw [show v = some (va_rf (r11.map (zzad Z))) from h]; rfl) (va_runV (As := [.int p2]) (rest := []) (C := RX11) C.1 (k_X11_rowOn p2 _ r11 _ e11) (cwV 1 C.1.2.2.2.2 gX11_copy_X11_rowOn rfl rfl rfl (by decide +kernel) ⟨Nat.le_of_ble_eq_true rfl, Nat.le_of_ble_eq_true rfl⟩) ⟨zzPc_blind, zz_recv C.2.2.2 (zzX_obj H hW) rfl, fun U hU hWm => zzPc_at C.2.2.2 hU hWm hW⟩ rfl rfl hl6.1 rfl (lv_room (by decide)) dX11_copy_44 ⟨Nat.le_of_ble_eq_true rfl, Nat.le_of_ble_eq_true rfl⟩) hS (fun H locs hW hS => ?_)
  refine zx_astoreq (loc' := [(7, va_rf (r11.map (zzad Z))), (6, va_rf (r9.map (zzad Z))), (0, .ref (zzad Z 0)), (1, .int p0), (2, .int p1), (3, .int p2), (4, .int p3), (5, .int p4)]) C dX11_copy_47 hl6 (by decide) (by cases r9 <;> rfl) (fun ls hl7 => ?_)
  have twelve : ∀ (H : Heap) (locs : List Loc) (ls : Array Slot) (τ : zzS), some ((-12 : Int32), τ) = some (r, σ') → zzX Z base PL mm τ H → va_S (zzA base) s.heap H locs → W p l e rX11_copy s m args below meth c H locs 0 0 (MQ below (zzQ zzRI (zzX Z base PL mm) (zzA base) r σ') args s rX11_copy.cells rX11_copy.slots (zzA base)) (F0 m 72 ls []) := fun H locs ls τ he hW hS => by
    refine lv_bipush (v := -12) C.1.1 C.1.2.1 dX11_copy_72 (by decide) ?_
    exact done _ _ dX11_copy_74 _ _ _ _ he hW hS
  refine zx_aloadq C dX11_copy_49 (lv_at hl7 1 rfl) ?_
  cases r9 with
  | none => exact lv_ifnullN (tgt := 72) C.1.1 C.1.2.1 dX11_copy_51 (by decide) (twelve _ _ _ _ hf hW hS)
  | some j =>
  refine lv_ifnull C.1.1 C.1.2.1 dX11_copy_51 ?_
  replace hf := zzgd_some (show zzgd (zzrow j) _ = some (r, σ') from hf)
  obtain ⟨hj, hf⟩ := hf
  refine zx_aloadq C dX11_copy_54 (lv_at hl7 0 rfl) ?_
  cases r11 with
  | none => exact lv_ifnullN (tgt := 72) C.1.1 C.1.2.1 dX11_copy_56 (by decide) (twelve _ _ _ _ hf hW hS)
  | some k =>
  refine lv_ifnull C.1.1 C.1.2.1 dX11_copy_56 ?_
  replace hf := zzgd_some (show zzgd (zzrow k) _ = some (r, σ') from hf)
  obtain ⟨hk, hf⟩ := hf
  have hin : ∀ w ∈ u_ws RX7 TX7 3, w ∈ wsX11_copy := fun _ h9 => List.mem_cons_of_mem _ (List.mem_append_left _ (List.mem_append_right _ h9))
  refine lv_aload C.1.1 C.1.2.1 dX11_copy_59 (lv_at hl7 1 rfl) ?_
  refine va_get (C := RX7) (T := TX7) (N := 3) (own := RX11) (ref := RX7) C.1.1 C.1.2.1 C.1.2.2.2.2 hin C.1.2.2.2.1 C.2.2.2.1 (zzP1 (zzX_row hj H hW)) 0 rfl rfl 1 (by decide) (C.1.2.2.2.2 _ (List.mem_of_getElem? (i := 1) rfl)) (fun _ h => h) rfl dX11_copy_61 ?_
  refine lv_aload C.1.1 C.1.2.1 dX11_copy_64 (lv_at hl7 0 rfl) ?_
  refine va_get (C := RX7) (T := TX7) (N := 3) (own := RX11) (ref := RX7) C.1.1 C.1.2.1 C.1.2.2.2.2 hin C.1.2.2.2.1 C.2.2.2.1 (zzP1 (zzX_row hk H hW)) 0 rfl rfl 1 (by decide) (C.1.2.2.2.2 _ (List.mem_of_getElem? (i := 1) rfl)) (fun _ h => h) rfl dX11_copy_66 ?_
  refine lv_icmp_eq (tgt := 75) C.1.1 C.1.2.1 dX11_copy_69 (by decide) (fun h => ?_) (fun h => ?_)
  rotate_left
  · rw [if_neg h] at hf
    exact twelve _ _ _ _ hf hW hS
  rw [if_pos h] at hf
  replace hf := zzbd_some hf
  obtain ⟨r15, σ16, e15, hf⟩ := hf
  obtain ⟨d9, g9, hd9⟩ := n9 j rfl
  obtain ⟨d11, g11, hd11⟩ := n11 k rfl
  obtain ⟨a9, ha9, hz9⟩ := hσ d9 j g9 hd9
  obtain ⟨a11, ha11, hz11⟩ := hσ d11 k g11 hd11
  obtain ⟨q15, ok15⟩ := p_has ha9 hz9 e15
  subst q15
  have thirteen : ∀ (H : Heap) (locs : List Loc) (ls : Array Slot) (τ : zzS), some ((-13 : Int32), τ) = some (r, σ') → zzX Z base PL mm τ H → va_S (zzA base) s.heap H locs → W p l e rX11_copy s m args below meth c H locs 0 0 (MQ below (zzQ zzRI (zzX Z base PL mm) (zzA base) r σ') args s rX11_copy.cells rX11_copy.slots (zzA base)) (F0 m 98 ls []) := fun H locs ls τ he hW hS => by
    refine lv_bipush (v := -13) C.1.1 C.1.2.1 dX11_copy_98 (by decide) ?_
    exact done _ _ dX11_copy_100 _ _ _ _ he hW hS
  refine lv_aload C.1.1 C.1.2.1 dX11_copy_75 (lv_at hl7 1 rfl) ?_
  refine lv_iload_n C.1.1 C.1.2.1 dX11_copy_77 rfl (lv_at hl7 4 rfl) ?_
  refine lv_iload C.1.1 C.1.2.1 dX11_copy_78 (lv_at hl7 7 rfl) ?_
  refine zx_call (w := [.int r15]) (fun v h => by rw [show v = some (.int r15) from h]; rfl) (va_runV (As := [.int p1, .int p4]) (rest := []) (C := RX7) C.1 (k_X7_has j hj p1 p4 _ r15 _ e15) (cwV 2 C.1.2.2.2.2 gX11_copy_X7_has rfl rfl rfl (by decide +kernel) ⟨Nat.le_of_ble_eq_true rfl, Nat.le_of_ble_eq_true rfl⟩) ⟨zzPc_blind, zz_recv C.2.2.2 (zzX_row hj H hW) rfl, fun U hU hWm => zzPc_at C.2.2.2 hU hWm hW⟩ rfl rfl hl7.1 rfl (lv_room (by decide)) dX11_copy_80 ⟨Nat.le_of_ble_eq_true rfl, Nat.le_of_ble_eq_true rfl⟩) hS (fun H locs hW hS => ?_)
  refine lv_if_eq (tgt := 98) C.1.1 C.1.2.1 dX11_copy_83 (by decide) (fun h => ?_) (fun h => ?_)
  · rw [if_pos h] at hf
    exact thirteen _ _ _ _ hf hW hS
  rw [if_neg h] at hf
  have ok15 := ok15 h
  replace hf := zzbd_some hf
  obtain ⟨r17, σ18, e17, hf⟩ := hf
  obtain ⟨q17, ok17⟩ := p_has ha11 hz11 e17
  subst q17
  refine lv_aload C.1.1 C.1.2.1 dX11_copy_86 (lv_at hl7 0 rfl) ?_
  refine lv_iload C.1.1 C.1.2.1 dX11_copy_88 (lv_at hl7 6 rfl) ?_
  refine lv_iload C.1.1 C.1.2.1 dX11_copy_90 (lv_at hl7 7 rfl) ?_
  refine zx_call (w := [.int r17]) (fun v h => by rw [show v = some (.int r17) from h]; rfl) (va_runV (As := [.int p3, .int p4]) (rest := []) (C := RX7) C.1 (k_X7_has k hk p3 p4 _ r17 _ e17) (cwV 2 C.1.2.2.2.2 gX11_copy_X7_has rfl rfl rfl (by decide +kernel) ⟨Nat.le_of_ble_eq_true rfl, Nat.le_of_ble_eq_true rfl⟩) ⟨zzPc_blind, zz_recv C.2.2.2 (zzX_row hk H hW) rfl, fun U hU hWm => zzPc_at C.2.2.2 hU hWm hW⟩ rfl rfl hl7.1 rfl (lv_room (by decide)) dX11_copy_92 ⟨Nat.le_of_ble_eq_true rfl, Nat.le_of_ble_eq_true rfl⟩) hS (fun H locs hW hS => ?_)
  refine lv_if_ne (tgt := 101) C.1.1 C.1.2.1 dX11_copy_95 (by decide) (fun h => ?_) (fun h => ?_)
  rotate_left
  · rw [if_pos h] at hf
    exact thirteen _ _ _ _ hf hW hS
  rw [if_neg h] at hf
  have ok17 := ok17 h
  refine lv_aload C.1.1 C.1.2.1 dX11_copy_101 (lv_at hl7 1 rfl) ?_
  refine va_get (C := RX7) (T := TX7) (N := 3) (own := RX11) (ref := RX7) C.1.1 C.1.2.1 C.1.2.2.2.2 hin C.1.2.2.2.1 C.2.2.2.1 (zzP1 (zzX_row hj H hW)) 0 rfl rfl 0 (by decide) (C.1.2.2.2.2 _ (List.mem_of_getElem? (i := 2) rfl)) (fun _ h => h) rfl dX11_copy_103 ?_
  refine lv_iload_n C.1.1 C.1.2.1 dX11_copy_106 rfl (lv_at hl7 4 rfl) ?_
  refine lv_aload C.1.1 C.1.2.1 dX11_copy_107 (lv_at hl7 0 rfl) ?_
  refine va_get (C := RX7) (T := TX7) (N := 3) (own := RX11) (ref := RX7) C.1.1 C.1.2.1 C.1.2.2.2.2 hin C.1.2.2.2.1 C.2.2.2.1 (zzP1 (zzX_row hk H hW)) 0 rfl rfl 0 (by decide) (C.1.2.2.2.2 _ (List.mem_of_getElem? (i := 2) rfl)) (fun _ h => h) rfl dX11_copy_109 ?_
  refine lv_iload C.1.1 C.1.2.1 dX11_copy_112 (lv_at hl7 6 rfl) ?_
  refine lv_iload C.1.1 C.1.2.1 dX11_copy_114 (lv_at hl7 7 rfl) ?_
  have aj : zzXarr (j + 1) := by rcases hj with rfl | rfl | rfl | rfl | rfl | rfl | rfl | rfl <;> decide
  have ak : zzXarr (k + 1) := by rcases hk with rfl | rfl | rfl | rfl | rfl | rfl | rfl | rfl <;> decide
  have lj : zzlen (j + 1) = 100 := by rcases hj with rfl | rfl | rfl | rfl | rfl | rfl | rfl | rfl <;> rfl
  have lk : zzlen (k + 1) = 100 := by rcases hk with rfl | rfl | rfl | rfl | rfl | rfl | rfl | rfl <;> rfl
  have z1 := zcl ok15.1
  have z4 := zcl ok15.2.1
  have z3 := zcl ok17.1
  refine zx_acopy C (List.mem_of_getElem? (i := 3) rfl) (List.mem_of_getElem? (i := 4) rfl) (List.mem_of_getElem? (i := 5) rfl) (List.mem_of_getElem? (i := 6) rfl) (zzX_arr aj H hW) (zzX_arr ak H hW) z1.1 z3.1 z4.1 (by rw [lj]; have := ok15.2.2; omega) (by rw [lk]; have := ok17.2.2; omega) hS (hW.1.2.1 (k + 1) (by have := ak.1; omega)) hl7.1 (by decide) (by decide) dX11_copy_116 (fun H1 locs1 hnew oq hS1 => ?_)
  refine lv_iload C.1.1 C.1.2.1 dX11_copy_119 (lv_at hl7 7 rfl) ?_
  refine done _ _ dX11_copy_121 _ _ _ _ hf ?_ hS1
  refine zzX_wr (x := σ18) (k := k + 1) ak.1 (fun _ _ => rfl) (fun i hi => ?_) (fun _ _ => rfl) rfl rfl (fun g => ?_) hW hnew oq
  · funext f
    show (if i = k + 1 ∧ _ then _ else _) = _
    rw [if_neg (fun h => hi h.1)]
  · rw [zzEl_arr ak.2]
    congr 4
    funext f
    show (if k + 1 = k + 1 ∧ _ then _ else _) = _
    unfold va_cpy
    by_cases h : (Int32.toNatClampNeg p3) ≤ f ∧ f < (Int32.toNatClampNeg p3) + (Int32.toNatClampNeg p4)
    · rw [if_pos ⟨rfl, h⟩, if_pos h]
    · rw [if_neg (fun z => h z.2), if_neg h]
theorem k_X11_copy {l : Launch} {Z : zzG} {base : Nat} {PL : Nat → Option (Nat × Int32)} {mm : zzS} (p0 p1 p2 p3 p4 : Int32) (σ : zzS) (hσ : ∀ d j, d < 8 → zzq σ d = some j → ∃ n, n ≤ 100 ∧ zzi σ j 2 = nI n) : zzCT l yX11_copy wsX11_copy rX11_copy (zzA base) Z (zzX Z base PL mm) (zzX Z base PL mm) zzRI [.ref (zzad Z 0), .int p0, .int p1, .int p2, .int p3, .int p4] (f_X11_copy p0 p1 p2 p3 p4 σ) σ :=
  zzCT_of (cc := cX11_copy) (nL := 8) (ret := (some .int)) (by decide) rfl (Nat.le_of_ble_eq_true rfl) [(0, .ref (zzad Z 0)), (1, .int p0), (2, .int p1), (3, .int p2), (4, .int p3), (5, .int p4)] rfl (fun p e s m args below meth c C => w_X11_copy_e C p0 p1 p2 p3 p4 σ hσ)
