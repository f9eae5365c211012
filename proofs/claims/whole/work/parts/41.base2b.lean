section ZZ2
variable {S α : Type} {p : Program} {l : Launch} {e : Env} {R : Room} {s : State} {m : MethodId} {args : Array Value} {below : List Frame} {meth : Method} {c : Code} {nL : Nat} {A : Nat → Prop} {Wd Wf Wc : S → Heap → Prop} {rel : α → Option Value → Prop} {mc ms : Nat} {f f1 f2 : Option (α × S)} {σ σ1 : S} {cells slots pc : Nat} {loc loc' : List (Nat × Value)} {st : List Value}
variable {cc : ByteArray} {ws : List Cond} {own : String} {ret : Option FieldType} {Z : zzG} {k : Nat}
theorem zznarB {v : Int32} (h : v = 0 ∨ v = 1) : narrow .boolean (.int v) = .int v := by rcases h with rfl | rfl <;> rfl
theorem zzfitB {v : Int32} (h : v = 0 ∨ v = 1) : fits .boolean (.int v) = true := by rcases h with rfl | rfl <;> rfl
theorem zzP1 {D : va_G} {cl : List vw_C} {q : Nat × va_E} {H : Heap} (h : va_at D cl q H) : va_P D cl [q] H := by
  intro i q' hk
  match i, hk with
  | 0, hk => cases hk; exact h
  | i + 1, hk => simp at hk
theorem zz_get (C : zzCx p m meth c s args cc nL ws own ret Z) {ref Cn : String} {T : u_T} {N ci index : Nat} {fs : List Value} {v : Value} (hE : ∀ H, Wd σ H → va_at Z.1 vwCl (k, .inr (ci, fs)) H) (hin : ∀ w ∈ u_ws Cn T N, w ∈ ws) (hc : vwCl[ci]? = some (Cn, T, N)) (n : Nat) (hn : n < N) (hlink : Cond.fieldLink own index ref (T n).2.1 (T n).2.2.1 ∈ ws) (hsame : ref = (T n).1 ∨ Cond.sameField ref (T n).1 (T n).2.1 (T n).2.2.1 ∈ ws) (hv : fs[n]? = some v) (hd : decode cc pc = .ok (.getfield index, 3))
    (kk : zzGO p l e R s m args below meth c nL A Wd Wf rel mc ms (f) σ cells slots (pc + 3) (loc) (v :: st)) : zzGO p l e R s m args below meth c nL A Wd Wf rel mc ms (f) σ cells slots (pc) (loc) (.ref k :: st) := by
  intro r σ' hf H locs ls hW hS hl
  refine va_get C.1.1 C.1.2.1 C.1.2.2.2.2 hin C.1.2.2.2.1 C.2.2.2.1 (zzP1 (hE H hW)) 0 rfl hc n hn (C.1.2.2.2.2 _ hlink) ?_ hv hd (kk r σ' hf H locs ls hW hS hl)
  rcases hsame with rfl | hs
  · exact fun _ h => h
  · exact fun x => u_same (C.1.2.2.2.2 _ hs) x
theorem zz_put (C : zzCx p m meth c s args cc nL ws own ret Z) {ref Cn : String} {T : u_T} {N ci index : Nat} {fs : List Value} {v : Value} {ty0 : Nat → FieldType} {ty : FieldType} (hE : ∀ H, Wd σ H → va_at Z.1 vwCl (k, .inr (ci, fs)) H) (hin : ∀ w ∈ u_ws Cn T N, w ∈ ws) (hc : vwCl[ci]? = some (Cn, T, N)) (n : Nat) (hn : n < N) (hlink : Cond.fieldLink own index ref (T n).2.1 (T n).2.2.1 ∈ ws) (hsame : ref = (T n).1) (hty : ∀ k, k < N → parseFieldDescriptor (T k).2.2.1 = some (ty0 k)) (hnm : ∀ a, a < N → ∀ b, b < N → a ≠ b → (T a).2.1 ≠ (T b).2.1) (hfin : (T n).2.2.2 = false) (hdd : parseFieldDescriptor (T n).2.2.1 = some ty) (hnar : narrow ty v = v) (hfit : fits ty v = true) (hl0 : n < fs.length)
    (hU : ∀ H H1, Wd σ H → va_at Z.1 vwCl (k, .inr (ci, fs.set n v)) H1 → (∀ q : Nat, q ≠ k → H1[q]? = H[q]?) → Wd σ1 H1) (hA : ∀ H, Wd σ H → A k) (hd : decode cc pc = .ok (.putfield index, 3))
    (kk : zzGO p l e R s m args below meth c nL A Wd Wf rel mc ms (f) σ1 cells slots (pc + 3) (loc) (st)) : zzGO p l e R s m args below meth c nL A Wd Wf rel mc ms (f) σ cells slots (pc) (loc) (v :: .ref k :: st) := by
  intro r σ' hf H locs ls hW hS hl
  have hP := hE H hW
  obtain ⟨hx, hb, -, hown, hts⟩ := C.1
  have hK := C.2.2.2.1
  have hap := va_apart (own := own) hts hin ty0 hty hnm hK hc
  obtain ⟨r0, h1, cell, q1, q2, q3, q4⟩ := hP
  have hr : r0 = (Cn, T, N) := Option.some.inj (h1.symm.trans hc)
  subst hr
  obtain ⟨hSl, hfc, kC, hkC, hkind⟩ := hK.1 ci _ hc
  obtain ⟨cf, kf, fi, fd, hi, hsl⟩ := hSl n hn
  have hlay := hts _ (hin _ (u_in_lay hn))
  unfold u_lay at hlay
  rw [if_neg (by rw [hfin]; decide)] at hlay
  have hst := (u_facts hfc hkC (u_lays hts hin hn) hi).1
  have h6 := u_store hfc hkC hkind hlay hi hdd hnar hfit
  subst hsame
  refine W.putK hx hb (f := fd) ⟨hown, hts _ hlink, ⟨_, _, _, hi⟩, hst⟩ (by rw [q2]; exact h6) q1 q3 (by rw [hsl]; exact k2_hasslot (q4 n hn)) rfl rfl hd fun H' e1 e2 e3 => ?_
  rw [hsl] at e1 ⊢
  exact kk r σ' hf H' _ ls (hU H H' hW ⟨_, hc, t_OB.to (V := updV (vp_V fs) n v) ⟨_, e1, q2, q3, t_set q4 hap hn v⟩ (fun j _ => vp_updV_set hl0 v j)⟩ e3) (hS.put e2 e3 (hA H hW)) hl
theorem zz_iald (C : zzCx p m meth c s args cc nL ws own ret Z) {N : Nat} {f0 : Nat → Int32} (hE : ∀ H, Wd σ H → va_at Z.1 vwCl (k, .inl (zzcA Z 0, N, .inl f0)) H) {i : Int32} (hin : vp_in i N) (hd : decode cc pc = .ok (.iaload, 1))
    (kk : zzGO p l e R s m args below meth c nL A Wd Wf rel mc ms (f) σ cells slots (pc + 1) (loc) (.int (f0 i.toNatClampNeg) :: st)) : zzGO p l e R s m args below meth c nL A Wd Wf rel mc ms (f) σ cells slots (pc) (loc) (.int i :: .ref k :: st) := by
  intro r σ' hf H locs ls hW hS hl
  exact va_iald C.1.1 C.1.2.1 C.2.2.2.1 (zzP1 (hE H hW)) 0 0 rfl rfl hin hd (kk r σ' hf H locs ls hW hS hl)
theorem zz_lald (C : zzCx p m meth c s args cc nL ws own ret Z) {N : Nat} {f0 : Nat → Int64} (hE : ∀ H, Wd σ H → va_at Z.1 vwCl (k, .inl (zzcA Z 1, N, .inr (.inl f0))) H) {i : Int32} (hin : vp_in i N) (hd : decode cc pc = .ok (.laload, 1))
    (kk : zzGO p l e R s m args below meth c nL A Wd Wf rel mc ms (f) σ cells slots (pc + 1) (loc) (.long (f0 i.toNatClampNeg) :: st)) : zzGO p l e R s m args below meth c nL A Wd Wf rel mc ms (f) σ cells slots (pc) (loc) (.int i :: .ref k :: st) := by
  intro r σ' hf H locs ls hW hS hl
  exact va_lald C.1.1 C.1.2.1 C.2.2.2.1 (zzP1 (hE H hW)) 0 1 rfl rfl hin hd (kk r σ' hf H locs ls hW hS hl)
theorem zz_alen (C : zzCx p m meth c s args cc nL ws own ret Z) {N ty0 : Nat} {y : (Nat → Int32) ⊕ (Nat → Int64) ⊕ (Nat → UInt32) ⊕ (Nat → UInt64) ⊕ (Nat → Option Nat)} (hE : ∀ H, Wd σ H → va_at Z.1 vwCl (k, .inl (zzcA Z ty0, N, y)) H) {ty : FieldType} (hty : (zzT Z)[ty0]? = some (zzcA Z ty0, ty)) {v : Int32} (hv : Int32.ofNat N = v) (hd : decode cc pc = .ok (.arraylength, 1))
    (kk : zzGO p l e R s m args below meth c nL A Wd Wf rel mc ms (f) σ cells slots (pc + 1) (loc) (.int v :: st)) : zzGO p l e R s m args below meth c nL A Wd Wf rel mc ms (f) σ cells slots (pc) (loc) (.ref k :: st) := by
  intro r σ' hf H locs ls hW hS hl
  exact va_alen C.1.1 C.1.2.1 C.2.2.2.1 (zzP1 (hE H hW)) 0 ty0 rfl hty hv hd (kk r σ' hf H locs ls hW hS hl)
theorem zz_iast (C : zzCx p m meth c s args cc nL ws own ret Z) {N : Nat} {f0 : Nat → Int32} (hE : ∀ H, Wd σ H → va_at Z.1 vwCl (k, .inl (zzcA Z 0, N, .inl f0)) H) {i : Int32} {x : Int32} (hin : vp_in i N) (hU : ∀ H H1, Wd σ H → va_at Z.1 vwCl (k, .inl (zzcA Z 0, N, .inl (upd f0 i.toNatClampNeg x))) H1 → (∀ q : Nat, q ≠ k → H1[q]? = H[q]?) → Wd σ1 H1) (hA : ∀ H, Wd σ H → A k) (hd : decode cc pc = .ok (.iastore, 1))
    (kk : zzGO p l e R s m args below meth c nL A Wd Wf rel mc ms (f) σ1 cells slots (pc + 1) (loc) (st)) : zzGO p l e R s m args below meth c nL A Wd Wf rel mc ms (f) σ cells slots (pc) (loc) (.int x :: .int i :: .ref k :: st) := by
  intro r σ' hf H locs ls hW hS hl
  have hK := C.2.2.2.1
  refine W.iast C.1.1 C.1.2.1 (hE H hW) ((hK.2 0 _ rfl).1 N (fun j => .int (f0 j))) (fun q => by cases q) (by show ¬ (i < 0 ∨ (arrV _ _ _).slots.size ≤ _); rw [arrV_size]; exact hin) rfl rfl hd fun H1 e0 z oq => ?_
  refine kk r σ' hf H1 _ ls (hU H H1 hW ?_ oq) (hS.put z oq (hA H hW)) hl
  show H1[k]? = some (vp_cell _ _)
  rw [e0]
  rw [vp_cell_i, vp_cell_i, arrV_store]
  congr 2
  funext q
  by_cases hq : q = i.toNatClampNeg
  · subst hq
    simp [updV, upd]
  · simp [updV, upd, hq]
theorem zz_last (C : zzCx p m meth c s args cc nL ws own ret Z) {N : Nat} {f0 : Nat → Int64} (hE : ∀ H, Wd σ H → va_at Z.1 vwCl (k, .inl (zzcA Z 1, N, .inr (.inl f0))) H) {i : Int32} {x : Int64} (hin : vp_in i N) (hU : ∀ H H1, Wd σ H → va_at Z.1 vwCl (k, .inl (zzcA Z 1, N, .inr (.inl (vp_updL f0 i.toNatClampNeg x)))) H1 → (∀ q : Nat, q ≠ k → H1[q]? = H[q]?) → Wd σ1 H1) (hA : ∀ H, Wd σ H → A k) (hd : decode cc pc = .ok (.lastore, 1))
    (kk : zzGO p l e R s m args below meth c nL A Wd Wf rel mc ms (f) σ1 cells slots (pc + 1) (loc) (st)) : zzGO p l e R s m args below meth c nL A Wd Wf rel mc ms (f) σ cells slots (pc) (loc) (.long x :: .int i :: .ref k :: st) := by
  intro r σ' hf H locs ls hW hS hl
  have hK := C.2.2.2.1
  refine W.last C.1.1 C.1.2.1 (hE H hW) ((hK.2 1 _ rfl).1 N (fun j => .long (f0 j))) (fun q => by cases q) (by show ¬ (i < 0 ∨ (arrV _ _ _).slots.size ≤ _); rw [arrV_size]; exact hin) rfl rfl hd fun H1 e0 z oq => ?_
  refine kk r σ' hf H1 _ ls (hU H H1 hW ?_ oq) (hS.put z oq (hA H hW)) hl
  show H1[k]? = some (vp_cell _ _)
  rw [e0]
  rw [vp_cell_l, vp_cell_l, arrV_store]
  congr 2
  funext q
  by_cases hq : q = i.toNatClampNeg
  · subst hq
    simp [updV, vp_updL]
  · simp [updV, vp_updL, hq]
theorem zz_aald {i : Int32} (C : zzCx p m meth c s args cc nL ws own ret Z) {N tk : Nat} {Cn : String} {F : Option Nat → Prop} (hE : ∀ H, Wd σ H → ∃ f0 : Nat → Option Nat, va_at Z.1 vwCl (k, .inl (zzcA Z tk, N, .inr (.inr (.inr (.inr f0))))) H ∧ F (f0 i.toNatClampNeg)) (ht : (zzT Z)[tk]? = some (zzcA Z tk, .object Cn)) (hin : vp_in i N) (hd : decode cc pc = .ok (.aaload, 1))
    (kk : ∀ c0, F c0 → zzGO p l e R s m args below meth c nL A Wd Wf rel mc ms (f) σ cells slots (pc + 1) (loc) (va_rf c0 :: st)) : zzGO p l e R s m args below meth c nL A Wd Wf rel mc ms (f) σ cells slots (pc) (loc) (.int i :: .ref k :: st) := by
  intro r σ' hf H locs ls hW hS hl
  obtain ⟨f0, hP, hF⟩ := hE H hW
  exact va_aldq C.1.1 C.1.2.1 C.2.2.2.1 (zzP1 hP) 0 tk rfl ht hin hd (kk _ hF r σ' hf H locs ls hW hS hl)
theorem zz_aast (C : zzCx p m meth c s args cc nL ws own ret Z) {N tk : Nat} {Cn : String} {i : Int32} {c0 : Option Nat} (ht : (zzT Z)[tk]? = some (zzcA Z tk, .object Cn)) (hin : vp_in i N)
    (hE : ∀ H, Wd σ H → ∃ f0 : Nat → Option Nat, va_at Z.1 vwCl (k, .inl (zzcA Z tk, N, .inr (.inr (.inr (.inr f0))))) H ∧ ∀ H1, va_at Z.1 vwCl (k, .inl (zzcA Z tk, N, .inr (.inr (.inr (.inr (va_up f0 i.toNatClampNeg c0)))))) H1 → (∀ q : Nat, q ≠ k → H1[q]? = H[q]?) → Wd σ1 H1) (hr : ∀ H q, Wd σ H → c0 = some q → va_Any Cn s H q) (hA : ∀ H, Wd σ H → A k) (hd : decode cc pc = .ok (.aastore, 1))
    (kk : zzGO p l e R s m args below meth c nL A Wd Wf rel mc ms (f) σ1 cells slots (pc + 1) (loc) (st)) : zzGO p l e R s m args below meth c nL A Wd Wf rel mc ms (f) σ cells slots (pc) (loc) (va_rf c0 :: .int i :: .ref k :: st) := by
  intro r σ' hf H locs ls hW hS hl
  have hK := C.2.2.2.1
  obtain ⟨f0, hP, hU⟩ := hE H hW
  have hlt : i.toNatClampNeg < N := Nat.not_le.mp fun q => hin (Or.inr q)
  have h0 : ¬ i < 0 := fun q => hin (Or.inl q)
  have hup : arrV (zzcA Z tk) N (updV (fun j => va_rf (f0 j)) i.toNatClampNeg (va_rf c0)) = vp_cell (zzcA Z tk) (N, .inr (.inr (.inr (.inr (va_up f0 i.toNatClampNeg c0))))) := by
    rw [vp_cell_q]
    congr 1
    funext q
    by_cases hq : q = i.toNatClampNeg
    · subst hq
      simp [updV, va_up]
    · simp [updV, va_up, hq]
  cases c0 with
  | none =>
    refine va_WaastN C.1.1 C.1.2.1 hP ((hK.2 tk _ ht).1 N (fun j => va_rf (f0 j))) (fun q => by cases q) (by show ¬ (i < 0 ∨ (arrV _ _ _).slots.size ≤ _); rw [arrV_size]; exact hin) rfl rfl hd fun H1 e0 z oq => ?_
    refine kk r σ' hf H1 _ ls (hU H1 ?_ oq) (hS.put z oq (hA H hW)) hl
    show H1[k]? = some (vp_cell _ _)
    rw [e0, ← hup, vp_cell_q, ← arrV_store]
    rfl
  | some v =>
    obtain ⟨cellV, g1, g3, ⟨kC, hkC⟩, hasg⟩ := hr H v hW rfl
    obtain ⟨kA, comp, k1, k2, k3, -⟩ := (hK.2 tk _ ht).2
    obtain ⟨kE, hkE, -⟩ := Vm.findClass_spec k3
    refine W.aast C.1.1 C.1.2.1 hP (fun q h => by cases h) (fun h => by cases h) k1 k2 rfl hkE ⟨h0, by show _ < (arrV _ _ _).slots.size; rw [arrV_size]; exact hlt⟩ g1 (fun q h => by rw [h] at g3; cases g3) hkC (hasg _ k3) rfl rfl hd fun H1 e0 z oq => ?_
    refine kk r σ' hf H1 _ ls (hU H1 ?_ oq) (hS.put z oq (hA H hW)) hl
    show H1[k]? = some (vp_cell _ _)
    rw [e0, ← hup, vp_cell_q, ← arrV_store]
    rfl
theorem zz_iret (C : zzCx p m meth c s args cc nL ws own ret Z) {v : Int32} (hr : ret = some .int) {r : α} (hrel : rel r (some (.int v))) (hWf : ∀ H, Wd σ H → Wf σ H) (hc : cells ≤ mc) (hs : slots ≤ ms) (hd : decode cc pc = .ok (.ireturn, 1)) : zzGO p l e R s m args below meth c nL A Wd Wf rel mc ms (some (r, σ)) σ cells slots (pc) (loc) ([.int v]) := by
  intro r' σ' hf H locs ls hW hS hl
  cases hf
  refine W.widen hc hs ?_
  exact W.iret C.1.1 C.1.2.1 (by rw [C.2.1, hr]) (fun t ht hWm => ⟨⟨_, rfl, hrel, by rw [ht]; exact hWf H hW⟩, hS.F ht⟩) hS.2.2 hd C.2.2.1
theorem zz_zret (C : zzCx p m meth c s args cc nL ws own ret Z) {v : Int32} (hr : ret = some .boolean) (hv : v = 0 ∨ v = 1) {r : α} (hrel : rel r (some (.int v))) (hWf : ∀ H, Wd σ H → Wf σ H) (hc : cells ≤ mc) (hs : slots ≤ ms) (hd : decode cc pc = .ok (.ireturn, 1)) : zzGO p l e R s m args below meth c nL A Wd Wf rel mc ms (some (r, σ)) σ cells slots (pc) (loc) ([.int v]) := by
  intro r' σ' hf H locs ls hW hS hl
  cases hf
  refine W.widen hc hs ?_
  exact W.zret C.1.1 C.1.2.1 (ty := .boolean) (by rw [C.2.1, hr]) (by rcases hv with rfl | rfl <;> rfl) (fun t ht hWm => ⟨⟨_, rfl, hrel, by rw [ht]; exact hWf H hW⟩, hS.F ht⟩) hS.2.2 hd C.2.2.1
theorem zz_lret (C : zzCx p m meth c s args cc nL ws own ret Z) {v : Int64} (hr : ret = some .long) {r : α} (hrel : rel r (some (.long v))) (hWf : ∀ H, Wd σ H → Wf σ H) (hc : cells ≤ mc) (hs : slots ≤ ms) (hd : decode cc pc = .ok (.lreturn, 1)) : zzGO p l e R s m args below meth c nL A Wd Wf rel mc ms (some (r, σ)) σ cells slots (pc) (loc) ([.long v]) := by
  intro r' σ' hf H locs ls hW hS hl
  cases hf
  refine W.widen hc hs ?_
  exact W.lret C.1.1 C.1.2.1 (by rw [C.2.1, hr]) (fun t ht hWm => ⟨⟨_, rfl, hrel, by rw [ht]; exact hWf H hW⟩, hS.F ht⟩) hS.2.2 hd C.2.2.1
theorem zz_vret (C : zzCx p m meth c s args cc nL ws own ret Z) (hr : ret = none) {r : α} (hrel : rel r none) (hWf : ∀ H, Wd σ H → Wf σ H) (hc : cells ≤ mc) (hs : slots ≤ ms) (hd : decode cc pc = .ok (.return_, 1)) : zzGO p l e R s m args below meth c nL A Wd Wf rel mc ms (some (r, σ)) σ cells slots (pc) (loc) ([]) := by
  intro r' σ' hf H locs ls hW hS hl
  cases hf
  refine W.widen hc hs ?_
  exact W.vret C.1.1 C.1.2.1 (by rw [C.2.1, hr]) (fun t ht hWm => ⟨⟨_, rfl, hrel, by rw [ht]; exact hWf H hW⟩, hS.F ht⟩) hS.2.2 hd C.2.2.1
theorem zz_aret (C : zzCx p m meth c s args cc nL ws own ret Z) {c0 : Option Nat} {cn : String} (hr : ret = some (.object cn)) {r : α} (hrel : rel r (some (va_rf c0))) (hWf : ∀ H, Wd σ H → Wf σ H) (hc : cells ≤ mc) (hs : slots ≤ ms) (hd : decode cc pc = .ok (.areturn, 1)) : zzGO p l e R s m args below meth c nL A Wd Wf rel mc ms (some (r, σ)) σ cells slots (pc) (loc) ([va_rf c0]) := by
  intro r' σ' hf H locs ls hW hS hl
  cases hf
  refine W.widen hc hs ?_
  exact W.aret C.1.1 C.1.2.1 (rt := .object cn) (by rw [C.2.1, hr]) (Or.inl ⟨_, rfl⟩) (by cases c0; exact Or.inl rfl; exact Or.inr ⟨_, rfl⟩) (fun t ht hWm => ⟨⟨_, rfl, hrel, by rw [ht]; exact hWf H hW⟩, hS.F ht⟩) hS.2.2 hd C.2.2.1
theorem zz_call {β : Type} {fc : Option (β × S)} {kf : β → S → Option (α × S)} {relc : β → Option Value → Prop} {mcc msc : Nat} {av : Array Value} {rest : List Value}
    (hrun : ∀ r1 σ2, fc = some (r1, σ2) → ∀ (H : Heap) (locs : List Loc) (ls : Array Slot), Wd σ H → lv_has ls nL loc → va_Run p l e R s m args below meth c H locs cells slots mcc msc (F0 m pc ls st) rest (zzQ relc Wc A r1 σ2 av) A)
    (kk : ∀ r1 σ2 v, relc r1 v → zzGO p l e R s m args below meth c nL A Wc Wf rel mc ms (kf r1 σ2) σ2 (cells + mcc) (slots + msc) (pc + 3) (loc) (v.toList ++ rest)) : zzGO p l e R s m args below meth c nL A Wd Wf rel mc ms (zzbd fc kf) σ cells slots (pc) (loc) (st) := by
  intro r σ' hf H locs ls hW hS hl
  obtain ⟨r1, σ2, e1, e2⟩ := zzbd_some hf
  have hr := hrun r1 σ2 e1 H locs ls hW hl
  intro T hT X
  obtain ⟨v, st₀, t, T', L, h0, X', hL, g1, g2, ⟨⟨v', hv, hrel, hWd⟩, hz, hk⟩, stp⟩ := hr T hT X
  cases hv
  rw [h0] at hz hk
  obtain ⟨t2, a1, b1⟩ := kk r1 σ2 v hrel r σ' e2 T'.heap (locs ++ L) ls (by rw [g1]; exact hWd)
    ⟨Nat.le_trans hS.1 (by rw [g1]; exact hz), fun q h1 h2 => by rw [g1, hk q (Nat.lt_of_lt_of_le h1 hS.1) h2]; exact hS.2.1 q h1 h2, fun q hq => by
      rcases List.mem_append.mp hq with h | h
      · exact hS.2.2 q h
      · exact hL q h⟩ hl T' rfl X'
  exact ⟨t2, stp t2 a1, b1⟩
theorem zzPc_blind {Wd : S → Heap → Prop} {av : List Value} : FrameBlind (zzPc Z Wd av σ) := fun a U g0 mk h => ⟨h.1, zzKK.same (s := U) (U := U.calling g0 mk a) rfl h.2.1, h.2.2⟩
theorem zzPc_at {Wd : S → Heap → Prop} {av : List Value} {U : State} {H : Heap} (hK : zzKK Z s) (hU : U.heap = H) (hW : s.WarmedH U.vm) (h : Wd σ H) : zzPc Z Wd av σ av.toArray U := ⟨rfl, hK.warm hW, by rw [hU]; exact h⟩
theorem zz_callV (C : zzCx p m meth c s args cc nL ws own ret Z) {β : Type} {fc : Option (β × S)} {kf : β → S → Option (α × S)} {relc : β → Option Value → Prop} {y : MethodName} {wsy : List Cond} {rmy : Room} {bytes : ByteArray} {maxL n index : Nat} {rety : Option FieldType} {Cn : String} {b : Nat} (hrecv : ∀ H, Wd σ H → ∃ cell : Cell, H[b]? = some cell ∧ cell.vm.isStatics = false ∧ s.vm.findClass Cn = some cell.cls) {As rest : List Value} (hst : st = As.reverse ++ .ref b :: rest) (ct : zzCT l y wsy rmy A Z Wd Wc relc (.ref b :: As) fc σ) (cw : CallW R s args own Cn index y bytes maxL rety wsy rmy rmy.cells rmy.slots n) (hn : As.length = n) (hroom : (rest.map fun v => v.category).sum ≤ 8) (hcs : cells + rmy.cells ≤ R.cells ∧ slots + rmy.slots ≤ R.slots) (hd : decode cc pc = .ok (.invokevirtual index, 3))
    (kk : ∀ r1 σ2 v, relc r1 v → zzGO p l e R s m args below meth c nL A Wc Wf rel mc ms (kf r1 σ2) σ2 (cells + rmy.cells) (slots + rmy.slots) (pc + 3) (loc) (v.toList ++ rest)) : zzGO p l e R s m args below meth c nL A Wd Wf rel mc ms (zzbd fc kf) σ cells slots (pc) (loc) (st) := by
  subst hst
  refine zz_call (av := (.ref b :: As).toArray) (mcc := rmy.cells) (msc := rmy.slots) (relc := relc) (fun r1 σ2 h H locs ls hW hl => ?_) kk
  exact va_runV (As := As) (rest := rest) C.1 (ct r1 σ2 h) cw ⟨zzPc_blind, hrecv H hW, fun U hU hWm => zzPc_at C.2.2.2 hU hWm hW⟩ rfl hn hl.1 rfl (lv_room hroom) hd hcs
theorem zz_callU (C : zzCx p m meth c s args cc nL ws own ret Z) {β : Type} {fc : Option (β × S)} {kf : β → S → Option (α × S)} {relc : β → Option Value → Prop} {y : MethodName} {wsy : List Cond} {rmy : Room} {bytes : ByteArray} {maxL n index : Nat} {rety : Option FieldType} {Cn owner : String} {x : MethodName} {b : Nat} (hrecv : ∀ H, Wd σ H → ∃ cell : Cell, H[b]? = some cell ∧ cell.vm.isStatics = false ∧ s.vm.findClass Cn = some cell.cls) {As rest : List Value} (hst : st = As.reverse ++ .ref b :: rest) (ct : zzCT l y wsy rmy A Z Wd Wc relc (.ref b :: As) fc σ) (cw : va_CU R s args own Cn owner index x y bytes maxL rety wsy rmy rmy.cells rmy.slots n) (hn : As.length = n) (hroom : (rest.map fun v => v.category).sum ≤ 8) (hcs : cells + rmy.cells ≤ R.cells ∧ slots + rmy.slots ≤ R.slots) (hd : decode cc pc = .ok (.invokevirtual index, 3))
    (kk : ∀ r1 σ2 v, relc r1 v → zzGO p l e R s m args below meth c nL A Wc Wf rel mc ms (kf r1 σ2) σ2 (cells + rmy.cells) (slots + rmy.slots) (pc + 3) (loc) (v.toList ++ rest)) : zzGO p l e R s m args below meth c nL A Wd Wf rel mc ms (zzbd fc kf) σ cells slots (pc) (loc) (st) := by
  subst hst
  refine zz_call (av := (.ref b :: As).toArray) (mcc := rmy.cells) (msc := rmy.slots) (relc := relc) (fun r1 σ2 h H locs ls hW hl => ?_) kk
  exact va_runU (As := As) (rest := rest) C.1 (ct r1 σ2 h) cw ⟨zzPc_blind, hrecv H hW, fun U hU hWm => zzPc_at C.2.2.2 hU hWm hW⟩ rfl hn hl.1 rfl (lv_room hroom) hd hcs
theorem zz_callS (C : zzCx p m meth c s args cc nL ws own ret Z) {β : Type} {fc : Option (β × S)} {kf : β → S → Option (α × S)} {relc : β → Option Value → Prop} {y : MethodName} {wsy : List Cond} {rmy : Room} {bytes : ByteArray} {maxL n index : Nat} {rety : Option FieldType}  {As rest : List Value} (hst : st = As.reverse ++ rest) (ct : zzCT l y wsy rmy A Z Wd Wc relc As fc σ) (cw : CallB R s args own index y bytes maxL rety wsy rmy rmy.cells rmy.slots n ∧ (Cond.static y).before args s = true) (hn : As.length = n) (hroom : (rest.map fun v => v.category).sum ≤ 8) (hcs : cells + rmy.cells ≤ R.cells ∧ slots + rmy.slots ≤ R.slots) (hd : decode cc pc = .ok (.invokestatic index, 3))
    (kk : ∀ r1 σ2 v, relc r1 v → zzGO p l e R s m args below meth c nL A Wc Wf rel mc ms (kf r1 σ2) σ2 (cells + rmy.cells) (slots + rmy.slots) (pc + 3) (loc) (v.toList ++ rest)) : zzGO p l e R s m args below meth c nL A Wd Wf rel mc ms (zzbd fc kf) σ cells slots (pc) (loc) (st) := by
  subst hst
  refine zz_call (av := As.toArray) (mcc := rmy.cells) (msc := rmy.slots) (relc := relc) (fun r1 σ2 h H locs ls hW hl => ?_) kk
  exact va_runS (As := As) (rest := rest) C.1 (ct r1 σ2 h) cw ⟨zzPc_blind, fun U hU hWm => zzPc_at C.2.2.2 hU hWm hW⟩ rfl hn hl.1 rfl (lv_room hroom) hd hcs
theorem zz_callSN (C : zzCx p m meth c s args cc nL ws own ret Z) {β : Type} {fc : Option (β × S)} {kf : β → S → Option (α × S)} {relc : β → Option Value → Prop} {y : MethodName} {wsy : List Cond} {rmy : Room} {bytes : ByteArray} {maxL n index : Nat} {rety : Option FieldType} {host : String} {As rest : List Value} (hst : st = As.reverse ++ rest) (ct : zzCT l y wsy rmy A Z Wd Wc relc As fc σ) (cw : va_CN R s args own index y host bytes maxL rety wsy rmy rmy.cells rmy.slots n ∧ (Cond.static y).before args s = true ∧ True) (hn : As.length = n) (hroom : (rest.map fun v => v.category).sum ≤ 8) (hcs : cells + rmy.cells ≤ R.cells ∧ slots + rmy.slots ≤ R.slots) (hd : decode cc pc = .ok (.invokestatic index, 3))
    (kk : ∀ r1 σ2 v, relc r1 v → zzGO p l e R s m args below meth c nL A Wc Wf rel mc ms (kf r1 σ2) σ2 (cells + rmy.cells) (slots + rmy.slots) (pc + 3) (loc) (v.toList ++ rest)) : zzGO p l e R s m args below meth c nL A Wd Wf rel mc ms (zzbd fc kf) σ cells slots (pc) (loc) (st) := by
  subst hst
  refine zz_call (av := As.toArray) (mcc := rmy.cells) (msc := rmy.slots) (relc := relc) (fun r1 σ2 h H locs ls hW hl => ?_) kk
  exact va_runSN (As := As) (rest := rest) C.1 (ct r1 σ2 h) cw ⟨zzPc_blind, fun U hU hWm => zzPc_at C.2.2.2 hU hWm hW⟩ rfl hn hl.1 rfl (lv_room hroom) hd hcs
theorem zz_callSU (C : zzCx p m meth c s args cc nL ws own ret Z) {β : Type} {fc : Option (β × S)} {kf : β → S → Option (α × S)} {relc : β → Option Value → Prop} {y : MethodName} {wsy : List Cond} {rmy : Room} {bytes : ByteArray} {maxL n index : Nat} {rety : Option FieldType} {Cn : String} {cC : ClassId} {b : Nat} (hat : ClassAt s Cn cC) (hrecv : ∀ H, Wd σ H → ∃ cell : Cell, H[b]? = some cell ∧ cell.vm.isStatics = false ∧ s.vm.findClass Cn = some cell.cls) {As rest : List Value} (hst : st = As.reverse ++ .ref b :: rest) (ct : zzCT l y wsy rmy A Z Wd Wc relc (.ref b :: As) fc σ) (cw : va_CS R s args own index y bytes maxL rety wsy rmy rmy.cells rmy.slots n) (hn : As.length = n) (hroom : (rest.map fun v => v.category).sum ≤ 8) (hcs : cells + rmy.cells ≤ R.cells ∧ slots + rmy.slots ≤ R.slots) (hd : decode cc pc = .ok (.invokespecial index, 3))
    (kk : ∀ r1 σ2 v, relc r1 v → zzGO p l e R s m args below meth c nL A Wc Wf rel mc ms (kf r1 σ2) σ2 (cells + rmy.cells) (slots + rmy.slots) (pc + 3) (loc) (v.toList ++ rest)) : zzGO p l e R s m args below meth c nL A Wd Wf rel mc ms (zzbd fc kf) σ cells slots (pc) (loc) (st) := by
  subst hst
  refine zz_call (av := (.ref b :: As).toArray) (mcc := rmy.cells) (msc := rmy.slots) (relc := relc) (fun r1 σ2 h H locs ls hW hl => ?_) kk
  exact va_runSU (As := As) (rest := rest) hat C.1 (ct r1 σ2 h) cw ⟨zzPc_blind, hrecv H hW, fun U hU hWm => zzPc_at C.2.2.2 hU hWm hW⟩ rfl hn hl.1 rfl (lv_room hroom) hd hcs
theorem zz_mmin (C : zzCx p m meth c s args cc nL ws own ret Z) {x y : Int32} {index : Nat} (hlink : (Cond.methodLink own index Lib.Math.min.name).before args s = true) (hstat : (Cond.static Lib.Math.min.name).before args s = true) (hini : (Cond.initialized "java/lang/Math").before args s = true) (hcode : (Cond.code Lib.Math.min.name Lib.Math.min.code 2 (some .int)).before args s = true) (hframes : 1 ≤ R.frames) (hlocals : (st.map fun v => v.category).sum + 13 ≤ R.locals) (hc : cells ≤ R.cells) (hs : slots ≤ R.slots) (hd : decode cc pc = .ok (.invokestatic index, 3))
    (kk : zzGO p l e R s m args below meth c nL A Wd Wf rel mc ms (f) σ cells slots (pc + 3) (loc) (.int (zzmin x y) :: st)) : zzGO p l e R s m args below meth c nL A Wd Wf rel mc ms (f) σ cells slots (pc) (loc) (.int y :: .int x :: st) := by
  intro r σ' hf H locs ls hW hS hl
  exact va_mmin C.1.1 C.1.2.1 (C.1.2.2.1.trans hl.1.symm) C.1.2.2.2.1 hlink hstat hini hcode hframes hlocals hc hs hd (kk r σ' hf H locs ls hW hS hl)
theorem zz_mmax (C : zzCx p m meth c s args cc nL ws own ret Z) {x y : Int32} {index : Nat} (hlink : (Cond.methodLink own index Lib.Math.max.name).before args s = true) (hstat : (Cond.static Lib.Math.max.name).before args s = true) (hini : (Cond.initialized "java/lang/Math").before args s = true) (hcode : (Cond.code Lib.Math.max.name Lib.Math.max.code 2 (some .int)).before args s = true) (hframes : 1 ≤ R.frames) (hlocals : (st.map fun v => v.category).sum + 13 ≤ R.locals) (hc : cells ≤ R.cells) (hs : slots ≤ R.slots) (hd : decode cc pc = .ok (.invokestatic index, 3))
    (kk : zzGO p l e R s m args below meth c nL A Wd Wf rel mc ms (f) σ cells slots (pc + 3) (loc) (.int (zzmax x y) :: st)) : zzGO p l e R s m args below meth c nL A Wd Wf rel mc ms (f) σ cells slots (pc) (loc) (.int y :: .int x :: st) := by
  intro r σ' hf H locs ls hW hS hl
  exact va_mmax C.1.1 C.1.2.1 (C.1.2.2.1.trans hl.1.symm) C.1.2.2.2.1 hlink hstat hini hcode hframes hlocals hc hs hd (kk r σ' hf H locs ls hW hS hl)
theorem zz_ldc (C : zzCx p m meth c s args cc nL ws own ret Z) {index : Nat} {v : Int32} (hconst : (Cond.constant own index v).before args s = true) (hd : decode cc pc = .ok (.ldc index, 2))
    (kk : zzGO p l e R s m args below meth c nL A Wd Wf rel mc ms (f) σ cells slots (pc + 2) (loc) (.int v :: st)) : zzGO p l e R s m args below meth c nL A Wd Wf rel mc ms (f) σ cells slots (pc) (loc) (st) := by
  intro r σ' hf H locs ls hW hS hl
  exact lv_ldc C.1.1 C.1.2.1 C.1.2.2.2.1 hconst hd (kk r σ' hf H locs ls hW hS hl)
theorem zz_ldcw (C : zzCx p m meth c s args cc nL ws own ret Z) {index : Nat} {v : Int32} (hconst : (Cond.constant own index v).before args s = true) (hd : decode cc pc = .ok (.ldc_w index, 3))
    (kk : zzGO p l e R s m args below meth c nL A Wd Wf rel mc ms (f) σ cells slots (pc + 3) (loc) (.int v :: st)) : zzGO p l e R s m args below meth c nL A Wd Wf rel mc ms (f) σ cells slots (pc) (loc) (st) := by
  intro r σ' hf H locs ls hW hS hl
  exact lv_ldcw C.1.1 C.1.2.1 C.1.2.2.2.1 hconst hd (kk r σ' hf H locs ls hW hS hl)
theorem zz_ldc2 (C : zzCx p m meth c s args cc nL ws own ret Z) {index : Nat} {v : Int64} (hconst : (Cond.constantLong own index v).before args s = true) (hd : decode cc pc = .ok (.ldc2_w index, 3))
    (kk : zzGO p l e R s m args below meth c nL A Wd Wf rel mc ms (f) σ cells slots (pc + 3) (loc) (.long v :: st)) : zzGO p l e R s m args below meth c nL A Wd Wf rel mc ms (f) σ cells slots (pc) (loc) (st) := by
  intro r σ' hf H locs ls hW hS hl
  exact lv_ldc2 C.1.1 C.1.2.1 C.1.2.2.2.1 hconst hd (kk r σ' hf H locs ls hW hS hl)
theorem zz_fact {P : Prop} (h : ∀ H, Wd σ H → P) (kk : P → zzGO p l e R s m args below meth c nL A Wd Wf rel mc ms (f) σ cells slots (pc) (loc) (st)) : zzGO p l e R s m args below meth c nL A Wd Wf rel mc ms (f) σ cells slots (pc) (loc) (st) := fun r σ' hf H locs ls hW hS hl => kk (h H hW) r σ' hf H locs ls hW hS hl
theorem zz_ltQ {k : Option Nat → Option (α × S)} {a : Option Nat} (kk : ∀ b, zzGO p l e R s m args below meth c nL A Wd Wf rel mc ms (k b) σ cells slots (pc) (loc) (va_rf (Option.map (zzad Z) b) :: st)) : zzGO p l e R s m args below meth c nL A Wd Wf rel mc ms (zzlt a k) σ cells slots (pc) (loc) (va_rf (Option.map (zzad Z) a) :: st) := kk a
theorem zz_nnQ {x : Option Nat} {fS : Nat → Option (α × S)} (kS : ∀ j, x = some j → zzGO p l e R s m args below meth c nL A Wd Wf rel mc ms (fS j) σ cells slots (pc) (loc) (.ref (zzad Z j) :: st)) : zzGO p l e R s m args below meth c nL A Wd Wf rel mc ms (zzon x none fS) σ cells slots (pc) (loc) (va_rf (x.map (zzad Z)) :: st) := by
  cases x with
  | none => exact fun r σ' hf => by cases hf
  | some j => exact kS j rfl
theorem zz_kI {kf : Int32 → S → Option (α × S)} {mcc msc : Nat} (h0 : mcc = 0) (h1 : msc = 0) (kk : ∀ r1 σ2, zzGO p l e R s m args below meth c nL A Wd Wf rel mc ms (kf r1 σ2) σ2 cells slots (pc) (loc) (.int r1 :: st)) : ∀ r1 σ2 v, zzRI r1 v → zzGO p l e R s m args below meth c nL A Wd Wf rel mc ms (kf r1 σ2) σ2 (cells + mcc) (slots + msc) (pc) (loc) (v.toList ++ st) := by
  intro r1 σ2 v hv
  subst h0 h1
  have hv : v = _ := hv
  subst hv
  exact kk r1 σ2
theorem zz_kL {kf : Int64 → S → Option (α × S)} {mcc msc : Nat} (h0 : mcc = 0) (h1 : msc = 0) (kk : ∀ r1 σ2, zzGO p l e R s m args below meth c nL A Wd Wf rel mc ms (kf r1 σ2) σ2 cells slots (pc) (loc) (.long r1 :: st)) : ∀ r1 σ2 v, zzRL r1 v → zzGO p l e R s m args below meth c nL A Wd Wf rel mc ms (kf r1 σ2) σ2 (cells + mcc) (slots + msc) (pc) (loc) (v.toList ++ st) := by
  intro r1 σ2 v hv
  subst h0 h1
  have hv : v = _ := hv
  subst hv
  exact kk r1 σ2
theorem zz_kV {kf : Unit → S → Option (α × S)} {mcc msc : Nat} (h0 : mcc = 0) (h1 : msc = 0) (kk : ∀ r1 σ2, zzGO p l e R s m args below meth c nL A Wd Wf rel mc ms (kf r1 σ2) σ2 cells slots (pc) (loc) (st)) : ∀ r1 σ2 v, zzRV r1 v → zzGO p l e R s m args below meth c nL A Wd Wf rel mc ms (kf r1 σ2) σ2 (cells + mcc) (slots + msc) (pc) (loc) (v.toList ++ st) := by
  intro r1 σ2 v hv
  subst h0 h1
  have hv : v = _ := hv
  subst hv
  exact kk r1 σ2
theorem zz_kP {PL : Nat → Option (Nat × Int32)} {kf : Option (Nat × Int32) → S → Option (α × S)} {mcc msc : Nat} (h0 : mcc = 0) (h1 : msc = 0) (kk : ∀ r1 σ2 c0, zzpr PL r1 c0 → zzGO p l e R s m args below meth c nL A Wd Wf rel mc ms (kf r1 σ2) σ2 cells slots (pc) (loc) (va_rf c0 :: st)) : ∀ r1 σ2 v, zzRP PL r1 v → zzGO p l e R s m args below meth c nL A Wd Wf rel mc ms (kf r1 σ2) σ2 (cells + mcc) (slots + msc) (pc) (loc) (v.toList ++ st) := by
  intro r1 σ2 v hv
  subst h0 h1
  obtain ⟨c0, h2, rfl⟩ := hv
  exact kk r1 σ2 c0 h2
theorem zz_kQ {kf : Option Nat → S → Option (α × S)} {mcc msc : Nat} (h0 : mcc = 0) (h1 : msc = 0) (kk : ∀ r1 σ2, zzGO p l e R s m args below meth c nL A Wd Wf rel mc ms (kf r1 σ2) σ2 cells slots (pc) (loc) (va_rf (r1.map (zzad Z)) :: st)) : ∀ r1 σ2 v, zzRQ Z r1 v → zzGO p l e R s m args below meth c nL A Wd Wf rel mc ms (kf r1 σ2) σ2 (cells + mcc) (slots + msc) (pc) (loc) (v.toList ++ st) := by
  intro r1 σ2 v hv
  subst h0 h1
  have hv : v = _ := hv
  subst hv
  exact kk r1 σ2
end ZZ2
/-- super.m(..) where the superclass has m from its own superclass -/
theorem zz_runSI {p : Program} {l : Launch} {e : Env} {R : Room} {s : State} {m : MethodId} {args : Array Value} {below : List Frame} {meth : Method} {c : Code} {H : Heap} {locs : List Loc} {cells slots : Nat}
    {x y : MethodName} {bytes cc : ByteArray} {maxL nL mc ms n index : Nat} {ret : Option FieldType} {ws : List Cond} {rm : Room} {Pc : Array Value → State → Prop} {Qc : Array Value → State → Outcome → State → Prop} {free : Addr → Prop} {Ts : List Cond} {own C : String} {cC : ClassId} {b : Addr} {As rest : List Value} {g : JFrame}
    (hat : ClassAt s C cC) (S : CallFix p m c cc nL s args Ts own) (hM : Met l y ws rm Pc Qc mc ms free)
    (hrc : rm.cells = mc) (hrs : rm.slots = ms) (hfr : rm.frames + 1 ≤ R.frames) (hlo : 8 + (maxL + 11) + rm.locals ≤ R.locals) (hws : ∀ w ∈ ws, ∀ (a' : Array Value) (U : State), s.WarmedH U.vm → w.before a' U = true) (hcw : Cond.code y bytes maxL ret ∈ ws)
    (hl1 : (Cond.methodLink own index x).before args s = true) (hyx : y = ⟨y.cls, x.name, x.desc⟩) (hl2 : (Cond.sameMethod x.cls y.cls x.name x.desc).before args s = true) (hl3 : (Cond.superclass own x.cls).before args s = true) (hl3b : (Cond.superclass x.cls y.cls).before args s = true) (hl4 : (Cond.instanceMethod y).before args s = true) (hini : (Cond.initialized y.cls).before args s = true) (hcode : (Cond.code y bytes maxL ret).before args s = true) (hno : x.name ≠ "<init>") (hlen : ∀ sig, parseMethodDescriptor y.desc = some sig → n = sig.parameters.length)
    (hp : PreV s H C b Pc As)
    (hg : g.method = m) (hn : As.length = n) (hsize : g.locals.size = nL) (hstack : g.stack = As.reverse ++ .ref b :: rest) (hW : 2 * g.monitorRoom + (rest.map fun v => v.category).sum ≤ 8) (hdg : decode cc g.pc = .ok (.invokespecial index, 3)) (hf : cells + mc ≤ R.cells ∧ slots + ms ≤ R.slots) :
    va_Run p l e R s m args below meth c H locs cells slots mc ms g rest (Qc (Value.ref b :: As).toArray) (free) := by
  have hK : Back l R p e below s args y 3 8 (PreOf R mc ms Pc) (PostOf Qc mc ms free) := back_of (bytes := bytes) (maxL := maxL) (ret := ret) hM hp.1 hrc hrs hfr hlo hws hcw (fun a' U hW => word_at hW (Or.inl (by first | rfl | simp [Cond.onTables, Cond.keeps, Cond.steady])) hini)
  obtain ⟨hx, hb, hml, ho, -⟩ := S
  obtain ⟨-, ⟨cellB, hcB, hoB, hclB⟩, hPc⟩ := hp
  obtain ⟨hfc, kB, hkB, -⟩ := hat
  cases hfc.symm.trans hclB
  intro T hT X
  obtain ⟨mk, methM, hnamed, hmethM, hstM, habM⟩ := Cond.instanceMethod_spec hl4
  obtain ⟨methM', cM, hmethM', -, -, -, -, -, -, hsigM⟩ := Cond.code_spec hnamed hcode
  cases hmethM.symm.trans hmethM'
  obtain ⟨ps, dk, kp, hps, hdk, hkp, hsuper, -, -, hnid⟩ := Cond.superclass_spec ho hl3
  obtain ⟨ps2, dk2, kp2, hps2, hdk2, hkp2, hsuper2, -, -, -⟩ := Cond.superclass_spec hps hl3b
  have hn0 : s.methodNamed? ⟨y.cls, x.name, x.desc⟩ = some mk := by rw [← hyx]; exact hnamed
  have hpm : ps2 = mk.cls := Option.some.inj (hps2.symm.trans (findClass_of_methodNamed hnamed))
  have hsz : 0 < s.vm.classes.size := Nat.lt_of_le_of_lt (Nat.zero_le _) (Array.getElem?_eq_some_iff.mp hdk2).1
  have hsub : s.vm.isSubclass ps mk.cls = true := by
    rw [← hpm]
    obtain ⟨z, hz⟩ : ∃ z, s.vm.classes.size = z + 1 := ⟨s.vm.classes.size - 1, by omega⟩
    simp [Vm.isSubclass, Vm.isSubclassAux, hdk2, hsuper2, hz]
  obtain ⟨vm₁, X₁, hstep₁⟩ := X.invokespecialUp hx (x := x) (owner := y.cls) ho hl1 hl2 hn0 hmethM hstM habM hno hdk hnid hps hsuper hsub (a := b) (cell := cellB) (by rw [hT]; exact hcB)
    (fun z h => by rw [h] at hoB; cases hoB) hkB (g := g) hg (argsL := As) (rest := rest) (hn.trans (hlen _ hsigM)) hstack (by rw [hb]; exact hdg)
  obtain ⟨v, ⟨U', l2, c2, s2⟩, X', ⟨g', mk', t, L, e1, e2, hq, h1, hL, h2, h3⟩, hsteps⟩ := hK m meth c ⟨T.setVm vm₁, locs, cells, slots⟩ { g with stack := rest } (.invokespecial index) mk (Value.ref b :: As).toArray X₁ hg (hsize.trans hml.symm) (by rw [hb]; exact hdg) hW (X₁.named hnamed) ⟨hf.1, hf.2, hPc (T.setVm vm₁) hT X₁.warmed⟩
  dsimp only [Pt.U, Pt.locs, Pt.cells, Pt.slots] at X' e1 e2 h1 h2 h3 hsteps
  subst h1; subst h2; subst h3
  exact ⟨v, (T.setVm vm₁).calling g' mk' (Value.ref b :: As).toArray, t, U', L, hT, X', hL, e1, e2, hq, fun target h => hstep₁ _ (by rw [doInvoke_state]; exact hsteps.trans h)⟩
/-! ===== the two sides' worlds: what lies where, what a write leaves ===== -/
def zzX (Z : zzG) (base : Nat) (PL : Nat → Option (Nat × Int32)) (mm : zzS) : zzS → Heap → Prop := fun x H => zzH Z base PL x mm H
def zzM (Z : zzG) (base : Nat) (PL : Nat → Option (Nat × Int32)) (x : zzS) : zzS → Heap → Prop := fun mm H => zzH Z base PL x mm H
section ZZ3
variable {Z : zzG} {base : Nat} {PL : Nat → Option (Nat × Int32)} {x mm : zzS} {H H1 : Heap} {k t : Nat}
theorem zzH_at (h : zzH Z base PL x mm H) (hk : k < 56) : ∃ g : Nat → Nat → Option Nat, (∀ k j, zzpr PL (zzr x k j) (g k j)) ∧ va_at Z.1 vwCl (zzad Z k, zzE Z g x mm k) H := by
  obtain ⟨g, h1, h2⟩ := h.2.1
  exact ⟨g, h1, h2 k hk⟩
theorem zztown_lt (h : zztown t) : t < 32 := by rcases h with rfl | rfl | rfl <;> decide
theorem zzrow_lt (h : zzrow t) : t < 20 := by rcases h with rfl | rfl | rfl | rfl | rfl | rfl | rfl | rfl <;> decide
theorem zzA_ad (h : zzH Z base PL x mm H) (hk : k < 56) : base ≤ zzad Z k := h.1.2.1 k hk
-- the halves' slices
theorem zzE_X {g : Nat → Nat → Option Nat} (hk : k < 36) : zzE Z g x mm k = zzEl Z k (zzi x k) (zza x k) (zzl x k) (g k) (zzq x) := by unfold zzE zzk; rw [if_pos hk]
theorem zzE_M {g : Nat → Nat → Option Nat} (hk : 36 ≤ k) : zzE Z g x mm k = zzEl Z k (zzi mm k) (zza mm k) (zzl mm k) (g k) (zzq mm) := by unfold zzE zzk; rw [if_neg (by omega)]
theorem zzX_town (ht : zztown t) : ∀ H, zzX Z base PL mm x H → va_at Z.1 vwCl (zzad Z t, .inr (10, [.ref (zzad Z (t + 1)), .ref (zzad Z (t + 2)), .ref (zzad Z (t + 3)), .ref (zzsp Z t), .int (zzi x t 4), .int (zzi x t 5), .int (zzi x t 6)])) H := by
  intro H h
  have hlt := zztown_lt ht
  obtain ⟨g, -, h2⟩ := zzH_at h (show t < 56 by omega)
  rw [zzE_X (by omega), zzEl_town ht] at h2
  exact h2
theorem zzX_row (ht : zzrow t) : ∀ H, zzX Z base PL mm x H → va_at Z.1 vwCl (zzad Z t, .inr (7, [.ref (zzad Z (t + 1)), .int (zzi x t 1), .int (zzi x t 2)])) H := by
  intro H h
  have hlt := zzrow_lt ht
  obtain ⟨g, -, h2⟩ := zzH_at h (show t < 56 by omega)
  rw [zzE_X (by omega), zzEl_row ht] at h2
  exact h2
theorem zzX_obj : ∀ H, zzX Z base PL mm x H → va_at Z.1 vwCl (zzad Z 0, .inr (11, [.ref (zzad Z 1), .ref (zzad Z 2), .ref (zzad Z 3), .ref (zzad Z 20), .ref (zzad Z 24), .ref (zzad Z 28), .ref (zzad Z 32), .int (zzi x 0 7), .int (zzi x 0 8)])) H := by
  intro H h
  obtain ⟨g, -, h2⟩ := zzH_at h (show 0 < 56 by omega)
  exact h2
theorem zzX_circ : ∀ H, zzX Z base PL mm x H → va_at Z.1 vwCl (zzad Z 32, .inr (2, [.ref (zzad Z 33), .ref (zzad Z 34), .ref (zzad Z 35), .int (zzi x 32 3)])) H := by
  intro H h
  obtain ⟨g, -, h2⟩ := zzH_at h (show 32 < 56 by omega)
  exact h2
theorem zzX_arr (hk : zzXarr k) : ∀ H, zzX Z base PL mm x H → va_at Z.1 vwCl (zzad Z k, .inl (zzcA Z 0, zzlen k, .inl (zza x k))) H := by
  intro H h
  obtain ⟨g, -, h2⟩ := zzH_at h (show k < 56 by have := hk.1; omega)
  rw [zzE_X hk.1, zzEl_arr hk.2] at h2
  exact h2
theorem zzX_rows : ∀ H, zzX Z base PL mm x H → va_at Z.1 vwCl (zzad Z 2, .inl (zzcA Z 3, 8, .inr (.inr (.inr (.inr (fun j => (zzq x j).map (zzad Z))))))) H := by
  intro H h
  obtain ⟨g, -, h2⟩ := zzH_at h (show 2 < 56 by omega)
  exact h2
theorem zzX_spare : ∀ H, zzX Z base PL mm x H → va_at Z.1 vwCl (zzad Z 3, .inl (zzcA Z 3, 8, .inr (.inr (.inr (.inr (fun j => some (zzad Z (4 + 2 * j)))))))) H := by
  intro H h
  obtain ⟨g, -, h2⟩ := zzH_at h (show 3 < 56 by omega)
  exact h2
abbrev zzpk (k : Nat) : Prop := k = 1 ∨ k = 21 ∨ k = 25 ∨ k = 29
theorem zzpk_lt (h : zzpk k) : k < 32 := by rcases h with rfl | rfl | rfl | rfl <;> decide
theorem zzX_pers (hk : zzpk k) (j : Nat) : ∀ H, zzX Z base PL mm x H → ∃ f0 : Nat → Option Nat, va_at Z.1 vwCl (zzad Z k, .inl (zzcA Z 2, zzplen k, .inr (.inr (.inr (.inr f0))))) H ∧ zzpr PL (zzr x k j) (f0 j) := by
  intro H h
  have hlt := zzpk_lt hk
  obtain ⟨g, h1, h2⟩ := zzH_at h (show k < 56 by omega)
  rw [zzE_X (by omega), zzEl_pers hk] at h2
  exact ⟨g k, h2, h1 k j⟩
theorem zzX_pers1 {q : Nat} {kf : Nat × Int32} (hq : PL q = some kf) : ∀ H, zzX Z base PL mm x H → va_at Z.1 vwCl (q, .inr (zzpci kf.1, [.int kf.2])) H := fun H h => h.2.2 q kf hq
theorem zzM_obj : ∀ H, zzM Z base PL x mm H → va_at Z.1 vwCl (zzad Z 36, .inr (12, [.int (zzi mm 36 0), .ref (zzad Z 37), .ref (zzad Z 38), .ref (zzad Z 39), .ref (zzad Z 40), .int (zzi mm 36 5), .int (zzi mm 36 6), .ref (zzad Z 41), .ref (zzad Z 42), .ref (zzad Z 43), .ref (zzad Z 44), .ref (zzad Z 45), .ref (zzad Z 53), .int (zzi mm 36 13), .int (zzi mm 36 14), .int (zzi mm 36 15), .int (zzi mm 36 16), .int (zzi mm 36 17), .ref (zzad Z 46), .ref (zzad Z 47), .ref (zzad Z 48), .ref (zzad Z 49), .ref (zzad Z 50), .int (zzi mm 36 23), .int (zzi mm 36 24), .int (zzi mm 36 25), va_rf ((zzq mm 0).map (zzad Z)), .ref (zzad Z 51), .ref (zzad Z 52), .int (zzi mm 36 29), .ref (zzad Z 54)])) H := by
  intro H h
  obtain ⟨g, -, h2⟩ := zzH_at h (show 36 < 56 by omega)
  exact h2
theorem zzM_arr (hk : zzMarr k) : ∀ H, zzM Z base PL x mm H → va_at Z.1 vwCl (zzad Z k, .inl (zzcA Z 0, zzlen k, .inl (zza mm k))) H := by
  intro H h
  have hlt := zzlen_lt hk.2
  obtain ⟨g, -, h2⟩ := zzH_at h (show k < 56 by omega)
  rw [zzE_M hk.1, zzEl_arr hk.2] at h2
  exact h2
theorem zzM_rows : ∀ H, zzM Z base PL x mm H → va_at Z.1 vwCl (zzad Z 53, .inl (zzcA Z 1, 800, .inr (.inl (zzl mm 53)))) H := by
  intro H h
  obtain ⟨g, -, h2⟩ := zzH_at h (show 53 < 56 by omega)
  exact h2
theorem zzM_betw : ∀ H, zzM Z base PL x mm H → va_at Z.1 vwCl (zzad Z 54, .inl (zzcA Z 1, 100, .inr (.inl (zzl mm 54)))) H := by
  intro H h
  obtain ⟨g, -, h2⟩ := zzH_at h (show 54 < 56 by omega)
  exact h2
-- writes
theorem zzsi_ne {v : Int32} {n i : Nat} (h : i ≠ k) : zzi (zzsi x k n v) i = zzi x i := by funext j; simp [zzi, zzsi, zzu, h]
theorem zzsa_ne {v : Int32} {n i : Nat} (h : i ≠ k) : zza (zzsa x k n v) i = zza x i := by funext j; simp [zza, zzsa, zzu, h]
theorem zzsl_ne {v : Int64} {n i : Nat} (h : i ≠ k) : zzl (zzsl x k n v) i = zzl x i := by funext j; simp [zzl, zzsl, zzu, h]
theorem zzsa_at {v : Int32} {n : Nat} : zza (zzsa x k n v) k = upd (zza x k) n v := by funext j; simp [zza, zzsa, zzu, upd]
theorem zzsl_at {v : Int64} {n : Nat} : zzl (zzsl x k n v) k = vp_updL (zzl x k) n v := by funext j; simp [zzl, zzsl, zzu, vp_updL]
theorem zzsi_at {v : Int32} {n : Nat} : zzi (zzsi x k n v) k = upd (zzi x k) n v := by funext j; simp [zzi, zzsi, zzu, upd]
/-- a write of an int field or a place of a prim array, on the class's side -/
theorem zzX_wr {x' : zzS} (hk : k < 36) (hi : ∀ i, i ≠ k → zzi x' i = zzi x i) (ha : ∀ i, i ≠ k → zza x' i = zza x i) (hl : ∀ i, i ≠ k → zzl x' i = zzl x i) (hr : zzr x' = zzr x) (hq : zzq x' = zzq x) {en : va_E} (hen : ∀ g : Nat → Option Nat, zzEl Z k (zzi x' k) (zza x' k) (zzl x' k) g (zzq x') = en)
    (h : zzX Z base PL mm x H) (hnew : va_at Z.1 vwCl (zzad Z k, en) H1) (oq : ∀ q : Nat, q ≠ zzad Z k → H1[q]? = H[q]?) : zzX Z base PL mm x' H1 := by
  obtain ⟨hOk, ⟨g, h1, h2⟩, h3⟩ := h
  refine zzH_put (k := k) (by omega) g g hOk h2 h3 (fun k j => by rw [hr]; exact h1 k j) (fun i _ hne => ?_) ?_ oq
  · rcases Nat.lt_or_ge i 36 with q | q
    · rw [zzE_X q, zzE_X q, hi i hne, ha i hne, hl i hne, hq]
    · rw [zzE_M q, zzE_M q]
  · rw [zzE_X hk, hen]
    exact hnew
theorem zzM_wr {m' : zzS} (hk : 36 ≤ k) (hk2 : k < 56) (hi : ∀ i, i ≠ k → zzi m' i = zzi mm i) (ha : ∀ i, i ≠ k → zza m' i = zza mm i) (hl : ∀ i, i ≠ k → zzl m' i = zzl mm i) (hq : k ≠ 36 → zzq m' = zzq mm) (hq2 : ∀ i, 36 ≤ i → i < 56 → i ≠ 36 → ∀ (I : Nat → Int32) (A : Nat → Int32) (L : Nat → Int64) (g : Nat → Option Nat), zzEl Z i I A L g (zzq m') = zzEl Z i I A L g (zzq mm)) {en : va_E} (hen : ∀ g : Nat → Option Nat, zzEl Z k (zzi m' k) (zza m' k) (zzl m' k) g (zzq m') = en)
    (h : zzM Z base PL x mm H) (hnew : va_at Z.1 vwCl (zzad Z k, en) H1) (oq : ∀ q : Nat, q ≠ zzad Z k → H1[q]? = H[q]?) : zzM Z base PL x m' H1 := by
  obtain ⟨hOk, ⟨g, h1, h2⟩, h3⟩ := h
  refine zzH_put (k := k) hk2 g g hOk h2 h3 h1 (fun i hi56 hne => ?_) ?_ oq
  · rcases Nat.lt_or_ge i 36 with q | q
    · rw [zzE_X q, zzE_X q]
    · rw [zzE_M q, zzE_M q, hi i hne, ha i hne, hl i hne]
      by_cases h36 : i = 36
      · subst h36
        rw [hq (fun e => hne e.symm)]
      · exact hq2 i q hi56 h36 _ _ _ _
  · rw [zzE_M hk, hen]
    exact hnew
theorem zzX_utown (ht : zztown t) {n : Nat} {v : Int32} (hn : n = 4 ∨ n = 5 ∨ n = 6) : ∀ H H1, zzX Z base PL mm x H → va_at Z.1 vwCl (zzad Z t, .inr (10, [.ref (zzad Z (t + 1)), .ref (zzad Z (t + 2)), .ref (zzad Z (t + 3)), .ref (zzsp Z t), .int (zzi x t 4), .int (zzi x t 5), .int (zzi x t 6)].set n (.int v))) H1 → (∀ q : Nat, q ≠ zzad Z t → H1[q]? = H[q]?) → zzX Z base PL mm (zzsi x t n v) H1 := by
  intro H H1 h hnew oq
  have hlt := zztown_lt ht
  refine zzX_wr (x := x) (by omega) (fun i hi => zzsi_ne hi) (fun _ _ => rfl) (fun _ _ => rfl) rfl rfl (fun g => ?_) h hnew oq
  rw [zzEl_town ht, zzsi_at]
  rcases hn with rfl | rfl | rfl <;> simp [upd]
theorem zzX_urow (ht : zzrow t) {n : Nat} {v : Int32} (hn : n = 1 ∨ n = 2) : ∀ H H1, zzX Z base PL mm x H → va_at Z.1 vwCl (zzad Z t, .inr (7, [.ref (zzad Z (t + 1)), .int (zzi x t 1), .int (zzi x t 2)].set n (.int v))) H1 → (∀ q : Nat, q ≠ zzad Z t → H1[q]? = H[q]?) → zzX Z base PL mm (zzsi x t n v) H1 := by
  intro H H1 h hnew oq
  have hlt := zzrow_lt ht
  refine zzX_wr (x := x) (by omega) (fun i hi => zzsi_ne hi) (fun _ _ => rfl) (fun _ _ => rfl) rfl rfl (fun g => ?_) h hnew oq
  rw [zzEl_row ht, zzsi_at]
  rcases hn with rfl | rfl <;> simp [upd]
theorem zzX_uobj {n : Nat} {v : Int32} (hn : n = 7 ∨ n = 8) : ∀ H H1, zzX Z base PL mm x H → va_at Z.1 vwCl (zzad Z 0, .inr (11, [.ref (zzad Z 1), .ref (zzad Z 2), .ref (zzad Z 3), .ref (zzad Z 20), .ref (zzad Z 24), .ref (zzad Z 28), .ref (zzad Z 32), .int (zzi x 0 7), .int (zzi x 0 8)].set n (.int v))) H1 → (∀ q : Nat, q ≠ zzad Z 0 → H1[q]? = H[q]?) → zzX Z base PL mm (zzsi x 0 n v) H1 := by
  intro H H1 h hnew oq
  refine zzX_wr (x := x) (by omega) (fun i hi => zzsi_ne hi) (fun _ _ => rfl) (fun _ _ => rfl) rfl rfl (fun g => ?_) h hnew oq
  rw [zzsi_at]
  rcases hn with rfl | rfl <;> simp [upd, zzEl, zzEs]
theorem zzX_ucirc {n : Nat} {v : Int32} (hn : n = 3) : ∀ H H1, zzX Z base PL mm x H → va_at Z.1 vwCl (zzad Z 32, .inr (2, [.ref (zzad Z 33), .ref (zzad Z 34), .ref (zzad Z 35), .int (zzi x 32 3)].set n (.int v))) H1 → (∀ q : Nat, q ≠ zzad Z 32 → H1[q]? = H[q]?) → zzX Z base PL mm (zzsi x 32 n v) H1 := by
  intro H H1 h hnew oq
  refine zzX_wr (x := x) (by omega) (fun i hi => zzsi_ne hi) (fun _ _ => rfl) (fun _ _ => rfl) rfl rfl (fun g => ?_) h hnew oq
  rw [zzsi_at]
  subst hn
  simp [upd, zzEl, zzEs]
theorem zzX_uarr (hk : zzXarr k) {j : Nat} {v : Int32} : ∀ H H1, zzX Z base PL mm x H → va_at Z.1 vwCl (zzad Z k, .inl (zzcA Z 0, zzlen k, .inl (upd (zza x k) j v))) H1 → (∀ q : Nat, q ≠ zzad Z k → H1[q]? = H[q]?) → zzX Z base PL mm (zzsa x k j v) H1 := by
  intro H H1 h hnew oq
  refine zzX_wr (x := x) hk.1 (fun _ _ => rfl) (fun i hi => zzsa_ne hi) (fun _ _ => rfl) rfl rfl (fun g => ?_) h hnew oq
  rw [zzEl_arr hk.2, zzsa_at]
theorem zzM_q36 {Q Q' : Nat → Option Nat} : ∀ i, 36 ≤ i → i < 56 → i ≠ 36 → ∀ (I : Nat → Int32) (A : Nat → Int32) (L : Nat → Int64) (g : Nat → Option Nat), zzEl Z i I A L g Q = zzEl Z i I A L g Q' := by
  intro i h1 h2 h3 I A L g
  rcases (show i = 37 ∨ i = 38 ∨ i = 39 ∨ i = 40 ∨ i = 41 ∨ i = 42 ∨ i = 43 ∨ i = 44 ∨ i = 45 ∨ i = 46 ∨ i = 47 ∨ i = 48 ∨ i = 49 ∨ i = 50 ∨ i = 51 ∨ i = 52 ∨ i = 53 ∨ i = 54 ∨ i = 55 by omega) with rfl | rfl | rfl | rfl | rfl | rfl | rfl | rfl | rfl | rfl | rfl | rfl | rfl | rfl | rfl | rfl | rfl | rfl | rfl <;> rfl
theorem zzM_uobj {n : Nat} {v : Int32} (hn : n = 0 ∨ n = 5 ∨ n = 6 ∨ n = 13 ∨ n = 14 ∨ n = 15 ∨ n = 16 ∨ n = 17 ∨ n = 23 ∨ n = 24 ∨ n = 25 ∨ n = 29) : ∀ H H1, zzM Z base PL x mm H → va_at Z.1 vwCl (zzad Z 36, .inr (12, [.int (zzi mm 36 0), .ref (zzad Z 37), .ref (zzad Z 38), .ref (zzad Z 39), .ref (zzad Z 40), .int (zzi mm 36 5), .int (zzi mm 36 6), .ref (zzad Z 41), .ref (zzad Z 42), .ref (zzad Z 43), .ref (zzad Z 44), .ref (zzad Z 45), .ref (zzad Z 53), .int (zzi mm 36 13), .int (zzi mm 36 14), .int (zzi mm 36 15), .int (zzi mm 36 16), .int (zzi mm 36 17), .ref (zzad Z 46), .ref (zzad Z 47), .ref (zzad Z 48), .ref (zzad Z 49), .ref (zzad Z 50), .int (zzi mm 36 23), .int (zzi mm 36 24), .int (zzi mm 36 25), va_rf ((zzq mm 0).map (zzad Z)), .ref (zzad Z 51), .ref (zzad Z 52), .int (zzi mm 36 29), .ref (zzad Z 54)].set n (.int v))) H1 → (∀ q : Nat, q ≠ zzad Z 36 → H1[q]? = H[q]?) → zzM Z base PL x (zzsi mm 36 n v) H1 := by
  intro H H1 h hnew oq
  refine zzM_wr (mm := mm) (by omega) (by omega) (fun i hi => zzsi_ne hi) (fun _ _ => rfl) (fun _ _ => rfl) (fun _ => rfl) zzM_q36 (fun g => ?_) h hnew oq
  rw [zzsi_at]
  rcases hn with rfl | rfl | rfl | rfl | rfl | rfl | rfl | rfl | rfl | rfl | rfl | rfl <;> simp [upd, zzEl, zzEs] <;> rfl
theorem zzM_ukept {v : Option Nat} : ∀ H H1, zzM Z base PL x mm H → va_at Z.1 vwCl (zzad Z 36, .inr (12, [.int (zzi mm 36 0), .ref (zzad Z 37), .ref (zzad Z 38), .ref (zzad Z 39), .ref (zzad Z 40), .int (zzi mm 36 5), .int (zzi mm 36 6), .ref (zzad Z 41), .ref (zzad Z 42), .ref (zzad Z 43), .ref (zzad Z 44), .ref (zzad Z 45), .ref (zzad Z 53), .int (zzi mm 36 13), .int (zzi mm 36 14), .int (zzi mm 36 15), .int (zzi mm 36 16), .int (zzi mm 36 17), .ref (zzad Z 46), .ref (zzad Z 47), .ref (zzad Z 48), .ref (zzad Z 49), .ref (zzad Z 50), .int (zzi mm 36 23), .int (zzi mm 36 24), .int (zzi mm 36 25), va_rf ((zzq mm 0).map (zzad Z)), .ref (zzad Z 51), .ref (zzad Z 52), .int (zzi mm 36 29), .ref (zzad Z 54)].set 26 (va_rf (v.map (zzad Z))))) H1 → (∀ q : Nat, q ≠ zzad Z 36 → H1[q]? = H[q]?) → zzM Z base PL x (zzsq mm 0 v) H1 := by
  intro H H1 h hnew oq
  refine zzM_wr (mm := mm) (by omega) (by omega) (fun _ _ => rfl) (fun _ _ => rfl) (fun _ _ => rfl) (fun h => absurd rfl h) zzM_q36 (fun g => ?_) h hnew oq
  rfl
theorem zzM_uarr (hk : zzMarr k) {j : Nat} {v : Int32} : ∀ H H1, zzM Z base PL x mm H → va_at Z.1 vwCl (zzad Z k, .inl (zzcA Z 0, zzlen k, .inl (upd (zza mm k) j v))) H1 → (∀ q : Nat, q ≠ zzad Z k → H1[q]? = H[q]?) → zzM Z base PL x (zzsa mm k j v) H1 := by
  intro H H1 h hnew oq
  have hlt := zzlen_lt hk.2
  refine zzM_wr (mm := mm) hk.1 (by omega) (fun _ _ => rfl) (fun i hi => zzsa_ne hi) (fun _ _ => rfl) (fun _ => rfl) zzM_q36 (fun g => ?_) h hnew oq
  rw [zzEl_arr hk.2, zzsa_at]
theorem zzM_urows {j : Nat} {v : Int64} : ∀ H H1, zzM Z base PL x mm H → va_at Z.1 vwCl (zzad Z 53, .inl (zzcA Z 1, 800, .inr (.inl (vp_updL (zzl mm 53) j v)))) H1 → (∀ q : Nat, q ≠ zzad Z 53 → H1[q]? = H[q]?) → zzM Z base PL x (zzsl mm 53 j v) H1 := by
  intro H H1 h hnew oq
  refine zzM_wr (mm := mm) (by omega) (by omega) (fun _ _ => rfl) (fun _ _ => rfl) (fun i hi => zzsl_ne hi) (fun _ => rfl) zzM_q36 (fun g => ?_) h hnew oq
  rw [zzsl_at]
  rfl
theorem zzM_ubetw {j : Nat} {v : Int64} : ∀ H H1, zzM Z base PL x mm H → va_at Z.1 vwCl (zzad Z 54, .inl (zzcA Z 1, 100, .inr (.inl (vp_updL (zzl mm 54) j v)))) H1 → (∀ q : Nat, q ≠ zzad Z 54 → H1[q]? = H[q]?) → zzM Z base PL x (zzsl mm 54 j v) H1 := by
  intro H H1 h hnew oq
  refine zzM_wr (mm := mm) (by omega) (by omega) (fun _ _ => rfl) (fun _ _ => rfl) (fun i hi => zzsl_ne hi) (fun _ => rfl) zzM_q36 (fun g => ?_) h hnew oq
  rw [zzsl_at]
  rfl
/-- a person, or nobody, put into a row of persons -/
theorem zzX_upers (hk : zzpk k) {j : Nat} {v : Option (Nat × Int32)} {c0 : Option Nat} (hv : zzpr PL v c0) : ∀ H, zzX Z base PL mm x H → ∃ f0 : Nat → Option Nat, va_at Z.1 vwCl (zzad Z k, .inl (zzcA Z 2, zzplen k, .inr (.inr (.inr (.inr f0))))) H ∧ ∀ H1, va_at Z.1 vwCl (zzad Z k, .inl (zzcA Z 2, zzplen k, .inr (.inr (.inr (.inr (va_up f0 j c0)))))) H1 → (∀ q : Nat, q ≠ zzad Z k → H1[q]? = H[q]?) → zzX Z base PL mm (zzsr x k j v) H1 := by
  intro H h
  have hlt := zzpk_lt hk
  obtain ⟨hOk, ⟨g, h1, h2⟩, h3⟩ := h
  have h4 := h2 k (by omega)
  rw [zzE_X (by omega), zzEl_pers hk] at h4
  refine ⟨g k, h4, fun H1 hnew oq => ?_⟩
  refine zzH_put (k := k) (by omega) g (zzu g k j c0) hOk h2 h3 (fun k' j' => ?_) (fun i _ hne => ?_) ?_ oq
  · show zzpr PL (zzu x.2.2.2.1 k j v k' j') (zzu g k j c0 k' j')
    unfold zzu
    split
    · exact hv
    · exact h1 k' j'
  · have hg : zzu g k j c0 i = g i := by funext j'; simp [zzu, hne]
    rcases Nat.lt_or_ge i 36 with q | q
    · rw [zzE_X q, zzE_X q, hg]; rfl
    · rw [zzE_M q, zzE_M q, hg]
  · rw [zzE_X (by omega), zzEl_pers hk]
    have hg : zzu g k j c0 k = va_up (g k) j c0 := by funext j'; simp [zzu, va_up]
    rw [hg]
    exact hnew
theorem zzX_qne {Q Q' : Nat → Option Nat} : ∀ i, i < 36 → i ≠ 2 → ∀ (I : Nat → Int32) (A : Nat → Int32) (L : Nat → Int64) (g : Nat → Option Nat), zzEl Z i I A L g Q = zzEl Z i I A L g Q' := by
  intro i h1 h3 I A L g
  rcases zz53 (show i < 53 by omega) with rfl | rfl | rfl | rfl | rfl | rfl | rfl | rfl | rfl | rfl | rfl | rfl | rfl | rfl | rfl | rfl | rfl | rfl | rfl | rfl | rfl | rfl | rfl | rfl | rfl | rfl | rfl | rfl | rfl | rfl | rfl | rfl | rfl | rfl | rfl | rfl | rfl | rfl | rfl | rfl | rfl | rfl | rfl | rfl | rfl | rfl | rfl | rfl | rfl | rfl | rfl | rfl | rfl <;> first | rfl | exact absurd h1 (by decide) | exact absurd rfl h3
theorem zzX_urows {j : Nat} {v : Option Nat} : ∀ H, zzX Z base PL mm x H → ∃ f0 : Nat → Option Nat, va_at Z.1 vwCl (zzad Z 2, .inl (zzcA Z 3, 8, .inr (.inr (.inr (.inr f0))))) H ∧ ∀ H1, va_at Z.1 vwCl (zzad Z 2, .inl (zzcA Z 3, 8, .inr (.inr (.inr (.inr (va_up f0 j (v.map (zzad Z)))))))) H1 → (∀ q : Nat, q ≠ zzad Z 2 → H1[q]? = H[q]?) → zzX Z base PL mm (zzsq x j v) H1 := by
  intro H h
  refine ⟨_, zzX_rows H h, fun H1 hnew oq => ?_⟩
  obtain ⟨hOk, ⟨g, h1, h2⟩, h3⟩ := h
  refine zzH_put (k := 2) (by omega) g g hOk h2 h3 h1 (fun i _ hne => ?_) ?_ oq
  · rcases Nat.lt_or_ge i 36 with q | q
    · rw [zzE_X q, zzE_X q]
      exact zzX_qne i q hne _ _ _ _
    · rw [zzE_M q, zzE_M q]
  · have he : va_up (fun j => (zzq x j).map (zzad Z)) j (v.map (zzad Z)) = fun j' => (zzq (zzsq x j v) j').map (zzad Z) := by
      funext j'
      simp only [va_up, zzq, zzsq]
      split <;> rfl
    rw [he] at hnew
    exact hnew
-- receivers
theorem zz_recv {s : State} {a ci : Nat} {fs : List Value} {q : vw_C} (hK : zzKK Z s) (h : va_at Z.1 vwCl (a, .inr (ci, fs)) H) (hc : vwCl[ci]? = some q) : ∃ cell : Cell, H[a]? = some cell ∧ cell.vm.isStatics = false ∧ s.vm.findClass q.1 = some cell.cls := va_recv (ws := [(a, .inr (ci, fs))]) hK.1 (zzP1 h) hc (q0 := 0) rfl
/-- the worlds with any persons: what the law sees -/
def zzXe (Z : zzG) (base : Nat) (mm : zzS) : zzS → Heap → Prop := fun x H => ∃ PL, zzH Z base PL x mm H
def zzMe (Z : zzG) (base : Nat) (x : zzS) : zzS → Heap → Prop := fun mm H => ∃ PL, zzH Z base PL x mm H
abbrev zzA (base : Nat) : Nat → Prop := fun q => base ≤ q
theorem zzA_X (hk : k < 56) : ∀ H, zzX Z base PL mm x H → zzA base (zzad Z k) := fun H h => h.1.2.1 k hk
theorem zzA_M (hk : k < 56) : ∀ H, zzM Z base PL x mm H → zzA base (zzad Z k) := fun H h => h.1.2.1 k hk
theorem zzXarr2 (ht : zztown t) : zzXarr (t + 2) := by rcases ht with rfl | rfl | rfl <;> decide
theorem zzXarr3 (ht : zztown t) : zzXarr (t + 3) := by rcases ht with rfl | rfl | rfl <;> decide
theorem zzXarr1 (ht : zzrow t) : zzXarr (t + 1) := by rcases ht with rfl | rfl | rfl | rfl | rfl | rfl | rfl | rfl <;> decide
theorem zzpk1 (ht : zztown t) : zzpk (t + 1) := by rcases ht with rfl | rfl | rfl <;> decide
theorem zzXarr_lt (h : zzXarr k) : k < 56 := by have := h.1; omega
theorem zzMarr_lt (h : zzMarr k) : k < 56 := by have := zzlen_lt h.2; omega
theorem zztown_lt' (h : zztown t) : t < 56 := by have := zztown_lt h; omega
theorem zzrow_lt' (h : zzrow t) : t < 56 := by have := zzrow_lt h; omega
theorem zzpk_lt' (h : zzpk t) : t < 56 := by have := zzpk_lt h; omega
theorem zz_alenP {α : Type} {p : Program} {l : Launch} {e : Env} {R : Room} {s : State} {m : MethodId} {args : Array Value} {below : List Frame} {meth : Method} {c : Code} {nL : Nat} {A : Nat → Prop} {Wf : zzS → Heap → Prop} {rel : α → Option Value → Prop} {mc ms : Nat} {f : Option (α × zzS)} {σ : zzS} {cells slots pc : Nat} {loc : List (Nat × Value)} {st : List Value} {cc : ByteArray} {ws : List Cond} {own : String} {ret : Option FieldType}
    (C : zzCx p m meth c s args cc nL ws own ret Z) (hk : zzpk k) (hd : decode cc pc = .ok (.arraylength, 1))
    (kk : zzGO p l e R s m args below meth c nL A (zzX Z base PL mm) Wf rel mc ms f σ cells slots (pc + 1) loc (.int (Int32.ofNat (zzplen k)) :: st)) : zzGO p l e R s m args below meth c nL A (zzX Z base PL mm) Wf rel mc ms f σ cells slots pc loc (.ref (zzad Z k) :: st) := by
  intro r σ' hf H locs ls hW hS hl
  obtain ⟨f0, hP, -⟩ := zzX_pers hk 0 H hW
  exact va_alen C.1.1 C.1.2.1 C.2.2.2.1 (zzP1 hP) 0 2 rfl rfl rfl hd (kk r σ' hf H locs ls hW hS hl)
theorem zzX_sp (ht : zztown t) : ∀ H, zzX Z base PL mm x H → PL (zzsp Z t) = some (0, 0) := fun H h => h.1.2.2.2 t ht
/-- of which class a person is -/
def zzCls (kf : Nat × Int32) (Cn : String) (T : u_T) : Prop := vwCl[zzpci kf.1]? = some (Cn, T, 1) ∧ T 0 = ("DealtByOpposite$Person", "figure", "I", true)
theorem zz_kind8 {k : Nat} (h : k < 8) : k = 0 ∨ k = 1 ∨ k = 2 ∨ k = 3 ∨ k = 4 ∨ k = 5 ∨ k = 6 ∨ k = 7 := by omega
theorem zzX_any {s : State} {v : Option (Nat × Int32)} {c0 : Option Nat} (hK : zzKK Z s) (hc : zzpr PL v c0) : ∀ H q, zzX Z base PL mm x H → c0 = some q → va_Any "DealtByOpposite$Person" s H q := by
  intro H q h hq0
  cases v with
  | none =>
    have hc : c0 = none := hc
    rw [hc] at hq0
    cases hq0
  | some kf =>
    obtain ⟨q', h1, hq⟩ := hc
    rw [h1] at hq0
    cases hq0
    have hat := h.2.2 q kf hq
    have h8 := (h.1.2.2.1 q kf hq).1
    obtain ⟨k, fg⟩ := kf
    have key : ∀ (ci : Nat) (r : vw_C), vwCl[ci]? = some r → Cond.castable r.1 RX6 ∈ zzNest → va_at Z.1 vwCl (q, .inr (ci, [.int fg])) H → va_Any "DealtByOpposite$Person" s H q := by
      intro ci r hr hw ha
      refine va_rAny (ws := [(q, .inr (ci, [.int fg]))]) hK.1 (zzP1 ha) (q0 := 0) rfl hr (fun comp c1 e1 e2 => ?_)
      obtain ⟨c3, c4, hc3, hc4, hasg⟩ := Cond.castable_spec (args := #[]) (hK.2 _ hw)
      cases hc3.symm.trans e2
      cases hc4.symm.trans e1
      exact hasg
    rcases zz_kind8 h8 with rfl | rfl | rfl | rfl | rfl | rfl | rfl | rfl
    · refine va_rAny (ws := [(q, .inr (6, [.int fg]))]) hK.1 (zzP1 hat) (q0 := 0) rfl (r := (RX6, TX6, 1)) rfl (fun comp c1 e1 e2 => ?_)
      have e3 : s.vm.findClass "DealtByOpposite$Person" = some c1 := e2
      cases e3.symm.trans e1
      have h9 := va_assign (hK.1.1 6 _ rfl).2
      have h10 := (hK.1.1 6 _ rfl).2.1
      cases h10.symm.trans e2
      exact h9
    · exact key 9 _ rfl (List.mem_of_getElem? (i := 19) rfl) hat
    · exact key 0 _ rfl (List.mem_of_getElem? (i := 12) rfl) hat
    · exact key 1 _ rfl (List.mem_of_getElem? (i := 13) rfl) hat
    · exact key 4 _ rfl (List.mem_of_getElem? (i := 15) rfl) hat
    · exact key 5 _ rfl (List.mem_of_getElem? (i := 16) rfl) hat
    · exact key 3 _ rfl (List.mem_of_getElem? (i := 14) rfl) hat
    · exact key 8 _ rfl (List.mem_of_getElem? (i := 18) rfl) hat
theorem zzX_anyR {s : State} {v : Option Nat} (hK : zzKK Z s) (hv : zzrowo v = true) : ∀ H q, zzX Z base PL mm x H → v.map (zzad Z) = some q → va_Any "DealtByOpposite$Row" s H q := by
  intro H q h hq
  cases v with
  | none => cases hq
  | some j =>
    cases hq
    have hj : zzrow j := of_decide_eq_true hv
    refine va_rAny (ws := [(zzad Z j, .inr (7, [.ref (zzad Z (j + 1)), .int (zzi x j 1), .int (zzi x j 2)]))]) hK.1 (zzP1 (zzX_row hj H h)) (q0 := 0) rfl (r := (RX7, TX7, 3)) rfl (fun comp c1 e1 e2 => ?_)
    have e3 : s.vm.findClass "DealtByOpposite$Row" = some c1 := e2
    cases e3.symm.trans e1
    exact va_assign (hK.1.1 7 _ rfl).2 |> fun h9 => by
      have h10 := (hK.1.1 7 _ rfl).2.1
      cases h10.symm.trans e2
      exact h9
end ZZ3
