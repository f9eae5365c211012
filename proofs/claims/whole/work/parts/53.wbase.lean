/-! ===== worlds as lists of cells: what makes objects ===== -/
def zwX (b : Bool) (U : State) : Prop := b = true → va_AO "DealtByOpposite$Person" U ∧ va_AO "DealtByOpposite$Row" U
theorem zwX.moved {b : Bool} {u U : State} (hvm : u.vm.Alike U.vm) (h : zwX b u) : zwX b U := fun hb => ⟨(h hb).1.moved hvm, (h hb).2.moved hvm⟩
theorem zwX_f {U : State} : zwX false U := fun h => by cases h
def zwPc (Z : zzG) (b : Bool) (av : List Value) (w0 : va_W) (sz : Nat) : Array Value → State → Prop := va_Pc av (fun U => U.heap.size = sz ∧ zzKK Z U ∧ zwX b U ∧ va_P Z.1 vwCl w0 U.heap ∧ va_D (fun _ => True) w0)
def zwQc (Z : zzG) (w0 : va_W) (sz : Nat) (Post : va_W → Prop) : Array Value → State → Outcome → State → Prop := va_Qv Post (fun w1 t => va_P Z.1 vwCl w1 t.heap ∧ va_D (va_A w0 sz) w1) (va_A w0 sz)
/-- a constructor's contract: from these cells to those -/
def zwCT (l : Launch) (y : MethodName) (ws : List Cond) (rm : Room) (Z : zzG) (b : Bool) (av : List Value) (w0 : va_W) (Post : va_W → Prop) : Prop := ∀ sz, Met l y ws rm (zwPc Z b av w0 sz) (zwQc Z w0 sz Post) rm.cells rm.slots (va_A w0 sz)
def zwG (p : Program) (l : Launch) (e : Env) (R : Room) (s : State) (m : MethodId) (args : Array Value) (below : List Frame) (meth : Method) (c : Code) (nL : Nat) (A : Nat → Prop) (Z : zzG) (Q : State → Prop) (ws : va_W) (cells slots pc : Nat) (loc : List (Nat × Value)) (st : List Value) : Prop :=
  ∀ (H : Heap) (locs : List Loc) (ls : Array Slot), va_P Z.1 vwCl ws H → va_D A ws → va_S A s.heap H locs → lv_has ls nL loc → W p l e R s m args below meth c H locs cells slots Q (F0 m pc ls st)
theorem zwCT_of {l : Launch} {y : MethodName} {ws ws' : List Cond} {rm : Room} {Z : zzG} {b : Bool} {av : List Value} {w0 : va_W} {Post : va_W → Prop} {cc : ByteArray} {nL : Nat} {ret : Option FieldType}
    (hy : plainName y.cls = true) (hw : ws = Cond.code y cc nL ret :: ws') (hn : (lg_sl av).length ≤ nL) (loc : List (Nat × Value)) (hloc : lv_args 0 av = loc)
    (body : ∀ (p : Program) (e : Env) (s : State) (m : MethodId) (args : Array Value) (below : List Frame) (meth : Method) (c : Code), zzCx p m meth c s args cc nL ws y.cls ret Z → meth.name = y.name → zwX b s → zwG p l e rm s m args below meth c nL (va_A w0 s.heap.size) Z (MQ below (zwQc Z w0 s.heap.size Post) args s rm.cells rm.slots (va_A w0 s.heap.size)) w0 0 0 0 loc []) : zwCT l y ws rm Z b av w0 Post := by
  intro sz
  refine Met.ofW (cc := cc) (maxL := nL) (ret := ret) hy hw ?_
  intro p e s m args below meth c s₁ B hml hP
  obtain ⟨rfl, hsz, hK, hX, hPw, hD⟩ := hP
  subst hsz
  have hl := lv_entry av (n := nL) hn
  rw [lg_entry_eq]
  rw [hloc] at hl
  exact body p e s m _ below meth c ⟨⟨B.exec, B.bytes, hml, findClass_of_methodNamed B.named, atoms_spec (ws := ws) B.pre⟩, B.returns, B.notSynchronized, hK⟩ (name_of_methodNamed B.named B.method).1 hX s.heap [] _ hPw hD.self va_S.rf hl
theorem zwPc_blind {Z : zzG} {b : Bool} {av : List Value} {w0 : va_W} {sz : Nat} : FrameBlind (zwPc Z b av w0 sz) := fun a U g0 mk h => ⟨h.1, h.2.1, zzKK.same (s := U) (U := U.calling g0 mk a) rfl h.2.2.1, zwX.moved (u := U) (U := U.calling g0 mk a) (Vm.Alike.refl U.vm) h.2.2.2.1, h.2.2.2.2.1, h.2.2.2.2.2⟩
theorem va_RA_inj {U : State} {a b : ClassId} {ty : FieldType} (h : va_RA U a ty) (g : va_RA U b ty) : a = b := by
  cases ty with
  | object C =>
    obtain ⟨_, _, _, _, _, h4⟩ := h
    obtain ⟨_, _, _, _, _, g4⟩ := g
    exact Option.some.inj (h4.symm.trans g4)
  | _ =>
    have h4 : U.vm.findClass _ = some a := h
    have g4 : U.vm.findClass _ = some b := g
    exact Option.some.inj (h4.symm.trans g4)
section ZW
variable {p : Program} {l : Launch} {e : Env} {R : Room} {s : State} {m : MethodId} {args : Array Value} {below : List Frame} {meth : Method} {c : Code} {nL : Nat} {A : Nat → Prop} {Z : zzG} {Q : State → Prop} {ws ws' : va_W} {cells slots pc : Nat} {loc loc' : List (Nat × Value)} {st rest : List Value}
variable {cc : ByteArray} {wds : List Cond} {own : String} {ret : Option FieldType}
theorem zw_aload_n (C : zzCx p m meth c s args cc nL wds own ret Z) {k : Fin 4} {i : Nat} {x : Nat} (hd : decode cc pc = .ok (.aload_n k, 1)) (hi : (k : Nat) = i) (j : Nat) (hj : loc[j]? = some (i, .ref x))
    (kk : zwG p l e R s m args below meth c nL A Z Q ws cells slots (pc + 1) loc (.ref x :: st)) : zwG p l e R s m args below meth c nL A Z Q ws cells slots pc loc st := by
  intro H locs ls hP hD hS hl
  exact lv_aload_n C.1.1 C.1.2.1 hd hi (lv_at hl j hj) (kk H locs ls hP hD hS hl)
theorem zw_iload_n (C : zzCx p m meth c s args cc nL wds own ret Z) {k : Fin 4} {i : Nat} {x : Int32} (hd : decode cc pc = .ok (.iload_n k, 1)) (hi : (k : Nat) = i) (j : Nat) (hj : loc[j]? = some (i, .int x))
    (kk : zwG p l e R s m args below meth c nL A Z Q ws cells slots (pc + 1) loc (.int x :: st)) : zwG p l e R s m args below meth c nL A Z Q ws cells slots pc loc st := by
  intro H locs ls hP hD hS hl
  exact lv_iload_n C.1.1 C.1.2.1 hd hi (lv_at hl j hj) (kk H locs ls hP hD hS hl)
theorem zw_iconst (C : zzCx p m meth c s args cc nL wds own ret Z) {n : Int} {v : Int32} (hd : decode cc pc = .ok (.iconst n, 1)) (hv : Int32.ofInt n = v)
    (kk : zwG p l e R s m args below meth c nL A Z Q ws cells slots (pc + 1) loc (.int v :: st)) : zwG p l e R s m args below meth c nL A Z Q ws cells slots pc loc st := by
  intro H locs ls hP hD hS hl
  exact lv_iconst C.1.1 C.1.2.1 hd hv (kk H locs ls hP hD hS hl)
theorem zw_bipush (C : zzCx p m meth c s args cc nL wds own ret Z) {n : Int} {v : Int32} (hd : decode cc pc = .ok (.bipush n, 2)) (hv : (Int8.ofInt n).toInt32 = v)
    (kk : zwG p l e R s m args below meth c nL A Z Q ws cells slots (pc + 2) loc (.int v :: st)) : zwG p l e R s m args below meth c nL A Z Q ws cells slots pc loc st := by
  intro H locs ls hP hD hS hl
  exact lv_bipush C.1.1 C.1.2.1 hd hv (kk H locs ls hP hD hS hl)
theorem zw_sipush (C : zzCx p m meth c s args cc nL wds own ret Z) {n : Int} {v : Int32} (hd : decode cc pc = .ok (.sipush n, 3)) (hv : (Int16.ofInt n).toInt32 = v)
    (kk : zwG p l e R s m args below meth c nL A Z Q ws cells slots (pc + 3) loc (.int v :: st)) : zwG p l e R s m args below meth c nL A Z Q ws cells slots pc loc st := by
  intro H locs ls hP hD hS hl
  exact lv_sipush C.1.1 C.1.2.1 hd hv (kk H locs ls hP hD hS hl)
theorem zw_dup (C : zzCx p m meth c s args cc nL wds own ret Z) {v : Value} (hd : decode cc pc = .ok (.dup, 1)) (hv : v.category = 1)
    (kk : zwG p l e R s m args below meth c nL A Z Q ws cells slots (pc + 1) loc (v :: v :: st)) : zwG p l e R s m args below meth c nL A Z Q ws cells slots pc loc (v :: st) := by
  intro H locs ls hP hD hS hl
  exact lv_dup C.1.1 C.1.2.1 hd hv (kk H locs ls hP hD hS hl)
theorem zw_istore_n (C : zzCx p m meth c s args cc nL wds own ret Z) {k : Fin 4} {i : Nat} {x : Int32} (hd : decode cc pc = .ok (.istore_n k, 1)) (hi : (k : Nat) = i) (hn : i < nL) (hl' : zzst1 i (.int x) loc = loc')
    (kk : zwG p l e R s m args below meth c nL A Z Q ws cells slots (pc + 1) loc' st) : zwG p l e R s m args below meth c nL A Z Q ws cells slots pc loc (.int x :: st) := by
  intro H locs ls hP hD hS hl
  exact lv_istore_n C.1.1 C.1.2.1 hd hi hl hn hl' (fun ls hl => kk H locs ls hP hD hS hl)
theorem zw_iinc (C : zzCx p m meth c s args cc nL wds own ret Z) {i k : Nat} {n : Int} {x v : Int32} (hd : decode cc pc = .ok (.iinc i n, 3)) (hk : loc[k]? = some (i, .int x)) (hv : x + Int32.ofInt n = v) (hn : i < nL) (hl' : zzst1 i (.int v) loc = loc')
    (kk : zwG p l e R s m args below meth c nL A Z Q ws cells slots (pc + 3) loc' st) : zwG p l e R s m args below meth c nL A Z Q ws cells slots pc loc st := by
  intro H locs ls hP hD hS hl
  exact lv_iinc C.1.1 C.1.2.1 hd hl hk hv hn hl' (fun ls hl => kk H locs ls hP hD hS hl)
theorem zw_goto (C : zzCx p m meth c s args cc nL wds own ret Z) {off : Int} {tgt : Nat} (hd : decode cc pc = .ok (.goto off, 3)) (ht : (pc : Int) + off = (tgt : Int))
    (kk : zwG p l e R s m args below meth c nL A Z Q ws cells slots tgt loc st) : zwG p l e R s m args below meth c nL A Z Q ws cells slots pc loc st := by
  intro H locs ls hP hD hS hl
  exact lv_goto C.1.1 C.1.2.1 hd ht (kk H locs ls hP hD hS hl)
theorem zw_icmp_ge (C : zzCx p m meth c s args cc nL wds own ret Z) {x y : Int32} {off : Int} {tgt : Nat} (hd : decode cc pc = .ok (.if_icmp .ge off, 3)) (ht : (pc : Int) + off = (tgt : Int))
    (k1 : ¬ x < y → zwG p l e R s m args below meth c nL A Z Q ws cells slots tgt loc st) (k2 : x < y → zwG p l e R s m args below meth c nL A Z Q ws cells slots (pc + 3) loc st) : zwG p l e R s m args below meth c nL A Z Q ws cells slots pc loc (.int y :: .int x :: st) := by
  intro H locs ls hP hD hS hl
  by_cases h : x < y
  · refine lv_icmp_ge C.1.1 C.1.2.1 hd ht (fun q => absurd q (by first | exact Int32.not_le.mpr h | exact fun z => Int32.lt_irrefl _ (Int32.lt_of_lt_of_le h z))) (fun _ => k2 h H locs ls hP hD hS hl)
  · refine lv_icmp_ge C.1.1 C.1.2.1 hd ht (fun _ => k1 h H locs ls hP hD hS hl) (fun q => absurd (Int32.not_le.mp q) h)
theorem zw_newa (C : zzCx p m meth c s args cc nL wds own ret Z) (hA : ∀ q, s.heap.size ≤ q → A q) {atype : ArrayType} {ty : FieldType} (k : Nat) (hty : newarray.typeOf atype = ty) (hk : (zzT Z)[k]? = some (zzcA Z k, ty)) (harr : Cond.arrayClass (newarray.typeOf atype) ∈ wds) {n : Int32} {N' : Nat} {a0 : vp_A} (ha : ∀ cA : ClassId, vp_cell cA a0 = arrV cA N' (fun _ => defaultValue ty)) (hn : ¬ n < 0) (hN : n.toNatClampNeg = N') (hbytes : N' * componentBytes ty ≤ 536870912) (hcells : cells + 1 ≤ R.cells) (hslots : slots + N' ≤ R.slots) (hd : decode cc pc = .ok (.newarray atype, 2))
    (kk : ∀ q : Nat, zwG p l e R s m args below meth c nL A Z Q (ws ++ [(q, .inl (zzcA Z k, a0))]) (cells + 1) (slots + N') (pc + 2) loc (.ref q :: st)) : zwG p l e R s m args below meth c nL A Z Q ws cells slots pc loc (.int n :: st) := by
  intro H locs ls hP hD hS hl
  have hK := C.2.2.2.1
  refine va_newa C.1.1 C.1.2.1 (C.1.2.2.2.2 _ harr) hty hK hP hD hS hA ha hn hN hbytes hcells hslots hd (fun q cA H1 hK1 hP1 hD1 hS1 => ?_)
  have h1 : va_RA s cA ty := (hK1.2 4 (cA, ty) rfl).2
  have h2 : va_RA s (zzcA Z k) ty := (hK.2 k _ hk).2
  have e1 := va_RA_inj h1 h2
  subst e1
  exact kk q H1 locs ls hP1 hD1 hS1 hl
theorem zw_newq (C : zzCx p m meth c s args cc nL wds own ret Z) (hA : ∀ q, s.heap.size ≤ q → A q) {Cn : String} (k : Nat) (hk : (zzT Z)[k]? = some (zzcA Z k, .object Cn)) {index : Nat} (hlink : Cond.classLink own index Cn ∈ wds) (hover : va_AO Cn s) {n : Int32} {N' : Nat} (hn : ¬ n < 0) (hN : n.toNatClampNeg = N') (hbytes : N' * 4 ≤ 536870912) (hcells : cells + 1 ≤ R.cells) (hslots : slots + N' ≤ R.slots) (hd : decode cc pc = .ok (.anewarray index, 3))
    (kk : ∀ q : Nat, zwG p l e R s m args below meth c nL A Z Q (ws ++ [(q, .inl (zzcA Z k, N', .inr (.inr (.inr (.inr (fun _ => none))))))]) (cells + 1) (slots + N') (pc + 3) loc (.ref q :: st)) : zwG p l e R s m args below meth c nL A Z Q ws cells slots pc loc (.int n :: st) := by
  intro H locs ls hP hD hS hl
  have hK := C.2.2.2.1
  refine va_newq C.1.1 C.1.2.1 C.1.2.2.2.1 (C.1.2.2.2.2 _ hlink) hover hK hP hD hS hA hn hN hbytes hcells hslots hd (fun q cA H1 hK1 hP1 hD1 hS1 => ?_)
  have h1 : va_RA s cA (.object Cn) := (hK1.2 4 (cA, .object Cn) rfl).2
  have h2 : va_RA s (zzcA Z k) (.object Cn) := (hK.2 k _ hk).2
  have e1 := va_RA_inj h1 h2
  subst e1
  exact kk q H1 locs ls hP1 hD1 hS1 hl
theorem zw_new (C : zzCx p m meth c s args cc nL wds own ret Z) (hA : ∀ q, s.heap.size ≤ q → A q) {Cn : String} {T : u_T} {N ci index : Nat} (hin : ∀ w ∈ u_ws Cn T N, w ∈ wds) (ty : Nat → FieldType) (hty : ∀ k, k < N → parseFieldDescriptor (T k).2.2.1 = some (ty k)) (hcl : Cond.classLink own index Cn ∈ wds) (hinst : Cond.instantiable Cn N ∈ wds) (hini : Cond.initialized Cn ∈ wds) (hc : vwCl[ci]? = some (Cn, T, N)) {fs : List Value} (hfs : ∀ j, j < N → defaultValue (ty j) = vp_V fs j) (hcells : cells + 1 ≤ R.cells) (hslots : slots + N ≤ R.slots) (hd : decode cc pc = .ok (.new index, 3))
    (kk : ∀ q : Nat, zwG p l e R s m args below meth c nL A Z Q (ws ++ [(q, .inr (ci, fs))]) (cells + 1) (slots + N) (pc + 3) loc (.ref q :: st)) : zwG p l e R s m args below meth c nL A Z Q ws cells slots pc loc st := by
  intro H locs ls hP hD hS hl
  exact va_new C.1.1 C.1.2.1 C.1.2.2.2.2 hin ty hty C.1.2.2.2.1 (C.1.2.2.2.2 _ hcl) (C.1.2.2.2.2 _ hinst) (C.1.2.2.2.2 _ hini) C.2.2.2.1 hP hD hS hA hc hfs hcells hslots hd (fun q H1 hP1 hD1 hS1 => kk q H1 locs ls hP1 hD1 hS1 hl)
theorem zw_put (C : zzCx p m meth c s args cc nL wds own ret Z) {Cn : String} {T : u_T} {N ci index a : Nat} (hin : ∀ w ∈ u_ws Cn T N, w ∈ wds) (ty0 : Nat → FieldType) (hty : ∀ k, k < N → parseFieldDescriptor (T k).2.2.1 = some (ty0 k)) (hnm : ∀ a, a < N → ∀ b, b < N → a ≠ b → (T a).2.1 ≠ (T b).2.1) (q0 : Nat) {fs : List Value} {v : Value} (he : ws[q0]? = some (a, .inr (ci, fs))) (hc : vwCl[ci]? = some (Cn, T, N)) (k : Nat) (hk : k < N) (hlink : Cond.fieldLink own index (T k).1 (T k).2.1 (T k).2.2.1 ∈ wds) (hfin : (T k).2.2.2 = false) {ty : FieldType} (hdd : parseFieldDescriptor (T k).2.2.1 = some ty) (hn : narrow ty v = v) (hfit : fits ty v = true) (hl0 : k < fs.length) (hset : ws.set q0 (a, .inr (ci, fs.set k v)) = ws') (hd : decode cc pc = .ok (.putfield index, 3))
    (kk : zwG p l e R s m args below meth c nL A Z Q ws' cells slots (pc + 3) loc st) : zwG p l e R s m args below meth c nL A Z Q ws cells slots pc loc (v :: .ref a :: st) := by
  intro H locs ls hP hD hS hl
  subst hset
  exact va_put C.1.1 C.1.2.1 C.1.2.2.2.2 hin ty0 hty hnm C.1.2.2.2.1 C.2.2.2.1 hP hD hS q0 he hc k hk (C.1.2.2.2.2 _ hlink) (fun _ h => h) hfin hdd hn hfit hl0 hd (fun H1 locs1 hP1 hD1 hS1 => kk H1 locs1 ls hP1 hD1 hS1 hl)
theorem zw_putF (C : zzCx p m meth c s args cc nL wds own ret Z) (hin2 : meth.name = "<init>") {Cn : String} {T : u_T} {N ci index a : Nat} (hin : ∀ w ∈ u_ws Cn T N, w ∈ wds) (ty0 : Nat → FieldType) (hty : ∀ k, k < N → parseFieldDescriptor (T k).2.2.1 = some (ty0 k)) (hnm : ∀ a, a < N → ∀ b, b < N → a ≠ b → (T a).2.1 ≠ (T b).2.1) (q0 : Nat) {fs : List Value} {v : Value} (he : ws[q0]? = some (a, .inr (ci, fs))) (hc : vwCl[ci]? = some (Cn, T, N)) (k : Nat) (hk : k < N) (hlink : Cond.fieldLink own index (T k).1 (T k).2.1 (T k).2.2.1 ∈ wds) (hfin : (T k).2.2.2 = true) (hdecl : (T k).1 = own) {ty : FieldType} (hdd : parseFieldDescriptor (T k).2.2.1 = some ty) (hn : narrow ty v = v) (hfit : fits ty v = true) (hl0 : k < fs.length) (hset : ws.set q0 (a, .inr (ci, fs.set k v)) = ws') (hd : decode cc pc = .ok (.putfield index, 3))
    (kk : zwG p l e R s m args below meth c nL A Z Q ws' cells slots (pc + 3) loc st) : zwG p l e R s m args below meth c nL A Z Q ws cells slots pc loc (v :: .ref a :: st) := by
  intro H locs ls hP hD hS hl
  subst hset
  exact va_putF C.1.1 C.1.2.1 C.1.2.2.2.2 hin ty0 hty hnm C.1.2.2.2.1 C.2.2.2.1 hP hD hS q0 he hc k hk (C.1.2.2.2.2 _ hlink) (fun _ h => h) hfin hin2 hdecl hdd hn hfit hl0 hd (fun H1 locs1 hP1 hD1 hS1 => kk H1 locs1 ls hP1 hD1 hS1 hl)
theorem zw_get (C : zzCx p m meth c s args cc nL wds own ret Z) {Cn : String} {T : u_T} {N ci index a : Nat} (hin : ∀ w ∈ u_ws Cn T N, w ∈ wds) (q0 : Nat) {fs : List Value} {v : Value} (he : ws[q0]? = some (a, .inr (ci, fs))) (hc : vwCl[ci]? = some (Cn, T, N)) (k : Nat) (hk : k < N) (hlink : Cond.fieldLink own index (T k).1 (T k).2.1 (T k).2.2.1 ∈ wds) (hv : fs[k]? = some v) (hd : decode cc pc = .ok (.getfield index, 3))
    (kk : zwG p l e R s m args below meth c nL A Z Q ws cells slots (pc + 3) loc (v :: st)) : zwG p l e R s m args below meth c nL A Z Q ws cells slots pc loc (.ref a :: st) := by
  intro H locs ls hP hD hS hl
  exact va_get C.1.1 C.1.2.1 C.1.2.2.2.2 hin C.1.2.2.2.1 C.2.2.2.1 hP q0 he hc k hk (C.1.2.2.2.2 _ hlink) (fun _ h => h) hv hd (kk H locs ls hP hD hS hl)
theorem zw_alen (C : zzCx p m meth c s args cc nL wds own ret Z) (q0 t0 : Nat) {a : Nat} {x : vp_A} {ty : FieldType} (ha : ws[q0]? = some (a, .inl (zzcA Z t0, x))) (ht : (zzT Z)[t0]? = some (zzcA Z t0, ty)) {v : Int32} (hv : Int32.ofNat x.1 = v) (hd : decode cc pc = .ok (.arraylength, 1))
    (kk : zwG p l e R s m args below meth c nL A Z Q ws cells slots (pc + 1) loc (.int v :: st)) : zwG p l e R s m args below meth c nL A Z Q ws cells slots pc loc (.ref a :: st) := by
  intro H locs ls hP hD hS hl
  exact va_alen C.1.1 C.1.2.1 C.2.2.2.1 hP q0 t0 ha ht hv hd (kk H locs ls hP hD hS hl)
theorem zw_astq (C : zzCx p m meth c s args cc nL wds own ret Z) (q0 t0 qk ci : Nat) {r : vw_C} {a n v : Nat} {vs : List Value} {f f' : Nat → Option Nat} (ha : ws[q0]? = some (a, .inl (zzcA Z t0, n, .inr (.inr (.inr (.inr f)))))) (ht : (zzT Z)[t0]? = some (zzcA Z t0, .object r.1)) (hv : ws[qk]? = some (v, .inr (ci, vs))) (hc : vwCl[ci]? = some r) {i : Int32} (hin : vp_in i n) (hf : va_up f i.toNatClampNeg (some v) = f') (hset : ws.set q0 (a, .inl (zzcA Z t0, n, .inr (.inr (.inr (.inr f'))))) = ws') (hd : decode cc pc = .ok (.aastore, 1))
    (kk : zwG p l e R s m args below meth c nL A Z Q ws' cells slots (pc + 1) loc st) : zwG p l e R s m args below meth c nL A Z Q ws cells slots pc loc (.ref v :: .int i :: .ref a :: st) := by
  intro H locs ls hP hD hS hl
  subst hf
  subst hset
  exact va_astq C.1.1 C.1.2.1 C.2.2.2.1 hP hD hS q0 t0 qk ci ha ht hv hc hin hd (fun H1 locs1 hP1 hD1 hS1 => kk H1 locs1 ls hP1 hD1 hS1 hl)
theorem zw_objInit (C : zzCx p m meth c s args cc nL wds own ret Z) {idx : Nat} (hlink : Cond.methodLink own idx Lib.objectInit ∈ wds) (hinst : Cond.instanceMethod Lib.objectInit ∈ wds) (hcode : Cond.code Lib.objectInit ⟨#[0xb1]⟩ 1 none ∈ wds) {a : Nat} (hframes : 1 ≤ R.frames) (hlocals : (st.map fun v => v.category).sum + 12 ≤ R.locals) (hd : decode cc pc = .ok (.invokespecial idx, 3))
    (kk : zwG p l e R s m args below meth c nL A Z Q ws cells slots (pc + 3) loc st) : zwG p l e R s m args below meth c nL A Z Q ws cells slots pc loc (.ref a :: st) := by
  intro H locs ls hP hD hS hl
  exact W.objInit C.1.1 C.1.2.1 C.1.2.2.2.1 (C.1.2.2.2.2 _ hlink) (C.1.2.2.2.2 _ hinst) (C.1.2.2.2.2 _ hcode) rfl (hl.1.trans C.1.2.2.1.symm) rfl hd hframes (by show 2 * 0 + _ + 12 ≤ _; omega) (kk H locs ls hP hD hS hl)
theorem zw_callI (C : zzCx p m meth c s args cc nL wds own ret Z) {bX : Bool} (hX : zwX bX s) (hA : ∀ q, s.heap.size ≤ q → A q) {y : MethodName} {wsy : List Cond} {rmy : Room} {bytes : ByteArray} {maxL n index b : Nat} {As : List Value} {w0 wr : va_W} {Post : va_W → Prop} (hst : st = As.reverse ++ .ref b :: rest) (ct : zwCT l y wsy rmy Z bX (.ref b :: As) w0 Post) (cw : CallB R s args own index y bytes maxL none wsy rmy rmy.cells rmy.slots n ∧ y.name = "<init>" ∧ (Cond.instanceMethod y).before args s = true) (isC isR : List Nat) (hC : isC.map (fun i => ws[i]?) = w0.map some) (hR : isR.map (fun i => ws[i]?) = wr.map some) (hCs : isC.filterMap (fun i => ws[i]?) = w0) (hnC : va_nd isC = true) (hnd : va_nd isR = true) (hdis : ∀ i ∈ isR, i ∉ isC) (hn : As.length = n) (hroom : (rest.map fun v => v.category).sum ≤ 8) (hcs : cells + rmy.cells ≤ R.cells ∧ slots + rmy.slots ≤ R.slots) (hd : decode cc pc = .ok (.invokespecial index, 3))
    (kk : ∀ w1, Post w1 → zwG p l e R s m args below meth c nL A Z Q (wr ++ w1) (cells + rmy.cells) (slots + rmy.slots) (pc + 3) loc rest) : zwG p l e R s m args below meth c nL A Z Q ws cells slots pc loc st := by
  intro H locs ls hP hD hS hl
  subst hst
  have hFc := va_free (wc := w0) hD hS hA isC hC
  have hPc : va_P Z.1 vwCl w0 H := hP.sub isC hCs
  have hDc := hD.sub (ws' := w0) isC hnC hC
  refine va_callv (va_runI (As := As) (rest := rest) C.1 (ct H.size) cw ⟨zwPc_blind, fun U hU hW => ⟨rfl, by rw [hU], C.2.2.2.warm hW, hX.moved hW.alike, by rw [hU]; exact hPc, hDc.weaken (fun _ _ _ _ => trivial)⟩⟩ rfl hn hl.1 rfl (lv_room hroom) hd hcs) hS (fun q _ h => hFc q h) hFc (fun w1 t H1 locs1 ht hvm hw hB hz1 hk1 hS1 => ?_)
  obtain ⟨hP1, hD1⟩ := hB
  rw [ht] at hP1
  obtain ⟨hP2, hD2⟩ := va_join (wr := wr) (w1 := w1) hP hD isC isR hC hR hnd hdis hk1 hFc hP1 hD1
  exact kk w1 hw H1 locs1 ls hP2 hD2 hS1 hl
theorem zw_vret (C : zzCx p m meth c s args cc nL wds own ret Z) (hr : ret = none) {w0 : va_W} {Post : va_W → Prop} {mc ms : Nat} (hw : Post ws) (hc : cells ≤ mc) (hs : slots ≤ ms) (hd : decode cc pc = .ok (.return_, 1)) : zwG p l e R s m args below meth c nL (va_A w0 s.heap.size) Z (MQ below (zwQc Z w0 s.heap.size Post) args s mc ms (va_A w0 s.heap.size)) ws cells slots pc loc [] := by
  intro H locs ls hP hD hS hl
  refine W.widen hc hs ?_
  exact W.vret C.1.1 C.1.2.1 (by rw [C.2.1, hr]) (fun t ht hWm => ⟨⟨ws, rfl, hw, by rw [ht]; exact hP, hD⟩, hS.F ht⟩) hS.2.2 hd C.2.2.1
theorem zwA_new {w0 : va_W} {sz : Nat} : ∀ q, sz ≤ q → va_A w0 sz q := fun _ h => Or.inr h
end ZW
section ZW2
variable {p : Program} {l : Launch} {e : Env} {R : Room} {s : State} {m : MethodId} {args : Array Value} {below : List Frame} {meth : Method} {c : Code} {nL : Nat} {A : Nat → Prop} {Z : zzG} {Q : State → Prop} {ws ws' : va_W} {cells slots pc : Nat} {loc loc' : List (Nat × Value)} {st rest : List Value}
variable {cc : ByteArray} {wds : List Cond} {own : String} {ret : Option FieldType}
theorem zw_eq (h : ws = ws') (kk : zwG p l e R s m args below meth c nL A Z Q ws' cells slots pc loc st) : zwG p l e R s m args below meth c nL A Z Q ws cells slots pc loc st := h ▸ kk
theorem zw_callIN (C : zzCx p m meth c s args cc nL wds own ret Z) {bX : Bool} (hX : zwX bX s) (hA : ∀ q, s.heap.size ≤ q → A q) {y : MethodName} {wsy : List Cond} {rmy : Room} {bytes : ByteArray} {maxL n index b : Nat} {host : String} {As : List Value} {w0 wr : va_W} {Post : va_W → Prop} (hst : st = As.reverse ++ .ref b :: rest) (ct : zwCT l y wsy rmy Z bX (.ref b :: As) w0 Post) (cw : va_CN R s args own index y host bytes maxL none wsy rmy rmy.cells rmy.slots n ∧ y.name = "<init>" ∧ (Cond.instanceMethod y).before args s = true) (isC isR : List Nat) (hC : isC.map (fun i => ws[i]?) = w0.map some) (hR : isR.map (fun i => ws[i]?) = wr.map some) (hCs : isC.filterMap (fun i => ws[i]?) = w0) (hnC : va_nd isC = true) (hnd : va_nd isR = true) (hdis : ∀ i ∈ isR, i ∉ isC) (hn : As.length = n) (hroom : (rest.map fun v => v.category).sum ≤ 8) (hcs : cells + rmy.cells ≤ R.cells ∧ slots + rmy.slots ≤ R.slots) (hd : decode cc pc = .ok (.invokespecial index, 3))
    (kk : ∀ w1, Post w1 → zwG p l e R s m args below meth c nL A Z Q (wr ++ w1) (cells + rmy.cells) (slots + rmy.slots) (pc + 3) loc rest) : zwG p l e R s m args below meth c nL A Z Q ws cells slots pc loc st := by
  intro H locs ls hP hD hS hl
  subst hst
  have hFc := va_free (wc := w0) hD hS hA isC hC
  have hPc : va_P Z.1 vwCl w0 H := hP.sub isC hCs
  have hDc := hD.sub (ws' := w0) isC hnC hC
  refine va_callv (va_runIN (As := As) (rest := rest) C.1 (ct H.size) cw ⟨zwPc_blind, fun U hU hW => ⟨rfl, by rw [hU], C.2.2.2.warm hW, hX.moved hW.alike, by rw [hU]; exact hPc, hDc.weaken (fun _ _ _ _ => trivial)⟩⟩ rfl hn hl.1 rfl (lv_room hroom) hd hcs) hS (fun q _ h => hFc q h) hFc (fun w1 t H1 locs1 ht hvm hw hB hz1 hk1 hS1 => ?_)
  obtain ⟨hP1, hD1⟩ := hB
  rw [ht] at hP1
  obtain ⟨hP2, hD2⟩ := va_join (wr := wr) (w1 := w1) hP hD isC isR hC hR hnd hdis hk1 hFc hP1 hD1
  exact kk w1 hw H1 locs1 ls hP2 hD2 hS1 hl
end ZW2
