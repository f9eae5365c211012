/-! ===== new persons in a world of persons ===== -/
/-- a world, any persons being there -/
def zzXx (Z : zzG) (base : Nat) (mm : zzS) : zzS → Heap → Prop := fun x H => ∃ PL, zzX Z base PL mm x H
theorem zzXx_of {Z : zzG} {base : Nat} {PL : Nat → Option (Nat × Int32)} {mm x : zzS} {H : Heap} (h : zzX Z base PL mm x H) : zzXx Z base mm x H := ⟨PL, h⟩
theorem zzX_lt {Z : zzG} {base : Nat} {PL : Nat → Option (Nat × Int32)} {mm x : zzS} {H : Heap} (h : zzX Z base PL mm x H) {i : Nat} (hi : i < 56) : zzad Z i < H.size := by
  obtain ⟨g, -, h2⟩ := zzH_at h hi
  exact va_at.lt h2
theorem zzX_pl_lt {Z : zzG} {base : Nat} {PL : Nat → Option (Nat × Int32)} {mm x : zzS} {H : Heap} (h : zzX Z base PL mm x H) {q : Nat} {kf : Nat × Int32} (hq : PL q = some kf) : q < H.size := va_at.lt (h.2.2 q kf hq)
/-- one person more -/
theorem zzX_more {Z : zzG} {base : Nat} {PL : Nat → Option (Nat × Int32)} {mm x : zzS} {H H1 : Heap} {k : Nat} {v : Int32} {q : Nat} (h8 : k < 8) (h : zzX Z base PL mm x H) (hq : q = H.size) (ho : ∀ a : Nat, a < H.size → H1[a]? = H[a]?) (hn : va_at Z.1 vwCl (q, .inr (zzpci k, [.int v])) H1) : zzX Z base (fun a => if a = q then some (k, v) else PL a) mm x H1 := by
  subst hq
  obtain ⟨⟨k1, k2, k3, k4⟩, ⟨g, h1, h2⟩, h3⟩ := id h
  have nq : ∀ a kf, PL a = some kf → ¬ a = H.size := fun a kf ha z => by have := zzX_pl_lt h ha; omega
  have up : ∀ a kf, PL a = some kf → (if a = H.size then some (k, v) else PL a) = some kf := fun a kf ha => by rw [if_neg (nq a kf ha)]; exact ha
  refine ⟨⟨k1, k2, fun a kf ha => ?_, fun t ht => up _ _ (k4 t ht)⟩, ⟨g, fun k' j => ?_, fun i hi => (h2 i hi).kept (ho _ (zzX_lt h hi))⟩, fun a kf ha => ?_⟩
  · have ha : (if a = H.size then some (k, v) else PL a) = some kf := ha
    by_cases c : a = H.size
    · rw [if_pos c] at ha
      cases ha
      refine ⟨h8, ?_, fun i hi z => ?_⟩
      · have := k2 0 (by decide); have := zzX_lt h (i := 0) (by decide); omega
      · have := zzX_lt h hi; omega
    · rw [if_neg c] at ha
      exact k3 a kf ha
  · have := h1 k' j
    cases e : zzr x k' j with
    | none => rw [e] at this; exact this
    | some kf =>
      rw [e] at this
      obtain ⟨q', e1, e2⟩ := this
      exact ⟨q', e1, up _ _ e2⟩
  · have ha : (if a = H.size then some (k, v) else PL a) = some kf := ha
    by_cases c : a = H.size
    · rw [if_pos c] at ha
      cases ha
      subst c
      exact hn
    · rw [if_neg c] at ha
      exact (h3 a kf ha).kept (ho _ (zzX_pl_lt h ha))
theorem zzX_base {Z : zzG} {base : Nat} {PL : Nat → Option (Nat × Int32)} {mm x : zzS} {H : Heap} (h : zzX Z base PL mm x H) : base ≤ H.size := by
  have := h.1.2.1 0 (by decide)
  have := zzX_lt h (i := 0) (by decide)
  omega
section NP
variable {α : Type} {p : Program} {l : Launch} {e : Env} {R : Room} {s : State} {m : MethodId} {args : Array Value} {below : List Frame} {meth : Method} {c : Code} {nL : Nat} {Wf : zzS → Heap → Prop} {rel : α → Option Value → Prop} {mc ms : Nat} {f : Option (α × zzS)} {σ : zzS} {cells slots pc : Nat} {loc : List (Nat × Value)} {st : List Value}
variable {cc : ByteArray} {ws : List Cond} {own : String} {ret : Option FieldType} {Z : zzG} {base : Nat} {PL : Nat → Option (Nat × Int32)} {mm : zzS}
/-- new, dup, the figure, <init> -/
theorem zz_newPW (C : zzCx p m meth c s args cc nL ws own ret Z) {k : Nat} (h8 : k < 8) {Cn : String} {T : u_T} (hc : vwCl[zzpci k]? = some (Cn, T, 1)) (hin : ∀ w ∈ u_ws Cn T 1, w ∈ ws) (ty : Nat → FieldType) (hty : ∀ k, k < 1 → parseFieldDescriptor (T k).2.2.1 = some (ty k)) {Q : State → Prop} {H : Heap} {locs : List Loc} {ls : Array Slot} {rest : List Value} {i1 i2 i : Nat} {kI : Fin 4} {v : Int32} (hcl : Cond.classLink own i1 Cn ∈ ws) (hinst : Cond.instantiable Cn 1 ∈ ws) (hini : Cond.initialized Cn ∈ ws) (hfs : ∀ j, j < 1 → defaultValue (ty j) = vp_V [.int 0] j)
    {y : MethodName} {wsy : List Cond} {rmy : Room} {bytes : ByteArray} {maxL : Nat} (hr0 : rmy.cells = 0) (hr1 : rmy.slots = 0) (ct : ∀ h0, zwCT l y wsy rmy Z false [.ref h0, .int v] [(h0, .inr (zzpci k, [.int 0]))] (fun w => w = [(h0, .inr (zzpci k, [.int v]))])) (cw : CallB R s args own i2 y bytes maxL none wsy rmy rmy.cells rmy.slots 1 ∧ y.name = "<init>" ∧ (Cond.instanceMethod y).before args s = true)
    (hroom : (rest.map fun v => v.category).sum ≤ 7) (hcells : cells + 1 ≤ R.cells) (hslots : slots + 1 ≤ R.slots) (hi : (kI : Nat) = i) (j : Nat) (hj : loc[j]? = some (i, .int v)) (d0 : decode cc pc = .ok (.new i1, 3)) (d1 : decode cc (pc + 3) = .ok (.dup, 1)) (d2 : decode cc (pc + 3 + 1) = .ok (.iload_n kI, 1)) (d3 : decode cc (pc + 3 + 1 + 1) = .ok (.invokespecial i2, 3))
   
    (kk : ∀ PL' q, PL' q = some (k, v) → ∀ (H1 : Heap) (locs1 : List Loc) (ls1 : Array Slot), zzX Z base PL' mm σ H1 → va_S (zzA base) s.heap H1 locs1 → lv_has ls1 nL loc → W p l e R s m args below meth c H1 locs1 (cells + 1) (slots + 1) Q (F0 m (pc + 3 + 1 + 1 + 3) ls1 (.ref q :: rest))) (hW : zzX Z base PL mm σ H) (hS : va_S (zzA base) s.heap H locs) (hl : lv_has ls nL loc) : W p l e R s m args below meth c H locs cells slots Q (F0 m pc ls rest) := by
  have hKn := C.2.2.2.1.1 _ _ hc
  refine W.newcK C.1.1 C.1.2.1 C.1.2.2.2.1 (C.1.2.2.2.2 _ hcl) (C.1.2.2.2.2 _ hinst) (C.1.2.2.2.2 _ hini) rfl d0 hcells hslots hKn.2.1 rfl fun H1 kC hkC e1 z1 o1 => ?_
  have hb := zzX_base hW
  have hat : va_at Z.1 vwCl (H.size, .inr (zzpci k, [.int 0])) H1 := ⟨_, hc, (u_born ty C.1.2.2.2.2 hin hKn hkC e1 hty).to hfs⟩
  have hS1 : va_S (zzA base) s.heap H1 locs := ⟨Nat.le_trans hS.1 (by omega), fun x h1 h2 => (o1 x (Nat.lt_of_lt_of_le h1 hS.1)).trans (hS.2.1 x h1 h2), hS.2.2⟩
  refine lv_dup C.1.1 C.1.2.1 d1 rfl ?_
  refine lv_iload_n C.1.1 C.1.2.1 d2 hi (lv_at hl j hj) ?_
  have hD : va_D (fun _ : Nat => True) [(H.size, (.inr (zzpci k, [.int 0]) : va_E))] := by
    refine ⟨fun a b x y hx hy _ => ?_, fun _ _ _ => trivial⟩
    match a, b, hx, hy with
    | 0, 0, _, _ => rfl
    | 0, b + 1, _, hy => simp at hy
    | a + 1, _, hx, _ => simp at hx
  have hAf : ∀ q, va_A [(H.size, (.inr (zzpci k, [.int 0]) : va_E))] H1.size q → zzA base q := by
    intro q hq
    rcases hq with ⟨a, b, h⟩ | h
    · match a, h with
      | 0, h => cases h; exact hb
      | a + 1, h => simp at h
    · show base ≤ q; omega
  have hcs : cells + 1 + rmy.cells ≤ R.cells ∧ slots + 1 + rmy.slots ≤ R.slots := by rw [hr0, hr1]; exact ⟨hcells, hslots⟩
  refine va_callv (va_runI (As := [.int v]) (rest := .ref H.size :: rest) C.1 (ct H.size H1.size) cw ⟨zwPc_blind, fun U hU hWm => ⟨rfl, by rw [hU], C.2.2.2.warm hWm, zwX_f, by rw [hU]; exact zzP1 hat, hD⟩⟩ rfl rfl hl.1 rfl (lv_room (by rw [List.map_cons, List.sum_cons]; exact Nat.add_le_add_left hroom 1)) d3 hcs) hS1 (fun q _ h => hAf q h) hAf (fun w1 t H2 locs1 ht hvm hw hB hz1 hk1 hS2 => ?_)
  subst hw
  obtain ⟨hP1, hD1⟩ := hB
  rw [ht] at hP1
  have hat2 : va_at Z.1 vwCl (H.size, .inr (zzpci k, [.int v])) H2 := hP1 0 _ rfl
  have ho : ∀ a : Nat, a < H.size → H2[a]? = H[a]? := fun a ha => by
    refine (hk1 a (by omega) (fun h => ?_)).trans (o1 a ha)
    rcases h with ⟨i', e', h⟩ | h
    · match i', h with
      | 0, h => cases h; omega
      | i' + 1, h => simp at h
    · omega
  have hW2 := zzX_more h8 hW rfl ho hat2
  rw [hr0, hr1]
  exact kk _ H.size (if_pos rfl) H2 locs1 ls hW2 hS2 hl
/-- what a maker of persons leaves: the answer and the world with the persons that are then -/
def zzQp (Z : zzG) (base : Nat) (mm : zzS) (r : Option (Nat × Int32)) (σ : zzS) : Array Value → State → Outcome → State → Prop := fun _ st o t => (∃ (PL' : Nat → Option (Nat × Int32)) (c0 : Option Nat), o = .returned (some (va_rf c0)) ∧ zzpr PL' r c0 ∧ zzX Z base PL' mm σ t.heap) ∧ va_F (zzA base) st t
end NP
theorem zzMet_of {S : Type} {l : Launch} {y : MethodName} {ws ws' : List Cond} {rm : Room} {A : Nat → Prop} {Z : zzG} {Wd : S → Heap → Prop} {Qc : Array Value → State → Outcome → State → Prop} {av : List Value} {σ : S} {cc : ByteArray} {nL : Nat} {ret : Option FieldType}
    (hy : plainName y.cls = true) (hw : ws = Cond.code y cc nL ret :: ws') (hn : (lg_sl av).length ≤ nL) (loc : List (Nat × Value)) (hloc : lv_args 0 av = loc)
    (body : ∀ (p : Program) (e : Env) (s : State) (m : MethodId) (args : Array Value) (below : List Frame) (meth : Method) (c : Code), zzCx p m meth c s args cc nL ws y.cls ret Z → ∀ (H : Heap) (locs : List Loc) (ls : Array Slot), Wd σ H → va_S A s.heap H locs → lv_has ls nL loc → W p l e rm s m args below meth c H locs 0 0 (MQ below Qc args s rm.cells rm.slots A) (F0 m 0 ls [])) : Met l y ws rm (zzPc Z Wd av σ) Qc rm.cells rm.slots A := by
  refine Met.ofW (cc := cc) (maxL := nL) (ret := ret) hy hw ?_
  intro p e s m args below meth c s₁ B hml hP
  obtain ⟨rfl, hK, hWd⟩ := hP
  have hl := lv_entry av (n := nL) hn
  rw [lg_entry_eq]
  rw [hloc] at hl
  exact body p e s m _ below meth c ⟨⟨B.exec, B.bytes, hml, findClass_of_methodNamed B.named, atoms_spec (ws := ws) B.pre⟩, B.returns, B.notSynchronized, hK⟩ s.heap [] _ hWd va_S.rf hl
section NP2
variable {α : Type} {p : Program} {l : Launch} {e : Env} {R : Room} {s : State} {m : MethodId} {args : Array Value} {below : List Frame} {meth : Method} {c : Code} {nL : Nat} {Wf : zzS → Heap → Prop} {rel : α → Option Value → Prop} {mc ms : Nat} {f : Option (α × zzS)} {σ : zzS} {cells slots pc : Nat} {loc : List (Nat × Value)} {st : List Value}
variable {cc : ByteArray} {ws : List Cond} {own : String} {ret : Option FieldType} {Z : zzG} {base : Nat} {PL : Nat → Option (Nat × Int32)} {mm : zzS}
theorem zz_callP {r0 : Option (Nat × Int32)} {kf : Option (Nat × Int32) → zzS → Option (α × zzS)} {mcc msc : Nat} {av : Array Value} {rest : List Value}
    (hrun : ∀ (H : Heap) (locs : List Loc) (ls : Array Slot), zzX Z base PL mm σ H → lv_has ls nL loc → va_Run p l e R s m args below meth c H locs cells slots mcc msc (F0 m pc ls st) rest (zzQp Z base mm r0 σ av) (zzA base))
    (kk : ∀ r1 σ2 PL' c0, zzpr PL' r1 c0 → zzGO p l e R s m args below meth c nL (zzA base) (zzX Z base PL' mm) Wf rel mc ms (kf r1 σ2) σ2 (cells + mcc) (slots + msc) (pc + 3) loc (va_rf c0 :: rest)) : zzGO p l e R s m args below meth c nL (zzA base) (zzX Z base PL mm) Wf rel mc ms (zzbd (some (r0, σ)) kf) σ cells slots pc loc st := by
  intro r σ' hf H locs ls hW hS hl
  have hr := hrun H locs ls hW hl
  intro T hT X
  obtain ⟨v, st₀, t, T', L, h0, X', hL, g1, g2, ⟨⟨PL', c0, hv, hrel, hWd⟩, hz, hk⟩, stp⟩ := hr T hT X
  cases hv
  rw [h0] at hz hk
  obtain ⟨t2, a1, b1⟩ := kk r0 σ PL' c0 hrel r σ' hf T'.heap (locs ++ L) ls (by rw [g1]; exact hWd)
    ⟨Nat.le_trans hS.1 (by rw [g1]; exact hz), fun q h1 h2 => by rw [g1, hk q (Nat.lt_of_lt_of_le h1 hS.1) h2]; exact hS.2.1 q h1 h2, fun q hq => by
      rcases List.mem_append.mp hq with h | h
      · exact hS.2.2 q h
      · exact hL q h⟩ hl T' rfl X'
  exact ⟨t2, stp t2 a1, b1⟩
theorem zz_callSP (C : zzCx p m meth c s args cc nL ws own ret Z) {r0 : Option (Nat × Int32)} {kf : Option (Nat × Int32) → zzS → Option (α × zzS)} {y : MethodName} {wsy : List Cond} {rmy : Room} {bytes : ByteArray} {maxL n index : Nat} {rety : Option FieldType} {As rest : List Value} (hst : st = As.reverse ++ rest) (ct : Met l y wsy rmy (zzPc Z (zzX Z base PL mm) As σ) (zzQp Z base mm r0 σ) rmy.cells rmy.slots (zzA base)) (cw : CallB R s args own index y bytes maxL rety wsy rmy rmy.cells rmy.slots n ∧ (Cond.static y).before args s = true) (hn : As.length = n) (hroom : (rest.map fun v => v.category).sum ≤ 8) (hcs : cells + rmy.cells ≤ R.cells ∧ slots + rmy.slots ≤ R.slots) (hd : decode cc pc = .ok (.invokestatic index, 3))
    (kk : ∀ r1 σ2 PL' c0, zzpr PL' r1 c0 → zzGO p l e R s m args below meth c nL (zzA base) (zzX Z base PL' mm) Wf rel mc ms (kf r1 σ2) σ2 (cells + rmy.cells) (slots + rmy.slots) (pc + 3) loc (va_rf c0 :: rest)) : zzGO p l e R s m args below meth c nL (zzA base) (zzX Z base PL mm) Wf rel mc ms (zzbd (some (r0, σ)) kf) σ cells slots pc loc st := by
  subst hst
  refine zz_callP (av := As.toArray) (mcc := rmy.cells) (msc := rmy.slots) (fun H locs ls hW hl => ?_) kk
  exact va_runS (As := As) (rest := rest) C.1 ct cw ⟨zzPc_blind, fun U hU hWm => zzPc_at C.2.2.2 hU hWm hW⟩ rfl hn hl.1 rfl (lv_room hroom) hd hcs
theorem zz_callSNP (C : zzCx p m meth c s args cc nL ws own ret Z) {r0 : Option (Nat × Int32)} {kf : Option (Nat × Int32) → zzS → Option (α × zzS)} {y : MethodName} {wsy : List Cond} {rmy : Room} {bytes : ByteArray} {maxL n index : Nat} {rety : Option FieldType} {host : String} {As rest : List Value} (hst : st = As.reverse ++ rest) (ct : Met l y wsy rmy (zzPc Z (zzX Z base PL mm) As σ) (zzQp Z base mm r0 σ) rmy.cells rmy.slots (zzA base)) (cw : va_CN R s args own index y host bytes maxL rety wsy rmy rmy.cells rmy.slots n ∧ (Cond.static y).before args s = true ∧ True) (hn : As.length = n) (hroom : (rest.map fun v => v.category).sum ≤ 8) (hcs : cells + rmy.cells ≤ R.cells ∧ slots + rmy.slots ≤ R.slots) (hd : decode cc pc = .ok (.invokestatic index, 3))
    (kk : ∀ r1 σ2 PL' c0, zzpr PL' r1 c0 → zzGO p l e R s m args below meth c nL (zzA base) (zzX Z base PL' mm) Wf rel mc ms (kf r1 σ2) σ2 (cells + rmy.cells) (slots + rmy.slots) (pc + 3) loc (va_rf c0 :: rest)) : zzGO p l e R s m args below meth c nL (zzA base) (zzX Z base PL mm) Wf rel mc ms (zzbd (some (r0, σ)) kf) σ cells slots pc loc st := by
  subst hst
  refine zz_callP (av := As.toArray) (mcc := rmy.cells) (msc := rmy.slots) (fun H locs ls hW hl => ?_) kk
  exact va_runSN (As := As) (rest := rest) C.1 ct cw ⟨zzPc_blind, fun U hU hWm => zzPc_at C.2.2.2 hU hWm hW⟩ rfl hn hl.1 rfl (lv_room hroom) hd hcs
theorem zz_kIX {kf : Int32 → zzS → Option (α × zzS)} {mcc msc : Nat} (kk : ∀ r1 σ2 PL, zzGO p l e R s m args below meth c nL (zzA base) (zzX Z base PL mm) Wf rel mc ms (kf r1 σ2) σ2 (cells + mcc) (slots + msc) pc loc (.int r1 :: st)) : ∀ r1 σ2 v, zzRI r1 v → zzGO p l e R s m args below meth c nL (zzA base) (zzXx Z base mm) Wf rel mc ms (kf r1 σ2) σ2 (cells + mcc) (slots + msc) pc loc (v.toList ++ st) := by
  intro r1 σ2 v hv
  have hv : v = _ := hv
  subst hv
  intro r σ' hf H locs ls hW hS hl
  obtain ⟨PL, hW⟩ := hW
  exact kk r1 σ2 PL r σ' hf H locs ls hW hS hl
end NP2
