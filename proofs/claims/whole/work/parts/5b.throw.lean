/-! ===== what throwing needs: texts, words of the tables, two statics ===== -/
def zxB (X : String) : List Cond := [.castable X X, .declares (Bundle.initS "java/lang/RuntimeException"), .declares (Bundle.initS "java/lang/Exception"), .declares (Bundle.initS Bundle.tN)]
def zxW : List Cond := zxB "java/lang/IllegalArgumentException" ++ (zxB "java/lang/IllegalStateException" ++ zxB "java/lang/UnsupportedOperationException")
def zxN : List (String × String) := [("java/lang/IllegalArgumentException", "java/lang/UnsupportedOperationException"), ("java/lang/IllegalStateException", "java/lang/UnsupportedOperationException"), ("java/lang/IllegalStateException", "java/lang/IllegalArgumentException")]
def zxS : List (String × Nat × String) := [(RX0, 25, "a blusher fails"), (RX3, 25, "a deaf one fails"), (RX6, 15, "a person fails"), (RX11, 267, "no such shelf"), (RX11, 276, "no row, or no such place in it")]
def zxT (U : State) : Prop := (∀ w ∈ zxW, va_Nw w U) ∧ (∀ q ∈ zxN, va_Nc q.1 q.2 U) ∧ ∀ q ∈ zxS, ∃ a, vk_R q.1 q.2.1 q.2.2 a U
theorem zxT.warm {s U : State} (hW : s.WarmedH U.vm) (h : zxT s) : zxT U := by
  refine ⟨fun w hw => ?_, fun q hq => (h.2.1 q hq).moved hW.alike, fun q hq => ?_⟩
  · have h0 := h.1 w hw
    simp only [zxW, zxB, List.mem_append, List.mem_cons, List.not_mem_nil, or_false] at hw
    rcases hw with (rfl | rfl | rfl | rfl) | (rfl | rfl | rfl | rfl) | (rfl | rfl | rfl | rfl) <;> first | exact va_Nw.warmC hW h0 | exact va_Nw.warmD hW h0
  · obtain ⟨a, h1⟩ := h.2.2 q hq
    exact ⟨a, vk_R.warm hW h1⟩
theorem zxT.same {s U : State} (hvm : s.vm = U.vm) (h : zxT s) : zxT U := h.warm (by rw [← hvm]; exact State.WarmedH.refl _)
def zxZ (A : Nat → Prop) (U : State) (H : Heap) : Prop := vx_Zq Bundle.tN "UNASSIGNED_STACK" Bundle.steD A U H ∧ vx_Zq Bundle.tN "SUPPRESSED_SENTINEL" Bundle.listD A U H
theorem zxZ.moved {A : Nat → Prop} {u U : State} {H : Heap} (hvm : u.vm.Alike U.vm) (h : zxZ A u H) : zxZ A U H := ⟨h.1.moved hvm, h.2.moved hvm⟩
theorem zxZ.kept {A : Nat → Prop} {U : State} {H H1 : Heap} {locs : List Loc} (h : zxZ A U H) (hS : va_S A H H1 locs) : zxZ A U H1 := ⟨h.1.kept hS.2.1, h.2.kept hS.2.1⟩
def zxPc {S : Type} (Z : zzG) (base : Nat) (Wd : S → Heap → Prop) (av : List Value) (σ : S) : Array Value → State → Prop := va_Pc av (fun U => zzKK Z U ∧ (zxT U ∧ zxZ (zzA base) U U.heap) ∧ Wd σ U.heap)
theorem zxPc_blind {S : Type} {Z : zzG} {base : Nat} {Wd : S → Heap → Prop} {av : List Value} {σ : S} : FrameBlind (zxPc Z base Wd av σ) := fun a U g0 mk h => ⟨h.1, zzKK.same (s := U) (U := U.calling g0 mk a) rfl h.2.1, ⟨zxT.same (s := U) (U := U.calling g0 mk a) rfl h.2.2.1.1, zxZ.moved (u := U) (U := U.calling g0 mk a) (Vm.Alike.refl _) h.2.2.1.2⟩, h.2.2.2⟩
theorem zxPc_at {S : Type} {Z : zzG} {base : Nat} {Wd : S → Heap → Prop} {av : List Value} {σ : S} {s U : State} {H : Heap} {locs : List Loc} (hK : zzKK Z s) (hT : zxT s) (hZ : zxZ (zzA base) s s.heap) (hS : va_S (zzA base) s.heap H locs) (hU : U.heap = H) (hW : s.WarmedH U.vm) (h : Wd σ H) : zxPc Z base Wd av σ av.toArray U := ⟨rfl, hK.warm hW, ⟨hT.warm hW, by rw [hU]; exact (hZ.kept hS).moved hW.alike⟩, by rw [hU]; exact h⟩
theorem zxMet_of {S : Type} {l : Launch} {y : MethodName} {ws ws' : List Cond} {rm : Room} {Z : zzG} {base : Nat} {Wd : S → Heap → Prop} {Qc : Array Value → State → Outcome → State → Prop} {XC : String → State → State → Prop} {av : List Value} {σ : S} {cc : ByteArray} {nL mc ms : Nat} {ret : Option FieldType}
    (hy : plainName y.cls = true) (hw : ws = Cond.code y cc nL ret :: ws') (hn : (lg_sl av).length ≤ nL) (loc : List (Nat × Value)) (hloc : lv_args 0 av = loc)
    (body : ∀ (p : Program) (e : Env) (s : State) (m : MethodId) (args : Array Value) (below : List Frame) (meth : Method) (c : Code), zzCx p m meth c s args cc nL ws y.cls ret Z → (∀ x ∈ c.exceptionTable.toList, False) → zxT s → zxZ (zzA base) s s.heap → ∀ (H : Heap) (locs : List Loc) (ls : Array Slot), Wd σ H → va_S (zzA base) s.heap H locs → lv_has ls nL loc → W p l e rm s m args below meth c H locs 0 0 (vx_MQ below Qc XC args s mc ms (zzA base)) (F0 m 0 ls [])) : vx_Met l y ws rm (zxPc Z base Wd av σ) Qc XC mc ms (zzA base) := by
  refine vx_ofW (cc := cc) (maxL := nL) (ret := ret) hy hw ?_
  intro p e s m args below meth c s₁ B hml ht hP
  obtain ⟨rfl, hK, ⟨hT, hZ⟩, hWd⟩ := hP
  have hl := lv_entry av (n := nL) hn
  rw [lg_entry_eq]
  rw [hloc] at hl
  exact body p e s m _ below meth c ⟨⟨B.exec, B.bytes, hml, findClass_of_methodNamed B.named, atoms_spec (ws := ws) B.pre⟩, B.returns, B.notSynchronized, hK⟩ ht hT hZ s.heap [] _ hWd va_S.rf hl
theorem zxMetH_of {S : Type} {l : Launch} {y : MethodName} {ws ws' : List Cond} {rm : Room} {Z : zzG} {base : Nat} {Wd : S → Heap → Prop} {Qc : Array Value → State → Outcome → State → Prop} {XC : String → State → State → Prop} {av : List Value} {σ : S} {cc : ByteArray} {nL mc ms : Nat} {ret : Option FieldType} {hh : List (Nat × Nat × Nat × Nat)}
    (hy : plainName y.cls = true) (hw : ws = Cond.codeWith y cc nL ret hh :: ws') (hn : (lg_sl av).length ≤ nL) (loc : List (Nat × Value)) (hloc : lv_args 0 av = loc)
    (body : ∀ (p : Program) (e : Env) (s : State) (m : MethodId) (args : Array Value) (below : List Frame) (meth : Method) (c : Code), zzCx p m meth c s args cc nL ws y.cls ret Z → c.exceptionTable.toList = tableOf hh → zxT s → zxZ (zzA base) s s.heap → ∀ (H : Heap) (locs : List Loc) (ls : Array Slot), Wd σ H → va_S (zzA base) s.heap H locs → lv_has ls nL loc → W p l e rm s m args below meth c H locs 0 0 (vx_MQ below Qc XC args s mc ms (zzA base)) (F0 m 0 ls [])) : vx_Met l y ws rm (zxPc Z base Wd av σ) Qc XC mc ms (zzA base) := by
  refine vx_ofWH (cc := cc) (maxL := nL) (ret := ret) (hh := hh) hy hw ?_
  intro p e s m args below meth c s₁ B hml hP
  obtain ⟨rfl, hK, ⟨hT, hZ⟩, hWd⟩ := hP
  have hl := lv_entry av (n := nL) hn
  have hts := atoms_spec (ws := ws) B.pre
  have ht := vx_table (x := y) B (hts _ (by rw [hw]; exact List.mem_cons_self))
  rw [lg_entry_eq]
  rw [hloc] at hl
  exact body p e s m _ below meth c ⟨⟨B.exec, B.bytes, hml, findClass_of_methodNamed B.named, hts⟩, B.returns, B.notSynchronized, hK⟩ ht hT hZ s.heap [] _ hWd va_S.rf hl
/-- a list's words, as a throw asks for them -/
theorem zx_hat {s : State} {args : Array Value} {ws : List Cond} {own X : String} {ic : Nat} {names : List String} (hT : zxT s) (hX : ∀ w ∈ zxB X, w ∈ zxW) (h1 : ∀ w ∈ (vx_atS own ic X names).filter goodWord, w.before args s = true) (h2 : ((vx_atS own ic X names).filter (fun w => !goodWord w)).all (fun w => decide (w ∈ zxB X)) = true) : ∀ w ∈ vx_atS own ic X names, w.before args s = true :=
  vx_hat (B := zxB X) h1 (fun w hw => of_decide_eq_true (List.all_eq_true.mp h2 w hw)) (fun w hw => by
    have h0 := hT.1 w (hX w hw)
    simp only [zxB, List.mem_cons, List.not_mem_nil, or_false] at hw
    rcases hw with rfl | rfl | rfl | rfl <;> exact va_Nw.use rfl h0)
theorem zxW_1 : ∀ w ∈ zxB "java/lang/IllegalArgumentException", w ∈ zxW := fun w h => List.mem_append_left _ h
theorem zxW_2 : ∀ w ∈ zxB "java/lang/IllegalStateException", w ∈ zxW := fun w h => List.mem_append_right _ (List.mem_append_left _ h)
theorem zxW_3 : ∀ w ∈ zxB "java/lang/UnsupportedOperationException", w ∈ zxW := fun w h => List.mem_append_right _ (List.mem_append_right _ h)
theorem zzX_keptAll {Z : zzG} {base : Nat} {PL : Nat → Option (Nat × Int32)} {mm x : zzS} {H H1 : Heap} (h : zzX Z base PL mm x H) (ho : ∀ q : Nat, q < H.size → H1[q]? = H[q]?) : zzX Z base PL mm x H1 := by
  obtain ⟨h0, ⟨g, h1, h2⟩, h3⟩ := h
  exact ⟨h0, ⟨g, h1, fun i hi => (h2 i hi).kept (ho _ (va_at.lt (h2 i hi)))⟩, fun q kf hq => (h3 q kf hq).kept (ho _ (va_at.lt (h3 q kf hq)))⟩
/-- what the throw leaves -/
def zxE (Z : zzG) (base : Nat) (PL : Nat → Option (Nat × Int32)) (mm σ : zzS) (E0 : String) (px : Prop) : String → State → State → Prop := vx_X (S := Unit) (fun _ => px) (fun E _ t => E = E0 ∧ zzX Z base PL mm σ t.heap) (zzA base)
theorem zxE_of {Z : zzG} {base : Nat} {PL : Nat → Option (Nat × Int32)} {mm σ : zzS} {E0 : String} {px : Prop} {s : State} {H : Heap} {locs : List Loc} (hp : px) (hW : zzX Z base PL mm σ H) (hS : va_S (zzA base) s.heap H locs) : ∀ t : State, s.vm.Alike t.vm → H.size ≤ t.heap.size → (∀ q : Nat, q < H.size → t.heap[q]? = H[q]?) → zxE Z base PL mm σ E0 px E0 s t := fun t _ h1 h2 => ⟨(), hp, ⟨rfl, zzX_keptAll hW h2⟩, Nat.le_trans hS.1 h1, fun q h3 h4 => by rw [h2 q (Nat.lt_of_lt_of_le h3 hS.1)]; exact hS.2.1 q h3 h4⟩


