/-! ===== the cells of both sides in the heap ===== -/
abbrev zzG : Type := va_G × (Nat → Nat) × (Nat → Nat) × (Nat → ClassId)
def zzad (Z : zzG) (k : Nat) : Nat := Z.2.1 k
def zzsp (Z : zzG) (k : Nat) : Nat := Z.2.2.1 k
def zzcA (Z : zzG) (k : Nat) : ClassId := Z.2.2.2 k
abbrev zzT (Z : zzG) : List (ClassId × FieldType) := [(zzcA Z 0, .int), (zzcA Z 1, .long), (zzcA Z 2, .object "DealtByOpposite$Person"), (zzcA Z 3, .object "DealtByOpposite$Row")]
def zzEs (Z : zzG) (I : Nat → Int32) (A : Nat → Int32) (L : Nat → Int64) (g : Nat → Option Nat) (Q : Nat → Option Nat) : List va_E := [
  .inr (11, [.ref (zzad Z 1), .ref (zzad Z 2), .ref (zzad Z 3), .ref (zzad Z 20), .ref (zzad Z 24), .ref (zzad Z 28), .ref (zzad Z 32), .int (I 7), .int (I 8)]),
  .inl (zzcA Z 2, 8, .inr (.inr (.inr (.inr g)))),
  .inl (zzcA Z 3, 8, .inr (.inr (.inr (.inr (fun j => (Q j).map (zzad Z)))))),
  .inl (zzcA Z 3, 8, .inr (.inr (.inr (.inr (fun j => some (zzad Z (4 + 2 * j))))))),
  .inr (7, [.ref (zzad Z 5), .int (I 1), .int (I 2)]),
  .inl (zzcA Z 0, 100, .inl A),
  .inr (7, [.ref (zzad Z 7), .int (I 1), .int (I 2)]),
  .inl (zzcA Z 0, 100, .inl A),
  .inr (7, [.ref (zzad Z 9), .int (I 1), .int (I 2)]),
  .inl (zzcA Z 0, 100, .inl A),
  .inr (7, [.ref (zzad Z 11), .int (I 1), .int (I 2)]),
  .inl (zzcA Z 0, 100, .inl A),
  .inr (7, [.ref (zzad Z 13), .int (I 1), .int (I 2)]),
  .inl (zzcA Z 0, 100, .inl A),
  .inr (7, [.ref (zzad Z 15), .int (I 1), .int (I 2)]),
  .inl (zzcA Z 0, 100, .inl A),
  .inr (7, [.ref (zzad Z 17), .int (I 1), .int (I 2)]),
  .inl (zzcA Z 0, 100, .inl A),
  .inr (7, [.ref (zzad Z 19), .int (I 1), .int (I 2)]),
  .inl (zzcA Z 0, 100, .inl A),
  .inr (10, [.ref (zzad Z 21), .ref (zzad Z 22), .ref (zzad Z 23), .ref (zzsp Z 20), .int (I 4), .int (I 5), .int (I 6)]),
  .inl (zzcA Z 2, 7, .inr (.inr (.inr (.inr g)))),
  .inl (zzcA Z 0, 7, .inl A),
  .inl (zzcA Z 0, 49, .inl A),
  .inr (10, [.ref (zzad Z 25), .ref (zzad Z 26), .ref (zzad Z 27), .ref (zzsp Z 24), .int (I 4), .int (I 5), .int (I 6)]),
  .inl (zzcA Z 2, 7, .inr (.inr (.inr (.inr g)))),
  .inl (zzcA Z 0, 7, .inl A),
  .inl (zzcA Z 0, 49, .inl A),
  .inr (10, [.ref (zzad Z 29), .ref (zzad Z 30), .ref (zzad Z 31), .ref (zzsp Z 28), .int (I 4), .int (I 5), .int (I 6)]),
  .inl (zzcA Z 2, 7, .inr (.inr (.inr (.inr g)))),
  .inl (zzcA Z 0, 7, .inl A),
  .inl (zzcA Z 0, 49, .inl A),
  .inr (2, [.ref (zzad Z 33), .ref (zzad Z 34), .ref (zzad Z 35), .int (I 3)]),
  .inl (zzcA Z 0, 7, .inl A),
  .inl (zzcA Z 0, 1024, .inl A),
  .inl (zzcA Z 0, 128, .inl A),
  .inr (12, [.int (I 0), .ref (zzad Z 37), .ref (zzad Z 38), .ref (zzad Z 39), .ref (zzad Z 40), .int (I 5), .int (I 6), .ref (zzad Z 41), .ref (zzad Z 42), .ref (zzad Z 43), .ref (zzad Z 44), .ref (zzad Z 45), .ref (zzad Z 53), .int (I 13), .int (I 14), .int (I 15), .int (I 16), .int (I 17), .ref (zzad Z 46), .ref (zzad Z 47), .ref (zzad Z 48), .ref (zzad Z 49), .ref (zzad Z 50), .int (I 23), .int (I 24), .int (I 25), va_rf ((Q 0).map (zzad Z)), .ref (zzad Z 51), .ref (zzad Z 52), .int (I 29), .ref (zzad Z 54)]),
  .inl (zzcA Z 0, 7, .inl A),
  .inl (zzcA Z 0, 7, .inl A),
  .inl (zzcA Z 0, 7, .inl A),
  .inl (zzcA Z 0, 49, .inl A),
  .inl (zzcA Z 0, 8, .inl A),
  .inl (zzcA Z 0, 8, .inl A),
  .inl (zzcA Z 0, 8, .inl A),
  .inl (zzcA Z 0, 8, .inl A),
  .inl (zzcA Z 0, 8, .inl A),
  .inl (zzcA Z 0, 51, .inl A),
  .inl (zzcA Z 0, 51, .inl A),
  .inl (zzcA Z 0, 153, .inl A),
  .inl (zzcA Z 0, 73, .inl A),
  .inl (zzcA Z 0, 73, .inl A),
  .inl (zzcA Z 0, 1024, .inl A),
  .inl (zzcA Z 0, 1024, .inl A),
  .inl (zzcA Z 1, 800, .inr (.inl L)),
  .inl (zzcA Z 1, 100, .inr (.inl L)),
  .inl (zzcA Z 1, 1, .inr (.inl L))]
def zzEl (Z : zzG) (k : Nat) (I : Nat → Int32) (A : Nat → Int32) (L : Nat → Int64) (g : Nat → Option Nat) (Q : Nat → Option Nat) : va_E := (zzEs Z I A L g Q).getD k (.inr (0, []))
section
variable {Z : zzG} {I : Nat → Int32} {A : Nat → Int32} {L : Nat → Int64} {g : Nat → Option Nat} {Q : Nat → Option Nat}
theorem zzEl_town {t : Nat} (h : zztown t) : zzEl Z t I A L g Q = .inr (10, [.ref (zzad Z (t + 1)), .ref (zzad Z (t + 2)), .ref (zzad Z (t + 3)), .ref (zzsp Z t), .int (I 4), .int (I 5), .int (I 6)]) := by rcases h with rfl | rfl | rfl <;> rfl
theorem zzEl_row {t : Nat} (h : zzrow t) : zzEl Z t I A L g Q = .inr (7, [.ref (zzad Z (t + 1)), .int (I 1), .int (I 2)]) := by rcases h with rfl | rfl | rfl | rfl | rfl | rfl | rfl | rfl <;> rfl
theorem zz53 {k : Nat} (h : k < 53) : k = 0 ∨ k = 1 ∨ k = 2 ∨ k = 3 ∨ k = 4 ∨ k = 5 ∨ k = 6 ∨ k = 7 ∨ k = 8 ∨ k = 9 ∨ k = 10 ∨ k = 11 ∨ k = 12 ∨ k = 13 ∨ k = 14 ∨ k = 15 ∨ k = 16 ∨ k = 17 ∨ k = 18 ∨ k = 19 ∨ k = 20 ∨ k = 21 ∨ k = 22 ∨ k = 23 ∨ k = 24 ∨ k = 25 ∨ k = 26 ∨ k = 27 ∨ k = 28 ∨ k = 29 ∨ k = 30 ∨ k = 31 ∨ k = 32 ∨ k = 33 ∨ k = 34 ∨ k = 35 ∨ k = 36 ∨ k = 37 ∨ k = 38 ∨ k = 39 ∨ k = 40 ∨ k = 41 ∨ k = 42 ∨ k = 43 ∨ k = 44 ∨ k = 45 ∨ k = 46 ∨ k = 47 ∨ k = 48 ∨ k = 49 ∨ k = 50 ∨ k = 51 ∨ k = 52 := by omega
theorem zzlen_lt {k : Nat} (h : 0 < zzlen k) : k < 53 := by
  rcases Nat.lt_or_ge k 53 with q | q
  · exact q
  · exfalso
    revert h
    unfold zzlen
    split <;> first | omega | decide
theorem zzEl_arr {k : Nat} (h : 0 < zzlen k) : zzEl Z k I A L g Q = .inl (zzcA Z 0, zzlen k, .inl A) := by
  rcases zz53 (zzlen_lt h) with rfl | rfl | rfl | rfl | rfl | rfl | rfl | rfl | rfl | rfl | rfl | rfl | rfl | rfl | rfl | rfl | rfl | rfl | rfl | rfl | rfl | rfl | rfl | rfl | rfl | rfl | rfl | rfl | rfl | rfl | rfl | rfl | rfl | rfl | rfl | rfl | rfl | rfl | rfl | rfl | rfl | rfl | rfl | rfl | rfl | rfl | rfl | rfl | rfl | rfl | rfl | rfl | rfl <;> first | rfl | exact absurd h (by decide)
theorem zzEl_pers {k : Nat} (h : k = 1 ∨ k = 21 ∨ k = 25 ∨ k = 29) : zzEl Z k I A L g Q = .inl (zzcA Z 2, if k = 1 then 8 else 7, .inr (.inr (.inr (.inr g)))) := by rcases h with rfl | rfl | rfl | rfl <;> rfl
end
/-- the half of the two sides' state in which the cell i lies -/
def zzk (x mm : zzS) (i : Nat) : zzS := if i < 36 then x else mm
def zzE (Z : zzG) (g : Nat → Nat → Option Nat) (x mm : zzS) (i : Nat) : va_E := zzEl Z i (zzi (zzk x mm i) i) (zza (zzk x mm i) i) (zzl (zzk x mm i) i) (g i) (zzq (zzk x mm i))
/-- a person, told by kind and figure, lies at a cell -/
def zzpr (PL : Nat → Option (Nat × Int32)) (v : Option (Nat × Int32)) (c : Option Nat) : Prop := match v with
  | none => c = none
  | some kf => ∃ q, c = some q ∧ PL q = some kf
def zzOk (Z : zzG) (base : Nat) (PL : Nat → Option (Nat × Int32)) : Prop := (∀ i j, i < 56 → j < 56 → zzad Z i = zzad Z j → i = j) ∧ (∀ i, i < 56 → base ≤ zzad Z i) ∧ (∀ q kf, PL q = some kf → kf.1 < 8 ∧ base ≤ q ∧ ∀ i, i < 56 → zzad Z i ≠ q) ∧ ∀ t, zztown t → PL (zzsp Z t) = some (0, 0)
def zzH (Z : zzG) (base : Nat) (PL : Nat → Option (Nat × Int32)) (x mm : zzS) (H : Heap) : Prop := zzOk Z base PL ∧ (∃ g : Nat → Nat → Option Nat, (∀ k j, zzpr PL (zzr x k j) (g k j)) ∧ ∀ i, i < 56 → va_at Z.1 vwCl (zzad Z i, zzE Z g x mm i) H) ∧ ∀ q kf, PL q = some kf → va_at Z.1 vwCl (q, .inr (zzpci kf.1, [.int kf.2])) H
theorem zzH_put {Z : zzG} {base : Nat} {PL : Nat → Option (Nat × Int32)} {x mm x' mm' : zzS} {H H1 : Heap} {k : Nat} (hk : k < 56) (g g' : Nat → Nat → Option Nat) (hOk : zzOk Z base PL) (hat : ∀ i, i < 56 → va_at Z.1 vwCl (zzad Z i, zzE Z g x mm i) H) (hpl : ∀ q kf, PL q = some kf → va_at Z.1 vwCl (q, .inr (zzpci kf.1, [.int kf.2])) H)
    (hg' : ∀ k j, zzpr PL (zzr x' k j) (g' k j)) (hne : ∀ i, i < 56 → i ≠ k → zzE Z g' x' mm' i = zzE Z g x mm i) (hnew : va_at Z.1 vwCl (zzad Z k, zzE Z g' x' mm' k) H1) (oq : ∀ q : Nat, q ≠ zzad Z k → H1[q]? = H[q]?) : zzH Z base PL x' mm' H1 := by
  refine ⟨hOk, ⟨g', hg', fun i hi => ?_⟩, fun q kf hq => (hpl q kf hq).kept (oq q (fun e => (hOk.2.2.1 q kf hq).2.2 k hk e.symm))⟩
  by_cases h : i = k
  · subst h
    exact hnew
  · rw [hne i hi h]
    exact (hat i hi).kept (oq _ (fun e => h (hOk.1 i k hi hk e)))
/-- the words of the tables that stand beside a method's own list -/
def zzNest : List Cond := [.methodLinkNest RX11 26 yX10_init RX11, .methodLinkNest RX11 39 yX2_init RX11, .methodLinkNest RX11 52 yX7_init RX11, .methodLinkNest RX7 30 yX11_read RX11, .methodLinkNest RX7 39 yX11_digitsBehind RX11, .methodLinkNest RX7 42 yX11_isDigit RX11, .methodLinkNest RX7 26 yX11_write RX11, .methodLinkNest RX10 45 yX11_read RX11, .methodLinkNest RX10 49 yX11_write RX11, .methodLinkNest RX10 61 yX11_personOf RX11, .methodLinkNest RX2 37 yX11_write RX11, .methodLinkNest RX2 53 yX11_read RX11,
  .castable RX0 RX6, .castable RX1 RX6, .castable RX3 RX6, .castable RX4 RX6, .castable RX5 RX6, .castable RX0 RX6, .castable RX8 RX6, .castable RX9 RX6,
  .methodLink RX1 11 ⟨RX9, "turns", "()I"⟩, .sameMethod RX9 RX6 "turns" "()I", .superclass RX1 RX9, .superclass RX9 RX6, .instanceMethod yX6_turns, .initialized RX6, .code yX6_turns cX6_turns 1 (some .int)]
def zznw : Cond → Bool
  | .methodLinkNest _ _ _ _ => true
  | .castable _ _ => true
  | w => goodWord w
theorem zznw_warm {w : Cond} {s U : State} (hw : zznw w = true) (hW : s.WarmedH U.vm) (h : va_Nw w s) : va_Nw w U := by
  cases w <;> first | exact va_Nw.warmM hW h | exact va_Nw.warmC hW h | exact word_at hW (good_of_word hw) h
theorem zznw_same {w : Cond} {s U : State} (hw : zznw w = true) (hvm : s.vm = U.vm) (h : va_Nw w s) : va_Nw w U := by
  exact zznw_warm hw (by rw [← hvm]; exact State.WarmedH.refl _) h
theorem zznw_ok : ∀ w ∈ zzNest, zznw w = true := by
  intro w hw
  have h : zzNest.all zznw = true := rfl
  exact List.all_eq_true.mp h w hw
def zzKK (Z : zzG) (U : State) : Prop := va_K Z.1 vwCl (zzT Z) U ∧ ∀ w ∈ zzNest, va_Nw w U
theorem zzKK.warm {Z : zzG} {s U : State} (hW : s.WarmedH U.vm) (h : zzKK Z s) : zzKK Z U := ⟨va_K.moved hW.alike h.1, fun w hw => zznw_warm (zznw_ok w hw) hW (h.2 w hw)⟩
theorem zzKK.same {Z : zzG} {s U : State} (hvm : s.vm = U.vm) (h : zzKK Z s) : zzKK Z U := ⟨va_K.moved (by rw [hvm]; exact Vm.Alike.refl _) h.1, fun w hw => zznw_same (zznw_ok w hw) hvm (h.2 w hw)⟩
/-! ===== lock steps: a method's walk beside its translation ===== -/
def zzQ {S α : Type} (rel : α → Option Value → Prop) (Wd : S → Heap → Prop) (A : Nat → Prop) (r : α) (σ : S) : Array Value → State → Outcome → State → Prop := fun _ st o t => (∃ v, o = .returned v ∧ rel r v ∧ Wd σ t.heap) ∧ va_F A st t
def zzPc {S : Type} (Z : zzG) (Wd : S → Heap → Prop) (av : List Value) (σ : S) : Array Value → State → Prop := va_Pc av (fun U => zzKK Z U ∧ Wd σ U.heap)
/-- a method's contract: if its translation comes to an end, so does the method, with its answer and its state -/
def zzCT {S α : Type} (l : Launch) (y : MethodName) (ws : List Cond) (rm : Room) (A : Nat → Prop) (Z : zzG) (Wd Wf : S → Heap → Prop) (rel : α → Option Value → Prop) (av : List Value) (f : Option (α × S)) (σ : S) : Prop :=
  ∀ (r : α) (σ' : S), f = some (r, σ') → Met l y ws rm (zzPc Z Wd av σ) (zzQ rel Wf A r σ') rm.cells rm.slots A
abbrev zzCx (p : Program) (m : MethodId) (meth : Method) (c : Code) (s : State) (args : Array Value) (cc : ByteArray) (nL : Nat) (ws : List Cond) (own : String) (ret : Option FieldType) (Z : zzG) : Prop :=
  CallFix p m c cc nL s args ws own ∧ meth.sig.returnType = ret ∧ meth.locks = false ∧ zzKK Z s
def zzGO {S α : Type} (p : Program) (l : Launch) (e : Env) (R : Room) (s : State) (m : MethodId) (args : Array Value) (below : List Frame) (meth : Method) (c : Code) (nL : Nat) (A : Nat → Prop) (Wd Wf : S → Heap → Prop) (rel : α → Option Value → Prop) (mc ms : Nat) (f : Option (α × S)) (σ : S) (cells slots pc : Nat) (loc : List (Nat × Value)) (st : List Value) : Prop :=
  ∀ (r : α) (σ' : S), f = some (r, σ') → ∀ (H : Heap) (locs : List Loc) (ls : Array Slot), Wd σ H → va_S A s.heap H locs → lv_has ls nL loc →
    W p l e R s m args below meth c H locs cells slots (MQ below (zzQ rel Wf A r σ') args s mc ms A) (F0 m pc ls st)
theorem zzCT_of {S α : Type} {l : Launch} {y : MethodName} {ws ws' : List Cond} {rm : Room} {A : Nat → Prop} {Z : zzG} {Wd Wf : S → Heap → Prop} {rel : α → Option Value → Prop} {av : List Value} {f : Option (α × S)} {σ : S} {cc : ByteArray} {nL : Nat} {ret : Option FieldType}
    (hy : plainName y.cls = true) (hw : ws = Cond.code y cc nL ret :: ws') (hn : (lg_sl av).length ≤ nL) (loc : List (Nat × Value)) (hloc : lv_args 0 av = loc)
    (body : ∀ (p : Program) (e : Env) (s : State) (m : MethodId) (args : Array Value) (below : List Frame) (meth : Method) (c : Code), zzCx p m meth c s args cc nL ws y.cls ret Z → zzGO p l e rm s m args below meth c nL A Wd Wf rel rm.cells rm.slots f σ 0 0 0 loc []) : zzCT l y ws rm A Z Wd Wf rel av f σ := by
  intro r σ' hf
  refine Met.ofW (cc := cc) (maxL := nL) (ret := ret) hy hw ?_
  intro p e s m args below meth c s₁ B hml hP
  obtain ⟨rfl, hK, hWd⟩ := hP
  have hl := lv_entry av (n := nL) hn
  rw [lg_entry_eq]
  rw [hloc] at hl
  exact body p e s m _ below meth c ⟨⟨B.exec, B.bytes, hml, findClass_of_methodNamed B.named, atoms_spec (ws := ws) B.pre⟩, B.returns, B.notSynchronized, hK⟩ r σ' hf s.heap [] _ hWd va_S.rf hl
/-- what the answers are as values -/
def zzRI : Int32 → Option Value → Prop := fun r v => v = some (.int r)
def zzRL : Int64 → Option Value → Prop := fun r v => v = some (.long r)
def zzRV : Unit → Option Value → Prop := fun _ v => v = none
def zzRP (PL : Nat → Option (Nat × Int32)) : Option (Nat × Int32) → Option Value → Prop := fun r v => ∃ c, zzpr PL r c ∧ v = some (va_rf c)
def zzRQ (Z : zzG) : Option Nat → Option Value → Prop := fun r v => v = some (va_rf (r.map (zzad Z)))
/-- locals behind a store -/
def zzst1 (i : Nat) (v : Value) (loc : List (Nat × Value)) : List (Nat × Value) := (i, v) :: loc.filter (fun q => !(q.1 == i) && !(q.1 + 1 == i && q.2.category == 2))
def zzst2 (i : Nat) (v : Value) (loc : List (Nat × Value)) : List (Nat × Value) := (i, v) :: loc.filter (fun q => !(q.1 == i) && (!(q.1 == i + 1) && !(q.1 + 1 == i && q.2.category == 2)))
section ZZ
variable {S α : Type} {p : Program} {l : Launch} {e : Env} {R : Room} {s : State} {m : MethodId} {args : Array Value} {below : List Frame} {meth : Method} {c : Code} {nL : Nat} {A : Nat → Prop} {Wd Wf : S → Heap → Prop} {rel : α → Option Value → Prop} {mc ms : Nat} {f f1 f2 : Option (α × S)} {σ : S} {cells slots pc : Nat} {loc loc' : List (Nat × Value)} {st : List Value}
variable {cc : ByteArray} {ws : List Cond} {own : String} {ret : Option FieldType} {Z : zzG}

theorem zz_sub (ks : List Nat) (hl : lv_pick loc ks = loc') (kk : zzGO p l e R s m args below meth c nL A Wd Wf rel mc ms (f) σ cells slots (pc) (loc') (st)) : zzGO p l e R s m args below meth c nL A Wd Wf rel mc ms (f) σ cells slots (pc) (loc) (st) := by
  intro r σ' hf H locs ls hW hS hl'
  exact kk r σ' hf H locs ls hW hS (lv_sub hl' ks hl)
theorem zz_none : zzGO p l e R s m args below meth c nL A Wd Wf rel mc ms (none) σ cells slots (pc) (loc) (st) := by
  intro r σ' hf
  cases hf
theorem zz_eq {f' : Option (α × S)} (h : f = f') (kk : zzGO p l e R s m args below meth c nL A Wd Wf rel mc ms (f') σ cells slots (pc) (loc) (st)) : zzGO p l e R s m args below meth c nL A Wd Wf rel mc ms (f) σ cells slots (pc) (loc) (st) := h ▸ kk
theorem zz_ltS {k : S → Option (α × S)} {a : S} (kk : ∀ b, zzGO p l e R s m args below meth c nL A Wd Wf rel mc ms (k b) b cells slots pc loc st) : zzGO p l e R s m args below meth c nL A Wd Wf rel mc ms (zzlt a k) a cells slots pc loc st := kk a
theorem zz_world (h : ∀ H, Wd σ H → ∃ W1 : S → Heap → Prop, W1 σ H ∧ zzGO p l e R s m args below meth c nL A W1 Wf rel mc ms f σ cells slots pc loc st) : zzGO p l e R s m args below meth c nL A Wd Wf rel mc ms f σ cells slots pc loc st := fun r σ' hf H locs ls hW hS hl => by
  obtain ⟨W1, h1, h2⟩ := h H hW
  exact h2 r σ' hf H locs ls h1 hS hl
theorem zz_widen {k n : Nat} (h1 : cells ≤ k) (h2 : slots ≤ n) (kk : zzGO p l e R s m args below meth c nL A Wd Wf rel mc ms f σ k n pc loc st) : zzGO p l e R s m args below meth c nL A Wd Wf rel mc ms (f) σ cells slots (pc) (loc) (st) := by
  intro r σ' hf H locs ls hW hS hl
  exact W.widen h1 h2 (kk r σ' hf H locs ls hW hS hl)
theorem zz_gd {c0 : Prop} [Decidable c0] (kk : c0 → zzGO p l e R s m args below meth c nL A Wd Wf rel mc ms (f) σ cells slots (pc) (loc) (st)) : zzGO p l e R s m args below meth c nL A Wd Wf rel mc ms (zzgd c0 f) σ cells slots (pc) (loc) (st) := by
  intro r σ' hf
  exact kk (zzgd_some hf).1 r σ' (zzgd_some hf).2
theorem zz_lt {β : Type} {a : β} {k : β → Option (α × S)} (kk : ∀ b, b = a → zzGO p l e R s m args below meth c nL A Wd Wf rel mc ms (k b) σ cells slots (pc) (loc) (st)) : zzGO p l e R s m args below meth c nL A Wd Wf rel mc ms (zzlt a k) σ cells slots (pc) (loc) (st) := kk a rfl
theorem zz_iconst (C : zzCx p m meth c s args cc nL ws own ret Z) {n : Int} {v : Int32} (hd : decode cc pc = .ok (.iconst n, 1)) (hv : Int32.ofInt n = v)
    (kk : zzGO p l e R s m args below meth c nL A Wd Wf rel mc ms (f) σ cells slots (pc + 1) (loc) (.int v :: st)) : zzGO p l e R s m args below meth c nL A Wd Wf rel mc ms (f) σ cells slots (pc) (loc) (st) := by
  intro r σ' hf H locs ls hW hS hl
  exact lv_iconst C.1.1 C.1.2.1 hd hv (kk r σ' hf H locs ls hW hS hl)
theorem zz_bipush (C : zzCx p m meth c s args cc nL ws own ret Z) {n : Int} {v : Int32} (hd : decode cc pc = .ok (.bipush n, 2)) (hv : (Int8.ofInt n).toInt32 = v)
    (kk : zzGO p l e R s m args below meth c nL A Wd Wf rel mc ms (f) σ cells slots (pc + 2) (loc) (.int v :: st)) : zzGO p l e R s m args below meth c nL A Wd Wf rel mc ms (f) σ cells slots (pc) (loc) (st) := by
  intro r σ' hf H locs ls hW hS hl
  exact lv_bipush C.1.1 C.1.2.1 hd hv (kk r σ' hf H locs ls hW hS hl)
theorem zz_sipush (C : zzCx p m meth c s args cc nL ws own ret Z) {n : Int} {v : Int32} (hd : decode cc pc = .ok (.sipush n, 3)) (hv : (Int16.ofInt n).toInt32 = v)
    (kk : zzGO p l e R s m args below meth c nL A Wd Wf rel mc ms (f) σ cells slots (pc + 3) (loc) (.int v :: st)) : zzGO p l e R s m args below meth c nL A Wd Wf rel mc ms (f) σ cells slots (pc) (loc) (st) := by
  intro r σ' hf H locs ls hW hS hl
  exact lv_sipush C.1.1 C.1.2.1 hd hv (kk r σ' hf H locs ls hW hS hl)
theorem zz_lconst (C : zzCx p m meth c s args cc nL ws own ret Z) {n : Fin 2} {v : Int64} (hd : decode cc pc = .ok (.lconst n, 1)) (hv : Int64.ofNat (n : Nat) = v)
    (kk : zzGO p l e R s m args below meth c nL A Wd Wf rel mc ms (f) σ cells slots (pc + 1) (loc) (.long v :: st)) : zzGO p l e R s m args below meth c nL A Wd Wf rel mc ms (f) σ cells slots (pc) (loc) (st) := by
  intro r σ' hf H locs ls hW hS hl
  exact lv_lconst C.1.1 C.1.2.1 hd hv (kk r σ' hf H locs ls hW hS hl)
theorem zz_iload_n (C : zzCx p m meth c s args cc nL ws own ret Z) {k : Fin 4} {i : Nat} {x : Int32} (hd : decode cc pc = .ok (.iload_n k, 1)) (hi : (k : Nat) = i) (j : Nat) (hj : loc[j]? = some (i, .int x))
    (kk : zzGO p l e R s m args below meth c nL A Wd Wf rel mc ms (f) σ cells slots (pc + 1) (loc) (.int x :: st)) : zzGO p l e R s m args below meth c nL A Wd Wf rel mc ms (f) σ cells slots (pc) (loc) (st) := by
  intro r σ' hf H locs ls hW hS hl
  exact lv_iload_n C.1.1 C.1.2.1 hd hi (lv_at hl j hj) (kk r σ' hf H locs ls hW hS hl)
theorem zz_iload (C : zzCx p m meth c s args cc nL ws own ret Z) {i : Nat} {x : Int32} (hd : decode cc pc = .ok (.iload i, 2)) (j : Nat) (hj : loc[j]? = some (i, .int x))
    (kk : zzGO p l e R s m args below meth c nL A Wd Wf rel mc ms (f) σ cells slots (pc + 2) (loc) (.int x :: st)) : zzGO p l e R s m args below meth c nL A Wd Wf rel mc ms (f) σ cells slots (pc) (loc) (st) := by
  intro r σ' hf H locs ls hW hS hl
  exact lv_iload C.1.1 C.1.2.1 hd (lv_at hl j hj) (kk r σ' hf H locs ls hW hS hl)
theorem zz_lload_n (C : zzCx p m meth c s args cc nL ws own ret Z) {k : Fin 4} {i : Nat} {x : Int64} (hd : decode cc pc = .ok (.lload_n k, 1)) (hi : (k : Nat) = i) (j : Nat) (hj : loc[j]? = some (i, .long x))
    (kk : zzGO p l e R s m args below meth c nL A Wd Wf rel mc ms (f) σ cells slots (pc + 1) (loc) (.long x :: st)) : zzGO p l e R s m args below meth c nL A Wd Wf rel mc ms (f) σ cells slots (pc) (loc) (st) := by
  intro r σ' hf H locs ls hW hS hl
  exact lv_lload_n C.1.1 C.1.2.1 hd hi (lv_at hl j hj) (kk r σ' hf H locs ls hW hS hl)
theorem zz_lload (C : zzCx p m meth c s args cc nL ws own ret Z) {i : Nat} {x : Int64} (hd : decode cc pc = .ok (.lload i, 2)) (j : Nat) (hj : loc[j]? = some (i, .long x))
    (kk : zzGO p l e R s m args below meth c nL A Wd Wf rel mc ms (f) σ cells slots (pc + 2) (loc) (.long x :: st)) : zzGO p l e R s m args below meth c nL A Wd Wf rel mc ms (f) σ cells slots (pc) (loc) (st) := by
  intro r σ' hf H locs ls hW hS hl
  exact lv_lload C.1.1 C.1.2.1 hd (lv_at hl j hj) (kk r σ' hf H locs ls hW hS hl)
theorem zz_aload_n (C : zzCx p m meth c s args cc nL ws own ret Z) {k : Fin 4} {i : Nat} {x : Nat} (hd : decode cc pc = .ok (.aload_n k, 1)) (hi : (k : Nat) = i) (j : Nat) (hj : loc[j]? = some (i, .ref x))
    (kk : zzGO p l e R s m args below meth c nL A Wd Wf rel mc ms (f) σ cells slots (pc + 1) (loc) (.ref x :: st)) : zzGO p l e R s m args below meth c nL A Wd Wf rel mc ms (f) σ cells slots (pc) (loc) (st) := by
  intro r σ' hf H locs ls hW hS hl
  exact lv_aload_n C.1.1 C.1.2.1 hd hi (lv_at hl j hj) (kk r σ' hf H locs ls hW hS hl)
theorem zz_aload (C : zzCx p m meth c s args cc nL ws own ret Z) {i : Nat} {x : Nat} (hd : decode cc pc = .ok (.aload i, 2)) (j : Nat) (hj : loc[j]? = some (i, .ref x))
    (kk : zzGO p l e R s m args below meth c nL A Wd Wf rel mc ms (f) σ cells slots (pc + 2) (loc) (.ref x :: st)) : zzGO p l e R s m args below meth c nL A Wd Wf rel mc ms (f) σ cells slots (pc) (loc) (st) := by
  intro r σ' hf H locs ls hW hS hl
  exact lv_aload C.1.1 C.1.2.1 hd (lv_at hl j hj) (kk r σ' hf H locs ls hW hS hl)
theorem zz_aloadq_n (C : zzCx p m meth c s args cc nL ws own ret Z) {k : Fin 4} {i : Nat} {x : Option Nat} (hd : decode cc pc = .ok (.aload_n k, 1)) (hi : (k : Nat) = i) (j : Nat) (hj : loc[j]? = some (i, va_rf x))
    (kk : zzGO p l e R s m args below meth c nL A Wd Wf rel mc ms (f) σ cells slots (pc + 1) (loc) (va_rf x :: st)) : zzGO p l e R s m args below meth c nL A Wd Wf rel mc ms (f) σ cells slots (pc) (loc) (st) := by
  intro r σ' hf H locs ls hW hS hl
  cases x with
  | none => exact lv_aload_nN C.1.1 C.1.2.1 hd hi (lv_at hl j hj) (kk r σ' hf H locs ls hW hS hl)
  | some x => exact lv_aload_n C.1.1 C.1.2.1 hd hi (lv_at hl j hj) (kk r σ' hf H locs ls hW hS hl)
theorem zz_aloadq (C : zzCx p m meth c s args cc nL ws own ret Z) {i : Nat} {x : Option Nat} (hd : decode cc pc = .ok (.aload i, 2)) (j : Nat) (hj : loc[j]? = some (i, va_rf x))
    (kk : zzGO p l e R s m args below meth c nL A Wd Wf rel mc ms (f) σ cells slots (pc + 2) (loc) (va_rf x :: st)) : zzGO p l e R s m args below meth c nL A Wd Wf rel mc ms (f) σ cells slots (pc) (loc) (st) := by
  intro r σ' hf H locs ls hW hS hl
  cases x with
  | none => exact lv_aloadN C.1.1 C.1.2.1 hd (lv_at hl j hj) (kk r σ' hf H locs ls hW hS hl)
  | some x => exact lv_aload C.1.1 C.1.2.1 hd (lv_at hl j hj) (kk r σ' hf H locs ls hW hS hl)
theorem zz_istore_n (C : zzCx p m meth c s args cc nL ws own ret Z) {k : Fin 4} {i : Nat} {x : Int32} (hd : decode cc pc = .ok (.istore_n k, 1)) (hi : (k : Nat) = i) (hn : i < nL) (hl' : zzst1 i (.int x) loc = loc')
    (kk : zzGO p l e R s m args below meth c nL A Wd Wf rel mc ms (f) σ cells slots (pc + 1) (loc') (st)) : zzGO p l e R s m args below meth c nL A Wd Wf rel mc ms (f) σ cells slots (pc) (loc) (.int x :: st) := by
  intro r σ' hf H locs ls hW hS hl
  exact lv_istore_n C.1.1 C.1.2.1 hd hi hl hn hl' (fun ls hl => kk r σ' hf H locs ls hW hS hl)
theorem zz_istore (C : zzCx p m meth c s args cc nL ws own ret Z) {i : Nat} {x : Int32} (hd : decode cc pc = .ok (.istore i, 2)) (hn : i < nL) (hl' : zzst1 i (.int x) loc = loc')
    (kk : zzGO p l e R s m args below meth c nL A Wd Wf rel mc ms (f) σ cells slots (pc + 2) (loc') (st)) : zzGO p l e R s m args below meth c nL A Wd Wf rel mc ms (f) σ cells slots (pc) (loc) (.int x :: st) := by
  intro r σ' hf H locs ls hW hS hl
  exact lv_istore C.1.1 C.1.2.1 hd hl hn hl' (fun ls hl => kk r σ' hf H locs ls hW hS hl)
theorem zz_lstore_n (C : zzCx p m meth c s args cc nL ws own ret Z) {k : Fin 4} {i : Nat} {x : Int64} (hd : decode cc pc = .ok (.lstore_n k, 1)) (hi : (k : Nat) = i) (hn : i + 1 < nL) (hl' : zzst2 i (.long x) loc = loc')
    (kk : zzGO p l e R s m args below meth c nL A Wd Wf rel mc ms (f) σ cells slots (pc + 1) (loc') (st)) : zzGO p l e R s m args below meth c nL A Wd Wf rel mc ms (f) σ cells slots (pc) (loc) (.long x :: st) := by
  intro r σ' hf H locs ls hW hS hl
  exact lv_lstore_n C.1.1 C.1.2.1 hd hi hl hn hl' (fun ls hl => kk r σ' hf H locs ls hW hS hl)
theorem zz_lstore (C : zzCx p m meth c s args cc nL ws own ret Z) {i : Nat} {x : Int64} (hd : decode cc pc = .ok (.lstore i, 2)) (hn : i + 1 < nL) (hl' : zzst2 i (.long x) loc = loc')
    (kk : zzGO p l e R s m args below meth c nL A Wd Wf rel mc ms (f) σ cells slots (pc + 2) (loc') (st)) : zzGO p l e R s m args below meth c nL A Wd Wf rel mc ms (f) σ cells slots (pc) (loc) (.long x :: st) := by
  intro r σ' hf H locs ls hW hS hl
  exact lv_lstore C.1.1 C.1.2.1 hd hl hn hl' (fun ls hl => kk r σ' hf H locs ls hW hS hl)
theorem zz_astore_n (C : zzCx p m meth c s args cc nL ws own ret Z) {k : Fin 4} {i : Nat} {x : Nat} (hd : decode cc pc = .ok (.astore_n k, 1)) (hi : (k : Nat) = i) (hn : i < nL) (hl' : zzst1 i (.ref x) loc = loc')
    (kk : zzGO p l e R s m args below meth c nL A Wd Wf rel mc ms (f) σ cells slots (pc + 1) (loc') (st)) : zzGO p l e R s m args below meth c nL A Wd Wf rel mc ms (f) σ cells slots (pc) (loc) (.ref x :: st) := by
  intro r σ' hf H locs ls hW hS hl
  exact lv_astore_n C.1.1 C.1.2.1 hd hi hl hn hl' (fun ls hl => kk r σ' hf H locs ls hW hS hl)
theorem zz_astore (C : zzCx p m meth c s args cc nL ws own ret Z) {i : Nat} {x : Nat} (hd : decode cc pc = .ok (.astore i, 2)) (hn : i < nL) (hl' : zzst1 i (.ref x) loc = loc')
    (kk : zzGO p l e R s m args below meth c nL A Wd Wf rel mc ms (f) σ cells slots (pc + 2) (loc') (st)) : zzGO p l e R s m args below meth c nL A Wd Wf rel mc ms (f) σ cells slots (pc) (loc) (.ref x :: st) := by
  intro r σ' hf H locs ls hW hS hl
  exact lv_astore C.1.1 C.1.2.1 hd hl hn hl' (fun ls hl => kk r σ' hf H locs ls hW hS hl)
theorem zz_astoreq_n (C : zzCx p m meth c s args cc nL ws own ret Z) {k : Fin 4} {i : Nat} {x : Option Nat} (hd : decode cc pc = .ok (.astore_n k, 1)) (hi : (k : Nat) = i) (hn : i < nL) (hl' : zzst1 i (va_rf x) loc = loc')
    (kk : zzGO p l e R s m args below meth c nL A Wd Wf rel mc ms (f) σ cells slots (pc + 1) (loc') (st)) : zzGO p l e R s m args below meth c nL A Wd Wf rel mc ms (f) σ cells slots (pc) (loc) (va_rf x :: st) := by
  intro r σ' hf H locs ls hW hS hl
  cases x with
  | none => exact lv_astore_nN C.1.1 C.1.2.1 hd hi hl hn hl' (fun ls hl => kk r σ' hf H locs ls hW hS hl)
  | some x => exact lv_astore_n C.1.1 C.1.2.1 hd hi hl hn hl' (fun ls hl => kk r σ' hf H locs ls hW hS hl)
theorem zz_astoreq (C : zzCx p m meth c s args cc nL ws own ret Z) {i : Nat} {x : Option Nat} (hd : decode cc pc = .ok (.astore i, 2)) (hn : i < nL) (hl' : zzst1 i (va_rf x) loc = loc')
    (kk : zzGO p l e R s m args below meth c nL A Wd Wf rel mc ms (f) σ cells slots (pc + 2) (loc') (st)) : zzGO p l e R s m args below meth c nL A Wd Wf rel mc ms (f) σ cells slots (pc) (loc) (va_rf x :: st) := by
  intro r σ' hf H locs ls hW hS hl
  cases x with
  | none => exact lv_astoreN C.1.1 C.1.2.1 hd hl hn hl' (fun ls hl => kk r σ' hf H locs ls hW hS hl)
  | some x => exact lv_astore C.1.1 C.1.2.1 hd hl hn hl' (fun ls hl => kk r σ' hf H locs ls hW hS hl)
theorem zz_istoreX_n (C : zzCx p m meth c s args cc nL ws own ret Z) {k : Fin 4} {i : Nat} {a : Int32} {F : Int32 → Option (α × S)} {locf : Int32 → List (Nat × Value)} (hd : decode cc pc = .ok (.istore_n k, 1)) (hi : (k : Nat) = i) (hn : i < nL) (hl' : ∀ x, zzst1 i (.int x) loc = locf x)
    (kk : ∀ x, zzGO p l e R s m args below meth c nL A Wd Wf rel mc ms (F x) σ cells slots (pc + 1) (locf x) (st)) : zzGO p l e R s m args below meth c nL A Wd Wf rel mc ms (zzlt a F) σ cells slots (pc) (loc) (.int a :: st) := by
  intro r σ' hf H locs ls hW hS hl
  exact lv_istore_n C.1.1 C.1.2.1 hd hi hl hn (hl' a) (fun ls hl => kk a r σ' hf H locs ls hW hS hl)
theorem zz_istoreX (C : zzCx p m meth c s args cc nL ws own ret Z) {i : Nat} {a : Int32} {F : Int32 → Option (α × S)} {locf : Int32 → List (Nat × Value)} (hd : decode cc pc = .ok (.istore i, 2)) (hn : i < nL) (hl' : ∀ x, zzst1 i (.int x) loc = locf x)
    (kk : ∀ x, zzGO p l e R s m args below meth c nL A Wd Wf rel mc ms (F x) σ cells slots (pc + 2) (locf x) (st)) : zzGO p l e R s m args below meth c nL A Wd Wf rel mc ms (zzlt a F) σ cells slots (pc) (loc) (.int a :: st) := by
  intro r σ' hf H locs ls hW hS hl
  exact lv_istore C.1.1 C.1.2.1 hd hl hn (hl' a) (fun ls hl => kk a r σ' hf H locs ls hW hS hl)
theorem zz_lstoreX_n (C : zzCx p m meth c s args cc nL ws own ret Z) {k : Fin 4} {i : Nat} {a : Int64} {F : Int64 → Option (α × S)} {locf : Int64 → List (Nat × Value)} (hd : decode cc pc = .ok (.lstore_n k, 1)) (hi : (k : Nat) = i) (hn : i + 1 < nL) (hl' : ∀ x, zzst2 i (.long x) loc = locf x)
    (kk : ∀ x, zzGO p l e R s m args below meth c nL A Wd Wf rel mc ms (F x) σ cells slots (pc + 1) (locf x) (st)) : zzGO p l e R s m args below meth c nL A Wd Wf rel mc ms (zzlt a F) σ cells slots (pc) (loc) (.long a :: st) := by
  intro r σ' hf H locs ls hW hS hl
  exact lv_lstore_n C.1.1 C.1.2.1 hd hi hl hn (hl' a) (fun ls hl => kk a r σ' hf H locs ls hW hS hl)
theorem zz_lstoreX (C : zzCx p m meth c s args cc nL ws own ret Z) {i : Nat} {a : Int64} {F : Int64 → Option (α × S)} {locf : Int64 → List (Nat × Value)} (hd : decode cc pc = .ok (.lstore i, 2)) (hn : i + 1 < nL) (hl' : ∀ x, zzst2 i (.long x) loc = locf x)
    (kk : ∀ x, zzGO p l e R s m args below meth c nL A Wd Wf rel mc ms (F x) σ cells slots (pc + 2) (locf x) (st)) : zzGO p l e R s m args below meth c nL A Wd Wf rel mc ms (zzlt a F) σ cells slots (pc) (loc) (.long a :: st) := by
  intro r σ' hf H locs ls hW hS hl
  exact lv_lstore C.1.1 C.1.2.1 hd hl hn (hl' a) (fun ls hl => kk a r σ' hf H locs ls hW hS hl)
theorem zz_iinc (C : zzCx p m meth c s args cc nL ws own ret Z) {i k : Nat} {n : Int} {x v : Int32} (hd : decode cc pc = .ok (.iinc i n, 3)) (hk : loc[k]? = some (i, .int x)) (hv : x + Int32.ofInt n = v) (hn : i < nL) (hl' : zzst1 i (.int v) loc = loc')
    (kk : zzGO p l e R s m args below meth c nL A Wd Wf rel mc ms (f) σ cells slots (pc + 3) (loc') (st)) : zzGO p l e R s m args below meth c nL A Wd Wf rel mc ms (f) σ cells slots (pc) (loc) (st) := by
  intro r σ' hf H locs ls hW hS hl
  exact lv_iinc C.1.1 C.1.2.1 hd hl hk hv hn hl' (fun ls hl => kk r σ' hf H locs ls hW hS hl)
theorem zz_iincX (C : zzCx p m meth c s args cc nL ws own ret Z) {i k : Nat} {n : Int} {x d : Int32} {F : Int32 → Option (α × S)} {locf : Int32 → List (Nat × Value)} (hd : decode cc pc = .ok (.iinc i n, 3)) (hk : loc[k]? = some (i, .int x)) (hv : Int32.ofInt n = d) (hn : i < nL) (hl' : ∀ y, zzst1 i (.int y) loc = locf y)
    (kk : ∀ y, zzGO p l e R s m args below meth c nL A Wd Wf rel mc ms (F y) σ cells slots (pc + 3) (locf y) (st)) : zzGO p l e R s m args below meth c nL A Wd Wf rel mc ms (zzlt (x + d) F) σ cells slots (pc) (loc) (st) := by
  intro r σ' hf H locs ls hW hS hl
  exact lv_iinc C.1.1 C.1.2.1 hd hl hk (v := x + d) (by rw [hv]) hn (hl' _) (fun ls hl => kk (x + d) r σ' hf H locs ls hW hS hl)
theorem zz_iadd (C : zzCx p m meth c s args cc nL ws own ret Z) {x y : Int32} (hd : decode cc pc = .ok (.iadd, 1))
    (kk : zzGO p l e R s m args below meth c nL A Wd Wf rel mc ms (f) σ cells slots (pc + 1) (loc) (.int (x + y) :: st)) : zzGO p l e R s m args below meth c nL A Wd Wf rel mc ms (f) σ cells slots (pc) (loc) (.int y :: .int x :: st) := by
  intro r σ' hf H locs ls hW hS hl
  exact lv_iadd C.1.1 C.1.2.1 hd (kk r σ' hf H locs ls hW hS hl)
theorem zz_isub (C : zzCx p m meth c s args cc nL ws own ret Z) {x y : Int32} (hd : decode cc pc = .ok (.isub, 1))
    (kk : zzGO p l e R s m args below meth c nL A Wd Wf rel mc ms (f) σ cells slots (pc + 1) (loc) (.int (x - y) :: st)) : zzGO p l e R s m args below meth c nL A Wd Wf rel mc ms (f) σ cells slots (pc) (loc) (.int y :: .int x :: st) := by
  intro r σ' hf H locs ls hW hS hl
  exact lv_isub C.1.1 C.1.2.1 hd (kk r σ' hf H locs ls hW hS hl)
theorem zz_imul (C : zzCx p m meth c s args cc nL ws own ret Z) {x y : Int32} (hd : decode cc pc = .ok (.imul, 1))
    (kk : zzGO p l e R s m args below meth c nL A Wd Wf rel mc ms (f) σ cells slots (pc + 1) (loc) (.int (x * y) :: st)) : zzGO p l e R s m args below meth c nL A Wd Wf rel mc ms (f) σ cells slots (pc) (loc) (.int y :: .int x :: st) := by
  intro r σ' hf H locs ls hW hS hl
  exact lv_imul C.1.1 C.1.2.1 hd (kk r σ' hf H locs ls hW hS hl)
theorem zz_iand (C : zzCx p m meth c s args cc nL ws own ret Z) {x y : Int32} (hd : decode cc pc = .ok (.iand, 1))
    (kk : zzGO p l e R s m args below meth c nL A Wd Wf rel mc ms (f) σ cells slots (pc + 1) (loc) (.int (x &&& y) :: st)) : zzGO p l e R s m args below meth c nL A Wd Wf rel mc ms (f) σ cells slots (pc) (loc) (.int y :: .int x :: st) := by
  intro r σ' hf H locs ls hW hS hl
  exact lv_iand C.1.1 C.1.2.1 hd (kk r σ' hf H locs ls hW hS hl)
theorem zz_ior (C : zzCx p m meth c s args cc nL ws own ret Z) {x y : Int32} (hd : decode cc pc = .ok (.ior, 1))
    (kk : zzGO p l e R s m args below meth c nL A Wd Wf rel mc ms (f) σ cells slots (pc + 1) (loc) (.int (x ||| y) :: st)) : zzGO p l e R s m args below meth c nL A Wd Wf rel mc ms (f) σ cells slots (pc) (loc) (.int y :: .int x :: st) := by
  intro r σ' hf H locs ls hW hS hl
  exact lv_ior C.1.1 C.1.2.1 hd (kk r σ' hf H locs ls hW hS hl)
theorem zz_ixor (C : zzCx p m meth c s args cc nL ws own ret Z) {x y : Int32} (hd : decode cc pc = .ok (.ixor, 1))
    (kk : zzGO p l e R s m args below meth c nL A Wd Wf rel mc ms (f) σ cells slots (pc + 1) (loc) (.int (x ^^^ y) :: st)) : zzGO p l e R s m args below meth c nL A Wd Wf rel mc ms (f) σ cells slots (pc) (loc) (.int y :: .int x :: st) := by
  intro r σ' hf H locs ls hW hS hl
  exact lv_ixor C.1.1 C.1.2.1 hd (kk r σ' hf H locs ls hW hS hl)
theorem zz_ladd (C : zzCx p m meth c s args cc nL ws own ret Z) {x y : Int64} (hd : decode cc pc = .ok (.ladd, 1))
    (kk : zzGO p l e R s m args below meth c nL A Wd Wf rel mc ms (f) σ cells slots (pc + 1) (loc) (.long (x + y) :: st)) : zzGO p l e R s m args below meth c nL A Wd Wf rel mc ms (f) σ cells slots (pc) (loc) (.long y :: .long x :: st) := by
  intro r σ' hf H locs ls hW hS hl
  exact lv_ladd C.1.1 C.1.2.1 hd (kk r σ' hf H locs ls hW hS hl)
theorem zz_lsub (C : zzCx p m meth c s args cc nL ws own ret Z) {x y : Int64} (hd : decode cc pc = .ok (.lsub, 1))
    (kk : zzGO p l e R s m args below meth c nL A Wd Wf rel mc ms (f) σ cells slots (pc + 1) (loc) (.long (x - y) :: st)) : zzGO p l e R s m args below meth c nL A Wd Wf rel mc ms (f) σ cells slots (pc) (loc) (.long y :: .long x :: st) := by
  intro r σ' hf H locs ls hW hS hl
  exact lv_lsub C.1.1 C.1.2.1 hd (kk r σ' hf H locs ls hW hS hl)
theorem zz_lmul (C : zzCx p m meth c s args cc nL ws own ret Z) {x y : Int64} (hd : decode cc pc = .ok (.lmul, 1))
    (kk : zzGO p l e R s m args below meth c nL A Wd Wf rel mc ms (f) σ cells slots (pc + 1) (loc) (.long (x * y) :: st)) : zzGO p l e R s m args below meth c nL A Wd Wf rel mc ms (f) σ cells slots (pc) (loc) (.long y :: .long x :: st) := by
  intro r σ' hf H locs ls hW hS hl
  exact lv_lmul C.1.1 C.1.2.1 hd (kk r σ' hf H locs ls hW hS hl)
theorem zz_ishl (C : zzCx p m meth c s args cc nL ws own ret Z) {x y : Int32} (hd : decode cc pc = .ok (.ishl, 1))
    (kk : zzGO p l e R s m args below meth c nL A Wd Wf rel mc ms (f) σ cells slots (pc + 1) (loc) (.int (x <<< (y &&& 31)) :: st)) : zzGO p l e R s m args below meth c nL A Wd Wf rel mc ms (f) σ cells slots (pc) (loc) (.int y :: .int x :: st) := by
  intro r σ' hf H locs ls hW hS hl
  exact lv_ishl C.1.1 C.1.2.1 hd (kk r σ' hf H locs ls hW hS hl)
theorem zz_ishr (C : zzCx p m meth c s args cc nL ws own ret Z) {x y : Int32} (hd : decode cc pc = .ok (.ishr, 1))
    (kk : zzGO p l e R s m args below meth c nL A Wd Wf rel mc ms (f) σ cells slots (pc + 1) (loc) (.int (x >>> (y &&& 31)) :: st)) : zzGO p l e R s m args below meth c nL A Wd Wf rel mc ms (f) σ cells slots (pc) (loc) (.int y :: .int x :: st) := by
  intro r σ' hf H locs ls hW hS hl
  exact lv_ishr C.1.1 C.1.2.1 hd (kk r σ' hf H locs ls hW hS hl)
theorem zz_iushr (C : zzCx p m meth c s args cc nL ws own ret Z) {x y : Int32} (hd : decode cc pc = .ok (.iushr, 1))
    (kk : zzGO p l e R s m args below meth c nL A Wd Wf rel mc ms (f) σ cells slots (pc + 1) (loc) (.int (x.toUInt32 >>> (y.toUInt32 &&& Int32.toUInt32 31)).toInt32 :: st)) : zzGO p l e R s m args below meth c nL A Wd Wf rel mc ms (f) σ cells slots (pc) (loc) (.int y :: .int x :: st) := by
  intro r σ' hf H locs ls hW hS hl
  exact lv_iushr C.1.1 C.1.2.1 hd rfl (kk r σ' hf H locs ls hW hS hl)
theorem zz_idiv (C : zzCx p m meth c s args cc nL ws own ret Z) {x y : Int32} (hd : decode cc pc = .ok (.idiv, 1)) (hne : ¬ y = 0)
    (kk : zzGO p l e R s m args below meth c nL A Wd Wf rel mc ms (f) σ cells slots (pc + 1) (loc) (.int (x / y) :: st)) : zzGO p l e R s m args below meth c nL A Wd Wf rel mc ms (f) σ cells slots (pc) (loc) (.int y :: .int x :: st) := by
  intro r σ' hf H locs ls hW hS hl
  exact lv_idiv C.1.1 C.1.2.1 hd hne (kk r σ' hf H locs ls hW hS hl)
theorem zz_irem (C : zzCx p m meth c s args cc nL ws own ret Z) {x y : Int32} (hd : decode cc pc = .ok (.irem, 1)) (hne : ¬ y = 0)
    (kk : zzGO p l e R s m args below meth c nL A Wd Wf rel mc ms (f) σ cells slots (pc + 1) (loc) (.int (x - x / y * y) :: st)) : zzGO p l e R s m args below meth c nL A Wd Wf rel mc ms (f) σ cells slots (pc) (loc) (.int y :: .int x :: st) := by
  intro r σ' hf H locs ls hW hS hl
  exact lv_irem C.1.1 C.1.2.1 hd hne (kk r σ' hf H locs ls hW hS hl)
theorem zz_ldiv (C : zzCx p m meth c s args cc nL ws own ret Z) {x y : Int64} (hd : decode cc pc = .ok (.ldiv, 1)) (hne : ¬ y = 0)
    (kk : zzGO p l e R s m args below meth c nL A Wd Wf rel mc ms (f) σ cells slots (pc + 1) (loc) (.long (x / y) :: st)) : zzGO p l e R s m args below meth c nL A Wd Wf rel mc ms (f) σ cells slots (pc) (loc) (.long y :: .long x :: st) := by
  intro r σ' hf H locs ls hW hS hl
  exact lv_ldiv C.1.1 C.1.2.1 hd hne (kk r σ' hf H locs ls hW hS hl)
theorem zz_lrem (C : zzCx p m meth c s args cc nL ws own ret Z) {x y : Int64} (hd : decode cc pc = .ok (.lrem, 1)) (hne : ¬ y = 0)
    (kk : zzGO p l e R s m args below meth c nL A Wd Wf rel mc ms (f) σ cells slots (pc + 1) (loc) (.long (x - x / y * y) :: st)) : zzGO p l e R s m args below meth c nL A Wd Wf rel mc ms (f) σ cells slots (pc) (loc) (.long y :: .long x :: st) := by
  intro r σ' hf H locs ls hW hS hl
  exact lv_lrem C.1.1 C.1.2.1 hd hne (kk r σ' hf H locs ls hW hS hl)
theorem zz_lcmp (C : zzCx p m meth c s args cc nL ws own ret Z) {x y : Int64} (hd : decode cc pc = .ok (.lcmp, 1))
    (kk : zzGO p l e R s m args below meth c nL A Wd Wf rel mc ms (f) σ cells slots (pc + 1) (loc) (.int (lg_cmp x y) :: st)) : zzGO p l e R s m args below meth c nL A Wd Wf rel mc ms (f) σ cells slots (pc) (loc) (.long y :: .long x :: st) := by
  intro r σ' hf H locs ls hW hS hl
  exact W.lcmp C.1.1 C.1.2.1 hd (kk r σ' hf H locs ls hW hS hl)
theorem zz_i2l (C : zzCx p m meth c s args cc nL ws own ret Z) {x : Int32} (hd : decode cc pc = .ok (.i2l, 1))
    (kk : zzGO p l e R s m args below meth c nL A Wd Wf rel mc ms (f) σ cells slots (pc + 1) (loc) (.long (x.toInt64) :: st)) : zzGO p l e R s m args below meth c nL A Wd Wf rel mc ms (f) σ cells slots (pc) (loc) (.int x :: st) := by
  intro r σ' hf H locs ls hW hS hl
  exact lv_i2l C.1.1 C.1.2.1 hd rfl (kk r σ' hf H locs ls hW hS hl)
theorem zz_l2i (C : zzCx p m meth c s args cc nL ws own ret Z) {x : Int64} (hd : decode cc pc = .ok (.l2i, 1))
    (kk : zzGO p l e R s m args below meth c nL A Wd Wf rel mc ms (f) σ cells slots (pc + 1) (loc) (.int (x.toInt32) :: st)) : zzGO p l e R s m args below meth c nL A Wd Wf rel mc ms (f) σ cells slots (pc) (loc) (.long x :: st) := by
  intro r σ' hf H locs ls hW hS hl
  exact lv_l2i C.1.1 C.1.2.1 hd rfl (kk r σ' hf H locs ls hW hS hl)
theorem zz_i2b (C : zzCx p m meth c s args cc nL ws own ret Z) {x : Int32} (hd : decode cc pc = .ok (.i2b, 1))
    (kk : zzGO p l e R s m args below meth c nL A Wd Wf rel mc ms (f) σ cells slots (pc + 1) (loc) (.int (x.toInt8.toInt32) :: st)) : zzGO p l e R s m args below meth c nL A Wd Wf rel mc ms (f) σ cells slots (pc) (loc) (.int x :: st) := by
  intro r σ' hf H locs ls hW hS hl
  exact lv_i2b C.1.1 C.1.2.1 hd rfl (kk r σ' hf H locs ls hW hS hl)
theorem zz_i2s (C : zzCx p m meth c s args cc nL ws own ret Z) {x : Int32} (hd : decode cc pc = .ok (.i2s, 1))
    (kk : zzGO p l e R s m args below meth c nL A Wd Wf rel mc ms (f) σ cells slots (pc + 1) (loc) (.int (x.toInt16.toInt32) :: st)) : zzGO p l e R s m args below meth c nL A Wd Wf rel mc ms (f) σ cells slots (pc) (loc) (.int x :: st) := by
  intro r σ' hf H locs ls hW hS hl
  exact lv_i2s C.1.1 C.1.2.1 hd rfl (kk r σ' hf H locs ls hW hS hl)
theorem zz_dup (C : zzCx p m meth c s args cc nL ws own ret Z) {va : Value} (hd : decode cc pc = .ok (.dup, 1)) (hva : va.category = 1)
    (kk : zzGO p l e R s m args below meth c nL A Wd Wf rel mc ms (f) σ cells slots (pc + 1) (loc) (va :: va :: st)) : zzGO p l e R s m args below meth c nL A Wd Wf rel mc ms (f) σ cells slots (pc) (loc) (va :: st) := by
  intro r σ' hf H locs ls hW hS hl
  exact lv_dup C.1.1 C.1.2.1 hd hva (kk r σ' hf H locs ls hW hS hl)
theorem zz_pop (C : zzCx p m meth c s args cc nL ws own ret Z) {va : Value} (hd : decode cc pc = .ok (.pop, 1)) (hva : va.category = 1)
    (kk : zzGO p l e R s m args below meth c nL A Wd Wf rel mc ms (f) σ cells slots (pc + 1) (loc) (st)) : zzGO p l e R s m args below meth c nL A Wd Wf rel mc ms (f) σ cells slots (pc) (loc) (va :: st) := by
  intro r σ' hf H locs ls hW hS hl
  exact lv_pop C.1.1 C.1.2.1 hd hva (kk r σ' hf H locs ls hW hS hl)
theorem zz_null (C : zzCx p m meth c s args cc nL ws own ret Z) (hd : decode cc pc = .ok (.aconst_null, 1))
    (kk : zzGO p l e R s m args below meth c nL A Wd Wf rel mc ms (f) σ cells slots (pc + 1) (loc) (va_rf none :: st)) : zzGO p l e R s m args below meth c nL A Wd Wf rel mc ms (f) σ cells slots (pc) (loc) (st) := by
  intro r σ' hf H locs ls hW hS hl
  exact lv_null C.1.1 C.1.2.1 hd (kk r σ' hf H locs ls hW hS hl)
theorem zz_goto (C : zzCx p m meth c s args cc nL ws own ret Z) {off : Int} {tgt : Nat} (hd : decode cc pc = .ok (.goto off, 3)) (ht : (pc : Int) + off = (tgt : Int))
    (kk : zzGO p l e R s m args below meth c nL A Wd Wf rel mc ms (f) σ cells slots (tgt) (loc) (st)) : zzGO p l e R s m args below meth c nL A Wd Wf rel mc ms (f) σ cells slots (pc) (loc) (st) := by
  intro r σ' hf H locs ls hW hS hl
  exact lv_goto C.1.1 C.1.2.1 hd ht (kk r σ' hf H locs ls hW hS hl)
theorem zz_if_eq (C : zzCx p m meth c s args cc nL ws own ret Z) {x : Int32} {off : Int} {tgt : Nat} (hd : decode cc pc = .ok (.ifCond .eq off, 3)) (ht : (pc : Int) + off = (tgt : Int))
    (kt : x = 0 → zzGO p l e R s m args below meth c nL A Wd Wf rel mc ms (f1) σ cells slots (tgt) (loc) (st)) (kf : ¬ x = 0 → zzGO p l e R s m args below meth c nL A Wd Wf rel mc ms (f2) σ cells slots (pc + 3) (loc) (st)) : zzGO p l e R s m args below meth c nL A Wd Wf rel mc ms (if x = 0 then f1 else f2) σ cells slots (pc) (loc) (.int x :: st) := by
  intro r σ' hf H locs ls hW hS hl
  refine lv_if_eq C.1.1 C.1.2.1 hd ht (fun h => ?_) (fun h => ?_)
  · have h9 : x = 0 := h
    rw [if_pos h9] at hf
    exact kt h9 r σ' hf H locs ls hW hS hl
  · have h9 : ¬ x = 0 := h
    rw [if_neg h9] at hf
    exact kf h9 r σ' hf H locs ls hW hS hl
theorem zz_if_ne (C : zzCx p m meth c s args cc nL ws own ret Z) {x : Int32} {off : Int} {tgt : Nat} (hd : decode cc pc = .ok (.ifCond .ne off, 3)) (ht : (pc : Int) + off = (tgt : Int))
    (kt : ¬ x = 0 → zzGO p l e R s m args below meth c nL A Wd Wf rel mc ms (f1) σ cells slots (tgt) (loc) (st)) (kf : x = 0 → zzGO p l e R s m args below meth c nL A Wd Wf rel mc ms (f2) σ cells slots (pc + 3) (loc) (st)) : zzGO p l e R s m args below meth c nL A Wd Wf rel mc ms (if x = 0 then f2 else f1) σ cells slots (pc) (loc) (.int x :: st) := by
  intro r σ' hf H locs ls hW hS hl
  refine lv_if_ne C.1.1 C.1.2.1 hd ht (fun h => ?_) (fun h => ?_)
  · have h9 : ¬ x = 0 := h
    rw [if_neg h9] at hf
    exact kt h9 r σ' hf H locs ls hW hS hl
  · have h9 : x = 0 := h
    rw [if_pos h9] at hf
    exact kf h9 r σ' hf H locs ls hW hS hl
theorem zz_if_lt (C : zzCx p m meth c s args cc nL ws own ret Z) {x : Int32} {off : Int} {tgt : Nat} (hd : decode cc pc = .ok (.ifCond .lt off, 3)) (ht : (pc : Int) + off = (tgt : Int))
    (kt : x < 0 → zzGO p l e R s m args below meth c nL A Wd Wf rel mc ms (f1) σ cells slots (tgt) (loc) (st)) (kf : ¬ x < 0 → zzGO p l e R s m args below meth c nL A Wd Wf rel mc ms (f2) σ cells slots (pc + 3) (loc) (st)) : zzGO p l e R s m args below meth c nL A Wd Wf rel mc ms (if x < 0 then f1 else f2) σ cells slots (pc) (loc) (.int x :: st) := by
  intro r σ' hf H locs ls hW hS hl
  refine lv_if_lt C.1.1 C.1.2.1 hd ht (fun h => ?_) (fun h => ?_)
  · have h9 : x < 0 := h
    rw [if_pos h9] at hf
    exact kt h9 r σ' hf H locs ls hW hS hl
  · have h9 : ¬ x < 0 := h
    rw [if_neg h9] at hf
    exact kf h9 r σ' hf H locs ls hW hS hl
theorem zz_if_ge (C : zzCx p m meth c s args cc nL ws own ret Z) {x : Int32} {off : Int} {tgt : Nat} (hd : decode cc pc = .ok (.ifCond .ge off, 3)) (ht : (pc : Int) + off = (tgt : Int))
    (kt : ¬ x < 0 → zzGO p l e R s m args below meth c nL A Wd Wf rel mc ms (f1) σ cells slots (tgt) (loc) (st)) (kf : x < 0 → zzGO p l e R s m args below meth c nL A Wd Wf rel mc ms (f2) σ cells slots (pc + 3) (loc) (st)) : zzGO p l e R s m args below meth c nL A Wd Wf rel mc ms (if x < 0 then f2 else f1) σ cells slots (pc) (loc) (.int x :: st) := by
  intro r σ' hf H locs ls hW hS hl
  refine lv_if_ge C.1.1 C.1.2.1 hd ht (fun h => ?_) (fun h => ?_)
  · have h9 : ¬ x < 0 := Int32.not_lt.mpr h
    rw [if_neg h9] at hf
    exact kt h9 r σ' hf H locs ls hW hS hl
  · have h9 : x < 0 := Int32.not_le.mp h
    rw [if_pos h9] at hf
    exact kf h9 r σ' hf H locs ls hW hS hl
theorem zz_if_gt (C : zzCx p m meth c s args cc nL ws own ret Z) {x : Int32} {off : Int} {tgt : Nat} (hd : decode cc pc = .ok (.ifCond .gt off, 3)) (ht : (pc : Int) + off = (tgt : Int))
    (kt : 0 < x → zzGO p l e R s m args below meth c nL A Wd Wf rel mc ms (f1) σ cells slots (tgt) (loc) (st)) (kf : ¬ 0 < x → zzGO p l e R s m args below meth c nL A Wd Wf rel mc ms (f2) σ cells slots (pc + 3) (loc) (st)) : zzGO p l e R s m args below meth c nL A Wd Wf rel mc ms (if 0 < x then f1 else f2) σ cells slots (pc) (loc) (.int x :: st) := by
  intro r σ' hf H locs ls hW hS hl
  refine lv_if_gt C.1.1 C.1.2.1 hd ht (fun h => ?_) (fun h => ?_)
  · have h9 : 0 < x := h
    rw [if_pos h9] at hf
    exact kt h9 r σ' hf H locs ls hW hS hl
  · have h9 : ¬ 0 < x := h
    rw [if_neg h9] at hf
    exact kf h9 r σ' hf H locs ls hW hS hl
theorem zz_if_le (C : zzCx p m meth c s args cc nL ws own ret Z) {x : Int32} {off : Int} {tgt : Nat} (hd : decode cc pc = .ok (.ifCond .le off, 3)) (ht : (pc : Int) + off = (tgt : Int))
    (kt : ¬ 0 < x → zzGO p l e R s m args below meth c nL A Wd Wf rel mc ms (f1) σ cells slots (tgt) (loc) (st)) (kf : 0 < x → zzGO p l e R s m args below meth c nL A Wd Wf rel mc ms (f2) σ cells slots (pc + 3) (loc) (st)) : zzGO p l e R s m args below meth c nL A Wd Wf rel mc ms (if 0 < x then f2 else f1) σ cells slots (pc) (loc) (.int x :: st) := by
  intro r σ' hf H locs ls hW hS hl
  refine lv_if_le C.1.1 C.1.2.1 hd ht (fun h => ?_) (fun h => ?_)
  · have h9 : ¬ 0 < x := Int32.not_lt.mpr h
    rw [if_neg h9] at hf
    exact kt h9 r σ' hf H locs ls hW hS hl
  · have h9 : 0 < x := Int32.not_le.mp h
    rw [if_pos h9] at hf
    exact kf h9 r σ' hf H locs ls hW hS hl
theorem zz_icmp_eq (C : zzCx p m meth c s args cc nL ws own ret Z) {x y : Int32} {off : Int} {tgt : Nat} (hd : decode cc pc = .ok (.if_icmp .eq off, 3)) (ht : (pc : Int) + off = (tgt : Int))
    (kt : x = y → zzGO p l e R s m args below meth c nL A Wd Wf rel mc ms (f1) σ cells slots (tgt) (loc) (st)) (kf : ¬ x = y → zzGO p l e R s m args below meth c nL A Wd Wf rel mc ms (f2) σ cells slots (pc + 3) (loc) (st)) : zzGO p l e R s m args below meth c nL A Wd Wf rel mc ms (if x = y then f1 else f2) σ cells slots (pc) (loc) (.int y :: .int x :: st) := by
  intro r σ' hf H locs ls hW hS hl
  refine lv_icmp_eq C.1.1 C.1.2.1 hd ht (fun h => ?_) (fun h => ?_)
  · have h9 : x = y := h
    rw [if_pos h9] at hf
    exact kt h9 r σ' hf H locs ls hW hS hl
  · have h9 : ¬ x = y := h
    rw [if_neg h9] at hf
    exact kf h9 r σ' hf H locs ls hW hS hl
theorem zz_icmp_ne (C : zzCx p m meth c s args cc nL ws own ret Z) {x y : Int32} {off : Int} {tgt : Nat} (hd : decode cc pc = .ok (.if_icmp .ne off, 3)) (ht : (pc : Int) + off = (tgt : Int))
    (kt : ¬ x = y → zzGO p l e R s m args below meth c nL A Wd Wf rel mc ms (f1) σ cells slots (tgt) (loc) (st)) (kf : x = y → zzGO p l e R s m args below meth c nL A Wd Wf rel mc ms (f2) σ cells slots (pc + 3) (loc) (st)) : zzGO p l e R s m args below meth c nL A Wd Wf rel mc ms (if x = y then f2 else f1) σ cells slots (pc) (loc) (.int y :: .int x :: st) := by
  intro r σ' hf H locs ls hW hS hl
  refine lv_icmp_ne C.1.1 C.1.2.1 hd ht (fun h => ?_) (fun h => ?_)
  · have h9 : ¬ x = y := h
    rw [if_neg h9] at hf
    exact kt h9 r σ' hf H locs ls hW hS hl
  · have h9 : x = y := h
    rw [if_pos h9] at hf
    exact kf h9 r σ' hf H locs ls hW hS hl
theorem zz_icmp_lt (C : zzCx p m meth c s args cc nL ws own ret Z) {x y : Int32} {off : Int} {tgt : Nat} (hd : decode cc pc = .ok (.if_icmp .lt off, 3)) (ht : (pc : Int) + off = (tgt : Int))
    (kt : x < y → zzGO p l e R s m args below meth c nL A Wd Wf rel mc ms (f1) σ cells slots (tgt) (loc) (st)) (kf : ¬ x < y → zzGO p l e R s m args below meth c nL A Wd Wf rel mc ms (f2) σ cells slots (pc + 3) (loc) (st)) : zzGO p l e R s m args below meth c nL A Wd Wf rel mc ms (if x < y then f1 else f2) σ cells slots (pc) (loc) (.int y :: .int x :: st) := by
  intro r σ' hf H locs ls hW hS hl
  refine lv_icmp_lt C.1.1 C.1.2.1 hd ht (fun h => ?_) (fun h => ?_)
  · have h9 : x < y := h
    rw [if_pos h9] at hf
    exact kt h9 r σ' hf H locs ls hW hS hl
  · have h9 : ¬ x < y := h
    rw [if_neg h9] at hf
    exact kf h9 r σ' hf H locs ls hW hS hl
theorem zz_icmp_ge (C : zzCx p m meth c s args cc nL ws own ret Z) {x y : Int32} {off : Int} {tgt : Nat} (hd : decode cc pc = .ok (.if_icmp .ge off, 3)) (ht : (pc : Int) + off = (tgt : Int))
    (kt : ¬ x < y → zzGO p l e R s m args below meth c nL A Wd Wf rel mc ms (f1) σ cells slots (tgt) (loc) (st)) (kf : x < y → zzGO p l e R s m args below meth c nL A Wd Wf rel mc ms (f2) σ cells slots (pc + 3) (loc) (st)) : zzGO p l e R s m args below meth c nL A Wd Wf rel mc ms (if x < y then f2 else f1) σ cells slots (pc) (loc) (.int y :: .int x :: st) := by
  intro r σ' hf H locs ls hW hS hl
  refine lv_icmp_ge C.1.1 C.1.2.1 hd ht (fun h => ?_) (fun h => ?_)
  · have h9 : ¬ x < y := Int32.not_lt.mpr h
    rw [if_neg h9] at hf
    exact kt h9 r σ' hf H locs ls hW hS hl
  · have h9 : x < y := Int32.not_le.mp h
    rw [if_pos h9] at hf
    exact kf h9 r σ' hf H locs ls hW hS hl
theorem zz_icmp_gt (C : zzCx p m meth c s args cc nL ws own ret Z) {x y : Int32} {off : Int} {tgt : Nat} (hd : decode cc pc = .ok (.if_icmp .gt off, 3)) (ht : (pc : Int) + off = (tgt : Int))
    (kt : y < x → zzGO p l e R s m args below meth c nL A Wd Wf rel mc ms (f1) σ cells slots (tgt) (loc) (st)) (kf : ¬ y < x → zzGO p l e R s m args below meth c nL A Wd Wf rel mc ms (f2) σ cells slots (pc + 3) (loc) (st)) : zzGO p l e R s m args below meth c nL A Wd Wf rel mc ms (if y < x then f1 else f2) σ cells slots (pc) (loc) (.int y :: .int x :: st) := by
  intro r σ' hf H locs ls hW hS hl
  refine lv_icmp_gt C.1.1 C.1.2.1 hd ht (fun h => ?_) (fun h => ?_)
  · have h9 : y < x := h
    rw [if_pos h9] at hf
    exact kt h9 r σ' hf H locs ls hW hS hl
  · have h9 : ¬ y < x := h
    rw [if_neg h9] at hf
    exact kf h9 r σ' hf H locs ls hW hS hl
theorem zz_icmp_le (C : zzCx p m meth c s args cc nL ws own ret Z) {x y : Int32} {off : Int} {tgt : Nat} (hd : decode cc pc = .ok (.if_icmp .le off, 3)) (ht : (pc : Int) + off = (tgt : Int))
    (kt : ¬ y < x → zzGO p l e R s m args below meth c nL A Wd Wf rel mc ms (f1) σ cells slots (tgt) (loc) (st)) (kf : y < x → zzGO p l e R s m args below meth c nL A Wd Wf rel mc ms (f2) σ cells slots (pc + 3) (loc) (st)) : zzGO p l e R s m args below meth c nL A Wd Wf rel mc ms (if y < x then f2 else f1) σ cells slots (pc) (loc) (.int y :: .int x :: st) := by
  intro r σ' hf H locs ls hW hS hl
  refine lv_icmp_le C.1.1 C.1.2.1 hd ht (fun h => ?_) (fun h => ?_)
  · have h9 : ¬ y < x := Int32.not_lt.mpr h
    rw [if_neg h9] at hf
    exact kt h9 r σ' hf H locs ls hW hS hl
  · have h9 : y < x := Int32.not_le.mp h
    rw [if_pos h9] at hf
    exact kf h9 r σ' hf H locs ls hW hS hl
theorem zz_ite {c0 : Prop} [Decidable c0] (kt : c0 → zzGO p l e R s m args below meth c nL A Wd Wf rel mc ms (f1) σ cells slots (pc) (loc) (st)) (kf : ¬ c0 → zzGO p l e R s m args below meth c nL A Wd Wf rel mc ms (f2) σ cells slots (pc) (loc) (st)) : zzGO p l e R s m args below meth c nL A Wd Wf rel mc ms (if c0 then f1 else f2) σ cells slots (pc) (loc) (st) := by
  by_cases h : c0
  · rw [if_pos h]; exact kt h
  · rw [if_neg h]; exact kf h
theorem zz_tblIn (C : zzCx p m meth c s args cc nL ws own ret Z) {dflt lo hi : Int} {offs : Array Int} {len : Nat} {x : Int32} {off : Int} {tgt : Nat} (hd : decode cc pc = .ok (.tableswitch dflt lo hi offs, len)) (h1 : ¬ x.toInt < lo) (h2 : ¬ hi < x.toInt) (ho : offs[(x.toInt - lo).toNat]? = some off) (ht : (pc : Int) + off = (tgt : Int))
    (kk : zzGO p l e R s m args below meth c nL A Wd Wf rel mc ms (f) σ cells slots (tgt) (loc) (st)) : zzGO p l e R s m args below meth c nL A Wd Wf rel mc ms (f) σ cells slots (pc) (loc) (.int x :: st) := by
  intro r σ' hf H locs ls hW hS hl
  exact lv_tableIn C.1.1 C.1.2.1 hd h1 h2 ho ht (kk r σ' hf H locs ls hW hS hl)
theorem zz_tblOut (C : zzCx p m meth c s args cc nL ws own ret Z) {dflt lo hi : Int} {offs : Array Int} {len : Nat} {x : Int32} {tgt : Nat} (hd : decode cc pc = .ok (.tableswitch dflt lo hi offs, len)) (h : x.toInt < lo ∨ hi < x.toInt) (ht : (pc : Int) + dflt = (tgt : Int))
    (kk : zzGO p l e R s m args below meth c nL A Wd Wf rel mc ms (f) σ cells slots (tgt) (loc) (st)) : zzGO p l e R s m args below meth c nL A Wd Wf rel mc ms (f) σ cells slots (pc) (loc) (.int x :: st) := by
  intro r σ' hf H locs ls hW hS hl
  exact lv_tableOut C.1.1 C.1.2.1 hd h ht (kk r σ' hf H locs ls hW hS hl)
theorem zz_ifnullQ (C : zzCx p m meth c s args cc nL ws own ret Z) {x : Option Nat} {off : Int} {tgt : Nat} {fS : Nat → Option (α × S)} (hd : decode cc pc = .ok (.ifnull off, 3)) (ht : (pc : Int) + off = (tgt : Int))
    (kN : x = none → zzGO p l e R s m args below meth c nL A Wd Wf rel mc ms (f1) σ cells slots (tgt) (loc) (st)) (kS : ∀ j, x = some j → zzGO p l e R s m args below meth c nL A Wd Wf rel mc ms (fS j) σ cells slots (pc + 3) (loc) (st)) : zzGO p l e R s m args below meth c nL A Wd Wf rel mc ms (zzon x f1 fS) σ cells slots (pc) (loc) (va_rf (x.map (zzad Z)) :: st) := by
  intro r σ' hf H locs ls hW hS hl
  cases x with
  | none => exact lv_ifnullN C.1.1 C.1.2.1 hd ht (kN rfl r σ' hf H locs ls hW hS hl)
  | some j => exact lv_ifnull C.1.1 C.1.2.1 hd  (kS j rfl r σ' hf H locs ls hW hS hl)
theorem zz_ifnullP (C : zzCx p m meth c s args cc nL ws own ret Z) {PL : Nat → Option (Nat × Int32)} {x : Option (Nat × Int32)} {c0 : Option Nat} {off : Int} {tgt : Nat} {fS : Nat × Int32 → Option (α × S)} (hp : zzpr PL x c0) (hd : decode cc pc = .ok (.ifnull off, 3)) (ht : (pc : Int) + off = (tgt : Int))
    (kN : x = none → c0 = none → zzGO p l e R s m args below meth c nL A Wd Wf rel mc ms (f1) σ cells slots (tgt) (loc) (st)) (kS : ∀ kf q, x = some kf → c0 = some q → PL q = some kf → zzGO p l e R s m args below meth c nL A Wd Wf rel mc ms (fS kf) σ cells slots (pc + 3) (loc) (st)) : zzGO p l e R s m args below meth c nL A Wd Wf rel mc ms (zzon x f1 fS) σ cells slots (pc) (loc) (va_rf c0 :: st) := by
  intro r σ' hf H locs ls hW hS hl
  cases x with
  | none =>
    have hp : c0 = none := hp
    subst hp
    exact lv_ifnullN C.1.1 C.1.2.1 hd ht (kN rfl rfl r σ' hf H locs ls hW hS hl)
  | some kf =>
    obtain ⟨q, rfl, hq⟩ := hp
    exact lv_ifnull C.1.1 C.1.2.1 hd  (kS kf q rfl rfl hq r σ' hf H locs ls hW hS hl)
theorem zz_ifnonnullQ (C : zzCx p m meth c s args cc nL ws own ret Z) {x : Option Nat} {off : Int} {tgt : Nat} {fS : Nat → Option (α × S)} (hd : decode cc pc = .ok (.ifnonnull off, 3)) (ht : (pc : Int) + off = (tgt : Int))
    (kN : x = none → zzGO p l e R s m args below meth c nL A Wd Wf rel mc ms (f1) σ cells slots (pc + 3) (loc) (st)) (kS : ∀ j, x = some j → zzGO p l e R s m args below meth c nL A Wd Wf rel mc ms (fS j) σ cells slots (tgt) (loc) (st)) : zzGO p l e R s m args below meth c nL A Wd Wf rel mc ms (zzon x f1 fS) σ cells slots (pc) (loc) (va_rf (x.map (zzad Z)) :: st) := by
  intro r σ' hf H locs ls hW hS hl
  cases x with
  | none => exact lv_ifnonnullN C.1.1 C.1.2.1 hd  (kN rfl r σ' hf H locs ls hW hS hl)
  | some j => exact lv_ifnonnull C.1.1 C.1.2.1 hd ht (kS j rfl r σ' hf H locs ls hW hS hl)
theorem zz_ifnonnullP (C : zzCx p m meth c s args cc nL ws own ret Z) {PL : Nat → Option (Nat × Int32)} {x : Option (Nat × Int32)} {c0 : Option Nat} {off : Int} {tgt : Nat} {fS : Nat × Int32 → Option (α × S)} (hp : zzpr PL x c0) (hd : decode cc pc = .ok (.ifnonnull off, 3)) (ht : (pc : Int) + off = (tgt : Int))
    (kN : x = none → c0 = none → zzGO p l e R s m args below meth c nL A Wd Wf rel mc ms (f1) σ cells slots (pc + 3) (loc) (st)) (kS : ∀ kf q, x = some kf → c0 = some q → PL q = some kf → zzGO p l e R s m args below meth c nL A Wd Wf rel mc ms (fS kf) σ cells slots (tgt) (loc) (st)) : zzGO p l e R s m args below meth c nL A Wd Wf rel mc ms (zzon x f1 fS) σ cells slots (pc) (loc) (va_rf c0 :: st) := by
  intro r σ' hf H locs ls hW hS hl
  cases x with
  | none =>
    have hp : c0 = none := hp
    subst hp
    exact lv_ifnonnullN C.1.1 C.1.2.1 hd  (kN rfl rfl r σ' hf H locs ls hW hS hl)
  | some kf =>
    obtain ⟨q, rfl, hq⟩ := hp
    exact lv_ifnonnull C.1.1 C.1.2.1 hd ht (kS kf q rfl rfl hq r σ' hf H locs ls hW hS hl)
theorem zz_nnP {PL : Nat → Option (Nat × Int32)} {x : Option (Nat × Int32)} {c0 : Option Nat} {fS : Nat × Int32 → Option (α × S)} (hp : zzpr PL x c0)
    (kS : ∀ kf q, x = some kf → c0 = some q → PL q = some kf → zzGO p l e R s m args below meth c nL A Wd Wf rel mc ms (fS kf) σ cells slots (pc) (loc) (st)) : zzGO p l e R s m args below meth c nL A Wd Wf rel mc ms (zzon x none fS) σ cells slots (pc) (loc) (st) := by
  cases x with
  | none => exact fun r σ' hf => by cases hf
  | some kf =>
    obtain ⟨q, rfl, hq⟩ := hp
    exact kS kf q rfl rfl hq
end ZZ
