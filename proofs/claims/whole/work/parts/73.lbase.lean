/-! ===== the law: what its cases stand on ===== -/
abbrev zlLoc (Z : zzG) (b t : Nat) : List (Nat × Value) := [(0, .ref b), (1, .ref (zzad Z 0)), (2, .ref (zzad Z 36)), (3, .ref (zzad Z 55)), (4, .int (nI (6 * t)))]
theorem zl_c1 {t a : Nat} (ht : t ≤ 511) (h : a ≤ 200) : 64 + 200 * t + a ≤ room_1.cells := by
  show 64 + 200 * t + a ≤ 601024
  omega
theorem zl_s1 {t a : Nat} (ht : t ≤ 511) (h : a ≤ 200) : 6000 + 200 * t + a ≤ room_1.slots := by
  show 6000 + 200 * t + a ≤ 7293034
  omega
theorem zl_c2 {t a b : Nat} (ht : t ≤ 511) (h : a + b ≤ 200) : 64 + 200 * t + a + b ≤ room_1.cells := by
  show 64 + 200 * t + a + b ≤ 601024
  omega
theorem zl_s2 {t a b : Nat} (ht : t ≤ 511) (h : a + b ≤ 200) : 6000 + 200 * t + a + b ≤ room_1.slots := by
  show 6000 + 200 * t + a + b ≤ 7293034
  omega
theorem zl_c3 {t a b c : Nat} (ht : t ≤ 511) (h : a + b + c ≤ 200) : 64 + 200 * t + a + b + c ≤ room_1.cells := by
  show 64 + 200 * t + a + b + c ≤ 601024
  omega
theorem zl_s3 {t a b c : Nat} (ht : t ≤ 511) (h : a + b + c ≤ 200) : 6000 + 200 * t + a + b + c ≤ room_1.slots := by
  show 6000 + 200 * t + a + b + c ≤ 7293034
  omega
/-- what holds at the law's places -/
abbrev zlC (p : Program) (l : Launch) (e : Env) (s : State) (m : MethodId) (b : Nat) (below : List Frame) (meth : Method) (c : Code) (Z : zzG) (L : Nat) (xs : Nat → Int32) : Prop := zzCx p m meth c s #[Value.ref b] cL_law 8 wsL_law RL (some .boolean) Z ∧ zxT s ∧ zxZ (zzA s.heap.size) s s.heap ∧ va_X b L xs s s.heap ∧ b < s.heap.size ∧ l.stackTraces = false ∧ L ≤ 3072
/-- a case is done -/
def zlT (p : Program) (l : Launch) (e : Env) (s : State) (m : MethodId) (b : Nat) (below : List Frame) (meth : Method) (c : Code) (Z : zzG) (t : Nat) : Prop :=
  ∀ (x mm : zzS) (PL : Nat → Option (Nat × Int32)) (H : Heap) (locs : List Loc) (ls : Array Slot) (ca sa : Nat), zRel x mm → zzH Z s.heap.size PL x mm H → va_S (zzA s.heap.size) s.heap H locs → lv_has ls 8 (zlLoc Z b t) → ca ≤ 64 + 200 * t + 200 → sa ≤ 6000 + 200 * t + 200 → W p l e room_1 s m #[Value.ref b] below meth c H locs ca sa (lw_Z below #[Value.ref b] s) (F0 m 1602 ls [])
section LA
variable {p : Program} {l : Launch} {e : Env} {s : State} {m : MethodId} {b : Nat} {below : List Frame} {meth : Method} {c : Code} {Z : zzG} {L t : Nat} {xs : Nat → Int32} {H : Heap} {locs : List Loc} {ca sa pc : Nat} {Q : State → Prop} {ls : Array Slot} {rest : List Value}
/-- a number of the script -/
theorem zl_arg (K : zlC p l e s m b below meth c Z L xs) (hL : 6 * t + 6 ≤ L) (hS : va_S (zzA s.heap.size) s.heap H locs) (hl : lv_has ls 8 (zlLoc Z b t)) (j : Nat) (hj : j < 6) {jn : Int} (hjn : Int32.ofInt jn = nI j) (d0 : decode cL_law pc = .ok (.aload_n 0, 1)) (d1 : decode cL_law (pc + 1) = .ok (.iload 4, 2)) (d2 : decode cL_law (pc + 1 + 2) = .ok (.iconst jn, 1)) (d3 : decode cL_law (pc + 1 + 2 + 1) = .ok (.iadd, 1)) (d4 : decode cL_law (pc + 1 + 2 + 1 + 1) = .ok (.iaload, 1))
    (kk : W p l e room_1 s m #[Value.ref b] below meth c H locs ca sa Q (F0 m (pc + 6) ls (.int (xs (6 * t + j)) :: rest))) : W p l e room_1 s m #[Value.ref b] below meth c H locs ca sa Q (F0 m pc ls rest) := by
  have C := K.1
  have L2 := K.2.2.2.2.2.2
  refine lv_aload_n C.1.1 C.1.2.1 d0 rfl (lv_at hl 0 rfl) ?_
  refine lv_iload C.1.1 C.1.2.1 d1 (lv_at hl 4 rfl) ?_
  refine lv_iconst (v := nI j) C.1.1 C.1.2.1 d2 hjn ?_
  refine lv_iadd C.1.1 C.1.2.1 d3 ?_
  have e1 : nI (6 * t) + nI j = nI (6 * t + j) := nI_add _ _
  have e2 : (nI (6 * t + j)).toNatClampNeg = 6 * t + j := nI_clamp (by omega)
  rw [e1]
  refine va_sld C.1.1 C.1.2.1 K.2.2.2.1 K.2.2.2.2.1 (Nat.not_le.mpr K.2.2.2.2.1) hS (vp_in_nI (by omega) (by omega)) d4 ?_
  rw [e2]
  exact kk
theorem zl_cmp0 (r : Int64) : lg_cmp r r = 0 := by
  unfold lg_cmp
  rw [if_neg (by simp [Int64.lt_irrefl]), if_pos rfl]
/-- a call that doesn't throw, though its contract could tell -/
theorem zl_run0 {mc ms : Nat} {g : JFrame} {Qa : State → Outcome → State → Prop} {free : Addr → Prop} (h : vx_Run p l e room_1 s m #[Value.ref b] below meth c H locs ca sa mc ms g rest Qa (fun _ _ _ => False) free) : va_Run p l e room_1 s m #[Value.ref b] below meth c H locs ca sa mc ms g rest Qa free := fun T hT X => by
  rcases h T hT X with h | ⟨q, st₀, t, T', L, E1, ce, h1, h2, h3, h4, h5, h6, h7⟩
  · exact h
  · exact False.elim h6
end LA
theorem zl_copy {x mm : zzS} (h : zRel x mm) : ∀ d j, d < 8 → zzq x d = some j → ∃ n, n ≤ 100 ∧ zzi x j 2 = nI n := by
  intro d j hd hq
  rcases h.2.1 d hd with ⟨-, -, h3⟩ | ⟨-, h2, -⟩ | ⟨-, -, h3, s, n, -, h5, -, -, -, h9, -⟩
  · rw [h3] at hq; cases hq
  · rw [h2] at hq; cases hq
  · rw [h3] at hq
    cases hq
    exact ⟨n, h5, h9⟩
theorem zRel_55 {x mm : zzS} {v : Int64} (h : zRel x mm) : zRel x (zzsl mm 55 0 v) := by
  obtain ⟨⟨T, h1, h2⟩, h3, h4⟩ := h
  have hm : zPM mm (zzsl mm 55 0 v) := ⟨rfl, fun _ _ _ => rfl, fun f => by rw [zzsl_ne (by decide)]⟩
  exact ⟨⟨T, h1, h2⟩, zSh_p h3 (zPX_refl x) hm, zIm_p h4 (zPX_refl x) hm⟩
