/-! ===== what the tables give at the law's entry ===== -/
section SE
variable {s : State} {args : Array Value}
theorem zs_i0 : Cond.instantiable RX0 1 ∈ lw_tbl := by decide +kernel
theorem zs_i1 : Cond.instantiable RX1 1 ∈ lw_tbl := by decide +kernel
theorem zs_i2 : Cond.instantiable RX2 4 ∈ lw_tbl := by decide +kernel
theorem zs_i3 : Cond.instantiable RX3 1 ∈ lw_tbl := by decide +kernel
theorem zs_i4 : Cond.instantiable RX4 1 ∈ lw_tbl := by decide +kernel
theorem zs_i5 : Cond.instantiable RX5 1 ∈ lw_tbl := by decide +kernel
theorem zs_i6 : Cond.instantiable RX6 1 ∈ lw_tbl := by decide +kernel
theorem zs_i7 : Cond.instantiable RX7 3 ∈ lw_tbl := by decide +kernel
theorem zs_i8 : Cond.instantiable RX8 1 ∈ lw_tbl := by decide +kernel
theorem zs_i9 : Cond.instantiable RX9 1 ∈ lw_tbl := by decide +kernel
theorem zs_i10 : Cond.instantiable RX10 7 ∈ lw_tbl := by decide +kernel
theorem zs_i11 : Cond.instantiable RX11 9 ∈ lw_tbl := by decide +kernel
theorem zs_i12 : Cond.instantiable RX12 31 ∈ lw_tbl := by decide +kernel
theorem zs_k13 {k : Nat} (h : k < 13) : k = 0 ∨ k = 1 ∨ k = 2 ∨ k = 3 ∨ k = 4 ∨ k = 5 ∨ k = 6 ∨ k = 7 ∨ k = 8 ∨ k = 9 ∨ k = 10 ∨ k = 11 ∨ k = 12 := by omega
theorem zs_kn (hts : ∀ w ∈ lw_tbl, w.before args s = true) (c : Nat) : ∃ p : ClassId × (Nat → Nat), ∀ q, vwCl[c]? = some q → u_Kn s q.1 q.2.1 q.2.2 p.1 p.2 := by
  by_cases h : c < 13
  · rcases zs_k13 h with rfl | rfl | rfl | rfl | rfl | rfl | rfl | rfl | rfl | rfl | rfl | rfl | rfl
    · obtain ⟨cC, iS, h1⟩ := u_known (C := RX0) (T := TX0) (N := 1) (n := 1) hts inX0 (hts _ zs_i0)
      exact ⟨(cC, iS), fun q hq => by cases hq; exact h1⟩
    · obtain ⟨cC, iS, h1⟩ := u_known (C := RX1) (T := TX1) (N := 1) (n := 1) hts inX1 (hts _ zs_i1)
      exact ⟨(cC, iS), fun q hq => by cases hq; exact h1⟩
    · obtain ⟨cC, iS, h1⟩ := u_known (C := RX2) (T := TX2) (N := 4) (n := 4) hts inX2 (hts _ zs_i2)
      exact ⟨(cC, iS), fun q hq => by cases hq; exact h1⟩
    · obtain ⟨cC, iS, h1⟩ := u_known (C := RX3) (T := TX3) (N := 1) (n := 1) hts inX3 (hts _ zs_i3)
      exact ⟨(cC, iS), fun q hq => by cases hq; exact h1⟩
    · obtain ⟨cC, iS, h1⟩ := u_known (C := RX4) (T := TX4) (N := 1) (n := 1) hts inX4 (hts _ zs_i4)
      exact ⟨(cC, iS), fun q hq => by cases hq; exact h1⟩
    · obtain ⟨cC, iS, h1⟩ := u_known (C := RX5) (T := TX5) (N := 1) (n := 1) hts inX5 (hts _ zs_i5)
      exact ⟨(cC, iS), fun q hq => by cases hq; exact h1⟩
    · obtain ⟨cC, iS, h1⟩ := u_known (C := RX6) (T := TX6) (N := 1) (n := 1) hts inX6 (hts _ zs_i6)
      exact ⟨(cC, iS), fun q hq => by cases hq; exact h1⟩
    · obtain ⟨cC, iS, h1⟩ := u_known (C := RX7) (T := TX7) (N := 3) (n := 3) hts inX7 (hts _ zs_i7)
      exact ⟨(cC, iS), fun q hq => by cases hq; exact h1⟩
    · obtain ⟨cC, iS, h1⟩ := u_known (C := RX8) (T := TX8) (N := 1) (n := 1) hts inX8 (hts _ zs_i8)
      exact ⟨(cC, iS), fun q hq => by cases hq; exact h1⟩
    · obtain ⟨cC, iS, h1⟩ := u_known (C := RX9) (T := TX9) (N := 1) (n := 1) hts inX9 (hts _ zs_i9)
      exact ⟨(cC, iS), fun q hq => by cases hq; exact h1⟩
    · obtain ⟨cC, iS, h1⟩ := u_known (C := RX10) (T := TX10) (N := 7) (n := 7) hts inX10 (hts _ zs_i10)
      exact ⟨(cC, iS), fun q hq => by cases hq; exact h1⟩
    · obtain ⟨cC, iS, h1⟩ := u_known (C := RX11) (T := TX11) (N := 9) (n := 9) hts inX11 (hts _ zs_i11)
      exact ⟨(cC, iS), fun q hq => by cases hq; exact h1⟩
    · obtain ⟨cC, iS, h1⟩ := u_known (C := RX12) (T := TX12) (N := 31) (n := 31) hts inX12 (hts _ zs_i12)
      exact ⟨(cC, iS), fun q hq => by cases hq; exact h1⟩
  · obtain ⟨cC, iS, h1⟩ := u_known (C := RX0) (T := TX0) (N := 1) (n := 1) hts inX0 (hts _ zs_i0)
    refine ⟨(cC, iS), fun q hq => ?_⟩
    have hl : vwCl.length ≤ c := Nat.not_lt.mp h
    rw [List.getElem?_eq_none hl] at hq
    cases hq
theorem zs_arrI : Cond.arrayClass .int ∈ lw_tbl := by decide +kernel
theorem zs_arrL : Cond.arrayClass .long ∈ lw_tbl := by decide +kernel
theorem zs_arrP : Cond.arrayOver (.object "DealtByOpposite$Person") ∈ lw_tbl := by decide +kernel
theorem zs_arrR : Cond.arrayOver (.object "DealtByOpposite$Row") ∈ lw_tbl := by decide +kernel
theorem zs_prim {ty : FieldType} (h : (Cond.arrayClass ty).before args s = true) : ∃ c, ArrOfT s c ty ∧ s.vm.findClass ("[" ++ ty.toString) = some c := by
  obtain ⟨c, k, comp, h1, h2, h3⟩ := Cond.arrayClass_spec (show (Cond.arrayClass ty).holds args s none s [] = true from h)
  exact ⟨c, fun n z => ⟨fun k h => (by cases h), k, h2, comp, h3⟩, h1⟩
theorem zs_over {C : String} (h : (Cond.arrayOver (.object C)).before args s = true) : ∃ c, ArrOfT s c (.object C) ∧ va_RA s c (.object C) := by
  obtain ⟨comp, c, k, h1, -, h3, h4, h5⟩ := Cond.arrayOver_spec (show (Cond.arrayOver (.object C)).holds args s none s [] = true from h)
  exact ⟨c, fun n z => ⟨fun k h => (by cases h), k, h3, comp, h4⟩, k, comp, h3, h4, h1, h5⟩
theorem zs_nest : ∀ w ∈ zzNest, w ∈ lw_tbl := by decide +kernel
theorem zs_nestOn : ∀ w ∈ zzNest, w.onTables = true := by decide
theorem zs_KK (hts : ∀ w ∈ lw_tbl, w.before args s = true) : ∃ (D : va_G) (cA : Nat → ClassId), ∀ (ad sp : Nat → Nat), zzKK (D, ad, sp, cA) s := by
  obtain ⟨f, hf⟩ := Classical.axiomOfChoice (zs_kn hts)
  obtain ⟨cI, i1, i2⟩ := zs_prim (hts _ zs_arrI)
  obtain ⟨cL, l1, l2⟩ := zs_prim (hts _ zs_arrL)
  obtain ⟨cP, p1, p2⟩ := zs_over (hts _ zs_arrP)
  obtain ⟨cR, r1, r2⟩ := zs_over (hts _ zs_arrR)
  refine ⟨(fun c => (f c).1, fun c => (f c).2), fun k => if k = 0 then cI else if k = 1 then cL else if k = 2 then cP else cR, fun ad sp => ⟨⟨fun c q hq => hf c q hq, fun k q hq => ?_⟩, fun w hw => va_Nw.of (zs_nestOn w hw) (hts w (zs_nest w hw))⟩⟩
  match k, hq with
  | 0, hq => cases hq; exact ⟨i1, i2⟩
  | 1, hq => cases hq; exact ⟨l1, l2⟩
  | 2, hq => cases hq; exact ⟨p1, p2⟩
  | 3, hq => cases hq; exact ⟨r1, r2⟩
  | k + 4, hq => simp at hq
theorem zs_X (hts : ∀ w ∈ lw_tbl, w.before args s = true) : zwX true s := fun _ => ⟨va_AO.of (hts _ zs_arrP), va_AO.of (hts _ zs_arrR)⟩
theorem zs_xW : ∀ w ∈ zxW, w ∈ lw_tbl := by decide +kernel
theorem zs_xWon : ∀ w ∈ zxW, w.onTables = true := by decide
abbrev zsGv : List Cond := flatC (Jvm.Cond.and given_1 narrow_1)
theorem zs_T (hts : ∀ w ∈ lw_tbl, w.before args s = true) (hgv : (Jvm.Cond.and given_1 narrow_1).before args s = true) : zxT s := by
  have hs := flat_of_before _ hgv
  refine ⟨fun w hw => va_Nw.of (zs_xWon w hw) (hts w (zs_xW w hw)), fun q hq => ?_, fun q hq => ?_⟩
  · simp only [zxN, List.mem_cons, List.not_mem_nil, or_false] at hq
    rcases hq with rfl | rfl | rfl <;> exact va_Nc.of (args := args) (hs _ (by decide +kernel))
  · have go : ∀ (own : String) (k : Nat) (tx : String), Cond.stringRef own k tx ∈ lw_tbl → Cond.exactly (.string own k) "java/lang/String" ∈ zsGv → ∃ a, vk_R own k tx a s := fun own k tx h1 h2 => by
      obtain ⟨a, c, cell, kk, e1, -⟩ := Cond.exactly_spec (show (Cond.exactly (.string own k) "java/lang/String").holds args s none s [] = true from hs _ h2)
      exact ⟨a, vk_R.of (hts _ h1) e1⟩
    simp only [zxS, List.mem_cons, List.not_mem_nil, or_false] at hq
    rcases hq with rfl | rfl | rfl | rfl | rfl
    · exact go RX0 25 _ (by decide +kernel) (by decide +kernel)
    · exact go RX3 25 _ (by decide +kernel) (by decide +kernel)
    · exact go RX6 15 _ (by decide +kernel) (by decide +kernel)
    · exact go RX11 267 _ (by decide +kernel) (by decide +kernel)
    · exact go RX11 276 _ (by decide +kernel) (by decide +kernel)
theorem zs_Z (hts : ∀ w ∈ lw_tbl, w.before args s = true) (hgv : (Jvm.Cond.and given_1 narrow_1).before args s = true) : zxZ (zzA s.heap.size) s s.heap := by
  have hs := flat_of_before _ hgv
  exact ⟨vx_Zqof (args := args) (hts _ (by decide +kernel)) (hts _ (by decide +kernel)) (hs _ (by decide +kernel)) (fun a ha => Nat.not_le.mpr ha), vx_Zqof (args := args) (hts _ (by decide +kernel)) (hts _ (by decide +kernel)) (hs _ (by decide +kernel)) (fun a ha => Nat.not_le.mpr ha)⟩
theorem zs_st {l : Launch} (h : l.flags = flags0) : l.stackTraces = false := by
  unfold Launch.stackTraces
  rw [h]
  decide
end SE
