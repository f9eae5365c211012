/-! ===== the state of the two sides as numbers, and the cells that hold it ===== -/
abbrev zzS : Type := (Nat → Nat → Int32) × (Nat → Nat → Int32) × (Nat → Nat → Int64) × (Nat → Nat → Option (Nat × Int32)) × (Nat → Option Nat)
/-- an int field f of the cell k; place j of the int array, the long array, the array of persons at the cell k; the j-th told cell -/
def zzi (x : zzS) (k f : Nat) : Int32 := x.1 k f
def zza (x : zzS) (k j : Nat) : Int32 := x.2.1 k j
def zzl (x : zzS) (k j : Nat) : Int64 := x.2.2.1 k j
def zzr (x : zzS) (k j : Nat) : Option (Nat × Int32) := x.2.2.2.1 k j
def zzq (x : zzS) (j : Nat) : Option Nat := x.2.2.2.2 j
def zzu {α : Type} (f : Nat → Nat → α) (k j : Nat) (v : α) : Nat → Nat → α := fun k' j' => if k' = k ∧ j' = j then v else f k' j'
def zzsi (x : zzS) (k f : Nat) (v : Int32) : zzS := (zzu x.1 k f v, x.2)
def zzsa (x : zzS) (k j : Nat) (v : Int32) : zzS := (x.1, zzu x.2.1 k j v, x.2.2)
def zzsl (x : zzS) (k j : Nat) (v : Int64) : zzS := (x.1, x.2.1, zzu x.2.2.1 k j v, x.2.2.2)
def zzsr (x : zzS) (k j : Nat) (v : Option (Nat × Int32)) : zzS := (x.1, x.2.1, x.2.2.1, zzu x.2.2.2.1 k j v, x.2.2.2.2)
def zzsq (x : zzS) (j : Nat) (v : Option Nat) : zzS := (x.1, x.2.1, x.2.2.1, x.2.2.2.1, va_up x.2.2.2.2 j v)
/-- lengths of the int arrays, by their cells; 0: none there -/
def zzlen (k : Nat) : Nat := match k with
  | 5 => 100 | 7 => 100 | 9 => 100 | 11 => 100 | 13 => 100 | 15 => 100 | 17 => 100 | 19 => 100
  | 22 => 7 | 26 => 7 | 30 => 7 | 23 => 49 | 27 => 49 | 31 => 49
  | 33 => 7 | 34 => 1024 | 35 => 128
  | 37 => 7 | 38 => 7 | 39 => 7 | 40 => 49 | 41 => 8 | 42 => 8 | 43 => 8 | 44 => 8 | 45 => 8
  | 46 => 51 | 47 => 51 | 48 => 153 | 49 => 73 | 50 => 73 | 51 => 1024 | 52 => 1024
  | _ => 0
/-- the int arrays of the class's side, of the reference's side; towns; rows -/
abbrev zzXarr (k : Nat) : Prop := k < 36 ∧ 0 < zzlen k
abbrev zzMarr (k : Nat) : Prop := 36 ≤ k ∧ 0 < zzlen k
abbrev zztown (t : Nat) : Prop := t = 20 ∨ t = 24 ∨ t = 28
abbrev zzrow (r : Nat) : Prop := r = 4 ∨ r = 6 ∨ r = 8 ∨ r = 10 ∨ r = 12 ∨ r = 14 ∨ r = 16 ∨ r = 18
/-! what the translated methods are made of -/
def zzgd {α : Type} (c : Prop) [Decidable c] (x : Option α) : Option α := if c then x else none
def zzbd {α β S : Type} (x : Option (α × S)) (k : α → S → Option β) : Option β := match x with
  | none => none
  | some (r, s) => k r s
def zzlt {α β : Type} (a : α) (k : α → β) : β := k a
def zzon {α β : Type} (r : Option α) (a : β) (b : α → β) : β := match r with
  | none => a
  | some j => b j
theorem zzgd_some {α : Type} {c : Prop} [Decidable c] {x : Option α} {o : α} (h : zzgd c x = some o) : c ∧ x = some o := by
  unfold zzgd at h
  split at h
  next hc => exact ⟨hc, h⟩
  next => cases h
theorem zzgd_t {α : Type} {c : Prop} [Decidable c] {x : Option α} (h : c) : zzgd c x = x := if_pos h
theorem zzbd_some {α β S : Type} {x : Option (α × S)} {k : α → S → Option β} {o : β} (h : zzbd x k = some o) : ∃ r s, x = some (r, s) ∧ k r s = some o := by
  unfold zzbd at h
  split at h
  next => cases h
  next r s => exact ⟨r, s, rfl, h⟩
theorem zzbd_s {α β S : Type} {r : α} {s : S} {k : α → S → Option β} : zzbd (some (r, s)) k = k r s := rfl
theorem zzlt_eq {α β : Type} (a : α) (k : α → β) : zzlt a k = k a := rfl
theorem zzon_n {α β : Type} {a : β} {b : α → β} : zzon (none : Option α) a b = a := rfl
theorem zzon_s {α β : Type} {j : α} {a : β} {b : α → β} : zzon (some j) a b = b j := rfl
/-- which class of the kit's list a kind of person is -/
def zzpci (k : Nat) : Nat := match k with
  | 1 => 9 | 2 => 0 | 3 => 1 | 4 => 4 | 5 => 5 | 6 => 3 | 7 => 8 | _ => 6
/-- what the kinds' methods answer, the figure by its number -/
def zzgrows (kf : Nat × Int32) : Int32 := match kf.1 with
  | 1 => 2 - 1 | 2 => 2 + kf.2 / 3 | 3 => 0 | 4 => kf.2 / 2 | 5 => (2 - 1) + kf.2 / 4 | 6 => (2 + kf.2 / 3) / 2 | 7 => 3 * (2 - 1) | _ => 2
def zzbears (kf : Nat × Int32) : Int32 := match kf.1 with
  | 1 => 0 + 1 | 3 => (0 + 1) + 8 | 4 => -1 | 5 => (0 + 1) + 1 | 7 => (0 + 1) + 2 | _ => 0
def zzturns (kf : Nat × Int32) : Int32 := match kf.1 with
  | 2 => 1 + 1 | 3 => 1 + 2 | 5 => 1 | 6 => (1 + 1) + kf.2 / 3 | 7 => 3 | _ => 1
def zzshows (kf : Nat × Int32) (f : Int32) : Int32 := match kf.1 with
  | 2 => f | 6 => f / 2 | _ => 0
def zzprice (kf : Nat × Int32) : Int32 := match kf.1 with
  | 1 => 4 - 1 | 2 => 4 + kf.2 | 3 => (4 - 1) / 2 | 4 => 4 + 8 | 5 => (4 - 1) + kf.2 | 6 => 2 * (4 + kf.2) | 7 => (4 - 1) + 2 | _ => 4
def zznumber (kf : Nat × Int32) : Int32 := Int32.ofNat kf.1
/-- Integer.bitCount, as its bytecode goes -/
def zzbc1 (i : Int32) : Int32 := i - ((i.toUInt32 >>> ((1 : Int32).toUInt32 &&& Int32.toUInt32 31)).toInt32 &&& 1431655765)
def zzbc2 (i : Int32) : Int32 := (i &&& 858993459) + ((i.toUInt32 >>> ((2 : Int32).toUInt32 &&& Int32.toUInt32 31)).toInt32 &&& 858993459)
def zzbc3 (i : Int32) : Int32 := (i + (i.toUInt32 >>> ((4 : Int32).toUInt32 &&& Int32.toUInt32 31)).toInt32) &&& 252645135
def zzbc4 (i : Int32) : Int32 := i + (i.toUInt32 >>> ((8 : Int32).toUInt32 &&& Int32.toUInt32 31)).toInt32
def zzbc5 (i : Int32) : Int32 := i + (i.toUInt32 >>> ((16 : Int32).toUInt32 &&& Int32.toUInt32 31)).toInt32
def zzbitCount (i : Int32) : Int32 := zzbc5 (zzbc4 (zzbc3 (zzbc2 (zzbc1 i)))) &&& 63
def zzmax (x y : Int32) : Int32 := if x < y then y else x
def zzmin (x y : Int32) : Int32 := if y < x then y else x
abbrev zzin (i : Int32) (n : Nat) : Prop := ¬ (i < 0 ∨ n ≤ i.toNatClampNeg)
def zzplen (k : Nat) : Nat := if k = 1 then 8 else 7
def zzrowo (x : Option Nat) : Bool := match x with
  | none => true
  | some j => decide (zzrow j)
