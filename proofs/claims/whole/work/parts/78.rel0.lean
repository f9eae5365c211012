/-! ===== the start: the first states, and how they lie ===== -/
def zS0 : zzS := (fun _ _ => 0, fun _ _ => 0, fun _ _ => 0, fun _ _ => none, fun _ => none)
def zT0 : zT := (0, 0, 0, fun _ => 0, fun _ => 0, fun _ => 0, fun _ => 0)
theorem zV0 : zV zT0 := ⟨Nat.zero_le _, Nat.zero_le _, Nat.zero_le _, fun p h => absurd h (Nat.not_lt_zero _), fun _ _ => Nat.zero_le _, fun _ _ => Nat.zero_le _, fun _ _ _ => rfl, fun _ _ _ _ _ => rfl⟩
theorem zRel0 : zRel zS0 zS0 := ⟨⟨zT0, ⟨zV0, rfl, rfl, rfl, fun p h => absurd h (Nat.not_lt_zero _), fun _ _ => rfl, fun _ _ => rfl⟩, ⟨zV0, rfl, rfl, rfl, fun p h => absurd h (Nat.not_lt_zero _), fun _ _ => rfl, fun _ _ => rfl⟩⟩, fun d _ => Or.inl ⟨rfl, rfl, rfl⟩, Or.inl ⟨rfl, rfl⟩⟩
