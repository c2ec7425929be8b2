/-! the states after the constructors belong together -/
theorem sI0_cst : sI_0 = cst (fun _ _ => 0) := by
  funext k j
  rfl
theorem Rel_init : RelC sI_R sI_0 sI_0 sI_0 sI_0 sI_0 sI_0 sI_0 sI_0 sI_M := by
  have hv : HV (fun _ _ => 0) := ⟨Nat.zero_le _, Nat.zero_le _, Nat.zero_le _, fun _ _ => Nat.zero_le _, fun g hg => absurd hg (Nat.not_lt_zero g), fun g hg => absurd hg (Nat.not_lt_zero g), fun g hg => absurd hg (Nat.not_lt_zero g), Nat.pow_pos (by decide)⟩
  have hr : RR (fun _ _ => 0) (fun _ => 0) := ⟨rfl, rfl, rfl, fun _ _ => rfl, fun g hg => absurd hg (Nat.not_lt_zero g), fun g hg => absurd hg (Nat.not_lt_zero g), fun g hg => absurd hg (Nat.not_lt_zero g)⟩
  refine ⟨fun _ _ => 0, fun _ _ => 0, fun _ _ => 0, fun _ _ => 0, sI0_cst, sI0_cst, sI0_cst, sI0_cst, ⟨hv, fun _ => 0, hr, fun _ => rfl⟩, ?_, ?_, ?_, ?_, ?_, ?_⟩
  · intro k hk
    refine ⟨rfl, rfl, Or.inl ?_, 0, by decide, rfl, fun i hi => absurd hi (Nat.not_lt_zero i)⟩
    have key : ∀ k : Fin 8, sI_R 0 k.val = -1 := by decide +kernel
    exact key ⟨k, hk⟩
  · exact ⟨0, fun _ => 0, by decide, rfl, rfl, fun _ => show 0 < 256 by decide, fun i hi => absurd hi (Nat.not_lt_zero i)⟩
  · exact ⟨0, 0, fun _ _ _ => 0, fun _ _ => 0, fun _ => (0, 0, 0), by decide, by decide, rfl, rfl, rfl, rfl, fun _ _ _ => rfl, fun k hk => absurd hk (Nat.not_lt_zero k)⟩
  · exact ⟨false, false, rfl, rfl, rfl, fun h => absurd h (by decide), fun h => absurd h (by decide)⟩
  · exact ⟨0, by decide, rfl, rfl, fun i hi => absurd hi (Nat.not_lt_zero i)⟩
  · exact ⟨rfl, Or.inl rfl, rfl, rfl⟩
