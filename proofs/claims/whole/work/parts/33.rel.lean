/-! the start -/
theorem rel_0 : Rel 0 MK0 MM0 := by
  refine ⟨0, fun _ => 0, fun _ _ => none, fun _ => none, ?_, ?_, ?_, ?_, ?_, ?_, ?_, ?_, ?_, ?_⟩
  · exact ⟨by omega, fun i hi => by omega, fun i s j hi => by omega, fun k j h => absurd h (by simp), fun i hi => by omega, fun i hi => by omega, fun i hi => by omega⟩
  · exact ⟨0, by omega, rfl, rfl, fun k hk => by omega⟩
  · refine ⟨rfl, rfl, fun i hi => by omega, fun i hi => by omega, fun i s j hi => by omega, fun k hk => ?_⟩
    have : ∀ k : Nat, k < 8 → MK0.1 7 k = -6 := by decide +kernel
    exact this k hk
  · refine ⟨rfl, fun i hi => by omega, fun i s hi => by omega, fun k hk => ?_⟩
    have : ∀ k : Nat, k < 8 → MM0.1 4 k = -6 := by decide
    exact this k hk
  · exact ⟨0, by omega, rfl, fun i s j hi => by omega, fun i k hi => by omega⟩
  · exact Or.inl rfl
  · exact ⟨0, by omega, rfl, fun i hi => ⟨0, by omega, rfl⟩⟩
  · exact ⟨0, by omega, rfl, fun i s j hi => by omega, fun i s hi => by omega⟩
  · exact ⟨0, fun _ => 0, by omega, rfl, fun i s j hi => by omega, fun i hi => by omega, fun i hi => by omega⟩
  · rfl
