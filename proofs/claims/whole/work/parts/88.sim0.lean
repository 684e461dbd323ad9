/-! at the start -/
theorem inv_0 : Inv (fun _ => 0) := by
  have e0 : nf (fun _ => 0) = 0 := rfl
  have e1 : nh (fun _ => 0) = 0 := rfl
  refine ⟨⟨⟨rfl, by rw [e0]; omega⟩, rfl, by rw [e1]; omega⟩, ⟨fun f hf => ?_, fun h hh => ?_⟩, ⟨fun a b ha => ?_, fun a b ha => ?_⟩, rfl⟩
  · rw [e0] at hf
    omega
  · rw [e1] at hh
    omega
  · rw [e1] at ha
    omega
  · rw [e1] at ha
    omega
theorem sim_0 : Sim M0 := by
  have z : Zr (fun _ => 0) := fun _ _ => rfl
  refine ⟨((fun _ => 0), 0, (fun _ => (fun _ => 0)), false, (fun _ => 0), 0, (fun _ => 0)), ⟨⟨inv_0, z⟩, ⟨by show 0 ≤ 4; omega, fun j hj => absurd hj (Nat.not_lt_zero _)⟩, fun h => (by cases h), by show 0 ≤ 60; omega, fun i hi => absurd hi (Nat.not_lt_zero _)⟩, ⟨⟨⟨rfl, rfl, rfl, rfl, rfl⟩, fun f hf => absurd hf (Nat.not_lt_zero _), fun h hh => absurd hh (Nat.not_lt_zero _)⟩, ⟨rfl, (fun j => j), fun j hj => ⟨rfl, hj⟩, fun i j _ _ h => h, fun j hj => absurd hj (Nat.not_lt_zero _)⟩, ⟨rfl, fun h => (by cases h)⟩, rfl, fun i hi => absurd hi (Nat.not_lt_zero _)⟩, ⟨rfl, ⟨rfl, fun j hj => absurd hj (Nat.not_lt_zero _)⟩, ⟨rfl, fun h => (by cases h)⟩, rfl, fun i hi => absurd hi (Nat.not_lt_zero _)⟩⟩
