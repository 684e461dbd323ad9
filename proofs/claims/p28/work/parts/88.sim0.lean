/-! at the start -/
theorem inv_0 : Inv (fun _ => 0) := by
  have e0 : nf (fun _ => 0) = 0 := rfl
  have e1 : nh (fun _ => 0) = 0 := rfl
  refine ⟨⟨⟨rfl, by rw [e0]; omega⟩, rfl, by rw [e1]; omega⟩, ⟨fun f hf => ?_, fun h hh => ?_⟩, ⟨fun a b ha => ?_, fun a b ha => ?_⟩, rfl⟩
  · rw [e0] at hf
    omega
  · rw [e1] at hh
    omega
  · rw [e1] at ha
    omega
  · rw [e1] at ha
    omega
