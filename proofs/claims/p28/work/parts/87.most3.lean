theorem swN_size {A : Nat → Nat → Prop} {m : Nat} {N K : Nat → Option Nat} {Q : Nat → Bool} (hN : Mat A (m + 1) N) (hK : Mat A m K) (hm : Q m = true) (hq : ∀ h, h < m → Q h = true → (K h).isSome = true) (hnb : ∀ h f, h < m + 1 → Q h = true → A h f → rcB K Q m f = true) : msz N (m + 1) ≤ msz (swN N K Q m) m := by
  have hsp : msz N (m + 1) = cntN (fun h => (N h).isSome && rcB K Q m ((N h).getD 0)) 0 (m + 1) + cntN (fun h => (N h).isSome && !rcB K Q m ((N h).getD 0)) 0 (m + 1) := by
    rw [← cntN_or (fun j _ _ h1 => by
      rw [Bool.and_eq_true] at h1
      show ((N j).isSome && !rcB K Q m ((N j).getD 0)) = false
      rw [h1.2, Bool.not_true, Bool.and_false])]
    refine cntN_congr (fun j _ _ => ?_)
    cases (N j).isSome with
    | false => rfl
    | true => cases rcB K Q m ((N j).getD 0) <;> rfl
  have h1 : cntN (fun h => (N h).isSome && rcB K Q m ((N h).getD 0)) 0 (m + 1) ≤ cntN Q 0 m := by
    have ow : ∀ h, ∃ o, (N h).isSome = true → rcB K Q m ((N h).getD 0) = true → o < m ∧ Q o = true ∧ K o = some ((N h).getD 0) := fun h => by
      by_cases c : rcB K Q m ((N h).getD 0) = true
      · obtain ⟨o, o1, o2, o3⟩ := rcB_iff.mp c
        exact ⟨o, fun _ _ => ⟨o1, o2, o3⟩⟩
      · exact ⟨0, fun _ h2 => absurd h2 c⟩
    obtain ⟨F, hF⟩ : ∃ F : Nat → Nat, ∀ h, (N h).isSome = true → rcB K Q m ((N h).getD 0) = true → F h < m ∧ Q (F h) = true ∧ K (F h) = some ((N h).getD 0) := ⟨fun h => Classical.choose (ow h), fun h => Classical.choose_spec (ow h)⟩
    refine cnt_inj (f := F) (fun h _ hp => ?_) (fun a b _ _ pa pb e => ?_)
    · rw [Bool.and_eq_true] at hp
      obtain ⟨x1, x2, -⟩ := hF h hp.1 hp.2
      exact ⟨x1, x2⟩
    · rw [Bool.and_eq_true] at pa pb
      obtain ⟨-, -, x3⟩ := hF a pa.1 pa.2
      obtain ⟨-, -, y3⟩ := hF b pb.1 pb.2
      rw [e] at x3
      have e2 : (N a).getD 0 = (N b).getD 0 := Option.some.inj (x3.symm.trans y3)
      cases ha : N a with
      | none => rw [ha] at pa; cases pa.1
      | some f =>
        cases hb : N b with
        | none => rw [hb] at pb; cases pb.1
        | some f' =>
          rw [ha, hb] at e2
          have e3 : f = f' := e2
          subst e3
          exact hN.2 a b f ha hb
  have pQ : ∀ h, h < m + 1 → ((N h).isSome && !rcB K Q m ((N h).getD 0)) = true → Q h = false := fun h hh hp => by
    rw [Bool.and_eq_true] at hp
    cases ha : N h with
    | none => rw [ha] at hp; cases hp.1
    | some f =>
      refine Bool.eq_false_iff.mpr (fun hQ => ?_)
      have := hnb h f hh hQ (hN.1 h f ha).2
      rw [ha] at hp
      have h2 : (!rcB K Q m f) = true := hp.2
      rw [this] at h2
      cases h2
  have h2 : cntN (fun h => (N h).isSome && !rcB K Q m ((N h).getD 0)) 0 (m + 1) = cntN (fun h => (N h).isSome && !rcB K Q m ((N h).getD 0)) 0 m := by
    rw [cntN_last, if_neg (fun hp => by
      have := pQ m (by omega) hp
      rw [hm] at this
      cases this), Nat.add_zero]
  have h3 : msz (swN N K Q m) m = cntN Q 0 m + cntN (fun h => (N h).isSome && !rcB K Q m ((N h).getD 0)) 0 m := by
    rw [← cntN_or (fun j _ hj h1 => by
      refine Bool.eq_false_iff.mpr (fun hp => ?_)
      have := pQ j (by omega) hp
      rw [h1] at this
      cases this)]
    refine cntN_congr (fun j _ hj => ?_)
    show (swN N K Q m j).isSome = (Q j || ((N j).isSome && !rcB K Q m ((N j).getD 0)))
    unfold swN
    rw [if_pos (by omega)]
    cases c : Q j with
    | true =>
      rw [if_pos rfl, Bool.true_or]
      exact hq j (by omega) c
    | false =>
      rw [if_neg Bool.false_ne_true, Bool.false_or]
      cases ha : N j with
      | none => rfl
      | some f =>
        show (if rcB K Q m f = true then none else some f).isSome = !rcB K Q m f
        cases rcB K Q m f <;> rfl
  rw [hsp, h3, h2]
  omega
