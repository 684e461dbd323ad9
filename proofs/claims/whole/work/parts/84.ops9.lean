/-! reading the lists -/
theorem op_readLists {M : Mem} {g : Gh} (G : GO g) (C : CL M g) (O : MO M g) : Ok Sim M f_X7_readLists f_X8_readLists := by
  have hI := G.1.1
  have hn := G.2.2.2.1
  have hx := G.2.2.2.2
  obtain ⟨M1, e1, e2, e3, e4⟩ := k_fault hn hx C.2.2.2.1 C.2.2.2.2
  have C1 : CL M1 g := C.co G (fun q h1 h2 h3 => e2 q h3 (by omega) (by omega) (by omega)) (e3 1 (by omega) (by omega))
  have fr1 : ∀ q, 255 ≤ q → M1 q = M q := fun q hq => e2 q (by omega) (by omega) (by omega) (by omega)
  have mt : ∀ N, MO N g → ∃ N1, f_X8_isText N = some (bI (txS (gN g) (gX g) 16 0 []).1.isNone, N1) ∧ MO N1 g ∧ (∀ q, q < 255 → N1 q = N q) ∧ (∀ q, (txS (gN g) (gX g) 16 0 []).1 = some q → N1 255 9 = nI q) ∧ ((txS (gN g) (gX g) 16 0 []).1 = none → N1 255 11 = nI (txS (gN g) (gX g) 16 0 []).2.length ∧ ShM N1 (txS (gN g) (gX g) 16 0 []).2) := fun N h => by
    obtain ⟨N1, f1, f2, f3, f4, f5⟩ := isText_n hn hx h.2.2.2.1 h.2.2.2.2
    exact ⟨N1, f1, h.sc (fun q h1 h2 => f2 q (by omega) (by omega)) ⟨f3 2 (by omega) (by omega), f3 4 (by omega) (by omega), f3 6 (by omega) (by omega)⟩, fun q hq => f2 q (by omega) (by omega), f4, f5⟩
  cases hq : (txS (gN g) (gX g) 16 0 []).1 with
  | some q =>
    rw [hq] at e1 mt
    have e1' : f_X3_findFault M = some (nI q, M1) := e1
    refine ok_mk (g' := g) (r := -100 - nI q) O G ⟨M1, ?_, C1, fr1⟩ (fun N h => ?_)
    · unfold f_X7_readLists
      have hq5 : ¬ nI q = -5 := by
        intro z
        have h1 := congrArg Int32.toNatClampNeg z
        have h2 := congrArg Int32.toInt z
        have hql : q ≤ 64 := by
          have key : ∀ (d p : Nat) (acc : List (Nat × List Nat)) (r : Nat), p ≤ gN g + 1 → acc.length + d = 16 → 4 * acc.length ≤ p → p ≤ gN g → (txS (gN g) (gX g) d p acc).1 = some r → r ≤ 64 := by
            intro d
            induction d with
            | zero => intro p acc r _ h2 h3 h4 h5; omega
            | succ d ih =>
              intro p acc r _ h2 h3 h4 h5
              obtain ⟨p1, p2⟩ := liS_pos (n := gN g) (x := gX g) h4
              unfold txS at h5
              by_cases c : (liS (gN g) (gX g) p).1 = true
              · obtain ⟨p3, p4⟩ := p2 c
                rw [if_pos c] at h5
                by_cases c2 : chr (gN g) (gX g) (liS (gN g) (gX g) p).2.1 = -1
                · rw [if_pos c2] at h5
                  cases h5
                · have hl2 := chr_lt c2
                  rw [if_neg c2] at h5
                  by_cases c3 : chr (gN g) (gX g) (liS (gN g) (gX g) p).2.1 = 59
                  · rw [if_pos c3] at h5
                    exact ih _ _ r (by omega) (by rw [List.length_append, List.length_singleton]; omega) (by rw [List.length_append, List.length_singleton]; omega) (by omega) h5
                  · rw [if_neg c3] at h5
                    cases h5
                    omega
              · rw [if_neg c] at h5
                cases h5
                omega
          exact key 16 0 [] q (by omega) rfl (by show 4 * 0 ≤ 0; omega) (by omega) hq
        rw [nI_toInt (by omega), show (-5 : Int32).toInt = -5 from by decide] at h2
        omega
      rw [e1', bd_s, if_neg hq5]
    · obtain ⟨N1, f1, f2, f3, f4, -⟩ := mt N h
      refine ⟨N1, ?_, f2, f3⟩
      unfold f_X8_readLists
      rw [f1, bd_s, if_pos (show bI (some q).isNone = 0 from rfl), f4 q rfl]
  | none =>
    rw [hq] at e1 mt e4
    obtain ⟨g1, g2, g3, g4⟩ := e4 rfl
    have e1' : f_X3_findFault M = some (-5, M1) := e1
    generalize (txS (gN g) (gX g) 16 0 []).2 = ls at g1 g2 g3 g4 mt
    have kn := k_names C1.1 hI g4 g2 g3 g1
    have kt := k_twice g4 g2 g3 g1
    by_cases c1 : knA g.1 ls = true
    · by_cases c2 : twA ls = true
      · refine ok_mk (g' := g) (r := -2) O G ⟨M1, ?_, C1, fr1⟩ (fun N h => ?_)
        · unfold f_X7_readLists
          rw [e1', bd_s, if_pos rfl, kn, bd_s, c1, if_neg bIne, kt, bd_s, c2, if_neg bIne]
        · obtain ⟨N1, f1, f2, f3, -, f5⟩ := mt N h
          obtain ⟨f6, f7⟩ := f5 rfl
          refine ⟨N1, ?_, f2, f3⟩
          unfold f_X8_readLists
          rw [f1, bd_s, if_neg (show ¬ bI (none : Option Nat).isNone = 0 from bIne), allThere_n (f2.inv G) f7 g2 g3 f6, bd_s, f2.1, c1, if_neg bIne, anyTwice_n f7 g2 g3 f6, bd_s, c2, if_neg bIne]
      · have c2' : twA ls = false := Bool.eq_false_iff.mpr c2
        obtain ⟨i1, i2⟩ := layA_inv hI G.1.2 g3 c1 c2'
        refine ok_st (s' := layA g.1 ls) (r := nI ls.length) G O i1 i2 ?_ (fun N h => ?_)
        · obtain ⟨M2, h1, h2, h3⟩ := k_record G C1
          have hl := k_lay_l (show 1 + 40 ≤ 243 by omega) g2 g3 ls.length 0 LF M2 g.1 (fun j e he => by
            rw [h3 245 (by omega), h3 246 (by omega), h3 247 (by omega)]
            exact g4 j e he) (by rw [h3 243 (by omega)]; exact g1) (show RS M2 1 g.1 from h2.1) hI (by rw [List.drop_zero]; exact c1) (by rw [List.drop_zero]; exact c2') (by omega) (by unfold LF; omega)
          rw [List.drop_zero] at hl
          obtain ⟨M3, l1, l2, l3⟩ := hl
          refine ⟨M2, M3, ?_, h2, l2, fun q h _ _ => l3 q (by omega), by rw [l3 243 (by omega)], fun q hq => by rw [l3 q (by omega), h3 q (by omega), fr1 q hq]⟩
          unfold f_X7_readLists f_X3_layLists
          rw [e1', bd_s, if_pos rfl, kn, bd_s, c1, if_neg bIne, kt, bd_s, c2', if_pos bI_f, h1, bd_s, show (0 : Int32) = nI 0 from rfl, l1, bd_s, l3 243 (by omega), h3 243 (by omega), g1]
        · obtain ⟨N1, f1, f2, f3, -, f5⟩ := mt N h
          obtain ⟨f6, f7⟩ := f5 rfl
          obtain ⟨N2, h1, h2, h3⟩ := records_n G f2
          have hl := lay_l g2 g3 ls.length 0 LF N2 (fun j e he => by
            rw [h3 262 (by omega) (by omega)]
            exact f7 j e he)
          have n11 : N2 255 11 = nI ls.length := by
            have := records_11 f2 G h1
            rw [this]
            exact f6
          obtain ⟨N3, l1, l2, l3⟩ := hl n11 (by omega) (by unfold LF; omega)
          rw [List.drop_zero, h2.1] at l2
          refine ⟨N2, N3, ?_, h2, l2, fun q _ _ => l3 q (by omega), by rw [l3 255 (by omega)]; exact ⟨rfl, rfl, rfl⟩, fun q hq => by rw [l3 q (by omega), h3 q (by omega) (by omega), f3 q hq]⟩
          unfold f_X8_readLists
          rw [f1, bd_s, if_neg (show ¬ bI (none : Option Nat).isNone = 0 from bIne), allThere_n (f2.inv G) f7 g2 g3 f6, bd_s, f2.1, c1, if_neg bIne, anyTwice_n f7 g2 g3 f6, bd_s, c2', if_pos bI_f, h1, bd_s]
          exact l1
    · refine ok_mk (g' := g) (r := -1) O G ⟨M1, ?_, C1, fr1⟩ (fun N h => ?_)
      · unfold f_X7_readLists
        rw [e1', bd_s, if_pos rfl, kn, bd_s, if_pos (bIf c1)]
      · obtain ⟨N1, f1, f2, f3, -, f5⟩ := mt N h
        obtain ⟨f6, f7⟩ := f5 rfl
        refine ⟨N1, ?_, f2, f3⟩
        unfold f_X8_readLists
        rw [f1, bd_s, if_neg (show ¬ bI (none : Option Nat).isNone = 0 from bIne), allThere_n (f2.inv G) f7 g2 g3 f6, bd_s, f2.1, if_pos (bIf c1)]
