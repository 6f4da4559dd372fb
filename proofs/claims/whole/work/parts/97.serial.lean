/-! the next committed transaction, for the serial execution -/
theorem nc_loop {al : pu_A} {mu : pu_M} {p n nx : Nat} (T : Int32) (hS : pS al mu p n nx) : ∀ d j m, j + d = n → m ≤ j → (1 ≤ m → al 11 (m - 1) 0 = nI 2 ∧ ¬ al 11 (m - 1) 1 ≤ T) → ∃ m', m' ≤ n ∧ (∀ u N, d < N → lp_X0_nextCommittedAfter_4 0 T (ca al u) N (ixN m) (nI j) = some (ixN m', nI n)) ∧ (1 ≤ m' → al 11 (m' - 1) 0 = nI 2 ∧ ¬ al 11 (m' - 1) 1 ≤ T) := by
  obtain ⟨⟨g1, g2, g3, g4, g5, g6, g7, g8, g9, g10⟩, hT, hO, hD, hCs, hE⟩ := hS
  intro d
  induction d with
  | zero =>
    intro j m hj hm hp
    obtain rfl : j = n := by omega
    refine ⟨m, hm, fun u N hN => ?_, hp⟩
    obtain ⟨N, rfl⟩ : ∃ b, N = b + 1 := ⟨N - 1, by omega⟩
    rw [lp_X0_nextCommittedAfter_4]
    simp (disch := omega) only [li0, li1, li2, li3, li4, li5, li6, li7, li8, li9, li10, li16, li17, li20, li30, li32, li48, li49, li50, li57, li60, li126, li147, nI_add, nI_sb, pk_mul, nI_m1, inrT, leT, leF, ltT, ltF, eqT, eqF, n1lt, m1lt, m1neg, m1nle, m1le, m1a1, m1a2, m1s, m1s', nI_cl, ↓tl, ↓sb, sb, sel, ser, ↓reduceIte, if_true, if_false, true_or, or_true, false_or, or_false, umS, umK, umJ, uaS, uaK, uaI, uaJ, cg1, cg2, cg3, cg4, cg5, cg6, cg7, cg8, cg9, cg10, cg11, cg12, cg13, cg14, cg15, cg16, cg17, cg18, cg19, cg20, cs1, cs2, cs3, cs4, cs5, cs6, cs7, cs8, cs9, cs10, cs11, cs12, cs13, cs14, cs15, cs16, cs17, cs18, cs19, cs20, cc17, cc18, cc19, cc20, g8]
  | succ d ih =>
    intro j m hj hm hp
    by_cases e1 : al 11 j 0 = nI 2 ∧ ¬ al 11 j 1 ≤ T ∧ (m = 0 ∨ ¬ al 11 (m - 1) 1 ≤ al 11 j 1)
    · obtain ⟨a1, a2, a3⟩ := e1
      obtain ⟨m', q1, q2, q4⟩ := ih (j + 1) (j + 1) (by omega) (by omega) (fun _ => ⟨a1, a2⟩)
      refine ⟨m', q1, fun u N hN => ?_, q4⟩
      obtain ⟨N, rfl⟩ : ∃ b, N = b + 1 := ⟨N - 1, by omega⟩
      have := q2 u N (by omega)
      rw [lp_X0_nextCommittedAfter_4]
      by_cases e3 : m = 0
      · simp (disch := omega) only [li0, li1, li2, li3, li4, li5, li6, li7, li8, li9, li10, li16, li17, li20, li30, li32, li48, li49, li50, li57, li60, li126, li147, nI_add, nI_sb, pk_mul, nI_m1, inrT, leT, leF, ltT, ltF, eqT, eqF, n1lt, m1lt, m1neg, m1nle, m1le, m1a1, m1a2, m1s, m1s', nI_cl, ↓tl, ↓sb, sb, sel, ser, ↓reduceIte, if_true, if_false, true_or, or_true, false_or, or_false, umS, umK, umJ, uaS, uaK, uaI, uaJ, cg1, cg2, cg3, cg4, cg5, cg6, cg7, cg8, cg9, cg10, cg11, cg12, cg13, cg14, cg15, cg16, cg17, cg18, cg19, cg20, cs1, cs2, cs3, cs4, cs5, cs6, cs7, cs8, cs9, cs10, cs11, cs12, cs13, cs14, cs15, cs16, cs17, cs18, cs19, cs20, cc17, cc18, cc19, cc20, g8, a1, if_neg a2, ixN_0]
        exact this
      · have a4 : ¬ al 11 (m - 1) 1 ≤ al 11 j 1 := a3.resolve_left e3
        rw [ixN_p (m := m) (by omega)]
        simp (disch := omega) only [li0, li1, li2, li3, li4, li5, li6, li7, li8, li9, li10, li16, li17, li20, li30, li32, li48, li49, li50, li57, li60, li126, li147, nI_add, nI_sb, pk_mul, nI_m1, inrT, leT, leF, ltT, ltF, eqT, eqF, n1lt, m1lt, m1neg, m1nle, m1le, m1a1, m1a2, m1s, m1s', nI_cl, ↓tl, ↓sb, sb, sel, ser, ↓reduceIte, if_true, if_false, true_or, or_true, false_or, or_false, umS, umK, umJ, uaS, uaK, uaI, uaJ, cg1, cg2, cg3, cg4, cg5, cg6, cg7, cg8, cg9, cg10, cg11, cg12, cg13, cg14, cg15, cg16, cg17, cg18, cg19, cg20, cs1, cs2, cs3, cs4, cs5, cs6, cs7, cs8, cs9, cs10, cs11, cs12, cs13, cs14, cs15, cs16, cs17, cs18, cs19, cs20, cc17, cc18, cc19, cc20, g8, a1, if_neg a2, if_neg a4]
        exact this
    · sorry
