/-! the next committed transaction, for the serial execution -/
theorem nc_loop {al : pu_A} {mu : pu_M} {p n nx : Nat} (T : Int32) (hS : pS al mu p n nx) : ∀ d j m, j + d = n → m ≤ j → (1 ≤ m → al 11 (m - 1) 0 = nI 2 ∧ ¬ al 11 (m - 1) 1 ≤ T) → ∃ m', m' ≤ n ∧ (∀ u N, d < N → lp_X0_nextCommittedAfter_4 0 T (ca al u) N (ixN m) (nI j) = some (ixN m', nI n)) ∧ (∀ u N, d < N → lp_X7_nextCommitted_4 T (ma mu u) N (ixN m) (nI j) = some (ixN m', nI n)) ∧ (1 ≤ m' → al 11 (m' - 1) 0 = nI 2 ∧ ¬ al 11 (m' - 1) 1 ≤ T) := by
  obtain ⟨⟨g1, g2, g3, g4, g5, g6, g7, g8, g9, g10⟩, hT, hO, hD, hCs, hE⟩ := hS
  intro d
  induction d with
  | zero =>
    intro j m hj hm hp
    obtain rfl : j = n := by omega
    refine ⟨m, hm, fun u N hN => ?_, fun u N hN => ?_, hp⟩
    · obtain ⟨N, rfl⟩ : ∃ b, N = b + 1 := ⟨N - 1, by omega⟩
      rw [lp_X0_nextCommittedAfter_4]
      simp (disch := omega) only [li0, li1, li2, li3, li4, li5, li6, li7, li8, li9, li10, li16, li17, li20, li30, li32, li48, li49, li50, li57, li60, li126, li147, nI_add, nI_sb, pk_mul, nI_m1, inrT, leT, leF, ltT, ltF, eqT, eqF, n1lt, m1lt, m1neg, m1nle, m1le, m1a1, m1a2, m1s, m1s', nI_cl, ↓tl, ↓sb, sb, sel, ser, ↓reduceIte, if_true, if_false, true_or, or_true, false_or, or_false, umS, umK, umJ, uaS, uaK, uaI, uaJ, cg1, cg2, cg3, cg4, cg5, cg6, cg7, cg8, cg9, cg10, cg11, cg12, cg13, cg14, cg15, cg16, cg17, cg18, cg19, cg20, cs1, cs2, cs3, cs4, cs5, cs6, cs7, cs8, cs9, cs10, cs11, cs12, cs13, cs14, cs15, cs16, cs17, cs18, cs19, cs20, cc17, cc18, cc19, cc20, g8]
    · obtain ⟨N, rfl⟩ : ∃ b, N = b + 1 := ⟨N - 1, by omega⟩
      rw [lp_X7_nextCommitted_4]
      simp (disch := omega) only [li0, li1, li2, li3, li4, li5, li6, li7, li8, li9, li10, li16, li17, li20, li30, li32, li48, li49, li50, li57, li60, li126, li147, nI_add, nI_sb, pk_mul, nI_m1, inrT, leT, leF, ltT, ltF, eqT, eqF, n1lt, m1lt, m1neg, m1nle, m1le, m1a1, m1a2, m1s, m1s', nI_cl, ↓tl, ↓sb, sb, sel, ser, ↓reduceIte, if_true, if_false, true_or, or_true, false_or, or_false, umS, umK, umJ, uaS, uaK, uaI, uaJ, mg30, mg31, mg32, mg33, mg34, mg35, mg36, mg37, mg38, mg39, mg40, mg41, mg42, mg43, mg44, mg45, mg46, mg47, mg48, mg49, ms30, ms31, ms32, ms33, ms34, ms35, ms36, ms37, ms38, ms39, ms40, ms41, ms42, ms43, ms44, ms45, ms46, ms47, ms48, ms49, g9]
  | succ d ih =>
    intro j m hj hm hp
    obtain ⟨-, t1, t2, -⟩ := hT j (by omega)
    by_cases a1 : al 11 j 0 = nI 2
    · by_cases a2 : al 11 j 1 ≤ T
      · obtain ⟨m', q1, q2, q3, q4⟩ := ih (j + 1) m (by omega) (by omega) hp
        refine ⟨m', q1, fun u N hN => ?_, fun u N hN => ?_, q4⟩
        · obtain ⟨N, rfl⟩ : ∃ b, N = b + 1 := ⟨N - 1, by omega⟩
          have := q2 u N (by omega)
          rw [lp_X0_nextCommittedAfter_4]
          simp (disch := omega) only [li0, li1, li2, li3, li4, li5, li6, li7, li8, li9, li10, li16, li17, li20, li30, li32, li48, li49, li50, li57, li60, li126, li147, nI_add, nI_sb, pk_mul, nI_m1, inrT, leT, leF, ltT, ltF, eqT, eqF, n1lt, m1lt, m1neg, m1nle, m1le, m1a1, m1a2, m1s, m1s', nI_cl, ↓tl, ↓sb, sb, sel, ser, ↓reduceIte, if_true, if_false, true_or, or_true, false_or, or_false, umS, umK, umJ, uaS, uaK, uaI, uaJ, cg1, cg2, cg3, cg4, cg5, cg6, cg7, cg8, cg9, cg10, cg11, cg12, cg13, cg14, cg15, cg16, cg17, cg18, cg19, cg20, cs1, cs2, cs3, cs4, cs5, cs6, cs7, cs8, cs9, cs10, cs11, cs12, cs13, cs14, cs15, cs16, cs17, cs18, cs19, cs20, cc17, cc18, cc19, cc20, g8, a1, if_pos a2]
          exact this
        · obtain ⟨N, rfl⟩ : ∃ b, N = b + 1 := ⟨N - 1, by omega⟩
          have := q3 u N (by omega)
          rw [lp_X7_nextCommitted_4]
          simp (disch := omega) only [li0, li1, li2, li3, li4, li5, li6, li7, li8, li9, li10, li16, li17, li20, li30, li32, li48, li49, li50, li57, li60, li126, li147, nI_add, nI_sb, pk_mul, nI_m1, inrT, leT, leF, ltT, ltF, eqT, eqF, n1lt, m1lt, m1neg, m1nle, m1le, m1a1, m1a2, m1s, m1s', nI_cl, ↓tl, ↓sb, sb, sel, ser, ↓reduceIte, if_true, if_false, true_or, or_true, false_or, or_false, umS, umK, umJ, uaS, uaK, uaI, uaJ, mg30, mg31, mg32, mg33, mg34, mg35, mg36, mg37, mg38, mg39, mg40, mg41, mg42, mg43, mg44, mg45, mg46, mg47, mg48, mg49, ms30, ms31, ms32, ms33, ms34, ms35, ms36, ms37, ms38, ms39, ms40, ms41, ms42, ms43, ms44, ms45, ms46, ms47, ms48, ms49, g9, t1, t2, a1, if_pos a2]
          exact this
      · by_cases e3 : m = 0
        · subst e3
          obtain ⟨m', q1, q2, q3, q4⟩ := ih (j + 1) (j + 1) (by omega) (by omega) (fun _ => ⟨a1, a2⟩)
          refine ⟨m', q1, fun u N hN => ?_, fun u N hN => ?_, q4⟩
          · obtain ⟨N, rfl⟩ : ∃ b, N = b + 1 := ⟨N - 1, by omega⟩
            have := q2 u N (by omega)
            rw [lp_X0_nextCommittedAfter_4]
            simp (disch := omega) only [li0, li1, li2, li3, li4, li5, li6, li7, li8, li9, li10, li16, li17, li20, li30, li32, li48, li49, li50, li57, li60, li126, li147, nI_add, nI_sb, pk_mul, nI_m1, inrT, leT, leF, ltT, ltF, eqT, eqF, n1lt, m1lt, m1neg, m1nle, m1le, m1a1, m1a2, m1s, m1s', nI_cl, ↓tl, ↓sb, sb, sel, ser, ↓reduceIte, if_true, if_false, true_or, or_true, false_or, or_false, umS, umK, umJ, uaS, uaK, uaI, uaJ, cg1, cg2, cg3, cg4, cg5, cg6, cg7, cg8, cg9, cg10, cg11, cg12, cg13, cg14, cg15, cg16, cg17, cg18, cg19, cg20, cs1, cs2, cs3, cs4, cs5, cs6, cs7, cs8, cs9, cs10, cs11, cs12, cs13, cs14, cs15, cs16, cs17, cs18, cs19, cs20, cc17, cc18, cc19, cc20, g8, a1, if_neg a2, ixN_0]
            exact this
          · obtain ⟨N, rfl⟩ : ∃ b, N = b + 1 := ⟨N - 1, by omega⟩
            have := q3 u N (by omega)
            rw [lp_X7_nextCommitted_4]
            simp (disch := omega) only [li0, li1, li2, li3, li4, li5, li6, li7, li8, li9, li10, li16, li17, li20, li30, li32, li48, li49, li50, li57, li60, li126, li147, nI_add, nI_sb, pk_mul, nI_m1, inrT, leT, leF, ltT, ltF, eqT, eqF, n1lt, m1lt, m1neg, m1nle, m1le, m1a1, m1a2, m1s, m1s', nI_cl, ↓tl, ↓sb, sb, sel, ser, ↓reduceIte, if_true, if_false, true_or, or_true, false_or, or_false, umS, umK, umJ, uaS, uaK, uaI, uaJ, mg30, mg31, mg32, mg33, mg34, mg35, mg36, mg37, mg38, mg39, mg40, mg41, mg42, mg43, mg44, mg45, mg46, mg47, mg48, mg49, ms30, ms31, ms32, ms33, ms34, ms35, ms36, ms37, ms38, ms39, ms40, ms41, ms42, ms43, ms44, ms45, ms46, ms47, ms48, ms49, g9, t1, t2, a1, if_neg a2, ixN_0]
            exact this
        · obtain ⟨-, -, t2m, -⟩ := hT (m - 1) (by omega)
          by_cases a4 : al 11 (m - 1) 1 ≤ al 11 j 1
          · obtain ⟨m', q1, q2, q3, q4⟩ := ih (j + 1) m (by omega) (by omega) hp
            refine ⟨m', q1, fun u N hN => ?_, fun u N hN => ?_, q4⟩
            · obtain ⟨N, rfl⟩ : ∃ b, N = b + 1 := ⟨N - 1, by omega⟩
              have := q2 u N (by omega)
              rw [ixN_p (m := m) (by omega)] at this ⊢
              rw [lp_X0_nextCommittedAfter_4]
              simp (disch := omega) only [li0, li1, li2, li3, li4, li5, li6, li7, li8, li9, li10, li16, li17, li20, li30, li32, li48, li49, li50, li57, li60, li126, li147, nI_add, nI_sb, pk_mul, nI_m1, inrT, leT, leF, ltT, ltF, eqT, eqF, n1lt, m1lt, m1neg, m1nle, m1le, m1a1, m1a2, m1s, m1s', nI_cl, ↓tl, ↓sb, sb, sel, ser, ↓reduceIte, if_true, if_false, true_or, or_true, false_or, or_false, umS, umK, umJ, uaS, uaK, uaI, uaJ, cg1, cg2, cg3, cg4, cg5, cg6, cg7, cg8, cg9, cg10, cg11, cg12, cg13, cg14, cg15, cg16, cg17, cg18, cg19, cg20, cs1, cs2, cs3, cs4, cs5, cs6, cs7, cs8, cs9, cs10, cs11, cs12, cs13, cs14, cs15, cs16, cs17, cs18, cs19, cs20, cc17, cc18, cc19, cc20, g8, a1, if_neg a2, if_pos a4]
              exact this
            · obtain ⟨N, rfl⟩ : ∃ b, N = b + 1 := ⟨N - 1, by omega⟩
              have := q3 u N (by omega)
              rw [ixN_p (m := m) (by omega)] at this ⊢
              rw [lp_X7_nextCommitted_4]
              simp (disch := omega) only [li0, li1, li2, li3, li4, li5, li6, li7, li8, li9, li10, li16, li17, li20, li30, li32, li48, li49, li50, li57, li60, li126, li147, nI_add, nI_sb, pk_mul, nI_m1, inrT, leT, leF, ltT, ltF, eqT, eqF, n1lt, m1lt, m1neg, m1nle, m1le, m1a1, m1a2, m1s, m1s', nI_cl, ↓tl, ↓sb, sb, sel, ser, ↓reduceIte, if_true, if_false, true_or, or_true, false_or, or_false, umS, umK, umJ, uaS, uaK, uaI, uaJ, mg30, mg31, mg32, mg33, mg34, mg35, mg36, mg37, mg38, mg39, mg40, mg41, mg42, mg43, mg44, mg45, mg46, mg47, mg48, mg49, ms30, ms31, ms32, ms33, ms34, ms35, ms36, ms37, ms38, ms39, ms40, ms41, ms42, ms43, ms44, ms45, ms46, ms47, ms48, ms49, g9, t1, t2, t2m, a1, if_neg a2, if_pos a4]
              exact this
          · obtain ⟨m', q1, q2, q3, q4⟩ := ih (j + 1) (j + 1) (by omega) (by omega) (fun _ => ⟨a1, a2⟩)
            refine ⟨m', q1, fun u N hN => ?_, fun u N hN => ?_, q4⟩
            · obtain ⟨N, rfl⟩ : ∃ b, N = b + 1 := ⟨N - 1, by omega⟩
              have := q2 u N (by omega)
              rw [ixN_p (m := m) (by omega), lp_X0_nextCommittedAfter_4]
              simp (disch := omega) only [li0, li1, li2, li3, li4, li5, li6, li7, li8, li9, li10, li16, li17, li20, li30, li32, li48, li49, li50, li57, li60, li126, li147, nI_add, nI_sb, pk_mul, nI_m1, inrT, leT, leF, ltT, ltF, eqT, eqF, n1lt, m1lt, m1neg, m1nle, m1le, m1a1, m1a2, m1s, m1s', nI_cl, ↓tl, ↓sb, sb, sel, ser, ↓reduceIte, if_true, if_false, true_or, or_true, false_or, or_false, umS, umK, umJ, uaS, uaK, uaI, uaJ, cg1, cg2, cg3, cg4, cg5, cg6, cg7, cg8, cg9, cg10, cg11, cg12, cg13, cg14, cg15, cg16, cg17, cg18, cg19, cg20, cs1, cs2, cs3, cs4, cs5, cs6, cs7, cs8, cs9, cs10, cs11, cs12, cs13, cs14, cs15, cs16, cs17, cs18, cs19, cs20, cc17, cc18, cc19, cc20, g8, a1, if_neg a2, if_neg a4]
              exact this
            · obtain ⟨N, rfl⟩ : ∃ b, N = b + 1 := ⟨N - 1, by omega⟩
              have := q3 u N (by omega)
              rw [ixN_p (m := m) (by omega), lp_X7_nextCommitted_4]
              simp (disch := omega) only [li0, li1, li2, li3, li4, li5, li6, li7, li8, li9, li10, li16, li17, li20, li30, li32, li48, li49, li50, li57, li60, li126, li147, nI_add, nI_sb, pk_mul, nI_m1, inrT, leT, leF, ltT, ltF, eqT, eqF, n1lt, m1lt, m1neg, m1nle, m1le, m1a1, m1a2, m1s, m1s', nI_cl, ↓tl, ↓sb, sb, sel, ser, ↓reduceIte, if_true, if_false, true_or, or_true, false_or, or_false, umS, umK, umJ, uaS, uaK, uaI, uaJ, mg30, mg31, mg32, mg33, mg34, mg35, mg36, mg37, mg38, mg39, mg40, mg41, mg42, mg43, mg44, mg45, mg46, mg47, mg48, mg49, ms30, ms31, ms32, ms33, ms34, ms35, ms36, ms37, ms38, ms39, ms40, ms41, ms42, ms43, ms44, ms45, ms46, ms47, ms48, ms49, g9, t1, t2, t2m, a1, if_neg a2, if_neg a4]
              exact this
    · obtain ⟨m', q1, q2, q3, q4⟩ := ih (j + 1) m (by omega) (by omega) hp
      refine ⟨m', q1, fun u N hN => ?_, fun u N hN => ?_, q4⟩
      · obtain ⟨N, rfl⟩ : ∃ b, N = b + 1 := ⟨N - 1, by omega⟩
        have := q2 u N (by omega)
        rw [lp_X0_nextCommittedAfter_4]
        simp (disch := omega) only [li0, li1, li2, li3, li4, li5, li6, li7, li8, li9, li10, li16, li17, li20, li30, li32, li48, li49, li50, li57, li60, li126, li147, nI_add, nI_sb, pk_mul, nI_m1, inrT, leT, leF, ltT, ltF, eqT, eqF, n1lt, m1lt, m1neg, m1nle, m1le, m1a1, m1a2, m1s, m1s', nI_cl, ↓tl, ↓sb, sb, sel, ser, ↓reduceIte, if_true, if_false, true_or, or_true, false_or, or_false, umS, umK, umJ, uaS, uaK, uaI, uaJ, cg1, cg2, cg3, cg4, cg5, cg6, cg7, cg8, cg9, cg10, cg11, cg12, cg13, cg14, cg15, cg16, cg17, cg18, cg19, cg20, cs1, cs2, cs3, cs4, cs5, cs6, cs7, cs8, cs9, cs10, cs11, cs12, cs13, cs14, cs15, cs16, cs17, cs18, cs19, cs20, cc17, cc18, cc19, cc20, g8, if_neg a1]
        exact this
      · obtain ⟨N, rfl⟩ : ∃ b, N = b + 1 := ⟨N - 1, by omega⟩
        have := q3 u N (by omega)
        rw [lp_X7_nextCommitted_4]
        simp (disch := omega) only [li0, li1, li2, li3, li4, li5, li6, li7, li8, li9, li10, li16, li17, li20, li30, li32, li48, li49, li50, li57, li60, li126, li147, nI_add, nI_sb, pk_mul, nI_m1, inrT, leT, leF, ltT, ltF, eqT, eqF, n1lt, m1lt, m1neg, m1nle, m1le, m1a1, m1a2, m1s, m1s', nI_cl, ↓tl, ↓sb, sb, sel, ser, ↓reduceIte, if_true, if_false, true_or, or_true, false_or, or_false, umS, umK, umJ, uaS, uaK, uaI, uaJ, mg30, mg31, mg32, mg33, mg34, mg35, mg36, mg37, mg38, mg39, mg40, mg41, mg42, mg43, mg44, mg45, mg46, mg47, mg48, mg49, ms30, ms31, ms32, ms33, ms34, ms35, ms36, ms37, ms38, ms39, ms40, ms41, ms42, ms43, ms44, ms45, ms46, ms47, ms48, ms49, g9, t1, if_neg a1]
        exact this
theorem nc {al : pu_A} {mu : pu_M} {p n nx : Nat} (T : Int32) (hS : pS al mu p n nx) : ∃ m, m ≤ n ∧ (∀ u, f_X0_nextCommittedAfter 0 T (ca al u) = some (ixN m)) ∧ (∀ u, f_X7_nextCommitted T (ma mu u) = some (ixN m)) ∧ (1 ≤ m → al 11 (m - 1) 0 = nI 2 ∧ ¬ al 11 (m - 1) 1 ≤ T) := by
  have g10 : n ≤ 16 := hS.1.2.2.2.2.2.2.2.2.2
  obtain ⟨m, q1, q2, q3, q4⟩ := nc_loop T hS n 0 0 (by omega) (by omega) (fun h => absurd h (by omega))
  refine ⟨m, q1, fun u => ?_, fun u => ?_, q4⟩
  · unfold f_X0_nextCommittedAfter
    have := q2 u ts_fu (by unfold ts_fu; omega)
    rw [show (-1 : Int32) = ixN 0 from rfl, show (0 : Int32) = nI 0 from rfl, this]
    rfl
  · unfold f_X7_nextCommitted
    have := q3 u ts_fu (by unfold ts_fu; omega)
    rw [show (-1 : Int32) = ixN 0 from rfl, show (0 : Int32) = nI 0 from rfl, this]
    rfl
theorem pS_44 {al al' : pu_A} {mu mu' : pu_M} {p n nx : Nat} (h : pS al mu p n nx) (h1 : ∀ a b j, ¬ a = 5 → al' a b j = al a b j) (h2 : ∀ a j, ¬ a = 44 → ¬ (a = 30 ∧ j = 0) → mu' a j = mu a j) : pS al' mu' p n nx := by
  obtain ⟨g, t, o, d, c, e⟩ := h
  refine ⟨?_, ?_, ?_, ?_, ?_, ?_⟩
  · unfold pG at g ⊢
    simp (disch := omega) only [h1, h2]
    exact g
  · unfold pT at t ⊢
    simp (disch := omega) only [h1, h2]
    exact t
  · unfold pO at o ⊢
    simp (disch := omega) only [h1, h2]
    exact o
  · unfold pD at d ⊢
    simp (disch := omega) only [h1, h2]
    exact d
  · unfold pCs pC pW un at c ⊢
    simp (disch := omega) only [h1, h2]
    exact c
  · unfold pEv pu_E at e ⊢
    simp (disch := omega) only [h1, h2]
    exact e
theorem ex_loop {p n nx t q : Nat} (w : Int32) (ht : t < n) : ∀ d k (al : pu_A) (mu : pu_M) (v : Int32), k + d = q → q ≤ 20 → pS al mu p n nx → al 11 t 5 = nI q → (∀ i, i < 8 → al 5 0 i = mu 44 i) → ∃ al' mu' v', (∀ u N, d < N → lp_X5_executeSerially_4 0 t 0 N v (nI k) (ca al u) = some (v', nI q, ca al' u)) ∧ (∀ u N, d < N → lp_X7_check_41 (nI t) N (w + v) (nI k) (ma mu u) = some (w + v', nI q, ma mu' u)) ∧ (∀ i, i < 8 → al' 5 0 i = mu' 44 i) ∧ (∀ a b j, ¬ a = 5 → al' a b j = al a b j) ∧ (∀ a j, ¬ a = 44 → mu' a j = mu a j) := by
  intro d
  induction d with
  | zero =>
    intro k al mu v hk hq hS h5 hs
    obtain rfl : k = q := by omega
    have g10 : n ≤ 16 := hS.1.2.2.2.2.2.2.2.2.2
    obtain ⟨q', o1, o2, o3, o4⟩ := hS.2.2.1 t ht
    have oq : q' = k := (nI_eq (by omega) (by omega)).mp (o2.symm.trans h5)
    subst oq
    refine ⟨al, mu, v, fun u N hN => ?_, fun u N hN => ?_, hs, fun _ _ _ _ => rfl, fun _ _ _ => rfl⟩
    · obtain ⟨N, rfl⟩ : ∃ b, N = b + 1 := ⟨N - 1, by omega⟩
      rw [lp_X5_executeSerially_4]
      simp (disch := omega) only [li0, li1, li2, li3, li4, li5, li6, li7, li8, li9, li10, li16, li17, li20, li30, li32, li48, li49, li50, li57, li60, li126, li147, nI_add, nI_sb, pk_mul, nI_m1, inrT, leT, leF, ltT, ltF, eqT, eqF, n1lt, m1lt, m1neg, m1nle, m1le, m1a1, m1a2, m1s, m1s', nI_cl, ↓tl, ↓sb, sb, sel, ser, ↓reduceIte, if_true, if_false, true_or, or_true, false_or, or_false, umS, umK, umJ, uaS, uaK, uaI, uaJ, cg1, cg2, cg3, cg4, cg5, cg6, cg7, cg8, cg9, cg10, cg11, cg12, cg13, cg14, cg15, cg16, cg17, cg18, cg19, cg20, cs1, cs2, cs3, cs4, cs5, cs6, cs7, cs8, cs9, cs10, cs11, cs12, cs13, cs14, cs15, cs16, cs17, cs18, cs19, cs20, cc17, cc18, cc19, cc20, h5]
    · obtain ⟨N, rfl⟩ : ∃ b, N = b + 1 := ⟨N - 1, by omega⟩
      rw [lp_X7_check_41]
      simp (disch := omega) only [li0, li1, li2, li3, li4, li5, li6, li7, li8, li9, li10, li16, li17, li20, li30, li32, li48, li49, li50, li57, li60, li126, li147, nI_add, nI_sb, pk_mul, nI_m1, inrT, leT, leF, ltT, ltF, eqT, eqF, n1lt, m1lt, m1neg, m1nle, m1le, m1a1, m1a2, m1s, m1s', nI_cl, ↓tl, ↓sb, sb, sel, ser, ↓reduceIte, if_true, if_false, true_or, or_true, false_or, or_false, umS, umK, umJ, uaS, uaK, uaI, uaJ, mg30, mg31, mg32, mg33, mg34, mg35, mg36, mg37, mg38, mg39, mg40, mg41, mg42, mg43, mg44, mg45, mg46, mg47, mg48, mg49, ms30, ms31, ms32, ms33, ms34, ms35, ms36, ms37, ms38, ms39, ms40, ms41, ms42, ms43, ms44, ms45, ms46, ms47, ms48, ms49, o3]
  | succ d ih =>
    intro k al mu v hk hq hS h5 hs
    have g10 : n ≤ 16 := hS.1.2.2.2.2.2.2.2.2.2
    obtain ⟨q', o1, o2, o3, o4⟩ := hS.2.2.1 t ht
    have oq : q' = q := (nI_eq (by omega) (by omega)).mp (o2.symm.trans h5)
    subst oq
    obtain ⟨⟨kd, k1, k2⟩, ⟨i, i1, i2⟩, m0, m1, m2, m3⟩ := o4 k (by omega)
    rw [k2] at m0
    rw [i2] at m1
    have step : ∀ (x : Int32) (v1 : Int32), ∃ al' mu' v', (∀ u N, d < N → lp_X5_executeSerially_4 0 t 0 N v1 (nI (k + 1)) (ca (ua al 5 0 i x) u) = some (v', nI q', ca al' u)) ∧ (∀ u N, d < N → lp_X7_check_41 (nI t) N (w + v1) (nI (k + 1)) (ma (um mu 44 i x) u) = some (w + v', nI q', ma mu' u)) ∧ (∀ i, i < 8 → al' 5 0 i = mu' 44 i) ∧ (∀ a b j, ¬ a = 5 → al' a b j = al a b j) ∧ (∀ a j, ¬ a = 44 → mu' a j = mu a j) := by
      intro x v1
      obtain ⟨al', mu', v', y1, y2, y3, y4, y5⟩ := ih (k + 1) (ua al 5 0 i x) (um mu 44 i x) v1 (by omega) hq (pS_44 hS (fun a b j h => uaK _ _ _ _ _ _ h) (fun a j h _ => umK _ _ _ _ h)) (by rw [uaK _ _ _ _ _ _ (by omega)]; exact h5) (fun i' hi' => by
        by_cases e : i' = i
        · subst e; rw [uaS, umS]
        · rw [uaJ _ _ _ _ _ e, umJ _ _ _ e]; exact hs i' hi')
      exact ⟨al', mu', v', y1, y2, y3, fun a b j h => by rw [y4 a b j h, uaK _ _ _ _ _ _ h], fun a j h => by rw [y5 a j h, umK _ _ _ _ h]⟩
    have hs0 := hs i i1
    have same : ua al 5 0 i (mu 44 i) = al := by
      funext a b c
      unfold ua
      split
      · rename_i h; obtain ⟨rfl, rfl, rfl⟩ := h; exact hs0.symm
      · rfl
    have w0 : ∀ x : Int32, x + nI 0 = x := fun x => by rw [show nI 0 = (0 : Int32) from rfl, Int32.add_zero]
    have w1 : w + v + nI 1 = w + (v + nI 1) := Int32.add_assoc _ _ _
    have key : ∀ x v1, (∀ u N, lp_X5_executeSerially_4 0 t 0 (N + 1) v (nI k) (ca al u) = lp_X5_executeSerially_4 0 t 0 N v1 (nI (k + 1)) (ca (ua al 5 0 i x) u)) → (∀ u N, lp_X7_check_41 (nI t) (N + 1) (w + v) (nI k) (ma mu u) = lp_X7_check_41 (nI t) N (w + v1) (nI (k + 1)) (ma (um mu 44 i x) u)) → ∃ al' mu' v', (∀ u N, d + 1 < N → lp_X5_executeSerially_4 0 t 0 N v (nI k) (ca al u) = some (v', nI q', ca al' u)) ∧ (∀ u N, d + 1 < N → lp_X7_check_41 (nI t) N (w + v) (nI k) (ma mu u) = some (w + v', nI q', ma mu' u)) ∧ (∀ i, i < 8 → al' 5 0 i = mu' 44 i) ∧ (∀ a b j, ¬ a = 5 → al' a b j = al a b j) ∧ (∀ a j, ¬ a = 44 → mu' a j = mu a j) := by
      intro x v1 hc hr
      obtain ⟨al', mu', v', y1, y2, y3, y4, y5⟩ := step x v1
      refine ⟨al', mu', v', fun u N hN => ?_, fun u N hN => ?_, y3, y4, y5⟩
      · obtain ⟨N, rfl⟩ : ∃ b, N = b + 1 := ⟨N - 1, by omega⟩
        rw [hc]; exact y1 u N (by omega)
      · obtain ⟨N, rfl⟩ : ∃ b, N = b + 1 := ⟨N - 1, by omega⟩
        rw [hr]; exact y2 u N (by omega)
    have lp : ∀ (u : ts_Mem) (B : Int32 → Option (Int32 × Int32 × ts_Mem)), (f_X7_listPlace (nI t) (nI k) u).bind B = B (nI (4 * (20 * t + k))) := by
      intro u B
      unfold f_X7_listPlace
      simp (disch := omega) only [li0, li1, li2, li3, li4, li5, li6, li7, li8, li9, li10, li16, li17, li20, li30, li32, li48, li49, li50, li57, li60, li126, li147, nI_add, nI_sb, pk_mul, nI_m1, inrT, leT, leF, ltT, ltF, eqT, eqF, n1lt, m1lt, m1neg, m1nle, m1le, m1a1, m1a2, m1s, m1s', nI_cl, ↓tl, ↓sb, sb, sel, ser, ↓reduceIte, if_true, if_false, true_or, or_true, false_or, or_false, umS, umK, umJ, uaS, uaK, uaI, uaJ]
    rcases (show kd = 0 ∨ kd = 1 ∨ kd = 2 by omega) with rfl | rfl | rfl
    · by_cases e : al 15 t k = mu 44 i
      · refine key (mu 44 i) v (fun u N => ?_) (fun u N => ?_)
        · rw [lp_X5_executeSerially_4, same]
          simp (disch := omega) only [li0, li1, li2, li3, li4, li5, li6, li7, li8, li9, li10, li16, li17, li20, li30, li32, li48, li49, li50, li57, li60, li126, li147, nI_add, nI_sb, pk_mul, nI_m1, inrT, leT, leF, ltT, ltF, eqT, eqF, n1lt, m1lt, m1neg, m1nle, m1le, m1a1, m1a2, m1s, m1s', nI_cl, ↓tl, ↓sb, sb, sel, ser, ↓reduceIte, if_true, if_false, true_or, or_true, false_or, or_false, umS, umK, umJ, uaS, uaK, uaI, uaJ, cg1, cg2, cg3, cg4, cg5, cg6, cg7, cg8, cg9, cg10, cg11, cg12, cg13, cg14, cg15, cg16, cg17, cg18, cg19, cg20, cs1, cs2, cs3, cs4, cs5, cs6, cs7, cs8, cs9, cs10, cs11, cs12, cs13, cs14, cs15, cs16, cs17, cs18, cs19, cs20, cc17, cc18, cc19, cc20, h5, k2, i2, hs0, if_pos e]
        · rw [lp_X7_check_41]
          simp (maxSteps := 1000000) (disch := omega) only [li0, li1, li2, li3, li4, li5, li6, li7, li8, li9, li10, li16, li17, li20, li30, li32, li48, li49, li50, li57, li60, li126, li147, nI_add, nI_sb, pk_mul, nI_m1, inrT, leT, leF, ltT, ltF, eqT, eqF, n1lt, m1lt, m1neg, m1nle, m1le, m1a1, m1a2, m1s, m1s', nI_cl, ↓tl, ↓sb, sb, sel, ser, ↓reduceIte, if_true, if_false, true_or, or_true, false_or, or_false, umS, umK, umJ, uaS, uaK, uaI, uaJ, mg30, mg31, mg32, mg33, mg34, mg35, mg36, mg37, mg38, mg39, mg40, mg41, mg42, mg43, mg44, mg45, mg46, mg47, mg48, mg49, ms30, ms31, ms32, ms33, ms34, ms35, ms36, ms37, ms38, ms39, ms40, ms41, ms42, ms43, ms44, ms45, ms46, ms47, ms48, ms49, ↓lp, o3, m0, m1, m2, m3, if_pos e, w0]
      · refine key (mu 44 i) (v + nI 1) (fun u N => ?_) (fun u N => ?_)
        · rw [lp_X5_executeSerially_4, same]
          simp (disch := omega) only [li0, li1, li2, li3, li4, li5, li6, li7, li8, li9, li10, li16, li17, li20, li30, li32, li48, li49, li50, li57, li60, li126, li147, nI_add, nI_sb, pk_mul, nI_m1, inrT, leT, leF, ltT, ltF, eqT, eqF, n1lt, m1lt, m1neg, m1nle, m1le, m1a1, m1a2, m1s, m1s', nI_cl, ↓tl, ↓sb, sb, sel, ser, ↓reduceIte, if_true, if_false, true_or, or_true, false_or, or_false, umS, umK, umJ, uaS, uaK, uaI, uaJ, cg1, cg2, cg3, cg4, cg5, cg6, cg7, cg8, cg9, cg10, cg11, cg12, cg13, cg14, cg15, cg16, cg17, cg18, cg19, cg20, cs1, cs2, cs3, cs4, cs5, cs6, cs7, cs8, cs9, cs10, cs11, cs12, cs13, cs14, cs15, cs16, cs17, cs18, cs19, cs20, cc17, cc18, cc19, cc20, h5, k2, i2, hs0, if_neg e]
        · rw [lp_X7_check_41]
          simp (maxSteps := 1000000) (disch := omega) only [li0, li1, li2, li3, li4, li5, li6, li7, li8, li9, li10, li16, li17, li20, li30, li32, li48, li49, li50, li57, li60, li126, li147, nI_add, nI_sb, pk_mul, nI_m1, inrT, leT, leF, ltT, ltF, eqT, eqF, n1lt, m1lt, m1neg, m1nle, m1le, m1a1, m1a2, m1s, m1s', nI_cl, ↓tl, ↓sb, sb, sel, ser, ↓reduceIte, if_true, if_false, true_or, or_true, false_or, or_false, umS, umK, umJ, uaS, uaK, uaI, uaJ, mg30, mg31, mg32, mg33, mg34, mg35, mg36, mg37, mg38, mg39, mg40, mg41, mg42, mg43, mg44, mg45, mg46, mg47, mg48, mg49, ms30, ms31, ms32, ms33, ms34, ms35, ms36, ms37, ms38, ms39, ms40, ms41, ms42, ms43, ms44, ms45, ms46, ms47, ms48, ms49, ↓lp, o3, m0, m1, m2, m3, if_neg e, w1]
    · refine key (al 14 t k) v (fun u N => ?_) (fun u N => ?_)
      · rw [lp_X5_executeSerially_4]
        simp (disch := omega) only [li0, li1, li2, li3, li4, li5, li6, li7, li8, li9, li10, li16, li17, li20, li30, li32, li48, li49, li50, li57, li60, li126, li147, nI_add, nI_sb, pk_mul, nI_m1, inrT, leT, leF, ltT, ltF, eqT, eqF, n1lt, m1lt, m1neg, m1nle, m1le, m1a1, m1a2, m1s, m1s', nI_cl, ↓tl, ↓sb, sb, sel, ser, ↓reduceIte, if_true, if_false, true_or, or_true, false_or, or_false, umS, umK, umJ, uaS, uaK, uaI, uaJ, cg1, cg2, cg3, cg4, cg5, cg6, cg7, cg8, cg9, cg10, cg11, cg12, cg13, cg14, cg15, cg16, cg17, cg18, cg19, cg20, cs1, cs2, cs3, cs4, cs5, cs6, cs7, cs8, cs9, cs10, cs11, cs12, cs13, cs14, cs15, cs16, cs17, cs18, cs19, cs20, cc17, cc18, cc19, cc20, h5, k2, i2]
      · rw [lp_X7_check_41]
        simp (maxSteps := 1000000) (disch := omega) only [li0, li1, li2, li3, li4, li5, li6, li7, li8, li9, li10, li16, li17, li20, li30, li32, li48, li49, li50, li57, li60, li126, li147, nI_add, nI_sb, pk_mul, nI_m1, inrT, leT, leF, ltT, ltF, eqT, eqF, n1lt, m1lt, m1neg, m1nle, m1le, m1a1, m1a2, m1s, m1s', nI_cl, ↓tl, ↓sb, sb, sel, ser, ↓reduceIte, if_true, if_false, true_or, or_true, false_or, or_false, umS, umK, umJ, uaS, uaK, uaI, uaJ, mg30, mg31, mg32, mg33, mg34, mg35, mg36, mg37, mg38, mg39, mg40, mg41, mg42, mg43, mg44, mg45, mg46, mg47, mg48, mg49, ms30, ms31, ms32, ms33, ms34, ms35, ms36, ms37, ms38, ms39, ms40, ms41, ms42, ms43, ms44, ms45, ms46, ms47, ms48, ms49, ↓lp, o3, m0, m1, m2, m3, w0]
    · by_cases e : al 15 t k = mu 44 i
      · refine key (mu 44 i + al 14 t k) v (fun u N => ?_) (fun u N => ?_)
        · rw [lp_X5_executeSerially_4]
          simp (disch := omega) only [li0, li1, li2, li3, li4, li5, li6, li7, li8, li9, li10, li16, li17, li20, li30, li32, li48, li49, li50, li57, li60, li126, li147, nI_add, nI_sb, pk_mul, nI_m1, inrT, leT, leF, ltT, ltF, eqT, eqF, n1lt, m1lt, m1neg, m1nle, m1le, m1a1, m1a2, m1s, m1s', nI_cl, ↓tl, ↓sb, sb, sel, ser, ↓reduceIte, if_true, if_false, true_or, or_true, false_or, or_false, umS, umK, umJ, uaS, uaK, uaI, uaJ, cg1, cg2, cg3, cg4, cg5, cg6, cg7, cg8, cg9, cg10, cg11, cg12, cg13, cg14, cg15, cg16, cg17, cg18, cg19, cg20, cs1, cs2, cs3, cs4, cs5, cs6, cs7, cs8, cs9, cs10, cs11, cs12, cs13, cs14, cs15, cs16, cs17, cs18, cs19, cs20, cc17, cc18, cc19, cc20, h5, k2, i2, hs0, if_pos e]
        · rw [lp_X7_check_41]
          simp (maxSteps := 1000000) (disch := omega) only [li0, li1, li2, li3, li4, li5, li6, li7, li8, li9, li10, li16, li17, li20, li30, li32, li48, li49, li50, li57, li60, li126, li147, nI_add, nI_sb, pk_mul, nI_m1, inrT, leT, leF, ltT, ltF, eqT, eqF, n1lt, m1lt, m1neg, m1nle, m1le, m1a1, m1a2, m1s, m1s', nI_cl, ↓tl, ↓sb, sb, sel, ser, ↓reduceIte, if_true, if_false, true_or, or_true, false_or, or_false, umS, umK, umJ, uaS, uaK, uaI, uaJ, mg30, mg31, mg32, mg33, mg34, mg35, mg36, mg37, mg38, mg39, mg40, mg41, mg42, mg43, mg44, mg45, mg46, mg47, mg48, mg49, ms30, ms31, ms32, ms33, ms34, ms35, ms36, ms37, ms38, ms39, ms40, ms41, ms42, ms43, ms44, ms45, ms46, ms47, ms48, ms49, ↓lp, o3, m0, m1, m2, m3, if_pos e, w0]
      · refine key (mu 44 i + al 14 t k) (v + nI 1) (fun u N => ?_) (fun u N => ?_)
        · rw [lp_X5_executeSerially_4]
          simp (disch := omega) only [li0, li1, li2, li3, li4, li5, li6, li7, li8, li9, li10, li16, li17, li20, li30, li32, li48, li49, li50, li57, li60, li126, li147, nI_add, nI_sb, pk_mul, nI_m1, inrT, leT, leF, ltT, ltF, eqT, eqF, n1lt, m1lt, m1neg, m1nle, m1le, m1a1, m1a2, m1s, m1s', nI_cl, ↓tl, ↓sb, sb, sel, ser, ↓reduceIte, if_true, if_false, true_or, or_true, false_or, or_false, umS, umK, umJ, uaS, uaK, uaI, uaJ, cg1, cg2, cg3, cg4, cg5, cg6, cg7, cg8, cg9, cg10, cg11, cg12, cg13, cg14, cg15, cg16, cg17, cg18, cg19, cg20, cs1, cs2, cs3, cs4, cs5, cs6, cs7, cs8, cs9, cs10, cs11, cs12, cs13, cs14, cs15, cs16, cs17, cs18, cs19, cs20, cc17, cc18, cc19, cc20, h5, k2, i2, hs0, if_neg e]
        · rw [lp_X7_check_41]
          simp (maxSteps := 1000000) (disch := omega) only [li0, li1, li2, li3, li4, li5, li6, li7, li8, li9, li10, li16, li17, li20, li30, li32, li48, li49, li50, li57, li60, li126, li147, nI_add, nI_sb, pk_mul, nI_m1, inrT, leT, leF, ltT, ltF, eqT, eqF, n1lt, m1lt, m1neg, m1nle, m1le, m1a1, m1a2, m1s, m1s', nI_cl, ↓tl, ↓sb, sb, sel, ser, ↓reduceIte, if_true, if_false, true_or, or_true, false_or, or_false, umS, umK, umJ, uaS, uaK, uaI, uaJ, mg30, mg31, mg32, mg33, mg34, mg35, mg36, mg37, mg38, mg39, mg40, mg41, mg42, mg43, mg44, mg45, mg46, mg47, mg48, mg49, ms30, ms31, ms32, ms33, ms34, ms35, ms36, ms37, ms38, ms39, ms40, ms41, ms42, ms43, ms44, ms45, ms46, ms47, ms48, ms49, ↓lp, o3, m0, m1, m2, m3, if_neg e, w1]
