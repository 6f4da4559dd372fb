/-! horizon, committed versions -/
theorem hz_loop {al : pu_A} {mu : pu_M} {p n nx : Nat} (hS : pS al mu p n nx) : ∀ d j (v : Int32), j + d = n → ∃ v', (∀ u N, d < N → lp_X0_lowestNeededTimestamp_7 0 (ca al u) N v (nI j) = some (v', nI n)) ∧ (∀ u N, d < N → lp_X7_horizonNow_7 (ma mu u) N v (nI j) = some (v', nI n)) ∧ v'.toInt ≤ v.toInt ∧ (∀ s, j ≤ s → s < n → un al s → v'.toInt ≤ (al 11 s 1).toInt) := by
  obtain ⟨⟨g1, g2, g3, g4, g5, g6, g7, g8, g9, g10⟩, hT, hO, hD, hCs, hE⟩ := hS
  intro d
  induction d with
  | zero =>
    intro j v hj
    obtain rfl : j = n := by omega
    refine ⟨v, fun u N hN => ?_, fun u N hN => ?_, Int.le_refl _, fun s h1 h2 => absurd h1 (by omega)⟩
    · obtain ⟨N, rfl⟩ : ∃ b, N = b + 1 := ⟨N - 1, by omega⟩
      rw [lp_X0_lowestNeededTimestamp_7]
      simp (disch := omega) only [li0, li1, li2, li3, li4, li5, li6, li7, li8, li9, li10, li16, li17, li20, li30, li32, li48, li49, li50, li57, li60, li126, li147, nI_add, nI_sb, pk_mul, nI_m1, inrT, leT, leF, ltT, ltF, eqT, eqF, n1lt, m1lt, m1neg, m1nle, m1le, m1a1, m1a2, m1s, m1s', nI_cl, ↓tl, ↓sb, sb, sel, ser, ↓reduceIte, if_true, if_false, true_or, or_true, false_or, or_false, umS, umK, umJ, uaS, uaK, uaI, uaJ, cg1, cg2, cg3, cg4, cg5, cg6, cg7, cg8, cg9, cg10, cg11, cg12, cg13, cg14, cg15, cg16, cg17, cg18, cg19, cg20, cs1, cs2, cs3, cs4, cs5, cs6, cs7, cs8, cs9, cs10, cs11, cs12, cs13, cs14, cs15, cs16, cs17, cs18, cs19, cs20, cc17, cc18, cc19, cc20, g8]
    · obtain ⟨N, rfl⟩ : ∃ b, N = b + 1 := ⟨N - 1, by omega⟩
      rw [lp_X7_horizonNow_7]
      simp (disch := omega) only [li0, li1, li2, li3, li4, li5, li6, li7, li8, li9, li10, li16, li17, li20, li30, li32, li48, li49, li50, li57, li60, li126, li147, nI_add, nI_sb, pk_mul, nI_m1, inrT, leT, leF, ltT, ltF, eqT, eqF, n1lt, m1lt, m1neg, m1nle, m1le, m1a1, m1a2, m1s, m1s', nI_cl, ↓tl, ↓sb, sb, sel, ser, ↓reduceIte, if_true, if_false, true_or, or_true, false_or, or_false, umS, umK, umJ, uaS, uaK, uaI, uaJ, mg30, mg31, mg32, mg33, mg34, mg35, mg36, mg37, mg38, mg39, mg40, mg41, mg42, mg43, mg44, mg45, mg46, mg47, mg48, mg49, ms30, ms31, ms32, ms33, ms34, ms35, ms36, ms37, ms38, ms39, ms40, ms41, ms42, ms43, ms44, ms45, ms46, ms47, ms48, ms49, g9]
  | succ d ih =>
    intro j v hj
    obtain ⟨-, t1, t2, -⟩ := hT j (by omega)
    by_cases e : un al j
    · obtain ⟨v', q1, q2, q3, q4⟩ := ih (j + 1) (if al 11 j 1 < v then al 11 j 1 else v) (by omega)
      have c1 := fun u => c_unT u e
      have c2 := fun u => r_unT u hT g10 (show j < n by omega) e
      have mle : (if al 11 j 1 < v then al 11 j 1 else v).toInt ≤ v.toInt ∧ (if al 11 j 1 < v then al 11 j 1 else v).toInt ≤ (al 11 j 1).toInt := by
        split
        · rename_i h; rw [Int32.lt_iff_toInt_lt] at h; omega
        · rename_i h; rw [Int32.lt_iff_toInt_lt] at h; omega
      refine ⟨v', fun u N hN => ?_, fun u N hN => ?_, by omega, fun s h1 h2 h3 => ?_⟩
      · obtain ⟨N, rfl⟩ : ∃ b, N = b + 1 := ⟨N - 1, by omega⟩
        have := q1 u N (by omega)
        rw [lp_X0_lowestNeededTimestamp_7]
        simp (disch := omega) only [li0, li1, li2, li3, li4, li5, li6, li7, li8, li9, li10, li16, li17, li20, li30, li32, li48, li49, li50, li57, li60, li126, li147, nI_add, nI_sb, pk_mul, nI_m1, inrT, leT, leF, ltT, ltF, eqT, eqF, n1lt, m1lt, m1neg, m1nle, m1le, m1a1, m1a2, m1s, m1s', nI_cl, ↓tl, ↓sb, sb, sel, ser, ↓reduceIte, if_true, if_false, true_or, or_true, false_or, or_false, umS, umK, umJ, uaS, uaK, uaI, uaJ, cg1, cg2, cg3, cg4, cg5, cg6, cg7, cg8, cg9, cg10, cg11, cg12, cg13, cg14, cg15, cg16, cg17, cg18, cg19, cg20, cs1, cs2, cs3, cs4, cs5, cs6, cs7, cs8, cs9, cs10, cs11, cs12, cs13, cs14, cs15, cs16, cs17, cs18, cs19, cs20, cc17, cc18, cc19, cc20, g8, c1]
        exact this
      · obtain ⟨N, rfl⟩ : ∃ b, N = b + 1 := ⟨N - 1, by omega⟩
        have := q2 u N (by omega)
        rw [lp_X7_horizonNow_7]
        simp (disch := omega) only [li0, li1, li2, li3, li4, li5, li6, li7, li8, li9, li10, li16, li17, li20, li30, li32, li48, li49, li50, li57, li60, li126, li147, nI_add, nI_sb, pk_mul, nI_m1, inrT, leT, leF, ltT, ltF, eqT, eqF, n1lt, m1lt, m1neg, m1nle, m1le, m1a1, m1a2, m1s, m1s', nI_cl, ↓tl, ↓sb, sb, sel, ser, ↓reduceIte, if_true, if_false, true_or, or_true, false_or, or_false, umS, umK, umJ, uaS, uaK, uaI, uaJ, mg30, mg31, mg32, mg33, mg34, mg35, mg36, mg37, mg38, mg39, mg40, mg41, mg42, mg43, mg44, mg45, mg46, mg47, mg48, mg49, ms30, ms31, ms32, ms33, ms34, ms35, ms36, ms37, ms38, ms39, ms40, ms41, ms42, ms43, ms44, ms45, ms46, ms47, ms48, ms49, g9, c2, t2]
        exact this
      · by_cases es : s = j
        · subst es; omega
        · exact q4 s (by omega) h2 h3
    · obtain ⟨v', q1, q2, q3, q4⟩ := ih (j + 1) v (by omega)
      have c1 := fun u => c_unF u e
      have c2 := fun u => r_unF u hT g10 (show j < n by omega) e
      refine ⟨v', fun u N hN => ?_, fun u N hN => ?_, q3, fun s h1 h2 h3 => ?_⟩
      · obtain ⟨N, rfl⟩ : ∃ b, N = b + 1 := ⟨N - 1, by omega⟩
        have := q1 u N (by omega)
        rw [lp_X0_lowestNeededTimestamp_7]
        simp (disch := omega) only [li0, li1, li2, li3, li4, li5, li6, li7, li8, li9, li10, li16, li17, li20, li30, li32, li48, li49, li50, li57, li60, li126, li147, nI_add, nI_sb, pk_mul, nI_m1, inrT, leT, leF, ltT, ltF, eqT, eqF, n1lt, m1lt, m1neg, m1nle, m1le, m1a1, m1a2, m1s, m1s', nI_cl, ↓tl, ↓sb, sb, sel, ser, ↓reduceIte, if_true, if_false, true_or, or_true, false_or, or_false, umS, umK, umJ, uaS, uaK, uaI, uaJ, cg1, cg2, cg3, cg4, cg5, cg6, cg7, cg8, cg9, cg10, cg11, cg12, cg13, cg14, cg15, cg16, cg17, cg18, cg19, cg20, cs1, cs2, cs3, cs4, cs5, cs6, cs7, cs8, cs9, cs10, cs11, cs12, cs13, cs14, cs15, cs16, cs17, cs18, cs19, cs20, cc17, cc18, cc19, cc20, g8, c1]
        exact this
      · obtain ⟨N, rfl⟩ : ∃ b, N = b + 1 := ⟨N - 1, by omega⟩
        have := q2 u N (by omega)
        rw [lp_X7_horizonNow_7]
        simp (disch := omega) only [li0, li1, li2, li3, li4, li5, li6, li7, li8, li9, li10, li16, li17, li20, li30, li32, li48, li49, li50, li57, li60, li126, li147, nI_add, nI_sb, pk_mul, nI_m1, inrT, leT, leF, ltT, ltF, eqT, eqF, n1lt, m1lt, m1neg, m1nle, m1le, m1a1, m1a2, m1s, m1s', nI_cl, ↓tl, ↓sb, sb, sel, ser, ↓reduceIte, if_true, if_false, true_or, or_true, false_or, or_false, umS, umK, umJ, uaS, uaK, uaI, uaJ, mg30, mg31, mg32, mg33, mg34, mg35, mg36, mg37, mg38, mg39, mg40, mg41, mg42, mg43, mg44, mg45, mg46, mg47, mg48, mg49, ms30, ms31, ms32, ms33, ms34, ms35, ms36, ms37, ms38, ms39, ms40, ms41, ms42, ms43, ms44, ms45, ms46, ms47, ms48, ms49, g9, c2]
        exact this
      · by_cases es : s = j
        · subst es; exact absurd h3 e
        · exact q4 s (by omega) h2 h3
theorem hzn {al : pu_A} {mu : pu_M} {p n nx : Nat} (hS : pS al mu p n nx) : ∃ v, (∀ u, f_X0_lowestNeededTimestamp 0 (ca al u) = some v) ∧ (∀ u, f_X7_horizonNow (ma mu u) = some v) ∧ v.toInt ≤ nx ∧ (∀ s, s < n → un al s → v.toInt ≤ (al 11 s 1).toInt) := by
  have g10 : n ≤ 16 := hS.1.2.2.2.2.2.2.2.2.2
  have g4 : al 1 0 1 = nI nx := hS.1.2.2.2.1
  have g5 : mu 30 3 = nI nx := hS.1.2.2.2.2.1
  have g7 : nx < 2 ^ 30 := hS.1.2.2.2.2.2.2.1
  obtain ⟨v, q1, q2, q3, q4⟩ := hz_loop hS n 0 (nI nx) (by omega)
  rw [toI_nI (by omega)] at q3
  refine ⟨v, fun u => ?_, fun u => ?_, q3, fun s hs h => q4 s (by omega) hs h⟩
  · unfold f_X0_lowestNeededTimestamp
    have h1 := fun u => q1 u ts_fu (by unfold ts_fu; omega)
    simp (disch := omega) only [li0, li1, li2, li3, li4, li5, li6, li7, li8, li9, li10, li16, li17, li20, li30, li32, li48, li49, li50, li57, li60, li126, li147, nI_add, nI_sb, pk_mul, nI_m1, inrT, leT, leF, ltT, ltF, eqT, eqF, n1lt, m1lt, m1neg, m1nle, m1le, m1a1, m1a2, m1s, m1s', nI_cl, ↓tl, ↓sb, sb, sel, ser, ↓reduceIte, if_true, if_false, true_or, or_true, false_or, or_false, umS, umK, umJ, uaS, uaK, uaI, uaJ, cg1, cg2, cg3, cg4, cg5, cg6, cg7, cg8, cg9, cg10, cg11, cg12, cg13, cg14, cg15, cg16, cg17, cg18, cg19, cg20, cs1, cs2, cs3, cs4, cs5, cs6, cs7, cs8, cs9, cs10, cs11, cs12, cs13, cs14, cs15, cs16, cs17, cs18, cs19, cs20, cc17, cc18, cc19, cc20, g4, h1]
  · unfold f_X7_horizonNow
    have h1 := fun u => q2 u ts_fu (by unfold ts_fu; omega)
    simp (disch := omega) only [li0, li1, li2, li3, li4, li5, li6, li7, li8, li9, li10, li16, li17, li20, li30, li32, li48, li49, li50, li57, li60, li126, li147, nI_add, nI_sb, pk_mul, nI_m1, inrT, leT, leF, ltT, ltF, eqT, eqF, n1lt, m1lt, m1neg, m1nle, m1le, m1a1, m1a2, m1s, m1s', nI_cl, ↓tl, ↓sb, sb, sel, ser, ↓reduceIte, if_true, if_false, true_or, or_true, false_or, or_false, umS, umK, umJ, uaS, uaK, uaI, uaJ, mg30, mg31, mg32, mg33, mg34, mg35, mg36, mg37, mg38, mg39, mg40, mg41, mg42, mg43, mg44, mg45, mg46, mg47, mg48, mg49, ms30, ms31, ms32, ms33, ms34, ms35, ms36, ms37, ms38, ms39, ms40, ms41, ms42, ms43, ms44, ms45, ms46, ms47, ms48, ms49, g5, h1]
def uwB (al : pu_A) (i k : Nat) : Bool := !decide (al 20 i k = -nI 1) && unB al (al 20 i k).toNatClampNeg
theorem c_uw {al : pu_A} {n i c k : Nat} (u : ts_Mem) (hnn : al 1 0 2 = nI n) (hn : n ≤ 16) (hW : pW al n i c) (hk : k < c) : f_X0_isUncommittedWriter 0 (al 20 i k) (ca al u) = some (if uwB al i k then nI 1 else nI 0) := by
  unfold uwB
  rcases hW.2.2.1 k hk with ⟨a, -⟩ | ⟨w, b1, b2, -⟩
  · rw [a]; simp only [decide_true, Bool.not_true, Bool.false_and]; exact c_uwN u
  · rw [b2, nI_cl (by omega)]
    have e : ¬ nI w = -nI 1 := by rw [n1lt (by omega)]; exact id
    simp only [e, decide_false, Bool.not_false, Bool.true_and]
    cases h : unB al w
    · exact c_uwF u hnn hn b1 (unB_f.mp h)
    · exact c_uwT u hnn hn b1 (unB_t.mp h)
theorem r_cm {al : pu_A} {mu : pu_M} {p n nx i c k : Nat} (u : ts_Mem) (hS : pS al mu p n nx) (hi : i < 8) (hC : pC al mu i c) (hW : pW al n i c) (hk : k < c) : f_X7_isCommitted (nI i) (nI k) (ma mu u) = some (if uwB al i k then nI 0 else nI 1) := by
  have g10 : n ≤ 16 := hS.1.2.2.2.2.2.2.2.2.2
  have hT := hS.2.1
  obtain ⟨d1, d2, d3, d4⟩ := hC
  have w := (d4 k hk).2.2.2
  unfold f_X7_isCommitted f_X7_place uwB
  rcases hW.2.2.1 k hk with ⟨a, -⟩ | ⟨w', b1, b2, -⟩
  · rw [a] at w ⊢
    simp (disch := omega) only [li0, li1, li2, li3, li4, li5, li6, li7, li8, li9, li10, li16, li17, li20, li30, li32, li48, li49, li50, li57, li60, li126, li147, nI_add, nI_sb, pk_mul, nI_m1, inrT, leT, leF, ltT, ltF, eqT, eqF, n1lt, m1lt, m1neg, m1nle, m1le, m1a1, m1a2, m1s, m1s', nI_cl, ↓tl, ↓sb, sb, sel, ser, ↓reduceIte, if_true, if_false, true_or, or_true, false_or, or_false, umS, umK, umJ, uaS, uaK, uaI, uaJ, mg30, mg31, mg32, mg33, mg34, mg35, mg36, mg37, mg38, mg39, mg40, mg41, mg42, mg43, mg44, mg45, mg46, mg47, mg48, mg49, ms30, ms31, ms32, ms33, ms34, ms35, ms36, ms37, ms38, ms39, ms40, ms41, ms42, ms43, ms44, ms45, ms46, ms47, ms48, ms49, w, r_unN, decide_true, Bool.not_true, Bool.false_and]
    rfl
  · rw [b2] at w ⊢
    rw [nI_cl (show w' < 2 ^ 31 by omega)]
    have e : ¬ nI w' = -nI 1 := by rw [n1lt (by omega)]; exact id
    simp only [e, decide_false, Bool.not_false, Bool.true_and]
    cases h : unB al w'
    · have := r_unF u hT g10 b1 (unB_f.mp h)
      simp (disch := omega) only [li0, li1, li2, li3, li4, li5, li6, li7, li8, li9, li10, li16, li17, li20, li30, li32, li48, li49, li50, li57, li60, li126, li147, nI_add, nI_sb, pk_mul, nI_m1, inrT, leT, leF, ltT, ltF, eqT, eqF, n1lt, m1lt, m1neg, m1nle, m1le, m1a1, m1a2, m1s, m1s', nI_cl, ↓tl, ↓sb, sb, sel, ser, ↓reduceIte, if_true, if_false, true_or, or_true, false_or, or_false, umS, umK, umJ, uaS, uaK, uaI, uaJ, mg30, mg31, mg32, mg33, mg34, mg35, mg36, mg37, mg38, mg39, mg40, mg41, mg42, mg43, mg44, mg45, mg46, mg47, mg48, mg49, ms30, ms31, ms32, ms33, ms34, ms35, ms36, ms37, ms38, ms39, ms40, ms41, ms42, ms43, ms44, ms45, ms46, ms47, ms48, ms49, w, this]
      rfl
    · have := r_unT u hT g10 b1 (unB_t.mp h)
      simp (disch := omega) only [li0, li1, li2, li3, li4, li5, li6, li7, li8, li9, li10, li16, li17, li20, li30, li32, li48, li49, li50, li57, li60, li126, li147, nI_add, nI_sb, pk_mul, nI_m1, inrT, leT, leF, ltT, ltF, eqT, eqF, n1lt, m1lt, m1neg, m1nle, m1le, m1a1, m1a2, m1s, m1s', nI_cl, ↓tl, ↓sb, sb, sel, ser, ↓reduceIte, if_true, if_false, true_or, or_true, false_or, or_false, umS, umK, umJ, uaS, uaK, uaI, uaJ, mg30, mg31, mg32, mg33, mg34, mg35, mg36, mg37, mg38, mg39, mg40, mg41, mg42, mg43, mg44, mg45, mg46, mg47, mg48, mg49, ms30, ms31, ms32, ms33, ms34, ms35, ms36, ms37, ms38, ms39, ms40, ms41, ms42, ms43, ms44, ms45, ms46, ms47, ms48, ms49, w, this]
