/-! a reset on both sides -/
theorem rt_loop (c1 c2 : Int32) : ∀ d j (mu : pu_M), j + d = 9 → ∃ mu', (∀ u N, d < N → lp_X7_reset_47 c1 c2 N (nI j) (ma mu u) = some (nI 9, ma mu' u)) ∧ (∀ k, j ≤ k → k < 9 → mu' 41 k = nI 0) ∧ (∀ a x, ¬ a = 41 ∨ x < j → mu' a x = mu a x) := by
  intro d
  induction d with
  | zero =>
    intro j al hj
    obtain rfl : j = 9 := by omega
    refine ⟨al, fun u N hN => ?_, fun i h1 h2 => absurd h1 (by omega), fun _ _ _ => rfl⟩
    obtain ⟨N, rfl⟩ : ∃ b, N = b + 1 := ⟨N - 1, by omega⟩
    rw [lp_X7_reset_47]
    simp (disch := omega) only [li0, li1, li2, li3, li4, li5, li6, li7, li8, li9, li10, li16, li17, li20, li30, li32, li48, li49, li50, li57, li60, li126, li147, nI_add, nI_sb, pk_mul, nI_m1, inrT, leT, leF, ltT, ltF, eqT, eqF, n1lt, m1lt, m1neg, m1nle, m1le, m1a1, m1a2, m1s, m1s', nI_cl, ↓tl, ↓sb, sb, sel, ser, ↓reduceIte, if_true, if_false, true_or, or_true, false_or, or_false, umS, umK, umJ, uaS, uaK, uaI, uaJ]
  | succ d ih =>
    intro j al hj
    obtain ⟨al', q1, q2, q3⟩ := ih (j + 1) (um al 41 j (nI 0)) (by omega)
    refine ⟨al', fun u N hN => ?_, fun i h1 h2 => ?_, fun a x h => ?_⟩
    · obtain ⟨N, rfl⟩ : ∃ b, N = b + 1 := ⟨N - 1, by omega⟩
      have := q1 u N (by omega)
      rw [lp_X7_reset_47]
      simp (disch := omega) only [li0, li1, li2, li3, li4, li5, li6, li7, li8, li9, li10, li16, li17, li20, li30, li32, li48, li49, li50, li57, li60, li126, li147, nI_add, nI_sb, pk_mul, nI_m1, inrT, leT, leF, ltT, ltF, eqT, eqF, n1lt, m1lt, m1neg, m1nle, m1le, m1a1, m1a2, m1s, m1s', nI_cl, ↓tl, ↓sb, sb, sel, ser, ↓reduceIte, if_true, if_false, true_or, or_true, false_or, or_false, umS, umK, umJ, uaS, uaK, uaI, uaJ, mg30, mg31, mg32, mg33, mg34, mg35, mg36, mg37, mg38, mg39, mg40, mg41, mg42, mg43, mg44, mg45, mg46, mg47, mg48, mg49, ms30, ms31, ms32, ms33, ms34, ms35, ms36, ms37, ms38, ms39, ms40, ms41, ms42, ms43, ms44, ms45, ms46, ms47, ms48, ms49]
      exact this
    · by_cases e : i = j
      · subst e
        simp (disch := omega) only [q3, umS]
      · exact q2 i (by omega) h2
    · rw [q3 a x (by omega)]
      unfold um
      rw [if_neg (by omega)]
theorem rsb {al : pu_A} {mu : pu_M} {p : Nat} (hp : p ≤ 2) : ∃ al' mu', (∀ u, f_X0_startAnew 0 (nI p) (ca al u) = some (ca al' u)) ∧ (∀ u, f_X7_reset (nI p) (ma mu u) = some (mu 30 1, ma mu' u)) ∧ pS al' mu' p 0 1 ∧ pR al' 0 ∧ mu' 30 0 = nI 0 ∧ (∀ a j, (a = 30 ∧ 14 < j) ∨ 41 < a → mu' a j = mu a j) := by
  obtain ⟨al1, x1, x2, x3⟩ := kf_loop (nI p) 8 0 (ua (ua (ua al 1 0 0 (nI p)) 1 0 1 (nI 1)) 1 0 2 (nI 0)) (by omega)
  obtain ⟨al2, y1, y2, y3⟩ := ft_loop 9 0 (ua (ua al1 4 0 0 (nI 0)) 4 0 1 (nI 0)) (by omega)
  obtain ⟨mu1, z1, z2, z3⟩ := rt_loop (nI p) (mu 30 1) 9 0 (um (um (um (um (um mu 30 0 (nI 0)) 30 1 (nI p)) 30 2 (nI 0)) 30 3 (nI 1)) 30 14 (nI 0)) (by omega)
  obtain ⟨mu2, w1, w2, w3, -, -⟩ := cl_loop 8 0 mu1 (by omega)
  refine ⟨al2, mu2, fun u => ?_, fun u => ?_, ?_⟩
  · unfold f_X0_startAnew f_X2_forgetAll
    have h1 := fun u => x1 u ts_fu (by unfold ts_fu; omega)
    have h2 := fun u => y1 u ts_fu (by unfold ts_fu; omega)
    simp (disch := omega) only [li0, li1, li2, li3, li4, li5, li6, li7, li8, li9, li10, li16, li17, li20, li30, li32, li48, li49, li50, li57, li60, li126, li147, nI_add, nI_sb, pk_mul, nI_m1, inrT, leT, leF, ltT, ltF, eqT, eqF, n1lt, m1lt, m1neg, m1nle, m1le, m1a1, m1a2, m1s, m1s', nI_cl, ↓tl, ↓sb, sb, sel, ser, ↓reduceIte, if_true, if_false, true_or, or_true, false_or, or_false, umS, umK, umJ, uaS, uaK, uaI, uaJ, cg1, cg2, cg3, cg4, cg5, cg6, cg7, cg8, cg9, cg10, cg11, cg12, cg13, cg14, cg15, cg16, cg17, cg18, cg19, cg20, cs1, cs2, cs3, cs4, cs5, cs6, cs7, cs8, cs9, cs10, cs11, cs12, cs13, cs14, cs15, cs16, cs17, cs18, cs19, cs20, cc17, cc18, cc19, cc20, h1, h2]
  · unfold f_X7_reset f_X7_isIn f_X7_clearItems
    have h1 := fun u => z1 u ts_fu (by unfold ts_fu; omega)
    have h2 := fun u => w1 u ts_fu (by unfold ts_fu; omega)
    simp (disch := omega) only [li0, li1, li2, li3, li4, li5, li6, li7, li8, li9, li10, li16, li17, li20, li30, li32, li48, li49, li50, li57, li60, li126, li147, nI_add, nI_sb, pk_mul, nI_m1, inrT, leT, leF, ltT, ltF, eqT, eqF, n1lt, m1lt, m1neg, m1nle, m1le, m1a1, m1a2, m1s, m1s', nI_cl, ↓tl, ↓sb, sb, sel, ser, ↓reduceIte, if_true, if_false, true_or, or_true, false_or, or_false, umS, umK, umJ, uaS, uaK, uaI, uaJ, mg30, mg31, mg32, mg33, mg34, mg35, mg36, mg37, mg38, mg39, mg40, mg41, mg42, mg43, mg44, mg45, mg46, mg47, mg48, mg49, ms30, ms31, ms32, ms33, ms34, ms35, ms36, ms37, ms38, ms39, ms40, ms41, ms42, ms43, ms44, ms45, ms46, ms47, ms48, ms49, h1, h2]
  · have hz := pS_zero (al := al2) (mu := mu2) (p := p) hp ?_ ?_ ?_ ?_ ?_ ?_ ?_ (fun i hi => w2 i (by omega) hi) ?_ ?_ ?_ (fun k hk => y2 k (by omega) hk) ?_
    · refine ⟨hz.1, hz.2, ?_, fun a j h => ?_⟩
      · rw [w3 _ _ (by decide) (by decide), z3 _ _ (by omega)]
        simp (disch := omega) only [umS, umJ]
      · rw [w3 _ _ (by omega) (by omega), z3 _ _ (by omega)]
        unfold um
        rw [if_neg (by omega), if_neg (by omega), if_neg (by omega), if_neg (by omega), if_neg (by omega)]
    · simp (disch := omega) only [y3, x3, uaS, uaJ, uaK]
    · rw [w3 _ _ (by decide) (by decide), z3 _ _ (by omega)]
      simp (disch := omega) only [umS, umJ]
    · simp (disch := omega) only [y3, x3, uaS, uaJ, uaK]
    · rw [w3 _ _ (by decide) (by decide), z3 _ _ (by omega)]
      simp (disch := omega) only [umS, umJ]
    · simp (disch := omega) only [y3, x3, uaS, uaJ, uaK]
    · rw [w3 _ _ (by decide) (by decide), z3 _ _ (by omega)]
      simp (disch := omega) only [umS, umJ]
    · intro i hi
      simp (disch := omega) only [y3, uaK]
      exact x2 i (by omega) hi
    · simp (disch := omega) only [y3, uaS, uaJ]
    · simp (disch := omega) only [y3, uaS]
    · rw [w3 _ _ (by decide) (by decide), z3 _ _ (by omega)]
      simp (disch := omega) only [umS]
    · intro k hk
      rw [w3 _ _ (by decide) (by decide)]
      exact z2 k (by omega) hk
