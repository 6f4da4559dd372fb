/-! a reset -/
theorem kf_loop (c1 : Int32) : ∀ d j (al : pu_A), j + d = 8 → ∃ al', (∀ u N, d < N → lp_X0_startAnew_17 0 c1 N (nI j) (ca al u) = some (nI 8, ca al' u)) ∧ (∀ i, j ≤ i → i < 8 → al' 16 i 0 = nI 1 ∧ al' 17 i 0 = nI 0 ∧ al' 18 i 0 = nI 0 ∧ al' 19 i 0 = nI 0 ∧ al' 20 i 0 = -nI 1) ∧ (∀ a b x, a < 16 ∨ 20 < a ∨ b < j → al' a b x = al a b x) := by
  intro d
  induction d with
  | zero =>
    intro j al hj
    obtain rfl : j = 8 := by omega
    refine ⟨al, fun u N hN => ?_, fun i h1 h2 => absurd h1 (by omega), fun _ _ _ _ => rfl⟩
    obtain ⟨N, rfl⟩ : ∃ b, N = b + 1 := ⟨N - 1, by omega⟩
    rw [lp_X0_startAnew_17]
    simp (disch := omega) only [li0, li1, li2, li3, li4, li5, li6, li7, li8, li9, li10, li16, li17, li20, li30, li32, li48, li49, li50, li57, li60, li126, li147, nI_add, nI_sb, pk_mul, nI_m1, inrT, leT, leF, ltT, ltF, eqT, eqF, n1lt, m1lt, m1neg, m1nle, m1le, m1a1, m1a2, m1s, m1s', nI_cl, ↓tl, ↓sb, sb, sel, ser, ↓reduceIte, if_true, if_false, true_or, or_true, false_or, or_false, umS, umK, umJ, uaS, uaK, uaI, uaJ]
  | succ d ih =>
    intro j al hj
    obtain ⟨al', q1, q2, q3⟩ := ih (j + 1) (ua (ua (ua (ua (ua al 16 j 0 (nI 1)) 17 j 0 (nI 0)) 18 j 0 (nI 0)) 19 j 0 (nI 0)) 20 j 0 (-nI 1)) (by omega)
    refine ⟨al', fun u N hN => ?_, fun i h1 h2 => ?_, fun a b x h => ?_⟩
    · obtain ⟨N, rfl⟩ : ∃ b, N = b + 1 := ⟨N - 1, by omega⟩
      have := q1 u N (by omega)
      rw [lp_X0_startAnew_17]
      unfold f_X1_keepFirstVersionOnly
      simp (disch := omega) only [li0, li1, li2, li3, li4, li5, li6, li7, li8, li9, li10, li16, li17, li20, li30, li32, li48, li49, li50, li57, li60, li126, li147, nI_add, nI_sb, pk_mul, nI_m1, inrT, leT, leF, ltT, ltF, eqT, eqF, n1lt, m1lt, m1neg, m1nle, m1le, m1a1, m1a2, m1s, m1s', nI_cl, ↓tl, ↓sb, sb, sel, ser, ↓reduceIte, if_true, if_false, true_or, or_true, false_or, or_false, umS, umK, umJ, uaS, uaK, uaI, uaJ, cg1, cg2, cg3, cg4, cg5, cg6, cg7, cg8, cg9, cg10, cg11, cg12, cg13, cg14, cg15, cg16, cg17, cg18, cg19, cg20, cs1, cs2, cs3, cs4, cs5, cs6, cs7, cs8, cs9, cs10, cs11, cs12, cs13, cs14, cs15, cs16, cs17, cs18, cs19, cs20, cc17, cc18, cc19, cc20]
      exact this
    · by_cases e : i = j
      · subst e
        simp (disch := omega) only [q3, uaK, uaS, and_self]
      · exact q2 i (by omega) h2
    · rw [q3 a b x (by omega)]
      unfold ua
      rw [if_neg (by omega), if_neg (by omega), if_neg (by omega), if_neg (by omega), if_neg (by omega)]
theorem ft_loop : ∀ d j (al : pu_A), j + d = 9 → ∃ al', (∀ u N, d < N → lp_X2_forgetAll_12 0 N (nI j) (ca al u) = some (nI 9, ca al' u)) ∧ (∀ k, j ≤ k → k < 9 → al' 10 0 k = nI 0) ∧ (∀ a b x, ¬ a = 10 ∨ x < j → al' a b x = al a b x) := by
  intro d
  induction d with
  | zero =>
    intro j al hj
    obtain rfl : j = 9 := by omega
    refine ⟨al, fun u N hN => ?_, fun i h1 h2 => absurd h1 (by omega), fun _ _ _ _ => rfl⟩
    obtain ⟨N, rfl⟩ : ∃ b, N = b + 1 := ⟨N - 1, by omega⟩
    rw [lp_X2_forgetAll_12]
    simp (disch := omega) only [li0, li1, li2, li3, li4, li5, li6, li7, li8, li9, li10, li16, li17, li20, li30, li32, li48, li49, li50, li57, li60, li126, li147, nI_add, nI_sb, pk_mul, nI_m1, inrT, leT, leF, ltT, ltF, eqT, eqF, n1lt, m1lt, m1neg, m1nle, m1le, m1a1, m1a2, m1s, m1s', nI_cl, ↓tl, ↓sb, sb, sel, ser, ↓reduceIte, if_true, if_false, true_or, or_true, false_or, or_false, umS, umK, umJ, uaS, uaK, uaI, uaJ]
  | succ d ih =>
    intro j al hj
    obtain ⟨al', q1, q2, q3⟩ := ih (j + 1) (ua al 10 0 j (nI 0)) (by omega)
    refine ⟨al', fun u N hN => ?_, fun i h1 h2 => ?_, fun a b x h => ?_⟩
    · obtain ⟨N, rfl⟩ : ∃ b, N = b + 1 := ⟨N - 1, by omega⟩
      have := q1 u N (by omega)
      rw [lp_X2_forgetAll_12]
      simp (disch := omega) only [li0, li1, li2, li3, li4, li5, li6, li7, li8, li9, li10, li16, li17, li20, li30, li32, li48, li49, li50, li57, li60, li126, li147, nI_add, nI_sb, pk_mul, nI_m1, inrT, leT, leF, ltT, ltF, eqT, eqF, n1lt, m1lt, m1neg, m1nle, m1le, m1a1, m1a2, m1s, m1s', nI_cl, ↓tl, ↓sb, sb, sel, ser, ↓reduceIte, if_true, if_false, true_or, or_true, false_or, or_false, umS, umK, umJ, uaS, uaK, uaI, uaJ, cg1, cg2, cg3, cg4, cg5, cg6, cg7, cg8, cg9, cg10, cg11, cg12, cg13, cg14, cg15, cg16, cg17, cg18, cg19, cg20, cs1, cs2, cs3, cs4, cs5, cs6, cs7, cs8, cs9, cs10, cs11, cs12, cs13, cs14, cs15, cs16, cs17, cs18, cs19, cs20, cc17, cc18, cc19, cc20]
      exact this
    · by_cases e : i = j
      · subst e
        simp (disch := omega) only [q3, uaS]
      · exact q2 i (by omega) h2
    · rw [q3 a b x (by omega)]
      unfold ua
      rw [if_neg (by omega)]
theorem cl_loop : ∀ d j (mu : pu_M), j + d = 8 → ∃ mu', (∀ u N, d < N → lp_X7_clearItems_2 N (nI j) (ma mu u) = some (nI 8, ma mu' u)) ∧ (∀ i, j ≤ i → i < 8 → mu' 38 i = nI 1 ∧ mu' 39 (4 * (20 * i + 0)) = nI 0 ∧ mu' 39 (4 * (20 * i + 0) + 1) = nI 0 ∧ mu' 39 (4 * (20 * i + 0) + 2) = nI 0 ∧ mu' 39 (4 * (20 * i + 0) + 3) = -nI 1) ∧ (∀ a b, ¬ a = 38 → ¬ a = 39 → mu' a b = mu a b) ∧ (∀ b, b < j → mu' 38 b = mu 38 b) ∧ (∀ b, b < 80 * j → mu' 39 b = mu 39 b) := by
  intro d
  induction d with
  | zero =>
    intro j mu hj
    obtain rfl : j = 8 := by omega
    refine ⟨mu, fun u N hN => ?_, fun i h1 h2 => absurd h1 (by omega), fun _ _ _ _ => rfl, fun _ _ => rfl, fun _ _ => rfl⟩
    obtain ⟨N, rfl⟩ : ∃ b, N = b + 1 := ⟨N - 1, by omega⟩
    rw [lp_X7_clearItems_2]
    simp (disch := omega) only [li0, li1, li2, li3, li4, li5, li6, li7, li8, li9, li10, li16, li17, li20, li30, li32, li48, li49, li50, li57, li60, li126, li147, nI_add, nI_sb, pk_mul, nI_m1, inrT, leT, leF, ltT, ltF, eqT, eqF, n1lt, m1lt, m1neg, m1nle, m1le, m1a1, m1a2, m1s, m1s', nI_cl, ↓tl, ↓sb, sb, sel, ser, ↓reduceIte, if_true, if_false, true_or, or_true, false_or, or_false, umS, umK, umJ, uaS, uaK, uaI, uaJ]
  | succ d ih =>
    intro j mu hj
    have hp := fun u => r_put (um mu 38 j (nI 1)) u j 0 (nI 0) (nI 0) (nI 0) (-nI 1) (by omega) (by omega)
    obtain ⟨mu', q1, q2, q3, q4, q5⟩ := ih (j + 1) (mPut (um mu 38 j (nI 1)) j 0 (nI 0) (nI 0) (nI 0) (-nI 1)) (by omega)
    refine ⟨mu', fun u N hN => ?_, fun i h1 h2 => ?_, fun a b h1 h2 => ?_, fun b h => ?_, fun b h => ?_⟩
    · obtain ⟨N, rfl⟩ : ∃ b, N = b + 1 := ⟨N - 1, by omega⟩
      have := q1 u N (by omega)
      rw [lp_X7_clearItems_2]
      simp (disch := omega) only [li0, li1, li2, li3, li4, li5, li6, li7, li8, li9, li10, li16, li17, li20, li30, li32, li48, li49, li50, li57, li60, li126, li147, nI_add, nI_sb, pk_mul, nI_m1, inrT, leT, leF, ltT, ltF, eqT, eqF, n1lt, m1lt, m1neg, m1nle, m1le, m1a1, m1a2, m1s, m1s', nI_cl, ↓tl, ↓sb, sb, sel, ser, ↓reduceIte, if_true, if_false, true_or, or_true, false_or, or_false, umS, umK, umJ, uaS, uaK, uaI, uaJ, mg30, mg31, mg32, mg33, mg34, mg35, mg36, mg37, mg38, mg39, mg40, mg41, mg42, mg43, mg44, mg45, mg46, mg47, mg48, mg49, ms30, ms31, ms32, ms33, ms34, ms35, ms36, ms37, ms38, ms39, ms40, ms41, ms42, ms43, ms44, ms45, ms46, ms47, ms48, ms49, hp]
      exact this
    · by_cases e : i = j
      · subst e
        refine ⟨?_, ?_, ?_, ?_, ?_⟩
        · rw [q4 _ (by omega), mPut_k _ _ _ _ _ _ _ _ (by decide), umS]
        · rw [q5 _ (by omega), mPut_0]
        · rw [q5 _ (by omega), mPut_1]
        · rw [q5 _ (by omega), mPut_2]
        · rw [q5 _ (by omega), mPut_3]
      · exact q2 i (by omega) h2
    · rw [q3 a b h1 h2, mPut_k _ _ _ _ _ _ _ _ h2, umK _ _ _ _ h1]
    · rw [q4 b (by omega), mPut_k _ _ _ _ _ _ _ _ (by decide), umJ _ _ _ (by omega)]
    · rw [q5 b (by omega), mPut_j _ _ _ _ _ _ _ _ (by omega), umK _ _ _ _ (by decide)]
/-- a bench with no transaction, first versions only, no events -/
theorem pS_zero {al : pu_A} {mu : pu_M} {p : Nat} (hp : p ≤ 2) (h1 : al 1 0 0 = nI p) (h2 : mu 30 1 = nI p) (h3 : al 1 0 1 = nI 1) (h4 : mu 30 3 = nI 1) (h5 : al 1 0 2 = nI 0) (h6 : mu 30 2 = nI 0) (hc : ∀ i, i < 8 → al 16 i 0 = nI 1 ∧ al 17 i 0 = nI 0 ∧ al 18 i 0 = nI 0 ∧ al 19 i 0 = nI 0 ∧ al 20 i 0 = -nI 1) (hm : ∀ i, i < 8 → mu 38 i = nI 1 ∧ mu 39 (4 * (20 * i + 0)) = nI 0 ∧ mu 39 (4 * (20 * i + 0) + 1) = nI 0 ∧ mu 39 (4 * (20 * i + 0) + 2) = nI 0 ∧ mu 39 (4 * (20 * i + 0) + 3) = -nI 1) (he : al 4 0 0 = nI 0) (he2 : al 4 0 1 = nI 0) (he3 : mu 30 14 = nI 0) (ht : ∀ k, k < 9 → al 10 0 k = nI 0) (ht2 : ∀ k, k < 9 → mu 41 k = nI 0) : pS al mu p 0 1 ∧ pR al 0 := by
  refine ⟨⟨⟨h1, h2, hp, h3, h4, by omega, by decide, h5, h6, by omega⟩, fun t ht => absurd ht (by omega), fun t ht => absurd ht (by omega), fun t ht => absurd ht (by omega), fun i hi => ⟨1, ?_, by omega, fun k k' a b => by omega, fun k hk => ?_, ?_, fun t ht => absurd ht (by omega)⟩, 0, 0, he, he2, by omega, by omega, he3, fun i hi => absurd hi (by omega), fun k hk => ?_⟩, fun t ht => absurd ht (by omega)⟩
  · obtain ⟨c1, c2, c3, c4, c5⟩ := hc i hi
    obtain ⟨m1, m2, m3, m4, m5⟩ := hm i hi
    refine ⟨c1, m1, by omega, fun k hk => ?_⟩
    obtain rfl : k = 0 := by omega
    rw [m2, m3, m4, m5, c2, c3, c4, c5]
    exact ⟨rfl, rfl, rfl, rfl⟩
  · obtain rfl : k = 0 := by omega
    exact Or.inl ⟨(hc i hi).2.2.2.2, (hc i hi).2.1⟩
  · exact Or.inl (hc i hi).2.2.2.2
  · rw [ht k hk, ht2 k hk]
