/-! old versions go -/
theorem r_col {i c f : Nat} (hi : i < 8) (h17 : c ≤ 17) : ∀ d j (mu : pu_M), j + d = c → f ≤ j → mu 38 i = nI c → ∃ mu', (∀ u c1 c2 N, d < N → lp_X7_collect_36 c1 c2 (nI i) (nI f) N (nI j) (ma mu u) = some (nI c, ma mu' u)) ∧ (∀ a b, ¬ a = 39 → mu' a b = mu a b) ∧ (∀ b, b < 80 * i ∨ 80 * i + 80 ≤ b → mu' 39 b = mu 39 b) ∧ (∀ k e, k < j - f → e < 4 → mu' 39 (4 * (20 * i + k) + e) = mu 39 (4 * (20 * i + k) + e)) ∧ (∀ k e, j - f ≤ k → k < c - f → e < 4 → mu' 39 (4 * (20 * i + k) + e) = mu 39 (4 * (20 * i + (k + f)) + e)) := by
  intro d
  induction d with
  | zero =>
    intro j mu hj hf hm
    obtain rfl : j = c := by omega
    refine ⟨mu, fun u c1 c2 N hN => ?_, fun _ _ _ => rfl, fun _ _ => rfl, fun _ _ _ _ => rfl, fun k e h1 h2 => absurd h1 (by omega)⟩
    obtain ⟨N, rfl⟩ : ∃ b, N = b + 1 := ⟨N - 1, by omega⟩
    rw [lp_X7_collect_36]
    simp (disch := omega) only [li0, li1, li2, li3, li4, li5, li6, li7, li8, li9, li10, li16, li17, li20, li30, li32, li48, li49, li50, li57, li60, li126, li147, nI_add, nI_sb, pk_mul, nI_m1, inrT, leT, leF, ltT, ltF, eqT, eqF, n1lt, m1lt, m1neg, m1nle, m1le, m1a1, m1a2, m1s, m1s', nI_cl, ↓tl, ↓sb, sb, sel, ser, ↓reduceIte, if_true, if_false, true_or, or_true, false_or, or_false, umS, umK, umJ, uaS, uaK, uaI, uaJ, mg30, mg31, mg32, mg33, mg34, mg35, mg36, mg37, mg38, mg39, mg40, mg41, mg42, mg43, mg44, mg45, mg46, mg47, mg48, mg49, ms30, ms31, ms32, ms33, ms34, ms35, ms36, ms37, ms38, ms39, ms40, ms41, ms42, ms43, ms44, ms45, ms46, ms47, ms48, ms49, hm]
  | succ d ih =>
    intro j mu hj hf hm
    have hp := fun u => r_put mu u i (j - f) (mu 39 (4 * (20 * i + j))) (mu 39 (4 * (20 * i + j) + 1)) (mu 39 (4 * (20 * i + j) + 2)) (mu 39 (4 * (20 * i + j) + 3)) hi (by omega)
    obtain ⟨mu', q0, q1, q2, q3, q4⟩ := ih (j + 1) (mPut mu i (j - f) (mu 39 (4 * (20 * i + j))) (mu 39 (4 * (20 * i + j) + 1)) (mu 39 (4 * (20 * i + j) + 2)) (mu 39 (4 * (20 * i + j) + 3))) (by omega) (by omega) (by rw [mPut_k _ _ _ _ _ _ _ _ (by decide)]; exact hm)
    refine ⟨mu', fun u c1 c2 N hN => ?_, fun a b h => ?_, fun b h => ?_, fun k e h1 h2 => ?_, fun k e h1 h2 h3 => ?_⟩
    · obtain ⟨N, rfl⟩ : ∃ b, N = b + 1 := ⟨N - 1, by omega⟩
      have := q0 u c1 c2 N (by omega)
      rw [lp_X7_collect_36]
      unfold f_X7_place
      simp (disch := omega) only [li0, li1, li2, li3, li4, li5, li6, li7, li8, li9, li10, li16, li17, li20, li30, li32, li48, li49, li50, li57, li60, li126, li147, nI_add, nI_sb, pk_mul, nI_m1, inrT, leT, leF, ltT, ltF, eqT, eqF, n1lt, m1lt, m1neg, m1nle, m1le, m1a1, m1a2, m1s, m1s', nI_cl, ↓tl, ↓sb, sb, sel, ser, ↓reduceIte, if_true, if_false, true_or, or_true, false_or, or_false, umS, umK, umJ, uaS, uaK, uaI, uaJ, mg30, mg31, mg32, mg33, mg34, mg35, mg36, mg37, mg38, mg39, mg40, mg41, mg42, mg43, mg44, mg45, mg46, mg47, mg48, mg49, ms30, ms31, ms32, ms33, ms34, ms35, ms36, ms37, ms38, ms39, ms40, ms41, ms42, ms43, ms44, ms45, ms46, ms47, ms48, ms49, hm, hp]
      exact this
    · rw [q1 a b h, mPut_k _ _ _ _ _ _ _ _ h]
    · rw [q2 b h, mPut_j _ _ _ _ _ _ _ _ (by omega)]
    · rw [q3 k e (by omega) h2, mPut_j _ _ _ _ _ _ _ _ (by omega)]
    · by_cases ek : k = j - f
      · subst ek
        rw [q3 (j - f) e (by omega) h3, show j - f + f = j by omega]
        obtain rfl | rfl | rfl | rfl : e = 0 ∨ e = 1 ∨ e = 2 ∨ e = 3 := by omega
        · exact mPut_0 ..
        · exact mPut_1 ..
        · exact mPut_2 ..
        · exact mPut_3 ..
      · rw [q4 k e (by omega) h2 h3, mPut_j _ _ _ _ _ _ _ _ (by omega)]
theorem pS_col {al al1 : pu_A} {mu mu1 : pu_M} {p n nx i c f : Nat} (hS : pS al mu p n nx) (hi : i < 8) (hC : pC al mu i c) (hW : pW al n i c) (hf : f < c) (h0 : al1 16 i 0 = nI (c - f)) (h1 : ∀ a k, 17 ≤ a ∧ a ≤ 20 → k < c - f → al1 a i k = al a i (k + f)) (h2 : ∀ a b x, a < 16 ∨ 20 < a ∨ ¬ b = i → al1 a b x = al a b x) (m0 : mu1 38 i = nI (c - f)) (m1 : ∀ k e, k < c - f → e < 4 → mu1 39 (4 * (20 * i + k) + e) = mu 39 (4 * (20 * i + (k + f)) + e)) (m2 : ∀ a b, ¬ a = 39 → ¬ a = 38 → mu1 a b = mu a b) (m3 : ∀ b, ¬ b = i → mu1 38 b = mu 38 b) (m4 : ∀ b, b < 80 * i ∨ 80 * i + 80 ≤ b → mu1 39 b = mu 39 b) (hfc : al 20 i f = -nI 1 ∨ ∃ w, w < n ∧ al 20 i f = nI w ∧ al 11 w 0 = nI 2) (hfu : ∀ t, t < n → un al t → (al 17 i f).toInt ≤ (al 11 t 1).toInt) : pS al1 mu1 p n nx := by
  obtain ⟨hG, hT, hO, hD, hCs, hE⟩ := hS
  refine ⟨?_, ?_, ?_, ?_, fun i' hi' => ?_, ?_⟩
  · unfold pG at hG ⊢
    simp (disch := omega) only [h2, m2]
    exact hG
  · unfold pT at hT ⊢
    simp (disch := omega) only [h2, m2]
    exact hT
  · unfold pO at hO ⊢
    simp (disch := omega) only [h2, m2]
    exact hO
  · unfold pD at hD ⊢
    simp (disch := omega) only [h2, m2]
    exact hD
  · by_cases e : i' = i
    · subst e
      obtain ⟨d1, d2, d3, d4⟩ := hC
      obtain ⟨w1, w2, w3, w4, w5⟩ := hW
      refine ⟨c - f, ⟨h0, m0, by omega, fun k hk => ?_⟩, by omega, fun k k' hk hk' => ?_, fun k hk => ?_, ?_, fun s hs hus => ?_⟩
      · have z0 := m1 k 0 hk (by omega)
        have z1 := m1 k 1 hk (by omega)
        have z2 := m1 k 2 hk (by omega)
        have z3 := m1 k 3 hk (by omega)
        simp only [Nat.add_zero] at z0
        simp (disch := omega) only [h1, z0, z1, z2, z3]
        exact d4 (k + f) (by omega)
      · simp (disch := omega) only [h1]
        exact w2 _ _ (by omega) (by omega)
      · simp (disch := omega) only [h1, h2]
        exact w3 (k + f) (by omega)
      · simp (disch := omega) only [h1, h2, Nat.zero_add]
        exact hfc
      · unfold un at hus
        simp (disch := omega) only [h1, h2, Nat.zero_add] at hus ⊢
        exact hfu s hs hus
    · obtain ⟨c', c1, c2⟩ := hCs i' hi'
      refine ⟨c', ?_, ?_⟩
      · unfold pC at c1 ⊢
        simp (disch := omega) only [h2, m3, m4]
        obtain ⟨a1, a2, a3, a4⟩ := c1
        refine ⟨a1, a2, a3, fun k hk => ?_⟩
        rw [m4 _ (by omega), m4 _ (by omega), m4 _ (by omega), m4 _ (by omega)]
        exact a4 k hk
      · unfold pW un at c2 ⊢
        simp (disch := omega) only [h2]
        exact c2
  · unfold pEv pu_E at hE ⊢
    simp (disch := omega) only [h2, m2]
    exact hE
theorem col_loop {p n nx : Nat} (T : Int32) : ∀ d j (al : pu_A) (mu : pu_M) (rm : Nat), j + d = 8 → rm + 17 * d < 2 ^ 20 → pS al mu p n nx → (∀ s, s < n → un al s → T.toInt ≤ (al 11 s 1).toInt) → ∃ al' mu' r, (∀ u N, d < N → lp_X0_removeOldVersions_9 0 T N (nI rm) (nI j) (ca al u) = some (nI r, nI 8, ca al' u)) ∧ (∀ u N, d < N → lp_X7_collect_14 T N (nI rm) (nI j) (ma mu u) = some (nI r, nI 8, ma mu' u)) ∧ pS al' mu' p n nx ∧ (∀ a b x, a < 16 ∨ 20 < a → al' a b x = al a b x) ∧ (∀ a b, ¬ a = 39 → ¬ a = 38 → mu' a b = mu a b) := by
  intro d
  induction d with
  | zero =>
    intro j al mu rm hj hr hS hT
    obtain rfl : j = 8 := by omega
    refine ⟨al, mu, rm, fun u N hN => ?_, fun u N hN => ?_, hS, fun _ _ _ _ => rfl, fun _ _ _ _ => rfl⟩
    · obtain ⟨N, rfl⟩ : ∃ b, N = b + 1 := ⟨N - 1, by omega⟩
      rw [lp_X0_removeOldVersions_9]
      simp (disch := omega) only [li0, li1, li2, li3, li4, li5, li6, li7, li8, li9, li10, li16, li17, li20, li30, li32, li48, li49, li50, li57, li60, li126, li147, nI_add, nI_sb, pk_mul, nI_m1, inrT, leT, leF, ltT, ltF, eqT, eqF, n1lt, m1lt, m1neg, m1nle, m1le, m1a1, m1a2, m1s, m1s', nI_cl, ↓tl, ↓sb, sb, sel, ser, ↓reduceIte, if_true, if_false, true_or, or_true, false_or, or_false, umS, umK, umJ, uaS, uaK, uaI, uaJ]
    · obtain ⟨N, rfl⟩ : ∃ b, N = b + 1 := ⟨N - 1, by omega⟩
      rw [lp_X7_collect_14]
      simp (disch := omega) only [li0, li1, li2, li3, li4, li5, li6, li7, li8, li9, li10, li16, li17, li20, li30, li32, li48, li49, li50, li57, li60, li126, li147, nI_add, nI_sb, pk_mul, nI_m1, inrT, leT, leF, ltT, ltF, eqT, eqF, n1lt, m1lt, m1neg, m1nle, m1le, m1a1, m1a2, m1s, m1s', nI_cl, ↓tl, ↓sb, sb, sel, ser, ↓reduceIte, if_true, if_false, true_or, or_true, false_or, or_false, umS, umK, umJ, uaS, uaK, uaI, uaJ]
  | succ d ih =>
    intro j al mu rm hj hr hS hT
    sorry
