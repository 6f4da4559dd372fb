/-! old versions go -/
theorem r_col {i c f : Nat} (hi : i < 8) (h17 : c ≤ 17) : ∀ d j (mu : pu_M), j + d = c → f ≤ j → mu 38 i = nI c → ∃ mu', (∀ u c1 c2 N, d < N → lp_X7_collect_36 c1 c2 (nI i) (nI f) N (nI j) (ma mu u) = some (nI c, ma mu' u)) ∧ (∀ a b, ¬ a = 39 → mu' a b = mu a b) ∧ (∀ b, b < 80 * i ∨ 80 * i + 80 ≤ b → mu' 39 b = mu 39 b) ∧ (∀ k e, k < j - f → e < 4 → mu' 39 (4 * (20 * i + k) + e) = mu 39 (4 * (20 * i + k) + e)) ∧ (∀ k e, j - f ≤ k → k < c - f → e < 4 → mu' 39 (4 * (20 * i + k) + e) = mu 39 (4 * (20 * i + (k + f)) + e)) := by
  intro d
  induction d with
  | zero =>
    intro j mu hj hf hm
    obtain rfl : j = c := by omega
    refine ⟨mu, fun u c1 c2 N hN => ?_, fun _ _ _ => rfl, fun _ _ => rfl, fun _ _ _ _ => rfl, fun k e h1 h2 => absurd h1 (by omega)⟩
    obtain ⟨N, rfl⟩ : ∃ b, N = b + 1 := ⟨N - 1, by omega⟩
    rw [lp_X7_collect_36]
    simp (disch := omega) only [li0, li1, li2, li3, li4, li5, li6, li7, li8, li9, li10, li16, li17, li20, li30, li32, li48, li49, li50, li57, li60, li126, li147, nI_add, nI_sb, pk_mul, nI_m1, inrT, leT, leF, ltT, ltF, eqT, eqF, n1lt, m1lt, m1neg, m1nle, m1le, m1a1, m1a2, m1s, m1s', nI_cl, ↓tl, ↓sb, sb, sel, ser, ↓reduceIte, if_true, if_false, true_or, or_true, false_or, or_false, umS, umK, umJ, uaS, uaK, uaI, uaJ, mg30, mg31, mg32, mg33, mg34, mg35, mg36, mg37, mg38, mg39, mg40, mg41, mg42, mg43, mg44, mg45, mg46, mg47, mg48, mg49, ms30, ms31, ms32, ms33, ms34, ms35, ms36, ms37, ms38, ms39, ms40, ms41, ms42, ms43, ms44, ms45, ms46, ms47, ms48, ms49, hm]
  | succ d ih =>
    intro j mu hj hf hm
    have hp := fun u => r_put mu u i (j - f) (mu 39 (4 * (20 * i + j))) (mu 39 (4 * (20 * i + j) + 1)) (mu 39 (4 * (20 * i + j) + 2)) (mu 39 (4 * (20 * i + j) + 3)) hi (by omega)
    obtain ⟨mu', q0, q1, q2, q3, q4⟩ := ih (j + 1) (mPut mu i (j - f) (mu 39 (4 * (20 * i + j))) (mu 39 (4 * (20 * i + j) + 1)) (mu 39 (4 * (20 * i + j) + 2)) (mu 39 (4 * (20 * i + j) + 3))) (by omega) (by omega) (by rw [mPut_k _ _ _ _ _ _ _ _ (by decide)]; exact hm)
    refine ⟨mu', fun u c1 c2 N hN => ?_, fun a b h => ?_, fun b h => ?_, fun k e h1 h2 => ?_, fun k e h1 h2 h3 => ?_⟩
    · obtain ⟨N, rfl⟩ : ∃ b, N = b + 1 := ⟨N - 1, by omega⟩
      have := q0 u c1 c2 N (by omega)
      rw [lp_X7_collect_36]
      unfold f_X7_place
      simp (disch := omega) only [li0, li1, li2, li3, li4, li5, li6, li7, li8, li9, li10, li16, li17, li20, li30, li32, li48, li49, li50, li57, li60, li126, li147, nI_add, nI_sb, pk_mul, nI_m1, inrT, leT, leF, ltT, ltF, eqT, eqF, n1lt, m1lt, m1neg, m1nle, m1le, m1a1, m1a2, m1s, m1s', nI_cl, ↓tl, ↓sb, sb, sel, ser, ↓reduceIte, if_true, if_false, true_or, or_true, false_or, or_false, umS, umK, umJ, uaS, uaK, uaI, uaJ, mg30, mg31, mg32, mg33, mg34, mg35, mg36, mg37, mg38, mg39, mg40, mg41, mg42, mg43, mg44, mg45, mg46, mg47, mg48, mg49, ms30, ms31, ms32, ms33, ms34, ms35, ms36, ms37, ms38, ms39, ms40, ms41, ms42, ms43, ms44, ms45, ms46, ms47, ms48, ms49, hm, hp]
      exact this
    · rw [q1 a b h, mPut_k _ _ _ _ _ _ _ _ h]
    · rw [q2 b h, mPut_j _ _ _ _ _ _ _ _ (by omega)]
    · rw [q3 k e (by omega) h2, mPut_j _ _ _ _ _ _ _ _ (by omega)]
    · by_cases ek : k = j - f
      · subst ek
        rw [q3 (j - f) e (by omega) h3, show j - f + f = j by omega]
        obtain rfl | rfl | rfl | rfl : e = 0 ∨ e = 1 ∨ e = 2 ∨ e = 3 := by omega
        · exact mPut_0 ..
        · exact mPut_1 ..
        · exact mPut_2 ..
        · exact mPut_3 ..
      · rw [q4 k e (by omega) h2 h3, mPut_j _ _ _ _ _ _ _ _ (by omega)]
theorem pS_col {al al1 : pu_A} {mu mu1 : pu_M} {p n nx i c f : Nat} (hS : pS al mu p n nx) (hi : i < 8) (hC : pC al mu i c) (hW : pW al n i c) (hf : f < c) (h0 : al1 16 i 0 = nI (c - f)) (h1 : ∀ a k, 17 ≤ a ∧ a ≤ 20 → k < c - f → al1 a i k = al a i (k + f)) (h2 : ∀ a b x, a < 16 ∨ 20 < a ∨ ¬ b = i → al1 a b x = al a b x) (m0 : mu1 38 i = nI (c - f)) (m1 : ∀ k e, k < c - f → e < 4 → mu1 39 (4 * (20 * i + k) + e) = mu 39 (4 * (20 * i + (k + f)) + e)) (m2 : ∀ a b, ¬ a = 39 → ¬ a = 38 → mu1 a b = mu a b) (m3 : ∀ b, ¬ b = i → mu1 38 b = mu 38 b) (m4 : ∀ b, b < 80 * i ∨ 80 * i + 80 ≤ b → mu1 39 b = mu 39 b) (hfc : al 20 i f = -nI 1 ∨ ∃ w, w < n ∧ al 20 i f = nI w ∧ al 11 w 0 = nI 2) (hfu : ∀ t, t < n → un al t → (al 17 i f).toInt ≤ (al 11 t 1).toInt) : pS al1 mu1 p n nx := by
  obtain ⟨hG, hT, hO, hD, hCs, hE⟩ := hS
  refine ⟨?_, ?_, ?_, ?_, fun i' hi' => ?_, ?_⟩
  · unfold pG at hG ⊢
    simp (disch := omega) only [h2, m2]
    exact hG
  · unfold pT at hT ⊢
    simp (disch := omega) only [h2, m2]
    exact hT
  · unfold pO at hO ⊢
    simp (disch := omega) only [h2, m2]
    exact hO
  · unfold pD at hD ⊢
    simp (disch := omega) only [h2, m2]
    exact hD
  · by_cases e : i' = i
    · subst e
      obtain ⟨d1, d2, d3, d4⟩ := hC
      obtain ⟨w1, w2, w3, w4, w5⟩ := hW
      refine ⟨c - f, ⟨h0, m0, by omega, fun k hk => ?_⟩, by omega, fun k k' hk hk' => ?_, fun k hk => ?_, ?_, fun s hs hus => ?_⟩
      · have z0 := m1 k 0 hk (by omega)
        have z1 := m1 k 1 hk (by omega)
        have z2 := m1 k 2 hk (by omega)
        have z3 := m1 k 3 hk (by omega)
        simp only [Nat.add_zero] at z0
        simp (disch := omega) only [h1, z0, z1, z2, z3]
        exact d4 (k + f) (by omega)
      · simp (disch := omega) only [h1]
        exact w2 _ _ (by omega) (by omega)
      · simp (disch := omega) only [h1, h2]
        exact w3 (k + f) (by omega)
      · simp (disch := omega) only [h1, h2, Nat.zero_add]
        exact hfc
      · unfold un at hus
        simp (disch := omega) only [h1, h2, Nat.zero_add] at hus ⊢
        exact hfu s hs hus
    · obtain ⟨c', c1, c2⟩ := hCs i' hi'
      refine ⟨c', ?_, ?_⟩
      · unfold pC at c1 ⊢
        simp (disch := omega) only [h2, m3, m4]
        obtain ⟨a1, a2, a3, a4⟩ := c1
        refine ⟨a1, a2, a3, fun k hk => ?_⟩
        rw [m4 _ (by omega), m4 _ (by omega), m4 _ (by omega), m4 _ (by omega)]
        exact a4 k hk
      · unfold pW un at c2 ⊢
        simp (disch := omega) only [h2]
        exact c2
  · unfold pEv pu_E at hE ⊢
    simp (disch := omega) only [h2, m2]
    exact hE
theorem col_loop {p n nx : Nat} (T : Int32) : ∀ d j (al : pu_A) (mu : pu_M) (rm : Nat), j + d = 8 → rm + 17 * d < 2 ^ 20 → pS al mu p n nx → (∀ s, s < n → un al s → T.toInt ≤ (al 11 s 1).toInt) → ∃ al' mu' r, (∀ u N, d < N → lp_X0_removeOldVersions_9 0 T N (nI rm) (nI j) (ca al u) = some (nI r, nI 8, ca al' u)) ∧ (∀ u N, d < N → lp_X7_collect_14 T N (nI rm) (nI j) (ma mu u) = some (nI r, nI 8, ma mu' u)) ∧ pS al' mu' p n nx ∧ (∀ a b x, a < 16 ∨ 20 < a → al' a b x = al a b x) ∧ (∀ a b, ¬ a = 39 → ¬ a = 38 → mu' a b = mu a b) := by
  intro d
  induction d with
  | zero =>
    intro j al mu rm hj hr hS hT
    obtain rfl : j = 8 := by omega
    refine ⟨al, mu, rm, fun u N hN => ?_, fun u N hN => ?_, hS, fun _ _ _ _ => rfl, fun _ _ _ _ => rfl⟩
    · obtain ⟨N, rfl⟩ : ∃ b, N = b + 1 := ⟨N - 1, by omega⟩
      rw [lp_X0_removeOldVersions_9]
      simp (disch := omega) only [li0, li1, li2, li3, li4, li5, li6, li7, li8, li9, li10, li16, li17, li20, li30, li32, li48, li49, li50, li57, li60, li126, li147, nI_add, nI_sb, pk_mul, nI_m1, inrT, leT, leF, ltT, ltF, eqT, eqF, n1lt, m1lt, m1neg, m1nle, m1le, m1a1, m1a2, m1s, m1s', nI_cl, ↓tl, ↓sb, sb, sel, ser, ↓reduceIte, if_true, if_false, true_or, or_true, false_or, or_false, umS, umK, umJ, uaS, uaK, uaI, uaJ]
    · obtain ⟨N, rfl⟩ : ∃ b, N = b + 1 := ⟨N - 1, by omega⟩
      rw [lp_X7_collect_14]
      simp (disch := omega) only [li0, li1, li2, li3, li4, li5, li6, li7, li8, li9, li10, li16, li17, li20, li30, li32, li48, li49, li50, li57, li60, li126, li147, nI_add, nI_sb, pk_mul, nI_m1, inrT, leT, leF, ltT, ltF, eqT, eqF, n1lt, m1lt, m1neg, m1nle, m1le, m1a1, m1a2, m1s, m1s', nI_cl, ↓tl, ↓sb, sb, sel, ser, ↓reduceIte, if_true, if_false, true_or, or_true, false_or, or_false, umS, umK, umJ, uaS, uaK, uaI, uaJ]
  | succ d ih =>
    intro j al mu rm hj hr hS hT
    obtain ⟨c, hC, hW⟩ := hS.2.2.2.2.1 j (by omega)
    obtain ⟨m, hm, lc1, lc2, lc3, -⟩ := lcm T hS (show j < 8 by omega) hC hW
    have d1 := hC.1
    have d2 := hC.2.1
    have d3 := hC.2.2.1
    have w1 := hW.1
    obtain ⟨f, hf⟩ : ∃ f, f = m - 1 := ⟨_, rfl⟩
    obtain ⟨mu1, q0, q1, q2, q3, q4⟩ := r_col (f := f) (show j < 8 by omega) d3 (c - f) f mu (by omega) (Nat.le_refl _) d2
    have hfc : al 20 j f = -nI 1 ∨ ∃ w, w < n ∧ al 20 j f = nI w ∧ al 11 w 0 = nI 2 := by
      by_cases e : m = 0
      · have : f = 0 := by omega
        rw [this]; exact hW.2.2.2.1
      · have l3 := (lc3 (by omega)).1
        rw [← hf] at l3
        rcases hW.2.2.1 f (by omega) with ⟨a, -⟩ | ⟨w, b1, b2, b3, b4⟩
        · exact Or.inl a
        · refine Or.inr ⟨w, b1, b2, ?_⟩
          have g10 : n ≤ 16 := hS.1.2.2.2.2.2.2.2.2.2
          unfold uwB at l3
          rw [b2, nI_cl (by omega)] at l3
          have ne : ¬ nI w = -nI 1 := by rw [n1lt (by omega)]; exact id
          simp only [ne, decide_false, Bool.not_false, Bool.true_and] at l3
          have nu := unB_f.mp l3
          obtain ⟨⟨st, s1, s2⟩, -⟩ := hS.2.1 w b1
          rw [s2]
          obtain rfl | rfl | rfl | rfl : st = 0 ∨ st = 1 ∨ st = 2 ∨ st = 3 := by omega
          · exact absurd (Or.inl s2) nu
          · exact absurd (Or.inr s2) nu
          · rfl
          · exact absurd s2 b4
    have hfu : ∀ t, t < n → un al t → (al 17 j f).toInt ≤ (al 11 t 1).toInt := fun t ht hu => by
      by_cases e : m = 0
      · have : f = 0 := by omega
        rw [this]; exact hW.2.2.2.2 t ht hu
      · have l3 := (lc3 (by omega)).2
        rw [← hf, Int32.le_iff_toInt_le] at l3
        have := hT t ht hu
        omega
    obtain ⟨al1, hcl, p0, p1, p2⟩ : ∃ al1, ((f = 0 → al1 = al) ∧ (¬ f = 0 → ∀ u, f_X1_removeFirst 0 j (nI f) (ca al u) = some (ca al1 u))) ∧ al1 16 j 0 = nI (c - f) ∧ (∀ a k, 17 ≤ a ∧ a ≤ 20 → k < c - f → al1 a j k = al a j (k + f)) ∧ (∀ a b x, a < 16 ∨ 20 < a ∨ ¬ b = j → al1 a b x = al a b x) := by
      by_cases e : f = 0
      · exact ⟨al, ⟨fun _ => rfl, fun h => absurd e h⟩, by rw [e]; exact d1, fun a k _ _ => by rw [e]; rfl, fun _ _ _ _ => rfl⟩
      · refine ⟨aSh j f 0 (c - f) al, ⟨fun h => absurd h e, fun _ u => ?_⟩, ?_, fun a k h1 h2 => ?_, fun a b x h => aSh_o _ _ _ _ _ _ _ h⟩
        · unfold f_X1_removeFirst
          have := c_shift al u j c f 0 d1 (by omega) d3 (by omega)
          simp (disch := omega) only [li0, li1, li2, li3, li4, li5, li6, li7, li8, li9, li10, li16, li17, li20, li30, li32, li48, li49, li50, li57, li60, li126, li147, nI_add, nI_sb, pk_mul, nI_m1, inrT, leT, leF, ltT, ltF, eqT, eqF, n1lt, m1lt, m1neg, m1nle, m1le, m1a1, m1a2, m1s, m1s', nI_cl, ↓tl, ↓sb, sb, sel, ser, ↓reduceIte, if_true, if_false, true_or, or_true, false_or, or_false, umS, umK, umJ, uaS, uaK, uaI, uaJ, this]
        · rw [aSh_c, Nat.zero_add]
        · rw [aSh_in _ _ _ _ _ _ h1 (by omega) (by omega)]
          congr 1; omega
    have hS1 : pS al1 (um mu1 38 j (nI (c - f))) p n nx := pS_col hS (show j < 8 by omega) hC hW (show f < c by omega) p0 p1 p2 (umS _ _ _ _) (fun k e h1 h2 => by rw [umK _ _ _ _ (by decide), q4 k e (by omega) h1 h2]) (fun a b h1 h2 => by rw [umK _ _ _ _ h2, q1 a b h1]) (fun b h => by rw [umJ _ _ _ h, q1 _ _ (by decide)]) (fun b h => by rw [umK _ _ _ _ (by decide), q2 b h]) hfc hfu
    obtain ⟨al2, mu2, r, y1, y2, y3, y4, y5⟩ := ih (j + 1) al1 (um mu1 38 j (nI (c - f))) (rm + f) (by omega) (by omega) hS1 (fun s hs hu => by
      unfold un at hu
      rw [p2 _ _ _ (by omega)] at hu ⊢
      exact hT s hs hu)
    refine ⟨al2, mu2, r, fun u N hN => ?_, fun u N hN => ?_, y3, fun a b x h => by rw [y4 a b x h, p2 a b x (by omega)], fun a b h1 h2 => by rw [y5 a b h1 h2, umK _ _ _ _ h2, q1 a b h1]⟩
    · obtain ⟨N, rfl⟩ : ∃ b, N = b + 1 := ⟨N - 1, by omega⟩
      have := y1 u N (by omega)
      rw [lp_X0_removeOldVersions_9]
      by_cases e : f = 0
      · have e2 := hcl.1 e
        rw [e2, e, Nat.add_zero] at this
        by_cases e3 : m = 0
        · simp (disch := omega) only [li0, li1, li2, li3, li4, li5, li6, li7, li8, li9, li10, li16, li17, li20, li30, li32, li48, li49, li50, li57, li60, li126, li147, nI_add, nI_sb, pk_mul, nI_m1, inrT, leT, leF, ltT, ltF, eqT, eqF, n1lt, m1lt, m1neg, m1nle, m1le, m1a1, m1a2, m1s, m1s', nI_cl, ↓tl, ↓sb, sb, sel, ser, ↓reduceIte, if_true, if_false, true_or, or_true, false_or, or_false, umS, umK, umJ, uaS, uaK, uaI, uaJ, cg1, cg2, cg3, cg4, cg5, cg6, cg7, cg8, cg9, cg10, cg11, cg12, cg13, cg14, cg15, cg16, cg17, cg18, cg19, cg20, cs1, cs2, cs3, cs4, cs5, cs6, cs7, cs8, cs9, cs10, cs11, cs12, cs13, cs14, cs15, cs16, cs17, cs18, cs19, cs20, cc17, cc18, cc19, cc20, lc1, ixN_0]
          exact this
        · simp (disch := omega) only [li0, li1, li2, li3, li4, li5, li6, li7, li8, li9, li10, li16, li17, li20, li30, li32, li48, li49, li50, li57, li60, li126, li147, nI_add, nI_sb, pk_mul, nI_m1, inrT, leT, leF, ltT, ltF, eqT, eqF, n1lt, m1lt, m1neg, m1nle, m1le, m1a1, m1a2, m1s, m1s', nI_cl, ↓tl, ↓sb, sb, sel, ser, ↓reduceIte, if_true, if_false, true_or, or_true, false_or, or_false, umS, umK, umJ, uaS, uaK, uaI, uaJ, cg1, cg2, cg3, cg4, cg5, cg6, cg7, cg8, cg9, cg10, cg11, cg12, cg13, cg14, cg15, cg16, cg17, cg18, cg19, cg20, cs1, cs2, cs3, cs4, cs5, cs6, cs7, cs8, cs9, cs10, cs11, cs12, cs13, cs14, cs15, cs16, cs17, cs18, cs19, cs20, cc17, cc18, cc19, cc20, lc1, ixN_p]
          exact this
      · have e2 := hcl.2 e
        have e3 : ixN m = nI f := by rw [ixN_p (by omega), hf]
        simp (disch := omega) only [li0, li1, li2, li3, li4, li5, li6, li7, li8, li9, li10, li16, li17, li20, li30, li32, li48, li49, li50, li57, li60, li126, li147, nI_add, nI_sb, pk_mul, nI_m1, inrT, leT, leF, ltT, ltF, eqT, eqF, n1lt, m1lt, m1neg, m1nle, m1le, m1a1, m1a2, m1s, m1s', nI_cl, ↓tl, ↓sb, sb, sel, ser, ↓reduceIte, if_true, if_false, true_or, or_true, false_or, or_false, umS, umK, umJ, uaS, uaK, uaI, uaJ, cg1, cg2, cg3, cg4, cg5, cg6, cg7, cg8, cg9, cg10, cg11, cg12, cg13, cg14, cg15, cg16, cg17, cg18, cg19, cg20, cs1, cs2, cs3, cs4, cs5, cs6, cs7, cs8, cs9, cs10, cs11, cs12, cs13, cs14, cs15, cs16, cs17, cs18, cs19, cs20, cc17, cc18, cc19, cc20, lc1, e3, e2]
        exact this
    · obtain ⟨N, rfl⟩ : ∃ b, N = b + 1 := ⟨N - 1, by omega⟩
      have := y2 u N (by omega)
      have hq := fun u c1 c2 => q0 u c1 c2 ts_fu (by unfold ts_fu; omega)
      have m38 : mu1 38 j = nI c := by rw [q1 _ _ (by decide)]; exact d2
      rw [lp_X7_collect_14]
      by_cases e : f = 0
      · have hq' := hq
        rw [e] at hq' this
        by_cases e3 : m = 0
        · have ml : (nI 0 < -nI 1) = False := eq_false (by decide)
          simp (disch := omega) only [li0, li1, li2, li3, li4, li5, li6, li7, li8, li9, li10, li16, li17, li20, li30, li32, li48, li49, li50, li57, li60, li126, li147, nI_add, nI_sb, pk_mul, nI_m1, inrT, leT, leF, ltT, ltF, eqT, eqF, n1lt, m1lt, m1neg, m1nle, m1le, m1a1, m1a2, m1s, m1s', nI_cl, ↓tl, ↓sb, sb, sel, ser, ↓reduceIte, if_true, if_false, true_or, or_true, false_or, or_false, umS, umK, umJ, uaS, uaK, uaI, uaJ, mg30, mg31, mg32, mg33, mg34, mg35, mg36, mg37, mg38, mg39, mg40, mg41, mg42, mg43, mg44, mg45, mg46, mg47, mg48, mg49, ms30, ms31, ms32, ms33, ms34, ms35, ms36, ms37, ms38, ms39, ms40, ms41, ms42, ms43, ms44, ms45, ms46, ms47, ms48, ms49, lc2, ixN_0, ml, hq', m38]
          exact this
        · obtain rfl : m = 1 := by omega
          simp (disch := omega) only [li0, li1, li2, li3, li4, li5, li6, li7, li8, li9, li10, li16, li17, li20, li30, li32, li48, li49, li50, li57, li60, li126, li147, nI_add, nI_sb, pk_mul, nI_m1, inrT, leT, leF, ltT, ltF, eqT, eqF, n1lt, m1lt, m1neg, m1nle, m1le, m1a1, m1a2, m1s, m1s', nI_cl, ↓tl, ↓sb, sb, sel, ser, ↓reduceIte, if_true, if_false, true_or, or_true, false_or, or_false, umS, umK, umJ, uaS, uaK, uaI, uaJ, mg30, mg31, mg32, mg33, mg34, mg35, mg36, mg37, mg38, mg39, mg40, mg41, mg42, mg43, mg44, mg45, mg46, mg47, mg48, mg49, ms30, ms31, ms32, ms33, ms34, ms35, ms36, ms37, ms38, ms39, ms40, ms41, ms42, ms43, ms44, ms45, ms46, ms47, ms48, ms49, lc2, ixN_p, hq', m38]
          exact this
      · have e3 : ixN m = nI f := by rw [ixN_p (by omega), hf]
        simp (disch := omega) only [li0, li1, li2, li3, li4, li5, li6, li7, li8, li9, li10, li16, li17, li20, li30, li32, li48, li49, li50, li57, li60, li126, li147, nI_add, nI_sb, pk_mul, nI_m1, inrT, leT, leF, ltT, ltF, eqT, eqF, n1lt, m1lt, m1neg, m1nle, m1le, m1a1, m1a2, m1s, m1s', nI_cl, ↓tl, ↓sb, sb, sel, ser, ↓reduceIte, if_true, if_false, true_or, or_true, false_or, or_false, umS, umK, umJ, uaS, uaK, uaI, uaJ, mg30, mg31, mg32, mg33, mg34, mg35, mg36, mg37, mg38, mg39, mg40, mg41, mg42, mg43, mg44, mg45, mg46, mg47, mg48, mg49, ms30, ms31, ms32, ms33, ms34, ms35, ms36, ms37, ms38, ms39, ms40, ms41, ms42, ms43, ms44, ms45, ms46, ms47, ms48, ms49, lc2, e3, hq, m38]
        exact this
