/-! aborts -/
theorem aRem_o (i c : Nat) (t T : Int32) (al : pu_A) {a : Nat} (b j : Nat) (h : a < 16 ∨ 20 < a ∨ ¬ b = i) : aRem i c t T al a b j = al a b j := by
  unfold aRem
  split
  · exact aSh_o _ _ _ _ _ _ _ h
  · rfl
theorem rem_loop {n t : Nat} (ht : t < n) (hn : n ≤ 16) : ∀ (d j : Nat) (al : pu_A) (mu : pu_M), j + d = 8 → un al t → (∀ i, j ≤ i → i < 8 → ∃ c, pC al mu i c ∧ pW al n i c) → ∃ al' mu', (∀ u c2 c3 N, d < N → lp_X0_abortOne_3 0 (nI t) c2 c3 N (nI j) (ca al u) = some (nI 8, ca al' u)) ∧ (∀ u N, d < N → lp_X7_takeVersions_2 (nI t) N (nI j) (ma mu u) = some (nI 8, ma mu' u)) ∧ (∀ i, j ≤ i → i < 8 → pF al al' mu' t i) ∧ (∀ a b x, a < 16 ∨ 20 < a ∨ b < j → al' a b x = al a b x) ∧ (∀ a b, ¬ a = 39 → ¬ a = 38 → mu' a b = mu a b) ∧ (∀ b, b < j → mu' 38 b = mu 38 b) ∧ (∀ b, b < 80 * j → mu' 39 b = mu 39 b) := by
  intro d
  induction d with
  | zero =>
    intro j al mu hj hu hc
    obtain rfl : j = 8 := by omega
    refine ⟨al, mu, fun u c2 c3 N hN => ?_, fun u N hN => ?_, fun i h1 h2 => absurd h1 (by omega), fun _ _ _ _ => rfl, fun _ _ _ _ => rfl, fun _ _ => rfl, fun _ _ => rfl⟩
    · obtain ⟨N, rfl⟩ : ∃ b, N = b + 1 := ⟨N - 1, by omega⟩
      rw [lp_X0_abortOne_3]
      simp (disch := omega) only [li0, li1, li2, li3, li4, li5, li6, li7, li8, li9, li10, li16, li17, li20, li30, li32, li48, li49, li50, li57, li60, li126, li147, nI_add, nI_sb, pk_mul, nI_m1, inrT, leT, leF, ltT, ltF, eqT, eqF, n1lt, m1lt, m1neg, m1nle, m1le, m1a1, m1a2, m1s, m1s', nI_cl, ↓tl, ↓sb, sb, sel, ser, ↓reduceIte, if_true, if_false, true_or, or_true, false_or, or_false, umS, umK, umJ, uaS, uaK, uaI, uaJ]
    · obtain ⟨N, rfl⟩ : ∃ b, N = b + 1 := ⟨N - 1, by omega⟩
      rw [lp_X7_takeVersions_2]
      simp (disch := omega) only [li0, li1, li2, li3, li4, li5, li6, li7, li8, li9, li10, li16, li17, li20, li30, li32, li48, li49, li50, li57, li60, li126, li147, nI_add, nI_sb, pk_mul, nI_m1, inrT, leT, leF, ltT, ltF, eqT, eqF, n1lt, m1lt, m1neg, m1nle, m1le, m1a1, m1a2, m1s, m1s', nI_cl, ↓tl, ↓sb, sb, sel, ser, ↓reduceIte, if_true, if_false, true_or, or_true, false_or, or_false, umS, umK, umJ, uaS, uaK, uaI, uaJ]
  | succ d ih =>
    intro j al mu hj hu hc
    obtain ⟨c, hC, hW⟩ := hc j (Nat.le_refl _) (by omega)
    obtain ⟨c', m1, q0, q1, q2, q3, q4⟩ := rem_item (by omega) ht hn hC hW hu
    have ao : ∀ {a : Nat} (b x : Nat), (a < 16 ∨ 20 < a ∨ ¬ b = j) → aRem j c (nI t) (al 11 t 1) al a b x = al a b x := fun {a} b x h => aRem_o j c (nI t) (al 11 t 1) al b x h
    obtain ⟨al', mu', r0, r1, r2, r3, r4, r5, r6⟩ := ih (j + 1) (aRem j c (nI t) (al 11 t 1) al) (um m1 38 j (nI c')) (by omega) (by
      unfold un at hu ⊢
      simp (disch := omega) only [ao]
      exact hu) (fun i h1 h2 => by
      obtain ⟨ci, hCi, hWi⟩ := hc i (by omega) h2
      refine ⟨ci, ?_, ?_⟩
      · obtain ⟨g1, g2, g3, g4⟩ := hCi
        refine ⟨?_, ?_, g3, fun k hk => ?_⟩
        · rw [ao _ _ (by omega)]; exact g1
        · rw [umJ _ _ _ (by omega), q2 _ _ (by decide)]; exact g2
        · simp (disch := omega) only [ao, umK, q3]
          exact g4 k hk
      · unfold pW un at hWi ⊢
        simp (disch := omega) only [ao]
        exact hWi)
    have hca : ∀ u, f_X1_removeVersionOf 0 j (nI t) (al 11 t 1) (ca al u) = some (ca (aRem j c (nI t) (al 11 t 1) al) u) := fun u => c_removeVersionOf al u j c (nI t) (al 11 t 1) hC.1 hC.2.2.1
    refine ⟨al', mu', fun u c2 c3 N hN => ?_, fun u N hN => ?_, fun i h1 h2 => ?_, fun a b x h => ?_, fun a b h1 h2 => ?_, fun b h => ?_, fun b h => ?_⟩
    · obtain ⟨N, rfl⟩ : ∃ b, N = b + 1 := ⟨N - 1, by omega⟩
      rw [lp_X0_abortOne_3]
      simp (disch := omega) only [li0, li1, li2, li3, li4, li5, li6, li7, li8, li9, li10, li16, li17, li20, li30, li32, li48, li49, li50, li57, li60, li126, li147, nI_add, nI_sb, pk_mul, nI_m1, inrT, leT, leF, ltT, ltF, eqT, eqF, n1lt, m1lt, m1neg, m1nle, m1le, m1a1, m1a2, m1s, m1s', nI_cl, ↓tl, ↓sb, sb, sel, ser, ↓reduceIte, if_true, if_false, true_or, or_true, false_or, or_false, umS, umK, umJ, uaS, uaK, uaI, uaJ, cg1, cg2, cg3, cg4, cg5, cg6, cg7, cg8, cg9, cg10, cg11, cg12, cg13, cg14, cg15, cg16, cg17, cg18, cg19, cg20, cs1, cs2, cs3, cs4, cs5, cs6, cs7, cs8, cs9, cs10, cs11, cs12, cs13, cs14, cs15, cs16, cs17, cs18, cs19, cs20, cc17, cc18, cc19, cc20, hca]
      exact r0 u c2 c3 N (by omega)
    · obtain ⟨N, rfl⟩ : ∃ b, N = b + 1 := ⟨N - 1, by omega⟩
      rw [lp_X7_takeVersions_2]
      simp (disch := omega) only [li0, li1, li2, li3, li4, li5, li6, li7, li8, li9, li10, li16, li17, li20, li30, li32, li48, li49, li50, li57, li60, li126, li147, nI_add, nI_sb, pk_mul, nI_m1, inrT, leT, leF, ltT, ltF, eqT, eqF, n1lt, m1lt, m1neg, m1nle, m1le, m1a1, m1a2, m1s, m1s', nI_cl, ↓tl, ↓sb, sb, sel, ser, ↓reduceIte, if_true, if_false, true_or, or_true, false_or, or_false, umS, umK, umJ, uaS, uaK, uaI, uaJ, mg30, mg31, mg32, mg33, mg34, mg35, mg36, mg37, mg38, mg39, mg40, mg41, mg42, mg43, mg44, mg45, mg46, mg47, mg48, mg49, ms30, ms31, ms32, ms33, ms34, ms35, ms36, ms37, ms38, ms39, ms40, ms41, ms42, ms43, ms44, ms45, ms46, ms47, ms48, ms49, q0]
      exact r1 u N (by omega)
    · by_cases e : i = j
      · subst e
        obtain ⟨x1, x2, g, y1, y2, y3, ⟨z1, z2, z3, z4⟩, y5, y6, y7, y8⟩ := q4
        refine ⟨x1, x2, g, y1, y2, y3, ⟨?_, ?_, z3, fun k hk => ?_⟩, y5, y6, y7, fun a k ha hk => ?_⟩
        · rw [r3 _ _ _ (by omega)]; exact z1
        · rw [r5 _ (by omega)]; exact z2
        · simp (disch := omega) only [r3, r6]
          exact z4 k hk
        · rw [r3 _ _ _ (by omega)]; exact y8 a k ha hk
      · obtain ⟨x1, x2, g, y1, y2, y3, y4, y5, y6, y7, y8⟩ := r2 i (by omega) h2
        refine ⟨x1, x2, g, ?_, y2, y3, y4, y5, fun k hk => ?_, y7, fun a k ha hk => ?_⟩
        · rw [ao _ _ (by omega)] at y1; exact y1
        · have := y6 k hk
          rw [ao _ _ (by omega)] at this
          exact this
        · rw [y8 a k ha hk, ao _ _ (by omega)]
    · rw [r3 a b x (by omega), ao _ _ (by omega)]
    · rw [r4 a b h1 h2, umK _ _ _ _ h2, q2 a b h1]
    · rw [r5 b (by omega), umJ _ _ _ (by omega), q2 _ _ (by decide)]
    · rw [r6 b (by omega), umK _ _ _ _ (by decide), q3 b (by omega)]
theorem un_ne2 {al : pu_A} {t : Nat} (h : un al t) : ¬ al 11 t 0 = nI 2 := by
  rcases h with h | h <;> rw [h] <;> decide
theorem un_ne3 {al : pu_A} {t : Nat} (h : un al t) : ¬ al 11 t 0 = nI 3 := by
  rcases h with h | h <;> rw [h] <;> decide
theorem ab1 {al : pu_A} {mu : pu_M} {p n nx t k : Nat} (it : Int32) (hS : pS al mu p n nx) (ht : t < n) (hu : un al t) (hk : k < 9) : ∃ al' mu', (∀ u, f_X0_abortOne 0 (nI t) (nI k) it (ca al u) = some (ca al' u)) ∧ (∀ u fu, f_X7_doAbort (fu + 1) (nI t) (nI k) it (ma mu u) = (lp_X7_doAbort_42 (f_X7_doAbort fu) (nI t) (nI k) it ts_fu (nI 1) (nI 0) (ma mu' u)).bind (fun q14 => some (q14.1, q14.2.2))) ∧ pS al' mu' p n nx ∧ al' 11 t 0 = nI 3 ∧ al' 11 t 4 = nI 0 ∧ (∀ s j, ¬ s = t → al' 11 s j = al 11 s j) ∧ (∀ s, al' 11 s 1 = al 11 s 1 ∧ al' 11 s 5 = al 11 s 5) ∧ (∀ a b j, a < 4 ∨ a = 5 ∨ a = 6 ∨ (11 < a ∧ a < 16) ∨ 20 < a → al' a b j = al a b j) ∧ (∀ a j, (a = 30 ∧ ¬ j = 14) ∨ a = 32 ∨ a = 33 ∨ a = 35 ∨ a = 36 ∨ 41 < a → mu' a j = mu a j) := by
  obtain ⟨hG, hT, hO, hD, hC, hE⟩ := hS
  have hn : n ≤ 16 := hG.2.2.2.2.2.2.2.2.2
  obtain ⟨al1, mu1, r0, r1, r2, r3, r4, -, -⟩ := rem_loop ht hn 8 0 al (um (um (um mu 31 t (nI 3)) 34 t (mu 34 t + nI 1)) 37 t (nI 0)) (by omega) hu (fun i _ hi => by
    obtain ⟨c, h1, h2⟩ := hC i hi
    refine ⟨c, ?_, h2⟩
    unfold pC at h1 ⊢
    simp (disch := omega) only [umK]
    exact h1)
  have hE1 : pEv (ua (ua (ua al1 11 t 0 (nI 3)) 11 t 4 (nI 0)) 11 t 3 (al1 11 t 3 + nI 1)) mu1 := by
    unfold pEv pu_E at hE ⊢
    simp (disch := omega) only [uaK, r3, r4, umK]
    exact hE
  obtain ⟨al2, mu2, s0, s1, s2, s3, s4⟩ := n_note k (nI t) it hk hE1
  refine ⟨al2, mu2, fun u => ?_, fun u fu => ?_, ?_, ?_, ?_, ?_, ?_, ?_, ?_⟩
  · unfold f_X0_abortOne f_X5_endByAbort
    have := fun u => r0 u (nI k) it ts_fu (by unfold ts_fu; omega)
    simp (disch := omega) only [li0, li1, li2, li3, li4, li5, li6, li7, li8, li9, li10, li16, li17, li20, li30, li32, li48, li49, li50, li57, li60, li126, li147, nI_add, nI_sb, pk_mul, nI_m1, inrT, leT, leF, ltT, ltF, eqT, eqF, n1lt, m1lt, m1neg, m1nle, m1le, m1a1, m1a2, m1s, m1s', nI_cl, ↓tl, ↓sb, sb, sel, ser, ↓reduceIte, if_true, if_false, true_or, or_true, false_or, or_false, umS, umK, umJ, uaS, uaK, uaI, uaJ, cg1, cg2, cg3, cg4, cg5, cg6, cg7, cg8, cg9, cg10, cg11, cg12, cg13, cg14, cg15, cg16, cg17, cg18, cg19, cg20, cs1, cs2, cs3, cs4, cs5, cs6, cs7, cs8, cs9, cs10, cs11, cs12, cs13, cs14, cs15, cs16, cs17, cs18, cs19, cs20, cc17, cc18, cc19, cc20, this, s0]
  · rw [f_X7_doAbort]
    unfold f_X7_takeVersions
    have := fun u => r1 u ts_fu (by unfold ts_fu; omega)
    simp (disch := omega) only [li0, li1, li2, li3, li4, li5, li6, li7, li8, li9, li10, li16, li17, li20, li30, li32, li48, li49, li50, li57, li60, li126, li147, nI_add, nI_sb, pk_mul, nI_m1, inrT, leT, leF, ltT, ltF, eqT, eqF, n1lt, m1lt, m1neg, m1nle, m1le, m1a1, m1a2, m1s, m1s', nI_cl, ↓tl, ↓sb, sb, sel, ser, ↓reduceIte, if_true, if_false, true_or, or_true, false_or, or_false, umS, umK, umJ, uaS, uaK, uaI, uaJ, mg30, mg31, mg32, mg33, mg34, mg35, mg36, mg37, mg38, mg39, mg40, mg41, mg42, mg43, mg44, mg45, mg46, mg47, mg48, mg49, ms30, ms31, ms32, ms33, ms34, ms35, ms36, ms37, ms38, ms39, ms40, ms41, ms42, ms43, ms44, ms45, ms46, ms47, ms48, ms49, this, s1]
  · apply pS_cg (al := ua (ua (ua al1 11 t 0 (nI 3)) 11 t 4 (nI 0)) 11 t 3 (al1 11 t 3 + nI 1)) (mu := mu1) _ (fun a b j h => s3 a b j (by omega)) (fun a j h => s4 a j (by omega) (by omega) (by omega)) s2
    refine ⟨?_, fun s hs => ?_, fun s hs => ?_, fun s hs j hj => ?_, fun i hi => ?_, hE1⟩
    · unfold pG at hG ⊢
      simp (disch := omega) only [uaK, r3, r4, umK]
      exact hG
    · have := hT s hs
      by_cases e : s = t
      · subst e
        simp (disch := omega) only [uaS, uaJ, r3, r4, umS, umK] at this ⊢
        obtain ⟨-, b, c, d, e, f, g⟩ := this
        exact ⟨⟨3, by omega, rfl⟩, trivial, c, d, by rw [e], f, g⟩
      · simp (disch := omega) only [uaI, r3, r4, umJ, umK] at this ⊢
        exact this
    · have := hO s hs
      simp (disch := omega) only [uaJ, uaK, r3, r4, umK] at this ⊢
      exact this
    · have := hD s hs j hj
      have h2t : j = t → ¬ al 11 j 0 = nI 2 := fun e => e ▸ un_ne2 hu
      have st : ¬ nI 3 = nI 2 := by decide
      by_cases e : s = t
      · subst e
        simp (disch := omega) only [uaS, uaJ, r3, r4, umS, umK, bt_0]
        exact ⟨⟨fun q => absurd q (by decide), fun q => absurd q.1 (by decide)⟩, fun q => absurd q (by decide)⟩
      · by_cases e2 : j = t
        · subst e2
          simp (disch := omega) only [uaI, uaS, uaJ, r3, r4, umJ, umK] at this ⊢
          have e3 := h2t rfl
          simp only [e3, not_false_eq_true, and_true, st] at this ⊢
          exact this
        · simp (disch := omega) only [uaI, r3, r4, umJ, umK] at this ⊢
          exact this
    · obtain ⟨x1, x2, g, y1, y2, y3, y4, y5, y6, y7, y8⟩ := r2 i (by omega) hi
      obtain ⟨c, c1, c2⟩ := hC i hi
      have : c = x1 := by
        have q := c1.1; have q2 := c1.2.2.1
        rw [y1] at q
        exact ((nI_eq (by omega) (by omega)).mp q).symm
      subst this
      obtain ⟨w1, w2, w3, w4, w5⟩ := c2
      have own : ∀ w, w < n → ∀ k, al 20 i k = nI w → ¬ al 20 i k = nI t → ¬ w = t := fun w _ k h1 h2 e => h2 (e ▸ h1)
      refine ⟨x2, ?_, y3, fun k k' hk hk' => ?_, fun k hk => ?_, ?_, fun s hs hus => ?_⟩
      · unfold pC at y4 ⊢
        simp (disch := omega) only [uaK]
        exact y4
      · simp (disch := omega) only [uaK, y8]
        exact w2 _ _ (y7 k k' hk hk') (y6 k' hk').1
      · have yk := y6 k hk
        simp (disch := omega) only [uaK, y8]
        rcases w3 (g k) yk.1 with a | ⟨w, b1, b2, b3, b4⟩
        · exact Or.inl a
        · have hwt := own w b1 _ b2 yk.2
          refine Or.inr ⟨w, b1, b2, ?_, ?_⟩
          · simp (disch := omega) only [uaI, r3]; exact b3
          · simp (disch := omega) only [uaI, r3]; exact b4
      · have yk := y6 0 (by omega)
        rw [y5] at yk
        simp (disch := omega) only [uaK, y8, y5]
        rcases w4 with a | ⟨w, b1, b2, b3⟩
        · exact Or.inl a
        · have hwt := own w b1 _ b2 yk.2
          refine Or.inr ⟨w, b1, b2, ?_⟩
          simp (disch := omega) only [uaI, r3]; exact b3
      · have hst : ¬ s = t := by
          intro e; subst e
          unfold un at hus
          simp (disch := omega) only [uaS, uaJ] at hus
          rcases hus with q | q <;> exact absurd q (by decide)
        unfold un at hus
        simp (disch := omega) only [uaI, uaK, y8, y5, r3] at hus ⊢
        exact w5 s hs hus
  · simp (disch := omega) only [s3, uaS, uaJ]
  · simp (disch := omega) only [s3, uaS, uaJ]
  · intro s j h
    simp (disch := omega) only [s3, uaI, r3]
  · intro s
    simp (disch := omega) only [s3, uaJ, r3, and_self]
  · intro a b j h
    rw [s3 a b j (by omega), uaK _ _ _ _ _ _ (by omega), uaK _ _ _ _ _ _ (by omega), uaK _ _ _ _ _ _ (by omega), r3 a b j (by omega)]
  · intro a j h
    rw [s4 a j (by omega) (by omega) (by omega), r4 a j (by omega) (by omega), umK _ _ _ _ (by omega), umK _ _ _ _ (by omega), umK _ _ _ _ (by omega)]
