/-! commits with all that waited -/
theorem r_waits_loop {al : pu_A} {mu : pu_M} {p n nx t : Nat} (u : ts_Mem) (hS : pS al mu p n nx) (hR : pR al n) (ht : t < n) : ∀ d j N (v : Int32), j + d = n → d < N → (∀ b, b < 32 → (bt v b = true ↔ bt (al 11 t 4) b = true ∧ b < j)) → lp_X7_waitsFor_4 (nI t) (ma mu u) N v (nI j) = some (al 11 t 4, nI n) := by
  obtain ⟨⟨g1, g2, g3, g4, g5, g6, g7, g8, g9, g10⟩, hT, hO, hD, hCs, hE⟩ := hS
  intro d
  induction d with
  | zero =>
    intro j N v hj hN hv
    obtain ⟨N, rfl⟩ : ∃ b, N = b + 1 := ⟨N - 1, by omega⟩
    obtain rfl : j = n := by omega
    rw [lp_X7_waitsFor_4]
    have : v = al 11 t 4 := by
      apply bt_ext
      intro b hb
      have h1 := hv b hb
      cases q : bt (al 11 t 4) b
      · cases q2 : bt v b
        · rfl
        · rw [q] at h1; exact absurd (h1.mp q2).1 (by decide)
      · exact h1.mpr ⟨q, (hD t ht b hb).2 ((hD t ht b hb).1.mp q).1⟩
    simp (disch := omega) only [li0, li1, li2, li3, li4, li5, li6, li7, li8, li9, li10, li16, li17, li20, li30, li32, li48, li49, li50, li57, li60, li126, li147, nI_add, nI_sb, pk_mul, nI_m1, inrT, leT, leF, ltT, ltF, eqT, eqF, n1lt, m1lt, m1neg, m1nle, m1le, m1a1, m1a2, m1s, m1s', nI_cl, ↓tl, ↓sb, sb, sel, ser, ↓reduceIte, if_true, if_false, true_or, or_true, false_or, or_false, umS, umK, umJ, uaS, uaK, uaI, uaJ, mg30, mg31, mg32, mg33, mg34, mg35, mg36, mg37, mg38, mg39, mg40, mg41, mg42, mg43, mg44, mg45, mg46, mg47, mg48, mg49, ms30, ms31, ms32, ms33, ms34, ms35, ms36, ms37, ms38, ms39, ms40, ms41, ms42, ms43, ms44, ms45, ms46, ms47, ms48, ms49, g9, this]
  | succ d ih =>
    intro j N v hj hN hv
    obtain ⟨N, rfl⟩ : ∃ b, N = b + 1 := ⟨N - 1, by omega⟩
    have h0 : v ||| nI 0 = v := bt_ext (fun b _ => by rw [bt_or, bt_0, Bool.or_false])
    rw [lp_X7_waitsFor_4]
    by_cases e : bt (al 11 t 4) j = true
    · have hd := (hD t ht j (by omega)).1.mp e
      have hb := (bt_shr (mu 37 t) (show j < 16 by omega)).mpr hd.1
      have hr := r_unT u hT g10 (show j < n by omega) (hR t ht j (by omega) e).1
      have ih' := ih (j + 1) N (v ||| (nI 1 <<< (nI j &&& 31))) (by omega) (by omega) (fun b hb => by
        rw [bt_set _ (by omega) hb, Bool.or_eq_true, decide_eq_true_iff, hv b hb]
        constructor
        · rintro (⟨a1, a2⟩ | rfl)
          · exact ⟨a1, by omega⟩
          · exact ⟨e, by omega⟩
        · rintro ⟨a1, a2⟩
          by_cases q : j = b
          · exact Or.inr q
          · exact Or.inl ⟨a1, by omega⟩)
      simp (disch := omega) only [li0, li1, li2, li3, li4, li5, li6, li7, li8, li9, li10, li16, li17, li20, li30, li32, li48, li49, li50, li57, li60, li126, li147, nI_add, nI_sb, pk_mul, nI_m1, inrT, leT, leF, ltT, ltF, eqT, eqF, n1lt, m1lt, m1neg, m1nle, m1le, m1a1, m1a2, m1s, m1s', nI_cl, ↓tl, ↓sb, sb, sel, ser, ↓reduceIte, if_true, if_false, true_or, or_true, false_or, or_false, umS, umK, umJ, uaS, uaK, uaI, uaJ, mg30, mg31, mg32, mg33, mg34, mg35, mg36, mg37, mg38, mg39, mg40, mg41, mg42, mg43, mg44, mg45, mg46, mg47, mg48, mg49, ms30, ms31, ms32, ms33, ms34, ms35, ms36, ms37, ms38, ms39, ms40, ms41, ms42, ms43, ms44, ms45, ms46, ms47, ms48, ms49, g9, hb, hr]
      exact ih'
    · have ih' := ih (j + 1) N v (by omega) (by omega) (fun b hb => by
        rw [hv b hb]
        constructor
        · rintro ⟨a1, a2⟩; exact ⟨a1, by omega⟩
        · rintro ⟨a1, a2⟩
          refine ⟨a1, ?_⟩
          by_cases q : b = j
          · subst q; exact absurd a1 e
          · omega)
      by_cases hb : (mu 37 t >>> (nI j &&& 31)) &&& nI 1 = nI 1
      · have h1 := (bt_shr (mu 37 t) (show j < 16 by omega)).mp hb
        have hnu : ¬ un al j := fun q => e ((hD t ht j (by omega)).1.mpr ⟨h1, un_ne2 q⟩)
        have hr := r_unF u hT g10 (show j < n by omega) hnu
        simp (disch := omega) only [li0, li1, li2, li3, li4, li5, li6, li7, li8, li9, li10, li16, li17, li20, li30, li32, li48, li49, li50, li57, li60, li126, li147, nI_add, nI_sb, pk_mul, nI_m1, inrT, leT, leF, ltT, ltF, eqT, eqF, n1lt, m1lt, m1neg, m1nle, m1le, m1a1, m1a2, m1s, m1s', nI_cl, ↓tl, ↓sb, sb, sel, ser, ↓reduceIte, if_true, if_false, true_or, or_true, false_or, or_false, umS, umK, umJ, uaS, uaK, uaI, uaJ, mg30, mg31, mg32, mg33, mg34, mg35, mg36, mg37, mg38, mg39, mg40, mg41, mg42, mg43, mg44, mg45, mg46, mg47, mg48, mg49, ms30, ms31, ms32, ms33, ms34, ms35, ms36, ms37, ms38, ms39, ms40, ms41, ms42, ms43, ms44, ms45, ms46, ms47, ms48, ms49, g9, hb, hr, h0]
        exact ih'
      · simp (disch := omega) only [li0, li1, li2, li3, li4, li5, li6, li7, li8, li9, li10, li16, li17, li20, li30, li32, li48, li49, li50, li57, li60, li126, li147, nI_add, nI_sb, pk_mul, nI_m1, inrT, leT, leF, ltT, ltF, eqT, eqF, n1lt, m1lt, m1neg, m1nle, m1le, m1a1, m1a2, m1s, m1s', nI_cl, ↓tl, ↓sb, sb, sel, ser, ↓reduceIte, if_true, if_false, true_or, or_true, false_or, or_false, umS, umK, umJ, uaS, uaK, uaI, uaJ, mg30, mg31, mg32, mg33, mg34, mg35, mg36, mg37, mg38, mg39, mg40, mg41, mg42, mg43, mg44, mg45, mg46, mg47, mg48, mg49, ms30, ms31, ms32, ms33, ms34, ms35, ms36, ms37, ms38, ms39, ms40, ms41, ms42, ms43, ms44, ms45, ms46, ms47, ms48, ms49, g9, if_neg hb, h0]
        exact ih'
theorem r_waits {al : pu_A} {mu : pu_M} {p n nx t : Nat} (u : ts_Mem) (hS : pS al mu p n nx) (hR : pR al n) (ht : t < n) : f_X7_waitsFor (nI t) (ma mu u) = some (al 11 t 4) := by
  unfold f_X7_waitsFor
  rw [show (0 : Int32) = nI 0 from rfl, r_waits_loop u hS hR ht n 0 ts_fu (nI 0) (by omega) (by have := hS.1.2.2.2.2.2.2.2.2.2; unfold ts_fu; omega) (fun b _ => by
    rw [bt_0]
    exact ⟨fun q => absurd q (by decide), fun q => absurd q.2 (by omega)⟩)]
  rfl
theorem scan_loop {al : pu_A} {mu : pu_M} {p n nx : Nat} (c1 : Int32) (hS : pS al mu p n nx) (hR : pR al n) : ∀ d j m, j + d = n → m ≤ j → (1 ≤ m → al 11 (m - 1) 0 = nI 1 ∧ al 11 (m - 1) 4 = nI 0) → ∃ m', m' ≤ n ∧ (∀ u N, d < N → lp_X0_nextPendingToCommit_4 0 (ca al u) N (ixN m) (nI j) = some (ixN m', nI n)) ∧ (∀ u N, d < N → lp_X7_doCommit_25 c1 (ma mu u) N (ixN m) (nI j) = some (ixN m', nI n)) ∧ (1 ≤ m' → al 11 (m' - 1) 0 = nI 1 ∧ al 11 (m' - 1) 4 = nI 0) := by
  have hS' := hS
  obtain ⟨⟨g1, g2, g3, g4, g5, g6, g7, g8, g9, g10⟩, hT, hO, hD, hCs, hE⟩ := hS'
  intro d
  induction d with
  | zero =>
    intro j m hj hm hp
    obtain rfl : j = n := by omega
    refine ⟨m, hm, fun u N hN => ?_, fun u N hN => ?_, hp⟩
    · obtain ⟨N, rfl⟩ : ∃ b, N = b + 1 := ⟨N - 1, by omega⟩
      rw [lp_X0_nextPendingToCommit_4]
      simp (disch := omega) only [li0, li1, li2, li3, li4, li5, li6, li7, li8, li9, li10, li16, li17, li20, li30, li32, li48, li49, li50, li57, li60, li126, li147, nI_add, nI_sb, pk_mul, nI_m1, inrT, leT, leF, ltT, ltF, eqT, eqF, n1lt, m1lt, m1neg, m1nle, m1le, m1a1, m1a2, m1s, m1s', nI_cl, ↓tl, ↓sb, sb, sel, ser, ↓reduceIte, if_true, if_false, true_or, or_true, false_or, or_false, umS, umK, umJ, uaS, uaK, uaI, uaJ, cg1, cg2, cg3, cg4, cg5, cg6, cg7, cg8, cg9, cg10, cg11, cg12, cg13, cg14, cg15, cg16, cg17, cg18, cg19, cg20, cs1, cs2, cs3, cs4, cs5, cs6, cs7, cs8, cs9, cs10, cs11, cs12, cs13, cs14, cs15, cs16, cs17, cs18, cs19, cs20, cc17, cc18, cc19, cc20, g8]
    · obtain ⟨N, rfl⟩ : ∃ b, N = b + 1 := ⟨N - 1, by omega⟩
      rw [lp_X7_doCommit_25]
      simp (disch := omega) only [li0, li1, li2, li3, li4, li5, li6, li7, li8, li9, li10, li16, li17, li20, li30, li32, li48, li49, li50, li57, li60, li126, li147, nI_add, nI_sb, pk_mul, nI_m1, inrT, leT, leF, ltT, ltF, eqT, eqF, n1lt, m1lt, m1neg, m1nle, m1le, m1a1, m1a2, m1s, m1s', nI_cl, ↓tl, ↓sb, sb, sel, ser, ↓reduceIte, if_true, if_false, true_or, or_true, false_or, or_false, umS, umK, umJ, uaS, uaK, uaI, uaJ, mg30, mg31, mg32, mg33, mg34, mg35, mg36, mg37, mg38, mg39, mg40, mg41, mg42, mg43, mg44, mg45, mg46, mg47, mg48, mg49, ms30, ms31, ms32, ms33, ms34, ms35, ms36, ms37, ms38, ms39, ms40, ms41, ms42, ms43, ms44, ms45, ms46, ms47, ms48, ms49, g9]
  | succ d ih =>
    intro j m hj hm hp
    have hw := fun u => r_waits u hS hR (show j < n by omega)
    obtain ⟨-, t1, t2, -⟩ := hT j (by omega)
    by_cases e1 : al 11 j 0 = nI 1
    · by_cases e2 : al 11 j 4 = nI 0
      · by_cases e3 : m = 0
        · subst e3
          obtain ⟨m', q1, q2, q3, q4⟩ := ih (j + 1) (j + 1) (by omega) (by omega) (fun _ => ⟨e1, e2⟩)
          refine ⟨m', q1, fun u N hN => ?_, fun u N hN => ?_, q4⟩
          · obtain ⟨N, rfl⟩ : ∃ b, N = b + 1 := ⟨N - 1, by omega⟩
            have := q2 u N (by omega)
            rw [lp_X0_nextPendingToCommit_4]
            simp (disch := omega) only [li0, li1, li2, li3, li4, li5, li6, li7, li8, li9, li10, li16, li17, li20, li30, li32, li48, li49, li50, li57, li60, li126, li147, nI_add, nI_sb, pk_mul, nI_m1, inrT, leT, leF, ltT, ltF, eqT, eqF, n1lt, m1lt, m1neg, m1nle, m1le, m1a1, m1a2, m1s, m1s', nI_cl, ↓tl, ↓sb, sb, sel, ser, ↓reduceIte, if_true, if_false, true_or, or_true, false_or, or_false, umS, umK, umJ, uaS, uaK, uaI, uaJ, cg1, cg2, cg3, cg4, cg5, cg6, cg7, cg8, cg9, cg10, cg11, cg12, cg13, cg14, cg15, cg16, cg17, cg18, cg19, cg20, cs1, cs2, cs3, cs4, cs5, cs6, cs7, cs8, cs9, cs10, cs11, cs12, cs13, cs14, cs15, cs16, cs17, cs18, cs19, cs20, cc17, cc18, cc19, cc20, g8, e1, e2, ixN_0]
            exact this
          · obtain ⟨N, rfl⟩ : ∃ b, N = b + 1 := ⟨N - 1, by omega⟩
            have := q3 u N (by omega)
            rw [lp_X7_doCommit_25]
            simp (disch := omega) only [li0, li1, li2, li3, li4, li5, li6, li7, li8, li9, li10, li16, li17, li20, li30, li32, li48, li49, li50, li57, li60, li126, li147, nI_add, nI_sb, pk_mul, nI_m1, inrT, leT, leF, ltT, ltF, eqT, eqF, n1lt, m1lt, m1neg, m1nle, m1le, m1a1, m1a2, m1s, m1s', nI_cl, ↓tl, ↓sb, sb, sel, ser, ↓reduceIte, if_true, if_false, true_or, or_true, false_or, or_false, umS, umK, umJ, uaS, uaK, uaI, uaJ, mg30, mg31, mg32, mg33, mg34, mg35, mg36, mg37, mg38, mg39, mg40, mg41, mg42, mg43, mg44, mg45, mg46, mg47, mg48, mg49, ms30, ms31, ms32, ms33, ms34, ms35, ms36, ms37, ms38, ms39, ms40, ms41, ms42, ms43, ms44, ms45, ms46, ms47, ms48, ms49, g9, t1, e1, hw, e2, ixN_0]
            exact this
        · obtain ⟨-, -, t2m, -⟩ := hT (m - 1) (by omega)
          by_cases e4 : al 11 (m - 1) 1 ≤ al 11 j 1
          · obtain ⟨m', q1, q2, q3, q4⟩ := ih (j + 1) m (by omega) (by omega) hp
            refine ⟨m', q1, fun u N hN => ?_, fun u N hN => ?_, q4⟩
            · obtain ⟨N, rfl⟩ : ∃ b, N = b + 1 := ⟨N - 1, by omega⟩
              have := q2 u N (by omega)
              rw [ixN_p (by omega)] at this ⊢
              rw [lp_X0_nextPendingToCommit_4]
              simp (disch := omega) only [li0, li1, li2, li3, li4, li5, li6, li7, li8, li9, li10, li16, li17, li20, li30, li32, li48, li49, li50, li57, li60, li126, li147, nI_add, nI_sb, pk_mul, nI_m1, inrT, leT, leF, ltT, ltF, eqT, eqF, n1lt, m1lt, m1neg, m1nle, m1le, m1a1, m1a2, m1s, m1s', nI_cl, ↓tl, ↓sb, sb, sel, ser, ↓reduceIte, if_true, if_false, true_or, or_true, false_or, or_false, umS, umK, umJ, uaS, uaK, uaI, uaJ, cg1, cg2, cg3, cg4, cg5, cg6, cg7, cg8, cg9, cg10, cg11, cg12, cg13, cg14, cg15, cg16, cg17, cg18, cg19, cg20, cs1, cs2, cs3, cs4, cs5, cs6, cs7, cs8, cs9, cs10, cs11, cs12, cs13, cs14, cs15, cs16, cs17, cs18, cs19, cs20, cc17, cc18, cc19, cc20, g8, e1, e2, if_pos e4]
              exact this
            · obtain ⟨N, rfl⟩ : ∃ b, N = b + 1 := ⟨N - 1, by omega⟩
              have := q3 u N (by omega)
              rw [ixN_p (by omega)] at this ⊢
              rw [lp_X7_doCommit_25]
              simp (disch := omega) only [li0, li1, li2, li3, li4, li5, li6, li7, li8, li9, li10, li16, li17, li20, li30, li32, li48, li49, li50, li57, li60, li126, li147, nI_add, nI_sb, pk_mul, nI_m1, inrT, leT, leF, ltT, ltF, eqT, eqF, n1lt, m1lt, m1neg, m1nle, m1le, m1a1, m1a2, m1s, m1s', nI_cl, ↓tl, ↓sb, sb, sel, ser, ↓reduceIte, if_true, if_false, true_or, or_true, false_or, or_false, umS, umK, umJ, uaS, uaK, uaI, uaJ, mg30, mg31, mg32, mg33, mg34, mg35, mg36, mg37, mg38, mg39, mg40, mg41, mg42, mg43, mg44, mg45, mg46, mg47, mg48, mg49, ms30, ms31, ms32, ms33, ms34, ms35, ms36, ms37, ms38, ms39, ms40, ms41, ms42, ms43, ms44, ms45, ms46, ms47, ms48, ms49, g9, t1, e1, hw, e2, t2, t2m, if_pos e4]
              exact this
          · obtain ⟨m', q1, q2, q3, q4⟩ := ih (j + 1) (j + 1) (by omega) (by omega) (fun _ => ⟨e1, e2⟩)
            refine ⟨m', q1, fun u N hN => ?_, fun u N hN => ?_, q4⟩
            · obtain ⟨N, rfl⟩ : ∃ b, N = b + 1 := ⟨N - 1, by omega⟩
              have := q2 u N (by omega)
              rw [ixN_p (m := m) (by omega), lp_X0_nextPendingToCommit_4]
              simp (disch := omega) only [li0, li1, li2, li3, li4, li5, li6, li7, li8, li9, li10, li16, li17, li20, li30, li32, li48, li49, li50, li57, li60, li126, li147, nI_add, nI_sb, pk_mul, nI_m1, inrT, leT, leF, ltT, ltF, eqT, eqF, n1lt, m1lt, m1neg, m1nle, m1le, m1a1, m1a2, m1s, m1s', nI_cl, ↓tl, ↓sb, sb, sel, ser, ↓reduceIte, if_true, if_false, true_or, or_true, false_or, or_false, umS, umK, umJ, uaS, uaK, uaI, uaJ, cg1, cg2, cg3, cg4, cg5, cg6, cg7, cg8, cg9, cg10, cg11, cg12, cg13, cg14, cg15, cg16, cg17, cg18, cg19, cg20, cs1, cs2, cs3, cs4, cs5, cs6, cs7, cs8, cs9, cs10, cs11, cs12, cs13, cs14, cs15, cs16, cs17, cs18, cs19, cs20, cc17, cc18, cc19, cc20, g8, e1, e2, if_neg e4]
              exact this
            · obtain ⟨N, rfl⟩ : ∃ b, N = b + 1 := ⟨N - 1, by omega⟩
              have := q3 u N (by omega)
              rw [ixN_p (m := m) (by omega), lp_X7_doCommit_25]
              simp (disch := omega) only [li0, li1, li2, li3, li4, li5, li6, li7, li8, li9, li10, li16, li17, li20, li30, li32, li48, li49, li50, li57, li60, li126, li147, nI_add, nI_sb, pk_mul, nI_m1, inrT, leT, leF, ltT, ltF, eqT, eqF, n1lt, m1lt, m1neg, m1nle, m1le, m1a1, m1a2, m1s, m1s', nI_cl, ↓tl, ↓sb, sb, sel, ser, ↓reduceIte, if_true, if_false, true_or, or_true, false_or, or_false, umS, umK, umJ, uaS, uaK, uaI, uaJ, mg30, mg31, mg32, mg33, mg34, mg35, mg36, mg37, mg38, mg39, mg40, mg41, mg42, mg43, mg44, mg45, mg46, mg47, mg48, mg49, ms30, ms31, ms32, ms33, ms34, ms35, ms36, ms37, ms38, ms39, ms40, ms41, ms42, ms43, ms44, ms45, ms46, ms47, ms48, ms49, g9, t1, e1, hw, e2, t2, t2m, if_neg e4]
              exact this
      · obtain ⟨m', q1, q2, q3, q4⟩ := ih (j + 1) m (by omega) (by omega) hp
        refine ⟨m', q1, fun u N hN => ?_, fun u N hN => ?_, q4⟩
        · obtain ⟨N, rfl⟩ : ∃ b, N = b + 1 := ⟨N - 1, by omega⟩
          have := q2 u N (by omega)
          rw [lp_X0_nextPendingToCommit_4]
          simp (disch := omega) only [li0, li1, li2, li3, li4, li5, li6, li7, li8, li9, li10, li16, li17, li20, li30, li32, li48, li49, li50, li57, li60, li126, li147, nI_add, nI_sb, pk_mul, nI_m1, inrT, leT, leF, ltT, ltF, eqT, eqF, n1lt, m1lt, m1neg, m1nle, m1le, m1a1, m1a2, m1s, m1s', nI_cl, ↓tl, ↓sb, sb, sel, ser, ↓reduceIte, if_true, if_false, true_or, or_true, false_or, or_false, umS, umK, umJ, uaS, uaK, uaI, uaJ, cg1, cg2, cg3, cg4, cg5, cg6, cg7, cg8, cg9, cg10, cg11, cg12, cg13, cg14, cg15, cg16, cg17, cg18, cg19, cg20, cs1, cs2, cs3, cs4, cs5, cs6, cs7, cs8, cs9, cs10, cs11, cs12, cs13, cs14, cs15, cs16, cs17, cs18, cs19, cs20, cc17, cc18, cc19, cc20, g8, e1, if_neg e2]
          exact this
        · obtain ⟨N, rfl⟩ : ∃ b, N = b + 1 := ⟨N - 1, by omega⟩
          have := q3 u N (by omega)
          rw [lp_X7_doCommit_25]
          simp (disch := omega) only [li0, li1, li2, li3, li4, li5, li6, li7, li8, li9, li10, li16, li17, li20, li30, li32, li48, li49, li50, li57, li60, li126, li147, nI_add, nI_sb, pk_mul, nI_m1, inrT, leT, leF, ltT, ltF, eqT, eqF, n1lt, m1lt, m1neg, m1nle, m1le, m1a1, m1a2, m1s, m1s', nI_cl, ↓tl, ↓sb, sb, sel, ser, ↓reduceIte, if_true, if_false, true_or, or_true, false_or, or_false, umS, umK, umJ, uaS, uaK, uaI, uaJ, mg30, mg31, mg32, mg33, mg34, mg35, mg36, mg37, mg38, mg39, mg40, mg41, mg42, mg43, mg44, mg45, mg46, mg47, mg48, mg49, ms30, ms31, ms32, ms33, ms34, ms35, ms36, ms37, ms38, ms39, ms40, ms41, ms42, ms43, ms44, ms45, ms46, ms47, ms48, ms49, g9, t1, e1, hw, if_neg e2]
          exact this
    · obtain ⟨m', q1, q2, q3, q4⟩ := ih (j + 1) m (by omega) (by omega) hp
      refine ⟨m', q1, fun u N hN => ?_, fun u N hN => ?_, q4⟩
      · obtain ⟨N, rfl⟩ : ∃ b, N = b + 1 := ⟨N - 1, by omega⟩
        have := q2 u N (by omega)
        rw [lp_X0_nextPendingToCommit_4]
        simp (disch := omega) only [li0, li1, li2, li3, li4, li5, li6, li7, li8, li9, li10, li16, li17, li20, li30, li32, li48, li49, li50, li57, li60, li126, li147, nI_add, nI_sb, pk_mul, nI_m1, inrT, leT, leF, ltT, ltF, eqT, eqF, n1lt, m1lt, m1neg, m1nle, m1le, m1a1, m1a2, m1s, m1s', nI_cl, ↓tl, ↓sb, sb, sel, ser, ↓reduceIte, if_true, if_false, true_or, or_true, false_or, or_false, umS, umK, umJ, uaS, uaK, uaI, uaJ, cg1, cg2, cg3, cg4, cg5, cg6, cg7, cg8, cg9, cg10, cg11, cg12, cg13, cg14, cg15, cg16, cg17, cg18, cg19, cg20, cs1, cs2, cs3, cs4, cs5, cs6, cs7, cs8, cs9, cs10, cs11, cs12, cs13, cs14, cs15, cs16, cs17, cs18, cs19, cs20, cc17, cc18, cc19, cc20, g8, if_neg e1]
        exact this
      · obtain ⟨N, rfl⟩ : ∃ b, N = b + 1 := ⟨N - 1, by omega⟩
        have := q3 u N (by omega)
        rw [lp_X7_doCommit_25]
        simp (disch := omega) only [li0, li1, li2, li3, li4, li5, li6, li7, li8, li9, li10, li16, li17, li20, li30, li32, li48, li49, li50, li57, li60, li126, li147, nI_add, nI_sb, pk_mul, nI_m1, inrT, leT, leF, ltT, ltF, eqT, eqF, n1lt, m1lt, m1neg, m1nle, m1le, m1a1, m1a2, m1s, m1s', nI_cl, ↓tl, ↓sb, sb, sel, ser, ↓reduceIte, if_true, if_false, true_or, or_true, false_or, or_false, umS, umK, umJ, uaS, uaK, uaI, uaJ, mg30, mg31, mg32, mg33, mg34, mg35, mg36, mg37, mg38, mg39, mg40, mg41, mg42, mg43, mg44, mg45, mg46, mg47, mg48, mg49, ms30, ms31, ms32, ms33, ms34, ms35, ms36, ms37, ms38, ms39, ms40, ms41, ms42, ms43, ms44, ms45, ms46, ms47, ms48, ms49, g9, t1, if_neg e1]
        exact this
theorem cm_loop {p n nx : Nat} (c1 c1' : Int32) : ∀ (c : Nat) (al : pu_A) (mu : pu_M) (t rd : Nat), pS al mu p n nx → pR al n → cn (unB al) n = c → t < 16 → rd + c ≤ 16 → ∃ al' mu' m, (∀ u, f_X0_nextPendingToCommit 0 (ca al u) = some (ixN m)) ∧ (∀ u N, c + 1 < N → ∃ x y, lp_X0_askCommit_38 0 c1 N (ixN m) (nI rd) (ca al u) = some (x, y, ca al' u)) ∧ (∀ u N, c + 2 < N → ∃ x, lp_X7_doCommit_16 c1' N (nI t) (ma mu u) = some (x, ma mu' u)) ∧ pS al' mu' p n nx ∧ pR al' n ∧ pM al al' mu mu' ∧ (∀ s, ¬ un al s → al' 11 s 0 = al 11 s 0) := by
  intro c
  induction c using Nat.strongRecOn with
  | ind c IH =>
  intro al mu t rd hS hR hc ht hrd
  have hn : n ≤ 16 := hS.1.2.2.2.2.2.2.2.2.2
  obtain ⟨m, q1, q2, q3, q4⟩ := scan_loop c1' hS hR n 0 0 (by omega) (by omega) (fun h => absurd h (by omega))
  have hsc : ∀ u, f_X0_nextPendingToCommit 0 (ca al u) = some (ixN m) := fun u => by
    unfold f_X0_nextPendingToCommit
    have := q2 u ts_fu (by unfold ts_fu; omega)
    rw [show (-1 : Int32) = ixN 0 from rfl, show (0 : Int32) = nI 0 from rfl, this]
    rfl
  have hsr : ∀ u, lp_X7_doCommit_25 c1' (ma mu u) ts_fu (-nI 1) (nI 0) = some (ixN m, nI n) := fun u => q3 u ts_fu (by unfold ts_fu; omega)
  by_cases e : m = 0
  · subst e
    refine ⟨al, mu, 0, hsc, fun u N hN => ⟨ixN 0, nI rd, ?_⟩, fun u N hN => ⟨-nI 1, ?_⟩, hS, hR, ⟨fun _ _ _ _ => rfl, fun _ _ _ _ => rfl, fun _ _ _ => rfl⟩, fun _ _ => rfl⟩
    · obtain ⟨N, rfl⟩ : ∃ b, N = b + 1 := ⟨N - 1, by omega⟩
      rw [lp_X0_askCommit_38]
      by_cases e2 : 16 ≤ rd
      · simp (disch := omega) only [li0, li1, li2, li3, li4, li5, li6, li7, li8, li9, li10, li16, li17, li20, li30, li32, li48, li49, li50, li57, li60, li126, li147, nI_add, nI_sb, pk_mul, nI_m1, inrT, leT, leF, ltT, ltF, eqT, eqF, n1lt, m1lt, m1neg, m1nle, m1le, m1a1, m1a2, m1s, m1s', nI_cl, ↓tl, ↓sb, sb, sel, ser, ↓reduceIte, if_true, if_false, true_or, or_true, false_or, or_false, umS, umK, umJ, uaS, uaK, uaI, uaJ, ixN_0]
      · simp (disch := omega) only [li0, li1, li2, li3, li4, li5, li6, li7, li8, li9, li10, li16, li17, li20, li30, li32, li48, li49, li50, li57, li60, li126, li147, nI_add, nI_sb, pk_mul, nI_m1, inrT, leT, leF, ltT, ltF, eqT, eqF, n1lt, m1lt, m1neg, m1nle, m1le, m1a1, m1a2, m1s, m1s', nI_cl, ↓tl, ↓sb, sb, sel, ser, ↓reduceIte, if_true, if_false, true_or, or_true, false_or, or_false, umS, umK, umJ, uaS, uaK, uaI, uaJ, ixN_0]
    · obtain ⟨N, rfl⟩ : ∃ b, N = b + 1 := ⟨N - 1, by omega⟩
      obtain ⟨N, rfl⟩ : ∃ b, N = b + 1 := ⟨N - 1, by omega⟩
      rw [lp_X7_doCommit_16]
      simp (disch := omega) only [li0, li1, li2, li3, li4, li5, li6, li7, li8, li9, li10, li16, li17, li20, li30, li32, li48, li49, li50, li57, li60, li126, li147, nI_add, nI_sb, pk_mul, nI_m1, inrT, leT, leF, ltT, ltF, eqT, eqF, n1lt, m1lt, m1neg, m1nle, m1le, m1a1, m1a2, m1s, m1s', nI_cl, ↓tl, ↓sb, sb, sel, ser, ↓reduceIte, if_true, if_false, true_or, or_true, false_or, or_false, umS, umK, umJ, uaS, uaK, uaI, uaJ, hsr, ixN_0]
      rw [lp_X7_doCommit_16]
      simp (disch := omega) only [li0, li1, li2, li3, li4, li5, li6, li7, li8, li9, li10, li16, li17, li20, li30, li32, li48, li49, li50, li57, li60, li126, li147, nI_add, nI_sb, pk_mul, nI_m1, inrT, leT, leF, ltT, ltF, eqT, eqF, n1lt, m1lt, m1neg, m1nle, m1le, m1a1, m1a2, m1s, m1s', nI_cl, ↓tl, ↓sb, sb, sel, ser, ↓reduceIte, if_true, if_false, true_or, or_true, false_or, or_false, umS, umK, umJ, uaS, uaK, uaI, uaJ]
  · obtain ⟨s, rfl⟩ : ∃ s, m = s + 1 := ⟨m - 1, by omega⟩
    rw [Nat.add_sub_cancel] at q4
    obtain ⟨p1, p2⟩ := q4 (by omega)
    have hus : un al s := Or.inr p1
    obtain ⟨al1, mu1, x0, x1, x2, x3, x4, x5, x6⟩ := cm1 hS hR (show s < n by omega) hus p2
    have hu1 : ¬ un al1 s := by
      intro q; rcases q with q | q <;> rw [x4] at q <;> exact absurd q (by decide)
    have hc1 : cn (unB al1) n + 1 = c := by
      rw [← hc]
      exact (cn_off (t := s) (by omega) (unB_t.mpr hus) (unB_f.mpr hu1) (fun j _ hj => by unfold unB; rw [x5 j hj])).symm
    obtain ⟨al2, mu2, m2, y0, y1, y2, y3, y4, y5, y6⟩ := IH (c - 1) (by omega) al1 mu1 s (rd + 1) x2 x3 (by omega) (by omega) (by omega)
    refine ⟨al2, mu2, s + 1, hsc, fun u N hN => ?_, fun u N hN => ?_, y3, y4, pM_trans x6 y5, fun s' hs' => ?_⟩
    · obtain ⟨N, rfl⟩ : ∃ b, N = b + 1 := ⟨N - 1, by omega⟩
      obtain ⟨x, y, h⟩ := y1 u N (by omega)
      refine ⟨x, y, ?_⟩
      rw [lp_X0_askCommit_38, show ixN (s + 1) = nI s from rfl]
      simp (disch := omega) only [li0, li1, li2, li3, li4, li5, li6, li7, li8, li9, li10, li16, li17, li20, li30, li32, li48, li49, li50, li57, li60, li126, li147, nI_add, nI_sb, pk_mul, nI_m1, inrT, leT, leF, ltT, ltF, eqT, eqF, n1lt, m1lt, m1neg, m1nle, m1le, m1a1, m1a2, m1s, m1s', nI_cl, ↓tl, ↓sb, sb, sel, ser, ↓reduceIte, if_true, if_false, true_or, or_true, false_or, or_false, umS, umK, umJ, uaS, uaK, uaI, uaJ, x0, y0]
      exact h
    · obtain ⟨N, rfl⟩ : ∃ b, N = b + 1 := ⟨N - 1, by omega⟩
      obtain ⟨x, h⟩ := y2 u N (by omega)
      refine ⟨x, ?_⟩
      rw [lp_X7_doCommit_16]
      simp (disch := omega) only [li0, li1, li2, li3, li4, li5, li6, li7, li8, li9, li10, li16, li17, li20, li30, li32, li48, li49, li50, li57, li60, li126, li147, nI_add, nI_sb, pk_mul, nI_m1, inrT, leT, leF, ltT, ltF, eqT, eqF, n1lt, m1lt, m1neg, m1nle, m1le, m1a1, m1a2, m1s, m1s', nI_cl, ↓tl, ↓sb, sb, sel, ser, ↓reduceIte, if_true, if_false, true_or, or_true, false_or, or_false, umS, umK, umJ, uaS, uaK, uaI, uaJ, mg30, mg31, mg32, mg33, mg34, mg35, mg36, mg37, mg38, mg39, mg40, mg41, mg42, mg43, mg44, mg45, mg46, mg47, mg48, mg49, ms30, ms31, ms32, ms33, ms34, ms35, ms36, ms37, ms38, ms39, ms40, ms41, ms42, ms43, ms44, ms45, ms46, ms47, ms48, ms49, hsr, show ixN (s + 1) = nI s from rfl, x1]
      exact h
    · have e' : ¬ s' = s := fun q => hs' (q ▸ hus)
      rw [y6 s' (by unfold un at hs' ⊢; rw [x5 s' e']; exact hs'), x5 s' e']
theorem cm_all {al : pu_A} {mu : pu_M} {p n nx t : Nat} (hS : pS al mu p n nx) (hR : pR al n) (ht : t < n) (ha : al 11 t 0 = nI 0) : ∃ al' mu' r, (r = nI 0 ∨ r = nI 1) ∧ (∀ u, f_X0_askCommit 0 (nI t) (ca al u) = some (r, ca al' u)) ∧ (∀ u, f_X7_commits (nI t) (ma mu u) = some (r, ma mu' u)) ∧ pS al' mu' p n nx ∧ pR al' n ∧ pM al al' mu mu' := by
  have hn : n ≤ 16 := hS.1.2.2.2.2.2.2.2.2.2
  have hw := fun u => r_waits u hS hR ht
  have hu : un al t := Or.inl ha
  by_cases e : al 11 t 4 = nI 0
  · obtain ⟨al1, mu1, x0, x1, x2, x3, x4, x5, x6⟩ := cm1 hS hR ht hu e
    have hu1 : ¬ un al1 t := by
      intro q; rcases q with q | q <;> rw [x4] at q <;> exact absurd q (by decide)
    have hc1 : cn (unB al1) n + 1 = cn (unB al) n := (cn_off (t := t) ht (unB_t.mpr hu) (unB_f.mpr hu1) (fun j _ hj => by unfold unB; rw [x5 j hj])).symm
    have hcl := cn_le (unB al) n
    obtain ⟨al2, mu2, m2, y0, y1, y2, y3, y4, y5, y6⟩ := cm_loop (nI t) (nI t) (cn (unB al1) n) al1 mu1 t 1 x2 x3 rfl (by omega) (by omega)
    refine ⟨al2, mu2, nI 1, Or.inr rfl, fun u => ?_, fun u => ?_, y3, y4, pM_trans x6 y5⟩
    · unfold f_X0_askCommit
      obtain ⟨N, hN⟩ : ∃ N, ts_fu = N + 1 := ⟨2999, rfl⟩
      obtain ⟨x, y, h⟩ := y1 u N (by unfold ts_fu at hN; omega)
      rw [hN]
      simp (disch := omega) only [li0, li1, li2, li3, li4, li5, li6, li7, li8, li9, li10, li16, li17, li20, li30, li32, li48, li49, li50, li57, li60, li126, li147, nI_add, nI_sb, pk_mul, nI_m1, inrT, leT, leF, ltT, ltF, eqT, eqF, n1lt, m1lt, m1neg, m1nle, m1le, m1a1, m1a2, m1s, m1s', nI_cl, ↓tl, ↓sb, sb, sel, ser, ↓reduceIte, if_true, if_false, true_or, or_true, false_or, or_false, umS, umK, umJ, uaS, uaK, uaI, uaJ, cg1, cg2, cg3, cg4, cg5, cg6, cg7, cg8, cg9, cg10, cg11, cg12, cg13, cg14, cg15, cg16, cg17, cg18, cg19, cg20, cs1, cs2, cs3, cs4, cs5, cs6, cs7, cs8, cs9, cs10, cs11, cs12, cs13, cs14, cs15, cs16, cs17, cs18, cs19, cs20, cc17, cc18, cc19, cc20, e]
      rw [lp_X0_askCommit_38]
      simp (disch := omega) only [li0, li1, li2, li3, li4, li5, li6, li7, li8, li9, li10, li16, li17, li20, li30, li32, li48, li49, li50, li57, li60, li126, li147, nI_add, nI_sb, pk_mul, nI_m1, inrT, leT, leF, ltT, ltF, eqT, eqF, n1lt, m1lt, m1neg, m1nle, m1le, m1a1, m1a2, m1s, m1s', nI_cl, ↓tl, ↓sb, sb, sel, ser, ↓reduceIte, if_true, if_false, true_or, or_true, false_or, or_false, umS, umK, umJ, uaS, uaK, uaI, uaJ, x0, y0, h]
    · unfold f_X7_commits f_X7_doCommit
      obtain ⟨x, h⟩ := y2 u ts_fu (by unfold ts_fu; omega)
      simp (disch := omega) only [li0, li1, li2, li3, li4, li5, li6, li7, li8, li9, li10, li16, li17, li20, li30, li32, li48, li49, li50, li57, li60, li126, li147, nI_add, nI_sb, pk_mul, nI_m1, inrT, leT, leF, ltT, ltF, eqT, eqF, n1lt, m1lt, m1neg, m1nle, m1le, m1a1, m1a2, m1s, m1s', nI_cl, ↓tl, ↓sb, sb, sel, ser, ↓reduceIte, if_true, if_false, true_or, or_true, false_or, or_false, umS, umK, umJ, uaS, uaK, uaI, uaJ, mg30, mg31, mg32, mg33, mg34, mg35, mg36, mg37, mg38, mg39, mg40, mg41, mg42, mg43, mg44, mg45, mg46, mg47, mg48, mg49, ms30, ms31, ms32, ms33, ms34, ms35, ms36, ms37, ms38, ms39, ms40, ms41, ms42, ms43, ms44, ms45, ms46, ms47, ms48, ms49, hw, e, x1, h]
  · have hE1 : pEv (ua al 11 t 0 (nI 1)) (um mu 31 t (nI 1)) := by
      have hE := hS.2.2.2.2.2
      unfold pEv pu_E at hE ⊢
      simp (disch := omega) only [uaK, umK]
      exact hE
    obtain ⟨al2, mu2, s0, s1, s2, s3, s4⟩ := n_note 4 (nI t) (-nI 1) (by omega) hE1
    have unq : ∀ s, un (ua al 11 t 0 (nI 1)) s ↔ un al s := fun s => by
      by_cases q : s = t
      · subst q
        exact ⟨fun _ => hu, fun _ => Or.inr (uaS _ _ _ _ _)⟩
      · unfold un; rw [uaI _ _ _ _ _ q]
    have n2 : ∀ s, (ua al 11 t 0 (nI 1) 11 s 0 = nI 2) ↔ al 11 s 0 = nI 2 := fun s => by
      by_cases q : s = t
      · subst q; rw [uaS, ha]; decide
      · rw [uaI _ _ _ _ _ q]
    have n3 : ∀ s, (ua al 11 t 0 (nI 1) 11 s 0 = nI 3) ↔ al 11 s 0 = nI 3 := fun s => by
      by_cases q : s = t
      · subst q; rw [uaS, ha]; decide
      · rw [uaI _ _ _ _ _ q]
    refine ⟨al2, mu2, nI 0, Or.inl rfl, fun u => ?_, fun u => ?_, ?_, ?_, ?_⟩
    · unfold f_X0_askCommit
      simp (disch := omega) only [li0, li1, li2, li3, li4, li5, li6, li7, li8, li9, li10, li16, li17, li20, li30, li32, li48, li49, li50, li57, li60, li126, li147, nI_add, nI_sb, pk_mul, nI_m1, inrT, leT, leF, ltT, ltF, eqT, eqF, n1lt, m1lt, m1neg, m1nle, m1le, m1a1, m1a2, m1s, m1s', nI_cl, ↓tl, ↓sb, sb, sel, ser, ↓reduceIte, if_true, if_false, true_or, or_true, false_or, or_false, umS, umK, umJ, uaS, uaK, uaI, uaJ, cg1, cg2, cg3, cg4, cg5, cg6, cg7, cg8, cg9, cg10, cg11, cg12, cg13, cg14, cg15, cg16, cg17, cg18, cg19, cg20, cs1, cs2, cs3, cs4, cs5, cs6, cs7, cs8, cs9, cs10, cs11, cs12, cs13, cs14, cs15, cs16, cs17, cs18, cs19, cs20, cc17, cc18, cc19, cc20, if_neg e, s0]
    · unfold f_X7_commits
      simp (disch := omega) only [li0, li1, li2, li3, li4, li5, li6, li7, li8, li9, li10, li16, li17, li20, li30, li32, li48, li49, li50, li57, li60, li126, li147, nI_add, nI_sb, pk_mul, nI_m1, inrT, leT, leF, ltT, ltF, eqT, eqF, n1lt, m1lt, m1neg, m1nle, m1le, m1a1, m1a2, m1s, m1s', nI_cl, ↓tl, ↓sb, sb, sel, ser, ↓reduceIte, if_true, if_false, true_or, or_true, false_or, or_false, umS, umK, umJ, uaS, uaK, uaI, uaJ, mg30, mg31, mg32, mg33, mg34, mg35, mg36, mg37, mg38, mg39, mg40, mg41, mg42, mg43, mg44, mg45, mg46, mg47, mg48, mg49, ms30, ms31, ms32, ms33, ms34, ms35, ms36, ms37, ms38, ms39, ms40, ms41, ms42, ms43, ms44, ms45, ms46, ms47, ms48, ms49, hw, if_neg e, s1]
    · apply pS_cg (al := ua al 11 t 0 (nI 1)) (mu := um mu 31 t (nI 1)) _ (fun a b j h => s3 a b j (by omega)) (fun a j h => s4 a j (by omega) (by omega) (by omega)) s2
      obtain ⟨hG, hT, hO, hD, hC, hE⟩ := hS
      refine ⟨?_, fun s hs => ?_, fun s hs => ?_, fun s hs j hj => ?_, fun i hi => ?_, hE1⟩
      · unfold pG at hG ⊢
        simp (disch := omega) only [uaK, umK]
        exact hG
      · have := hT s hs
        by_cases q : s = t
        · subst q
          simp (disch := omega) only [uaS, uaJ, umS, umK] at this ⊢
          exact ⟨⟨1, by omega, rfl⟩, trivial, this.2.2⟩
        · simp (disch := omega) only [uaI, umJ, umK] at this ⊢
          exact this
      · have := hO s hs
        simp (disch := omega) only [uaJ, uaK, umK] at this ⊢
        exact this
      · have := hD s hs j hj
        rw [n2]
        simp (disch := omega) only [uaJ, umK] at this ⊢
        exact this
      · obtain ⟨c, c1, c2⟩ := hC i hi
        refine ⟨c, ?_, ?_⟩
        · unfold pC at c1 ⊢
          simp (disch := omega) only [uaK, umK]
          exact c1
        · unfold pW at c2 ⊢
          simp (disch := omega) only [uaK, uaJ, unq, n2, n3]
          exact c2
    · intro s hs j hj hb
      have u2 : ∀ s, un al2 s ↔ un al s := fun s => by
        rw [← unq]; unfold un; rw [s3 _ _ _ (by omega)]
      rw [s3 _ _ _ (by omega), uaJ _ _ _ _ _ (by decide)] at hb
      rw [u2, u2]
      exact hR s hs j hj hb
    · refine ⟨fun s j h1 h2 => ?_, fun a b j h => ?_, fun a j h => ?_⟩
      · rw [s3 _ _ _ (by omega), uaJ _ _ _ _ _ h1]
      · rw [s3 a b j (by omega), uaK _ _ _ _ _ _ (by omega)]
      · rw [s4 a j (by omega) (by omega) (by omega), umK _ _ _ _ (by omega)]
