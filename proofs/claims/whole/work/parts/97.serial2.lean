/-! check: rounds of the serial execution, then the last values -/
def cmB (al : pu_A) (T : Int32) (j : Nat) : Bool := decide (al 11 j 0 = nI 2) && !decide (al 11 j 1 ≤ T)
theorem sr_loop {p n nx : Nat} : ∀ (c : Nat) (al : pu_A) (mu : pu_M) (T v : Int32) (rd : Nat), pS al mu p n nx → (∀ i, i < 8 → al 5 0 i = mu 44 i) → cn (cmB al T) n = c → rd + c ≤ 16 → ∃ al' mu' v' m, (∀ u, f_X0_nextCommittedAfter 0 T (ca al u) = some (ixN m)) ∧ (∀ u, f_X7_nextCommitted T (ma mu u) = some (ixN m)) ∧ (∀ u N, c < N → ∃ x y, lp_X0_serialDifferences_31 0 N v (ixN m) (nI rd) (ca al u) = some (v', x, y, ca al' u)) ∧ (∀ u N, c < N → ∃ x, lp_X7_check_34 N v (ixN m) (ma mu u) = some (v', x, ma mu' u)) ∧ (∀ i, i < 8 → al' 5 0 i = mu' 44 i) ∧ (∀ a b j, ¬ a = 5 → al' a b j = al a b j) ∧ (∀ a j, ¬ a = 44 → mu' a j = mu a j) := by
  intro c
  induction c using Nat.strongRecOn with
  | ind c IH =>
  intro al mu T v rd hS hs hc hrd
  have g10 : n ≤ 16 := hS.1.2.2.2.2.2.2.2.2.2
  obtain ⟨m, q1, q2, q3, q4⟩ := nc T hS
  by_cases e : m = 0
  · subst e
    refine ⟨al, mu, v, 0, q2, q3, fun u N hN => ⟨ixN 0, nI rd, ?_⟩, fun u N hN => ⟨-nI 1, ?_⟩, hs, fun _ _ _ _ => rfl, fun _ _ _ => rfl⟩
    · obtain ⟨N, rfl⟩ : ∃ b, N = b + 1 := ⟨N - 1, by omega⟩
      rw [lp_X0_serialDifferences_31]
      by_cases e2 : 16 ≤ rd
      · simp (disch := omega) only [li0, li1, li2, li3, li4, li5, li6, li7, li8, li9, li10, li16, li17, li20, li30, li32, li48, li49, li50, li57, li60, li126, li147, nI_add, nI_sb, pk_mul, nI_m1, inrT, leT, leF, ltT, ltF, eqT, eqF, n1lt, m1lt, m1neg, m1nle, m1le, m1a1, m1a2, m1s, m1s', nI_cl, ↓tl, ↓sb, sb, sel, ser, ↓reduceIte, if_true, if_false, true_or, or_true, false_or, or_false, umS, umK, umJ, uaS, uaK, uaI, uaJ, ixN_0]
      · simp (disch := omega) only [li0, li1, li2, li3, li4, li5, li6, li7, li8, li9, li10, li16, li17, li20, li30, li32, li48, li49, li50, li57, li60, li126, li147, nI_add, nI_sb, pk_mul, nI_m1, inrT, leT, leF, ltT, ltF, eqT, eqF, n1lt, m1lt, m1neg, m1nle, m1le, m1a1, m1a2, m1s, m1s', nI_cl, ↓tl, ↓sb, sb, sel, ser, ↓reduceIte, if_true, if_false, true_or, or_true, false_or, or_false, umS, umK, umJ, uaS, uaK, uaI, uaJ, ixN_0]
    · obtain ⟨N, rfl⟩ : ∃ b, N = b + 1 := ⟨N - 1, by omega⟩
      rw [lp_X7_check_34]
      simp (disch := omega) only [li0, li1, li2, li3, li4, li5, li6, li7, li8, li9, li10, li16, li17, li20, li30, li32, li48, li49, li50, li57, li60, li126, li147, nI_add, nI_sb, pk_mul, nI_m1, inrT, leT, leF, ltT, ltF, eqT, eqF, n1lt, m1lt, m1neg, m1nle, m1le, m1a1, m1a2, m1s, m1s', nI_cl, ↓tl, ↓sb, sb, sel, ser, ↓reduceIte, if_true, if_false, true_or, or_true, false_or, or_false, umS, umK, umJ, uaS, uaK, uaI, uaJ, ixN_0]
  · obtain ⟨t, rfl⟩ : ∃ s, m = s + 1 := ⟨m - 1, by omega⟩
    rw [Nat.add_sub_cancel] at q4
    obtain ⟨p1, p2⟩ := q4 (by omega)
    have ht : t < n := by omega
    obtain ⟨q, o1, o2, o3, o4⟩ := hS.2.2.1 t ht
    have t2 := (hS.2.1 t ht).2.2.1
    obtain ⟨al1, mu1, v1, x1, x2, x3, x4, x5⟩ := ex_loop v ht q 0 al mu (nI 0) (by omega) o1 hS o2 hs
    have hS1 : pS al1 mu1 p n nx := pS_44 hS x4 (fun a j h _ => x5 a j h)
    have hle : cn (cmB al1 (al 11 t 1)) n < cn (cmB al T) n := by
      apply cn_smono (t := t) _ ht
      · unfold cmB
        rw [x4 _ _ _ (by omega), x4 _ _ _ (by omega)]
        simp [Int32.le_refl]
      · unfold cmB; simp [p1, p2]
      · intro b hb h
        unfold cmB at h ⊢
        rw [x4 _ _ _ (by omega), x4 _ _ _ (by omega)] at h
        simp only [Bool.and_eq_true, decide_eq_true_eq, Bool.not_eq_true', decide_eq_false_iff_not] at h ⊢
        refine ⟨h.1, fun q => h.2 ?_⟩
        rw [Int32.le_iff_toInt_le] at q p2 ⊢
        omega
    obtain ⟨al2, mu2, v2, m2, y0, y1, y2, y3, y4, y5, y6⟩ := IH _ (by rw [← hc]; exact hle) al1 mu1 (al 11 t 1) (v + v1) (rd + 1) hS1 x3 rfl (by omega)
    have hx1 : ∀ u, f_X5_executeSerially 0 t 0 (ca al u) = some (v1, ca al1 u) := fun u => by
      unfold f_X5_executeSerially
      have := x1 u ts_fu (by unfold ts_fu; omega)
      rw [show (0 : Int32) = nI 0 from rfl, this]
      rfl
    have hx2 : ∀ u, lp_X7_check_41 (nI t) ts_fu v (nI 0) (ma mu u) = some (v + v1, nI q, ma mu1 u) := fun u => by
      have := x2 u ts_fu (by unfold ts_fu; omega)
      rw [show v + nI 0 = v by rw [show nI 0 = (0 : Int32) from rfl, Int32.add_zero]] at this
      exact this
    have a1 : al1 11 t 1 = al 11 t 1 := x4 _ _ _ (by omega)
    have a2 : mu1 32 t = al 11 t 1 := by rw [x5 _ _ (by omega), t2]
    refine ⟨al2, mu2, v2, t + 1, q2, q3, fun u N hN => ?_, fun u N hN => ?_, y4, fun a b j h => by rw [y5 a b j h, x4 a b j h], fun a j h => by rw [y6 a j h, x5 a j h]⟩
    · obtain ⟨N, rfl⟩ : ∃ b, N = b + 1 := ⟨N - 1, by omega⟩
      obtain ⟨x, y, h⟩ := y2 u N (by omega)
      refine ⟨x, y, ?_⟩
      rw [lp_X0_serialDifferences_31, show ixN (t + 1) = nI t from rfl]
      simp (disch := omega) only [li0, li1, li2, li3, li4, li5, li6, li7, li8, li9, li10, li16, li17, li20, li30, li32, li48, li49, li50, li57, li60, li126, li147, nI_add, nI_sb, pk_mul, nI_m1, inrT, leT, leF, ltT, ltF, eqT, eqF, n1lt, m1lt, m1neg, m1nle, m1le, m1a1, m1a2, m1s, m1s', nI_cl, ↓tl, ↓sb, sb, sel, ser, ↓reduceIte, if_true, if_false, true_or, or_true, false_or, or_false, umS, umK, umJ, uaS, uaK, uaI, uaJ, cg1, cg2, cg3, cg4, cg5, cg6, cg7, cg8, cg9, cg10, cg11, cg12, cg13, cg14, cg15, cg16, cg17, cg18, cg19, cg20, cs1, cs2, cs3, cs4, cs5, cs6, cs7, cs8, cs9, cs10, cs11, cs12, cs13, cs14, cs15, cs16, cs17, cs18, cs19, cs20, cc17, cc18, cc19, cc20, hx1, a1, y0]
      exact h
    · obtain ⟨N, rfl⟩ : ∃ b, N = b + 1 := ⟨N - 1, by omega⟩
      obtain ⟨x, h⟩ := y3 u N (by omega)
      refine ⟨x, ?_⟩
      rw [lp_X7_check_34, show ixN (t + 1) = nI t from rfl]
      simp (disch := omega) only [li0, li1, li2, li3, li4, li5, li6, li7, li8, li9, li10, li16, li17, li20, li30, li32, li48, li49, li50, li57, li60, li126, li147, nI_add, nI_sb, pk_mul, nI_m1, inrT, leT, leF, ltT, ltF, eqT, eqF, n1lt, m1lt, m1neg, m1nle, m1le, m1a1, m1a2, m1s, m1s', nI_cl, ↓tl, ↓sb, sb, sel, ser, ↓reduceIte, if_true, if_false, true_or, or_true, false_or, or_false, umS, umK, umJ, uaS, uaK, uaI, uaJ, mg30, mg31, mg32, mg33, mg34, mg35, mg36, mg37, mg38, mg39, mg40, mg41, mg42, mg43, mg44, mg45, mg46, mg47, mg48, mg49, ms30, ms31, ms32, ms33, ms34, ms35, ms36, ms37, ms38, ms39, ms40, ms41, ms42, ms43, ms44, ms45, ms46, ms47, ms48, ms49, hx2, a2, y1]
      exact h
theorem fin_loop {al : pu_A} {mu : pu_M} {p n nx : Nat} (hS : pS al mu p n nx) (hs : ∀ i, i < 8 → al 5 0 i = mu 44 i) : ∀ d j (v : Int32), j + d = 8 → ∃ v', (∀ u N c2, d < N → lp_X0_serialDifferences_79 0 c2 (ca al u) N v (nI j) = some (v', nI 8)) ∧ (∀ u N, d < N → lp_X7_check_197 (ma mu u) N v (nI j) = some (v', nI 8)) := by
  intro d
  induction d with
  | zero =>
    intro j v hj
    obtain rfl : j = 8 := by omega
    refine ⟨v, fun u N c2 hN => ?_, fun u N hN => ?_⟩
    · obtain ⟨N, rfl⟩ : ∃ b, N = b + 1 := ⟨N - 1, by omega⟩
      rw [lp_X0_serialDifferences_79]
      simp (disch := omega) only [li0, li1, li2, li3, li4, li5, li6, li7, li8, li9, li10, li16, li17, li20, li30, li32, li48, li49, li50, li57, li60, li126, li147, nI_add, nI_sb, pk_mul, nI_m1, inrT, leT, leF, ltT, ltF, eqT, eqF, n1lt, m1lt, m1neg, m1nle, m1le, m1a1, m1a2, m1s, m1s', nI_cl, ↓tl, ↓sb, sb, sel, ser, ↓reduceIte, if_true, if_false, true_or, or_true, false_or, or_false, umS, umK, umJ, uaS, uaK, uaI, uaJ]
    · obtain ⟨N, rfl⟩ : ∃ b, N = b + 1 := ⟨N - 1, by omega⟩
      rw [lp_X7_check_197]
      simp (disch := omega) only [li0, li1, li2, li3, li4, li5, li6, li7, li8, li9, li10, li16, li17, li20, li30, li32, li48, li49, li50, li57, li60, li126, li147, nI_add, nI_sb, pk_mul, nI_m1, inrT, leT, leF, ltT, ltF, eqT, eqF, n1lt, m1lt, m1neg, m1nle, m1le, m1a1, m1a2, m1s, m1s', nI_cl, ↓tl, ↓sb, sb, sel, ser, ↓reduceIte, if_true, if_false, true_or, or_true, false_or, or_false, umS, umK, umJ, uaS, uaK, uaI, uaJ]
  | succ d ih =>
    intro j v hj
    obtain ⟨c, hC, hW⟩ := hS.2.2.2.2.1 j (by omega)
    obtain ⟨m, m1, m2, m3, m4, m5⟩ := lcm (2147483647 : Int32) hS (show j < 8 by omega) hC hW
    have hm : 1 ≤ m := m5 (by
      rw [Int32.le_iff_toInt_le]
      have := Int32.toInt_lt (al 17 j 0)
      have h2 : (2147483647 : Int32).toInt = 2147483647 := by decide
      omega)
    obtain ⟨k, rfl⟩ : ∃ k, m = k + 1 := ⟨m - 1, by omega⟩
    have ix : ixN (k + 1) = nI k := rfl
    rw [ix] at m2 m3
    obtain ⟨d1, d2, d3, d4⟩ := hC
    have dk := (d4 k (by omega)).2.2.1
    have h5 := hs j (by omega)
    have w0 : ∀ x : Int32, x + nI 0 = x := fun x => by rw [show nI 0 = (0 : Int32) from rfl, Int32.add_zero]
    by_cases e : al 19 j k = mu 44 j
    · obtain ⟨v', q1, q2⟩ := ih (j + 1) v (by omega)
      refine ⟨v', fun u N c2 hN => ?_, fun u N hN => ?_⟩
      · obtain ⟨N, rfl⟩ : ∃ b, N = b + 1 := ⟨N - 1, by omega⟩
        have := q1 u N c2 (by omega)
        rw [lp_X0_serialDifferences_79]
        simp (disch := omega) only [li0, li1, li2, li3, li4, li5, li6, li7, li8, li9, li10, li16, li17, li20, li30, li32, li48, li49, li50, li57, li60, li126, li147, nI_add, nI_sb, pk_mul, nI_m1, inrT, leT, leF, ltT, ltF, eqT, eqF, n1lt, m1lt, m1neg, m1nle, m1le, m1a1, m1a2, m1s, m1s', nI_cl, ↓tl, ↓sb, sb, sel, ser, ↓reduceIte, if_true, if_false, true_or, or_true, false_or, or_false, umS, umK, umJ, uaS, uaK, uaI, uaJ, cg1, cg2, cg3, cg4, cg5, cg6, cg7, cg8, cg9, cg10, cg11, cg12, cg13, cg14, cg15, cg16, cg17, cg18, cg19, cg20, cs1, cs2, cs3, cs4, cs5, cs6, cs7, cs8, cs9, cs10, cs11, cs12, cs13, cs14, cs15, cs16, cs17, cs18, cs19, cs20, cc17, cc18, cc19, cc20, m2, h5, if_pos e]
        exact this
      · obtain ⟨N, rfl⟩ : ∃ b, N = b + 1 := ⟨N - 1, by omega⟩
        have := q2 u N (by omega)
        rw [lp_X7_check_197]
        unfold f_X7_place
        simp (disch := omega) only [li0, li1, li2, li3, li4, li5, li6, li7, li8, li9, li10, li16, li17, li20, li30, li32, li48, li49, li50, li57, li60, li126, li147, nI_add, nI_sb, pk_mul, nI_m1, inrT, leT, leF, ltT, ltF, eqT, eqF, n1lt, m1lt, m1neg, m1nle, m1le, m1a1, m1a2, m1s, m1s', nI_cl, ↓tl, ↓sb, sb, sel, ser, ↓reduceIte, if_true, if_false, true_or, or_true, false_or, or_false, umS, umK, umJ, uaS, uaK, uaI, uaJ, mg30, mg31, mg32, mg33, mg34, mg35, mg36, mg37, mg38, mg39, mg40, mg41, mg42, mg43, mg44, mg45, mg46, mg47, mg48, mg49, ms30, ms31, ms32, ms33, ms34, ms35, ms36, ms37, ms38, ms39, ms40, ms41, ms42, ms43, ms44, ms45, ms46, ms47, ms48, ms49, m3, dk, if_pos e, w0]
        exact this
    · obtain ⟨v', q1, q2⟩ := ih (j + 1) (v + nI 1) (by omega)
      refine ⟨v', fun u N c2 hN => ?_, fun u N hN => ?_⟩
      · obtain ⟨N, rfl⟩ : ∃ b, N = b + 1 := ⟨N - 1, by omega⟩
        have := q1 u N c2 (by omega)
        rw [lp_X0_serialDifferences_79]
        simp (disch := omega) only [li0, li1, li2, li3, li4, li5, li6, li7, li8, li9, li10, li16, li17, li20, li30, li32, li48, li49, li50, li57, li60, li126, li147, nI_add, nI_sb, pk_mul, nI_m1, inrT, leT, leF, ltT, ltF, eqT, eqF, n1lt, m1lt, m1neg, m1nle, m1le, m1a1, m1a2, m1s, m1s', nI_cl, ↓tl, ↓sb, sb, sel, ser, ↓reduceIte, if_true, if_false, true_or, or_true, false_or, or_false, umS, umK, umJ, uaS, uaK, uaI, uaJ, cg1, cg2, cg3, cg4, cg5, cg6, cg7, cg8, cg9, cg10, cg11, cg12, cg13, cg14, cg15, cg16, cg17, cg18, cg19, cg20, cs1, cs2, cs3, cs4, cs5, cs6, cs7, cs8, cs9, cs10, cs11, cs12, cs13, cs14, cs15, cs16, cs17, cs18, cs19, cs20, cc17, cc18, cc19, cc20, m2, h5, if_neg e]
        exact this
      · obtain ⟨N, rfl⟩ : ∃ b, N = b + 1 := ⟨N - 1, by omega⟩
        have := q2 u N (by omega)
        rw [lp_X7_check_197]
        unfold f_X7_place
        simp (disch := omega) only [li0, li1, li2, li3, li4, li5, li6, li7, li8, li9, li10, li16, li17, li20, li30, li32, li48, li49, li50, li57, li60, li126, li147, nI_add, nI_sb, pk_mul, nI_m1, inrT, leT, leF, ltT, ltF, eqT, eqF, n1lt, m1lt, m1neg, m1nle, m1le, m1a1, m1a2, m1s, m1s', nI_cl, ↓tl, ↓sb, sb, sel, ser, ↓reduceIte, if_true, if_false, true_or, or_true, false_or, or_false, umS, umK, umJ, uaS, uaK, uaI, uaJ, mg30, mg31, mg32, mg33, mg34, mg35, mg36, mg37, mg38, mg39, mg40, mg41, mg42, mg43, mg44, mg45, mg46, mg47, mg48, mg49, ms30, ms31, ms32, ms33, ms34, ms35, ms36, ms37, ms38, ms39, ms40, ms41, ms42, ms43, ms44, ms45, ms46, ms47, ms48, ms49, m3, dk, if_neg e, w0]
        exact this
theorem z5_loop : ∀ d j (al : pu_A), j + d = 8 → ∃ al', (∀ u N, d < N → lp_X0_serialDifferences_2 0 N (nI j) (ca al u) = some (nI 8, ca al' u)) ∧ (∀ k, j ≤ k → k < 8 → al' 5 0 k = nI 0) ∧ (∀ a b x, ¬ a = 5 ∨ x < j → al' a b x = al a b x) := by
  intro d
  induction d with
  | zero =>
    intro j al hj
    obtain rfl : j = 8 := by omega
    refine ⟨al, fun u N hN => ?_, fun k h1 h2 => absurd h1 (by omega), fun _ _ _ _ => rfl⟩
    obtain ⟨N, rfl⟩ : ∃ b, N = b + 1 := ⟨N - 1, by omega⟩
    rw [lp_X0_serialDifferences_2]
    simp (disch := omega) only [li0, li1, li2, li3, li4, li5, li6, li7, li8, li9, li10, li16, li17, li20, li30, li32, li48, li49, li50, li57, li60, li126, li147, nI_add, nI_sb, pk_mul, nI_m1, inrT, leT, leF, ltT, ltF, eqT, eqF, n1lt, m1lt, m1neg, m1nle, m1le, m1a1, m1a2, m1s, m1s', nI_cl, ↓tl, ↓sb, sb, sel, ser, ↓reduceIte, if_true, if_false, true_or, or_true, false_or, or_false, umS, umK, umJ, uaS, uaK, uaI, uaJ]
  | succ d ih =>
    intro j al hj
    obtain ⟨al', q1, q2, q3⟩ := ih (j + 1) (ua al 5 0 j (nI 0)) (by omega)
    refine ⟨al', fun u N hN => ?_, fun k h1 h2 => ?_, fun a b x h => ?_⟩
    · obtain ⟨N, rfl⟩ : ∃ b, N = b + 1 := ⟨N - 1, by omega⟩
      have := q1 u N (by omega)
      rw [lp_X0_serialDifferences_2]
      simp (disch := omega) only [li0, li1, li2, li3, li4, li5, li6, li7, li8, li9, li10, li16, li17, li20, li30, li32, li48, li49, li50, li57, li60, li126, li147, nI_add, nI_sb, pk_mul, nI_m1, inrT, leT, leF, ltT, ltF, eqT, eqF, n1lt, m1lt, m1neg, m1nle, m1le, m1a1, m1a2, m1s, m1s', nI_cl, ↓tl, ↓sb, sb, sel, ser, ↓reduceIte, if_true, if_false, true_or, or_true, false_or, or_false, umS, umK, umJ, uaS, uaK, uaI, uaJ, cg1, cg2, cg3, cg4, cg5, cg6, cg7, cg8, cg9, cg10, cg11, cg12, cg13, cg14, cg15, cg16, cg17, cg18, cg19, cg20, cs1, cs2, cs3, cs4, cs5, cs6, cs7, cs8, cs9, cs10, cs11, cs12, cs13, cs14, cs15, cs16, cs17, cs18, cs19, cs20, cc17, cc18, cc19, cc20]
      exact this
    · by_cases e : k = j
      · subst e; rw [q3 _ _ _ (by omega), uaS]
      · exact q2 k (by omega) h2
    · rw [q3 a b x (by omega)]
      unfold ua
      rw [if_neg (by omega)]
theorem z44_loop : ∀ d j (mu : pu_M), j + d = 8 → ∃ mu', (∀ u N, d < N → lp_X7_check_7 N (nI j) (ma mu u) = some (nI 8, ma mu' u)) ∧ (∀ k, j ≤ k → k < 8 → mu' 44 k = nI 0) ∧ (∀ a x, ¬ a = 44 ∨ x < j → mu' a x = mu a x) := by
  intro d
  induction d with
  | zero =>
    intro j mu hj
    obtain rfl : j = 8 := by omega
    refine ⟨mu, fun u N hN => ?_, fun k h1 h2 => absurd h1 (by omega), fun _ _ _ => rfl⟩
    obtain ⟨N, rfl⟩ : ∃ b, N = b + 1 := ⟨N - 1, by omega⟩
    rw [lp_X7_check_7]
    simp (disch := omega) only [li0, li1, li2, li3, li4, li5, li6, li7, li8, li9, li10, li16, li17, li20, li30, li32, li48, li49, li50, li57, li60, li126, li147, nI_add, nI_sb, pk_mul, nI_m1, inrT, leT, leF, ltT, ltF, eqT, eqF, n1lt, m1lt, m1neg, m1nle, m1le, m1a1, m1a2, m1s, m1s', nI_cl, ↓tl, ↓sb, sb, sel, ser, ↓reduceIte, if_true, if_false, true_or, or_true, false_or, or_false, umS, umK, umJ, uaS, uaK, uaI, uaJ]
  | succ d ih =>
    intro j mu hj
    obtain ⟨mu', q1, q2, q3⟩ := ih (j + 1) (um mu 44 j (nI 0)) (by omega)
    refine ⟨mu', fun u N hN => ?_, fun k h1 h2 => ?_, fun a x h => ?_⟩
    · obtain ⟨N, rfl⟩ : ∃ b, N = b + 1 := ⟨N - 1, by omega⟩
      have := q1 u N (by omega)
      rw [lp_X7_check_7]
      simp (disch := omega) only [li0, li1, li2, li3, li4, li5, li6, li7, li8, li9, li10, li16, li17, li20, li30, li32, li48, li49, li50, li57, li60, li126, li147, nI_add, nI_sb, pk_mul, nI_m1, inrT, leT, leF, ltT, ltF, eqT, eqF, n1lt, m1lt, m1neg, m1nle, m1le, m1a1, m1a2, m1s, m1s', nI_cl, ↓tl, ↓sb, sb, sel, ser, ↓reduceIte, if_true, if_false, true_or, or_true, false_or, or_false, umS, umK, umJ, uaS, uaK, uaI, uaJ, mg30, mg31, mg32, mg33, mg34, mg35, mg36, mg37, mg38, mg39, mg40, mg41, mg42, mg43, mg44, mg45, mg46, mg47, mg48, mg49, ms30, ms31, ms32, ms33, ms34, ms35, ms36, ms37, ms38, ms39, ms40, ms41, ms42, ms43, ms44, ms45, ms46, ms47, ms48, ms49]
      exact this
    · by_cases e : k = j
      · subst e; rw [q3 _ _ (by omega), umS]
      · exact q2 k (by omega) h2
    · rw [q3 a x (by omega)]
      unfold um
      rw [if_neg (by omega)]
theorem chk {al : pu_A} {mu : pu_M} {p n nx : Nat} (hS : pS al mu p n nx) (hR : pR al n) : ∃ al' mu' r, (∀ u, f_X0_serialDifferences 0 (ca al u) = some (r, ca al' u)) ∧ (∀ u, f_X7_check (ma mu u) = some (r, ma mu' u)) ∧ pS al' mu' p n nx ∧ pR al' n ∧ mu' 30 0 = nI 0 ∧ (∀ a j, (a = 30 ∧ ¬ j = 0) ∨ (41 < a ∧ ¬ a = 44) → mu' a j = mu a j) := by
  have g10 : n ≤ 16 := hS.1.2.2.2.2.2.2.2.2.2
  obtain ⟨al1, x1, x2, x3⟩ := z5_loop 8 0 al (by omega)
  obtain ⟨mu1, y1, y2, y3⟩ := z44_loop 8 0 (um mu 30 0 (nI 0)) (by omega)
  have hS1 : pS al1 mu1 p n nx := pS_44 hS (fun a b j h => x3 a b j (Or.inl h)) (fun a j h h2 => by rw [y3 a j (Or.inl h)]; unfold um; rw [if_neg h2])
  have hs1 : ∀ i, i < 8 → al1 5 0 i = mu1 44 i := fun i hi => by rw [x2 i (by omega) hi, y2 i (by omega) hi]
  have hcl := cn_le (cmB al1 (nI 0)) n
  obtain ⟨al2, mu2, v2, m, z0, z1, z2, z3, z4, z5, z6⟩ := sr_loop _ al1 mu1 (nI 0) (nI 0) 0 hS1 hs1 rfl (by omega)
  have hS2 : pS al2 mu2 p n nx := pS_44 hS1 z5 (fun a j h _ => z6 a j h)
  obtain ⟨v3, w1, w2⟩ := fin_loop hS2 z4 8 0 v2 (by omega)
  refine ⟨al2, mu2, v3, fun u => ?_, fun u => ?_, hS2, ?_, ?_, fun a j h => ?_⟩
  · unfold f_X0_serialDifferences
    have h1 := x1 u ts_fu (by unfold ts_fu; omega)
    obtain ⟨x, y, h2⟩ := z2 u ts_fu (by unfold ts_fu; omega)
    have h3 := w1 u ts_fu x (by unfold ts_fu; omega)
    simp (disch := omega) only [li0, li1, li2, li3, li4, li5, li6, li7, li8, li9, li10, li16, li17, li20, li30, li32, li48, li49, li50, li57, li60, li126, li147, nI_add, nI_sb, pk_mul, nI_m1, inrT, leT, leF, ltT, ltF, eqT, eqF, n1lt, m1lt, m1neg, m1nle, m1le, m1a1, m1a2, m1s, m1s', nI_cl, ↓tl, ↓sb, sb, sel, ser, ↓reduceIte, if_true, if_false, true_or, or_true, false_or, or_false, umS, umK, umJ, uaS, uaK, uaI, uaJ, h1, z0, h2, h3]
  · unfold f_X7_check
    have h1 := y1 u ts_fu (by unfold ts_fu; omega)
    obtain ⟨x, h2⟩ := z3 u ts_fu (by unfold ts_fu; omega)
    have h3 := w2 u ts_fu (by unfold ts_fu; omega)
    simp (disch := omega) only [li0, li1, li2, li3, li4, li5, li6, li7, li8, li9, li10, li16, li17, li20, li30, li32, li48, li49, li50, li57, li60, li126, li147, nI_add, nI_sb, pk_mul, nI_m1, inrT, leT, leF, ltT, ltF, eqT, eqF, n1lt, m1lt, m1neg, m1nle, m1le, m1a1, m1a2, m1s, m1s', nI_cl, ↓tl, ↓sb, sb, sel, ser, ↓reduceIte, if_true, if_false, true_or, or_true, false_or, or_false, umS, umK, umJ, uaS, uaK, uaI, uaJ, mg30, mg31, mg32, mg33, mg34, mg35, mg36, mg37, mg38, mg39, mg40, mg41, mg42, mg43, mg44, mg45, mg46, mg47, mg48, mg49, ms30, ms31, ms32, ms33, ms34, ms35, ms36, ms37, ms38, ms39, ms40, ms41, ms42, ms43, ms44, ms45, ms46, ms47, ms48, ms49, h1, z1, h2, h3]
  · intro t ht j hj hb
    unfold un
    rw [z5 _ _ _ (by omega), x3 _ _ _ (by omega)] at hb
    rw [z5 _ _ _ (by omega), x3 _ _ _ (by omega), z5 _ _ _ (by omega), x3 _ _ _ (by omega)]
    exact hR t ht j hj hb
  · rw [z6 _ _ (by omega), y3 _ _ (by omega), umS]
  · rw [z6 _ _ (by omega), y3 _ _ (by omega)]
    unfold um
    rw [if_neg (by omega)]
