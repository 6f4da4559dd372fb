/-! an operation of the list is done -/
theorem pS_m {al : pu_A} {mu : pu_M} {p n nx : Nat} (j : Nat) (x : Int32) (hj : 14 < j) (h : pS al mu p n nx) : pS al (um mu 30 j x) p n nx := pS_cg h (fun _ _ _ _ => rfl) (fun a k hk => by unfold um; rw [if_neg (by omega)]) (by
  have := h.2.2.2.2.2
  unfold pEv pu_E at this ⊢
  simp (disch := omega) only [umJ, umK]
  exact this)
theorem pP_m (al : pu_A) (mu : pu_M) (j : Nat) (x : Int32) (hj : 14 < j) (hj2 : j < 19) : pP al al mu (um mu 30 j x) := ⟨fun _ => ⟨rfl, rfl⟩, fun _ _ _ _ => rfl, fun a k h => by unfold um; rw [if_neg (by omega)]⟩
theorem pS_res {al : pu_A} {mu : pu_M} {p n nx t k : Nat} (x : Int32) (hS : pS al mu p n nx) (ht : t < n) (hk : k < 20) : pS (ua al 15 t k x) (um mu 36 (4 * (20 * t + k) + 3) x) p n nx := by
  obtain ⟨hG, hT, hO, hD, hC, hE⟩ := hS
  refine ⟨?_, ?_, fun s hs => ?_, ?_, ?_, ?_⟩
  · unfold pG at hG ⊢
    simp (disch := omega) only [uaK, umK]
    exact hG
  · unfold pT at hT ⊢
    simp (disch := omega) only [uaK, umK]
    exact hT
  · obtain ⟨q, q1, q2, q3, q4⟩ := hO s hs
    refine ⟨q, q1, ?_, ?_, fun k' hk' => ?_⟩
    · rw [uaK _ _ _ _ _ _ (by decide)]; exact q2
    · rw [umK _ _ _ _ (by decide)]; exact q3
    · have := q4 k' hk'
      by_cases e : s = t
      · subst e
        by_cases e2 : k' = k
        · subst e2
          simp (disch := omega) only [uaK, uaS, umS, umJ]
          exact ⟨this.1, this.2.1, this.2.2.1, this.2.2.2.1, this.2.2.2.2.1, trivial⟩
        · simp (disch := omega) only [uaK, uaJ, umJ]
          exact this
      · simp (disch := omega) only [uaK, uaI, umJ]
        exact this
  · unfold pD at hD ⊢
    simp (disch := omega) only [uaK, umK]
    exact hD
  · unfold pCs pC pW un at hC ⊢
    simp (disch := omega) only [uaK, umK]
    exact hC
  · unfold pEv pu_E at hE ⊢
    simp (disch := omega) only [uaK, umK]
    exact hE
theorem ab_P {al : pu_A} {mu : pu_M} {p n nx t i : Nat} (hS : pS al mu p n nx) (hR : pR al n) (ht : t < n) (ha : al 11 t 0 = nI 0) : ∃ al' mu' r, (∀ u, f_X0_abortWithDependents 0 (nI t) (nI i) (ca al u) = some (nI r, ca al' u)) ∧ (∀ u, f_X7_doAbort 17 (nI t) (nI 6) (nI i) (ma mu u) = some (nI r, ma mu' u)) ∧ pS al' mu' p n nx ∧ pR al' n ∧ al' 11 t 0 = nI 3 ∧ pP al al' mu mu' := by
  obtain ⟨al', mu', r, a1, a2, a3, a4, a5, a6, a7, a8⟩ := ab_all (nI i) hS hR ht (Or.inl ha)
  exact ⟨al', mu', r, a1, a2, a3, a4, a5, a6, fun a b j h => a7 a b j (by omega), fun a j h => a8 a j (by omega)⟩
theorem z_add (x : Int32) : nI 0 + x = x := by
  show (0 : Int32) + x = x
  exact Int32.zero_add x
theorem nI_nmin {b : Nat} (h : b < 2 ^ 31) : (nI b = -2147483648) = False := eq_false (fun e => by
  have h1 : (nI b).toInt = (-2147483648 : Int32).toInt := congrArg Int32.toInt e
  rw [nI_toInt h] at h1
  have h2 : (-2147483648 : Int32).toInt = -2147483648 := by decide
  omega)
theorem min_T : ((-2147483648 : Int32) = -2147483648) = True := eq_true rfl
theorem pR_15 {al : pu_A} {n t k : Nat} {x : Int32} (h : pR al n) : pR (ua al 15 t k x) n := by
  unfold pR un at h ⊢
  simp (disch := omega) only [uaK]
  exact h
theorem pf {al : pu_A} {mu : pu_M} {p n nx t k q kd i : Nat} (hS : pS al mu p n nx) (hR : pR al n) (ht : t < n) (ha : al 11 t 0 = nI 0) (hq : al 11 t 5 = nI q) (hq20 : q ≤ 20) (hk : k < q) (hkd : al 12 t k = nI kd) (hkd2 : kd ≤ 2) (hit : al 13 t k = nI i) (hi : i < 8) : ∃ al' mu' ok r, (∀ u, f_X0_perform 0 (nI t) (nI k) (ca al u) = some (r, ca al' u)) ∧ (∀ u, f_X7_doOperation (nI t) (nI k) (ma mu u) = some (nI ok, ma mu' u)) ∧ ((ok = 0 ∧ r = -2147483648 ∧ al' 11 t 0 = nI 3) ∨ (ok = 1 ∧ al' 11 t 0 = nI 0 ∧ r = mu' 30 (16 + (if kd = 0 then 0 else if kd = 1 then 2 else 1)))) ∧ pS al' mu' p n nx ∧ pR al' n ∧ pP al al' mu mu' := by
  have g10 : n ≤ 16 := hS.1.2.2.2.2.2.2.2.2.2
  obtain ⟨q', o1, o2, o3, o4⟩ := hS.2.2.1 t ht
  have : q' = q := by rw [hq] at o2; exact ((nI_eq (by omega) (by omega)).mp o2).symm
  subst this
  obtain ⟨-, -, r0, r1, r2, r3⟩ := o4 k hk
  rw [hkd] at r0
  rw [hit] at r1
  by_cases k1 : kd = 1
  · subst k1
    rcases wr (al 14 t k) (pS_m 17 (al 14 t k) (by omega) hS) hR ht ha hi with ⟨c1, c2⟩ | ⟨al1, mu1, b, b1, c1, c2, s1, s2, s3, s4, -⟩
    · obtain ⟨al2, mu2, rr, x1, x2, x3, x4, x5, x6⟩ := ab_P (i := i) (pS_m 17 (al 14 t k) (by omega) hS) hR ht ha
      simp only [x2, sb] at c2
      refine ⟨al2, um mu2 30 18 (-2147483648), 0, -2147483648, fun u => ?_, fun u => ?_, Or.inl ⟨rfl, rfl, x5⟩, pS_m 18 _ (by omega) x3, x4, pP_trans (pP_trans (pP_m al mu 17 _ (by omega) (by omega)) x6) (pP_m _ _ 18 _ (by omega) (by omega))⟩
      · unfold f_X0_perform
        simp (disch := omega) only [li0, li1, li2, li3, li4, li5, li6, li7, li8, li9, li10, li16, li17, li20, li30, li32, li48, li49, li50, li57, li60, li126, li147, nI_add, nI_sb, pk_mul, nI_m1, inrT, leT, leF, ltT, ltF, eqT, eqF, n1lt, m1lt, m1neg, m1nle, m1le, m1a1, m1a2, m1s, m1s', nI_cl, ↓tl, ↓sb, sb, sel, ser, ↓reduceIte, if_true, if_false, true_or, or_true, false_or, or_false, umS, umK, umJ, uaS, uaK, uaI, uaJ, cg1, cg2, cg3, cg4, cg5, cg6, cg7, cg8, cg9, cg10, cg11, cg12, cg13, cg14, cg15, cg16, cg17, cg18, cg19, cg20, cs1, cs2, cs3, cs4, cs5, cs6, cs7, cs8, cs9, cs10, cs11, cs12, cs13, cs14, cs15, cs16, cs17, cs18, cs19, cs20, cc17, cc18, cc19, cc20, hkd, hit, z_add, c1, x1]
      · unfold f_X7_doOperation f_X7_listPlace
        simp (disch := omega) only [li0, li1, li2, li3, li4, li5, li6, li7, li8, li9, li10, li16, li17, li20, li30, li32, li48, li49, li50, li57, li60, li126, li147, nI_add, nI_sb, pk_mul, nI_m1, inrT, leT, leF, ltT, ltF, eqT, eqF, n1lt, m1lt, m1neg, m1nle, m1le, m1a1, m1a2, m1s, m1s', nI_cl, ↓tl, ↓sb, sb, sel, ser, ↓reduceIte, if_true, if_false, true_or, or_true, false_or, or_false, umS, umK, umJ, uaS, uaK, uaI, uaJ, mg30, mg31, mg32, mg33, mg34, mg35, mg36, mg37, mg38, mg39, mg40, mg41, mg42, mg43, mg44, mg45, mg46, mg47, mg48, mg49, ms30, ms31, ms32, ms33, ms34, ms35, ms36, ms37, ms38, ms39, ms40, ms41, ms42, ms43, ms44, ms45, ms46, ms47, ms48, ms49, r0, r1, r2, c2, min_T]
    · refine ⟨ua al1 15 t k (nI 0), um (um mu1 30 18 (nI b)) 36 (4 * (20 * t + k) + 3) (nI 0), 1, nI b, fun u => ?_, fun u => ?_, Or.inr ⟨rfl, ?_, ?_⟩, pS_res _ (pS_m 18 _ (by omega) s1) ht (by omega), pR_15 s2, ?_⟩
      · unfold f_X0_perform
        simp (disch := omega) only [li0, li1, li2, li3, li4, li5, li6, li7, li8, li9, li10, li16, li17, li20, li30, li32, li48, li49, li50, li57, li60, li126, li147, nI_add, nI_sb, pk_mul, nI_m1, inrT, leT, leF, ltT, ltF, eqT, eqF, n1lt, m1lt, m1neg, m1nle, m1le, m1a1, m1a2, m1s, m1s', nI_cl, ↓tl, ↓sb, sb, sel, ser, ↓reduceIte, if_true, if_false, true_or, or_true, false_or, or_false, umS, umK, umJ, uaS, uaK, uaI, uaJ, cg1, cg2, cg3, cg4, cg5, cg6, cg7, cg8, cg9, cg10, cg11, cg12, cg13, cg14, cg15, cg16, cg17, cg18, cg19, cg20, cs1, cs2, cs3, cs4, cs5, cs6, cs7, cs8, cs9, cs10, cs11, cs12, cs13, cs14, cs15, cs16, cs17, cs18, cs19, cs20, cc17, cc18, cc19, cc20, hkd, hit, z_add, c1]
      · unfold f_X7_doOperation f_X7_listPlace
        simp (disch := omega) only [li0, li1, li2, li3, li4, li5, li6, li7, li8, li9, li10, li16, li17, li20, li30, li32, li48, li49, li50, li57, li60, li126, li147, nI_add, nI_sb, pk_mul, nI_m1, inrT, leT, leF, ltT, ltF, eqT, eqF, n1lt, m1lt, m1neg, m1nle, m1le, m1a1, m1a2, m1s, m1s', nI_cl, ↓tl, ↓sb, sb, sel, ser, ↓reduceIte, if_true, if_false, true_or, or_true, false_or, or_false, umS, umK, umJ, uaS, uaK, uaI, uaJ, mg30, mg31, mg32, mg33, mg34, mg35, mg36, mg37, mg38, mg39, mg40, mg41, mg42, mg43, mg44, mg45, mg46, mg47, mg48, mg49, ms30, ms31, ms32, ms33, ms34, ms35, ms36, ms37, ms38, ms39, ms40, ms41, ms42, ms43, ms44, ms45, ms46, ms47, ms48, ms49, r0, r1, r2, c2, nI_nmin]
      · rw [uaK _ _ _ _ _ _ (by decide)]; exact s3
      · rw [if_neg (by decide), if_pos rfl, umK _ _ _ _ (by decide), umS]
      · refine pP_trans (pP_trans (pP_trans (pP_m al mu 17 _ (by omega) (by omega)) s4) (pP_m _ _ 18 (nI b) (by omega) (by omega))) ⟨fun s => ?_, fun a b j h => ?_, fun a j h => ?_⟩
        · simp (disch := omega) only [uaK, and_self]
        · rw [uaK _ _ _ _ _ _ (by omega)]
        · rw [umK _ _ _ _ (by omega)]
  · rcases rd hS hR ht ha hi with ⟨c1, c2⟩ | ⟨al1, mu1, kv, b1, c1, c2, v1, s1, s2, s3, s4⟩
    · obtain ⟨al2, mu2, rr, x1, x2, x3, x4, x5, x6⟩ := ab_P (i := i) hS hR ht ha
      simp only [x2, sb] at c2
      refine ⟨al2, mu2, 0, -2147483648, fun u => ?_, fun u => ?_, Or.inl ⟨rfl, rfl, x5⟩, x3, x4, x6⟩
      · unfold f_X0_perform
        simp (disch := omega) only [li0, li1, li2, li3, li4, li5, li6, li7, li8, li9, li10, li16, li17, li20, li30, li32, li48, li49, li50, li57, li60, li126, li147, nI_add, nI_sb, pk_mul, nI_m1, inrT, leT, leF, ltT, ltF, eqT, eqF, n1lt, m1lt, m1neg, m1nle, m1le, m1a1, m1a2, m1s, m1s', nI_cl, ↓tl, ↓sb, sb, sel, ser, ↓reduceIte, if_true, if_false, true_or, or_true, false_or, or_false, umS, umK, umJ, uaS, uaK, uaI, uaJ, cg1, cg2, cg3, cg4, cg5, cg6, cg7, cg8, cg9, cg10, cg11, cg12, cg13, cg14, cg15, cg16, cg17, cg18, cg19, cg20, cs1, cs2, cs3, cs4, cs5, cs6, cs7, cs8, cs9, cs10, cs11, cs12, cs13, cs14, cs15, cs16, cs17, cs18, cs19, cs20, cc17, cc18, cc19, cc20, hkd, hit, c1, x1]
      · unfold f_X7_doOperation f_X7_listPlace
        simp (disch := omega) only [li0, li1, li2, li3, li4, li5, li6, li7, li8, li9, li10, li16, li17, li20, li30, li32, li48, li49, li50, li57, li60, li126, li147, nI_add, nI_sb, pk_mul, nI_m1, inrT, leT, leF, ltT, ltF, eqT, eqF, n1lt, m1lt, m1neg, m1nle, m1le, m1a1, m1a2, m1s, m1s', nI_cl, ↓tl, ↓sb, sb, sel, ser, ↓reduceIte, if_true, if_false, true_or, or_true, false_or, or_false, umS, umK, umJ, uaS, uaK, uaI, uaJ, mg30, mg31, mg32, mg33, mg34, mg35, mg36, mg37, mg38, mg39, mg40, mg41, mg42, mg43, mg44, mg45, mg46, mg47, mg48, mg49, ms30, ms31, ms32, ms33, ms34, ms35, ms36, ms37, ms38, ms39, ms40, ms41, ms42, ms43, ms44, ms45, ms46, ms47, ms48, ms49, r0, r1, c2]
    · by_cases k0 : kd = 0
      · subst k0
        refine ⟨ua al1 15 t k (al1 19 i kv), um mu1 36 (4 * (20 * t + k) + 3) (al1 19 i kv), 1, al1 19 i kv, fun u => ?_, fun u => ?_, Or.inr ⟨rfl, ?_, ?_⟩, pS_res _ s1 ht (by omega), pR_15 s2, ?_⟩
        · unfold f_X0_perform
          simp (disch := omega) only [li0, li1, li2, li3, li4, li5, li6, li7, li8, li9, li10, li16, li17, li20, li30, li32, li48, li49, li50, li57, li60, li126, li147, nI_add, nI_sb, pk_mul, nI_m1, inrT, leT, leF, ltT, ltF, eqT, eqF, n1lt, m1lt, m1neg, m1nle, m1le, m1a1, m1a2, m1s, m1s', nI_cl, ↓tl, ↓sb, sb, sel, ser, ↓reduceIte, if_true, if_false, true_or, or_true, false_or, or_false, umS, umK, umJ, uaS, uaK, uaI, uaJ, cg1, cg2, cg3, cg4, cg5, cg6, cg7, cg8, cg9, cg10, cg11, cg12, cg13, cg14, cg15, cg16, cg17, cg18, cg19, cg20, cs1, cs2, cs3, cs4, cs5, cs6, cs7, cs8, cs9, cs10, cs11, cs12, cs13, cs14, cs15, cs16, cs17, cs18, cs19, cs20, cc17, cc18, cc19, cc20, hkd, hit, c1]
        · unfold f_X7_doOperation f_X7_listPlace
          simp (disch := omega) only [li0, li1, li2, li3, li4, li5, li6, li7, li8, li9, li10, li16, li17, li20, li30, li32, li48, li49, li50, li57, li60, li126, li147, nI_add, nI_sb, pk_mul, nI_m1, inrT, leT, leF, ltT, ltF, eqT, eqF, n1lt, m1lt, m1neg, m1nle, m1le, m1a1, m1a2, m1s, m1s', nI_cl, ↓tl, ↓sb, sb, sel, ser, ↓reduceIte, if_true, if_false, true_or, or_true, false_or, or_false, umS, umK, umJ, uaS, uaK, uaI, uaJ, mg30, mg31, mg32, mg33, mg34, mg35, mg36, mg37, mg38, mg39, mg40, mg41, mg42, mg43, mg44, mg45, mg46, mg47, mg48, mg49, ms30, ms31, ms32, ms33, ms34, ms35, ms36, ms37, ms38, ms39, ms40, ms41, ms42, ms43, ms44, ms45, ms46, ms47, ms48, ms49, r0, r1, c2, v1]
        · rw [uaK _ _ _ _ _ _ (by decide)]; exact s3
        · rw [if_pos rfl, umK _ _ _ _ (by decide)]; exact v1.symm
        · refine pP_trans s4 ⟨fun s => ?_, fun a b j h => ?_, fun a j h => ?_⟩
          · simp (disch := omega) only [uaK, and_self]
          · rw [uaK _ _ _ _ _ _ (by omega)]
          · rw [umK _ _ _ _ (by omega)]
      · obtain rfl : kd = 2 := by omega
        have a14 : al1 14 t k = al 14 t k := s4.2.1 _ _ _ (by omega)
        have m36 : mu1 36 (4 * (20 * t + k) + 2) = al 14 t k := by
          obtain ⟨q2, p1, p2, -, p4⟩ := s1.2.2.1 t ht
          rw [(s4.1 t).2, hq] at p2
          have e := (nI_eq (by omega) (by omega)).mp p2
          rw [← a14]
          exact (p4 k (by omega)).2.2.2.2.1
        rcases wr (al1 19 i kv + al 14 t k) (pS_m 17 (al1 19 i kv + al 14 t k) (by omega) s1) s2 ht s3 hi with ⟨d1, d2⟩ | ⟨al2, mu2, b, e1, d1, d2, f1, f2, f3, f4, f5⟩
        · obtain ⟨al2, mu2, rr, x1, x2, x3, x4, x5, x6⟩ := ab_P (i := i) (pS_m 17 (al1 19 i kv + al 14 t k) (by omega) s1) s2 ht s3
          simp only [x2, sb] at d2
          refine ⟨al2, um mu2 30 18 (-2147483648), 0, -2147483648, fun u => ?_, fun u => ?_, Or.inl ⟨rfl, rfl, x5⟩, pS_m 18 _ (by omega) x3, x4, pP_trans s4 (pP_trans (pP_trans (pP_m al1 mu1 17 _ (by omega) (by omega)) x6) (pP_m _ _ 18 _ (by omega) (by omega)))⟩
          · unfold f_X0_perform
            simp (disch := omega) only [li0, li1, li2, li3, li4, li5, li6, li7, li8, li9, li10, li16, li17, li20, li30, li32, li48, li49, li50, li57, li60, li126, li147, nI_add, nI_sb, pk_mul, nI_m1, inrT, leT, leF, ltT, ltF, eqT, eqF, n1lt, m1lt, m1neg, m1nle, m1le, m1a1, m1a2, m1s, m1s', nI_cl, ↓tl, ↓sb, sb, sel, ser, ↓reduceIte, if_true, if_false, true_or, or_true, false_or, or_false, umS, umK, umJ, uaS, uaK, uaI, uaJ, cg1, cg2, cg3, cg4, cg5, cg6, cg7, cg8, cg9, cg10, cg11, cg12, cg13, cg14, cg15, cg16, cg17, cg18, cg19, cg20, cs1, cs2, cs3, cs4, cs5, cs6, cs7, cs8, cs9, cs10, cs11, cs12, cs13, cs14, cs15, cs16, cs17, cs18, cs19, cs20, cc17, cc18, cc19, cc20, hkd, hit, c1, a14, d1, x1]
          · unfold f_X7_doOperation f_X7_listPlace
            simp (disch := omega) only [li0, li1, li2, li3, li4, li5, li6, li7, li8, li9, li10, li16, li17, li20, li30, li32, li48, li49, li50, li57, li60, li126, li147, nI_add, nI_sb, pk_mul, nI_m1, inrT, leT, leF, ltT, ltF, eqT, eqF, n1lt, m1lt, m1neg, m1nle, m1le, m1a1, m1a2, m1s, m1s', nI_cl, ↓tl, ↓sb, sb, sel, ser, ↓reduceIte, if_true, if_false, true_or, or_true, false_or, or_false, umS, umK, umJ, uaS, uaK, uaI, uaJ, mg30, mg31, mg32, mg33, mg34, mg35, mg36, mg37, mg38, mg39, mg40, mg41, mg42, mg43, mg44, mg45, mg46, mg47, mg48, mg49, ms30, ms31, ms32, ms33, ms34, ms35, ms36, ms37, ms38, ms39, ms40, ms41, ms42, ms43, ms44, ms45, ms46, ms47, ms48, ms49, r0, r1, c2, v1, m36, d2, min_T]
        · have hw17 : mu2 30 17 = al1 19 i kv + al 14 t k := by
            rw [f5, umS]
          refine ⟨ua al2 15 t k (al1 19 i kv), um (um mu2 30 18 (nI b)) 36 (4 * (20 * t + k) + 3) (al1 19 i kv), 1, al1 19 i kv + al 14 t k, fun u => ?_, fun u => ?_, Or.inr ⟨rfl, ?_, ?_⟩, pS_res _ (pS_m 18 _ (by omega) f1) ht (by omega), pR_15 f2, ?_⟩
          · unfold f_X0_perform
            simp (disch := omega) only [li0, li1, li2, li3, li4, li5, li6, li7, li8, li9, li10, li16, li17, li20, li30, li32, li48, li49, li50, li57, li60, li126, li147, nI_add, nI_sb, pk_mul, nI_m1, inrT, leT, leF, ltT, ltF, eqT, eqF, n1lt, m1lt, m1neg, m1nle, m1le, m1a1, m1a2, m1s, m1s', nI_cl, ↓tl, ↓sb, sb, sel, ser, ↓reduceIte, if_true, if_false, true_or, or_true, false_or, or_false, umS, umK, umJ, uaS, uaK, uaI, uaJ, cg1, cg2, cg3, cg4, cg5, cg6, cg7, cg8, cg9, cg10, cg11, cg12, cg13, cg14, cg15, cg16, cg17, cg18, cg19, cg20, cs1, cs2, cs3, cs4, cs5, cs6, cs7, cs8, cs9, cs10, cs11, cs12, cs13, cs14, cs15, cs16, cs17, cs18, cs19, cs20, cc17, cc18, cc19, cc20, hkd, hit, c1, a14, d1]
          · unfold f_X7_doOperation f_X7_listPlace
            simp (disch := omega) only [li0, li1, li2, li3, li4, li5, li6, li7, li8, li9, li10, li16, li17, li20, li30, li32, li48, li49, li50, li57, li60, li126, li147, nI_add, nI_sb, pk_mul, nI_m1, inrT, leT, leF, ltT, ltF, eqT, eqF, n1lt, m1lt, m1neg, m1nle, m1le, m1a1, m1a2, m1s, m1s', nI_cl, ↓tl, ↓sb, sb, sel, ser, ↓reduceIte, if_true, if_false, true_or, or_true, false_or, or_false, umS, umK, umJ, uaS, uaK, uaI, uaJ, mg30, mg31, mg32, mg33, mg34, mg35, mg36, mg37, mg38, mg39, mg40, mg41, mg42, mg43, mg44, mg45, mg46, mg47, mg48, mg49, ms30, ms31, ms32, ms33, ms34, ms35, ms36, ms37, ms38, ms39, ms40, ms41, ms42, ms43, ms44, ms45, ms46, ms47, ms48, ms49, r0, r1, c2, v1, m36, d2, nI_nmin]
          · rw [uaK _ _ _ _ _ _ (by decide)]; exact f3
          · rw [if_neg (by decide), if_neg (by decide), umK _ _ _ _ (by decide), umJ _ _ _ (by decide)]; exact hw17.symm
          · refine pP_trans s4 (pP_trans (pP_trans (pP_trans (pP_m al1 mu1 17 _ (by omega) (by omega)) f4) (pP_m _ _ 18 (nI b) (by omega) (by omega))) ⟨fun s => ?_, fun a b j h => ?_, fun a j h => ?_⟩)
            · simp (disch := omega) only [uaK, and_self]
            · rw [uaK _ _ _ _ _ _ (by omega)]
            · rw [umK _ _ _ _ (by omega)]
