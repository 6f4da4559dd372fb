/-! an operation is appended and done -/
def aApp (t q : Nat) (kd i x : Int32) (al : pu_A) : pu_A := ua (ua (ua (ua (ua al 12 t q kd) 13 t q i) 14 t q x) 15 t q (nI 0)) 11 t 5 (nI (q + 1))
def mApp (t q : Nat) (kd i x : Int32) (mu : pu_M) : pu_M := um (um (um (um (um mu 36 (4 * (20 * t + q)) kd) 36 (4 * (20 * t + q) + 1) i) 36 (4 * (20 * t + q) + 2) x) 36 (4 * (20 * t + q) + 3) (nI 0)) 35 t (nI (q + 1))
theorem c_app {al : pu_A} {t q : Nat} (kd i x : Int32) (u : ts_Mem) (hq : al 11 t 5 = nI q) (h20 : q < 20) : f_X5_appendOperation 0 t kd i x (ca al u) = some (nI q, ca (aApp t q kd i x al) u) := by
  unfold f_X5_appendOperation
  simp (disch := omega) only [li0, li1, li2, li3, li4, li5, li6, li7, li8, li9, li10, li16, li17, li20, li30, li32, li48, li49, li50, li57, li60, li126, li147, nI_add, nI_sb, pk_mul, nI_m1, inrT, leT, leF, ltT, ltF, eqT, eqF, n1lt, m1lt, m1neg, m1nle, m1le, m1a1, m1a2, m1s, m1s', nI_cl, ↓tl, ↓sb, sb, sel, ser, ↓reduceIte, if_true, if_false, true_or, or_true, false_or, or_false, umS, umK, umJ, uaS, uaK, uaI, uaJ, cg1, cg2, cg3, cg4, cg5, cg6, cg7, cg8, cg9, cg10, cg11, cg12, cg13, cg14, cg15, cg16, cg17, cg18, cg19, cg20, cs1, cs2, cs3, cs4, cs5, cs6, cs7, cs8, cs9, cs10, cs11, cs12, cs13, cs14, cs15, cs16, cs17, cs18, cs19, cs20, cc17, cc18, cc19, cc20, hq]
  rfl
theorem pS_app {al : pu_A} {mu : pu_M} {p n nx t q kd i : Nat} (x : Int32) (hS : pS al mu p n nx) (ht : t < n) (hq : al 11 t 5 = nI q) (h20 : q < 20) (hkd : kd ≤ 2) (hi : i < 8) : pS (aApp t q (nI kd) (nI i) x al) (mApp t q (nI kd) (nI i) x mu) p n nx := by
  obtain ⟨hG, hT, hO, hD, hC, hE⟩ := hS
  unfold aApp mApp
  refine ⟨?_, ?_, fun s hs => ?_, ?_, ?_, ?_⟩
  · unfold pG at hG ⊢
    simp (disch := omega) only [uaK, umK]
    exact hG
  · unfold pT at hT ⊢
    simp (disch := omega) only [uaK, uaJ, umK]
    exact hT
  · obtain ⟨q', q1, q2, q3, q4⟩ := hO s hs
    by_cases e : s = t
    · subst e
      have : q' = q := by rw [hq] at q2; exact ((nI_eq (by omega) (by omega)).mp q2).symm
      subst this
      refine ⟨q' + 1, by omega, uaS _ _ _ _ _, umS _ _ _ _, fun k hk => ?_⟩
      by_cases e2 : k = q'
      · subst e2
        simp (disch := omega) only [uaK, uaS, umS, umJ, umK]
        exact ⟨⟨kd, hkd, rfl⟩, ⟨i, hi, rfl⟩, trivial, trivial, trivial, trivial⟩
      · simp (disch := omega) only [uaK, uaJ, umJ, umK]
        exact q4 k (by omega)
    · refine ⟨q', q1, ?_, ?_, fun k hk => ?_⟩
      · simp (disch := omega) only [uaK, uaI]; exact q2
      · simp (disch := omega) only [umK, umJ]; exact q3
      · simp (disch := omega) only [uaK, uaI, umJ, umK]
        exact q4 k hk
  · unfold pD at hD ⊢
    simp (disch := omega) only [uaK, uaJ, umK]
    exact hD
  · unfold pCs pC pW un at hC ⊢
    simp (disch := omega) only [uaK, uaJ, umK]
    exact hC
  · unfold pEv pu_E at hE ⊢
    simp (disch := omega) only [uaK, umK]
    exact hE
theorem ask {al : pu_A} {mu : pu_M} {p n nx t q kd i : Nat} (x : Int32) (hS : pS al mu p n nx) (hR : pR al n) (ht : t < n) (ha : al 11 t 0 = nI 0) (hq : al 11 t 5 = nI q) (h20 : q < 20) (hkd : kd ≤ 2) (hi : i < 8) : ∃ al1 al' mu' ok r, (∀ u, f_X5_appendOperation 0 t (nI kd) (nI i) x (ca al u) = some (nI q, ca al1 u)) ∧ (∀ u, f_X0_perform 0 (nI t) (nI q) (ca al1 u) = some (r, ca al' u)) ∧ (∀ u, f_X0_ask 0 (nI t) (nI kd) (nI i) x (ca al u) = some (r, ca al' u)) ∧ (∀ u, f_X7_ask (nI t) (nI kd) (nI i) x (ma mu u) = some (nI ok, ma mu' u)) ∧ ((ok = 0 ∧ r = -2147483648 ∧ al' 11 t 0 = nI 3) ∨ (ok = 1 ∧ al' 11 t 0 = nI 0 ∧ r = mu' 30 (16 + (if kd = 0 then 0 else if kd = 1 then 2 else 1)))) ∧ pS al' mu' p n nx ∧ pR al' n ∧ al' 11 t 5 = nI (q + 1) ∧ (∀ a j, (a = 30 ∧ (j < 14 ∨ 18 < j)) ∨ 41 < a → mu' a j = mu a j) := by
  have g10 : n ≤ 16 := hS.1.2.2.2.2.2.2.2.2.2
  have hS1 := pS_app x hS ht hq h20 hkd hi
  have f0 : aApp t q (nI kd) (nI i) x al 11 t 0 = nI 0 := by
    unfold aApp
    simp (disch := omega) only [uaJ, uaK]; exact ha
  have f5 : aApp t q (nI kd) (nI i) x al 11 t 5 = nI (q + 1) := uaS _ _ _ _ _
  have f12 : aApp t q (nI kd) (nI i) x al 12 t q = nI kd := by
    unfold aApp
    simp (disch := omega) only [uaS, uaK]
  have f13 : aApp t q (nI kd) (nI i) x al 13 t q = nI i := by
    unfold aApp
    simp (disch := omega) only [uaS, uaK]
  have hR1 : pR (aApp t q (nI kd) (nI i) x al) n := by
    unfold aApp
    unfold pR un at hR ⊢
    simp (disch := omega) only [uaK, uaJ]
    exact hR
  obtain ⟨q', -, -, m35, -⟩ := hS.2.2.1 t ht
  obtain ⟨q2, o1, o2, o3, o4⟩ := hS.2.2.1 t ht
  have hq35 : mu 35 t = nI q := by rw [o3, ← o2, hq]
  obtain ⟨al', mu', ok, r, x1, x2, x3, x4, x5, x6⟩ := pf hS1 hR1 ht f0 f5 (by omega) (Nat.lt_succ_self q) f12 hkd f13 hi
  have ok1 : ok = 0 ∨ ok = 1 := by
    rcases x3 with h | h
    · exact Or.inl h.1
    · exact Or.inr h.1
  refine ⟨_, al', mu', ok, r, fun u => c_app (nI kd) (nI i) x u hq h20, x1, fun u => ?_, fun u => ?_, x3, x4, x5, by rw [(x6.1 t).2]; exact f5, fun a j h => ?_⟩
  · unfold f_X0_ask
    have := fun u => c_app (nI kd) (nI i) x u hq h20
    simp (disch := omega) only [li0, li1, li2, li3, li4, li5, li6, li7, li8, li9, li10, li16, li17, li20, li30, li32, li48, li49, li50, li57, li60, li126, li147, nI_add, nI_sb, pk_mul, nI_m1, inrT, leT, leF, ltT, ltF, eqT, eqF, n1lt, m1lt, m1neg, m1nle, m1le, m1a1, m1a2, m1s, m1s', nI_cl, ↓tl, ↓sb, sb, sel, ser, ↓reduceIte, if_true, if_false, true_or, or_true, false_or, or_false, umS, umK, umJ, uaS, uaK, uaI, uaJ, this, x1]
  · unfold f_X7_ask f_X7_listPlace
    have x2' := x2 u
    unfold mApp at x2'
    have k1 : q + 1 - 1 = q := by omega
    rcases ok1 with rfl | rfl
    · simp (disch := omega) only [li0, li1, li2, li3, li4, li5, li6, li7, li8, li9, li10, li16, li17, li20, li30, li32, li48, li49, li50, li57, li60, li126, li147, nI_add, nI_sb, pk_mul, nI_m1, inrT, leT, leF, ltT, ltF, eqT, eqF, n1lt, m1lt, m1neg, m1nle, m1le, m1a1, m1a2, m1s, m1s', nI_cl, ↓tl, ↓sb, sb, sel, ser, ↓reduceIte, if_true, if_false, true_or, or_true, false_or, or_false, umS, umK, umJ, uaS, uaK, uaI, uaJ, mg30, mg31, mg32, mg33, mg34, mg35, mg36, mg37, mg38, mg39, mg40, mg41, mg42, mg43, mg44, mg45, mg46, mg47, mg48, mg49, ms30, ms31, ms32, ms33, ms34, ms35, ms36, ms37, ms38, ms39, ms40, ms41, ms42, ms43, ms44, ms45, ms46, ms47, ms48, ms49, hq35, k1, x2']
    · simp (disch := omega) only [li0, li1, li2, li3, li4, li5, li6, li7, li8, li9, li10, li16, li17, li20, li30, li32, li48, li49, li50, li57, li60, li126, li147, nI_add, nI_sb, pk_mul, nI_m1, inrT, leT, leF, ltT, ltF, eqT, eqF, n1lt, m1lt, m1neg, m1nle, m1le, m1a1, m1a2, m1s, m1s', nI_cl, ↓tl, ↓sb, sb, sel, ser, ↓reduceIte, if_true, if_false, true_or, or_true, false_or, or_false, umS, umK, umJ, uaS, uaK, uaI, uaJ, mg30, mg31, mg32, mg33, mg34, mg35, mg36, mg37, mg38, mg39, mg40, mg41, mg42, mg43, mg44, mg45, mg46, mg47, mg48, mg49, ms30, ms31, ms32, ms33, ms34, ms35, ms36, ms37, ms38, ms39, ms40, ms41, ms42, ms43, ms44, ms45, ms46, ms47, ms48, ms49, hq35, k1, x2']
  · rw [x6.2.2 a j h]
    unfold mApp
    simp (disch := omega) only [umK]
