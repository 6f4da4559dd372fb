/-! call: run -/
theorem pX_b {be be' : pu_A} {mu mu' : pu_M} {v : ts_Mem} {K K' : Nat} (h : pX be mu v K) (h1 : ∀ a b j, ¬ a = 21 → ¬ (23 ≤ a ∧ a ≤ 25) → ¬ (a = 0 ∧ b = 0 ∧ j = 4) → be' a b j = be a b j) (h2 : ∀ a j, (a = 30 ∧ j = 33) ∨ a = 42 ∨ (44 < a ∧ a < 50) → mu' a j = mu a j) (e1 : be' 21 0 0 = nI 0) (e2 : mu' 30 20 = nI 0) (e3 : be' 0 0 4 = mu' 30 24) (e4 : mu' 30 24 = -nI 1 ∨ ∃ e, e ≤ 60 ∧ mu' 30 24 = nI e) (hK : K ≤ K') : pX be' mu' v K' := by
  obtain ⟨a1, a2, a3⟩ := h
  refine ⟨⟨⟨0, by omega, e1, e2⟩, fun j hj => ?_, e3, e4⟩, ?_, ?_⟩
  · rw [h1 22 0 j (by omega) (by omega) (by omega), h2 42 j (by omega)]
    exact a1.2.1 j hj
  · unfold pXr at a2 ⊢
    have q1 := fun j => h2 45 j (by omega)
    have q2 := fun j => h2 46 j (by omega)
    have q3 := fun j => h2 47 j (by omega)
    have q4 := fun i j => h1 27 i j (by omega) (by omega) (by omega)
    have q5 := fun i j => h1 29 i j (by omega) (by omega) (by omega)
    simp only [q1, q2, q3, q4, q5]
    exact a2
  · unfold pXs pKp at a3 ⊢
    have q1 := h2 30 33 (by omega)
    have q2 := fun j => h2 49 j (by omega)
    have q3 := h1 0 0 2 (by omega) (by omega) (by omega)
    simp only [q1, q2, q3]
    obtain ⟨x1, x2⟩ := a3
    refine ⟨x1, ?_⟩
    rcases x2 with b | ⟨b, mk, p, n, nx, c1, c2, c3, c4⟩
    · exact Or.inl b
    · exact Or.inr ⟨b, mk, p, n, nx, c1, c2, c3, by omega⟩
def mRun (mu : pu_M) (L : Nat) : pu_M := um (um (um (um (um (um (um mu 30 0 (nI 0)) 30 21 (nI L)) 30 20 (nI 0)) 30 22 (nI 0)) 30 23 (-nI 1)) 30 26 (nI 0)) 30 27 (nI 0)
theorem mRun_o (mu : pu_M) (L : Nat) (a j : Nat) (h : ¬ (a = 30 ∧ (j = 0 ∨ (19 < j ∧ j < 24) ∨ j = 26 ∨ j = 27))) : mRun mu L a j = mu a j := by
  unfold mRun
  simp only [um]
  rw [if_neg (by omega), if_neg (by omega), if_neg (by omega), if_neg (by omega), if_neg (by omega), if_neg (by omega), if_neg (by omega)]
theorem k_run (a : Int32) {u : ts_Mem} {K : Nat} (hZ : Z u K) : ∃ u2, law1 (f_L_run a u) (f_X7_run a) = some u2 ∧ Z u2 (K + 1) := by
  obtain ⟨al, be, mu, v, p, n, nx, rfl, hS, hR, hn, hX⟩ := hZ
  obtain ⟨g1, g2, g3, g4, g5, g6, g7, g8, g9, g10⟩ := hS.1
  rcases rg_case a n (by omega) with ⟨t, ht, rfl⟩ | ha
  · have c1 := fun w => c_itT (al := al) w g8 g10 ht
    have r1 := fun w => r_itT (mu := mu) w g9 g10 ht
    have t1 := (hS.2.1 t ht).2.1
    obtain ⟨q, o1, o2, o3, -⟩ := hS.2.2.1 t ht
    by_cases e : al 11 t 0 = nI 0
    · obtain ⟨L, l1, l2, l3⟩ := hX.1.1
      have hm1 : ∀ w, ma (um (um (um (um (um (um (um mu 30 0 (nI 0)) 30 21 (nI L)) 30 20 (nI 0)) 30 22 (nI 0)) 30 23 (-nI 1)) 30 26 (nI 0)) 30 27 (nI 0)) w = ma (mRun mu L) w := fun w => rfl
      obtain ⟨be1, mu1, r, y1, y2, y3, y4, y5⟩ := prs (be := be) (mu := mRun mu L) l1 l2 (fun j hj => by rw [mRun_o _ _ _ _ (by omega)]; exact hX.1.2.1 j hj) (by unfold mRun; simp (disch := omega) only [umJ, umS]) (by unfold mRun; simp (disch := omega) only [umJ, umS]) (by unfold mRun; simp (disch := omega) only [umJ, umS]) (by unfold mRun; simp (disch := omega) only [umJ, umS]) (by unfold mRun; simp (disch := omega) only [umJ, umS])
      have hp : ∀ w, f_X3_parse (ca al (cb be w)) = some (r, ca al (cb be1 w)) := fun w => by rw [ca_cb, y1, ca_cb]
      have fm : ∀ a j, ¬ (a = 30 ∧ (j = 0 ∨ (19 < j ∧ j < 24) ∨ j = 26 ∨ j = 27)) → ¬ a = 43 → mu1 a j = mu a j := fun a j h1 h2 => by rw [y4 a j (by omega) h2, mRun_o _ _ _ _ h1]
      have hS1 : pS al mu1 p n nx := pS_mu hS (fun a j h => fm a j (by omega) (by omega))
      have m20 : mu1 30 20 = nI 0 := by rw [y4 _ _ (by omega) (by omega)]; unfold mRun; simp (disch := omega) only [umJ, umS]
      have m0 : mu1 30 0 = nI 0 := by rw [y4 _ _ (by omega) (by omega)]; unfold mRun; simp (disch := omega) only [umJ, umS]
      have m35 : mu1 35 t = nI q := by rw [fm _ _ (by omega) (by omega)]; exact o3
      have b04 : be1 0 0 4 = mu1 30 24 := by rw [y3 _ _ _ (by omega) (by omega), fm _ _ (by omega) (by omega)]; exact hX.1.2.2.1
      have m24 : mu1 30 24 = -nI 1 ∨ ∃ e, e ≤ 60 ∧ mu1 30 24 = nI e := by rw [fm _ _ (by omega) (by omega)]; exact hX.1.2.2.2
      have hr0 : ∀ w (X : Int32 × ts_Mem), ((f_X7_readProgram (ma (mRun mu L) w)).bind (fun q9 => if (ts_gI q9 (30, 0, 0) 21) ≤ (ts_gI q9 (30, 0, 0) 22) then rB (nI t) q9 else ((f_X7_fault q9).bind (fun q26 => rB (nI t) q26)))) = some X → f_X7_run (nI t) (ma mu w) = some X := fun w X hh => by
        rw [run_eq]
        unfold f_X7_problem
        simp (disch := omega) only [li0, li1, li2, li3, li4, li5, li6, li7, li8, li9, li10, li16, li17, li20, li30, li32, li48, li49, li50, li57, li60, li126, li147, nI_add, nI_sb, pk_mul, nI_m1, inrT, leT, leF, ltT, ltF, eqT, eqF, n1lt, m1lt, m1neg, m1nle, m1le, m1a1, m1a2, m1s, m1s', nI_cl, ↓tl, ↓sb, sb, sel, ser, ↓reduceIte, if_true, if_false, true_or, or_true, false_or, or_false, umS, umK, umJ, uaS, uaK, uaI, uaJ, mg30, mg31, mg32, mg33, mg34, mg35, mg36, mg37, mg38, mg39, mg40, mg41, mg42, mg43, mg44, mg45, mg46, mg47, mg48, mg49, ms30, ms31, ms32, ms33, ms34, ms35, ms36, ms37, ms38, ms39, ms40, ms41, ms42, ms43, ms44, ms45, ms46, ms47, ms48, ms49, r1, t1, e, l3, hm1] at hh ⊢
        exact hh
      rcases y5 with ⟨rfl, m, en, hz⟩ | ⟨ep, x, rfl, x1, x2, x3, x4, x5⟩
      · -- a program
        obtain ⟨z1, z2, z3, z4, z5, z6, z7, z8, z9, z10⟩ := id hz
        have hz2 : pZ (ua be1 21 0 0 (nI 0)) mu1 L m en := by
          unfold pZ at hz ⊢
          simp (disch := omega) only [uaJ, uaK]
          exact hz
        have hx2 : ∀ mu', (∀ a j, (a = 30 ∧ (j < 14 ∨ 18 < j)) ∨ 41 < a → mu' a j = mu1 a j) → pX (ua be1 21 0 0 (nI 0)) mu' v (K + 1) := fun mu' hf => pX_b hX (fun a b j h1 h2 h3 => by rw [uaK _ _ _ _ _ _ h1]; exact y3 a b j (by omega) h2) (fun a j h => by rw [hf a j (by omega)]; exact fm a j (by omega) (by omega)) (uaS _ _ _ _ _) (by rw [hf _ _ (by omega)]; exact m20) (by rw [uaK _ _ _ _ _ _ (by omega), hf _ _ (by omega)]; exact b04) (by rw [hf _ _ (by omega)]; exact m24) (by omega)
        by_cases e2 : q + m ≤ 20
        · obtain ⟨al', mu', rr, w1, w2, w3, w4, w5⟩ := exc hS1 hR ht e o2 e2 hz2
          refine mst_ok (fl := f_L_run (nI t)) (fr := f_X7_run (nI t)) (al' := al') (be' := ua be1 21 0 0 (nI 0)) (mu' := mu') (r := nI rr) (fun w => ?_) (fun w => ?_) (by rw [w5 _ _ (by omega)]; exact m0) w3 w4 (show nx ≤ K + 1 by omega) (hx2 mu' w5)
          · unfold f_L_run f_X6_run f_X6_requireActiveWithRoom
            simp (maxSteps := 1000000) (disch := omega) only [li0, li1, li2, li3, li4, li5, li6, li7, li8, li9, li10, li16, li17, li20, li30, li32, li48, li49, li50, li57, li60, li126, li147, nI_add, nI_sb, pk_mul, nI_m1, inrT, leT, leF, ltT, ltF, eqT, eqF, n1lt, m1lt, m1neg, m1nle, m1le, m1a1, m1a2, m1s, m1s', nI_cl, ↓tl, ↓sb, sb, sel, ser, ↓reduceIte, if_true, if_false, true_or, or_true, false_or, or_false, umS, umK, umJ, uaS, uaK, uaI, uaJ, cg1, cg2, cg3, cg4, cg5, cg6, cg7, cg8, cg9, cg10, cg11, cg12, cg13, cg14, cg15, cg16, cg17, cg18, cg19, cg20, cs1, cs2, cs3, cs4, cs5, cs6, cs7, cs8, cs9, cs10, cs11, cs12, cs13, cs14, cs15, cs16, cs17, cs18, cs19, cs20, cc17, cc18, cc19, cc20, xg0, xs0, xg21, xs21, xg22, xs22, xg23, xs23, xg24, xs24, xg25, xs25, xg26, xs26, xg27, xs27, xg28, xs28, xg29, xs29, bg0, bs0, bg21, bs21, bg22, bs22, bg23, bs23, bg24, bs24, bg25, bs25, bg26, bs26, bg27, bs27, bg28, bs28, bg29, bs29, stAA, stAS, stAI, stAE, stAU, stAM, stSA, stSS, stSI, stSE, stSU, stSM, stIA, stIS, stII, stIE, stIU, stIM, stEA, stES, stEI, stEE, stEU, stEM, stUA, stUS, stUI, stUE, stUU, stUM, stMA, stMS, stMI, stME, stMU, stMM, q_A0, q_A1, q_S0, q_S1, q_I0, q_I1, q_E0, q_E1, c1, e, hp, z1, o2, w1]
          · apply hr0
            unfold rB
            simp (disch := omega) only [li0, li1, li2, li3, li4, li5, li6, li7, li8, li9, li10, li16, li17, li20, li30, li32, li48, li49, li50, li57, li60, li126, li147, nI_add, nI_sb, pk_mul, nI_m1, inrT, leT, leF, ltT, ltF, eqT, eqF, n1lt, m1lt, m1neg, m1nle, m1le, m1a1, m1a2, m1s, m1s', nI_cl, ↓tl, ↓sb, sb, sel, ser, ↓reduceIte, if_true, if_false, true_or, or_true, false_or, or_false, umS, umK, umJ, uaS, uaK, uaI, uaJ, mg30, mg31, mg32, mg33, mg34, mg35, mg36, mg37, mg38, mg39, mg40, mg41, mg42, mg43, mg44, mg45, mg46, mg47, mg48, mg49, ms30, ms31, ms32, ms33, ms34, ms35, ms36, ms37, ms38, ms39, ms40, ms41, ms42, ms43, ms44, ms45, ms46, ms47, ms48, ms49, y2, z3, z4, z5, z6, m35, w2]
        · refine mst_th (fl := f_L_run (nI t)) (fr := f_X7_run (nI t)) (c := 4) (x := nI 0) (al' := al) (be' := ua be1 21 0 0 (nI 0)) (mu' := um mu1 30 0 (nI 4)) (fun w => ?_) (by omega) (by omega) (fun w => ?_) (umS _ _ _ _) (pS_0 _ hS1) hR (show nx ≤ K + 1 by omega) (pX_f (hx2 mu1 (fun _ _ _ => rfl)) (fX_0 _ _) (Nat.le_refl _))
          · unfold f_L_run f_X6_run f_X6_requireActiveWithRoom
            simp (maxSteps := 1000000) (disch := omega) only [li0, li1, li2, li3, li4, li5, li6, li7, li8, li9, li10, li16, li17, li20, li30, li32, li48, li49, li50, li57, li60, li126, li147, nI_add, nI_sb, pk_mul, nI_m1, inrT, leT, leF, ltT, ltF, eqT, eqF, n1lt, m1lt, m1neg, m1nle, m1le, m1a1, m1a2, m1s, m1s', nI_cl, ↓tl, ↓sb, sb, sel, ser, ↓reduceIte, if_true, if_false, true_or, or_true, false_or, or_false, umS, umK, umJ, uaS, uaK, uaI, uaJ, cg1, cg2, cg3, cg4, cg5, cg6, cg7, cg8, cg9, cg10, cg11, cg12, cg13, cg14, cg15, cg16, cg17, cg18, cg19, cg20, cs1, cs2, cs3, cs4, cs5, cs6, cs7, cs8, cs9, cs10, cs11, cs12, cs13, cs14, cs15, cs16, cs17, cs18, cs19, cs20, cc17, cc18, cc19, cc20, xg0, xs0, xg21, xs21, xg22, xs22, xg23, xs23, xg24, xs24, xg25, xs25, xg26, xs26, xg27, xs27, xg28, xs28, xg29, xs29, bg0, bs0, bg21, bs21, bg22, bs22, bg23, bs23, bg24, bs24, bg25, bs25, bg26, bs26, bg27, bs27, bg28, bs28, bg29, bs29, stAA, stAS, stAI, stAE, stAU, stAM, stSA, stSS, stSI, stSE, stSU, stSM, stIA, stIS, stII, stIE, stIU, stIM, stEA, stES, stEI, stEE, stEU, stEM, stUA, stUS, stUI, stUE, stUU, stUM, stMA, stMS, stMI, stME, stMU, stMM, q_A0, q_A1, q_S0, q_S1, q_I0, q_I1, q_E0, q_E1, c1, e, hp, z1, o2]
          · apply hr0
            unfold rB
            simp (disch := omega) only [li0, li1, li2, li3, li4, li5, li6, li7, li8, li9, li10, li16, li17, li20, li30, li32, li48, li49, li50, li57, li60, li126, li147, nI_add, nI_sb, pk_mul, nI_m1, inrT, leT, leF, ltT, ltF, eqT, eqF, n1lt, m1lt, m1neg, m1nle, m1le, m1a1, m1a2, m1s, m1s', nI_cl, ↓tl, ↓sb, sb, sel, ser, ↓reduceIte, if_true, if_false, true_or, or_true, false_or, or_false, umS, umK, umJ, uaS, uaK, uaI, uaJ, mg30, mg31, mg32, mg33, mg34, mg35, mg36, mg37, mg38, mg39, mg40, mg41, mg42, mg43, mg44, mg45, mg46, mg47, mg48, mg49, ms30, ms31, ms32, ms33, ms34, ms35, ms36, ms37, ms38, ms39, ms40, ms41, ms42, ms43, ms44, ms45, ms46, ms47, ms48, ms49, y2, z3, z4, z5, z6, m35, r_fl]
      · -- no program
        obtain ⟨mu2, k1, k2, k3⟩ : ∃ mu2, (∀ w, ((f_X7_readProgram (ma (mRun mu L) w)).bind (fun q9 => if (ts_gI q9 (30, 0, 0) 21) ≤ (ts_gI q9 (30, 0, 0) 22) then rB (nI t) q9 else ((f_X7_fault q9).bind (fun q26 => rB (nI t) q26)))) = rB (nI t) (ma mu2 w)) ∧ mu2 30 23 = nI ep ∧ (∀ a j, ¬ (a = 30 ∧ j = 23) → mu2 a j = mu1 a j) := by
          rcases x5 with x5 | ⟨x5, rfl, x6⟩
          · refine ⟨mu1, fun w => ?_, x5, fun _ _ _ => rfl⟩
            have hf := fun w => d_fa (mu := mu1) w x5 (by omega)
            by_cases e3 : L ≤ x
            · simp (disch := omega) only [li0, li1, li2, li3, li4, li5, li6, li7, li8, li9, li10, li16, li17, li20, li30, li32, li48, li49, li50, li57, li60, li126, li147, nI_add, nI_sb, pk_mul, nI_m1, inrT, leT, leF, ltT, ltF, eqT, eqF, n1lt, m1lt, m1neg, m1nle, m1le, m1a1, m1a2, m1s, m1s', nI_cl, ↓tl, ↓sb, sb, sel, ser, ↓reduceIte, if_true, if_false, true_or, or_true, false_or, or_false, umS, umK, umJ, uaS, uaK, uaI, uaJ, mg30, mg31, mg32, mg33, mg34, mg35, mg36, mg37, mg38, mg39, mg40, mg41, mg42, mg43, mg44, mg45, mg46, mg47, mg48, mg49, ms30, ms31, ms32, ms33, ms34, ms35, ms36, ms37, ms38, ms39, ms40, ms41, ms42, ms43, ms44, ms45, ms46, ms47, ms48, ms49, y2, x2, x3]
            · simp (disch := omega) only [li0, li1, li2, li3, li4, li5, li6, li7, li8, li9, li10, li16, li17, li20, li30, li32, li48, li49, li50, li57, li60, li126, li147, nI_add, nI_sb, pk_mul, nI_m1, inrT, leT, leF, ltT, ltF, eqT, eqF, n1lt, m1lt, m1neg, m1nle, m1le, m1a1, m1a2, m1s, m1s', nI_cl, ↓tl, ↓sb, sb, sel, ser, ↓reduceIte, if_true, if_false, true_or, or_true, false_or, or_false, umS, umK, umJ, uaS, uaK, uaI, uaJ, mg30, mg31, mg32, mg33, mg34, mg35, mg36, mg37, mg38, mg39, mg40, mg41, mg42, mg43, mg44, mg45, mg46, mg47, mg48, mg49, ms30, ms31, ms32, ms33, ms34, ms35, ms36, ms37, ms38, ms39, ms40, ms41, ms42, ms43, ms44, ms45, ms46, ms47, ms48, ms49, y2, x2, x3, hf]
          · refine ⟨um mu1 30 23 (nI x), fun w => ?_, umS _ _ _ _, fun a j h => by unfold um; rw [if_neg h]⟩
            have hf := fun w => r_fa (mu := mu1) w x5 x3
            simp (disch := omega) only [li0, li1, li2, li3, li4, li5, li6, li7, li8, li9, li10, li16, li17, li20, li30, li32, li48, li49, li50, li57, li60, li126, li147, nI_add, nI_sb, pk_mul, nI_m1, inrT, leT, leF, ltT, ltF, eqT, eqF, n1lt, m1lt, m1neg, m1nle, m1le, m1a1, m1a2, m1s, m1s', nI_cl, ↓tl, ↓sb, sb, sel, ser, ↓reduceIte, if_true, if_false, true_or, or_true, false_or, or_false, umS, umK, umJ, uaS, uaK, uaI, uaJ, mg30, mg31, mg32, mg33, mg34, mg35, mg36, mg37, mg38, mg39, mg40, mg41, mg42, mg43, mg44, mg45, mg46, mg47, mg48, mg49, ms30, ms31, ms32, ms33, ms34, ms35, ms36, ms37, ms38, ms39, ms40, ms41, ms42, ms43, ms44, ms45, ms46, ms47, ms48, ms49, y2, x2, x3, hf]
        refine mst_th (fl := f_L_run (nI t)) (fr := f_X7_run (nI t)) (c := 3) (x := nI 0) (al' := al) (be' := ua (ua be1 21 0 0 (nI 0)) 0 0 4 (nI ep)) (mu' := um (um mu2 30 24 (nI ep)) 30 0 (nI 3)) (p := p) (fun w => ?_) (by omega) (by omega) (fun w => ?_) (umS _ _ _ _) ?_ hR (show nx ≤ K + 1 by omega) ?_
        · unfold f_L_run f_X6_run
          simp (maxSteps := 1000000) (disch := omega) only [li0, li1, li2, li3, li4, li5, li6, li7, li8, li9, li10, li16, li17, li20, li30, li32, li48, li49, li50, li57, li60, li126, li147, nI_add, nI_sb, pk_mul, nI_m1, inrT, leT, leF, ltT, ltF, eqT, eqF, n1lt, m1lt, m1neg, m1nle, m1le, m1a1, m1a2, m1s, m1s', nI_cl, ↓tl, ↓sb, sb, sel, ser, ↓reduceIte, if_true, if_false, true_or, or_true, false_or, or_false, umS, umK, umJ, uaS, uaK, uaI, uaJ, cg1, cg2, cg3, cg4, cg5, cg6, cg7, cg8, cg9, cg10, cg11, cg12, cg13, cg14, cg15, cg16, cg17, cg18, cg19, cg20, cs1, cs2, cs3, cs4, cs5, cs6, cs7, cs8, cs9, cs10, cs11, cs12, cs13, cs14, cs15, cs16, cs17, cs18, cs19, cs20, cc17, cc18, cc19, cc20, xg0, xs0, xg21, xs21, xg22, xs22, xg23, xs23, xg24, xs24, xg25, xs25, xg26, xs26, xg27, xs27, xg28, xs28, xg29, xs29, bg0, bs0, bg21, bs21, bg22, bs22, bg23, bs23, bg24, bs24, bg25, bs25, bg26, bs26, bg27, bs27, bg28, bs28, bg29, bs29, stAA, stAS, stAI, stAE, stAU, stAM, stSA, stSS, stSI, stSE, stSU, stSM, stIA, stIS, stII, stIE, stIU, stIM, stEA, stES, stEI, stEE, stEU, stEM, stUA, stUS, stUI, stUE, stUU, stUM, stMA, stMS, stMI, stME, stMU, stMM, q_A0, q_A1, q_S0, q_S1, q_I0, q_I1, q_E0, q_E1, c1, e, hp]
        · apply hr0
          rw [k1]
          unfold rB
          simp (disch := omega) only [li0, li1, li2, li3, li4, li5, li6, li7, li8, li9, li10, li16, li17, li20, li30, li32, li48, li49, li50, li57, li60, li126, li147, nI_add, nI_sb, pk_mul, nI_m1, inrT, leT, leF, ltT, ltF, eqT, eqF, n1lt, m1lt, m1neg, m1nle, m1le, m1a1, m1a2, m1s, m1s', nI_cl, ↓tl, ↓sb, sb, sel, ser, ↓reduceIte, if_true, if_false, true_or, or_true, false_or, or_false, umS, umK, umJ, uaS, uaK, uaI, uaJ, mg30, mg31, mg32, mg33, mg34, mg35, mg36, mg37, mg38, mg39, mg40, mg41, mg42, mg43, mg44, mg45, mg46, mg47, mg48, mg49, ms30, ms31, ms32, ms33, ms34, ms35, ms36, ms37, ms38, ms39, ms40, ms41, ms42, ms43, ms44, ms45, ms46, ms47, ms48, ms49, k2, r_fl]
        · exact pS_mu hS1 (fun a j h => by simp only [um]; rw [if_neg (by omega), if_neg (by omega), k3 a j (by omega)])
        · refine pX_b hX (fun a b j h1 h2 h3 => ?_) (fun a j h => ?_) ?_ ?_ ?_ ?_ (by omega)
          · simp only [ua]; rw [if_neg (by omega), if_neg (by omega)]; exact y3 a b j (by omega) h2
          · simp only [um]; rw [if_neg (by omega), if_neg (by omega), k3 a j (by omega)]; exact fm a j (by omega) (by omega)
          · simp (disch := omega) only [uaK, uaS]
          · simp (disch := omega) only [umJ, umS]; rw [k3 _ _ (by omega)]; exact m20
          · simp (disch := omega) only [umJ, umS, uaS]
          · right; exact ⟨ep, x1, by simp (disch := omega) only [umJ, umS]⟩
    · refine mst_th (fl := f_L_run (nI t)) (fr := f_X7_run (nI t)) (c := 2) (x := nI 0) (al' := al) (be' := be) (mu' := um mu 30 0 (nI 2)) (fun w => ?_) (by omega) (by omega) (fun w => ?_) (umS _ _ _ _) (pS_0 _ hS) hR (by omega) (pX_f hX (fX_0 _ _) (by omega))
      · unfold f_L_run f_X6_run
        simp (maxSteps := 1000000) (disch := omega) only [li0, li1, li2, li3, li4, li5, li6, li7, li8, li9, li10, li16, li17, li20, li30, li32, li48, li49, li50, li57, li60, li126, li147, nI_add, nI_sb, pk_mul, nI_m1, inrT, leT, leF, ltT, ltF, eqT, eqF, n1lt, m1lt, m1neg, m1nle, m1le, m1a1, m1a2, m1s, m1s', nI_cl, ↓tl, ↓sb, sb, sel, ser, ↓reduceIte, if_true, if_false, true_or, or_true, false_or, or_false, umS, umK, umJ, uaS, uaK, uaI, uaJ, cg1, cg2, cg3, cg4, cg5, cg6, cg7, cg8, cg9, cg10, cg11, cg12, cg13, cg14, cg15, cg16, cg17, cg18, cg19, cg20, cs1, cs2, cs3, cs4, cs5, cs6, cs7, cs8, cs9, cs10, cs11, cs12, cs13, cs14, cs15, cs16, cs17, cs18, cs19, cs20, cc17, cc18, cc19, cc20, stAA, stAS, stAI, stAE, stAU, stAM, stSA, stSS, stSI, stSE, stSU, stSM, stIA, stIS, stII, stIE, stIU, stIM, stEA, stES, stEI, stEE, stEU, stEM, stUA, stUS, stUI, stUE, stUU, stUM, stMA, stMS, stMI, stME, stMU, stMM, q_A0, q_A1, q_S0, q_S1, q_I0, q_I1, q_E0, q_E1, c1, eq_false e]
      · rw [run_eq]
        unfold f_X7_problem
        simp (disch := omega) only [li0, li1, li2, li3, li4, li5, li6, li7, li8, li9, li10, li16, li17, li20, li30, li32, li48, li49, li50, li57, li60, li126, li147, nI_add, nI_sb, pk_mul, nI_m1, inrT, leT, leF, ltT, ltF, eqT, eqF, n1lt, m1lt, m1neg, m1nle, m1le, m1a1, m1a2, m1s, m1s', nI_cl, ↓tl, ↓sb, sb, sel, ser, ↓reduceIte, if_true, if_false, true_or, or_true, false_or, or_false, umS, umK, umJ, uaS, uaK, uaI, uaJ, mg30, mg31, mg32, mg33, mg34, mg35, mg36, mg37, mg38, mg39, mg40, mg41, mg42, mg43, mg44, mg45, mg46, mg47, mg48, mg49, ms30, ms31, ms32, ms33, ms34, ms35, ms36, ms37, ms38, ms39, ms40, ms41, ms42, ms43, ms44, ms45, ms46, ms47, ms48, ms49, r1, t1, eq_false e]
  · have c1 := fun w => c_itF (al := al) w g8 ha
    have r1 := fun w => r_itF (mu := mu) w g9 g10 ha
    refine mst_th (fl := f_L_run a) (fr := f_X7_run a) (c := 1) (x := nI 0) (al' := al) (be' := be) (mu' := um mu 30 0 (nI 1)) (fun w => ?_) (by omega) (by omega) (fun w => ?_) (umS _ _ _ _) (pS_0 _ hS) hR (by omega) (pX_f hX (fX_0 _ _) (by omega))
    · unfold f_L_run f_X6_run
      simp (maxSteps := 1000000) (disch := omega) only [li0, li1, li2, li3, li4, li5, li6, li7, li8, li9, li10, li16, li17, li20, li30, li32, li48, li49, li50, li57, li60, li126, li147, nI_add, nI_sb, pk_mul, nI_m1, inrT, leT, leF, ltT, ltF, eqT, eqF, n1lt, m1lt, m1neg, m1nle, m1le, m1a1, m1a2, m1s, m1s', nI_cl, ↓tl, ↓sb, sb, sel, ser, ↓reduceIte, if_true, if_false, true_or, or_true, false_or, or_false, umS, umK, umJ, uaS, uaK, uaI, uaJ, cg1, cg2, cg3, cg4, cg5, cg6, cg7, cg8, cg9, cg10, cg11, cg12, cg13, cg14, cg15, cg16, cg17, cg18, cg19, cg20, cs1, cs2, cs3, cs4, cs5, cs6, cs7, cs8, cs9, cs10, cs11, cs12, cs13, cs14, cs15, cs16, cs17, cs18, cs19, cs20, cc17, cc18, cc19, cc20, stAA, stAS, stAI, stAE, stAU, stAM, stSA, stSS, stSI, stSE, stSU, stSM, stIA, stIS, stII, stIE, stIU, stIM, stEA, stES, stEI, stEE, stEU, stEM, stUA, stUS, stUI, stUE, stUU, stUM, stMA, stMS, stMI, stME, stMU, stMM, q_A0, q_A1, q_S0, q_S1, q_I0, q_I1, q_E0, q_E1, c1]
    · rw [run_eq]
      unfold f_X7_problem
      simp (disch := omega) only [li0, li1, li2, li3, li4, li5, li6, li7, li8, li9, li10, li16, li17, li20, li30, li32, li48, li49, li50, li57, li60, li126, li147, nI_add, nI_sb, pk_mul, nI_m1, inrT, leT, leF, ltT, ltF, eqT, eqF, n1lt, m1lt, m1neg, m1nle, m1le, m1a1, m1a2, m1s, m1s', nI_cl, ↓tl, ↓sb, sb, sel, ser, ↓reduceIte, if_true, if_false, true_or, or_true, false_or, or_false, umS, umK, umJ, uaS, uaK, uaI, uaJ, mg30, mg31, mg32, mg33, mg34, mg35, mg36, mg37, mg38, mg39, mg40, mg41, mg42, mg43, mg44, mg45, mg46, mg47, mg48, mg49, ms30, ms31, ms32, ms33, ms34, ms35, ms36, ms37, ms38, ms39, ms40, ms41, ms42, ms43, ms44, ms45, ms46, ms47, ms48, ms49, r1]
