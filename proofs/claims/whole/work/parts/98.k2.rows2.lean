/-! calls: allocate, cloneRow, copyRow -/
def lawA (a : Option (Int32 × ts_Mem)) (m : ts_Mem → Option ts_Mem) : Option ts_Mem := a.bind (fun q4 => (m q4.2).bind (fun q8 => (f_X7_thrown q8).bind (fun q9 => if q9 = q4.1 then (some q8) else (none))))
theorem msA_th {al be : pu_A} {mu mu' : pu_M} {v : ts_Mem} {p n nx K c : Nat} {fl : ts_Mem → Option (Int32 × ts_Mem)} {fr : ts_Mem → Option ts_Mem} (h1 : ∀ w, fl (ca al (cb be w)) = some (nI c, ca al (cb be w))) (h2 : ∀ w, fr (ma mu w) = some (ma mu' w)) (h0 : mu' 30 0 = nI c) (hS : pS al mu' p n nx) (hR : pR al n) (hn : nx ≤ K) (hX : pX be mu' v K) : ∃ u2, lawA (fl (ca al (cb be (ma mu v)))) fr = some u2 ∧ Z u2 K := by
  refine ⟨ca al (cb be (ma mu' v)), ?_, al, be, mu', v, p, n, nx, rfl, hS, hR, hn, hX⟩
  unfold lawA f_X7_thrown
  rw [h1, sb]
  dsimp only
  rw [mm, h2, sb, sb, mg30, h0, if_pos rfl, mm]
theorem msA_ok {al be be' : pu_A} {mu mu' : pu_M} {f1 f2 : pu_F} {v : ts_Mem} {p n nx K : Nat} {fl : ts_Mem → Option (Int32 × ts_Mem)} {fr : ts_Mem → Option ts_Mem} (h1 : ∀ w, fl (ca al (cb be (cf (fun k i j => ts_gF v (k, 0, i) j) w))) = some (nI 0, ca al (cb be' (cf f1 w)))) (h2 : ∀ w, fr (ma mu (cf f1 w)) = some (ma mu' (cf f2 w))) (h0 : mu' 30 0 = nI 0) (hS : pS al mu' p n nx) (hR : pR al n) (hn : nx ≤ K) (hX : pX be' mu' (cf f2 v) K) : ∃ u2, lawA (fl (ca al (cb be (ma mu v)))) fr = some u2 ∧ Z u2 K := by
  refine ⟨ca al (cb be' (ma mu' (cf f2 v))), ?_, al, be', mu', cf f2 v, p, n, nx, rfl, hS, hR, hn, hX⟩
  have e1 : fl (ca al (cb be (ma mu v))) = some (nI 0, ca al (cb be' (cf f1 (ma mu v)))) := by rw [← h1 (ma mu v), ← ma_cf, cf_self]
  unfold lawA f_X7_thrown
  rw [e1, sb]
  dsimp only
  rw [← ma_cf, mm, cb_cf, ca_cf, h2, sb, sb, mg30, h0, if_pos rfl, ← ca_cf, ← cb_cf, ← mm]
theorem b_ne {b : Int32} {h : Nat} (hh : h < 2 ^ 31) (hb : b < nI 0 ∨ nI h ≤ b) : ∀ k, k < h → ¬ b = nI k := fun k hk q => by
  subst q
  rcases hb with h | h
  · rw [ltF (by omega) (by omega)] at h; exact h
  · rw [leF (by omega) (by omega)] at h; exact h
theorem f0_nn : FP.fIsNaN 0 = false := by decide
theorem fM_0 (mu : pu_M) (x : Int32) : fM mu (um mu 30 0 x) := fun a j _ h => by unfold um; rw [if_neg h]
theorem fM_trans {mu mu1 mu2 : pu_M} (h1 : fM mu mu1) (h2 : fM mu1 mu2) : fM mu mu2 := fun a j q1 q2 => by rw [h2 a j q1 q2, h1 a j q1 q2]
theorem fM_u (mu : pu_M) {k j : Nat} (x : Int32) (h : 44 < k ∧ k < 48) : fM mu (um mu k j x) := fun a c q1 q2 => by unfold um; rw [if_neg (by omega)]
theorem k_allocate (a b c : Int32) {u : ts_Mem} {K : Nat} (hZ : Z u K) : ∃ u2, lawA (f_L_allocate a b c u) (f_X7_allocate a b c) = some u2 ∧ Z u2 (K + 1) := by
  obtain ⟨al, be, mu, v, p, n, nx, rfl, hS, hR, hn, hX⟩ := hZ
  obtain ⟨g1, g2, g3, g4, g5, g6, g7, g8, g9, g10⟩ := hS.1
  have hY := pX_Y hX.2.1
  rcases rg_case a 3 (by omega) with ⟨s, hs, rfl⟩ | ha
  rotate_left
  · have c1 := fun w => c_isF (x := a) w ha
    have r1 := fun w => r_isF (x := a) w ha
    refine msA_th (fl := f_L_allocate a b c) (fr := f_X7_allocate a b c) (c := 1) (mu' := um mu 30 0 (nI 1)) (fun w => ?_) (fun w => ?_) (umS _ _ _ _) (pS_0 _ hS) hR (by omega) (pX_f hX (fX_0 _ _) (by omega))
    · unfold f_L_allocate f_X6_allocate
      simp (disch := omega) only [li0, li1, li2, li3, li4, li5, li6, li7, li8, li9, li10, li16, li17, li20, li30, li32, li48, li49, li50, li57, li60, li126, li147, nI_add, nI_sb, pk_mul, nI_m1, inrT, leT, leF, ltT, ltF, eqT, eqF, n1lt, m1lt, m1neg, m1nle, m1le, m1a1, m1a2, m1s, m1s', nI_cl, ↓tl, ↓sb, sb, sel, ser, ↓reduceIte, if_true, if_false, true_or, or_true, false_or, or_false, umS, umK, umJ, uaS, uaK, uaI, uaJ, stAA, stAS, stAI, stAE, stAU, stAM, stSA, stSS, stSI, stSE, stSU, stSM, stIA, stIS, stII, stIE, stIU, stIM, stEA, stES, stEI, stEE, stEU, stEM, stUA, stUS, stUI, stUE, stUU, stUM, stMA, stMS, stMI, stME, stMU, stMM, q_A0, q_A1, q_S0, q_S1, q_I0, q_I1, q_E0, q_E1, c1]
    · unfold f_X7_allocate
      simp (disch := omega) only [li0, li1, li2, li3, li4, li5, li6, li7, li8, li9, li10, li16, li17, li20, li30, li32, li48, li49, li50, li57, li60, li126, li147, nI_add, nI_sb, pk_mul, nI_m1, inrT, leT, leF, ltT, ltF, eqT, eqF, n1lt, m1lt, m1neg, m1nle, m1le, m1a1, m1a2, m1s, m1s', nI_cl, ↓tl, ↓sb, sb, sel, ser, ↓reduceIte, if_true, if_false, true_or, or_true, false_or, or_false, umS, umK, umJ, uaS, uaK, uaI, uaJ, mg30, mg31, mg32, mg33, mg34, mg35, mg36, mg37, mg38, mg39, mg40, mg41, mg42, mg43, mg44, mg45, mg46, mg47, mg48, mg49, ms30, ms31, ms32, ms33, ms34, ms35, ms36, ms37, ms38, ms39, ms40, ms41, ms42, ms43, ms44, ms45, ms46, ms47, ms48, ms49, r1]
  have c1 := fun w => c_isT (i := s) w hs
  have r1 := fun w => r_isT (i := s) w hs
  rcases rg_case b 2 (by omega) with ⟨y, hy, rfl⟩ | hb
  rotate_left
  · have n0 := eq_false (b_ne (by omega) hb 0 (by omega))
    have n1 := eq_false (b_ne (by omega) hb 1 (by omega))
    have r2 := fun w => r_rgF (x := b) (hi := 1) w hb (by omega)
    refine msA_th (fl := f_L_allocate (nI s) b c) (fr := f_X7_allocate (nI s) b c) (c := 2) (mu' := um mu 30 0 (nI 2)) (fun w => ?_) (fun w => ?_) (umS _ _ _ _) (pS_0 _ hS) hR (by omega) (pX_f hX (fX_0 _ _) (by omega))
    · unfold f_L_allocate f_X6_allocate
      simp (maxSteps := 1000000) (disch := omega) only [li0, li1, li2, li3, li4, li5, li6, li7, li8, li9, li10, li16, li17, li20, li30, li32, li48, li49, li50, li57, li60, li126, li147, nI_add, nI_sb, pk_mul, nI_m1, inrT, leT, leF, ltT, ltF, eqT, eqF, n1lt, m1lt, m1neg, m1nle, m1le, m1a1, m1a2, m1s, m1s', nI_cl, ↓tl, ↓sb, sb, sel, ser, ↓reduceIte, if_true, if_false, true_or, or_true, false_or, or_false, umS, umK, umJ, uaS, uaK, uaI, uaJ, stAA, stAS, stAI, stAE, stAU, stAM, stSA, stSS, stSI, stSE, stSU, stSM, stIA, stIS, stII, stIE, stIU, stIM, stEA, stES, stEI, stEE, stEU, stEM, stUA, stUS, stUI, stUE, stUU, stUM, stMA, stMS, stMI, stME, stMU, stMM, q_A0, q_A1, q_S0, q_S1, q_I0, q_I1, q_E0, q_E1, c1, n0, n1]
    · unfold f_X7_allocate
      simp (maxSteps := 1000000) (disch := omega) only [li0, li1, li2, li3, li4, li5, li6, li7, li8, li9, li10, li16, li17, li20, li30, li32, li48, li49, li50, li57, li60, li126, li147, nI_add, nI_sb, pk_mul, nI_m1, inrT, leT, leF, ltT, ltF, eqT, eqF, n1lt, m1lt, m1neg, m1nle, m1le, m1a1, m1a2, m1s, m1s', nI_cl, ↓tl, ↓sb, sb, sel, ser, ↓reduceIte, if_true, if_false, true_or, or_true, false_or, or_false, umS, umK, umJ, uaS, uaK, uaI, uaJ, mg30, mg31, mg32, mg33, mg34, mg35, mg36, mg37, mg38, mg39, mg40, mg41, mg42, mg43, mg44, mg45, mg46, mg47, mg48, mg49, ms30, ms31, ms32, ms33, ms34, ms35, ms36, ms37, ms38, ms39, ms40, ms41, ms42, ms43, ms44, ms45, ms46, ms47, ms48, ms49, r1, r2]
  have r2 := fun w => r_rgT (t := y) (hi := 1) w (by omega) (by omega)
  rcases rg_case c 31 (by omega) with ⟨l, hl, rfl⟩ | hc
  rotate_left
  · have r3 := fun w => r_rgF (x := c) (hi := 30) w hc (by omega)
    refine msA_th (fl := f_L_allocate (nI s) (nI y) c) (fr := f_X7_allocate (nI s) (nI y) c) (c := 2) (mu' := um mu 30 0 (nI 2)) (fun w => ?_) (fun w => ?_) (umS _ _ _ _) (pS_0 _ hS) hR (by omega) (pX_f hX (fX_0 _ _) (by omega))
    · unfold f_L_allocate f_X6_allocate
      rcases (show y = 0 ∨ y = 1 by omega) with rfl | rfl <;> rcases out2 (hi := 30) hc (by omega) with b1 | ⟨b1, b2⟩
      · simp (maxSteps := 1000000) (disch := omega) only [li0, li1, li2, li3, li4, li5, li6, li7, li8, li9, li10, li16, li17, li20, li30, li32, li48, li49, li50, li57, li60, li126, li147, nI_add, nI_sb, pk_mul, nI_m1, inrT, leT, leF, ltT, ltF, eqT, eqF, n1lt, m1lt, m1neg, m1nle, m1le, m1a1, m1a2, m1s, m1s', nI_cl, ↓tl, ↓sb, sb, sel, ser, ↓reduceIte, if_true, if_false, true_or, or_true, false_or, or_false, umS, umK, umJ, uaS, uaK, uaI, uaJ, stAA, stAS, stAI, stAE, stAU, stAM, stSA, stSS, stSI, stSE, stSU, stSM, stIA, stIS, stII, stIE, stIU, stIM, stEA, stES, stEI, stEE, stEU, stEM, stUA, stUS, stUI, stUE, stUU, stUM, stMA, stMS, stMI, stME, stMU, stMM, q_A0, q_A1, q_S0, q_S1, q_I0, q_I1, q_E0, q_E1, c1, eq_true b1]
      · simp (maxSteps := 1000000) (disch := omega) only [li0, li1, li2, li3, li4, li5, li6, li7, li8, li9, li10, li16, li17, li20, li30, li32, li48, li49, li50, li57, li60, li126, li147, nI_add, nI_sb, pk_mul, nI_m1, inrT, leT, leF, ltT, ltF, eqT, eqF, n1lt, m1lt, m1neg, m1nle, m1le, m1a1, m1a2, m1s, m1s', nI_cl, ↓tl, ↓sb, sb, sel, ser, ↓reduceIte, if_true, if_false, true_or, or_true, false_or, or_false, umS, umK, umJ, uaS, uaK, uaI, uaJ, stAA, stAS, stAI, stAE, stAU, stAM, stSA, stSS, stSI, stSE, stSU, stSM, stIA, stIS, stII, stIE, stIU, stIM, stEA, stES, stEI, stEE, stEU, stEM, stUA, stUS, stUI, stUE, stUU, stUM, stMA, stMS, stMI, stME, stMU, stMM, q_A0, q_A1, q_S0, q_S1, q_I0, q_I1, q_E0, q_E1, c1, eq_false b1, eq_true b2]
      · simp (maxSteps := 1000000) (disch := omega) only [li0, li1, li2, li3, li4, li5, li6, li7, li8, li9, li10, li16, li17, li20, li30, li32, li48, li49, li50, li57, li60, li126, li147, nI_add, nI_sb, pk_mul, nI_m1, inrT, leT, leF, ltT, ltF, eqT, eqF, n1lt, m1lt, m1neg, m1nle, m1le, m1a1, m1a2, m1s, m1s', nI_cl, ↓tl, ↓sb, sb, sel, ser, ↓reduceIte, if_true, if_false, true_or, or_true, false_or, or_false, umS, umK, umJ, uaS, uaK, uaI, uaJ, stAA, stAS, stAI, stAE, stAU, stAM, stSA, stSS, stSI, stSE, stSU, stSM, stIA, stIS, stII, stIE, stIU, stIM, stEA, stES, stEI, stEE, stEU, stEM, stUA, stUS, stUI, stUE, stUU, stUM, stMA, stMS, stMI, stME, stMU, stMM, q_A0, q_A1, q_S0, q_S1, q_I0, q_I1, q_E0, q_E1, c1, eq_true b1]
      · simp (maxSteps := 1000000) (disch := omega) only [li0, li1, li2, li3, li4, li5, li6, li7, li8, li9, li10, li16, li17, li20, li30, li32, li48, li49, li50, li57, li60, li126, li147, nI_add, nI_sb, pk_mul, nI_m1, inrT, leT, leF, ltT, ltF, eqT, eqF, n1lt, m1lt, m1neg, m1nle, m1le, m1a1, m1a2, m1s, m1s', nI_cl, ↓tl, ↓sb, sb, sel, ser, ↓reduceIte, if_true, if_false, true_or, or_true, false_or, or_false, umS, umK, umJ, uaS, uaK, uaI, uaJ, stAA, stAS, stAI, stAE, stAU, stAM, stSA, stSS, stSI, stSE, stSU, stSM, stIA, stIS, stII, stIE, stIU, stIM, stEA, stES, stEI, stEE, stEU, stEM, stUA, stUS, stUI, stUE, stUU, stUM, stMA, stMS, stMI, stME, stMU, stMM, q_A0, q_A1, q_S0, q_S1, q_I0, q_I1, q_E0, q_E1, c1, eq_false b1, eq_true b2]
    · unfold f_X7_allocate
      simp (maxSteps := 1000000) (disch := omega) only [li0, li1, li2, li3, li4, li5, li6, li7, li8, li9, li10, li16, li17, li20, li30, li32, li48, li49, li50, li57, li60, li126, li147, nI_add, nI_sb, pk_mul, nI_m1, inrT, leT, leF, ltT, ltF, eqT, eqF, n1lt, m1lt, m1neg, m1nle, m1le, m1a1, m1a2, m1s, m1s', nI_cl, ↓tl, ↓sb, sb, sel, ser, ↓reduceIte, if_true, if_false, true_or, or_true, false_or, or_false, umS, umK, umJ, uaS, uaK, uaI, uaJ, mg30, mg31, mg32, mg33, mg34, mg35, mg36, mg37, mg38, mg39, mg40, mg41, mg42, mg43, mg44, mg45, mg46, mg47, mg48, mg49, ms30, ms31, ms32, ms33, ms34, ms35, ms36, ms37, ms38, ms39, ms40, ms41, ms42, ms43, ms44, ms45, ms46, ms47, ms48, ms49, r1, r2, r3]
  have r3 := fun w => r_rgT (t := l) (hi := 30) w (by omega) (by omega)
  obtain ⟨be', f1, y1, y2, y3, y4⟩ := mn_loop (s := s) al (nI y) (nI l) 30 0 (ua (ua be 27 s 0 (nI y)) 27 s 1 (nI l)) (fun k i j => ts_gF v (k, 0, i) j) (by omega)
  obtain ⟨mu', f2, z1, z2, z3, z4⟩ := ra_loop hs (nI y) (nI l) 30 0 (um (um (um mu 30 0 (nI 0)) 45 s (nI y)) 46 s (nI l)) f1 (by omega)
  have hfm : fM mu mu' := fun a j q1 q2 => by
    rw [z3 a j (by omega)]; simp only [um]; rw [if_neg (by omega), if_neg (by omega), if_neg (by omega)]
  have hfb : fB be be' := fun a b j q => by
    rw [y3 a b j (by omega)]; simp only [ua]; rw [if_neg (by omega), if_neg (by omega)]
  refine msA_ok (fl := f_L_allocate (nI s) (nI y) (nI l)) (fr := f_X7_allocate (nI s) (nI y) (nI l)) (be' := be') (mu' := mu') (f1 := f1) (f2 := f2) (fun w => ?_) (fun w => ?_) ?_ (pS_y hS hfm) hR (show nx ≤ K + 1 by omega) (pX_y hX hfb hfm (fun s' hs' => ?_) (by omega))
  · unfold f_L_allocate f_X6_allocate f_X4_makeNew
    have := y1 w ts_fu (by unfold ts_fu; omega)
    rcases (show y = 0 ∨ y = 1 by omega) with rfl | rfl
    · simp (maxSteps := 1000000) (disch := omega) only [li0, li1, li2, li3, li4, li5, li6, li7, li8, li9, li10, li16, li17, li20, li30, li32, li48, li49, li50, li57, li60, li126, li147, nI_add, nI_sb, pk_mul, nI_m1, inrT, leT, leF, ltT, ltF, eqT, eqF, n1lt, m1lt, m1neg, m1nle, m1le, m1a1, m1a2, m1s, m1s', nI_cl, ↓tl, ↓sb, sb, sel, ser, ↓reduceIte, if_true, if_false, true_or, or_true, false_or, or_false, umS, umK, umJ, uaS, uaK, uaI, uaJ, stAA, stAS, stAI, stAE, stAU, stAM, stSA, stSS, stSI, stSE, stSU, stSM, stIA, stIS, stII, stIE, stIU, stIM, stEA, stES, stEI, stEE, stEU, stEM, stUA, stUS, stUI, stUE, stUU, stUM, stMA, stMS, stMI, stME, stMU, stMM, q_A0, q_A1, q_S0, q_S1, q_I0, q_I1, q_E0, q_E1, xg0, xs0, xg21, xs21, xg22, xs22, xg23, xs23, xg24, xs24, xg25, xs25, xg26, xs26, xg27, xs27, xg28, xs28, xg29, xs29, bg0, bs0, bg21, bs21, bg22, bs22, bg23, bs23, bg24, bs24, bg25, bs25, bg26, bs26, bg27, bs27, bg28, bs28, bg29, bs29, c1, this]
    · simp (maxSteps := 1000000) (disch := omega) only [li0, li1, li2, li3, li4, li5, li6, li7, li8, li9, li10, li16, li17, li20, li30, li32, li48, li49, li50, li57, li60, li126, li147, nI_add, nI_sb, pk_mul, nI_m1, inrT, leT, leF, ltT, ltF, eqT, eqF, n1lt, m1lt, m1neg, m1nle, m1le, m1a1, m1a2, m1s, m1s', nI_cl, ↓tl, ↓sb, sb, sel, ser, ↓reduceIte, if_true, if_false, true_or, or_true, false_or, or_false, umS, umK, umJ, uaS, uaK, uaI, uaJ, stAA, stAS, stAI, stAE, stAU, stAM, stSA, stSS, stSI, stSE, stSU, stSM, stIA, stIS, stII, stIE, stIU, stIM, stEA, stES, stEI, stEE, stEU, stEM, stUA, stUS, stUI, stUE, stUU, stUM, stMA, stMS, stMI, stME, stMU, stMM, q_A0, q_A1, q_S0, q_S1, q_I0, q_I1, q_E0, q_E1, xg0, xs0, xg21, xs21, xg22, xs22, xg23, xs23, xg24, xs24, xg25, xs25, xg26, xs26, xg27, xs27, xg28, xs28, xg29, xs29, bg0, bs0, bg21, bs21, bg22, bs22, bg23, bs23, bg24, bs24, bg25, bs25, bg26, bs26, bg27, bs27, bg28, bs28, bg29, bs29, c1, this]
  · unfold f_X7_allocate
    have := z1 w ts_fu (by unfold ts_fu; omega)
    simp (maxSteps := 1000000) (disch := omega) only [li0, li1, li2, li3, li4, li5, li6, li7, li8, li9, li10, li16, li17, li20, li30, li32, li48, li49, li50, li57, li60, li126, li147, nI_add, nI_sb, pk_mul, nI_m1, inrT, leT, leF, ltT, ltF, eqT, eqF, n1lt, m1lt, m1neg, m1nle, m1le, m1a1, m1a2, m1s, m1s', nI_cl, ↓tl, ↓sb, sb, sel, ser, ↓reduceIte, if_true, if_false, true_or, or_true, false_or, or_false, umS, umK, umJ, uaS, uaK, uaI, uaJ, mg30, mg31, mg32, mg33, mg34, mg35, mg36, mg37, mg38, mg39, mg40, mg41, mg42, mg43, mg44, mg45, mg46, mg47, mg48, mg49, ms30, ms31, ms32, ms33, ms34, ms35, ms36, ms37, ms38, ms39, ms40, ms41, ms42, ms43, ms44, ms45, ms46, ms47, ms48, ms49, r1, r2, r3, this]
  · rw [z3 _ _ (by omega)]; simp (disch := omega) only [umK, umS]
  · by_cases e : s' = s
    · subst e
      refine ⟨⟨l, by omega, ?_, ?_⟩, ?_, ?_, fun k hk => ⟨?_, ?_, ?_⟩⟩
      · rw [y3 _ _ _ (by omega), uaS]
      · rw [z3 _ _ (by omega), umS]
      · rw [y3 _ _ _ (by omega), z3 _ _ (by omega)]; simp (disch := omega) only [uaJ, uaS, umK, umS]
      · rw [z3 _ _ (by omega)]; simp (disch := omega) only [umK, umS]
        rcases (show y = 0 ∨ y = 1 by omega) with rfl | rfl
        · exact Or.inr (Or.inl rfl)
        · exact Or.inr (Or.inr rfl)
      · rw [(y2 k (by omega) hk).1, (z2 k (by omega) hk).1]
      · rw [z4 _ _ _ (by omega), (y2 k (by omega) hk).2, (z2 k (by omega) hk).2]
      · rw [(z2 k (by omega) hk).2]; exact f0_nn
    · obtain ⟨⟨l', x1, x2, x3⟩, x4, x5, x6⟩ := hY s' hs'
      refine ⟨⟨l', x1, ?_, ?_⟩, ?_, ?_, fun k hk => ?_⟩
      · rw [y3 _ _ _ (by omega), uaI _ _ _ _ _ e, uaI _ _ _ _ _ e]; exact x2
      · rw [z3 _ _ (by omega), umJ _ _ _ e, umK _ _ _ _ (by omega), umK _ _ _ _ (by omega)]; exact x3
      · rw [y3 _ _ _ (by omega), uaI _ _ _ _ _ e, uaI _ _ _ _ _ e, z3 _ _ (by omega), umK _ _ _ _ (by omega), umJ _ _ _ e, umK _ _ _ _ (by omega)]; exact x4
      · rw [z3 _ _ (by omega), umK _ _ _ _ (by omega), umJ _ _ _ e, umK _ _ _ _ (by omega)]; exact x5
      · obtain ⟨k1, k2, k3⟩ := x6 k hk
        rw [y3 _ _ _ (by omega), z3 _ _ (by omega), z4 _ _ _ (by omega), z4 _ _ _ (by omega), y4 _ _ _ (by omega), y4 _ _ _ (by omega)]
        simp (disch := omega) only [uaK, umK]
        exact ⟨k1, k2, k3⟩
def pb2 (be : pu_A) (k i1 i2 n : Nat) : pu_A := fun a b c => if a = k ∧ b = i2 ∧ c < n then be k i1 c else be a b c
theorem cx29 (al : pu_A) (u : ts_Mem) (i1 i2 n : Nat) : ts_cI (ca al u) (29, 0, i1) (29, 0, i2) 0 0 n = ca al (ts_cI u (29, 0, i1) (29, 0, i2) 0 0 n) := by
  unfold ts_cI ca
  refine Prod.ext ?_ rfl
  funext id m
  obtain ⟨a, b, c⟩ := id
  simp only [Prod.mk.injEq]
  by_cases e : a = 29 ∧ b = 0 ∧ c = i2
  · obtain ⟨rfl, rfl, rfl⟩ := e
    simp
  · rw [if_neg e]
    split
    · rfl
    · rfl
theorem cy29 (be : pu_A) (u : ts_Mem) (i1 i2 n : Nat) : ts_cI (cb be u) (29, 0, i1) (29, 0, i2) 0 0 n = cb (pb2 be 29 i1 i2 n) u := by
  unfold ts_cI cb pb2 va_cpy
  refine Prod.ext ?_ rfl
  funext id m
  obtain ⟨a, b, c⟩ := id
  simp only [Prod.mk.injEq]
  by_cases e : a = 29 ∧ b = 0 ∧ c = i2
  · obtain ⟨rfl, rfl, rfl⟩ := e
    simp
  · rw [if_neg e]
    by_cases e2 : (a = 0 ∨ 21 ≤ a ∧ a ≤ 29) ∧ b = 0
    · rw [if_pos e2, if_pos e2, if_neg]
      rintro ⟨rfl, rfl, -⟩
      exact e ⟨rfl, e2.2, rfl⟩
    · rw [if_neg e2, if_neg e2]
theorem okc3 {n : Nat} (h1 : n ≤ 30) : ts_okc (nI 0) (nI 0) (nI n) 30 30 := by
  refine ⟨nI_pos (by omega), nI_pos (by omega), nI_pos (by omega), ?_, ?_⟩
  · rw [nI_cl (by omega), nI_cl (by omega)]; omega
  · rw [nI_cl (by omega), nI_cl (by omega)]; omega
theorem c_te {al be : pu_A} {fo : pu_F} {s t l : Nat} (w : ts_Mem) (h : be 27 s 1 = nI l) (hl : l ≤ 30) : f_X4_takeElements t s (ca al (cb be (cf fo w))) = some (ca al (cb (pb2 be 29 s t l) (cf (pf2 fo 28 s t l) w))) := by
  have e2 : ∀ w, ts_cF (ca al (cb be (cf fo w))) (28, 0, s) (28, 0, t) 0 0 l = ca al (cb be (cf (pf2 fo 28 s t l) w)) := fun w => by
    rw [← fc fo w 28 s t l]; rfl
  have e3 : ∀ w, ts_cI (ca al (cb be (cf (pf2 fo 28 s t l) w))) (29, 0, s) (29, 0, t) 0 0 l = ca al (cb (pb2 be 29 s t l) (cf (pf2 fo 28 s t l) w)) := fun w => by rw [cx29, cy29]
  unfold f_X4_takeElements
  simp (disch := omega) only [li0, li1, li2, li3, li4, li5, li6, li7, li8, li9, li10, li16, li17, li20, li30, li32, li48, li49, li50, li57, li60, li126, li147, nI_add, nI_sb, pk_mul, nI_m1, inrT, leT, leF, ltT, ltF, eqT, eqF, n1lt, m1lt, m1neg, m1nle, m1le, m1a1, m1a2, m1s, m1s', nI_cl, ↓tl, ↓sb, sb, sel, ser, ↓reduceIte, if_true, if_false, true_or, or_true, false_or, or_false, umS, umK, umJ, uaS, uaK, uaI, uaJ, xg0, xs0, xg21, xs21, xg22, xs22, xg23, xs23, xg24, xs24, xg25, xs25, xg26, xs26, xg27, xs27, xg28, xs28, xg29, xs29, bg0, bs0, bg21, bs21, bg22, bs22, bg23, bs23, bg24, bs24, bg25, bs25, bg26, bs26, bg27, bs27, bg28, bs28, bg29, bs29, h, if_pos (okc3 hl), e2, e3]
/-- rows after a copy on both sides -/
theorem pY_cp {be be' : pu_A} {mu mu' : pu_M} {fo f2 : pu_F} {s t l : Nat} (hs : s < 3) (ht : t < 3) (hl : l ≤ 30) (h : pY be mu fo) (b0 : ∀ s', s' < 3 → (∃ l, l ≤ 30 ∧ be' 27 s' 1 = nI l ∧ mu' 46 s' = nI l) ∧ be' 27 s' 0 = mu' 45 s' ∧ (mu' 45 s' = -nI 1 ∨ mu' 45 s' = nI 0 ∨ mu' 45 s' = nI 1)) (b1 : ∀ b k, be' 29 b k = pb2 be 29 s t l 29 b k) (m1 : ∀ k, k < l → mu' 47 (30 * t + k) = mu 47 (30 * s + k) ∧ f2 48 0 (30 * t + k) = fo 48 0 (30 * s + k)) (m2 : ∀ x, ¬ (30 * t ≤ x ∧ x < 30 * t + l) → mu' 47 x = mu 47 x ∧ f2 48 0 x = fo 48 0 x) (m3 : ∀ b k, f2 28 b k = pf2 fo 28 s t l 28 b k) : pY be' mu' f2 := by
  intro s' hs'
  obtain ⟨q1, q2, q3⟩ := b0 s' hs'
  refine ⟨q1, q2, q3, fun k hk => ?_⟩
  rw [b1, m3]
  unfold pb2 pf2
  by_cases e : s' = t ∧ k < l
  · obtain ⟨rfl, e⟩ := e
    obtain ⟨-, -, -, x6⟩ := h s hs
    obtain ⟨k1, k2, k3⟩ := x6 k hk
    rw [if_pos ⟨rfl, rfl, e⟩, if_pos ⟨rfl, rfl, e⟩, (m1 k e).1, (m1 k e).2]
    exact ⟨k1, k2, k3⟩
  · obtain ⟨-, -, -, x6⟩ := h s' hs'
    obtain ⟨k1, k2, k3⟩ := x6 k hk
    have ne : ¬ (30 * t ≤ 30 * s' + k ∧ 30 * s' + k < 30 * t + l) := by omega
    rw [if_neg (by omega), if_neg (by omega), (m2 _ ne).1, (m2 _ ne).2]
    exact ⟨k1, k2, k3⟩
theorem k_cloneRow (a b : Int32) {u : ts_Mem} {K : Nat} (hZ : Z u K) : ∃ u2, law1 (f_L_cloneRow a b u) (f_X7_cloneRow a b) = some u2 ∧ Z u2 (K + 1) := by
  obtain ⟨al, be, mu, v, p, n, nx, rfl, hS, hR, hn, hX⟩ := hZ
  obtain ⟨g1, g2, g3, g4, g5, g6, g7, g8, g9, g10⟩ := hS.1
  have hY := pX_Y hX.2.1
  rcases rg_case a 3 (by omega) with ⟨s, hs, rfl⟩ | ha
  rotate_left
  · have c1 := fun w => c_isF (x := a) w ha
    have r1 := fun w => r_isF (x := a) w ha
    refine mst_th (fl := f_L_cloneRow a b) (fr := f_X7_cloneRow a b) (c := 1) (x := nI 0) (al' := al) (be' := be) (mu' := um mu 30 0 (nI 1)) (fun w => ?_) (by omega) (by omega) (fun w => ?_) (umS _ _ _ _) (pS_0 _ hS) hR (by omega) (pX_f hX (fX_0 _ _) (by omega))
    · unfold f_L_cloneRow f_X6_cloneRow
      simp (maxSteps := 1000000) (disch := omega) only [li0, li1, li2, li3, li4, li5, li6, li7, li8, li9, li10, li16, li17, li20, li30, li32, li48, li49, li50, li57, li60, li126, li147, nI_add, nI_sb, pk_mul, nI_m1, inrT, leT, leF, ltT, ltF, eqT, eqF, n1lt, m1lt, m1neg, m1nle, m1le, m1a1, m1a2, m1s, m1s', nI_cl, ↓tl, ↓sb, sb, sel, ser, ↓reduceIte, if_true, if_false, true_or, or_true, false_or, or_false, umS, umK, umJ, uaS, uaK, uaI, uaJ, stAA, stAS, stAI, stAE, stAU, stAM, stSA, stSS, stSI, stSE, stSU, stSM, stIA, stIS, stII, stIE, stIU, stIM, stEA, stES, stEI, stEE, stEU, stEM, stUA, stUS, stUI, stUE, stUU, stUM, stMA, stMS, stMI, stME, stMU, stMM, q_A0, q_A1, q_S0, q_S1, q_I0, q_I1, q_E0, q_E1, c1]
    · unfold f_X7_cloneRow
      simp (maxSteps := 1000000) (disch := omega) only [li0, li1, li2, li3, li4, li5, li6, li7, li8, li9, li10, li16, li17, li20, li30, li32, li48, li49, li50, li57, li60, li126, li147, nI_add, nI_sb, pk_mul, nI_m1, inrT, leT, leF, ltT, ltF, eqT, eqF, n1lt, m1lt, m1neg, m1nle, m1le, m1a1, m1a2, m1s, m1s', nI_cl, ↓tl, ↓sb, sb, sel, ser, ↓reduceIte, if_true, if_false, true_or, or_true, false_or, or_false, umS, umK, umJ, uaS, uaK, uaI, uaJ, mg30, mg31, mg32, mg33, mg34, mg35, mg36, mg37, mg38, mg39, mg40, mg41, mg42, mg43, mg44, mg45, mg46, mg47, mg48, mg49, ms30, ms31, ms32, ms33, ms34, ms35, ms36, ms37, ms38, ms39, ms40, ms41, ms42, ms43, ms44, ms45, ms46, ms47, ms48, ms49, r1]
  have c1 := fun w => c_isT (i := s) w hs
  have r1 := fun w => r_isT (i := s) w hs
  rcases rg_case b 3 (by omega) with ⟨t, ht, rfl⟩ | hb
  rotate_left
  · have c2 := fun w => c_isF (x := b) w hb
    have r2 := fun w => r_isF (x := b) w hb
    refine mst_th (fl := f_L_cloneRow (nI s) b) (fr := f_X7_cloneRow (nI s) b) (c := 1) (x := nI 0) (al' := al) (be' := be) (mu' := um mu 30 0 (nI 1)) (fun w => ?_) (by omega) (by omega) (fun w => ?_) (umS _ _ _ _) (pS_0 _ hS) hR (by omega) (pX_f hX (fX_0 _ _) (by omega))
    · unfold f_L_cloneRow f_X6_cloneRow
      simp (maxSteps := 1000000) (disch := omega) only [li0, li1, li2, li3, li4, li5, li6, li7, li8, li9, li10, li16, li17, li20, li30, li32, li48, li49, li50, li57, li60, li126, li147, nI_add, nI_sb, pk_mul, nI_m1, inrT, leT, leF, ltT, ltF, eqT, eqF, n1lt, m1lt, m1neg, m1nle, m1le, m1a1, m1a2, m1s, m1s', nI_cl, ↓tl, ↓sb, sb, sel, ser, ↓reduceIte, if_true, if_false, true_or, or_true, false_or, or_false, umS, umK, umJ, uaS, uaK, uaI, uaJ, stAA, stAS, stAI, stAE, stAU, stAM, stSA, stSS, stSI, stSE, stSU, stSM, stIA, stIS, stII, stIE, stIU, stIM, stEA, stES, stEI, stEE, stEU, stEM, stUA, stUS, stUI, stUE, stUU, stUM, stMA, stMS, stMI, stME, stMU, stMM, q_A0, q_A1, q_S0, q_S1, q_I0, q_I1, q_E0, q_E1, c1, c2]
    · unfold f_X7_cloneRow
      simp (maxSteps := 1000000) (disch := omega) only [li0, li1, li2, li3, li4, li5, li6, li7, li8, li9, li10, li16, li17, li20, li30, li32, li48, li49, li50, li57, li60, li126, li147, nI_add, nI_sb, pk_mul, nI_m1, inrT, leT, leF, ltT, ltF, eqT, eqF, n1lt, m1lt, m1neg, m1nle, m1le, m1a1, m1a2, m1s, m1s', nI_cl, ↓tl, ↓sb, sb, sel, ser, ↓reduceIte, if_true, if_false, true_or, or_true, false_or, or_false, umS, umK, umJ, uaS, uaK, uaI, uaJ, mg30, mg31, mg32, mg33, mg34, mg35, mg36, mg37, mg38, mg39, mg40, mg41, mg42, mg43, mg44, mg45, mg46, mg47, mg48, mg49, ms30, ms31, ms32, ms33, ms34, ms35, ms36, ms37, ms38, ms39, ms40, ms41, ms42, ms43, ms44, ms45, ms46, ms47, ms48, ms49, r1, r2]
  have c2 := fun w => c_isT (i := t) w ht
  have r2 := fun w => r_isT (i := t) w ht
  obtain ⟨⟨l, x1, x2, x3⟩, x4, x5, -⟩ := hY s hs
  by_cases e : mu 45 s = -nI 1
  · refine mst_th (fl := f_L_cloneRow (nI s) (nI t)) (fr := f_X7_cloneRow (nI s) (nI t)) (c := 2) (x := nI 0) (al' := al) (be' := be) (mu' := um mu 30 0 (nI 2)) (fun w => ?_) (by omega) (by omega) (fun w => ?_) (umS _ _ _ _) (pS_0 _ hS) hR (by omega) (pX_f hX (fX_0 _ _) (by omega))
    · unfold f_L_cloneRow f_X6_cloneRow f_X4_isUsed
      simp (maxSteps := 1000000) (disch := omega) only [li0, li1, li2, li3, li4, li5, li6, li7, li8, li9, li10, li16, li17, li20, li30, li32, li48, li49, li50, li57, li60, li126, li147, nI_add, nI_sb, pk_mul, nI_m1, inrT, leT, leF, ltT, ltF, eqT, eqF, n1lt, m1lt, m1neg, m1nle, m1le, m1a1, m1a2, m1s, m1s', nI_cl, ↓tl, ↓sb, sb, sel, ser, ↓reduceIte, if_true, if_false, true_or, or_true, false_or, or_false, umS, umK, umJ, uaS, uaK, uaI, uaJ, stAA, stAS, stAI, stAE, stAU, stAM, stSA, stSS, stSI, stSE, stSU, stSM, stIA, stIS, stII, stIE, stIU, stIM, stEA, stES, stEI, stEE, stEU, stEM, stUA, stUS, stUI, stUE, stUU, stUM, stMA, stMS, stMI, stME, stMU, stMM, q_A0, q_A1, q_S0, q_S1, q_I0, q_I1, q_E0, q_E1, xg0, xs0, xg21, xs21, xg22, xs22, xg23, xs23, xg24, xs24, xg25, xs25, xg26, xs26, xg27, xs27, xg28, xs28, xg29, xs29, bg0, bs0, bg21, bs21, bg22, bs22, bg23, bs23, bg24, bs24, bg25, bs25, bg26, bs26, bg27, bs27, bg28, bs28, bg29, bs29, c1, c2, x4, e]
    · unfold f_X7_cloneRow
      simp (maxSteps := 1000000) (disch := omega) only [li0, li1, li2, li3, li4, li5, li6, li7, li8, li9, li10, li16, li17, li20, li30, li32, li48, li49, li50, li57, li60, li126, li147, nI_add, nI_sb, pk_mul, nI_m1, inrT, leT, leF, ltT, ltF, eqT, eqF, n1lt, m1lt, m1neg, m1nle, m1le, m1a1, m1a2, m1s, m1s', nI_cl, ↓tl, ↓sb, sb, sel, ser, ↓reduceIte, if_true, if_false, true_or, or_true, false_or, or_false, umS, umK, umJ, uaS, uaK, uaI, uaJ, mg30, mg31, mg32, mg33, mg34, mg35, mg36, mg37, mg38, mg39, mg40, mg41, mg42, mg43, mg44, mg45, mg46, mg47, mg48, mg49, ms30, ms31, ms32, ms33, ms34, ms35, ms36, ms37, ms38, ms39, ms40, ms41, ms42, ms43, ms44, ms45, ms46, ms47, ms48, ms49, r1, r2, e]
  obtain ⟨ty, ty1, ty2⟩ : ∃ ty, ty ≤ 1 ∧ mu 45 s = nI ty := by
    rcases x5 with h | h | h
    · exact absurd h e
    · exact ⟨0, by omega, h⟩
    · exact ⟨1, by omega, h⟩
  have hb1 : ua (ua be 27 t 0 (nI ty)) 27 t 1 (nI l) 27 s 1 = nI l := by
    by_cases e2 : s = t
    · subst e2; rw [uaS]
    · rw [uaI _ _ _ _ _ e2, uaI _ _ _ _ _ e2]; exact x2
  have hb2 : ua be 27 t 0 (nI ty) 27 s 1 = nI l := by rw [uaJ _ _ _ _ _ (by omega)]; exact x2
  have te := fun w => c_te (al := al) (be := ua (ua be 27 t 0 (nI ty)) 27 t 1 (nI l)) (fo := fun k i j => ts_gF v (k, 0, i) j) (s := s) (t := t) w hb1 x1
  obtain ⟨mu1, f2, z1, z2, z3, z4⟩ := ce_loop hs ht x1 l 0 (um mu 30 0 (nI 0)) (pf2 (fun k i j => ts_gF v (k, 0, i) j) 28 s t l) (by omega) (by rw [umK _ _ _ _ (by omega)]; exact x3)
  have m45 : mu1 45 s = nI ty := by rw [z3 _ _ (by omega), umK _ _ _ _ (by omega)]; exact ty2
  have m46s : mu1 46 s = nI l := by rw [z3 _ _ (by omega), umK _ _ _ _ (by omega)]; exact x3
  have m46 : um mu1 45 t (nI ty) 46 s = nI l := by rw [umK _ _ _ _ (by omega), z3 _ _ (by omega), umK _ _ _ _ (by omega)]; exact x3
  have m46' : um (um mu1 45 t (nI ty)) 46 t (nI l) 46 s = nI l := by
    by_cases e2 : s = t
    · subst e2; rw [umS]
    · rw [umJ _ _ _ e2]; exact m46
  have hpb : pb2 (ua (ua be 27 t 0 (nI ty)) 27 t 1 (nI l)) 29 s t l 27 s 1 = nI l := by
    unfold pb2; rw [if_neg (by omega)]; exact hb1
  have hfm : fM mu (um (um mu1 45 t (nI ty)) 46 t (nI l)) := fun a j q1 q2 => by
    simp only [um]; rw [if_neg (by omega), if_neg (by omega), z3 a j (by omega)]; unfold um; rw [if_neg (by omega)]
  have hfb : fB be (pb2 (ua (ua be 27 t 0 (nI ty)) 27 t 1 (nI l)) 29 s t l) := fun a b j q => by
    simp only [pb2, ua]; rw [if_neg (by omega), if_neg (by omega), if_neg (by omega)]
  refine msF_ok (fl := f_L_cloneRow (nI s) (nI t)) (fr := f_X7_cloneRow (nI s) (nI t)) (be' := pb2 (ua (ua be 27 t 0 (nI ty)) 27 t 1 (nI l)) 29 s t l) (mu' := um (um mu1 45 t (nI ty)) 46 t (nI l)) (f1 := pf2 (fun k i j => ts_gF v (k, 0, i) j) 28 s t l) (f2 := f2) (r := nI l) (fun w => ?_) (fun w => ?_) ?_ (pS_y hS hfm) hR (show nx ≤ K + 1 by omega) (pX_y hX hfb hfm (pY_cp hs ht x1 hY (fun s' hs' => ?_) (fun b k => ?_) (fun k hk => ?_) (fun x hx => ?_) (fun b k => ?_)) (by omega))
  · unfold f_L_cloneRow f_X6_cloneRow f_X4_isUsed f_X4_becomeCopyOf
    simp (maxSteps := 1000000) (disch := omega) only [li0, li1, li2, li3, li4, li5, li6, li7, li8, li9, li10, li16, li17, li20, li30, li32, li48, li49, li50, li57, li60, li126, li147, nI_add, nI_sb, pk_mul, nI_m1, inrT, leT, leF, ltT, ltF, eqT, eqF, n1lt, m1lt, m1neg, m1nle, m1le, m1a1, m1a2, m1s, m1s', nI_cl, ↓tl, ↓sb, sb, sel, ser, ↓reduceIte, if_true, if_false, true_or, or_true, false_or, or_false, umS, umK, umJ, uaS, uaK, uaI, uaJ, stAA, stAS, stAI, stAE, stAU, stAM, stSA, stSS, stSI, stSE, stSU, stSM, stIA, stIS, stII, stIE, stIU, stIM, stEA, stES, stEI, stEE, stEU, stEM, stUA, stUS, stUI, stUE, stUU, stUM, stMA, stMS, stMI, stME, stMU, stMM, q_A0, q_A1, q_S0, q_S1, q_I0, q_I1, q_E0, q_E1, xg0, xs0, xg21, xs21, xg22, xs22, xg23, xs23, xg24, xs24, xg25, xs25, xg26, xs26, xg27, xs27, xg28, xs28, xg29, xs29, bg0, bs0, bg21, bs21, bg22, bs22, bg23, bs23, bg24, bs24, bg25, bs25, bg26, bs26, bg27, bs27, bg28, bs28, bg29, bs29, c1, c2, x4, ty2, x2, te, hpb]
  · unfold f_X7_cloneRow f_X7_copyElements
    have := z1 w ts_fu (by unfold ts_fu; omega)
    simp (maxSteps := 1000000) (disch := omega) only [li0, li1, li2, li3, li4, li5, li6, li7, li8, li9, li10, li16, li17, li20, li30, li32, li48, li49, li50, li57, li60, li126, li147, nI_add, nI_sb, pk_mul, nI_m1, inrT, leT, leF, ltT, ltF, eqT, eqF, n1lt, m1lt, m1neg, m1nle, m1le, m1a1, m1a2, m1s, m1s', nI_cl, ↓tl, ↓sb, sb, sel, ser, ↓reduceIte, if_true, if_false, true_or, or_true, false_or, or_false, umS, umK, umJ, uaS, uaK, uaI, uaJ, mg30, mg31, mg32, mg33, mg34, mg35, mg36, mg37, mg38, mg39, mg40, mg41, mg42, mg43, mg44, mg45, mg46, mg47, mg48, mg49, ms30, ms31, ms32, ms33, ms34, ms35, ms36, ms37, ms38, ms39, ms40, ms41, ms42, ms43, ms44, ms45, ms46, ms47, ms48, ms49, r1, r2, ty2, this, m45, m46s, m46']
  · simp (disch := omega) only [umK]
    rw [z3 _ _ (by omega), umS]
  · by_cases e2 : s' = t
    · subst e2
      refine ⟨⟨l, x1, ?_, umS _ _ _ _⟩, ?_, ?_⟩
      · unfold pb2; rw [if_neg (by omega), uaS]
      · unfold pb2; rw [if_neg (by omega), uaJ _ _ _ _ _ (by omega), uaS, umK _ _ _ _ (by omega), umS]
      · rw [umK _ _ _ _ (by omega), umS]
        rcases (show ty = 0 ∨ ty = 1 by omega) with rfl | rfl
        · exact Or.inr (Or.inl rfl)
        · exact Or.inr (Or.inr rfl)
    · obtain ⟨⟨l', k1, k2, k3⟩, k4, k5, -⟩ := hY s' hs'
      refine ⟨⟨l', k1, ?_, ?_⟩, ?_, ?_⟩
      · unfold pb2; rw [if_neg (by omega), uaI _ _ _ _ _ e2, uaI _ _ _ _ _ e2]; exact k2
      · rw [umJ _ _ _ e2, umK _ _ _ _ (by omega), z3 _ _ (by omega), umK _ _ _ _ (by omega)]; exact k3
      · unfold pb2; rw [if_neg (by omega), uaI _ _ _ _ _ e2, uaI _ _ _ _ _ e2, umK _ _ _ _ (by omega), umJ _ _ _ e2, z3 _ _ (by omega), umK _ _ _ _ (by omega)]; exact k4
      · rw [umK _ _ _ _ (by omega), umJ _ _ _ e2, z3 _ _ (by omega), umK _ _ _ _ (by omega)]; exact k5
  · unfold pb2; simp (disch := omega) only [uaK]
  · rw [umK _ _ _ _ (by omega), umK _ _ _ _ (by omega), (z2 k (by omega) hk).1, (z2 k (by omega) hk).2, umK _ _ _ _ (by omega)]
    unfold pf2
    rw [if_neg (by omega)]
    exact ⟨rfl, rfl⟩
  · rw [umK _ _ _ _ (by omega), umK _ _ _ _ (by omega), z3 _ _ (by omega), z4 _ _ _ (by omega), umK _ _ _ _ (by omega)]
    unfold pf2
    rw [if_neg (by omega)]
    exact ⟨rfl, rfl⟩
  · rw [z4 _ _ _ (by omega)]
theorem k_copyRow (a b : Int32) {u : ts_Mem} {K : Nat} (hZ : Z u K) : ∃ u2, law1 (f_L_copyRow a b u) (f_X7_copyRow a b) = some u2 ∧ Z u2 (K + 1) := by
  obtain ⟨al, be, mu, v, p, n, nx, rfl, hS, hR, hn, hX⟩ := hZ
  obtain ⟨g1, g2, g3, g4, g5, g6, g7, g8, g9, g10⟩ := hS.1
  have hY := pX_Y hX.2.1
  rcases rg_case a 3 (by omega) with ⟨s, hs, rfl⟩ | ha
  rotate_left
  · have c1 := fun w => c_isF (x := a) w ha
    have r1 := fun w => r_isF (x := a) w ha
    refine mst_th (fl := f_L_copyRow a b) (fr := f_X7_copyRow a b) (c := 1) (x := nI 0) (al' := al) (be' := be) (mu' := um mu 30 0 (nI 1)) (fun w => ?_) (by omega) (by omega) (fun w => ?_) (umS _ _ _ _) (pS_0 _ hS) hR (by omega) (pX_f hX (fX_0 _ _) (by omega))
    · have hc : f_X6_copyRow a b (ca al (cb be w)) = some (Sum.inr "java/lang/IndexOutOfBoundsException", ca al (cb be w)) := by
        unfold f_X6_copyRow
        rw [c1, sb, if_pos (show nI 0 = 0 from rfl)]
        rfl
      unfold f_L_copyRow
      rw [hc, sb]
      simp (disch := omega) only [li0, li1, li2, li3, li4, li5, li6, li7, li8, li9, li10, li16, li17, li20, li30, li32, li48, li49, li50, li57, li60, li126, li147, nI_add, nI_sb, pk_mul, nI_m1, inrT, leT, leF, ltT, ltF, eqT, eqF, n1lt, m1lt, m1neg, m1nle, m1le, m1a1, m1a2, m1s, m1s', nI_cl, ↓tl, ↓sb, sb, sel, ser, ↓reduceIte, if_true, if_false, true_or, or_true, false_or, or_false, umS, umK, umJ, uaS, uaK, uaI, uaJ, stAA, stAS, stAI, stAE, stAU, stAM, stSA, stSS, stSI, stSE, stSU, stSM, stIA, stIS, stII, stIE, stIU, stIM, stEA, stES, stEI, stEE, stEU, stEM, stUA, stUS, stUI, stUE, stUU, stUM, stMA, stMS, stMI, stME, stMU, stMM, q_A0, q_A1, q_S0, q_S1, q_I0, q_I1, q_E0, q_E1]
    · unfold f_X7_copyRow
      simp (maxSteps := 1000000) (disch := omega) only [li0, li1, li2, li3, li4, li5, li6, li7, li8, li9, li10, li16, li17, li20, li30, li32, li48, li49, li50, li57, li60, li126, li147, nI_add, nI_sb, pk_mul, nI_m1, inrT, leT, leF, ltT, ltF, eqT, eqF, n1lt, m1lt, m1neg, m1nle, m1le, m1a1, m1a2, m1s, m1s', nI_cl, ↓tl, ↓sb, sb, sel, ser, ↓reduceIte, if_true, if_false, true_or, or_true, false_or, or_false, umS, umK, umJ, uaS, uaK, uaI, uaJ, mg30, mg31, mg32, mg33, mg34, mg35, mg36, mg37, mg38, mg39, mg40, mg41, mg42, mg43, mg44, mg45, mg46, mg47, mg48, mg49, ms30, ms31, ms32, ms33, ms34, ms35, ms36, ms37, ms38, ms39, ms40, ms41, ms42, ms43, ms44, ms45, ms46, ms47, ms48, ms49, r1]
  have c1 := fun w => c_isT (i := s) w hs
  have r1 := fun w => r_isT (i := s) w hs
  rcases rg_case b 3 (by omega) with ⟨t, ht, rfl⟩ | hb
  rotate_left
  · have c2 := fun w => c_isF (x := b) w hb
    have r2 := fun w => r_isF (x := b) w hb
    refine mst_th (fl := f_L_copyRow (nI s) b) (fr := f_X7_copyRow (nI s) b) (c := 1) (x := nI 0) (al' := al) (be' := be) (mu' := um mu 30 0 (nI 1)) (fun w => ?_) (by omega) (by omega) (fun w => ?_) (umS _ _ _ _) (pS_0 _ hS) hR (by omega) (pX_f hX (fX_0 _ _) (by omega))
    · unfold f_L_copyRow f_X6_copyRow f_X4_isUsed
      simp (maxSteps := 2000000) (disch := omega) only [li0, li1, li2, li3, li4, li5, li6, li7, li8, li9, li10, li16, li17, li20, li30, li32, li48, li49, li50, li57, li60, li126, li147, nI_add, nI_sb, pk_mul, nI_m1, inrT, leT, leF, ltT, ltF, eqT, eqF, n1lt, m1lt, m1neg, m1nle, m1le, m1a1, m1a2, m1s, m1s', nI_cl, ↓tl, ↓sb, sb, sel, ser, ↓reduceIte, if_true, if_false, true_or, or_true, false_or, or_false, umS, umK, umJ, uaS, uaK, uaI, uaJ, stAA, stAS, stAI, stAE, stAU, stAM, stSA, stSS, stSI, stSE, stSU, stSM, stIA, stIS, stII, stIE, stIU, stIM, stEA, stES, stEI, stEE, stEU, stEM, stUA, stUS, stUI, stUE, stUU, stUM, stMA, stMS, stMI, stME, stMU, stMM, q_A0, q_A1, q_S0, q_S1, q_I0, q_I1, q_E0, q_E1, xg0, xs0, xg21, xs21, xg22, xs22, xg23, xs23, xg24, xs24, xg25, xs25, xg26, xs26, xg27, xs27, xg28, xs28, xg29, xs29, bg0, bs0, bg21, bs21, bg22, bs22, bg23, bs23, bg24, bs24, bg25, bs25, bg26, bs26, bg27, bs27, bg28, bs28, bg29, bs29, c1, c2]
    · unfold f_X7_copyRow
      simp (maxSteps := 1000000) (disch := omega) only [li0, li1, li2, li3, li4, li5, li6, li7, li8, li9, li10, li16, li17, li20, li30, li32, li48, li49, li50, li57, li60, li126, li147, nI_add, nI_sb, pk_mul, nI_m1, inrT, leT, leF, ltT, ltF, eqT, eqF, n1lt, m1lt, m1neg, m1nle, m1le, m1a1, m1a2, m1s, m1s', nI_cl, ↓tl, ↓sb, sb, sel, ser, ↓reduceIte, if_true, if_false, true_or, or_true, false_or, or_false, umS, umK, umJ, uaS, uaK, uaI, uaJ, mg30, mg31, mg32, mg33, mg34, mg35, mg36, mg37, mg38, mg39, mg40, mg41, mg42, mg43, mg44, mg45, mg46, mg47, mg48, mg49, ms30, ms31, ms32, ms33, ms34, ms35, ms36, ms37, ms38, ms39, ms40, ms41, ms42, ms43, ms44, ms45, ms46, ms47, ms48, ms49, r1, r2]
  have c2 := fun w => c_isT (i := t) w ht
  have r2 := fun w => r_isT (i := t) w ht
  obtain ⟨⟨l, x1, x2, x3⟩, x4, x5, -⟩ := hY s hs
  obtain ⟨⟨m, w1, w2, w3⟩, w4, w5, -⟩ := hY t ht
  by_cases e : mu 45 s = -nI 1
  · refine mst_th (fl := f_L_copyRow (nI s) (nI t)) (fr := f_X7_copyRow (nI s) (nI t)) (c := 2) (x := nI 0) (al' := al) (be' := be) (mu' := um mu 30 0 (nI 2)) (fun w => ?_) (by omega) (by omega) (fun w => ?_) (umS _ _ _ _) (pS_0 _ hS) hR (by omega) (pX_f hX (fX_0 _ _) (by omega))
    · unfold f_L_copyRow f_X6_copyRow f_X4_isUsed
      simp (maxSteps := 2000000) (disch := omega) only [li0, li1, li2, li3, li4, li5, li6, li7, li8, li9, li10, li16, li17, li20, li30, li32, li48, li49, li50, li57, li60, li126, li147, nI_add, nI_sb, pk_mul, nI_m1, inrT, leT, leF, ltT, ltF, eqT, eqF, n1lt, m1lt, m1neg, m1nle, m1le, m1a1, m1a2, m1s, m1s', nI_cl, ↓tl, ↓sb, sb, sel, ser, ↓reduceIte, if_true, if_false, true_or, or_true, false_or, or_false, umS, umK, umJ, uaS, uaK, uaI, uaJ, stAA, stAS, stAI, stAE, stAU, stAM, stSA, stSS, stSI, stSE, stSU, stSM, stIA, stIS, stII, stIE, stIU, stIM, stEA, stES, stEI, stEE, stEU, stEM, stUA, stUS, stUI, stUE, stUU, stUM, stMA, stMS, stMI, stME, stMU, stMM, q_A0, q_A1, q_S0, q_S1, q_I0, q_I1, q_E0, q_E1, xg0, xs0, xg21, xs21, xg22, xs22, xg23, xs23, xg24, xs24, xg25, xs25, xg26, xs26, xg27, xs27, xg28, xs28, xg29, xs29, bg0, bs0, bg21, bs21, bg22, bs22, bg23, bs23, bg24, bs24, bg25, bs25, bg26, bs26, bg27, bs27, bg28, bs28, bg29, bs29, c1, c2, x4, e]
    · unfold f_X7_copyRow
      simp (maxSteps := 1000000) (disch := omega) only [li0, li1, li2, li3, li4, li5, li6, li7, li8, li9, li10, li16, li17, li20, li30, li32, li48, li49, li50, li57, li60, li126, li147, nI_add, nI_sb, pk_mul, nI_m1, inrT, leT, leF, ltT, ltF, eqT, eqF, n1lt, m1lt, m1neg, m1nle, m1le, m1a1, m1a2, m1s, m1s', nI_cl, ↓tl, ↓sb, sb, sel, ser, ↓reduceIte, if_true, if_false, true_or, or_true, false_or, or_false, umS, umK, umJ, uaS, uaK, uaI, uaJ, mg30, mg31, mg32, mg33, mg34, mg35, mg36, mg37, mg38, mg39, mg40, mg41, mg42, mg43, mg44, mg45, mg46, mg47, mg48, mg49, ms30, ms31, ms32, ms33, ms34, ms35, ms36, ms37, ms38, ms39, ms40, ms41, ms42, ms43, ms44, ms45, ms46, ms47, ms48, ms49, r1, r2, e]
  obtain ⟨ty, ty1, ty2⟩ : ∃ ty, ty ≤ 1 ∧ mu 45 s = nI ty := by
    rcases x5 with h | h | h
    · exact absurd h e
    · exact ⟨0, by omega, h⟩
    · exact ⟨1, by omega, h⟩
  by_cases e' : mu 45 t = -nI 1
  · refine mst_th (fl := f_L_copyRow (nI s) (nI t)) (fr := f_X7_copyRow (nI s) (nI t)) (c := 2) (x := nI 0) (al' := al) (be' := be) (mu' := um mu 30 0 (nI 2)) (fun w => ?_) (by omega) (by omega) (fun w => ?_) (umS _ _ _ _) (pS_0 _ hS) hR (by omega) (pX_f hX (fX_0 _ _) (by omega))
    · unfold f_L_copyRow f_X6_copyRow f_X4_isUsed
      simp (maxSteps := 2000000) (disch := omega) only [li0, li1, li2, li3, li4, li5, li6, li7, li8, li9, li10, li16, li17, li20, li30, li32, li48, li49, li50, li57, li60, li126, li147, nI_add, nI_sb, pk_mul, nI_m1, inrT, leT, leF, ltT, ltF, eqT, eqF, n1lt, m1lt, m1neg, m1nle, m1le, m1a1, m1a2, m1s, m1s', nI_cl, ↓tl, ↓sb, sb, sel, ser, ↓reduceIte, if_true, if_false, true_or, or_true, false_or, or_false, umS, umK, umJ, uaS, uaK, uaI, uaJ, stAA, stAS, stAI, stAE, stAU, stAM, stSA, stSS, stSI, stSE, stSU, stSM, stIA, stIS, stII, stIE, stIU, stIM, stEA, stES, stEI, stEE, stEU, stEM, stUA, stUS, stUI, stUE, stUU, stUM, stMA, stMS, stMI, stME, stMU, stMM, q_A0, q_A1, q_S0, q_S1, q_I0, q_I1, q_E0, q_E1, xg0, xs0, xg21, xs21, xg22, xs22, xg23, xs23, xg24, xs24, xg25, xs25, xg26, xs26, xg27, xs27, xg28, xs28, xg29, xs29, bg0, bs0, bg21, bs21, bg22, bs22, bg23, bs23, bg24, bs24, bg25, bs25, bg26, bs26, bg27, bs27, bg28, bs28, bg29, bs29, c1, c2, x4, ty2, w4, e']
    · unfold f_X7_copyRow
      simp (maxSteps := 1000000) (disch := omega) only [li0, li1, li2, li3, li4, li5, li6, li7, li8, li9, li10, li16, li17, li20, li30, li32, li48, li49, li50, li57, li60, li126, li147, nI_add, nI_sb, pk_mul, nI_m1, inrT, leT, leF, ltT, ltF, eqT, eqF, n1lt, m1lt, m1neg, m1nle, m1le, m1a1, m1a2, m1s, m1s', nI_cl, ↓tl, ↓sb, sb, sel, ser, ↓reduceIte, if_true, if_false, true_or, or_true, false_or, or_false, umS, umK, umJ, uaS, uaK, uaI, uaJ, mg30, mg31, mg32, mg33, mg34, mg35, mg36, mg37, mg38, mg39, mg40, mg41, mg42, mg43, mg44, mg45, mg46, mg47, mg48, mg49, ms30, ms31, ms32, ms33, ms34, ms35, ms36, ms37, ms38, ms39, ms40, ms41, ms42, ms43, ms44, ms45, ms46, ms47, ms48, ms49, r1, r2, ty2, e']
  obtain ⟨tz, tz1, tz2⟩ : ∃ tz, tz ≤ 1 ∧ mu 45 t = nI tz := by
    rcases w5 with h | h | h
    · exact absurd h e'
    · exact ⟨0, by omega, h⟩
    · exact ⟨1, by omega, h⟩
  by_cases e3 : ty = tz
  rotate_left
  · refine mst_th (fl := f_L_copyRow (nI s) (nI t)) (fr := f_X7_copyRow (nI s) (nI t)) (c := 3) (x := nI 0) (al' := al) (be' := be) (mu' := um mu 30 0 (nI 3)) (fun w => ?_) (by omega) (by omega) (fun w => ?_) (umS _ _ _ _) (pS_0 _ hS) hR (by omega) (pX_f hX (fX_0 _ _) (by omega))
    · unfold f_L_copyRow f_X6_copyRow f_X4_isUsed
      simp (maxSteps := 2000000) (disch := omega) only [li0, li1, li2, li3, li4, li5, li6, li7, li8, li9, li10, li16, li17, li20, li30, li32, li48, li49, li50, li57, li60, li126, li147, nI_add, nI_sb, pk_mul, nI_m1, inrT, leT, leF, ltT, ltF, eqT, eqF, n1lt, m1lt, m1neg, m1nle, m1le, m1a1, m1a2, m1s, m1s', nI_cl, ↓tl, ↓sb, sb, sel, ser, ↓reduceIte, if_true, if_false, true_or, or_true, false_or, or_false, umS, umK, umJ, uaS, uaK, uaI, uaJ, stAA, stAS, stAI, stAE, stAU, stAM, stSA, stSS, stSI, stSE, stSU, stSM, stIA, stIS, stII, stIE, stIU, stIM, stEA, stES, stEI, stEE, stEU, stEM, stUA, stUS, stUI, stUE, stUU, stUM, stMA, stMS, stMI, stME, stMU, stMM, q_A0, q_A1, q_S0, q_S1, q_I0, q_I1, q_E0, q_E1, xg0, xs0, xg21, xs21, xg22, xs22, xg23, xs23, xg24, xs24, xg25, xs25, xg26, xs26, xg27, xs27, xg28, xs28, xg29, xs29, bg0, bs0, bg21, bs21, bg22, bs22, bg23, bs23, bg24, bs24, bg25, bs25, bg26, bs26, bg27, bs27, bg28, bs28, bg29, bs29, c1, c2, x4, ty2, w4, tz2]
    · unfold f_X7_copyRow
      simp (maxSteps := 1000000) (disch := omega) only [li0, li1, li2, li3, li4, li5, li6, li7, li8, li9, li10, li16, li17, li20, li30, li32, li48, li49, li50, li57, li60, li126, li147, nI_add, nI_sb, pk_mul, nI_m1, inrT, leT, leF, ltT, ltF, eqT, eqF, n1lt, m1lt, m1neg, m1nle, m1le, m1a1, m1a2, m1s, m1s', nI_cl, ↓tl, ↓sb, sb, sel, ser, ↓reduceIte, if_true, if_false, true_or, or_true, false_or, or_false, umS, umK, umJ, uaS, uaK, uaI, uaJ, mg30, mg31, mg32, mg33, mg34, mg35, mg36, mg37, mg38, mg39, mg40, mg41, mg42, mg43, mg44, mg45, mg46, mg47, mg48, mg49, ms30, ms31, ms32, ms33, ms34, ms35, ms36, ms37, ms38, ms39, ms40, ms41, ms42, ms43, ms44, ms45, ms46, ms47, ms48, ms49, r1, r2, ty2, tz2]
  by_cases e4 : l ≤ m
  rotate_left
  · refine mst_th (fl := f_L_copyRow (nI s) (nI t)) (fr := f_X7_copyRow (nI s) (nI t)) (c := 4) (x := nI 0) (al' := al) (be' := be) (mu' := um mu 30 0 (nI 4)) (fun w => ?_) (by omega) (by omega) (fun w => ?_) (umS _ _ _ _) (pS_0 _ hS) hR (by omega) (pX_f hX (fX_0 _ _) (by omega))
    · unfold f_L_copyRow f_X6_copyRow f_X4_isUsed
      simp (maxSteps := 2000000) (disch := omega) only [li0, li1, li2, li3, li4, li5, li6, li7, li8, li9, li10, li16, li17, li20, li30, li32, li48, li49, li50, li57, li60, li126, li147, nI_add, nI_sb, pk_mul, nI_m1, inrT, leT, leF, ltT, ltF, eqT, eqF, n1lt, m1lt, m1neg, m1nle, m1le, m1a1, m1a2, m1s, m1s', nI_cl, ↓tl, ↓sb, sb, sel, ser, ↓reduceIte, if_true, if_false, true_or, or_true, false_or, or_false, umS, umK, umJ, uaS, uaK, uaI, uaJ, stAA, stAS, stAI, stAE, stAU, stAM, stSA, stSS, stSI, stSE, stSU, stSM, stIA, stIS, stII, stIE, stIU, stIM, stEA, stES, stEI, stEE, stEU, stEM, stUA, stUS, stUI, stUE, stUU, stUM, stMA, stMS, stMI, stME, stMU, stMM, q_A0, q_A1, q_S0, q_S1, q_I0, q_I1, q_E0, q_E1, xg0, xs0, xg21, xs21, xg22, xs22, xg23, xs23, xg24, xs24, xg25, xs25, xg26, xs26, xg27, xs27, xg28, xs28, xg29, xs29, bg0, bs0, bg21, bs21, bg22, bs22, bg23, bs23, bg24, bs24, bg25, bs25, bg26, bs26, bg27, bs27, bg28, bs28, bg29, bs29, c1, c2, x4, ty2, w4, tz2, x2, w2]
    · unfold f_X7_copyRow
      simp (maxSteps := 1000000) (disch := omega) only [li0, li1, li2, li3, li4, li5, li6, li7, li8, li9, li10, li16, li17, li20, li30, li32, li48, li49, li50, li57, li60, li126, li147, nI_add, nI_sb, pk_mul, nI_m1, inrT, leT, leF, ltT, ltF, eqT, eqF, n1lt, m1lt, m1neg, m1nle, m1le, m1a1, m1a2, m1s, m1s', nI_cl, ↓tl, ↓sb, sb, sel, ser, ↓reduceIte, if_true, if_false, true_or, or_true, false_or, or_false, umS, umK, umJ, uaS, uaK, uaI, uaJ, mg30, mg31, mg32, mg33, mg34, mg35, mg36, mg37, mg38, mg39, mg40, mg41, mg42, mg43, mg44, mg45, mg46, mg47, mg48, mg49, ms30, ms31, ms32, ms33, ms34, ms35, ms36, ms37, ms38, ms39, ms40, ms41, ms42, ms43, ms44, ms45, ms46, ms47, ms48, ms49, r1, r2, ty2, tz2, x3, w3]
  have te := fun w => c_te (al := al) (be := be) (fo := fun k i j => ts_gF v (k, 0, i) j) (s := s) (t := t) w x2 x1
  obtain ⟨mu1, f2, z1, z2, z3, z4⟩ := ce_loop hs ht x1 l 0 (um mu 30 0 (nI 0)) (pf2 (fun k i j => ts_gF v (k, 0, i) j) 28 s t l) (by omega) (by rw [umK _ _ _ _ (by omega)]; exact x3)
  have m46s : mu1 46 s = nI l := by rw [z3 _ _ (by omega), umK _ _ _ _ (by omega)]; exact x3
  have hpb : pb2 be 29 s t l 27 s 1 = nI l := by
    unfold pb2; rw [if_neg (by omega)]; exact x2
  have hfm : fM mu mu1 := fun a j q1 q2 => by
    rw [z3 a j (by omega)]; unfold um; rw [if_neg (by omega)]
  have hfb : fB be (pb2 be 29 s t l) := fun a b j q => by
    simp only [pb2]; rw [if_neg (by omega)]
  refine msF_ok (fl := f_L_copyRow (nI s) (nI t)) (fr := f_X7_copyRow (nI s) (nI t)) (be' := pb2 be 29 s t l) (mu' := mu1) (f1 := pf2 (fun k i j => ts_gF v (k, 0, i) j) 28 s t l) (f2 := f2) (r := nI l) (fun w => ?_) (fun w => ?_) ?_ (pS_y hS hfm) hR (show nx ≤ K + 1 by omega) (pX_y hX hfb hfm (pY_cp hs ht x1 hY (fun s' hs' => ?_) (fun b k => rfl) (fun k hk => ?_) (fun x hx => ?_) (fun b k => ?_)) (by omega))
  · unfold f_L_copyRow f_X6_copyRow f_X4_isUsed
    simp (maxSteps := 2000000) (disch := omega) only [li0, li1, li2, li3, li4, li5, li6, li7, li8, li9, li10, li16, li17, li20, li30, li32, li48, li49, li50, li57, li60, li126, li147, nI_add, nI_sb, pk_mul, nI_m1, inrT, leT, leF, ltT, ltF, eqT, eqF, n1lt, m1lt, m1neg, m1nle, m1le, m1a1, m1a2, m1s, m1s', nI_cl, ↓tl, ↓sb, sb, sel, ser, ↓reduceIte, if_true, if_false, true_or, or_true, false_or, or_false, umS, umK, umJ, uaS, uaK, uaI, uaJ, stAA, stAS, stAI, stAE, stAU, stAM, stSA, stSS, stSI, stSE, stSU, stSM, stIA, stIS, stII, stIE, stIU, stIM, stEA, stES, stEI, stEE, stEU, stEM, stUA, stUS, stUI, stUE, stUU, stUM, stMA, stMS, stMI, stME, stMU, stMM, q_A0, q_A1, q_S0, q_S1, q_I0, q_I1, q_E0, q_E1, xg0, xs0, xg21, xs21, xg22, xs22, xg23, xs23, xg24, xs24, xg25, xs25, xg26, xs26, xg27, xs27, xg28, xs28, xg29, xs29, bg0, bs0, bg21, bs21, bg22, bs22, bg23, bs23, bg24, bs24, bg25, bs25, bg26, bs26, bg27, bs27, bg28, bs28, bg29, bs29, c1, c2, x4, ty2, w4, tz2, x2, w2, te, hpb]
  · unfold f_X7_copyRow f_X7_copyElements
    have := z1 w ts_fu (by unfold ts_fu; omega)
    simp (maxSteps := 1000000) (disch := omega) only [li0, li1, li2, li3, li4, li5, li6, li7, li8, li9, li10, li16, li17, li20, li30, li32, li48, li49, li50, li57, li60, li126, li147, nI_add, nI_sb, pk_mul, nI_m1, inrT, leT, leF, ltT, ltF, eqT, eqF, n1lt, m1lt, m1neg, m1nle, m1le, m1a1, m1a2, m1s, m1s', nI_cl, ↓tl, ↓sb, sb, sel, ser, ↓reduceIte, if_true, if_false, true_or, or_true, false_or, or_false, umS, umK, umJ, uaS, uaK, uaI, uaJ, mg30, mg31, mg32, mg33, mg34, mg35, mg36, mg37, mg38, mg39, mg40, mg41, mg42, mg43, mg44, mg45, mg46, mg47, mg48, mg49, ms30, ms31, ms32, ms33, ms34, ms35, ms36, ms37, ms38, ms39, ms40, ms41, ms42, ms43, ms44, ms45, ms46, ms47, ms48, ms49, r1, r2, ty2, tz2, x3, w3, this, m46s]
  · rw [z3 _ _ (by omega), umS]
  · obtain ⟨⟨l', k1, k2, k3⟩, k4, k5, -⟩ := hY s' hs'
    refine ⟨⟨l', k1, ?_, ?_⟩, ?_, ?_⟩
    · unfold pb2; rw [if_neg (by omega)]; exact k2
    · rw [z3 _ _ (by omega), umK _ _ _ _ (by omega)]; exact k3
    · unfold pb2; rw [if_neg (by omega), z3 _ _ (by omega), umK _ _ _ _ (by omega)]; exact k4
    · rw [z3 _ _ (by omega), umK _ _ _ _ (by omega)]; exact k5
  · rw [(z2 k (by omega) hk).1, (z2 k (by omega) hk).2, umK _ _ _ _ (by omega)]
    unfold pf2
    rw [if_neg (by omega)]
    exact ⟨rfl, rfl⟩
  · rw [z3 _ _ (by omega), z4 _ _ _ (by omega), umK _ _ _ _ (by omega)]
    unfold pf2
    rw [if_neg (by omega)]
    exact ⟨rfl, rfl⟩
  · rw [z4 _ _ _ (by omega)]
