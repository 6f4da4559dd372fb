/-! calls: abortShare, export, divide -/
theorem gD_s (v : ts_Mem) (x : UInt64) : ts_gD (ts_sD v (51, 0, 0) 0 x) (51, 0, 0) 0 = x := by
  simp [ts_gD, ts_sD]
theorem k_abortShare {u : ts_Mem} {K : Nat} (hZ : Z u K) : ∃ u2, (f_L_abortShare u).bind (fun q1 => (f_X7_abortShare q1.2).bind (fun q2 => (f_X7_thrown q2.2).bind (fun q3 => if q3 = q1.1 then (if q1.1 = 0 then (if (Op.cmpValue (FP.dcmp (ts_gD q2.2 (51, 0, 0) 0) q2.1) .l) = 0 then (some q2.2) else (if (Op.cmpValue (FP.dcmp (ts_gD q2.2 (51, 0, 0) 0) (ts_gD q2.2 (51, 0, 0) 0)) .l) = 0 then (none) else (if (Op.cmpValue (FP.dcmp q2.1 q2.1) .l) = 0 then (none) else (some q2.2)))) else (some q2.2)) else (none)))) = some u2 ∧ Z u2 (K + 1) := by
  obtain ⟨al, be, mu, v, p, n, nx, rfl, hS, hR, hn, hX⟩ := hZ
  obtain ⟨g1, g2, g3, g4, g5, g6, g7, g8, g9, g10⟩ := hS.1
  have hY := pX_Y hX.2.1
  obtain ⟨eo, ec, e1, e2, e3, e4, e5, e6, e7⟩ := hS.2.2.2.2.2
  have s6 := e7 6 (by omega)
  have s7 := e7 7 (by omega)
  by_cases e : nx = 1
  · subst e
    refine ⟨ca al (cb be (ma (um (um mu 30 0 (nI 0)) 30 0 (nI 1)) v)), ?_, al, be, _, v, p, n, 1, rfl, pS_0 _ (pS_0 _ hS), hR, by omega, pX_f (pX_f hX (fX_0 _ _) (Nat.le_refl _)) (fX_0 _ _) (by omega)⟩
    have hl : f_L_abortShare (ca al (cb be (ma mu v))) = some (nI 1, ca al (cb be (ma mu v))) := by
      unfold f_L_abortShare f_X6_abortShare
      simp (disch := omega) only [li0, li1, li2, li3, li4, li5, li6, li7, li8, li9, li10, li16, li17, li20, li30, li32, li48, li49, li50, li57, li60, li126, li147, nI_add, nI_sb, pk_mul, nI_m1, inrT, leT, leF, ltT, ltF, eqT, eqF, n1lt, m1lt, m1neg, m1nle, m1le, m1a1, m1a2, m1s, m1s', nI_cl, ↓tl, ↓sb, sb, sel, ser, ↓reduceIte, if_true, if_false, true_or, or_true, false_or, or_false, umS, umK, umJ, uaS, uaK, uaI, uaJ, cg1, cg2, cg3, cg4, cg5, cg6, cg7, cg8, cg9, cg10, cg11, cg12, cg13, cg14, cg15, cg16, cg17, cg18, cg19, cg20, cs1, cs2, cs3, cs4, cs5, cs6, cs7, cs8, cs9, cs10, cs11, cs12, cs13, cs14, cs15, cs16, cs17, cs18, cs19, cs20, cc17, cc18, cc19, cc20, stAA, stAS, stAI, stAE, stAU, stAM, stSA, stSS, stSI, stSE, stSU, stSM, stIA, stIS, stII, stIE, stIU, stIM, stEA, stES, stEI, stEE, stEU, stEM, stUA, stUS, stUI, stUE, stUU, stUM, stMA, stMS, stMI, stME, stMU, stMM, q_A0, q_A1, q_S0, q_S1, q_I0, q_I1, q_E0, q_E1, g4]
    have hr : ∀ w, f_X7_abortShare (ma mu w) = some (FP.i2d (nI 0), ma (um (um mu 30 0 (nI 0)) 30 0 (nI 1)) w) := fun w => by
      unfold f_X7_abortShare
      simp (disch := omega) only [li0, li1, li2, li3, li4, li5, li6, li7, li8, li9, li10, li16, li17, li20, li30, li32, li48, li49, li50, li57, li60, li126, li147, nI_add, nI_sb, pk_mul, nI_m1, inrT, leT, leF, ltT, ltF, eqT, eqF, n1lt, m1lt, m1neg, m1nle, m1le, m1a1, m1a2, m1s, m1s', nI_cl, ↓tl, ↓sb, sb, sel, ser, ↓reduceIte, if_true, if_false, true_or, or_true, false_or, or_false, umS, umK, umJ, uaS, uaK, uaI, uaJ, mg30, mg31, mg32, mg33, mg34, mg35, mg36, mg37, mg38, mg39, mg40, mg41, mg42, mg43, mg44, mg45, mg46, mg47, mg48, mg49, ms30, ms31, ms32, ms33, ms34, ms35, ms36, ms37, ms38, ms39, ms40, ms41, ms42, ms43, ms44, ms45, ms46, ms47, ms48, ms49, g5, r_fl]
    rw [hl, sb]
    dsimp only
    rw [mm, hr, sb]
    unfold f_X7_thrown
    simp (disch := omega) only [li0, li1, li2, li3, li4, li5, li6, li7, li8, li9, li10, li16, li17, li20, li30, li32, li48, li49, li50, li57, li60, li126, li147, nI_add, nI_sb, pk_mul, nI_m1, inrT, leT, leF, ltT, ltF, eqT, eqF, n1lt, m1lt, m1neg, m1nle, m1le, m1a1, m1a2, m1s, m1s', nI_cl, ↓tl, ↓sb, sb, sel, ser, ↓reduceIte, if_true, if_false, true_or, or_true, false_or, or_false, umS, umK, umJ, uaS, uaK, uaI, uaJ, mg30, mg31, mg32, mg33, mg34, mg35, mg36, mg37, mg38, mg39, mg40, mg41, mg42, mg43, mg44, mg45, mg46, mg47, mg48, mg49, ms30, ms31, ms32, ms33, ms34, ms35, ms36, ms37, ms38, ms39, ms40, ms41, ms42, ms43, ms44, ms45, ms46, ms47, ms48, ms49, mm]
  · have hd : ¬ nI (nx - 1) = 0 := fun q => absurd ((nI_eq (b := 0) (by omega) (by omega)).mp q) (by omega)
    have hD := nn_ddiv (x := al 10 0 6 + al 10 0 7) hd
    have hN := eq_true (n64_of hD)
    have hC := dc_refl hD
    revert hD hN hC
    generalize hE : FP.ddiv (FP.i2d (al 10 0 6 + al 10 0 7)) (FP.i2d (nI (nx - 1))) = D
    intro hD hN hC
    refine ⟨ca al (cb be (ma (um mu 30 0 (nI 0)) (ts_sD v (51, 0, 0) 0 D))), ?_, al, be, _, ts_sD v (51, 0, 0) 0 D, p, n, nx, rfl, pS_0 _ hS, hR, by omega, pX_f (v := ts_sD v (51, 0, 0) 0 D) (K := K) hX (fX_0 _ _) (by omega)⟩
    have hl : f_L_abortShare (ca al (cb be (ma mu v))) = some (nI 0, ts_sD (ca al (cb be (ma mu v))) (51, 0, 0) 0 D) := by
      unfold f_L_abortShare f_X6_abortShare
      simp (disch := omega) only [li0, li1, li2, li3, li4, li5, li6, li7, li8, li9, li10, li16, li17, li20, li30, li32, li48, li49, li50, li57, li60, li126, li147, nI_add, nI_sb, pk_mul, nI_m1, inrT, leT, leF, ltT, ltF, eqT, eqF, n1lt, m1lt, m1neg, m1nle, m1le, m1a1, m1a2, m1s, m1s', nI_cl, ↓tl, ↓sb, sb, sel, ser, ↓reduceIte, if_true, if_false, true_or, or_true, false_or, or_false, umS, umK, umJ, uaS, uaK, uaI, uaJ, cg1, cg2, cg3, cg4, cg5, cg6, cg7, cg8, cg9, cg10, cg11, cg12, cg13, cg14, cg15, cg16, cg17, cg18, cg19, cg20, cs1, cs2, cs3, cs4, cs5, cs6, cs7, cs8, cs9, cs10, cs11, cs12, cs13, cs14, cs15, cs16, cs17, cs18, cs19, cs20, cc17, cc18, cc19, cc20, stAA, stAS, stAI, stAE, stAU, stAM, stSA, stSS, stSI, stSE, stSU, stSM, stIA, stIS, stII, stIE, stIU, stIM, stEA, stES, stEI, stEE, stEU, stEM, stUA, stUS, stUI, stUE, stUU, stUM, stMA, stMS, stMI, stME, stMU, stMM, q_A0, q_A1, q_S0, q_S1, q_I0, q_I1, q_E0, q_E1, g4, hE, hN]
    have hr : ∀ w, f_X7_abortShare (ma mu w) = some (D, ma (um mu 30 0 (nI 0)) w) := fun w => by
      unfold f_X7_abortShare
      simp (disch := omega) only [li0, li1, li2, li3, li4, li5, li6, li7, li8, li9, li10, li16, li17, li20, li30, li32, li48, li49, li50, li57, li60, li126, li147, nI_add, nI_sb, pk_mul, nI_m1, inrT, leT, leF, ltT, ltF, eqT, eqF, n1lt, m1lt, m1neg, m1nle, m1le, m1a1, m1a2, m1s, m1s', nI_cl, ↓tl, ↓sb, sb, sel, ser, ↓reduceIte, if_true, if_false, true_or, or_true, false_or, or_false, umS, umK, umJ, uaS, uaK, uaI, uaJ, mg30, mg31, mg32, mg33, mg34, mg35, mg36, mg37, mg38, mg39, mg40, mg41, mg42, mg43, mg44, mg45, mg46, mg47, mg48, mg49, ms30, ms31, ms32, ms33, ms34, ms35, ms36, ms37, ms38, ms39, ms40, ms41, ms42, ms43, ms44, ms45, ms46, ms47, ms48, ms49, g5, s6, s7, hE, hN]
    rw [hl, sb]
    dsimp only
    rw [ca_D, cb_D, ma_D, mm, hr, sb]
    unfold f_X7_thrown
    simp (disch := omega) only [li0, li1, li2, li3, li4, li5, li6, li7, li8, li9, li10, li16, li17, li20, li30, li32, li48, li49, li50, li57, li60, li126, li147, nI_add, nI_sb, pk_mul, nI_m1, inrT, leT, leF, ltT, ltF, eqT, eqF, n1lt, m1lt, m1neg, m1nle, m1le, m1a1, m1a2, m1s, m1s', nI_cl, ↓tl, ↓sb, sb, sel, ser, ↓reduceIte, if_true, if_false, true_or, or_true, false_or, or_false, umS, umK, umJ, uaS, uaK, uaI, uaJ, mg30, mg31, mg32, mg33, mg34, mg35, mg36, mg37, mg38, mg39, mg40, mg41, mg42, mg43, mg44, mg45, mg46, mg47, mg48, mg49, ms30, ms31, ms32, ms33, ms34, ms35, ms36, ms37, ms38, ms39, ms40, ms41, ms42, ms43, ms44, ms45, ms46, ms47, ms48, ms49, ma_gD, ca_gD, cb_gD, gD_s, hC, mm]
def lawD (a : Option (Int32 × ts_Mem)) (m : ts_Mem → Option (UInt32 × ts_Mem)) : Option ts_Mem := a.bind (fun q4 => (m q4.2).bind (fun q8 => (f_X7_thrown q8.2).bind (fun q9 => if q9 = q4.1 then (if q4.1 = 0 then (if ts_n64 (FP.f2d q8.1) then if (Op.cmpValue (FP.dcmp (ts_gD q8.2 (51, 0, 0) 0) (FP.f2d q8.1)) .l) = 0 then (some q8.2) else (if (Op.cmpValue (FP.dcmp (ts_gD q8.2 (51, 0, 0) 0) (ts_gD q8.2 (51, 0, 0) 0)) .l) = 0 then (none) else (if (Op.cmpValue (FP.fcmp q8.1 q8.1) .l) = 0 then (none) else (some q8.2))) else none) else (some q8.2)) else (none))))
theorem msD_th {al be : pu_A} {mu mu' : pu_M} {v : ts_Mem} {p n nx K c : Nat} {x : UInt32} {fl : ts_Mem → Option (Int32 × ts_Mem)} {fr : ts_Mem → Option (UInt32 × ts_Mem)} (h1 : ∀ w, fl (ca al (cb be w)) = some (nI c, ca al (cb be w))) (hc : 1 ≤ c) (hc2 : c ≤ 9) (h2 : ∀ w, fr (ma mu w) = some (x, ma mu' w)) (h0 : mu' 30 0 = nI c) (hS : pS al mu' p n nx) (hR : pR al n) (hn : nx ≤ K) (hX : pX be mu' v K) : ∃ u2, lawD (fl (ca al (cb be (ma mu v)))) fr = some u2 ∧ Z u2 K := by
  refine ⟨ca al (cb be (ma mu' v)), ?_, al, be, mu', v, p, n, nx, rfl, hS, hR, hn, hX⟩
  unfold lawD f_X7_thrown
  rw [h1, sb]
  dsimp only
  rw [mm, h2, sb]
  dsimp only
  have hne : ¬ nI c = (0 : Int32) := fun q => absurd ((nI_eq (b := 0) (by omega) (by omega)).mp q) (by omega)
  rw [sb, mg30, h0, if_pos rfl, if_neg hne, mm]
theorem msD_ok {al be be' : pu_A} {mu mu' : pu_M} {f1 f2 : pu_F} {v : ts_Mem} {p n nx K : Nat} {r : UInt32} {fl : ts_Mem → Option (Int32 × ts_Mem)} {fr : ts_Mem → Option (UInt32 × ts_Mem)} (h1 : ∀ w, fl (ca al (cb be (cf (fun k i j => ts_gF v (k, 0, i) j) w))) = some (nI 0, ts_sD (ca al (cb be' (cf f1 w))) (51, 0, 0) 0 (FP.f2d r))) (h2 : ∀ w, fr (ma mu (cf f1 w)) = some (r, ma mu' (cf f2 w))) (hr : FP.fIsNaN r = false) (h0 : mu' 30 0 = nI 0) (hS : pS al mu' p n nx) (hR : pR al n) (hn : nx ≤ K) (hX : pX be' mu' (cf f2 v) K) : ∃ u2, lawD (fl (ca al (cb be (ma mu v)))) fr = some u2 ∧ Z u2 K := by
  have hD := nn_f2d hr
  refine ⟨ca al (cb be' (ma mu' (cf f2 (ts_sD v (51, 0, 0) 0 (FP.f2d r))))), ?_, al, be', mu', cf f2 (ts_sD v (51, 0, 0) 0 (FP.f2d r)), p, n, nx, rfl, hS, hR, hn, hX⟩
  have e1 : fl (ca al (cb be (ma mu v))) = some (nI 0, ts_sD (ca al (cb be' (cf f1 (ma mu v)))) (51, 0, 0) 0 (FP.f2d r)) := by rw [← h1 (ma mu v), ← ma_cf, cf_self]
  have e2 : fr (ts_sD (ca al (cb be' (cf f1 (ma mu v)))) (51, 0, 0) 0 (FP.f2d r)) = some (r, ma mu' (cf f2 (ca al (cb be' (ts_sD v (51, 0, 0) 0 (FP.f2d r)))))) := by
    rw [ca_D, cb_D, cf_D, ma_D, ← ma_cf, mm, cb_cf, ca_cf, h2]
  have e3 : ts_gD (ma mu' (cf f2 (ca al (cb be' (ts_sD v (51, 0, 0) 0 (FP.f2d r)))))) (51, 0, 0) 0 = FP.f2d r := gD_s v (FP.f2d r)
  have e4 : ma mu' (cf f2 (ca al (cb be' (ts_sD v (51, 0, 0) 0 (FP.f2d r))))) = ca al (cb be' (ma mu' (cf f2 (ts_sD v (51, 0, 0) 0 (FP.f2d r))))) := by rw [mm]; rfl
  unfold lawD f_X7_thrown
  rw [e1, sb]
  dsimp only
  rw [e2, sb]
  dsimp only
  rw [sb, mg30, h0, if_pos rfl, e3, dc_refl hD, ← e4]
  exact (if_pos rfl).trans ((if_pos (n64_of hD)).trans (if_pos rfl))
-- divide
theorem k_divide (a b c : Int32) {u : ts_Mem} {K : Nat} (hZ : Z u K) : ∃ u2, lawD (f_L_divide a b c u) (f_X7_divide a b c) = some u2 ∧ Z u2 (K + 1) := by
  obtain ⟨al, be, mu, v, p, n, nx, rfl, hS, hR, hn, hX⟩ := hZ
  obtain ⟨g1, g2, g3, g4, g5, g6, g7, g8, g9, g10⟩ := hS.1
  have hY := pX_Y hX.2.1
  rcases rg_case a 3 (by omega) with ⟨s, hs, rfl⟩ | ha
  rotate_left
  · have c1 := fun w => c_isF (x := a) w ha
    have r1 := fun w => r_isF (x := a) w ha
    refine msD_th (fl := f_L_divide a b c) (fr := f_X7_divide a b c) (c := 1) (x := 0) (mu' := um mu 30 0 (nI 1)) (fun w => ?_) (by omega) (by omega) (fun w => ?_) (umS _ _ _ _) (pS_0 _ hS) hR (by omega) (pX_f hX (fX_0 _ _) (by omega))
    · unfold f_L_divide f_X6_divide
      simp (maxSteps := 1000000) (disch := omega) only [li0, li1, li2, li3, li4, li5, li6, li7, li8, li9, li10, li16, li17, li20, li30, li32, li48, li49, li50, li57, li60, li126, li147, nI_add, nI_sb, pk_mul, nI_m1, inrT, leT, leF, ltT, ltF, eqT, eqF, n1lt, m1lt, m1neg, m1nle, m1le, m1a1, m1a2, m1s, m1s', nI_cl, ↓tl, ↓sb, sb, sel, ser, ↓reduceIte, if_true, if_false, true_or, or_true, false_or, or_false, umS, umK, umJ, uaS, uaK, uaI, uaJ, stAA, stAS, stAI, stAE, stAU, stAM, stSA, stSS, stSI, stSE, stSU, stSM, stIA, stIS, stII, stIE, stIU, stIM, stEA, stES, stEI, stEE, stEU, stEM, stUA, stUS, stUI, stUE, stUU, stUM, stMA, stMS, stMI, stME, stMU, stMM, q_A0, q_A1, q_S0, q_S1, q_I0, q_I1, q_E0, q_E1, xg0, xs0, xg21, xs21, xg22, xs22, xg23, xs23, xg24, xs24, xg25, xs25, xg26, xs26, xg27, xs27, xg28, xs28, xg29, xs29, bg0, bs0, bg21, bs21, bg22, bs22, bg23, bs23, bg24, bs24, bg25, bs25, bg26, bs26, bg27, bs27, bg28, bs28, bg29, bs29, c1]
    · unfold f_X7_divide
      simp (maxSteps := 1000000) (disch := omega) only [li0, li1, li2, li3, li4, li5, li6, li7, li8, li9, li10, li16, li17, li20, li30, li32, li48, li49, li50, li57, li60, li126, li147, nI_add, nI_sb, pk_mul, nI_m1, inrT, leT, leF, ltT, ltF, eqT, eqF, n1lt, m1lt, m1neg, m1nle, m1le, m1a1, m1a2, m1s, m1s', nI_cl, ↓tl, ↓sb, sb, sel, ser, ↓reduceIte, if_true, if_false, true_or, or_true, false_or, or_false, umS, umK, umJ, uaS, uaK, uaI, uaJ, mg30, mg31, mg32, mg33, mg34, mg35, mg36, mg37, mg38, mg39, mg40, mg41, mg42, mg43, mg44, mg45, mg46, mg47, mg48, mg49, ms30, ms31, ms32, ms33, ms34, ms35, ms36, ms37, ms38, ms39, ms40, ms41, ms42, ms43, ms44, ms45, ms46, ms47, ms48, ms49, r1]
  have c1 := fun w => c_isT (i := s) w hs
  have r1 := fun w => r_isT (i := s) w hs
  obtain ⟨⟨l, x1, x2, x3⟩, x4, x5, x6⟩ := id (hY s hs)
  by_cases e : mu 45 s = -nI 1
  · refine msD_th (fl := f_L_divide (nI s) b c) (fr := f_X7_divide (nI s) b c) (c := 2) (x := 0) (mu' := um mu 30 0 (nI 2)) (fun w => ?_) (by omega) (by omega) (fun w => ?_) (umS _ _ _ _) (pS_0 _ hS) hR (by omega) (pX_f hX (fX_0 _ _) (by omega))
    · unfold f_L_divide f_X6_divide f_X4_isUsed
      simp (maxSteps := 1000000) (disch := omega) only [li0, li1, li2, li3, li4, li5, li6, li7, li8, li9, li10, li16, li17, li20, li30, li32, li48, li49, li50, li57, li60, li126, li147, nI_add, nI_sb, pk_mul, nI_m1, inrT, leT, leF, ltT, ltF, eqT, eqF, n1lt, m1lt, m1neg, m1nle, m1le, m1a1, m1a2, m1s, m1s', nI_cl, ↓tl, ↓sb, sb, sel, ser, ↓reduceIte, if_true, if_false, true_or, or_true, false_or, or_false, umS, umK, umJ, uaS, uaK, uaI, uaJ, stAA, stAS, stAI, stAE, stAU, stAM, stSA, stSS, stSI, stSE, stSU, stSM, stIA, stIS, stII, stIE, stIU, stIM, stEA, stES, stEI, stEE, stEU, stEM, stUA, stUS, stUI, stUE, stUU, stUM, stMA, stMS, stMI, stME, stMU, stMM, q_A0, q_A1, q_S0, q_S1, q_I0, q_I1, q_E0, q_E1, xg0, xs0, xg21, xs21, xg22, xs22, xg23, xs23, xg24, xs24, xg25, xs25, xg26, xs26, xg27, xs27, xg28, xs28, xg29, xs29, bg0, bs0, bg21, bs21, bg22, bs22, bg23, bs23, bg24, bs24, bg25, bs25, bg26, bs26, bg27, bs27, bg28, bs28, bg29, bs29, c1, x4, e]
    · unfold f_X7_divide
      simp (maxSteps := 1000000) (disch := omega) only [li0, li1, li2, li3, li4, li5, li6, li7, li8, li9, li10, li16, li17, li20, li30, li32, li48, li49, li50, li57, li60, li126, li147, nI_add, nI_sb, pk_mul, nI_m1, inrT, leT, leF, ltT, ltF, eqT, eqF, n1lt, m1lt, m1neg, m1nle, m1le, m1a1, m1a2, m1s, m1s', nI_cl, ↓tl, ↓sb, sb, sel, ser, ↓reduceIte, if_true, if_false, true_or, or_true, false_or, or_false, umS, umK, umJ, uaS, uaK, uaI, uaJ, mg30, mg31, mg32, mg33, mg34, mg35, mg36, mg37, mg38, mg39, mg40, mg41, mg42, mg43, mg44, mg45, mg46, mg47, mg48, mg49, ms30, ms31, ms32, ms33, ms34, ms35, ms36, ms37, ms38, ms39, ms40, ms41, ms42, ms43, ms44, ms45, ms46, ms47, ms48, ms49, r1, e]
  obtain ⟨ty, ty1, ty2⟩ : ∃ ty, ty ≤ 1 ∧ mu 45 s = nI ty := by
    rcases x5 with h | h | h
    · exact absurd h e
    · exact ⟨0, by omega, h⟩
    · exact ⟨1, by omega, h⟩
  by_cases ec : c = nI 0
  · refine msD_th (fl := f_L_divide (nI s) b c) (fr := f_X7_divide (nI s) b c) (c := 3) (x := 0) (mu' := um mu 30 0 (nI 3)) (fun w => ?_) (by omega) (by omega) (fun w => ?_) (umS _ _ _ _) (pS_0 _ hS) hR (by omega) (pX_f hX (fX_0 _ _) (by omega))
    · unfold f_L_divide f_X6_divide f_X4_isUsed
      simp (maxSteps := 1000000) (disch := omega) only [li0, li1, li2, li3, li4, li5, li6, li7, li8, li9, li10, li16, li17, li20, li30, li32, li48, li49, li50, li57, li60, li126, li147, nI_add, nI_sb, pk_mul, nI_m1, inrT, leT, leF, ltT, ltF, eqT, eqF, n1lt, m1lt, m1neg, m1nle, m1le, m1a1, m1a2, m1s, m1s', nI_cl, ↓tl, ↓sb, sb, sel, ser, ↓reduceIte, if_true, if_false, true_or, or_true, false_or, or_false, umS, umK, umJ, uaS, uaK, uaI, uaJ, stAA, stAS, stAI, stAE, stAU, stAM, stSA, stSS, stSI, stSE, stSU, stSM, stIA, stIS, stII, stIE, stIU, stIM, stEA, stES, stEI, stEE, stEU, stEM, stUA, stUS, stUI, stUE, stUU, stUM, stMA, stMS, stMI, stME, stMU, stMM, q_A0, q_A1, q_S0, q_S1, q_I0, q_I1, q_E0, q_E1, xg0, xs0, xg21, xs21, xg22, xs22, xg23, xs23, xg24, xs24, xg25, xs25, xg26, xs26, xg27, xs27, xg28, xs28, xg29, xs29, bg0, bs0, bg21, bs21, bg22, bs22, bg23, bs23, bg24, bs24, bg25, bs25, bg26, bs26, bg27, bs27, bg28, bs28, bg29, bs29, c1, x4, ty2, ec]
    · unfold f_X7_divide
      simp (maxSteps := 1000000) (disch := omega) only [li0, li1, li2, li3, li4, li5, li6, li7, li8, li9, li10, li16, li17, li20, li30, li32, li48, li49, li50, li57, li60, li126, li147, nI_add, nI_sb, pk_mul, nI_m1, inrT, leT, leF, ltT, ltF, eqT, eqF, n1lt, m1lt, m1neg, m1nle, m1le, m1a1, m1a2, m1s, m1s', nI_cl, ↓tl, ↓sb, sb, sel, ser, ↓reduceIte, if_true, if_false, true_or, or_true, false_or, or_false, umS, umK, umJ, uaS, uaK, uaI, uaJ, mg30, mg31, mg32, mg33, mg34, mg35, mg36, mg37, mg38, mg39, mg40, mg41, mg42, mg43, mg44, mg45, mg46, mg47, mg48, mg49, ms30, ms31, ms32, ms33, ms34, ms35, ms36, ms37, ms38, ms39, ms40, ms41, ms42, ms43, ms44, ms45, ms46, ms47, ms48, ms49, r1, ty2, ec]
  have ec' := eq_false ec
  rcases rg_case b l (by omega) with ⟨k, hk, rfl⟩ | hb
  rotate_left
  · have r2 := fun w => r_inF2 (x := b) w hb (by omega)
    rcases out3 hb with b1 | ⟨b1, b2⟩
    · refine msD_th (fl := f_L_divide (nI s) b c) (fr := f_X7_divide (nI s) b c) (c := 4) (x := 0) (mu' := um mu 30 0 (nI 4)) (fun w => ?_) (by omega) (by omega) (fun w => ?_) (umS _ _ _ _) (pS_0 _ hS) hR (by omega) (pX_f hX (fX_0 _ _) (by omega))
      · unfold f_L_divide f_X6_divide f_X4_isUsed
        simp (maxSteps := 1000000) (disch := omega) only [li0, li1, li2, li3, li4, li5, li6, li7, li8, li9, li10, li16, li17, li20, li30, li32, li48, li49, li50, li57, li60, li126, li147, nI_add, nI_sb, pk_mul, nI_m1, inrT, leT, leF, ltT, ltF, eqT, eqF, n1lt, m1lt, m1neg, m1nle, m1le, m1a1, m1a2, m1s, m1s', nI_cl, ↓tl, ↓sb, sb, sel, ser, ↓reduceIte, if_true, if_false, true_or, or_true, false_or, or_false, umS, umK, umJ, uaS, uaK, uaI, uaJ, stAA, stAS, stAI, stAE, stAU, stAM, stSA, stSS, stSI, stSE, stSU, stSM, stIA, stIS, stII, stIE, stIU, stIM, stEA, stES, stEI, stEE, stEU, stEM, stUA, stUS, stUI, stUE, stUU, stUM, stMA, stMS, stMI, stME, stMU, stMM, q_A0, q_A1, q_S0, q_S1, q_I0, q_I1, q_E0, q_E1, xg0, xs0, xg21, xs21, xg22, xs22, xg23, xs23, xg24, xs24, xg25, xs25, xg26, xs26, xg27, xs27, xg28, xs28, xg29, xs29, bg0, bs0, bg21, bs21, bg22, bs22, bg23, bs23, bg24, bs24, bg25, bs25, bg26, bs26, bg27, bs27, bg28, bs28, bg29, bs29, c1, x4, ty2, ec', eq_true b1]
      · unfold f_X7_divide
        simp (maxSteps := 1000000) (disch := omega) only [li0, li1, li2, li3, li4, li5, li6, li7, li8, li9, li10, li16, li17, li20, li30, li32, li48, li49, li50, li57, li60, li126, li147, nI_add, nI_sb, pk_mul, nI_m1, inrT, leT, leF, ltT, ltF, eqT, eqF, n1lt, m1lt, m1neg, m1nle, m1le, m1a1, m1a2, m1s, m1s', nI_cl, ↓tl, ↓sb, sb, sel, ser, ↓reduceIte, if_true, if_false, true_or, or_true, false_or, or_false, umS, umK, umJ, uaS, uaK, uaI, uaJ, mg30, mg31, mg32, mg33, mg34, mg35, mg36, mg37, mg38, mg39, mg40, mg41, mg42, mg43, mg44, mg45, mg46, mg47, mg48, mg49, ms30, ms31, ms32, ms33, ms34, ms35, ms36, ms37, ms38, ms39, ms40, ms41, ms42, ms43, ms44, ms45, ms46, ms47, ms48, ms49, r1, ty2, ec', x3, r2]
    · refine msD_th (fl := f_L_divide (nI s) b c) (fr := f_X7_divide (nI s) b c) (c := 4) (x := 0) (mu' := um mu 30 0 (nI 4)) (fun w => ?_) (by omega) (by omega) (fun w => ?_) (umS _ _ _ _) (pS_0 _ hS) hR (by omega) (pX_f hX (fX_0 _ _) (by omega))
      · unfold f_L_divide f_X6_divide f_X4_isUsed
        simp (maxSteps := 1000000) (disch := omega) only [li0, li1, li2, li3, li4, li5, li6, li7, li8, li9, li10, li16, li17, li20, li30, li32, li48, li49, li50, li57, li60, li126, li147, nI_add, nI_sb, pk_mul, nI_m1, inrT, leT, leF, ltT, ltF, eqT, eqF, n1lt, m1lt, m1neg, m1nle, m1le, m1a1, m1a2, m1s, m1s', nI_cl, ↓tl, ↓sb, sb, sel, ser, ↓reduceIte, if_true, if_false, true_or, or_true, false_or, or_false, umS, umK, umJ, uaS, uaK, uaI, uaJ, stAA, stAS, stAI, stAE, stAU, stAM, stSA, stSS, stSI, stSE, stSU, stSM, stIA, stIS, stII, stIE, stIU, stIM, stEA, stES, stEI, stEE, stEU, stEM, stUA, stUS, stUI, stUE, stUU, stUM, stMA, stMS, stMI, stME, stMU, stMM, q_A0, q_A1, q_S0, q_S1, q_I0, q_I1, q_E0, q_E1, xg0, xs0, xg21, xs21, xg22, xs22, xg23, xs23, xg24, xs24, xg25, xs25, xg26, xs26, xg27, xs27, xg28, xs28, xg29, xs29, bg0, bs0, bg21, bs21, bg22, bs22, bg23, bs23, bg24, bs24, bg25, bs25, bg26, bs26, bg27, bs27, bg28, bs28, bg29, bs29, c1, x4, ty2, ec', eq_false b1, x2, eq_true b2]
      · unfold f_X7_divide
        simp (maxSteps := 1000000) (disch := omega) only [li0, li1, li2, li3, li4, li5, li6, li7, li8, li9, li10, li16, li17, li20, li30, li32, li48, li49, li50, li57, li60, li126, li147, nI_add, nI_sb, pk_mul, nI_m1, inrT, leT, leF, ltT, ltF, eqT, eqF, n1lt, m1lt, m1neg, m1nle, m1le, m1a1, m1a2, m1s, m1s', nI_cl, ↓tl, ↓sb, sb, sel, ser, ↓reduceIte, if_true, if_false, true_or, or_true, false_or, or_false, umS, umK, umJ, uaS, uaK, uaI, uaJ, mg30, mg31, mg32, mg33, mg34, mg35, mg36, mg37, mg38, mg39, mg40, mg41, mg42, mg43, mg44, mg45, mg46, mg47, mg48, mg49, ms30, ms31, ms32, ms33, ms34, ms35, ms36, ms37, ms38, ms39, ms40, ms41, ms42, ms43, ms44, ms45, ms46, ms47, ms48, ms49, r1, ty2, ec', x3, r2]
  have r2 := fun w => r_rgT (t := k) (hi := l - 1) w (by omega) (by omega)
  obtain ⟨k1, k2, k3⟩ := x6 k (by omega)
  rcases (show ty = 0 ∨ ty = 1 by omega) with rfl | rfl
  · -- floats
    have hq := nn_fdiv k3 ec
    have hn1 := eq_true (n32_of hq)
    have k2' : ts_gF v (28, 0, s) k = ts_gF v (48, 0, 0) (30 * s + k) := k2
    have hfd : ∀ w : ts_Mem, ts_n64 (FP.f2d (FP.fdiv (ts_gF v (48, 0, 0) (30 * s + k)) (FP.i2f c))) = True := fun _ => eq_true (n64_of (nn_f2d hq))
    have hfm : fM mu (um mu 30 0 (nI 0)) := fM_0 _ _
    refine msD_ok (fl := f_L_divide (nI s) (nI k) c) (fr := f_X7_divide (nI s) (nI k) c) (be' := be) (mu' := um mu 30 0 (nI 0)) (f1 := uf (fun k i j => ts_gF v (k, 0, i) j) 28 s k (FP.fdiv (ts_gF v (48, 0, 0) (30 * s + k)) (FP.i2f c))) (f2 := uf (uf (fun k i j => ts_gF v (k, 0, i) j) 28 s k (FP.fdiv (ts_gF v (48, 0, 0) (30 * s + k)) (FP.i2f c))) 48 0 (30 * s + k) (FP.fdiv (ts_gF v (48, 0, 0) (30 * s + k)) (FP.i2f c))) (r := FP.fdiv (ts_gF v (48, 0, 0) (30 * s + k)) (FP.i2f c)) (fun w => ?_) (fun w => ?_) hq (umS _ _ _ _) (pS_0 _ hS) hR (show nx ≤ K + 1 by omega) (pX_y hX (fun _ _ _ _ => rfl) hfm (fun s' hs' => ?_) (by omega))
    · unfold f_L_divide f_X6_divide f_X4_isUsed f_X4_quotient
      simp (maxSteps := 1000000) (disch := omega) only [li0, li1, li2, li3, li4, li5, li6, li7, li8, li9, li10, li16, li17, li20, li30, li32, li48, li49, li50, li57, li60, li126, li147, nI_add, nI_sb, pk_mul, nI_m1, inrT, leT, leF, ltT, ltF, eqT, eqF, n1lt, m1lt, m1neg, m1nle, m1le, m1a1, m1a2, m1s, m1s', nI_cl, ↓tl, ↓sb, sb, sel, ser, ↓reduceIte, if_true, if_false, true_or, or_true, false_or, or_false, umS, umK, umJ, uaS, uaK, uaI, uaJ, stAA, stAS, stAI, stAE, stAU, stAM, stSA, stSS, stSI, stSE, stSU, stSM, stIA, stIS, stII, stIE, stIU, stIM, stEA, stES, stEI, stEE, stEU, stEM, stUA, stUS, stUI, stUE, stUU, stUM, stMA, stMS, stMI, stME, stMU, stMM, q_A0, q_A1, q_S0, q_S1, q_I0, q_I1, q_E0, q_E1, xg0, xs0, xg21, xs21, xg22, xs22, xg23, xs23, xg24, xs24, xg25, xs25, xg26, xs26, xg27, xs27, xg28, xs28, xg29, xs29, bg0, bs0, bg21, bs21, bg22, bs22, bg23, bs23, bg24, bs24, bg25, bs25, bg26, bs26, bg27, bs27, bg28, bs28, bg29, bs29, c1, x4, ty2, ec', x2, ca_gF, cb_gF, fg, ca_F, cb_F, fs, k2', hn1, ufS, hfd w]
    · unfold f_X7_divide
      have e48 : uf (fun k i j => ts_gF v (k, 0, i) j) 28 s k (FP.fdiv (ts_gF v (48, 0, 0) (30 * s + k)) (FP.i2f c)) 48 0 (30 * s + k) = ts_gF v (48, 0, 0) (30 * s + k) := uf_o _ _ (by omega)
      simp (maxSteps := 1000000) (disch := omega) only [li0, li1, li2, li3, li4, li5, li6, li7, li8, li9, li10, li16, li17, li20, li30, li32, li48, li49, li50, li57, li60, li126, li147, nI_add, nI_sb, pk_mul, nI_m1, inrT, leT, leF, ltT, ltF, eqT, eqF, n1lt, m1lt, m1neg, m1nle, m1le, m1a1, m1a2, m1s, m1s', nI_cl, ↓tl, ↓sb, sb, sel, ser, ↓reduceIte, if_true, if_false, true_or, or_true, false_or, or_false, umS, umK, umJ, uaS, uaK, uaI, uaJ, mg30, mg31, mg32, mg33, mg34, mg35, mg36, mg37, mg38, mg39, mg40, mg41, mg42, mg43, mg44, mg45, mg46, mg47, mg48, mg49, ms30, ms31, ms32, ms33, ms34, ms35, ms36, ms37, ms38, ms39, ms40, ms41, ms42, ms43, ms44, ms45, ms46, ms47, ms48, ms49, r1, ty2, ec', x3, r2, ma_gF, fg, ma_F, fs, e48, hn1, ufS]
    · obtain ⟨q1, q2, q3, q4⟩ := hY s' hs'
      simp (disch := omega) only [umK]
      refine ⟨q1, q2, q3, fun k' hk' => ?_⟩
      obtain ⟨w1, w2, w3⟩ := q4 k' hk'
      refine ⟨w1, ?_⟩
      by_cases e2 : s' = s ∧ k' = k
      · obtain ⟨rfl, rfl⟩ := e2
        rw [uf_o _ _ (by omega), ufS, ufS]
        exact ⟨rfl, hq⟩
      · rw [uf_o _ _ (by omega), uf_o _ _ (by omega), uf_o _ _ (by omega), uf_o _ _ (by omega)]
        exact ⟨w2, w3⟩
  · -- ints
    have hfd : ∀ w : ts_Mem, ts_n64 (FP.f2d (FP.i2f (mu 47 (30 * s + k) / c))) = True := fun _ => eq_true (n64_of (nn_f2d (nn_i2f _)))
    have nc : (¬ c = nI 0) = True := eq_true ec
    have hfm : fM mu (um (um mu 30 0 (nI 0)) 47 (30 * s + k) (mu 47 (30 * s + k) / c)) := fM_trans (fM_0 _ _) (fM_u _ _ (by omega))
    refine msD_ok (fl := f_L_divide (nI s) (nI k) c) (fr := f_X7_divide (nI s) (nI k) c) (be' := ua be 29 s k (mu 47 (30 * s + k) / c)) (mu' := um (um mu 30 0 (nI 0)) 47 (30 * s + k) (mu 47 (30 * s + k) / c)) (f1 := fun k i j => ts_gF v (k, 0, i) j) (f2 := fun k i j => ts_gF v (k, 0, i) j) (r := FP.i2f (mu 47 (30 * s + k) / c)) (fun w => ?_) (fun w => ?_) (nn_i2f _) (by simp (disch := omega) only [umK, umS]) (pS_y hS hfm) hR (show nx ≤ K + 1 by omega) (pX_y hX (fun a b j h => uaK _ _ _ _ _ _ (by omega)) hfm (fun s' hs' => ?_) (by omega))
    · unfold f_L_divide f_X6_divide f_X4_isUsed f_X4_quotient
      simp (maxSteps := 1000000) (disch := omega) only [li0, li1, li2, li3, li4, li5, li6, li7, li8, li9, li10, li16, li17, li20, li30, li32, li48, li49, li50, li57, li60, li126, li147, nI_add, nI_sb, pk_mul, nI_m1, inrT, leT, leF, ltT, ltF, eqT, eqF, n1lt, m1lt, m1neg, m1nle, m1le, m1a1, m1a2, m1s, m1s', nI_cl, ↓tl, ↓sb, sb, sel, ser, ↓reduceIte, if_true, if_false, true_or, or_true, false_or, or_false, umS, umK, umJ, uaS, uaK, uaI, uaJ, stAA, stAS, stAI, stAE, stAU, stAM, stSA, stSS, stSI, stSE, stSU, stSM, stIA, stIS, stII, stIE, stIU, stIM, stEA, stES, stEI, stEE, stEU, stEM, stUA, stUS, stUI, stUE, stUU, stUM, stMA, stMS, stMI, stME, stMU, stMM, q_A0, q_A1, q_S0, q_S1, q_I0, q_I1, q_E0, q_E1, xg0, xs0, xg21, xs21, xg22, xs22, xg23, xs23, xg24, xs24, xg25, xs25, xg26, xs26, xg27, xs27, xg28, xs28, xg29, xs29, bg0, bs0, bg21, bs21, bg22, bs22, bg23, bs23, bg24, bs24, bg25, bs25, bg26, bs26, bg27, bs27, bg28, bs28, bg29, bs29, c1, x4, ty2, ec', x2, k1, nc, not_false_eq_true, hfd w]
    · unfold f_X7_divide
      simp (maxSteps := 1000000) (disch := omega) only [li0, li1, li2, li3, li4, li5, li6, li7, li8, li9, li10, li16, li17, li20, li30, li32, li48, li49, li50, li57, li60, li126, li147, nI_add, nI_sb, pk_mul, nI_m1, inrT, leT, leF, ltT, ltF, eqT, eqF, n1lt, m1lt, m1neg, m1nle, m1le, m1a1, m1a2, m1s, m1s', nI_cl, ↓tl, ↓sb, sb, sel, ser, ↓reduceIte, if_true, if_false, true_or, or_true, false_or, or_false, umS, umK, umJ, uaS, uaK, uaI, uaJ, mg30, mg31, mg32, mg33, mg34, mg35, mg36, mg37, mg38, mg39, mg40, mg41, mg42, mg43, mg44, mg45, mg46, mg47, mg48, mg49, ms30, ms31, ms32, ms33, ms34, ms35, ms36, ms37, ms38, ms39, ms40, ms41, ms42, ms43, ms44, ms45, ms46, ms47, ms48, ms49, r1, ty2, ec', x3, r2, nc, not_false_eq_true]
    · obtain ⟨q1, q2, q3, q4⟩ := hY s' hs'
      have f46 : ∀ a j, ¬ a = 47 → ¬ a = 30 → um (um mu 30 0 (nI 0)) 47 (30 * s + k) (mu 47 (30 * s + k) / c) a j = mu a j := fun a j h1 h2 => by rw [umK _ _ _ _ h1, umK _ _ _ _ h2]
      simp (disch := omega) only [f46]
      have b27 : ∀ i j, ua be 29 s k (mu 47 (30 * s + k) / c) 27 i j = be 27 i j := fun i j => uaK _ _ _ _ _ _ (by omega)
      simp only [b27]
      refine ⟨q1, q2, q3, fun k' hk' => ?_⟩
      obtain ⟨w1, w2, w3⟩ := q4 k' hk'
      refine ⟨?_, w2, w3⟩
      by_cases e2 : s' = s ∧ k' = k
      · obtain ⟨rfl, rfl⟩ := e2
        rw [uaS, umS]
      · have e3 : ¬ 30 * s' + k' = 30 * s + k := by omega
        rw [umJ _ _ _ e3, umK _ _ _ _ (by omega)]
        unfold ua
        rw [if_neg (by omega)]
        exact w1
-- export
theorem tv_loop {al : pu_A} {s i c l m : Nat} (h16 : al 16 i 0 = nI c) (hc : c ≤ 17) (hl : l ≤ 30) (hm : m ≤ c ∧ m ≤ l ∧ (m = c ∨ m = l)) : ∀ d j (be : pu_A) (fo : pu_F), j + d = m → be 27 s 1 = nI l → ∃ be' fo', (∀ w N, d < N → lp_X4_takeValues_2 s 0 i N (nI j) (ca al (cb be (cf fo w))) = some (nI m, ca al (cb be' (cf fo' w)))) ∧ (∀ k, j ≤ k → k < m → be' 29 s k = al 19 i k ∧ fo' 28 s k = FP.i2f (al 19 i k)) ∧ (∀ a b x, ¬ (a = 29 ∧ b = s ∧ j ≤ x ∧ x < m) → be' a b x = be a b x) ∧ (∀ a b x, ¬ (a = 28 ∧ b = s ∧ j ≤ x ∧ x < m) → fo' a b x = fo a b x) := by
  intro d
  induction d with
  | zero =>
    intro j be fo hj h27
    obtain rfl : j = m := by omega
    refine ⟨be, fo, fun w N hN => ?_, fun k h1 h2 => absurd h1 (by omega), fun _ _ _ _ => rfl, fun _ _ _ _ => rfl⟩
    obtain ⟨N, rfl⟩ : ∃ b, N = b + 1 := ⟨N - 1, by omega⟩
    rw [lp_X4_takeValues_2]
    by_cases e : l ≤ j
    · simp (disch := omega) only [li0, li1, li2, li3, li4, li5, li6, li7, li8, li9, li10, li16, li17, li20, li30, li32, li48, li49, li50, li57, li60, li126, li147, nI_add, nI_sb, pk_mul, nI_m1, inrT, leT, leF, ltT, ltF, eqT, eqF, n1lt, m1lt, m1neg, m1nle, m1le, m1a1, m1a2, m1s, m1s', nI_cl, ↓tl, ↓sb, sb, sel, ser, ↓reduceIte, if_true, if_false, true_or, or_true, false_or, or_false, umS, umK, umJ, uaS, uaK, uaI, uaJ, xg0, xs0, xg21, xs21, xg22, xs22, xg23, xs23, xg24, xs24, xg25, xs25, xg26, xs26, xg27, xs27, xg28, xs28, xg29, xs29, bg0, bs0, bg21, bs21, bg22, bs22, bg23, bs23, bg24, bs24, bg25, bs25, bg26, bs26, bg27, bs27, bg28, bs28, bg29, bs29, h27]
    · simp (disch := omega) only [li0, li1, li2, li3, li4, li5, li6, li7, li8, li9, li10, li16, li17, li20, li30, li32, li48, li49, li50, li57, li60, li126, li147, nI_add, nI_sb, pk_mul, nI_m1, inrT, leT, leF, ltT, ltF, eqT, eqF, n1lt, m1lt, m1neg, m1nle, m1le, m1a1, m1a2, m1s, m1s', nI_cl, ↓tl, ↓sb, sb, sel, ser, ↓reduceIte, if_true, if_false, true_or, or_true, false_or, or_false, umS, umK, umJ, uaS, uaK, uaI, uaJ, xg0, xs0, xg21, xs21, xg22, xs22, xg23, xs23, xg24, xs24, xg25, xs25, xg26, xs26, xg27, xs27, xg28, xs28, xg29, xs29, bg0, bs0, bg21, bs21, bg22, bs22, bg23, bs23, bg24, bs24, bg25, bs25, bg26, bs26, bg27, bs27, bg28, bs28, bg29, bs29, cg1, cg2, cg3, cg4, cg5, cg6, cg7, cg8, cg9, cg10, cg11, cg12, cg13, cg14, cg15, cg16, cg17, cg18, cg19, cg20, cs1, cs2, cs3, cs4, cs5, cs6, cs7, cs8, cs9, cs10, cs11, cs12, cs13, cs14, cs15, cs16, cs17, cs18, cs19, cs20, cc17, cc18, cc19, cc20, h27, h16]
  | succ d ih =>
    intro j be fo hj h27
    obtain ⟨be', fo', q1, q2, q3, q4⟩ := ih (j + 1) (ua be 29 s j (al 19 i j)) (uf fo 28 s j (FP.i2f (al 19 i j))) (by omega) (by rw [uaK _ _ _ _ _ _ (by omega)]; exact h27)
    refine ⟨be', fo', fun w N hN => ?_, fun k h1 h2 => ?_, fun a b x h => ?_, fun a b x h => ?_⟩
    · obtain ⟨N, rfl⟩ : ∃ b, N = b + 1 := ⟨N - 1, by omega⟩
      have := q1 w N (by omega)
      rw [lp_X4_takeValues_2]
      simp (disch := omega) only [li0, li1, li2, li3, li4, li5, li6, li7, li8, li9, li10, li16, li17, li20, li30, li32, li48, li49, li50, li57, li60, li126, li147, nI_add, nI_sb, pk_mul, nI_m1, inrT, leT, leF, ltT, ltF, eqT, eqF, n1lt, m1lt, m1neg, m1nle, m1le, m1a1, m1a2, m1s, m1s', nI_cl, ↓tl, ↓sb, sb, sel, ser, ↓reduceIte, if_true, if_false, true_or, or_true, false_or, or_false, umS, umK, umJ, uaS, uaK, uaI, uaJ, xg0, xs0, xg21, xs21, xg22, xs22, xg23, xs23, xg24, xs24, xg25, xs25, xg26, xs26, xg27, xs27, xg28, xs28, xg29, xs29, bg0, bs0, bg21, bs21, bg22, bs22, bg23, bs23, bg24, bs24, bg25, bs25, bg26, bs26, bg27, bs27, bg28, bs28, bg29, bs29, cg1, cg2, cg3, cg4, cg5, cg6, cg7, cg8, cg9, cg10, cg11, cg12, cg13, cg14, cg15, cg16, cg17, cg18, cg19, cg20, cs1, cs2, cs3, cs4, cs5, cs6, cs7, cs8, cs9, cs10, cs11, cs12, cs13, cs14, cs15, cs16, cs17, cs18, cs19, cs20, cc17, cc18, cc19, cc20, h27, h16, ca_F, cb_F, fs]
      exact this
    · by_cases e : k = j
      · subst e
        rw [q3 _ _ _ (by omega), q4 _ _ _ (by omega), uaS, ufS]
        exact ⟨rfl, rfl⟩
      · exact q2 k (by omega) h2
    · rw [q3 a b x (by omega)]; unfold ua; rw [if_neg (by omega)]
    · rw [q4 a b x (by omega)]; exact uf_o _ _ (by omega)
theorem re_loop {al : pu_A} {s i c l m : Nat} (hs : s < 3) (hi : i < 8) (hc : c ≤ 17) (hl : l ≤ 30) (hm : m ≤ c ∧ m ≤ l ∧ (m = c ∨ m = l)) : ∀ d j (mu : pu_M) (fo : pu_F), j + d = m → pC al mu i c → mu 46 s = nI l → ∃ mu' fo', (∀ w N, d < N → lp_X7_export_47 (nI s) (nI i) N (nI j) (ma mu (cf fo w)) = some (nI m, ma mu' (cf fo' w))) ∧ (∀ k, j ≤ k → k < m → mu' 47 (30 * s + k) = al 19 i k ∧ fo' 48 0 (30 * s + k) = FP.i2f (al 19 i k)) ∧ (∀ a x, ¬ (a = 47 ∧ 30 * s + j ≤ x ∧ x < 30 * s + m) → mu' a x = mu a x) ∧ (∀ a b x, ¬ (a = 48 ∧ b = 0 ∧ 30 * s + j ≤ x ∧ x < 30 * s + m) → fo' a b x = fo a b x) := by
  intro d
  induction d with
  | zero =>
    intro j mu fo hj hC h46
    obtain rfl : j = m := by omega
    have d2 := hC.2.1
    refine ⟨mu, fo, fun w N hN => ?_, fun k h1 h2 => absurd h1 (by omega), fun _ _ _ => rfl, fun _ _ _ _ => rfl⟩
    obtain ⟨N, rfl⟩ : ∃ b, N = b + 1 := ⟨N - 1, by omega⟩
    rw [lp_X7_export_47]
    by_cases e : c ≤ j
    · simp (disch := omega) only [li0, li1, li2, li3, li4, li5, li6, li7, li8, li9, li10, li16, li17, li20, li30, li32, li48, li49, li50, li57, li60, li126, li147, nI_add, nI_sb, pk_mul, nI_m1, inrT, leT, leF, ltT, ltF, eqT, eqF, n1lt, m1lt, m1neg, m1nle, m1le, m1a1, m1a2, m1s, m1s', nI_cl, ↓tl, ↓sb, sb, sel, ser, ↓reduceIte, if_true, if_false, true_or, or_true, false_or, or_false, umS, umK, umJ, uaS, uaK, uaI, uaJ, mg30, mg31, mg32, mg33, mg34, mg35, mg36, mg37, mg38, mg39, mg40, mg41, mg42, mg43, mg44, mg45, mg46, mg47, mg48, mg49, ms30, ms31, ms32, ms33, ms34, ms35, ms36, ms37, ms38, ms39, ms40, ms41, ms42, ms43, ms44, ms45, ms46, ms47, ms48, ms49, d2]
    · simp (disch := omega) only [li0, li1, li2, li3, li4, li5, li6, li7, li8, li9, li10, li16, li17, li20, li30, li32, li48, li49, li50, li57, li60, li126, li147, nI_add, nI_sb, pk_mul, nI_m1, inrT, leT, leF, ltT, ltF, eqT, eqF, n1lt, m1lt, m1neg, m1nle, m1le, m1a1, m1a2, m1s, m1s', nI_cl, ↓tl, ↓sb, sb, sel, ser, ↓reduceIte, if_true, if_false, true_or, or_true, false_or, or_false, umS, umK, umJ, uaS, uaK, uaI, uaJ, mg30, mg31, mg32, mg33, mg34, mg35, mg36, mg37, mg38, mg39, mg40, mg41, mg42, mg43, mg44, mg45, mg46, mg47, mg48, mg49, ms30, ms31, ms32, ms33, ms34, ms35, ms36, ms37, ms38, ms39, ms40, ms41, ms42, ms43, ms44, ms45, ms46, ms47, ms48, ms49, d2, h46]
  | succ d ih =>
    intro j mu fo hj hC h46
    have d2 := hC.2.1
    have d4 := (hC.2.2.2 j (by omega)).2.2.1
    obtain ⟨mu', fo', q1, q2, q3, q4⟩ := ih (j + 1) (um mu 47 (30 * s + j) (al 19 i j)) (uf fo 48 0 (30 * s + j) (FP.i2f (al 19 i j))) (by omega) (by unfold pC at hC ⊢; simp (disch := omega) only [umK]; exact hC) (by rw [umK _ _ _ _ (by omega)]; exact h46)
    refine ⟨mu', fo', fun w N hN => ?_, fun k h1 h2 => ?_, fun a x h => ?_, fun a b x h => ?_⟩
    · obtain ⟨N, rfl⟩ : ∃ b, N = b + 1 := ⟨N - 1, by omega⟩
      have := q1 w N (by omega)
      rw [lp_X7_export_47]
      unfold f_X7_place
      simp (maxSteps := 1000000) (disch := omega) only [li0, li1, li2, li3, li4, li5, li6, li7, li8, li9, li10, li16, li17, li20, li30, li32, li48, li49, li50, li57, li60, li126, li147, nI_add, nI_sb, pk_mul, nI_m1, inrT, leT, leF, ltT, ltF, eqT, eqF, n1lt, m1lt, m1neg, m1nle, m1le, m1a1, m1a2, m1s, m1s', nI_cl, ↓tl, ↓sb, sb, sel, ser, ↓reduceIte, if_true, if_false, true_or, or_true, false_or, or_false, umS, umK, umJ, uaS, uaK, uaI, uaJ, mg30, mg31, mg32, mg33, mg34, mg35, mg36, mg37, mg38, mg39, mg40, mg41, mg42, mg43, mg44, mg45, mg46, mg47, mg48, mg49, ms30, ms31, ms32, ms33, ms34, ms35, ms36, ms37, ms38, ms39, ms40, ms41, ms42, ms43, ms44, ms45, ms46, ms47, ms48, ms49, d2, h46, d4, ma_F, fs]
      exact this
    · by_cases e : k = j
      · subst e
        rw [q3 _ _ (by omega), q4 _ _ _ (by omega), umS, ufS]
        exact ⟨rfl, rfl⟩
      · exact q2 k (by omega) h2
    · rw [q3 a x (by omega)]; unfold um; rw [if_neg (by omega)]
    · rw [q4 a b x (by omega)]; exact uf_o _ _ (by omega)
theorem k_export (a b : Int32) {u : ts_Mem} {K : Nat} (hZ : Z u K) : ∃ u2, law1 (f_L_export a b u) (f_X7_export a b) = some u2 ∧ Z u2 (K + 1) := by
  obtain ⟨al, be, mu, v, p, n, nx, rfl, hS, hR, hn, hX⟩ := hZ
  obtain ⟨g1, g2, g3, g4, g5, g6, g7, g8, g9, g10⟩ := hS.1
  have hY := pX_Y hX.2.1
  rcases rg_case a 3 (by omega) with ⟨s, hs, rfl⟩ | ha
  rotate_left
  · have c1 := fun w => c_isF (x := a) w ha
    have r1 := fun w => r_isF (x := a) w ha
    refine mst_th (fl := f_L_export a b) (fr := f_X7_export a b) (c := 1) (x := nI 0) (al' := al) (be' := be) (mu' := um mu 30 0 (nI 1)) (fun w => ?_) (by omega) (by omega) (fun w => ?_) (umS _ _ _ _) (pS_0 _ hS) hR (by omega) (pX_f hX (fX_0 _ _) (by omega))
    · unfold f_L_export f_X6_export
      simp (maxSteps := 1000000) (disch := omega) only [li0, li1, li2, li3, li4, li5, li6, li7, li8, li9, li10, li16, li17, li20, li30, li32, li48, li49, li50, li57, li60, li126, li147, nI_add, nI_sb, pk_mul, nI_m1, inrT, leT, leF, ltT, ltF, eqT, eqF, n1lt, m1lt, m1neg, m1nle, m1le, m1a1, m1a2, m1s, m1s', nI_cl, ↓tl, ↓sb, sb, sel, ser, ↓reduceIte, if_true, if_false, true_or, or_true, false_or, or_false, umS, umK, umJ, uaS, uaK, uaI, uaJ, stAA, stAS, stAI, stAE, stAU, stAM, stSA, stSS, stSI, stSE, stSU, stSM, stIA, stIS, stII, stIE, stIU, stIM, stEA, stES, stEI, stEE, stEU, stEM, stUA, stUS, stUI, stUE, stUU, stUM, stMA, stMS, stMI, stME, stMU, stMM, q_A0, q_A1, q_S0, q_S1, q_I0, q_I1, q_E0, q_E1, xg0, xs0, xg21, xs21, xg22, xs22, xg23, xs23, xg24, xs24, xg25, xs25, xg26, xs26, xg27, xs27, xg28, xs28, xg29, xs29, bg0, bs0, bg21, bs21, bg22, bs22, bg23, bs23, bg24, bs24, bg25, bs25, bg26, bs26, bg27, bs27, bg28, bs28, bg29, bs29, c1]
    · unfold f_X7_export
      simp (maxSteps := 1000000) (disch := omega) only [li0, li1, li2, li3, li4, li5, li6, li7, li8, li9, li10, li16, li17, li20, li30, li32, li48, li49, li50, li57, li60, li126, li147, nI_add, nI_sb, pk_mul, nI_m1, inrT, leT, leF, ltT, ltF, eqT, eqF, n1lt, m1lt, m1neg, m1nle, m1le, m1a1, m1a2, m1s, m1s', nI_cl, ↓tl, ↓sb, sb, sel, ser, ↓reduceIte, if_true, if_false, true_or, or_true, false_or, or_false, umS, umK, umJ, uaS, uaK, uaI, uaJ, mg30, mg31, mg32, mg33, mg34, mg35, mg36, mg37, mg38, mg39, mg40, mg41, mg42, mg43, mg44, mg45, mg46, mg47, mg48, mg49, ms30, ms31, ms32, ms33, ms34, ms35, ms36, ms37, ms38, ms39, ms40, ms41, ms42, ms43, ms44, ms45, ms46, ms47, ms48, ms49, r1]
  have c1 := fun w => c_isT (i := s) w hs
  have r1 := fun w => r_isT (i := s) w hs
  rcases rg_case b 8 (by omega) with ⟨i, hi, rfl⟩ | hb
  rotate_left
  · have c2 := fun w => c_iiF (x := b) w hb
    have r2 := fun w => r_iiF (x := b) w hb
    refine mst_th (fl := f_L_export (nI s) b) (fr := f_X7_export (nI s) b) (c := 1) (x := nI 0) (al' := al) (be' := be) (mu' := um mu 30 0 (nI 1)) (fun w => ?_) (by omega) (by omega) (fun w => ?_) (umS _ _ _ _) (pS_0 _ hS) hR (by omega) (pX_f hX (fX_0 _ _) (by omega))
    · unfold f_L_export f_X6_export
      simp (maxSteps := 1000000) (disch := omega) only [li0, li1, li2, li3, li4, li5, li6, li7, li8, li9, li10, li16, li17, li20, li30, li32, li48, li49, li50, li57, li60, li126, li147, nI_add, nI_sb, pk_mul, nI_m1, inrT, leT, leF, ltT, ltF, eqT, eqF, n1lt, m1lt, m1neg, m1nle, m1le, m1a1, m1a2, m1s, m1s', nI_cl, ↓tl, ↓sb, sb, sel, ser, ↓reduceIte, if_true, if_false, true_or, or_true, false_or, or_false, umS, umK, umJ, uaS, uaK, uaI, uaJ, stAA, stAS, stAI, stAE, stAU, stAM, stSA, stSS, stSI, stSE, stSU, stSM, stIA, stIS, stII, stIE, stIU, stIM, stEA, stES, stEI, stEE, stEU, stEM, stUA, stUS, stUI, stUE, stUU, stUM, stMA, stMS, stMI, stME, stMU, stMM, q_A0, q_A1, q_S0, q_S1, q_I0, q_I1, q_E0, q_E1, xg0, xs0, xg21, xs21, xg22, xs22, xg23, xs23, xg24, xs24, xg25, xs25, xg26, xs26, xg27, xs27, xg28, xs28, xg29, xs29, bg0, bs0, bg21, bs21, bg22, bs22, bg23, bs23, bg24, bs24, bg25, bs25, bg26, bs26, bg27, bs27, bg28, bs28, bg29, bs29, c1, c2]
    · unfold f_X7_export
      simp (maxSteps := 1000000) (disch := omega) only [li0, li1, li2, li3, li4, li5, li6, li7, li8, li9, li10, li16, li17, li20, li30, li32, li48, li49, li50, li57, li60, li126, li147, nI_add, nI_sb, pk_mul, nI_m1, inrT, leT, leF, ltT, ltF, eqT, eqF, n1lt, m1lt, m1neg, m1nle, m1le, m1a1, m1a2, m1s, m1s', nI_cl, ↓tl, ↓sb, sb, sel, ser, ↓reduceIte, if_true, if_false, true_or, or_true, false_or, or_false, umS, umK, umJ, uaS, uaK, uaI, uaJ, mg30, mg31, mg32, mg33, mg34, mg35, mg36, mg37, mg38, mg39, mg40, mg41, mg42, mg43, mg44, mg45, mg46, mg47, mg48, mg49, ms30, ms31, ms32, ms33, ms34, ms35, ms36, ms37, ms38, ms39, ms40, ms41, ms42, ms43, ms44, ms45, ms46, ms47, ms48, ms49, r1, r2]
  have c2 := fun w => c_iiT (i := i) w hi
  have r2 := fun w => r_iiT (i := i) w hi
  obtain ⟨⟨l, x1, x2, x3⟩, x4, x5, x6⟩ := id (hY s hs)
  by_cases e : mu 45 s = -nI 1
  · refine mst_th (fl := f_L_export (nI s) (nI i)) (fr := f_X7_export (nI s) (nI i)) (c := 2) (x := nI 0) (al' := al) (be' := be) (mu' := um mu 30 0 (nI 2)) (fun w => ?_) (by omega) (by omega) (fun w => ?_) (umS _ _ _ _) (pS_0 _ hS) hR (by omega) (pX_f hX (fX_0 _ _) (by omega))
    · unfold f_L_export f_X6_export f_X4_isUsed
      simp (maxSteps := 1000000) (disch := omega) only [li0, li1, li2, li3, li4, li5, li6, li7, li8, li9, li10, li16, li17, li20, li30, li32, li48, li49, li50, li57, li60, li126, li147, nI_add, nI_sb, pk_mul, nI_m1, inrT, leT, leF, ltT, ltF, eqT, eqF, n1lt, m1lt, m1neg, m1nle, m1le, m1a1, m1a2, m1s, m1s', nI_cl, ↓tl, ↓sb, sb, sel, ser, ↓reduceIte, if_true, if_false, true_or, or_true, false_or, or_false, umS, umK, umJ, uaS, uaK, uaI, uaJ, stAA, stAS, stAI, stAE, stAU, stAM, stSA, stSS, stSI, stSE, stSU, stSM, stIA, stIS, stII, stIE, stIU, stIM, stEA, stES, stEI, stEE, stEU, stEM, stUA, stUS, stUI, stUE, stUU, stUM, stMA, stMS, stMI, stME, stMU, stMM, q_A0, q_A1, q_S0, q_S1, q_I0, q_I1, q_E0, q_E1, xg0, xs0, xg21, xs21, xg22, xs22, xg23, xs23, xg24, xs24, xg25, xs25, xg26, xs26, xg27, xs27, xg28, xs28, xg29, xs29, bg0, bs0, bg21, bs21, bg22, bs22, bg23, bs23, bg24, bs24, bg25, bs25, bg26, bs26, bg27, bs27, bg28, bs28, bg29, bs29, c1, c2, x4, e]
    · unfold f_X7_export
      simp (maxSteps := 1000000) (disch := omega) only [li0, li1, li2, li3, li4, li5, li6, li7, li8, li9, li10, li16, li17, li20, li30, li32, li48, li49, li50, li57, li60, li126, li147, nI_add, nI_sb, pk_mul, nI_m1, inrT, leT, leF, ltT, ltF, eqT, eqF, n1lt, m1lt, m1neg, m1nle, m1le, m1a1, m1a2, m1s, m1s', nI_cl, ↓tl, ↓sb, sb, sel, ser, ↓reduceIte, if_true, if_false, true_or, or_true, false_or, or_false, umS, umK, umJ, uaS, uaK, uaI, uaJ, mg30, mg31, mg32, mg33, mg34, mg35, mg36, mg37, mg38, mg39, mg40, mg41, mg42, mg43, mg44, mg45, mg46, mg47, mg48, mg49, ms30, ms31, ms32, ms33, ms34, ms35, ms36, ms37, ms38, ms39, ms40, ms41, ms42, ms43, ms44, ms45, ms46, ms47, ms48, ms49, r1, r2, e]
  obtain ⟨ty, ty1, ty2⟩ : ∃ ty, ty ≤ 1 ∧ mu 45 s = nI ty := by
    rcases x5 with h | h | h
    · exact absurd h e
    · exact ⟨0, by omega, h⟩
    · exact ⟨1, by omega, h⟩
  obtain ⟨c, hC, hW⟩ := hS.2.2.2.2.1 i hi
  obtain ⟨d1, d2, d3, d4⟩ := id hC
  obtain ⟨m, hm⟩ : ∃ m, m ≤ c ∧ m ≤ l ∧ (m = c ∨ m = l) := by
    by_cases q : c ≤ l
    · exact ⟨c, by omega, by omega, Or.inl rfl⟩
    · exact ⟨l, by omega, by omega, Or.inr rfl⟩
  obtain ⟨be', f1, y1, y2, y3, y4⟩ := tv_loop d1 d3 x1 hm m 0 be (fun k i j => ts_gF v (k, 0, i) j) (by omega) x2
  obtain ⟨mu', f2, z1, z2, z3, z4⟩ := re_loop (al := al) hs hi d3 x1 hm m 0 (um mu 30 0 (nI 0)) f1 (by omega) (by unfold pC at hC ⊢; simp (disch := omega) only [umK]; exact hC) (by rw [umK _ _ _ _ (by omega)]; exact x3)
  have hfm : fM mu mu' := fun a j q1 q2 => by
    rw [z3 a j (by omega)]; unfold um; rw [if_neg (by omega)]
  have hfb : fB be be' := fun a b j q => by rw [y3 a b j (by omega)]
  have b27 : be' 27 s 1 = nI l := by rw [y3 _ _ _ (by omega)]; exact x2
  have m38 : mu' 38 i = nI c := by rw [z3 _ _ (by omega), umK _ _ _ _ (by omega)]; exact d2
  have m46 : mu' 46 s = nI l := by rw [z3 _ _ (by omega), umK _ _ _ _ (by omega)]; exact x3
  have hY' : pY be' mu' f2 := by
    intro s' hs'
    obtain ⟨⟨l', q0, q1, q1'⟩, q2, q3, q4⟩ := hY s' hs'
    refine ⟨⟨l', q0, by rw [y3 _ _ _ (by omega)]; exact q1, by rw [z3 _ _ (by omega), umK _ _ _ _ (by omega)]; exact q1'⟩, by rw [y3 _ _ _ (by omega), z3 _ _ (by omega), umK _ _ _ _ (by omega)]; exact q2, by rw [z3 _ _ (by omega), umK _ _ _ _ (by omega)]; exact q3, fun k hk => ?_⟩
    by_cases e2 : s' = s ∧ k < m
    · obtain ⟨rfl, e2⟩ := e2
      rw [(y2 k (by omega) e2).1, (z2 k (by omega) e2).1, z4 28 _ _ (by omega), (y2 k (by omega) e2).2, (z2 k (by omega) e2).2]
      exact ⟨rfl, rfl, nn_i2f _⟩
    · obtain ⟨w1, w2, w3⟩ := q4 k hk
      rw [y3 _ _ _ (by omega), z3 _ _ (by omega), umK _ _ _ _ (by omega), z4 28 _ _ (by omega), z4 48 _ _ (by omega), y4 _ _ _ (by omega), y4 _ _ _ (by omega)]
      exact ⟨w1, w2, w3⟩
  by_cases e5 : c ≤ l
  · refine msF_ok (fl := f_L_export (nI s) (nI i)) (fr := f_X7_export (nI s) (nI i)) (be' := be') (mu' := mu') (f1 := f1) (f2 := f2) (r := nI c) (fun w => ?_) (fun w => ?_) ?_ (pS_y hS hfm) hR (show nx ≤ K + 1 by omega) (pX_y hX hfb hfm hY' (by omega))
    · unfold f_L_export f_X6_export f_X4_isUsed f_X4_takeValues
      have := y1 w ts_fu (by unfold ts_fu; omega)
      simp (maxSteps := 1000000) (disch := omega) only [li0, li1, li2, li3, li4, li5, li6, li7, li8, li9, li10, li16, li17, li20, li30, li32, li48, li49, li50, li57, li60, li126, li147, nI_add, nI_sb, pk_mul, nI_m1, inrT, leT, leF, ltT, ltF, eqT, eqF, n1lt, m1lt, m1neg, m1nle, m1le, m1a1, m1a2, m1s, m1s', nI_cl, ↓tl, ↓sb, sb, sel, ser, ↓reduceIte, if_true, if_false, true_or, or_true, false_or, or_false, umS, umK, umJ, uaS, uaK, uaI, uaJ, stAA, stAS, stAI, stAE, stAU, stAM, stSA, stSS, stSI, stSE, stSU, stSM, stIA, stIS, stII, stIE, stIU, stIM, stEA, stES, stEI, stEE, stEU, stEM, stUA, stUS, stUI, stUE, stUU, stUM, stMA, stMS, stMI, stME, stMU, stMM, q_A0, q_A1, q_S0, q_S1, q_I0, q_I1, q_E0, q_E1, xg0, xs0, xg21, xs21, xg22, xs22, xg23, xs23, xg24, xs24, xg25, xs25, xg26, xs26, xg27, xs27, xg28, xs28, xg29, xs29, bg0, bs0, bg21, bs21, bg22, bs22, bg23, bs23, bg24, bs24, bg25, bs25, bg26, bs26, bg27, bs27, bg28, bs28, bg29, bs29, cg1, cg2, cg3, cg4, cg5, cg6, cg7, cg8, cg9, cg10, cg11, cg12, cg13, cg14, cg15, cg16, cg17, cg18, cg19, cg20, cs1, cs2, cs3, cs4, cs5, cs6, cs7, cs8, cs9, cs10, cs11, cs12, cs13, cs14, cs15, cs16, cs17, cs18, cs19, cs20, cc17, cc18, cc19, cc20, c1, c2, x4, ty2, this, b27, d1]
    · unfold f_X7_export
      have := z1 w ts_fu (by unfold ts_fu; omega)
      simp (maxSteps := 1000000) (disch := omega) only [li0, li1, li2, li3, li4, li5, li6, li7, li8, li9, li10, li16, li17, li20, li30, li32, li48, li49, li50, li57, li60, li126, li147, nI_add, nI_sb, pk_mul, nI_m1, inrT, leT, leF, ltT, ltF, eqT, eqF, n1lt, m1lt, m1neg, m1nle, m1le, m1a1, m1a2, m1s, m1s', nI_cl, ↓tl, ↓sb, sb, sel, ser, ↓reduceIte, if_true, if_false, true_or, or_true, false_or, or_false, umS, umK, umJ, uaS, uaK, uaI, uaJ, mg30, mg31, mg32, mg33, mg34, mg35, mg36, mg37, mg38, mg39, mg40, mg41, mg42, mg43, mg44, mg45, mg46, mg47, mg48, mg49, ms30, ms31, ms32, ms33, ms34, ms35, ms36, ms37, ms38, ms39, ms40, ms41, ms42, ms43, ms44, ms45, ms46, ms47, ms48, ms49, r1, r2, ty2, this, m38, m46]
    · rw [z3 _ _ (by omega), umS]
  · refine msF_th (fl := f_L_export (nI s) (nI i)) (fr := f_X7_export (nI s) (nI i)) (c := 1) (x := nI 0) (be' := be') (mu' := um mu' 30 0 (nI 1)) (f1 := f1) (f2 := f2) (fun w => ?_) (by omega) (by omega) (fun w => ?_) (umS _ _ _ _) (pS_0 _ (pS_y hS hfm)) hR (show nx ≤ K + 1 by omega) (pX_f (pX_y hX hfb hfm hY' (show K ≤ K + 1 by omega)) (fX_0 _ _) (Nat.le_refl _))
    · unfold f_L_export f_X6_export f_X4_isUsed f_X4_takeValues
      have := y1 w ts_fu (by unfold ts_fu; omega)
      simp (maxSteps := 1000000) (disch := omega) only [li0, li1, li2, li3, li4, li5, li6, li7, li8, li9, li10, li16, li17, li20, li30, li32, li48, li49, li50, li57, li60, li126, li147, nI_add, nI_sb, pk_mul, nI_m1, inrT, leT, leF, ltT, ltF, eqT, eqF, n1lt, m1lt, m1neg, m1nle, m1le, m1a1, m1a2, m1s, m1s', nI_cl, ↓tl, ↓sb, sb, sel, ser, ↓reduceIte, if_true, if_false, true_or, or_true, false_or, or_false, umS, umK, umJ, uaS, uaK, uaI, uaJ, stAA, stAS, stAI, stAE, stAU, stAM, stSA, stSS, stSI, stSE, stSU, stSM, stIA, stIS, stII, stIE, stIU, stIM, stEA, stES, stEI, stEE, stEU, stEM, stUA, stUS, stUI, stUE, stUU, stUM, stMA, stMS, stMI, stME, stMU, stMM, q_A0, q_A1, q_S0, q_S1, q_I0, q_I1, q_E0, q_E1, xg0, xs0, xg21, xs21, xg22, xs22, xg23, xs23, xg24, xs24, xg25, xs25, xg26, xs26, xg27, xs27, xg28, xs28, xg29, xs29, bg0, bs0, bg21, bs21, bg22, bs22, bg23, bs23, bg24, bs24, bg25, bs25, bg26, bs26, bg27, bs27, bg28, bs28, bg29, bs29, cg1, cg2, cg3, cg4, cg5, cg6, cg7, cg8, cg9, cg10, cg11, cg12, cg13, cg14, cg15, cg16, cg17, cg18, cg19, cg20, cs1, cs2, cs3, cs4, cs5, cs6, cs7, cs8, cs9, cs10, cs11, cs12, cs13, cs14, cs15, cs16, cs17, cs18, cs19, cs20, cc17, cc18, cc19, cc20, c1, c2, x4, ty2, this, b27, d1]
    · unfold f_X7_export
      have := z1 w ts_fu (by unfold ts_fu; omega)
      simp (maxSteps := 1000000) (disch := omega) only [li0, li1, li2, li3, li4, li5, li6, li7, li8, li9, li10, li16, li17, li20, li30, li32, li48, li49, li50, li57, li60, li126, li147, nI_add, nI_sb, pk_mul, nI_m1, inrT, leT, leF, ltT, ltF, eqT, eqF, n1lt, m1lt, m1neg, m1nle, m1le, m1a1, m1a2, m1s, m1s', nI_cl, ↓tl, ↓sb, sb, sel, ser, ↓reduceIte, if_true, if_false, true_or, or_true, false_or, or_false, umS, umK, umJ, uaS, uaK, uaI, uaJ, mg30, mg31, mg32, mg33, mg34, mg35, mg36, mg37, mg38, mg39, mg40, mg41, mg42, mg43, mg44, mg45, mg46, mg47, mg48, mg49, ms30, ms31, ms32, ms33, ms34, ms35, ms36, ms37, ms38, ms39, ms40, ms41, ms42, ms43, ms44, ms45, ms46, ms47, ms48, ms49, r1, r2, ty2, this, m38, m46, r_fl]
