/-! calls: snapshot, restore -/
def sv (al : pu_A) (P : Nat → Nat → Nat → Bool) (w : ts_Mem) : ts_Mem := (fun id j => if id.2.1 = 1 ∧ P id.1 id.2.2 j = true then al id.1 id.2.2 j else w.1 id j, w.2)
theorem RR_k {a b c : Nat} (h : RR a b c) : 1 ≤ a ∧ a ≤ 20 := by unfold RR at h; omega
theorem cpy_10 {P : Nat → Nat → Nat → Bool} (hP : ∀ a b c, P a b c = true ↔ RR a b c) (al be : pu_A) (w : ts_Mem) : cpy 1 0 P (ca al (cb be w)) = ca al (cb be (sv al P w)) := by
  unfold cpy ca cb sv
  refine Prod.ext ?_ rfl
  funext id j
  obtain ⟨a, b, c⟩ := id
  dsimp only
  by_cases e : b = 1 ∧ P a c j = true
  · obtain ⟨rfl, e⟩ := e
    have := RR_k ((hP _ _ _).mp e)
    rw [if_pos ⟨rfl, e⟩, if_pos ⟨this, rfl⟩, if_neg (by omega), if_neg (by omega), if_pos ⟨rfl, e⟩]
  · rw [if_neg e, if_neg e]
theorem sv_ma (al : pu_A) (P : Nat → Nat → Nat → Bool) (mu : pu_M) (v : ts_Mem) : sv al P (ma mu v) = ma mu (sv al P v) := by
  unfold sv ma
  refine Prod.ext ?_ rfl
  funext id j
  obtain ⟨a, b, c⟩ := id
  dsimp only
  by_cases e : b = 1 ∧ P a c j = true
  · obtain ⟨rfl, e⟩ := e
    rw [if_pos ⟨rfl, e⟩, if_neg (by simp), if_pos ⟨rfl, e⟩]
  · rw [if_neg e, if_neg e]
theorem SV_sv {al : pu_A} {P : Nat → Nat → Nat → Bool} {v : ts_Mem} {k i j : Nat} (h : P k i j = true) : SV (sv al P v) k i j = al k i j := by
  unfold SV ts_gI sv
  dsimp only
  rw [if_pos ⟨rfl, h⟩]
def rv (al : pu_A) (P : Nat → Nat → Nat → Bool) (w : ts_Mem) : pu_A := fun k i j => if P k i j = true then w.1 (k, 1, i) j else al k i j
theorem cpy_01 {P : Nat → Nat → Nat → Bool} (hP : ∀ a b c, P a b c = true ↔ RR a b c) (al be : pu_A) (w : ts_Mem) : cpy 0 1 P (ca al (cb be w)) = ca (rv al P w) (cb be w) := by
  unfold cpy ca cb rv
  refine Prod.ext ?_ rfl
  funext id j
  obtain ⟨a, b, c⟩ := id
  dsimp only
  by_cases e : b = 0 ∧ P a c j = true
  · obtain ⟨rfl, e⟩ := e
    have := RR_k ((hP _ _ _).mp e)
    rw [if_pos ⟨rfl, e⟩, if_neg (by omega), if_neg (by omega), if_pos ⟨this, rfl⟩, if_pos e]
  · rw [if_neg e]
    by_cases e2 : (1 ≤ a ∧ a ≤ 20) ∧ b = 0
    · rw [if_pos e2, if_pos e2, if_neg (fun q => e ⟨e2.2, q⟩)]
    · rw [if_neg e2, if_neg e2]
theorem k_snapshot {u : ts_Mem} {K : Nat} (hZ : Z u K) : ∃ u2, (f_X6_snapshot u).bind (fun q1 => (f_X7_snapshot q1.2).bind (fun q2 => if q1.1 = q2.1 then (some q2.2) else (none))) = some u2 ∧ Z u2 (K + 1) := by
  obtain ⟨al, be, mu, v, p, n, nx, rfl, hS, hR, hn, hX⟩ := hZ
  obtain ⟨g1, g2, g3, g4, g5, g6, g7, g8, g9, g10⟩ := hS.1
  obtain ⟨P, hc, hP⟩ := cpF (b0 := 1) (b1 := 0) (by omega)
  obtain ⟨mu', y1, y2, y3⟩ := pall_0 (um (um mu 30 0 (nI 0)) 30 33 (nI 1))
  have fr : ∀ a j, ¬ (a = 30 ∧ (j = 0 ∨ j = 33 ∨ j = 35 ∨ j = 36)) → ¬ a = 49 → mu' a j = mu a j := fun a j h1 h2 => by
    rw [y3 a j (by omega) h2]; simp only [um]; rw [if_neg (by omega), if_neg (by omega)]
  have m33 : mu' 30 33 = nI 1 := by rw [y3 _ _ (by omega) (by omega), umS]
  have hS' : pS al mu' p n nx := pS_mu hS (fun a j h => fr a j (by omega) (by omega))
  have ag : ∀ a b c, RR a b c → SV (sv al P v) a b c = al a b c := fun a b c h => SV_sv ((hP a b c).mpr h)
  have hc1 : f_X6_snapshot (ca al (cb be (ma mu v))) = some (nI n, ca al (cb (ua be 0 0 2 (nI 1)) (ma mu (sv al P v)))) := by
    unfold f_X6_snapshot
    rw [hc, sb, cpy_10 hP, sv_ma]
    simp (disch := omega) only [li0, li1, li2, li3, li4, li5, li6, li7, li8, li9, li10, li16, li17, li20, li30, li32, li48, li49, li50, li57, li60, li126, li147, nI_add, nI_sb, pk_mul, nI_m1, inrT, leT, leF, ltT, ltF, eqT, eqF, n1lt, m1lt, m1neg, m1nle, m1le, m1a1, m1a2, m1s, m1s', nI_cl, ↓tl, ↓sb, sb, sel, ser, ↓reduceIte, if_true, if_false, true_or, or_true, false_or, or_false, umS, umK, umJ, uaS, uaK, uaI, uaJ, cg1, cg2, cg3, cg4, cg5, cg6, cg7, cg8, cg9, cg10, cg11, cg12, cg13, cg14, cg15, cg16, cg17, cg18, cg19, cg20, cs1, cs2, cs3, cs4, cs5, cs6, cs7, cs8, cs9, cs10, cs11, cs12, cs13, cs14, cs15, cs16, cs17, cs18, cs19, cs20, cc17, cc18, cc19, cc20, xg0, xs0, xg21, xs21, xg22, xs22, xg23, xs23, xg24, xs24, xg25, xs25, xg26, xs26, xg27, xs27, xg28, xs28, xg29, xs29, bg0, bs0, bg21, bs21, bg22, bs22, bg23, bs23, bg24, bs24, bg25, bs25, bg26, bs26, bg27, bs27, bg28, bs28, bg29, bs29, g8]
  have hr1 : ∀ w, f_X7_snapshot (ma mu w) = some (nI n, ma mu' w) := fun w => by
    unfold f_X7_snapshot
    have : mu' 30 2 = nI n := by rw [fr _ _ (by omega) (by omega)]; exact g9
    simp (disch := omega) only [li0, li1, li2, li3, li4, li5, li6, li7, li8, li9, li10, li16, li17, li20, li30, li32, li48, li49, li50, li57, li60, li126, li147, nI_add, nI_sb, pk_mul, nI_m1, inrT, leT, leF, ltT, ltF, eqT, eqF, n1lt, m1lt, m1neg, m1nle, m1le, m1a1, m1a2, m1s, m1s', nI_cl, ↓tl, ↓sb, sb, sel, ser, ↓reduceIte, if_true, if_false, true_or, or_true, false_or, or_false, umS, umK, umJ, uaS, uaK, uaI, uaJ, mg30, mg31, mg32, mg33, mg34, mg35, mg36, mg37, mg38, mg39, mg40, mg41, mg42, mg43, mg44, mg45, mg46, mg47, mg48, mg49, ms30, ms31, ms32, ms33, ms34, ms35, ms36, ms37, ms38, ms39, ms40, ms41, ms42, ms43, ms44, ms45, ms46, ms47, ms48, ms49, y1, this]
  refine ⟨ca al (cb (ua be 0 0 2 (nI 1)) (ma mu' (sv al P v))), ?_, al, ua be 0 0 2 (nI 1), mu', sv al P v, p, n, nx, rfl, hS', hR, by omega, ?_, ?_, ?_⟩
  · rw [hc1, sb]
    dsimp only
    rw [mm, hr1, sb, mm]
    exact if_pos rfl
  · obtain ⟨⟨l, l1, l2, l3⟩, t1, t2, t3⟩ := hX.1
    refine ⟨⟨l, l1, ?_, ?_⟩, fun j hj => ?_, ?_, ?_⟩
    · rw [uaK _ _ _ _ _ _ (by omega)]; exact l2
    · rw [fr _ _ (by omega) (by omega)]; exact l3
    · rw [uaK _ _ _ _ _ _ (by omega), fr _ _ (by omega) (by omega)]; exact t1 j hj
    · rw [uaJ _ _ _ _ _ (by omega), fr _ _ (by omega) (by omega)]; exact t2
    · rw [fr _ _ (by omega) (by omega)]; exact t3
  · have hr := hX.2.1
    unfold pXr at hr ⊢
    have e1 := fun j => fr 45 j (by omega) (by omega)
    have e2 := fun j => fr 46 j (by omega) (by omega)
    have e3 := fun j => fr 47 j (by omega) (by omega)
    simp (disch := omega) only [uaK, e1, e2, e3]
    exact hr
  · refine ⟨by rw [uaS, m33], Or.inr ⟨m33, _, p, n, nx, y2, pS_ag hS ag (fun a j h => ?_), pR_ag hS hR ag, by omega⟩⟩
    unfold MM at h
    simp only [um]
    rw [if_neg (by omega), if_neg (by omega)]
theorem MM_of {mu' mk : pu_M} (h : mu' 30 1 = mk 30 1 ∧ mu' 30 2 = mk 30 2 ∧ mu' 30 3 = mk 30 3 ∧ mu' 30 14 = mk 30 14 ∧ (∀ k, k < 16 → mu' 31 k = mk 31 k) ∧ (∀ k, k < 16 → mu' 32 k = mk 32 k) ∧ (∀ k, k < 16 → mu' 33 k = mk 33 k) ∧ (∀ k, k < 16 → mu' 34 k = mk 34 k) ∧ (∀ k, k < 16 → mu' 35 k = mk 35 k) ∧ (∀ k, k < 1280 → mu' 36 k = mk 36 k) ∧ (∀ k, k < 16 → mu' 37 k = mk 37 k) ∧ (∀ k, k < 8 → mu' 38 k = mk 38 k) ∧ (∀ k, k < 640 → mu' 39 k = mk 39 k) ∧ (∀ k, k < 150 → mu' 40 k = mk 40 k) ∧ (∀ k, k < 9 → mu' 41 k = mk 41 k)) : ∀ a j, MM a j → mu' a j = mk a j := by
  obtain ⟨k0, k1, k2, k3, h0, h1, h2, h3, h4, h5, h6, h7, h8, h9, h10⟩ := h
  intro a j hm
  rcases hm with ⟨rfl, q | q | q | q⟩ | ⟨q1, q2, q3⟩ | ⟨rfl, q⟩ | ⟨rfl, q⟩ | ⟨rfl, q⟩ | ⟨rfl, q⟩ | ⟨rfl, q⟩ | ⟨rfl, q⟩
  · subst q; exact k0
  · subst q; exact k1
  · subst q; exact k2
  · subst q; exact k3
  · rcases (show a = 31 ∨ a = 32 ∨ a = 33 ∨ a = 34 ∨ a = 35 by omega) with rfl | rfl | rfl | rfl | rfl
    · exact h0 j q3
    · exact h1 j q3
    · exact h2 j q3
    · exact h3 j q3
    · exact h4 j q3
  · exact h6 j q
  · exact h5 j q
  · exact h7 j q
  · exact h8 j q
  · exact h9 j q
  · exact h10 j q
theorem k_restore {u : ts_Mem} {K : Nat} (hZ : Z u K) : ∃ u2, law1 (f_L_restore u) f_X7_restore = some u2 ∧ Z u2 (K + 1) := by
  obtain ⟨al, be, mu, v, p, n, nx, rfl, hS, hR, hn, hX⟩ := hZ
  obtain ⟨b2, hs⟩ := hX.2.2
  rcases hs with h0 | ⟨h33, mk, p', n', nx', hk, hS', hR', hn'⟩
  · refine mst_th (fl := f_L_restore) (fr := f_X7_restore) (c := 1) (x := nI 0) (al' := al) (be' := be) (mu' := um (um mu 30 0 (nI 0)) 30 0 (nI 1)) (fun w => ?_) (by omega) (by omega) (fun w => ?_) (umS _ _ _ _) (pS_0 _ (pS_0 _ hS)) hR (by omega) (pX_f (pX_f hX (fX_0 _ _) (Nat.le_refl _)) (fX_0 _ _) (by omega))
    · unfold f_L_restore f_X6_restore
      simp (disch := omega) only [li0, li1, li2, li3, li4, li5, li6, li7, li8, li9, li10, li16, li17, li20, li30, li32, li48, li49, li50, li57, li60, li126, li147, nI_add, nI_sb, pk_mul, nI_m1, inrT, leT, leF, ltT, ltF, eqT, eqF, n1lt, m1lt, m1neg, m1nle, m1le, m1a1, m1a2, m1s, m1s', nI_cl, ↓tl, ↓sb, sb, sel, ser, ↓reduceIte, if_true, if_false, true_or, or_true, false_or, or_false, umS, umK, umJ, uaS, uaK, uaI, uaJ, xg0, xs0, xg21, xs21, xg22, xs22, xg23, xs23, xg24, xs24, xg25, xs25, xg26, xs26, xg27, xs27, xg28, xs28, xg29, xs29, bg0, bs0, bg21, bs21, bg22, bs22, bg23, bs23, bg24, bs24, bg25, bs25, bg26, bs26, bg27, bs27, bg28, bs28, bg29, bs29, stAA, stAS, stAI, stAE, stAU, stAM, stSA, stSS, stSI, stSE, stSU, stSM, stIA, stIS, stII, stIE, stIU, stIM, stEA, stES, stEI, stEE, stEU, stEM, stUA, stUS, stUI, stUE, stUU, stUM, stMA, stMS, stMI, stME, stMU, stMM, q_A0, q_A1, q_S0, q_S1, q_I0, q_I1, q_E0, q_E1, b2, h0]
    · unfold f_X7_restore
      simp (disch := omega) only [li0, li1, li2, li3, li4, li5, li6, li7, li8, li9, li10, li16, li17, li20, li30, li32, li48, li49, li50, li57, li60, li126, li147, nI_add, nI_sb, pk_mul, nI_m1, inrT, leT, leF, ltT, ltF, eqT, eqF, n1lt, m1lt, m1neg, m1nle, m1le, m1a1, m1a2, m1s, m1s', nI_cl, ↓tl, ↓sb, sb, sel, ser, ↓reduceIte, if_true, if_false, true_or, or_true, false_or, or_false, umS, umK, umJ, uaS, uaK, uaI, uaJ, mg30, mg31, mg32, mg33, mg34, mg35, mg36, mg37, mg38, mg39, mg40, mg41, mg42, mg43, mg44, mg45, mg46, mg47, mg48, mg49, ms30, ms31, ms32, ms33, ms34, ms35, ms36, ms37, ms38, ms39, ms40, ms41, ms42, ms43, ms44, ms45, ms46, ms47, ms48, ms49, h0, r_fl]
  · obtain ⟨P, hc, hP⟩ := cpF (b0 := 0) (b1 := 1) (by omega)
    have hk0 : pKp (um mu 30 0 (nI 0)) mk := by
      unfold pKp at hk ⊢
      simp (disch := omega) only [umK]
      exact hk
    obtain ⟨mu', y1, z1, z2, z3, z4, z5, z6, z7, z8, z9, z10, z11, z12, z13, z14, z15, y3⟩ := pall_1 hk0
    have hM := MM_of ⟨z1, z2, z3, z4, z5, z6, z7, z8, z9, z10, z11, z12, z13, z14, z15⟩
    have fr : ∀ a x, (a = 30 ∧ (x = 20 ∨ x = 24 ∨ x = 33)) ∨ 41 < a → mu' a x = mu a x := fun a x h => by
      rw [y3 a x (by omega)]; unfold um; rw [if_neg (by omega)]
    have ag : ∀ a b c, RR a b c → rv al P (ma mu v) a b c = SV v a b c := fun a b c h => by
      unfold rv
      rw [if_pos ((hP a b c).mpr h)]
      unfold SV ts_gI ma
      dsimp only
      rw [if_neg (by simp)]
    obtain ⟨g1, g2, g3, g4, g5, g6, g7, g8, g9, g10⟩ := hS'.1
    have e12 : rv al P (ma mu v) 1 0 2 = nI n' := by rw [ag _ _ _ (by unfold RR; omega)]; exact g8
    have hl : f_L_restore (ca al (cb be (ma mu v))) = some (nI 0, ts_sJ (ca (rv al P (ma mu v)) (cb be (ma mu v))) (50, 0, 0) 0 (nI n').toInt64) := by
      unfold f_L_restore f_X6_restore
      simp (disch := omega) only [li0, li1, li2, li3, li4, li5, li6, li7, li8, li9, li10, li16, li17, li20, li30, li32, li48, li49, li50, li57, li60, li126, li147, nI_add, nI_sb, pk_mul, nI_m1, inrT, leT, leF, ltT, ltF, eqT, eqF, n1lt, m1lt, m1neg, m1nle, m1le, m1a1, m1a2, m1s, m1s', nI_cl, ↓tl, ↓sb, sb, sel, ser, ↓reduceIte, if_true, if_false, true_or, or_true, false_or, or_false, umS, umK, umJ, uaS, uaK, uaI, uaJ, xg0, xs0, xg21, xs21, xg22, xs22, xg23, xs23, xg24, xs24, xg25, xs25, xg26, xs26, xg27, xs27, xg28, xs28, xg29, xs29, bg0, bs0, bg21, bs21, bg22, bs22, bg23, bs23, bg24, bs24, bg25, bs25, bg26, bs26, bg27, bs27, bg28, bs28, bg29, bs29, stAA, stAS, stAI, stAE, stAU, stAM, stSA, stSS, stSI, stSE, stSU, stSM, stIA, stIS, stII, stIE, stIU, stIM, stEA, stES, stEI, stEE, stEU, stEM, stUA, stUS, stUI, stUE, stUU, stUM, stMA, stMS, stMI, stME, stMU, stMM, q_A0, q_A1, q_S0, q_S1, q_I0, q_I1, q_E0, q_E1, b2, h33, hc, cpy_01 hP, cg1, cg2, cg3, cg4, cg5, cg6, cg7, cg8, cg9, cg10, cg11, cg12, cg13, cg14, cg15, cg16, cg17, cg18, cg19, cg20, cs1, cs2, cs3, cs4, cs5, cs6, cs7, cs8, cs9, cs10, cs11, cs12, cs13, cs14, cs15, cs16, cs17, cs18, cs19, cs20, cc17, cc18, cc19, cc20, e12]
    have hr : ∀ w, f_X7_restore (ma mu w) = some (nI n', ma mu' w) := fun w => by
      unfold f_X7_restore
      have : mu' 30 2 = nI n' := by rw [z2]; exact g9
      simp (disch := omega) only [li0, li1, li2, li3, li4, li5, li6, li7, li8, li9, li10, li16, li17, li20, li30, li32, li48, li49, li50, li57, li60, li126, li147, nI_add, nI_sb, pk_mul, nI_m1, inrT, leT, leF, ltT, ltF, eqT, eqF, n1lt, m1lt, m1neg, m1nle, m1le, m1a1, m1a2, m1s, m1s', nI_cl, ↓tl, ↓sb, sb, sel, ser, ↓reduceIte, if_true, if_false, true_or, or_true, false_or, or_false, umS, umK, umJ, uaS, uaK, uaI, uaJ, mg30, mg31, mg32, mg33, mg34, mg35, mg36, mg37, mg38, mg39, mg40, mg41, mg42, mg43, mg44, mg45, mg46, mg47, mg48, mg49, ms30, ms31, ms32, ms33, ms34, ms35, ms36, ms37, ms38, ms39, ms40, ms41, ms42, ms43, ms44, ms45, ms46, ms47, ms48, ms49, h33, y1, this]
    refine ⟨ca (rv al P (ma mu v)) (cb be (ma mu' (ts_sJ v (50, 0, 0) 0 (nI n').toInt64))), ?_, rv al P (ma mu v), be, mu', ts_sJ v (50, 0, 0) 0 (nI n').toInt64, p', n', nx', rfl, pS_ag hS' ag hM, pR_ag hS' hR' ag, by omega, ?_⟩
    · refine law1_ok (r := nI n') hl ?_ ?_ ?_
      · rw [ca_J, cb_J, ma_J, mm, hr, mm]
      · rw [mm, mg30, y3 _ _ (by omega), umS]
      · show ts_gJ (ts_sJ v (50, 0, 0) 0 (nI n').toInt64) (50, 0, 0) 0 = (nI n').toInt64
        simp [ts_gJ, ts_sJ]
    · exact pX_f (v := ts_sJ v (50, 0, 0) 0 (nI n').toInt64) (K := K) hX (fun a j h => fr a j (by omega)) (by omega)
