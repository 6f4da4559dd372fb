/-! an addition; a part of a program -/
theorem opA {be : pu_A} {mu : pu_M} {L pos m : Nat} (h : pQ be mu L pos m) (hm : m ≤ 19) : oEnd be mu L pos m f_X3_takeAddition roA := by
  have hq := h
  obtain ⟨h1, h2, h3, h4, h5, h6, h7, h8, h9, h10, h11, h12, h13⟩ := hq
  rcases it_case (pQ_43 (nI 2) h (Nat.le_refl _)) with ⟨d, d1, d2, d3, d4⟩ | ⟨d2, d3⟩
  · have q1 := pQ_43 (nI 0) (pQ_43 (nI d) (pQ_mv (pQ_43 (nI 2) h (Nat.le_refl _)) d4) (show 3 * m ≤ 3 * m + 1 by omega)) (show 3 * m ≤ 3 * m + 2 by omega)
    have F1 : pFb be (ua be 21 0 7 (nI (pos + 1))) := pFb_u _ _ (by omega)
    have G1 : pFm mu (um (um (um (um mu 43 (3 * m) (nI 2)) 30 22 (nI (pos + 1))) 43 (3 * m + 1) (nI d)) 43 (3 * m + 2) (nI 0)) := pFm_trans (pFm_trans (pFm_trans (pFm_u _ _ (by omega)) (pFm_u _ _ (by omega))) (pFm_u _ _ (by omega))) (pFm_u _ _ (by omega))
    have A0 : um (um (um (um mu 43 (3 * m) (nI 2)) 30 22 (nI (pos + 1))) 43 (3 * m + 1) (nI d)) 43 (3 * m + 2) (nI 0) 43 (3 * m) = nI 2 := by simp (disch := omega) only [umJ, umK, umS]
    have A1 : um (um (um (um mu 43 (3 * m) (nI 2)) 30 22 (nI (pos + 1))) 43 (3 * m + 1) (nI d)) 43 (3 * m + 2) (nI 0) 43 (3 * m + 1) = nI d := by simp (disch := omega) only [umJ, umK, umS]
    have d3' : ∀ u, f_X7_digit (nI 55) (ma (um mu 43 (3 * m) (nI 2)) u) = some (nI d, ma (um (um mu 43 (3 * m) (nI 2)) 30 22 (nI (pos + 1))) u) := d3
    have d2' : ∀ u, f_X3_takeItem (cb be u) = some (nI d, cb (ua be 21 0 7 (nI (pos + 1))) u) := d2
    have B3 : ua be 21 0 7 (nI (pos + 1)) 21 0 7 = nI (pos + 1) := uaS _ _ _ _ _
    revert q1 F1 G1 A0 A1 B3
    generalize hE : um (um (um (um mu 43 (3 * m) (nI 2)) 30 22 (nI (pos + 1))) 43 (3 * m + 1) (nI d)) 43 (3 * m + 2) (nI 0) = mu2
    generalize hB : ua be 21 0 7 (nI (pos + 1)) = be2
    rw [hB] at d2'
    intro q1 F1 G1 A0 A1 B3
    have tail : ∀ sg, (sg = 0 ∨ sg = 1) → pos + 1 < L → (∀ u, (f_X3_takeNumber (cb (ua be2 21 0 7 (nI (pos + 1 + 1))) u)) = (f_X3_takeNumber (cb (ua be2 21 0 7 (nI (pos + 1 + 1))) u)) → f_X3_takeAddition (cb be u) = (f_X3_takeNumber (cb (ua be2 21 0 7 (nI (pos + 1 + 1))) u)).bind (fun q7 => if q7.1 < nI 0 then some (nI 0, q7.2) else (f_X3_keepOperation (nI 2) (nI d) (if sg = 0 then q7.1 else - q7.1) q7.2).bind (fun q8 => if q8.1 = nI 0 then some (nI 0, q8.2) else some (nI 1, q8.2)))) → (∀ u, roA (ma mu u) = (f_X7_readNumber (ma (um mu2 30 22 (nI (pos + 1 + 1))) u)).bind (fun q24 => ts_let (ts_sI q24.2 (43, 0, 0) (3 * m + 2) (if sg = 0 then q24.1 else - q24.1)) (fun u26 => ts_let (ts_sI u26 (30, 0, 0) 26 ((ts_gI u26 (30, 0, 0) 26) + (1 : Int32))) (fun u27 => some u27)))) → oEnd be mu L pos m f_X3_takeAddition roA := by
      intro sg hsg hp hc hr
      have y4 := pQ_mv q1 hp
      have y6 := pFb_trans F1 (pFb_u (k := 21) (i := 0) (j := 7) be2 (nI (pos + 1 + 1)) (by omega))
      have y7 := pFm_trans G1 (pFm_u (k := 30) (j := 22) mu2 (nI (pos + 1 + 1)) (by omega))
      have y8 : ∀ j, um mu2 30 22 (nI (pos + 1 + 1)) 43 j = mu2 43 j := fun j => umK _ _ _ _ (by omega)
      rcases nm y4 with ⟨be4, mu4, pos4, v, w1, w2, w3, w4, w5, w6, w7, w8⟩ | ⟨w1, w2⟩
      · left
        have hk := fun x u => c_kp (be := be4) (nI 2) (nI d) x u w3.2.2.1 (show m < 20 by omega)
        have B0 : mu4 43 (3 * m) = nI 2 := by rw [w8, y8]; exact A0
        have B1 : mu4 43 (3 * m + 1) = nI d := by rw [w8, y8]; exact A1
        have B8 := w3.2.2.2.2.2.2.2.1
        have q4 := fun x => pQ_kp (kd := 2) (it := d) (x := x) (pQ_43 x w3 (show 3 * m ≤ 3 * m + 2 by omega)) (by omega) d1 (by rw [umJ _ _ _ (by omega)]; exact B0) (by rw [umJ _ _ _ (by omega)]; exact B1) (umS _ _ _ _)
        refine ⟨_, _, pos4, fun u => ?_, fun u => ?_, q4 (if sg = 0 then nI v else - nI v), by omega, pFb_trans (pFb_trans y6 w6) (pFb_kp _ _ _ _ _), pFm_trans (pFm_trans (pFm_trans y7 w7) (pFm_u _ _ (by omega))) (pFm_u _ _ (by omega))⟩
        · rw [hc u rfl, w1, sb]
          simp (disch := omega) only [li0, li1, li2, li3, li4, li5, li6, li7, li8, li9, li10, li16, li17, li20, li30, li32, li48, li49, li50, li57, li60, li126, li147, nI_add, nI_sb, pk_mul, nI_m1, inrT, leT, leF, ltT, ltF, eqT, eqF, n1lt, m1lt, m1neg, m1nle, m1le, m1a1, m1a2, m1s, m1s', nI_cl, ↓tl, ↓sb, sb, sel, ser, ↓reduceIte, if_true, if_false, true_or, or_true, false_or, or_false, umS, umK, umJ, uaS, uaK, uaI, uaJ, hk]
        · rw [hr, w2, sb]
          simp (disch := omega) only [li0, li1, li2, li3, li4, li5, li6, li7, li8, li9, li10, li16, li17, li20, li30, li32, li48, li49, li50, li57, li60, li126, li147, nI_add, nI_sb, pk_mul, nI_m1, inrT, leT, leF, ltT, ltF, eqT, eqF, n1lt, m1lt, m1neg, m1nle, m1le, m1a1, m1a2, m1s, m1s', nI_cl, ↓tl, ↓sb, sb, sel, ser, ↓reduceIte, if_true, if_false, true_or, or_true, false_or, or_false, umS, umK, umJ, uaS, uaK, uaI, uaJ, mg30, mg31, mg32, mg33, mg34, mg35, mg36, mg37, mg38, mg39, mg40, mg41, mg42, mg43, mg44, mg45, mg46, mg47, mg48, mg49, ms30, ms31, ms32, ms33, ms34, ms35, ms36, ms37, ms38, ms39, ms40, ms41, ms42, ms43, ms44, ms45, ms46, ms47, ms48, ms49, B8]
      · right
        have B8 := y4.2.2.2.2.2.2.2.1
        refine ⟨ua be2 21 0 7 (nI (pos + 1 + 1)), um (um (um (um mu2 30 22 (nI (pos + 1 + 1))) 30 23 (nI (pos + 1 + 1))) 43 (3 * m + 2) (if sg = 0 then nI 0 else - nI 0)) 30 26 (nI (m + 1)), pos + 1 + 1, fun u => ?_, fun u => ?_, y4.2.1, by have := y4.2.2.2.2.2.2.2.2.2.2.1; omega, ?_, ?_, y6, ?_⟩
        · rw [hc u rfl, w1, sb]
          simp (disch := omega) only [li0, li1, li2, li3, li4, li5, li6, li7, li8, li9, li10, li16, li17, li20, li30, li32, li48, li49, li50, li57, li60, li126, li147, nI_add, nI_sb, pk_mul, nI_m1, inrT, leT, leF, ltT, ltF, eqT, eqF, n1lt, m1lt, m1neg, m1nle, m1le, m1a1, m1a2, m1s, m1s', nI_cl, ↓tl, ↓sb, sb, sel, ser, ↓reduceIte, if_true, if_false, true_or, or_true, false_or, or_false, umS, umK, umJ, uaS, uaK, uaI, uaJ]
        · rw [hr, w2, sb]
          have B9 : mu2 30 26 = nI m := by rw [umJ _ _ _ (by omega)] at B8; exact B8
          simp (disch := omega) only [li0, li1, li2, li3, li4, li5, li6, li7, li8, li9, li10, li16, li17, li20, li30, li32, li48, li49, li50, li57, li60, li126, li147, nI_add, nI_sb, pk_mul, nI_m1, inrT, leT, leF, ltT, ltF, eqT, eqF, n1lt, m1lt, m1neg, m1nle, m1le, m1a1, m1a2, m1s, m1s', nI_cl, ↓tl, ↓sb, sb, sel, ser, ↓reduceIte, if_true, if_false, true_or, or_true, false_or, or_false, umS, umK, umJ, uaS, uaK, uaI, uaJ, mg30, mg31, mg32, mg33, mg34, mg35, mg36, mg37, mg38, mg39, mg40, mg41, mg42, mg43, mg44, mg45, mg46, mg47, mg48, mg49, ms30, ms31, ms32, ms33, ms34, ms35, ms36, ms37, ms38, ms39, ms40, ms41, ms42, ms43, ms44, ms45, ms46, ms47, ms48, ms49, B9]
        · simp (disch := omega) only [umJ, umK, umS]
        · simp (disch := omega) only [umJ, umK, umS]
        · exact pFm_trans (pFm_trans (pFm_trans y7 (pFm_u _ _ (by omega))) (pFm_u _ _ (by omega))) (pFm_u _ _ (by omega))
    by_cases s1 : pos + 1 < L ∧ be2 22 0 (pos + 1) = nI 45
    · obtain ⟨x1, x2⟩ := sg_hit q1 s1.1 s1.2
      obtain ⟨y1, y2⟩ := sg_miss (s := 43) q1 (by omega) (fun q => by rw [s1.2] at q; exact absurd q.2 (by decide))
      refine tail 1 (Or.inr rfl) s1.1 (fun u _ => ?_) (fun u => ?_)
      · unfold f_X3_takeAddition
        simp (disch := omega) only [li0, li1, li2, li3, li4, li5, li6, li7, li8, li9, li10, li16, li17, li20, li30, li32, li48, li49, li50, li57, li60, li126, li147, nI_add, nI_sb, pk_mul, nI_m1, inrT, leT, leF, ltT, ltF, eqT, eqF, n1lt, m1lt, m1neg, m1nle, m1le, m1a1, m1a2, m1s, m1s', nI_cl, ↓tl, ↓sb, sb, sel, ser, ↓reduceIte, if_true, if_false, true_or, or_true, false_or, or_false, umS, umK, umJ, uaS, uaK, uaI, uaJ, li43, li45, li55, li61, li97, li99, li114, li119, li120, pl0, m1mul, p1mul, d2', x1]
        rfl
      · unfold roA
        simp (maxSteps := 1000000) (disch := omega) only [li0, li1, li2, li3, li4, li5, li6, li7, li8, li9, li10, li16, li17, li20, li30, li32, li48, li49, li50, li57, li60, li126, li147, nI_add, nI_sb, pk_mul, nI_m1, inrT, leT, leF, ltT, ltF, eqT, eqF, n1lt, m1lt, m1neg, m1nle, m1le, m1a1, m1a2, m1s, m1s', nI_cl, ↓tl, ↓sb, sb, sel, ser, ↓reduceIte, if_true, if_false, true_or, or_true, false_or, or_false, umS, umK, umJ, uaS, uaK, uaI, uaJ, li43, li45, li55, li61, li97, li99, li114, li119, li120, pl0, m1mul, p1mul, mg30, mg31, mg32, mg33, mg34, mg35, mg36, mg37, mg38, mg39, mg40, mg41, mg42, mg43, mg44, mg45, mg46, mg47, mg48, mg49, ms30, ms31, ms32, ms33, ms34, ms35, ms36, ms37, ms38, ms39, ms40, ms41, ms42, ms43, ms44, ms45, ms46, ms47, ms48, ms49, d3', hE, x2, y2, h8]
        rfl
    · obtain ⟨x1, x2⟩ := sg_miss q1 (by omega) s1
      by_cases s2 : pos + 1 < L ∧ be2 22 0 (pos + 1) = nI 43
      · obtain ⟨y1, y2⟩ := sg_hit q1 s2.1 s2.2
        refine tail 0 (Or.inl rfl) s2.1 (fun u _ => ?_) (fun u => ?_)
        · unfold f_X3_takeAddition
          simp (disch := omega) only [li0, li1, li2, li3, li4, li5, li6, li7, li8, li9, li10, li16, li17, li20, li30, li32, li48, li49, li50, li57, li60, li126, li147, nI_add, nI_sb, pk_mul, nI_m1, inrT, leT, leF, ltT, ltF, eqT, eqF, n1lt, m1lt, m1neg, m1nle, m1le, m1a1, m1a2, m1s, m1s', nI_cl, ↓tl, ↓sb, sb, sel, ser, ↓reduceIte, if_true, if_false, true_or, or_true, false_or, or_false, umS, umK, umJ, uaS, uaK, uaI, uaJ, li43, li45, li55, li61, li97, li99, li114, li119, li120, pl0, m1mul, p1mul, d2', x1, y1]
          rfl
        · unfold roA
          simp (maxSteps := 1000000) (disch := omega) only [li0, li1, li2, li3, li4, li5, li6, li7, li8, li9, li10, li16, li17, li20, li30, li32, li48, li49, li50, li57, li60, li126, li147, nI_add, nI_sb, pk_mul, nI_m1, inrT, leT, leF, ltT, ltF, eqT, eqF, n1lt, m1lt, m1neg, m1nle, m1le, m1a1, m1a2, m1s, m1s', nI_cl, ↓tl, ↓sb, sb, sel, ser, ↓reduceIte, if_true, if_false, true_or, or_true, false_or, or_false, umS, umK, umJ, uaS, uaK, uaI, uaJ, li43, li45, li55, li61, li97, li99, li114, li119, li120, pl0, m1mul, p1mul, mg30, mg31, mg32, mg33, mg34, mg35, mg36, mg37, mg38, mg39, mg40, mg41, mg42, mg43, mg44, mg45, mg46, mg47, mg48, mg49, ms30, ms31, ms32, ms33, ms34, ms35, ms36, ms37, ms38, ms39, ms40, ms41, ms42, ms43, ms44, ms45, ms46, ms47, ms48, ms49, d3', hE, y2, h8]
      · obtain ⟨y1, y2⟩ := sg_miss q1 (by omega) s2
        right
        obtain ⟨k1, k2, k3, k4, k5, k6, k7, k8, k9, k10, k11, -, -⟩ := q1
        have z0 := fun u => r_fa (mu := mu2) u k7 k6
        obtain ⟨z1, z2, z3⟩ := dead (mu := um mu2 30 23 (nI (pos + 1))) (e := pos + 1) (pos := pos + 1) (L := L) (umS _ _ _ _) (by omega) (by rw [umJ _ _ _ (by omega)]; exact k6) (by rw [umJ _ _ _ (by omega)]; exact k5) k10 k11
        refine ⟨be2, um (um (um mu2 30 23 (nI (pos + 1))) 43 (3 * m + 2) (-nI 0)) 30 26 (nI (m + 1)), pos + 1, fun u => ?_, fun u => ?_, B3, by omega, ?_, ?_, F1, ?_⟩
        · unfold f_X3_takeAddition
          simp (disch := omega) only [li0, li1, li2, li3, li4, li5, li6, li7, li8, li9, li10, li16, li17, li20, li30, li32, li48, li49, li50, li57, li60, li126, li147, nI_add, nI_sb, pk_mul, nI_m1, inrT, leT, leF, ltT, ltF, eqT, eqF, n1lt, m1lt, m1neg, m1nle, m1le, m1a1, m1a2, m1s, m1s', nI_cl, ↓tl, ↓sb, sb, sel, ser, ↓reduceIte, if_true, if_false, true_or, or_true, false_or, or_false, umS, umK, umJ, uaS, uaK, uaI, uaJ, li43, li45, li55, li61, li97, li99, li114, li119, li120, pl0, m1mul, p1mul, d2', x1, y1]
        · unfold roA
          simp (maxSteps := 1000000) (disch := omega) only [li0, li1, li2, li3, li4, li5, li6, li7, li8, li9, li10, li16, li17, li20, li30, li32, li48, li49, li50, li57, li60, li126, li147, nI_add, nI_sb, pk_mul, nI_m1, inrT, leT, leF, ltT, ltF, eqT, eqF, n1lt, m1lt, m1neg, m1nle, m1le, m1a1, m1a2, m1s, m1s', nI_cl, ↓tl, ↓sb, sb, sel, ser, ↓reduceIte, if_true, if_false, true_or, or_true, false_or, or_false, umS, umK, umJ, uaS, uaK, uaI, uaJ, li43, li45, li55, li61, li97, li99, li114, li119, li120, pl0, m1mul, p1mul, mg30, mg31, mg32, mg33, mg34, mg35, mg36, mg37, mg38, mg39, mg40, mg41, mg42, mg43, mg44, mg45, mg46, mg47, mg48, mg49, ms30, ms31, ms32, ms33, ms34, ms35, ms36, ms37, ms38, ms39, ms40, ms41, ms42, ms43, ms44, ms45, ms46, ms47, ms48, ms49, d3', hE, x2, y2, z0, z1, z3, h8, k8]
        · simp (disch := omega) only [umJ, umK, umS]
        · simp (disch := omega) only [umJ, umK, umS, k6]
        · exact pFm_trans (pFm_trans (pFm_trans G1 (pFm_u _ _ (by omega))) (pFm_u _ _ (by omega))) (pFm_u _ _ (by omega))
  · right
    obtain ⟨z1, z2, z3⟩ := dead (mu := um (um (um (um mu 43 (3 * m) (nI 2)) 30 23 (nI pos)) 43 (3 * m + 1) (nI 0)) 43 (3 * m + 2) (nI 0)) (e := pos) (pos := pos) (L := L) (by simp (disch := omega) only [umJ, umK, umS]) (by omega) (by simp (disch := omega) only [umJ, umK, umS, h6]) (by simp (disch := omega) only [umJ, umK, umS, h5]) h10 h11
    refine ⟨be, um (um (um (um (um (um mu 43 (3 * m) (nI 2)) 30 23 (nI pos)) 43 (3 * m + 1) (nI 0)) 43 (3 * m + 2) (nI 0)) 43 (3 * m + 2) (-nI 0)) 30 26 (nI (m + 1)), pos, fun u => ?_, fun u => ?_, h2, by omega, ?_, ?_, pFb_refl _, ?_⟩
    · unfold f_X3_takeAddition
      simp (disch := omega) only [li0, li1, li2, li3, li4, li5, li6, li7, li8, li9, li10, li16, li17, li20, li30, li32, li48, li49, li50, li57, li60, li126, li147, nI_add, nI_sb, pk_mul, nI_m1, inrT, leT, leF, ltT, ltF, eqT, eqF, n1lt, m1lt, m1neg, m1nle, m1le, m1a1, m1a2, m1s, m1s', nI_cl, ↓tl, ↓sb, sb, sel, ser, ↓reduceIte, if_true, if_false, true_or, or_true, false_or, or_false, umS, umK, umJ, uaS, uaK, uaI, uaJ, d2]
    · unfold roA
      simp (maxSteps := 1000000) (disch := omega) only [li0, li1, li2, li3, li4, li5, li6, li7, li8, li9, li10, li16, li17, li20, li30, li32, li48, li49, li50, li57, li60, li126, li147, nI_add, nI_sb, pk_mul, nI_m1, inrT, leT, leF, ltT, ltF, eqT, eqF, n1lt, m1lt, m1neg, m1nle, m1le, m1a1, m1a2, m1s, m1s', nI_cl, ↓tl, ↓sb, sb, sel, ser, ↓reduceIte, if_true, if_false, true_or, or_true, false_or, or_false, umS, umK, umJ, uaS, uaK, uaI, uaJ, li43, li45, li55, li61, li97, li99, li114, li119, li120, pl0, m1mul, p1mul, mg30, mg31, mg32, mg33, mg34, mg35, mg36, mg37, mg38, mg39, mg40, mg41, mg42, mg43, mg44, mg45, mg46, mg47, mg48, mg49, ms30, ms31, ms32, ms33, ms34, ms35, ms36, ms37, ms38, ms39, ms40, ms41, ms42, ms43, ms44, ms45, ms46, ms47, ms48, ms49, d3, z1, z2, z3, h8]
    · simp (disch := omega) only [umJ, umK, umS]
    · simp (disch := omega) only [umJ, umK, umS, h6]
    · exact pFm_trans (pFm_trans (pFm_trans (pFm_trans (pFm_trans (pFm_u _ _ (by omega)) (pFm_u _ _ (by omega))) (pFm_u _ _ (by omega))) (pFm_u _ _ (by omega))) (pFm_u _ _ (by omega))) (pFm_u _ _ (by omega))
/-- one part of a program: an end, an operation, or a fault -/
theorem part {be : pu_A} {mu : pu_M} {L pos m : Nat} (h : pQ be mu L pos m) (h3m : 3 * m ≤ pos) :
    (∃ e, e ≤ 2 ∧ 1 ≤ e ∧ pos < L ∧ (∀ u, f_X3_takePart (cb be u) = some (nI 1, cb (ua (ua be 21 0 7 (nI (pos + 1))) 21 0 6 (nI e)) u)) ∧ (∀ u, f_X7_ends (ma mu u) = some (nI 1, ma (um (um mu 30 22 (nI (pos + 1))) 30 27 (nI e)) u))) ∨
    ((∀ u, f_X7_ends (ma mu u) = some (nI 0, ma mu u)) ∧
      ((∃ be' mu' pos', (∀ u, f_X3_takePart (cb be u) = some (nI 1, cb be' u)) ∧ (∀ u, f_X7_readOperation (ma mu u) = some (ma mu' u)) ∧ pQ be' mu' L pos' (m + 1) ∧ pos + 1 < pos' ∧ pFb be be' ∧ pFm mu mu') ∨
       (∃ be' mu' e, (∀ u, f_X3_takePart (cb be u) = some (nI 0, cb be' u)) ∧ (∀ u, f_X7_readOperation (ma mu u) = some (ma mu' u)) ∧ be' 21 0 7 = nI e ∧ e ≤ 60 ∧ mu' 30 23 = nI e ∧ mu' 30 22 = nI e ∧ pFb be be' ∧ pFm mu mu'))) := by
  have hq := h
  obtain ⟨h1, h2, h3, h4, h5, h6, h7, h8, h9, h10, h11, h12, h13⟩ := hq
  have hus : um mu 30 27 (nI 0) = mu := um_self h9
  by_cases s1 : pos < L ∧ be 22 0 pos = nI 99
  · left
    obtain ⟨x1, x2⟩ := sg_hit h s1.1 s1.2
    refine ⟨1, by omega, by omega, s1.1, fun u => ?_, fun u => ?_⟩
    · unfold f_X3_takePart
      simp (disch := omega) only [li0, li1, li2, li3, li4, li5, li6, li7, li8, li9, li10, li16, li17, li20, li30, li32, li48, li49, li50, li57, li60, li126, li147, nI_add, nI_sb, pk_mul, nI_m1, inrT, leT, leF, ltT, ltF, eqT, eqF, n1lt, m1lt, m1neg, m1nle, m1le, m1a1, m1a2, m1s, m1s', nI_cl, ↓tl, ↓sb, sb, sel, ser, ↓reduceIte, if_true, if_false, true_or, or_true, false_or, or_false, umS, umK, umJ, uaS, uaK, uaI, uaJ, li43, li45, li55, li61, li97, li99, li114, li119, li120, pl0, m1mul, p1mul, bg0, bs0, bg21, bs21, bg22, bs22, bg23, bs23, bg24, bs24, bg25, bs25, bg26, bs26, bg27, bs27, bg28, bs28, bg29, bs29, x1]
    · unfold f_X7_ends
      simp (disch := omega) only [li0, li1, li2, li3, li4, li5, li6, li7, li8, li9, li10, li16, li17, li20, li30, li32, li48, li49, li50, li57, li60, li126, li147, nI_add, nI_sb, pk_mul, nI_m1, inrT, leT, leF, ltT, ltF, eqT, eqF, n1lt, m1lt, m1neg, m1nle, m1le, m1a1, m1a2, m1s, m1s', nI_cl, ↓tl, ↓sb, sb, sel, ser, ↓reduceIte, if_true, if_false, true_or, or_true, false_or, or_false, umS, umK, umJ, uaS, uaK, uaI, uaJ, li43, li45, li55, li61, li97, li99, li114, li119, li120, pl0, m1mul, p1mul, mg30, mg31, mg32, mg33, mg34, mg35, mg36, mg37, mg38, mg39, mg40, mg41, mg42, mg43, mg44, mg45, mg46, mg47, mg48, mg49, ms30, ms31, ms32, ms33, ms34, ms35, ms36, ms37, ms38, ms39, ms40, ms41, ms42, ms43, ms44, ms45, ms46, ms47, ms48, ms49, x2]
  obtain ⟨x1, x2⟩ := sg_miss h (by omega) s1
  by_cases s2 : pos < L ∧ be 22 0 pos = nI 120
  · left
    obtain ⟨y1, y2⟩ := sg_hit h s2.1 s2.2
    refine ⟨2, by omega, by omega, s2.1, fun u => ?_, fun u => ?_⟩
    · unfold f_X3_takePart
      simp (disch := omega) only [li0, li1, li2, li3, li4, li5, li6, li7, li8, li9, li10, li16, li17, li20, li30, li32, li48, li49, li50, li57, li60, li126, li147, nI_add, nI_sb, pk_mul, nI_m1, inrT, leT, leF, ltT, ltF, eqT, eqF, n1lt, m1lt, m1neg, m1nle, m1le, m1a1, m1a2, m1s, m1s', nI_cl, ↓tl, ↓sb, sb, sel, ser, ↓reduceIte, if_true, if_false, true_or, or_true, false_or, or_false, umS, umK, umJ, uaS, uaK, uaI, uaJ, li43, li45, li55, li61, li97, li99, li114, li119, li120, pl0, m1mul, p1mul, bg0, bs0, bg21, bs21, bg22, bs22, bg23, bs23, bg24, bs24, bg25, bs25, bg26, bs26, bg27, bs27, bg28, bs28, bg29, bs29, x1, y1]
    · unfold f_X7_ends
      simp (disch := omega) only [li0, li1, li2, li3, li4, li5, li6, li7, li8, li9, li10, li16, li17, li20, li30, li32, li48, li49, li50, li57, li60, li126, li147, nI_add, nI_sb, pk_mul, nI_m1, inrT, leT, leF, ltT, ltF, eqT, eqF, n1lt, m1lt, m1neg, m1nle, m1le, m1a1, m1a2, m1s, m1s', nI_cl, ↓tl, ↓sb, sb, sel, ser, ↓reduceIte, if_true, if_false, true_or, or_true, false_or, or_false, umS, umK, umJ, uaS, uaK, uaI, uaJ, li43, li45, li55, li61, li97, li99, li114, li119, li120, pl0, m1mul, p1mul, mg30, mg31, mg32, mg33, mg34, mg35, mg36, mg37, mg38, mg39, mg40, mg41, mg42, mg43, mg44, mg45, mg46, mg47, mg48, mg49, ms30, ms31, ms32, ms33, ms34, ms35, ms36, ms37, ms38, ms39, ms40, ms41, ms42, ms43, ms44, ms45, ms46, ms47, ms48, ms49, x2, y2]
  obtain ⟨y1, y2⟩ := sg_miss h (by omega) s2
  right
  refine ⟨fun u => ?_, ?_⟩
  · unfold f_X7_ends
    simp (disch := omega) only [li0, li1, li2, li3, li4, li5, li6, li7, li8, li9, li10, li16, li17, li20, li30, li32, li48, li49, li50, li57, li60, li126, li147, nI_add, nI_sb, pk_mul, nI_m1, inrT, leT, leF, ltT, ltF, eqT, eqF, n1lt, m1lt, m1neg, m1nle, m1le, m1a1, m1a2, m1s, m1s', nI_cl, ↓tl, ↓sb, sb, sel, ser, ↓reduceIte, if_true, if_false, true_or, or_true, false_or, or_false, umS, umK, umJ, uaS, uaK, uaI, uaJ, li43, li45, li55, li61, li97, li99, li114, li119, li120, pl0, m1mul, p1mul, mg30, mg31, mg32, mg33, mg34, mg35, mg36, mg37, mg38, mg39, mg40, mg41, mg42, mg43, mg44, mg45, mg46, mg47, mg48, mg49, ms30, ms31, ms32, ms33, ms34, ms35, ms36, ms37, ms38, ms39, ms40, ms41, ms42, ms43, ms44, ms45, ms46, ms47, ms48, ms49, x2, y2, hus, h9]
  have hmv : ∀ s, pos < L ∧ be 22 0 pos = nI s → m ≤ 19 ∧ pQ (ua be 21 0 7 (nI (pos + 1))) (um mu 30 22 (nI (pos + 1))) L (pos + 1) m ∧ pFb be (ua be 21 0 7 (nI (pos + 1))) ∧ pFm mu (um mu 30 22 (nI (pos + 1))) := fun s q => ⟨by omega, pQ_mv h q.1, pFb_u _ _ (by omega), pFm_u _ _ (by omega)⟩
  have fin : ∀ (c : ts_Mem → Option (Int32 × ts_Mem)) (r : ts_Mem → Option ts_Mem), (∀ u x be', (x = nI 0 ∨ x = nI 1) → c (cb (ua be 21 0 7 (nI (pos + 1))) u) = some (x, cb be' u) → f_X3_takePart (cb be u) = some (x, cb be' u)) → (∀ u, f_X7_readOperation (ma mu u) = r (ma (um mu 30 22 (nI (pos + 1))) u)) → pFb be (ua be 21 0 7 (nI (pos + 1))) → pFm mu (um mu 30 22 (nI (pos + 1))) → oEnd (ua be 21 0 7 (nI (pos + 1))) (um mu 30 22 (nI (pos + 1))) L (pos + 1) m c r → ((∃ be' mu' pos', (∀ u, f_X3_takePart (cb be u) = some (nI 1, cb be' u)) ∧ (∀ u, f_X7_readOperation (ma mu u) = some (ma mu' u)) ∧ pQ be' mu' L pos' (m + 1) ∧ pos + 1 < pos' ∧ pFb be be' ∧ pFm mu mu') ∨
       (∃ be' mu' e, (∀ u, f_X3_takePart (cb be u) = some (nI 0, cb be' u)) ∧ (∀ u, f_X7_readOperation (ma mu u) = some (ma mu' u)) ∧ be' 21 0 7 = nI e ∧ e ≤ 60 ∧ mu' 30 23 = nI e ∧ mu' 30 22 = nI e ∧ pFb be be' ∧ pFm mu mu')) := by
    intro c r hc hr fb fm ho
    rcases ho with ⟨be', mu', pos', a1, a2, a3, a4, a5, a6⟩ | ⟨be', mu', e, a1, a2, a3, a4, a5, a6, a7, a8⟩
    · exact Or.inl ⟨be', mu', pos', fun u => hc u _ _ (Or.inr rfl) (a1 u), fun u => (hr u).trans (a2 u), a3, by omega, pFb_trans fb a5, pFm_trans fm a6⟩
    · exact Or.inr ⟨be', mu', e, fun u => hc u _ _ (Or.inl rfl) (a1 u), fun u => (hr u).trans (a2 u), a3, a4, a5, a6, pFb_trans fb a7, pFm_trans fm a8⟩
  by_cases s3 : pos < L ∧ be 22 0 pos = nI 114
  · obtain ⟨z1, z2⟩ := sg_hit h s3.1 s3.2
    obtain ⟨p1, p2, p3, p4⟩ := hmv _ s3
    refine fin _ _ (fun u x be' hx hc => ?_) (fun u => ?_) p3 p4 (opR p2 p1)
    · unfold f_X3_takePart
      simp only [li0, li1] at hc
      simp (disch := omega) only [li0, li1, li2, li3, li4, li5, li6, li7, li8, li9, li10, li16, li17, li20, li30, li32, li48, li49, li50, li57, li60, li126, li147, nI_add, nI_sb, pk_mul, nI_m1, inrT, leT, leF, ltT, ltF, eqT, eqF, n1lt, m1lt, m1neg, m1nle, m1le, m1a1, m1a2, m1s, m1s', nI_cl, ↓tl, ↓sb, sb, sel, ser, ↓reduceIte, if_true, if_false, true_or, or_true, false_or, or_false, umS, umK, umJ, uaS, uaK, uaI, uaJ, li43, li45, li55, li61, li97, li99, li114, li119, li120, pl0, m1mul, p1mul, x1, y1, z1]
      exact hc
    · rw [ro_eq]
      simp (disch := omega) only [li0, li1, li2, li3, li4, li5, li6, li7, li8, li9, li10, li16, li17, li20, li30, li32, li48, li49, li50, li57, li60, li126, li147, nI_add, nI_sb, pk_mul, nI_m1, inrT, leT, leF, ltT, ltF, eqT, eqF, n1lt, m1lt, m1neg, m1nle, m1le, m1a1, m1a2, m1s, m1s', nI_cl, ↓tl, ↓sb, sb, sel, ser, ↓reduceIte, if_true, if_false, true_or, or_true, false_or, or_false, umS, umK, umJ, uaS, uaK, uaI, uaJ, li43, li45, li55, li61, li97, li99, li114, li119, li120, pl0, m1mul, p1mul, z2]
  obtain ⟨z1, z2⟩ := sg_miss h (by omega) s3
  by_cases s4 : pos < L ∧ be 22 0 pos = nI 119
  · obtain ⟨w1, w2⟩ := sg_hit h s4.1 s4.2
    obtain ⟨p1, p2, p3, p4⟩ := hmv _ s4
    refine fin _ _ (fun u x be' hx hc => ?_) (fun u => ?_) p3 p4 (opW p2 p1)
    · unfold f_X3_takePart
      simp (disch := omega) only [li0, li1, li2, li3, li4, li5, li6, li7, li8, li9, li10, li16, li17, li20, li30, li32, li48, li49, li50, li57, li60, li126, li147, nI_add, nI_sb, pk_mul, nI_m1, inrT, leT, leF, ltT, ltF, eqT, eqF, n1lt, m1lt, m1neg, m1nle, m1le, m1a1, m1a2, m1s, m1s', nI_cl, ↓tl, ↓sb, sb, sel, ser, ↓reduceIte, if_true, if_false, true_or, or_true, false_or, or_false, umS, umK, umJ, uaS, uaK, uaI, uaJ, li43, li45, li55, li61, li97, li99, li114, li119, li120, pl0, m1mul, p1mul, x1, y1, z1, w1, hc]
      rcases hx with rfl | rfl <;> simp (disch := omega) only [li0, li1, li2, li3, li4, li5, li6, li7, li8, li9, li10, li16, li17, li20, li30, li32, li48, li49, li50, li57, li60, li126, li147, nI_add, nI_sb, pk_mul, nI_m1, inrT, leT, leF, ltT, ltF, eqT, eqF, n1lt, m1lt, m1neg, m1nle, m1le, m1a1, m1a2, m1s, m1s', nI_cl, ↓tl, ↓sb, sb, sel, ser, ↓reduceIte, if_true, if_false, true_or, or_true, false_or, or_false, umS, umK, umJ, uaS, uaK, uaI, uaJ]
    · rw [ro_eq]
      simp (disch := omega) only [li0, li1, li2, li3, li4, li5, li6, li7, li8, li9, li10, li16, li17, li20, li30, li32, li48, li49, li50, li57, li60, li126, li147, nI_add, nI_sb, pk_mul, nI_m1, inrT, leT, leF, ltT, ltF, eqT, eqF, n1lt, m1lt, m1neg, m1nle, m1le, m1a1, m1a2, m1s, m1s', nI_cl, ↓tl, ↓sb, sb, sel, ser, ↓reduceIte, if_true, if_false, true_or, or_true, false_or, or_false, umS, umK, umJ, uaS, uaK, uaI, uaJ, li43, li45, li55, li61, li97, li99, li114, li119, li120, pl0, m1mul, p1mul, z2, w2]
  obtain ⟨w1, w2⟩ := sg_miss h (by omega) s4
  by_cases s5 : pos < L ∧ be 22 0 pos = nI 97
  · obtain ⟨v1, v2⟩ := sg_hit h s5.1 s5.2
    obtain ⟨p1, p2, p3, p4⟩ := hmv _ s5
    refine fin _ _ (fun u x be' hx hc => ?_) (fun u => ?_) p3 p4 (opA p2 p1)
    · unfold f_X3_takePart
      simp (disch := omega) only [li0, li1, li2, li3, li4, li5, li6, li7, li8, li9, li10, li16, li17, li20, li30, li32, li48, li49, li50, li57, li60, li126, li147, nI_add, nI_sb, pk_mul, nI_m1, inrT, leT, leF, ltT, ltF, eqT, eqF, n1lt, m1lt, m1neg, m1nle, m1le, m1a1, m1a2, m1s, m1s', nI_cl, ↓tl, ↓sb, sb, sel, ser, ↓reduceIte, if_true, if_false, true_or, or_true, false_or, or_false, umS, umK, umJ, uaS, uaK, uaI, uaJ, li43, li45, li55, li61, li97, li99, li114, li119, li120, pl0, m1mul, p1mul, x1, y1, z1, w1, v1, hc]
      rcases hx with rfl | rfl <;> simp (disch := omega) only [li0, li1, li2, li3, li4, li5, li6, li7, li8, li9, li10, li16, li17, li20, li30, li32, li48, li49, li50, li57, li60, li126, li147, nI_add, nI_sb, pk_mul, nI_m1, inrT, leT, leF, ltT, ltF, eqT, eqF, n1lt, m1lt, m1neg, m1nle, m1le, m1a1, m1a2, m1s, m1s', nI_cl, ↓tl, ↓sb, sb, sel, ser, ↓reduceIte, if_true, if_false, true_or, or_true, false_or, or_false, umS, umK, umJ, uaS, uaK, uaI, uaJ]
    · rw [ro_eq]
      simp (disch := omega) only [li0, li1, li2, li3, li4, li5, li6, li7, li8, li9, li10, li16, li17, li20, li30, li32, li48, li49, li50, li57, li60, li126, li147, nI_add, nI_sb, pk_mul, nI_m1, inrT, leT, leF, ltT, ltF, eqT, eqF, n1lt, m1lt, m1neg, m1nle, m1le, m1a1, m1a2, m1s, m1s', nI_cl, ↓tl, ↓sb, sb, sel, ser, ↓reduceIte, if_true, if_false, true_or, or_true, false_or, or_false, umS, umK, umJ, uaS, uaK, uaI, uaJ, li43, li45, li55, li61, li97, li99, li114, li119, li120, pl0, m1mul, p1mul, z2, w2, v2]
  obtain ⟨v1, v2⟩ := sg_miss h (by omega) s5
  have z0 := fun u => r_fa (mu := mu) u h7 h6
  refine Or.inr ⟨be, um mu 30 23 (nI pos), pos, fun u => ?_, fun u => ?_, h2, by omega, umS _ _ _ _, by rw [umJ _ _ _ (by omega)]; exact h6, pFb_refl _, pFm_u _ _ (by omega)⟩
  · unfold f_X3_takePart
    simp (disch := omega) only [li0, li1, li2, li3, li4, li5, li6, li7, li8, li9, li10, li16, li17, li20, li30, li32, li48, li49, li50, li57, li60, li126, li147, nI_add, nI_sb, pk_mul, nI_m1, inrT, leT, leF, ltT, ltF, eqT, eqF, n1lt, m1lt, m1neg, m1nle, m1le, m1a1, m1a2, m1s, m1s', nI_cl, ↓tl, ↓sb, sb, sel, ser, ↓reduceIte, if_true, if_false, true_or, or_true, false_or, or_false, umS, umK, umJ, uaS, uaK, uaI, uaJ, li43, li45, li55, li61, li97, li99, li114, li119, li120, pl0, m1mul, p1mul, x1, y1, z1, w1, v1]
  · rw [ro_eq]
    simp (disch := omega) only [li0, li1, li2, li3, li4, li5, li6, li7, li8, li9, li10, li16, li17, li20, li30, li32, li48, li49, li50, li57, li60, li126, li147, nI_add, nI_sb, pk_mul, nI_m1, inrT, leT, leF, ltT, ltF, eqT, eqF, n1lt, m1lt, m1neg, m1nle, m1le, m1a1, m1a2, m1s, m1s', nI_cl, ↓tl, ↓sb, sb, sel, ser, ↓reduceIte, if_true, if_false, true_or, or_true, false_or, or_false, umS, umK, umJ, uaS, uaK, uaI, uaJ, li43, li45, li55, li61, li97, li99, li114, li119, li120, pl0, m1mul, p1mul, z2, w2, v2, z0]
