/-! one operation of a program, on both sides -/
def roA (u : ts_Mem) : Option ts_Mem := (ts_let (((3 : Int32) * (ts_gI u (30, 0, 0) 26))) (fun x5 => if ts_inr x5 120 then ts_let (ts_sI u (43, 0, 0) x5.toNatClampNeg (2 : Int32)) (fun u7 => (f_X7_digit (55 : Int32) u7).bind (fun q8 => if ts_inr (x5 + (1 : Int32)) 120 then ts_let (ts_sI q8.2 (43, 0, 0) ((x5 + (1 : Int32))).toNatClampNeg q8.1) (fun u10 => if ts_inr (x5 + (2 : Int32)) 120 then ts_let (ts_sI u10 (43, 0, 0) ((x5 + (2 : Int32))).toNatClampNeg (0 : Int32)) (fun u12 => (f_X7_goes (43 : Int32) u12).bind (fun q13 => if q13.1 = 0 then ((f_X7_goes (45 : Int32) q13.2).bind (fun q14 => if q14.1 = 0 then ((f_X7_fault  q14.2).bind (fun q19 => (f_X7_readNumber  q19).bind (fun q20 => if ts_inr (x5 + (2 : Int32)) 120 then ts_let (ts_sI q20.2 (43, 0, 0) ((x5 + (2 : Int32))).toNatClampNeg ((-1 : Int32) * q20.1)) (fun u22 => ts_let (ts_sI u22 (30, 0, 0) 26 ((ts_gI u22 (30, 0, 0) 26) + (1 : Int32))) (fun u23 => some u23)) else none))) else ((f_X7_readNumber  q14.2).bind (fun q15 => if ts_inr (x5 + (2 : Int32)) 120 then ts_let (ts_sI q15.2 (43, 0, 0) ((x5 + (2 : Int32))).toNatClampNeg ((-1 : Int32) * q15.1)) (fun u17 => ts_let (ts_sI u17 (30, 0, 0) 26 ((ts_gI u17 (30, 0, 0) 26) + (1 : Int32))) (fun u18 => some u18)) else none)))) else ((f_X7_readNumber  q13.2).bind (fun q24 => if ts_inr (x5 + (2 : Int32)) 120 then ts_let (ts_sI q24.2 (43, 0, 0) ((x5 + (2 : Int32))).toNatClampNeg ((1 : Int32) * q24.1)) (fun u26 => ts_let (ts_sI u26 (30, 0, 0) 26 ((ts_gI u26 (30, 0, 0) 26) + (1 : Int32))) (fun u27 => some u27)) else none)))) else none) else none)) else none))
def roW (u : ts_Mem) : Option ts_Mem := (ts_let (((3 : Int32) * (ts_gI u (30, 0, 0) 26))) (fun x28 => if ts_inr x28 120 then ts_let (ts_sI u (43, 0, 0) x28.toNatClampNeg (1 : Int32)) (fun u30 => (f_X7_digit (55 : Int32) u30).bind (fun q31 => if ts_inr (x28 + (1 : Int32)) 120 then ts_let (ts_sI q31.2 (43, 0, 0) ((x28 + (1 : Int32))).toNatClampNeg q31.1) (fun u33 => if ts_inr (x28 + (2 : Int32)) 120 then ts_let (ts_sI u33 (43, 0, 0) ((x28 + (2 : Int32))).toNatClampNeg (0 : Int32)) (fun u35 => (f_X7_goes (61 : Int32) u35).bind (fun q36 => if q36.1 = 0 then ((f_X7_fault  q36.2).bind (fun q46 => (f_X7_goes (45 : Int32) q46).bind (fun q47 => if q47.1 = 0 then ((f_X7_readNumber  q47.2).bind (fun q48 => if ts_inr (x28 + (2 : Int32)) 120 then ts_let (ts_sI q48.2 (43, 0, 0) ((x28 + (2 : Int32))).toNatClampNeg ((1 : Int32) * q48.1)) (fun u50 => ts_let (ts_sI u50 (30, 0, 0) 26 ((ts_gI u50 (30, 0, 0) 26) + (1 : Int32))) (fun u51 => some u51)) else none)) else ((f_X7_readNumber  q47.2).bind (fun q52 => if ts_inr (x28 + (2 : Int32)) 120 then ts_let (ts_sI q52.2 (43, 0, 0) ((x28 + (2 : Int32))).toNatClampNeg ((-1 : Int32) * q52.1)) (fun u54 => ts_let (ts_sI u54 (30, 0, 0) 26 ((ts_gI u54 (30, 0, 0) 26) + (1 : Int32))) (fun u55 => some u55)) else none))))) else ((f_X7_goes (45 : Int32) q36.2).bind (fun q37 => if q37.1 = 0 then ((f_X7_readNumber  q37.2).bind (fun q38 => if ts_inr (x28 + (2 : Int32)) 120 then ts_let (ts_sI q38.2 (43, 0, 0) ((x28 + (2 : Int32))).toNatClampNeg ((1 : Int32) * q38.1)) (fun u40 => ts_let (ts_sI u40 (30, 0, 0) 26 ((ts_gI u40 (30, 0, 0) 26) + (1 : Int32))) (fun u41 => some u41)) else none)) else ((f_X7_readNumber  q37.2).bind (fun q42 => if ts_inr (x28 + (2 : Int32)) 120 then ts_let (ts_sI q42.2 (43, 0, 0) ((x28 + (2 : Int32))).toNatClampNeg ((-1 : Int32) * q42.1)) (fun u44 => ts_let (ts_sI u44 (30, 0, 0) 26 ((ts_gI u44 (30, 0, 0) 26) + (1 : Int32))) (fun u45 => some u45)) else none)))))) else none) else none)) else none))
def roR (u : ts_Mem) : Option ts_Mem := (ts_let (((3 : Int32) * (ts_gI u (30, 0, 0) 26))) (fun x56 => if ts_inr x56 120 then ts_let (ts_sI u (43, 0, 0) x56.toNatClampNeg (0 : Int32)) (fun u58 => (f_X7_digit (55 : Int32) u58).bind (fun q59 => if ts_inr (x56 + (1 : Int32)) 120 then ts_let (ts_sI q59.2 (43, 0, 0) ((x56 + (1 : Int32))).toNatClampNeg q59.1) (fun u61 => if ts_inr (x56 + (2 : Int32)) 120 then ts_let (ts_sI u61 (43, 0, 0) ((x56 + (2 : Int32))).toNatClampNeg (0 : Int32)) (fun u63 => ts_let (ts_sI u63 (30, 0, 0) 26 ((ts_gI u63 (30, 0, 0) 26) + (1 : Int32))) (fun u64 => some u64)) else none) else none)) else none))
theorem ro_eq (u : ts_Mem) : f_X7_readOperation u = (f_X7_goes (114 : Int32) u).bind (fun q1 => if q1.1 = 0 then ((f_X7_goes (119 : Int32) q1.2).bind (fun q2 => if q2.1 = 0 then ((f_X7_goes (97 : Int32) q2.2).bind (fun q3 => if q3.1 = 0 then ((f_X7_fault q3.2).bind (fun q4 => some q4)) else roA q3.2)) else roW q2.2)) else roR q1.2) := rfl
def aKp (be : pu_A) (m : Nat) (k i x : Int32) : pu_A := ua (ua (ua (ua be 23 0 m k) 24 0 m i) 25 0 m x) 21 0 2 (nI (m + 1))
theorem c_kp {be : pu_A} {m : Nat} (k i x : Int32) (u : ts_Mem) (h : be 21 0 2 = nI m) (hm : m < 20) : f_X3_keepOperation k i x (cb be u) = some (nI 1, cb (aKp be m k i x) u) := by
  unfold f_X3_keepOperation aKp
  simp (disch := omega) only [li0, li1, li2, li3, li4, li5, li6, li7, li8, li9, li10, li16, li17, li20, li30, li32, li48, li49, li50, li57, li60, li126, li147, nI_add, nI_sb, pk_mul, nI_m1, inrT, leT, leF, ltT, ltF, eqT, eqF, n1lt, m1lt, m1neg, m1nle, m1le, m1a1, m1a2, m1s, m1s', nI_cl, ↓tl, ↓sb, sb, sel, ser, ↓reduceIte, if_true, if_false, true_or, or_true, false_or, or_false, umS, umK, umJ, uaS, uaK, uaI, uaJ, bg0, bs0, bg21, bs21, bg22, bs22, bg23, bs23, bg24, bs24, bg25, bs25, bg26, bs26, bg27, bs27, bg28, bs28, bg29, bs29, h]
theorem pFb_kp (be : pu_A) (m : Nat) (k i x : Int32) : pFb be (aKp be m k i x) := pFb_trans (pFb_trans (pFb_trans (pFb_u _ _ (by omega)) (pFb_u _ _ (by omega))) (pFb_u _ _ (by omega))) (pFb_u _ _ (by omega))
theorem pQ_kp {be : pu_A} {mu : pu_M} {L pos m kd it : Nat} {x : Int32} (h : pQ be mu L pos m) (hkd : kd ≤ 2) (hit : it < 8) (e0 : mu 43 (3 * m) = nI kd) (e1 : mu 43 (3 * m + 1) = nI it) (e2 : mu 43 (3 * m + 2) = x) : pQ (aKp be m (nI kd) (nI it) x) (um mu 30 26 (nI (m + 1))) L pos (m + 1) := by
  obtain ⟨h1, h2, h3, h4, h5, h6, h7, h8, h9, h10, h11, h12, h13⟩ := h
  unfold pQ aKp
  simp (disch := omega) only [uaJ, uaS, uaK, umJ, umS, umK]
  refine ⟨h1, h2, trivial, h4, h5, h6, h7, trivial, h9, h10, h11, h12, fun k hk => ?_⟩
  by_cases e : k = m
  · subst e
    refine ⟨kd, it, hkd, hit, ?_, ?_, e0, e1, ?_⟩
    · rw [uaS]
    · rw [uaS]
    · rw [uaS]; exact e2
  · obtain ⟨kd', it', a1, a2, a3, a4, a5, a6, a7⟩ := h13 k (by omega)
    refine ⟨kd', it', a1, a2, ?_, ?_, a5, a6, ?_⟩
    · rw [uaJ _ _ _ _ _ e]; exact a3
    · rw [uaJ _ _ _ _ _ e]; exact a4
    · rw [uaJ _ _ _ _ _ e]; exact a7
/-- an item's digit: taken on both sides, or missing on both -/
theorem it_case {be : pu_A} {mu : pu_M} {L pos m : Nat} (h : pQ be mu L pos m) : (∃ d, d < 8 ∧ (∀ u, f_X3_takeItem (cb be u) = some (nI d, cb (ua be 21 0 7 (nI (pos + 1))) u)) ∧ (∀ u, f_X7_digit (nI 55) (ma mu u) = some (nI d, ma (um mu 30 22 (nI (pos + 1))) u)) ∧ pos < L) ∨ ((∀ u, f_X3_takeItem (cb be u) = some (-nI 1, cb be u)) ∧ (∀ u, f_X7_digit (nI 55) (ma mu u) = some (nI 0, ma (um mu 30 23 (nI pos)) u))) := by
  have h' := h
  obtain ⟨h1, h2, h3, h4, h5, h6, h7, h8, h9, h10, h11, h12, h13⟩ := h'
  rcases dg_case be L pos with ⟨g, g1, g2⟩ | hc
  · by_cases g8 : g < 8
    · left
      refine ⟨g, g8, fun u => ?_, fun u => r_dgT (g := 7) u h (by omega) (by omega) g2, g2.1⟩
      have hd := c_dgT u h g1 g2
      unfold f_X3_takeItem
      simp (disch := omega) only [li0, li1, li2, li3, li4, li5, li6, li7, li8, li9, li10, li16, li17, li20, li30, li32, li48, li49, li50, li57, li60, li126, li147, nI_add, nI_sb, pk_mul, nI_m1, inrT, leT, leF, ltT, ltF, eqT, eqF, n1lt, m1lt, m1neg, m1nle, m1le, m1a1, m1a2, m1s, m1s', nI_cl, ↓tl, ↓sb, sb, sel, ser, ↓reduceIte, if_true, if_false, true_or, or_true, false_or, or_false, umS, umK, umJ, uaS, uaK, uaI, uaJ, bg0, bs0, bg21, bs21, bg22, bs22, bg23, bs23, bg24, bs24, bg25, bs25, bg26, bs26, bg27, bs27, bg28, bs28, bg29, bs29, hd, h2]
    · right
      refine ⟨fun u => ?_, fun u => r_dgF (g := 7) u h (by omega) (Or.inr (Or.inr ?_))⟩
      · have hd := c_dgT u h g1 g2
        unfold f_X3_takeItem
        simp (disch := omega) only [li0, li1, li2, li3, li4, li5, li6, li7, li8, li9, li10, li16, li17, li20, li30, li32, li48, li49, li50, li57, li60, li126, li147, nI_add, nI_sb, pk_mul, nI_m1, inrT, leT, leF, ltT, ltF, eqT, eqF, n1lt, m1lt, m1neg, m1nle, m1le, m1a1, m1a2, m1s, m1s', nI_cl, ↓tl, ↓sb, sb, sel, ser, ↓reduceIte, if_true, if_false, true_or, or_true, false_or, or_false, umS, umK, umJ, uaS, uaK, uaI, uaJ, bg0, bs0, bg21, bs21, bg22, bs22, bg23, bs23, bg24, bs24, bg25, bs25, bg26, bs26, bg27, bs27, bg28, bs28, bg29, bs29, hd, h2]
      · rw [g2.2]; exact nI_lt (by omega) (by omega)
  · right
    refine ⟨fun u => ?_, fun u => r_dgF (g := 7) u h (by omega) ?_⟩
    · have hd := c_dgF u h hc
      unfold f_X3_takeItem
      simp (disch := omega) only [li0, li1, li2, li3, li4, li5, li6, li7, li8, li9, li10, li16, li17, li20, li30, li32, li48, li49, li50, li57, li60, li126, li147, nI_add, nI_sb, pk_mul, nI_m1, inrT, leT, leF, ltT, ltF, eqT, eqF, n1lt, m1lt, m1neg, m1nle, m1le, m1a1, m1a2, m1s, m1s', nI_cl, ↓tl, ↓sb, sb, sel, ser, ↓reduceIte, if_true, if_false, true_or, or_true, false_or, or_false, umS, umK, umJ, uaS, uaK, uaI, uaJ, bg0, bs0, bg21, bs21, bg22, bs22, bg23, bs23, bg24, bs24, bg25, bs25, bg26, bs26, bg27, bs27, bg28, bs28, bg29, bs29, hd, h2]
    · rcases hc with q | q | q
      · exact Or.inl q
      · exact Or.inr (Or.inl q)
      · refine Or.inr (Or.inr ?_)
        rw [Int32.lt_iff_toInt_lt] at q ⊢
        rw [nI_toInt (by decide)] at q ⊢
        omega
/-- how an operation ends -/
def oEnd (be : pu_A) (mu : pu_M) (L pos m : Nat) (c : ts_Mem → Option (Int32 × ts_Mem)) (r : ts_Mem → Option ts_Mem) : Prop :=
  (∃ be' mu' pos', (∀ u, c (cb be u) = some (nI 1, cb be' u)) ∧ (∀ u, r (ma mu u) = some (ma mu' u)) ∧ pQ be' mu' L pos' (m + 1) ∧ pos < pos' ∧ pFb be be' ∧ pFm mu mu') ∨
  (∃ be' mu' e, (∀ u, c (cb be u) = some (nI 0, cb be' u)) ∧ (∀ u, r (ma mu u) = some (ma mu' u)) ∧ be' 21 0 7 = nI e ∧ e ≤ 60 ∧ mu' 30 23 = nI e ∧ mu' 30 22 = nI e ∧ pFb be be' ∧ pFm mu mu')
theorem opR {be : pu_A} {mu : pu_M} {L pos m : Nat} (h : pQ be mu L pos m) (hm : m ≤ 19) : oEnd be mu L pos m (fun u => (f_X3_takeItem u).bind (fun q8 => if q8.1 < 0 then (some ((0 : Int32), q8.2)) else ((f_X3_keepOperation (0 : Int32) q8.1 (0 : Int32) q8.2).bind (fun q9 => if q9.1 = 0 then (some ((0 : Int32), q9.2)) else (some ((1 : Int32), q9.2)))))) roR := by
  have hq := h
  obtain ⟨h1, h2, h3, h4, h5, h6, h7, h8, h9, h10, h11, h12, h13⟩ := hq
  rcases it_case (pQ_43 (nI 0) h (Nat.le_refl _)) with ⟨d, d1, d2, d3, d4⟩ | ⟨d2, d3⟩
  · left
    have q1 := pQ_mv (pQ_43 (nI 0) h (Nat.le_refl _)) d4
    have q2 := pQ_kp (kd := 0) (it := d) (x := nI 0) (pQ_43 (nI 0) (pQ_43 (nI d) q1 (show 3 * m ≤ 3 * m + 1 by omega)) (show 3 * m ≤ 3 * m + 2 by omega)) (by omega) d1 (by simp (disch := omega) only [umJ, umK, umS]) (by simp (disch := omega) only [umJ, umK, umS]) (by simp (disch := omega) only [umJ, umK, umS])
    have hk := fun u => c_kp (be := ua be 21 0 7 (nI (pos + 1))) (nI 0) (nI d) (nI 0) u (by rw [uaJ _ _ _ _ _ (by omega)]; exact h3) (show m < 20 by omega)
    refine ⟨_, _, pos + 1, fun u => ?_, fun u => ?_, q2, by omega, pFb_trans (pFb_u _ _ (by omega)) (pFb_kp _ _ _ _ _), pFm_trans (pFm_trans (pFm_trans (pFm_trans (pFm_u _ _ (by omega)) (pFm_u _ _ (by omega))) (pFm_u _ _ (by omega))) (pFm_u _ _ (by omega))) (pFm_u _ _ (by omega))⟩
    · simp (disch := omega) only [li0, li1, li2, li3, li4, li5, li6, li7, li8, li9, li10, li16, li17, li20, li30, li32, li48, li49, li50, li57, li60, li126, li147, nI_add, nI_sb, pk_mul, nI_m1, inrT, leT, leF, ltT, ltF, eqT, eqF, n1lt, m1lt, m1neg, m1nle, m1le, m1a1, m1a2, m1s, m1s', nI_cl, ↓tl, ↓sb, sb, sel, ser, ↓reduceIte, if_true, if_false, true_or, or_true, false_or, or_false, umS, umK, umJ, uaS, uaK, uaI, uaJ, d2, hk]
    · unfold roR
      simp (maxSteps := 1000000) (disch := omega) only [li0, li1, li2, li3, li4, li5, li6, li7, li8, li9, li10, li16, li17, li20, li30, li32, li48, li49, li50, li57, li60, li126, li147, nI_add, nI_sb, pk_mul, nI_m1, inrT, leT, leF, ltT, ltF, eqT, eqF, n1lt, m1lt, m1neg, m1nle, m1le, m1a1, m1a2, m1s, m1s', nI_cl, ↓tl, ↓sb, sb, sel, ser, ↓reduceIte, if_true, if_false, true_or, or_true, false_or, or_false, umS, umK, umJ, uaS, uaK, uaI, uaJ, li43, li45, li55, li61, li97, li99, li114, li119, li120, pl0, m1mul, p1mul, mg30, mg31, mg32, mg33, mg34, mg35, mg36, mg37, mg38, mg39, mg40, mg41, mg42, mg43, mg44, mg45, mg46, mg47, mg48, mg49, ms30, ms31, ms32, ms33, ms34, ms35, ms36, ms37, ms38, ms39, ms40, ms41, ms42, ms43, ms44, ms45, ms46, ms47, ms48, ms49, d3, h8]
  · right
    refine ⟨be, um (um (um (um (um mu 43 (3 * m) (nI 0)) 30 23 (nI pos)) 43 (3 * m + 1) (nI 0)) 43 (3 * m + 2) (nI 0)) 30 26 (nI (m + 1)), pos, fun u => ?_, fun u => ?_, h2, by omega, ?_, ?_, pFb_refl _, ?_⟩
    · simp (disch := omega) only [li0, li1, li2, li3, li4, li5, li6, li7, li8, li9, li10, li16, li17, li20, li30, li32, li48, li49, li50, li57, li60, li126, li147, nI_add, nI_sb, pk_mul, nI_m1, inrT, leT, leF, ltT, ltF, eqT, eqF, n1lt, m1lt, m1neg, m1nle, m1le, m1a1, m1a2, m1s, m1s', nI_cl, ↓tl, ↓sb, sb, sel, ser, ↓reduceIte, if_true, if_false, true_or, or_true, false_or, or_false, umS, umK, umJ, uaS, uaK, uaI, uaJ, d2]
    · unfold roR
      simp (maxSteps := 1000000) (disch := omega) only [li0, li1, li2, li3, li4, li5, li6, li7, li8, li9, li10, li16, li17, li20, li30, li32, li48, li49, li50, li57, li60, li126, li147, nI_add, nI_sb, pk_mul, nI_m1, inrT, leT, leF, ltT, ltF, eqT, eqF, n1lt, m1lt, m1neg, m1nle, m1le, m1a1, m1a2, m1s, m1s', nI_cl, ↓tl, ↓sb, sb, sel, ser, ↓reduceIte, if_true, if_false, true_or, or_true, false_or, or_false, umS, umK, umJ, uaS, uaK, uaI, uaJ, li43, li45, li55, li61, li97, li99, li114, li119, li120, pl0, m1mul, p1mul, mg30, mg31, mg32, mg33, mg34, mg35, mg36, mg37, mg38, mg39, mg40, mg41, mg42, mg43, mg44, mg45, mg46, mg47, mg48, mg49, ms30, ms31, ms32, ms33, ms34, ms35, ms36, ms37, ms38, ms39, ms40, ms41, ms42, ms43, ms44, ms45, ms46, ms47, ms48, ms49, d3, h8]
    · simp (disch := omega) only [umJ, umK, umS]
    · simp (disch := omega) only [umJ, umK, umS, h6]
    · exact pFm_trans (pFm_trans (pFm_trans (pFm_trans (pFm_u _ _ (by omega)) (pFm_u _ _ (by omega))) (pFm_u _ _ (by omega))) (pFm_u _ _ (by omega))) (pFm_u _ _ (by omega))
theorem r_fa {mu : pu_M} {pos : Nat} (u : ts_Mem) (h7 : mu 30 23 = -nI 1) (h6 : mu 30 22 = nI pos) : f_X7_fault (ma mu u) = some (ma (um mu 30 23 (nI pos)) u) := by
  unfold f_X7_fault
  simp (disch := omega) only [li0, li1, li2, li3, li4, li5, li6, li7, li8, li9, li10, li16, li17, li20, li30, li32, li48, li49, li50, li57, li60, li126, li147, nI_add, nI_sb, pk_mul, nI_m1, inrT, leT, leF, ltT, ltF, eqT, eqF, n1lt, m1lt, m1neg, m1nle, m1le, m1a1, m1a2, m1s, m1s', nI_cl, ↓tl, ↓sb, sb, sel, ser, ↓reduceIte, if_true, if_false, true_or, or_true, false_or, or_false, umS, umK, umJ, uaS, uaK, uaI, uaJ, mg30, mg31, mg32, mg33, mg34, mg35, mg36, mg37, mg38, mg39, mg40, mg41, mg42, mg43, mg44, mg45, mg46, mg47, mg48, mg49, ms30, ms31, ms32, ms33, ms34, ms35, ms36, ms37, ms38, ms39, ms40, ms41, ms42, ms43, ms44, ms45, ms46, ms47, ms48, ms49, h7, h6]
theorem dead {mu : pu_M} {e pos L : Nat} (h7 : mu 30 23 = nI e) (he : e ≤ 60) (h6 : mu 30 22 = nI pos) (h5 : mu 30 21 = nI L) (h10 : L ≤ 60) (hp : pos ≤ L) : (∀ c u, f_X7_goes c (ma mu u) = some (nI 0, ma mu u)) ∧ (∀ u, f_X7_fault (ma mu u) = some (ma mu u)) ∧ (∀ u, f_X7_readNumber (ma mu u) = some (nI 0, ma mu u)) := ⟨fun c u => d_go c u h7 (by omega) h6, fun u => d_fa u h7 (by omega), fun u => d_nm u h7 (by omega) h6 h5 h10 hp⟩
theorem opW {be : pu_A} {mu : pu_M} {L pos m : Nat} (h : pQ be mu L pos m) (hm : m ≤ 19) : oEnd be mu L pos m f_X3_takeWrite roW := by
  have hq := h
  obtain ⟨h1, h2, h3, h4, h5, h6, h7, h8, h9, h10, h11, h12, h13⟩ := hq
  rcases it_case (pQ_43 (nI 1) h (Nat.le_refl _)) with ⟨d, d1, d2, d3, d4⟩ | ⟨d2, d3⟩
  · have q1 := pQ_43 (nI 0) (pQ_43 (nI d) (pQ_mv (pQ_43 (nI 1) h (Nat.le_refl _)) d4) (show 3 * m ≤ 3 * m + 1 by omega)) (show 3 * m ≤ 3 * m + 2 by omega)
    have F1 : pFb be (ua be 21 0 7 (nI (pos + 1))) := pFb_u _ _ (by omega)
    have G1 : pFm mu (um (um (um (um mu 43 (3 * m) (nI 1)) 30 22 (nI (pos + 1))) 43 (3 * m + 1) (nI d)) 43 (3 * m + 2) (nI 0)) := pFm_trans (pFm_trans (pFm_trans (pFm_u _ _ (by omega)) (pFm_u _ _ (by omega))) (pFm_u _ _ (by omega))) (pFm_u _ _ (by omega))
    have A0 : um (um (um (um (um mu 43 (3 * m) (nI 1)) 30 22 (nI (pos + 1))) 43 (3 * m + 1) (nI d)) 43 (3 * m + 2) (nI 0)) 30 22 (nI (pos + 1 + 1)) 43 (3 * m) = nI 1 := by simp (disch := omega) only [umJ, umK, umS]
    have A1 : um (um (um (um (um mu 43 (3 * m) (nI 1)) 30 22 (nI (pos + 1))) 43 (3 * m + 1) (nI d)) 43 (3 * m + 2) (nI 0)) 30 22 (nI (pos + 1 + 1)) 43 (3 * m + 1) = nI d := by simp (disch := omega) only [umJ, umK, umS]
    have d3' : ∀ u, f_X7_digit (nI 55) (ma (um mu 43 (3 * m) (nI 1)) u) = some (nI d, ma (um (um mu 43 (3 * m) (nI 1)) 30 22 (nI (pos + 1))) u) := d3
    by_cases s1 : pos + 1 < L ∧ ua be 21 0 7 (nI (pos + 1)) 22 0 (pos + 1) = nI 61
    · obtain ⟨x1, x2⟩ := sg_hit q1 s1.1 s1.2
      have q2 := pQ_mv q1 s1.1
      have F2 := pFb_trans F1 (pFb_u (k := 21) (i := 0) (j := 7) _ (nI (pos + 1 + 1)) (by omega))
      have G2 := pFm_trans G1 (pFm_u (k := 30) (j := 22) _ (nI (pos + 1 + 1)) (by omega))
      revert x1 x2 q2 F2 G2 A0 A1
      generalize um (um (um (um (um mu 43 (3 * m) (nI 1)) 30 22 (nI (pos + 1))) 43 (3 * m + 1) (nI d)) 43 (3 * m + 2) (nI 0)) 30 22 (nI (pos + 1 + 1)) = mu2
      generalize ua (ua be 21 0 7 (nI (pos + 1))) 21 0 7 (nI (pos + 1 + 1)) = be2
      intro A0 A1 x1 x2 q2 F2 G2
      obtain ⟨be3, mu3, pos3, sg, y1, y2, y3, y4, y5, y6, y7, y8⟩ : ∃ be3 mu3 pos3 sg, (sg = 0 ∨ sg = 1) ∧ (∀ u, f_X3_takeSign (nI 45) (cb be2 u) = some (nI sg, cb be3 u)) ∧ (∀ u, f_X7_goes (nI 45) (ma mu2 u) = some (nI sg, ma mu3 u)) ∧ pQ be3 mu3 L pos3 m ∧ pos + 1 + 1 ≤ pos3 ∧ pFb be be3 ∧ pFm mu mu3 ∧ (∀ j, mu3 43 j = mu2 43 j) := by
        by_cases s2 : pos + 1 + 1 < L ∧ be2 22 0 (pos + 1 + 1) = nI 45
        · obtain ⟨z1, z2⟩ := sg_hit q2 s2.1 s2.2
          exact ⟨_, _, pos + 1 + 1 + 1, 1, Or.inr rfl, z1, z2, pQ_mv q2 s2.1, by omega, pFb_trans F2 (pFb_u _ _ (by omega)), pFm_trans G2 (pFm_u _ _ (by omega)), fun j => umK _ _ _ _ (by omega)⟩
        · obtain ⟨z1, z2⟩ := sg_miss q2 (by omega) s2
          exact ⟨_, _, pos + 1 + 1, 0, Or.inl rfl, z1, z2, q2, by omega, F2, G2, fun j => rfl⟩
      rcases nm y4 with ⟨be4, mu4, pos4, v, w1, w2, w3, w4, w5, w6, w7, w8⟩ | ⟨w1, w2⟩
      · left
        have hk := fun x u => c_kp (be := be4) (nI 1) (nI d) x u w3.2.2.1 (show m < 20 by omega)
        have B0 : mu4 43 (3 * m) = nI 1 := by rw [w8, y8]; exact A0
        have B1 : mu4 43 (3 * m + 1) = nI d := by rw [w8, y8]; exact A1
        have B8 := w3.2.2.2.2.2.2.2.1
        have q4 := fun x => pQ_kp (kd := 1) (it := d) (x := x) (pQ_43 x w3 (show 3 * m ≤ 3 * m + 2 by omega)) (by omega) d1 (by rw [umJ _ _ _ (by omega)]; exact B0) (by rw [umJ _ _ _ (by omega)]; exact B1) (umS _ _ _ _)
        refine ⟨_, _, pos4, fun u => ?_, fun u => ?_, q4 (if sg = 0 then nI v else - nI v), by omega, pFb_trans (pFb_trans y6 w6) (pFb_kp _ _ _ _ _), pFm_trans (pFm_trans (pFm_trans y7 w7) (pFm_u _ _ (by omega))) (pFm_u _ _ (by omega))⟩
        · unfold f_X3_takeWrite
          rcases y1 with rfl | rfl
          · simp (disch := omega) only [li0, li1, li2, li3, li4, li5, li6, li7, li8, li9, li10, li16, li17, li20, li30, li32, li48, li49, li50, li57, li60, li126, li147, nI_add, nI_sb, pk_mul, nI_m1, inrT, leT, leF, ltT, ltF, eqT, eqF, n1lt, m1lt, m1neg, m1nle, m1le, m1a1, m1a2, m1s, m1s', nI_cl, ↓tl, ↓sb, sb, sel, ser, ↓reduceIte, if_true, if_false, true_or, or_true, false_or, or_false, umS, umK, umJ, uaS, uaK, uaI, uaJ, li43, li45, li55, li61, li97, li99, li114, li119, li120, pl0, m1mul, p1mul, d2, x1, y2, w1, hk]
          · simp (disch := omega) only [li0, li1, li2, li3, li4, li5, li6, li7, li8, li9, li10, li16, li17, li20, li30, li32, li48, li49, li50, li57, li60, li126, li147, nI_add, nI_sb, pk_mul, nI_m1, inrT, leT, leF, ltT, ltF, eqT, eqF, n1lt, m1lt, m1neg, m1nle, m1le, m1a1, m1a2, m1s, m1s', nI_cl, ↓tl, ↓sb, sb, sel, ser, ↓reduceIte, if_true, if_false, true_or, or_true, false_or, or_false, umS, umK, umJ, uaS, uaK, uaI, uaJ, li43, li45, li55, li61, li97, li99, li114, li119, li120, pl0, m1mul, p1mul, d2, x1, y2, w1, hk]
            rfl
        · unfold roW
          rcases y1 with rfl | rfl
          · simp (maxSteps := 1000000) (disch := omega) only [li0, li1, li2, li3, li4, li5, li6, li7, li8, li9, li10, li16, li17, li20, li30, li32, li48, li49, li50, li57, li60, li126, li147, nI_add, nI_sb, pk_mul, nI_m1, inrT, leT, leF, ltT, ltF, eqT, eqF, n1lt, m1lt, m1neg, m1nle, m1le, m1a1, m1a2, m1s, m1s', nI_cl, ↓tl, ↓sb, sb, sel, ser, ↓reduceIte, if_true, if_false, true_or, or_true, false_or, or_false, umS, umK, umJ, uaS, uaK, uaI, uaJ, li43, li45, li55, li61, li97, li99, li114, li119, li120, pl0, m1mul, p1mul, mg30, mg31, mg32, mg33, mg34, mg35, mg36, mg37, mg38, mg39, mg40, mg41, mg42, mg43, mg44, mg45, mg46, mg47, mg48, mg49, ms30, ms31, ms32, ms33, ms34, ms35, ms36, ms37, ms38, ms39, ms40, ms41, ms42, ms43, ms44, ms45, ms46, ms47, ms48, ms49, d3', x2, y3, w2, h8, B8, Nat.one_mul]
          · simp (maxSteps := 1000000) (disch := omega) only [li0, li1, li2, li3, li4, li5, li6, li7, li8, li9, li10, li16, li17, li20, li30, li32, li48, li49, li50, li57, li60, li126, li147, nI_add, nI_sb, pk_mul, nI_m1, inrT, leT, leF, ltT, ltF, eqT, eqF, n1lt, m1lt, m1neg, m1nle, m1le, m1a1, m1a2, m1s, m1s', nI_cl, ↓tl, ↓sb, sb, sel, ser, ↓reduceIte, if_true, if_false, true_or, or_true, false_or, or_false, umS, umK, umJ, uaS, uaK, uaI, uaJ, li43, li45, li55, li61, li97, li99, li114, li119, li120, pl0, m1mul, p1mul, mg30, mg31, mg32, mg33, mg34, mg35, mg36, mg37, mg38, mg39, mg40, mg41, mg42, mg43, mg44, mg45, mg46, mg47, mg48, mg49, ms30, ms31, ms32, ms33, ms34, ms35, ms36, ms37, ms38, ms39, ms40, ms41, ms42, ms43, ms44, ms45, ms46, ms47, ms48, ms49, d3', x2, y3, w2, h8, B8, Nat.one_mul]
            rfl
      · right
        have B8 := y4.2.2.2.2.2.2.2.1
        refine ⟨be3, um (um (um mu3 30 23 (nI pos3)) 43 (3 * m + 2) (if sg = 0 then nI 0 else - nI 0)) 30 26 (nI (m + 1)), pos3, fun u => ?_, fun u => ?_, y4.2.1, by have := y4.2.2.2.2.2.2.2.2.2.2.1; omega, ?_, ?_, y6, ?_⟩
        · unfold f_X3_takeWrite
          simp (disch := omega) only [li0, li1, li2, li3, li4, li5, li6, li7, li8, li9, li10, li16, li17, li20, li30, li32, li48, li49, li50, li57, li60, li126, li147, nI_add, nI_sb, pk_mul, nI_m1, inrT, leT, leF, ltT, ltF, eqT, eqF, n1lt, m1lt, m1neg, m1nle, m1le, m1a1, m1a2, m1s, m1s', nI_cl, ↓tl, ↓sb, sb, sel, ser, ↓reduceIte, if_true, if_false, true_or, or_true, false_or, or_false, umS, umK, umJ, uaS, uaK, uaI, uaJ, li43, li45, li55, li61, li97, li99, li114, li119, li120, pl0, m1mul, p1mul, d2, x1, y2, w1]
        · unfold roW
          rcases y1 with rfl | rfl
          · simp (maxSteps := 1000000) (disch := omega) only [li0, li1, li2, li3, li4, li5, li6, li7, li8, li9, li10, li16, li17, li20, li30, li32, li48, li49, li50, li57, li60, li126, li147, nI_add, nI_sb, pk_mul, nI_m1, inrT, leT, leF, ltT, ltF, eqT, eqF, n1lt, m1lt, m1neg, m1nle, m1le, m1a1, m1a2, m1s, m1s', nI_cl, ↓tl, ↓sb, sb, sel, ser, ↓reduceIte, if_true, if_false, true_or, or_true, false_or, or_false, umS, umK, umJ, uaS, uaK, uaI, uaJ, li43, li45, li55, li61, li97, li99, li114, li119, li120, pl0, m1mul, p1mul, mg30, mg31, mg32, mg33, mg34, mg35, mg36, mg37, mg38, mg39, mg40, mg41, mg42, mg43, mg44, mg45, mg46, mg47, mg48, mg49, ms30, ms31, ms32, ms33, ms34, ms35, ms36, ms37, ms38, ms39, ms40, ms41, ms42, ms43, ms44, ms45, ms46, ms47, ms48, ms49, d3', x2, y3, w2, h8, B8, Nat.one_mul]
          · simp (maxSteps := 1000000) (disch := omega) only [li0, li1, li2, li3, li4, li5, li6, li7, li8, li9, li10, li16, li17, li20, li30, li32, li48, li49, li50, li57, li60, li126, li147, nI_add, nI_sb, pk_mul, nI_m1, inrT, leT, leF, ltT, ltF, eqT, eqF, n1lt, m1lt, m1neg, m1nle, m1le, m1a1, m1a2, m1s, m1s', nI_cl, ↓tl, ↓sb, sb, sel, ser, ↓reduceIte, if_true, if_false, true_or, or_true, false_or, or_false, umS, umK, umJ, uaS, uaK, uaI, uaJ, li43, li45, li55, li61, li97, li99, li114, li119, li120, pl0, m1mul, p1mul, mg30, mg31, mg32, mg33, mg34, mg35, mg36, mg37, mg38, mg39, mg40, mg41, mg42, mg43, mg44, mg45, mg46, mg47, mg48, mg49, ms30, ms31, ms32, ms33, ms34, ms35, ms36, ms37, ms38, ms39, ms40, ms41, ms42, ms43, ms44, ms45, ms46, ms47, ms48, ms49, d3', x2, y3, w2, h8, B8, Nat.one_mul]
            rfl
        · simp (disch := omega) only [umJ, umK, umS]
        · simp (disch := omega) only [umJ, umK, umS, y4.2.2.2.2.2.1]
        · exact pFm_trans (pFm_trans (pFm_trans y7 (pFm_u _ _ (by omega))) (pFm_u _ _ (by omega))) (pFm_u _ _ (by omega))
    · right
      obtain ⟨x1, x2⟩ := sg_miss q1 (by omega) s1
      revert x1 x2 q1 G1
      generalize hE : um (um (um (um mu 43 (3 * m) (nI 1)) 30 22 (nI (pos + 1))) 43 (3 * m + 1) (nI d)) 43 (3 * m + 2) (nI 0) = mu2
      intro q1 G1 x1 x2
      obtain ⟨k1, k2, k3, k4, k5, k6, k7, k8, k9, k10, k11, -, -⟩ := q1
      have z0 := fun u => r_fa (mu := mu2) u k7 k6
      obtain ⟨z1, z2, z3⟩ := dead (mu := um mu2 30 23 (nI (pos + 1))) (e := pos + 1) (pos := pos + 1) (L := L) (umS _ _ _ _) (by omega) (by rw [umJ _ _ _ (by omega)]; exact k6) (by rw [umJ _ _ _ (by omega)]; exact k5) k10 k11
      refine ⟨ua be 21 0 7 (nI (pos + 1)), um (um (um mu2 30 23 (nI (pos + 1))) 43 (3 * m + 2) (nI 0)) 30 26 (nI (m + 1)), pos + 1, fun u => ?_, fun u => ?_, uaS _ _ _ _ _, by omega, ?_, ?_, F1, ?_⟩
      · unfold f_X3_takeWrite
        simp (disch := omega) only [li0, li1, li2, li3, li4, li5, li6, li7, li8, li9, li10, li16, li17, li20, li30, li32, li48, li49, li50, li57, li60, li126, li147, nI_add, nI_sb, pk_mul, nI_m1, inrT, leT, leF, ltT, ltF, eqT, eqF, n1lt, m1lt, m1neg, m1nle, m1le, m1a1, m1a2, m1s, m1s', nI_cl, ↓tl, ↓sb, sb, sel, ser, ↓reduceIte, if_true, if_false, true_or, or_true, false_or, or_false, umS, umK, umJ, uaS, uaK, uaI, uaJ, li43, li45, li55, li61, li97, li99, li114, li119, li120, pl0, m1mul, p1mul, d2, x1]
      · unfold roW
        simp (maxSteps := 1000000) (disch := omega) only [li0, li1, li2, li3, li4, li5, li6, li7, li8, li9, li10, li16, li17, li20, li30, li32, li48, li49, li50, li57, li60, li126, li147, nI_add, nI_sb, pk_mul, nI_m1, inrT, leT, leF, ltT, ltF, eqT, eqF, n1lt, m1lt, m1neg, m1nle, m1le, m1a1, m1a2, m1s, m1s', nI_cl, ↓tl, ↓sb, sb, sel, ser, ↓reduceIte, if_true, if_false, true_or, or_true, false_or, or_false, umS, umK, umJ, uaS, uaK, uaI, uaJ, li43, li45, li55, li61, li97, li99, li114, li119, li120, pl0, m1mul, p1mul, mg30, mg31, mg32, mg33, mg34, mg35, mg36, mg37, mg38, mg39, mg40, mg41, mg42, mg43, mg44, mg45, mg46, mg47, mg48, mg49, ms30, ms31, ms32, ms33, ms34, ms35, ms36, ms37, ms38, ms39, ms40, ms41, ms42, ms43, ms44, ms45, ms46, ms47, ms48, ms49, d3', hE, x2, z0, z1, z3, h8, k8, Nat.one_mul]
      · simp (disch := omega) only [umJ, umK, umS]
      · simp (disch := omega) only [umJ, umK, umS, k6]
      · exact pFm_trans (pFm_trans (pFm_trans G1 (pFm_u _ _ (by omega))) (pFm_u _ _ (by omega))) (pFm_u _ _ (by omega))
  · right
    obtain ⟨z1, z2, z3⟩ := dead (mu := um (um (um (um mu 43 (3 * m) (nI 1)) 30 23 (nI pos)) 43 (3 * m + 1) (nI 0)) 43 (3 * m + 2) (nI 0)) (e := pos) (pos := pos) (L := L) (by simp (disch := omega) only [umJ, umK, umS]) (by omega) (by simp (disch := omega) only [umJ, umK, umS, h6]) (by simp (disch := omega) only [umJ, umK, umS, h5]) h10 h11
    refine ⟨be, um (um (um (um (um (um mu 43 (3 * m) (nI 1)) 30 23 (nI pos)) 43 (3 * m + 1) (nI 0)) 43 (3 * m + 2) (nI 0)) 43 (3 * m + 2) (nI 0)) 30 26 (nI (m + 1)), pos, fun u => ?_, fun u => ?_, h2, by omega, ?_, ?_, pFb_refl _, ?_⟩
    · unfold f_X3_takeWrite
      simp (disch := omega) only [li0, li1, li2, li3, li4, li5, li6, li7, li8, li9, li10, li16, li17, li20, li30, li32, li48, li49, li50, li57, li60, li126, li147, nI_add, nI_sb, pk_mul, nI_m1, inrT, leT, leF, ltT, ltF, eqT, eqF, n1lt, m1lt, m1neg, m1nle, m1le, m1a1, m1a2, m1s, m1s', nI_cl, ↓tl, ↓sb, sb, sel, ser, ↓reduceIte, if_true, if_false, true_or, or_true, false_or, or_false, umS, umK, umJ, uaS, uaK, uaI, uaJ, d2]
    · unfold roW
      simp (maxSteps := 1000000) (disch := omega) only [li0, li1, li2, li3, li4, li5, li6, li7, li8, li9, li10, li16, li17, li20, li30, li32, li48, li49, li50, li57, li60, li126, li147, nI_add, nI_sb, pk_mul, nI_m1, inrT, leT, leF, ltT, ltF, eqT, eqF, n1lt, m1lt, m1neg, m1nle, m1le, m1a1, m1a2, m1s, m1s', nI_cl, ↓tl, ↓sb, sb, sel, ser, ↓reduceIte, if_true, if_false, true_or, or_true, false_or, or_false, umS, umK, umJ, uaS, uaK, uaI, uaJ, li43, li45, li55, li61, li97, li99, li114, li119, li120, pl0, m1mul, p1mul, mg30, mg31, mg32, mg33, mg34, mg35, mg36, mg37, mg38, mg39, mg40, mg41, mg42, mg43, mg44, mg45, mg46, mg47, mg48, mg49, ms30, ms31, ms32, ms33, ms34, ms35, ms36, ms37, ms38, ms39, ms40, ms41, ms42, ms43, ms44, ms45, ms46, ms47, ms48, ms49, d3, z1, z2, z3, h8, Nat.one_mul]
    · simp (disch := omega) only [umJ, umK, umS]
    · simp (disch := omega) only [umJ, umK, umS, h6]
    · exact pFm_trans (pFm_trans (pFm_trans (pFm_trans (pFm_trans (pFm_u _ _ (by omega)) (pFm_u _ _ (by omega))) (pFm_u _ _ (by omega))) (pFm_u _ _ (by omega))) (pFm_u _ _ (by omega))) (pFm_u _ _ (by omega))
