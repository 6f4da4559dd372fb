/-! the parser: signs, digits, numbers on both sides -/
def pQ (be : pu_A) (mu : pu_M) (L pos m : Nat) : Prop := be 21 0 0 = nI L ∧ be 21 0 7 = nI pos ∧ be 21 0 2 = nI m ∧ be 21 0 6 = nI 0 ∧ mu 30 21 = nI L ∧ mu 30 22 = nI pos ∧ mu 30 23 = -nI 1 ∧ mu 30 26 = nI m ∧ mu 30 27 = nI 0 ∧ L ≤ 60 ∧ pos ≤ L ∧ (∀ j, j < 60 → be 22 0 j = mu 42 j) ∧ (∀ k, k < m → ∃ kd it, kd ≤ 2 ∧ it < 8 ∧ be 23 0 k = nI kd ∧ be 24 0 k = nI it ∧ mu 43 (3 * k) = nI kd ∧ mu 43 (3 * k + 1) = nI it ∧ mu 43 (3 * k + 2) = be 25 0 k)
def pFb (be be' : pu_A) : Prop := ∀ a b j, ¬ (a = 21 ∧ b = 0 ∧ (j = 2 ∨ j = 6 ∨ j = 7)) → ¬ (23 ≤ a ∧ a ≤ 25) → be' a b j = be a b j
def pFm (mu mu' : pu_M) : Prop := ∀ a j, ¬ (a = 30 ∧ (j = 22 ∨ j = 23 ∨ j = 26 ∨ j = 27)) → ¬ a = 43 → mu' a j = mu a j
theorem pFb_refl (be : pu_A) : pFb be be := fun _ _ _ _ _ => rfl
theorem pFm_refl (mu : pu_M) : pFm mu mu := fun _ _ _ _ => rfl
theorem pFb_trans {be be1 be2 : pu_A} (h1 : pFb be be1) (h2 : pFb be1 be2) : pFb be be2 := fun a b j q1 q2 => by rw [h2 a b j q1 q2, h1 a b j q1 q2]
theorem pFm_trans {mu mu1 mu2 : pu_M} (h1 : pFm mu mu1) (h2 : pFm mu1 mu2) : pFm mu mu2 := fun a j q1 q2 => by rw [h2 a j q1 q2, h1 a j q1 q2]
theorem pFb_u (be : pu_A) {k i j : Nat} (x : Int32) (h : (k = 21 ∧ i = 0 ∧ (j = 2 ∨ j = 6 ∨ j = 7)) ∨ (23 ≤ k ∧ k ≤ 25)) : pFb be (ua be k i j x) := fun a b c q1 q2 => by
  unfold ua; rw [if_neg (by omega)]
theorem pFm_u (mu : pu_M) {k j : Nat} (x : Int32) (h : (k = 30 ∧ (j = 22 ∨ j = 23 ∨ j = 26 ∨ j = 27)) ∨ k = 43) : pFm mu (um mu k j x) := fun a c q1 q2 => by
  unfold um; rw [if_neg (by omega)]
theorem pQ_mv {be : pu_A} {mu : pu_M} {L pos m : Nat} (h : pQ be mu L pos m) (hp : pos < L) : pQ (ua be 21 0 7 (nI (pos + 1))) (um mu 30 22 (nI (pos + 1))) L (pos + 1) m := by
  obtain ⟨h1, h2, h3, h4, h5, h6, h7, h8, h9, h10, h11, h12, h13⟩ := h
  unfold pQ
  simp (disch := omega) only [uaJ, uaS, uaK, umJ, umS, umK]
  exact ⟨h1, trivial, h3, h4, h5, trivial, h7, h8, h9, h10, hp, h12, h13⟩
theorem pQ_43 {be : pu_A} {mu : pu_M} {L pos m j : Nat} (x : Int32) (h : pQ be mu L pos m) (hj : 3 * m ≤ j) : pQ be (um mu 43 j x) L pos m := by
  obtain ⟨h1, h2, h3, h4, h5, h6, h7, h8, h9, h10, h11, h12, h13⟩ := h
  unfold pQ
  simp (disch := omega) only [umK]
  refine ⟨h1, h2, h3, h4, h5, h6, h7, h8, h9, h10, h11, h12, fun k hk => ?_⟩
  obtain ⟨kd, it, a1, a2, a3, a4, a5, a6, a7⟩ := h13 k hk
  refine ⟨kd, it, a1, a2, a3, a4, ?_, ?_, ?_⟩
  · rw [umJ _ _ _ (by omega)]; exact a5
  · rw [umJ _ _ _ (by omega)]; exact a6
  · rw [umJ _ _ _ (by omega)]; exact a7
theorem r_sg {mu : pu_M} {L pos : Nat} (u : ts_Mem) (h5 : mu 30 21 = nI L) (h6 : mu 30 22 = nI pos) (h10 : L ≤ 60) (hp : pos < L) : f_X7_sign (ma mu u) = some (mu 42 pos) := by
  unfold f_X7_sign
  simp (disch := omega) only [li0, li1, li2, li3, li4, li5, li6, li7, li8, li9, li10, li16, li17, li20, li30, li32, li48, li49, li50, li57, li60, li126, li147, nI_add, nI_sb, pk_mul, nI_m1, inrT, leT, leF, ltT, ltF, eqT, eqF, n1lt, m1lt, m1neg, m1nle, m1le, m1a1, m1a2, m1s, m1s', nI_cl, ↓tl, ↓sb, sb, sel, ser, ↓reduceIte, if_true, if_false, true_or, or_true, false_or, or_false, umS, umK, umJ, uaS, uaK, uaI, uaJ, mg30, mg31, mg32, mg33, mg34, mg35, mg36, mg37, mg38, mg39, mg40, mg41, mg42, mg43, mg44, mg45, mg46, mg47, mg48, mg49, ms30, ms31, ms32, ms33, ms34, ms35, ms36, ms37, ms38, ms39, ms40, ms41, ms42, ms43, ms44, ms45, ms46, ms47, ms48, ms49, h5, h6]
theorem r_sgN {mu : pu_M} {L pos : Nat} (u : ts_Mem) (h5 : mu 30 21 = nI L) (h6 : mu 30 22 = nI pos) (h10 : pos < 2 ^ 31) (hp : L ≤ pos) : f_X7_sign (ma mu u) = some (-nI 1) := by
  unfold f_X7_sign
  simp (disch := omega) only [li0, li1, li2, li3, li4, li5, li6, li7, li8, li9, li10, li16, li17, li20, li30, li32, li48, li49, li50, li57, li60, li126, li147, nI_add, nI_sb, pk_mul, nI_m1, inrT, leT, leF, ltT, ltF, eqT, eqF, n1lt, m1lt, m1neg, m1nle, m1le, m1a1, m1a2, m1s, m1s', nI_cl, ↓tl, ↓sb, sb, sel, ser, ↓reduceIte, if_true, if_false, true_or, or_true, false_or, or_false, umS, umK, umJ, uaS, uaK, uaI, uaJ, mg30, mg31, mg32, mg33, mg34, mg35, mg36, mg37, mg38, mg39, mg40, mg41, mg42, mg43, mg44, mg45, mg46, mg47, mg48, mg49, ms30, ms31, ms32, ms33, ms34, ms35, ms36, ms37, ms38, ms39, ms40, ms41, ms42, ms43, ms44, ms45, ms46, ms47, ms48, ms49, h5, h6]
theorem sg_hit {be : pu_A} {mu : pu_M} {L pos m s : Nat} (h : pQ be mu L pos m) (hp : pos < L) (hc : be 22 0 pos = nI s) : (∀ u, f_X3_takeSign (nI s) (cb be u) = some (nI 1, cb (ua be 21 0 7 (nI (pos + 1))) u)) ∧ (∀ u, f_X7_goes (nI s) (ma mu u) = some (nI 1, ma (um mu 30 22 (nI (pos + 1))) u)) := by
  obtain ⟨h1, h2, h3, h4, h5, h6, h7, h8, h9, h10, h11, h12, h13⟩ := h
  have hm := (h12 pos (by omega)).symm.trans hc
  refine ⟨fun u => ?_, fun u => ?_⟩
  · unfold f_X3_takeSign
    simp (disch := omega) only [li0, li1, li2, li3, li4, li5, li6, li7, li8, li9, li10, li16, li17, li20, li30, li32, li48, li49, li50, li57, li60, li126, li147, nI_add, nI_sb, pk_mul, nI_m1, inrT, leT, leF, ltT, ltF, eqT, eqF, n1lt, m1lt, m1neg, m1nle, m1le, m1a1, m1a2, m1s, m1s', nI_cl, ↓tl, ↓sb, sb, sel, ser, ↓reduceIte, if_true, if_false, true_or, or_true, false_or, or_false, umS, umK, umJ, uaS, uaK, uaI, uaJ, bg0, bs0, bg21, bs21, bg22, bs22, bg23, bs23, bg24, bs24, bg25, bs25, bg26, bs26, bg27, bs27, bg28, bs28, bg29, bs29, h1, h2, hc]
  · unfold f_X7_goes
    have := fun u => r_sg u h5 h6 h10 hp
    simp (disch := omega) only [li0, li1, li2, li3, li4, li5, li6, li7, li8, li9, li10, li16, li17, li20, li30, li32, li48, li49, li50, li57, li60, li126, li147, nI_add, nI_sb, pk_mul, nI_m1, inrT, leT, leF, ltT, ltF, eqT, eqF, n1lt, m1lt, m1neg, m1nle, m1le, m1a1, m1a2, m1s, m1s', nI_cl, ↓tl, ↓sb, sb, sel, ser, ↓reduceIte, if_true, if_false, true_or, or_true, false_or, or_false, umS, umK, umJ, uaS, uaK, uaI, uaJ, mg30, mg31, mg32, mg33, mg34, mg35, mg36, mg37, mg38, mg39, mg40, mg41, mg42, mg43, mg44, mg45, mg46, mg47, mg48, mg49, ms30, ms31, ms32, ms33, ms34, ms35, ms36, ms37, ms38, ms39, ms40, ms41, ms42, ms43, ms44, ms45, ms46, ms47, ms48, ms49, h7, this, hm, h6]
theorem sg_miss {be : pu_A} {mu : pu_M} {L pos m s : Nat} (h : pQ be mu L pos m) (hs : s < 2 ^ 31) (hc : ¬ (pos < L ∧ be 22 0 pos = nI s)) : (∀ u, f_X3_takeSign (nI s) (cb be u) = some (nI 0, cb be u)) ∧ (∀ u, f_X7_goes (nI s) (ma mu u) = some (nI 0, ma mu u)) := by
  obtain ⟨h1, h2, h3, h4, h5, h6, h7, h8, h9, h10, h11, h12, h13⟩ := h
  have hus : um mu 30 22 (nI pos) = mu := um_self h6
  by_cases hp : pos < L
  · have hc' : ¬ be 22 0 pos = nI s := fun q => hc ⟨hp, q⟩
    have hm : ¬ mu 42 pos = nI s := fun q => hc' ((h12 pos (by omega)).trans q)
    refine ⟨fun u => ?_, fun u => ?_⟩
    · unfold f_X3_takeSign
      simp (disch := omega) only [li0, li1, li2, li3, li4, li5, li6, li7, li8, li9, li10, li16, li17, li20, li30, li32, li48, li49, li50, li57, li60, li126, li147, nI_add, nI_sb, pk_mul, nI_m1, inrT, leT, leF, ltT, ltF, eqT, eqF, n1lt, m1lt, m1neg, m1nle, m1le, m1a1, m1a2, m1s, m1s', nI_cl, ↓tl, ↓sb, sb, sel, ser, ↓reduceIte, if_true, if_false, true_or, or_true, false_or, or_false, umS, umK, umJ, uaS, uaK, uaI, uaJ, bg0, bs0, bg21, bs21, bg22, bs22, bg23, bs23, bg24, bs24, bg25, bs25, bg26, bs26, bg27, bs27, bg28, bs28, bg29, bs29, h1, h2, if_neg hc']
    · unfold f_X7_goes
      have := fun u => r_sg u h5 h6 h10 hp
      simp (disch := omega) only [li0, li1, li2, li3, li4, li5, li6, li7, li8, li9, li10, li16, li17, li20, li30, li32, li48, li49, li50, li57, li60, li126, li147, nI_add, nI_sb, pk_mul, nI_m1, inrT, leT, leF, ltT, ltF, eqT, eqF, n1lt, m1lt, m1neg, m1nle, m1le, m1a1, m1a2, m1s, m1s', nI_cl, ↓tl, ↓sb, sb, sel, ser, ↓reduceIte, if_true, if_false, true_or, or_true, false_or, or_false, umS, umK, umJ, uaS, uaK, uaI, uaJ, mg30, mg31, mg32, mg33, mg34, mg35, mg36, mg37, mg38, mg39, mg40, mg41, mg42, mg43, mg44, mg45, mg46, mg47, mg48, mg49, ms30, ms31, ms32, ms33, ms34, ms35, ms36, ms37, ms38, ms39, ms40, ms41, ms42, ms43, ms44, ms45, ms46, ms47, ms48, ms49, h7, this, if_neg hm, h6, pl0, Nat.add_zero, hus]
  · refine ⟨fun u => ?_, fun u => ?_⟩
    · unfold f_X3_takeSign
      simp (disch := omega) only [li0, li1, li2, li3, li4, li5, li6, li7, li8, li9, li10, li16, li17, li20, li30, li32, li48, li49, li50, li57, li60, li126, li147, nI_add, nI_sb, pk_mul, nI_m1, inrT, leT, leF, ltT, ltF, eqT, eqF, n1lt, m1lt, m1neg, m1nle, m1le, m1a1, m1a2, m1s, m1s', nI_cl, ↓tl, ↓sb, sb, sel, ser, ↓reduceIte, if_true, if_false, true_or, or_true, false_or, or_false, umS, umK, umJ, uaS, uaK, uaI, uaJ, bg0, bs0, bg21, bs21, bg22, bs22, bg23, bs23, bg24, bs24, bg25, bs25, bg26, bs26, bg27, bs27, bg28, bs28, bg29, bs29, h1, h2]
    · unfold f_X7_goes
      have := fun u => r_sgN u h5 h6 (by omega) (by omega)
      simp (disch := omega) only [li0, li1, li2, li3, li4, li5, li6, li7, li8, li9, li10, li16, li17, li20, li30, li32, li48, li49, li50, li57, li60, li126, li147, nI_add, nI_sb, pk_mul, nI_m1, inrT, leT, leF, ltT, ltF, eqT, eqF, n1lt, m1lt, m1neg, m1nle, m1le, m1a1, m1a2, m1s, m1s', nI_cl, ↓tl, ↓sb, sb, sel, ser, ↓reduceIte, if_true, if_false, true_or, or_true, false_or, or_false, umS, umK, umJ, uaS, uaK, uaI, uaJ, mg30, mg31, mg32, mg33, mg34, mg35, mg36, mg37, mg38, mg39, mg40, mg41, mg42, mg43, mg44, mg45, mg46, mg47, mg48, mg49, ms30, ms31, ms32, ms33, ms34, ms35, ms36, ms37, ms38, ms39, ms40, ms41, ms42, ms43, ms44, ms45, ms46, ms47, ms48, ms49, h7, this, h6, pl0, Nat.add_zero, hus]
/-- a digit here, or none -/
def dgt (be : pu_A) (L pos d : Nat) : Prop := pos < L ∧ be 22 0 pos = nI (48 + d)
theorem dg_range {x : Int32} (h1 : ¬ x < nI 48) (h2 : ¬ nI 57 < x) : ∃ d, d ≤ 9 ∧ x = nI (48 + d) := by
  rw [Int32.lt_iff_toInt_lt] at h1 h2
  rw [nI_toInt (by decide)] at h1
  rw [nI_toInt (by decide)] at h2
  refine ⟨x.toInt.toNat - 48, by omega, ?_⟩
  apply Int32.toInt_inj.mp
  rw [nI_toInt (by omega)]
  omega
theorem dg_case (be : pu_A) (L pos : Nat) : (∃ d, d ≤ 9 ∧ dgt be L pos d) ∨ (L ≤ pos ∨ be 22 0 pos < nI 48 ∨ nI 57 < be 22 0 pos) := by
  by_cases a : L ≤ pos
  · exact Or.inr (Or.inl a)
  · by_cases b : be 22 0 pos < nI 48
    · exact Or.inr (Or.inr (Or.inl b))
    · by_cases c : nI 57 < be 22 0 pos
      · exact Or.inr (Or.inr (Or.inr c))
      · obtain ⟨d, h1, h2⟩ := dg_range b c
        exact Or.inl ⟨d, h1, by omega, h2⟩
theorem c_dgT {be : pu_A} {mu : pu_M} {L pos m d : Nat} (u : ts_Mem) (h : pQ be mu L pos m) (hd : d ≤ 9) (hc : dgt be L pos d) : f_X3_digitHere (cb be u) = some (nI d) := by
  obtain ⟨h1, h2, h3, h4, h5, h6, h7, h8, h9, h10, h11, h12, h13⟩ := h
  obtain ⟨c1, c2⟩ := hc
  unfold f_X3_digitHere
  simp (disch := omega) only [li0, li1, li2, li3, li4, li5, li6, li7, li8, li9, li10, li16, li17, li20, li30, li32, li48, li49, li50, li57, li60, li126, li147, nI_add, nI_sb, pk_mul, nI_m1, inrT, leT, leF, ltT, ltF, eqT, eqF, n1lt, m1lt, m1neg, m1nle, m1le, m1a1, m1a2, m1s, m1s', nI_cl, ↓tl, ↓sb, sb, sel, ser, ↓reduceIte, if_true, if_false, true_or, or_true, false_or, or_false, umS, umK, umJ, uaS, uaK, uaI, uaJ, bg0, bs0, bg21, bs21, bg22, bs22, bg23, bs23, bg24, bs24, bg25, bs25, bg26, bs26, bg27, bs27, bg28, bs28, bg29, bs29, h1, h2, c2, Nat.add_sub_cancel_left]
theorem c_dgF {be : pu_A} {mu : pu_M} {L pos m : Nat} (u : ts_Mem) (h : pQ be mu L pos m) (hc : L ≤ pos ∨ be 22 0 pos < nI 48 ∨ nI 57 < be 22 0 pos) : f_X3_digitHere (cb be u) = some (-nI 1) := by
  obtain ⟨h1, h2, h3, h4, h5, h6, h7, h8, h9, h10, h11, h12, h13⟩ := h
  unfold f_X3_digitHere
  by_cases a : L ≤ pos
  · simp (disch := omega) only [li0, li1, li2, li3, li4, li5, li6, li7, li8, li9, li10, li16, li17, li20, li30, li32, li48, li49, li50, li57, li60, li126, li147, nI_add, nI_sb, pk_mul, nI_m1, inrT, leT, leF, ltT, ltF, eqT, eqF, n1lt, m1lt, m1neg, m1nle, m1le, m1a1, m1a2, m1s, m1s', nI_cl, ↓tl, ↓sb, sb, sel, ser, ↓reduceIte, if_true, if_false, true_or, or_true, false_or, or_false, umS, umK, umJ, uaS, uaK, uaI, uaJ, bg0, bs0, bg21, bs21, bg22, bs22, bg23, bs23, bg24, bs24, bg25, bs25, bg26, bs26, bg27, bs27, bg28, bs28, bg29, bs29, h1, h2]
  · by_cases b : be 22 0 pos < nI 48
    · simp (disch := omega) only [li0, li1, li2, li3, li4, li5, li6, li7, li8, li9, li10, li16, li17, li20, li30, li32, li48, li49, li50, li57, li60, li126, li147, nI_add, nI_sb, pk_mul, nI_m1, inrT, leT, leF, ltT, ltF, eqT, eqF, n1lt, m1lt, m1neg, m1nle, m1le, m1a1, m1a2, m1s, m1s', nI_cl, ↓tl, ↓sb, sb, sel, ser, ↓reduceIte, if_true, if_false, true_or, or_true, false_or, or_false, umS, umK, umJ, uaS, uaK, uaI, uaJ, bg0, bs0, bg21, bs21, bg22, bs22, bg23, bs23, bg24, bs24, bg25, bs25, bg26, bs26, bg27, bs27, bg28, bs28, bg29, bs29, h1, h2, if_pos b]
    · have c : nI 57 < be 22 0 pos := by
        rcases hc with q | q | q
        · exact absurd q a
        · exact absurd q b
        · exact q
      simp (disch := omega) only [li0, li1, li2, li3, li4, li5, li6, li7, li8, li9, li10, li16, li17, li20, li30, li32, li48, li49, li50, li57, li60, li126, li147, nI_add, nI_sb, pk_mul, nI_m1, inrT, leT, leF, ltT, ltF, eqT, eqF, n1lt, m1lt, m1neg, m1nle, m1le, m1a1, m1a2, m1s, m1s', nI_cl, ↓tl, ↓sb, sb, sel, ser, ↓reduceIte, if_true, if_false, true_or, or_true, false_or, or_false, umS, umK, umJ, uaS, uaK, uaI, uaJ, bg0, bs0, bg21, bs21, bg22, bs22, bg23, bs23, bg24, bs24, bg25, bs25, bg26, bs26, bg27, bs27, bg28, bs28, bg29, bs29, h1, h2, if_neg b, if_pos c]
theorem r_inT {x lo hi : Int32} (u : ts_Mem) (h1 : lo ≤ x) (h2 : x ≤ hi) : f_X7_isIn x lo hi u = some (nI 1) := by
  unfold f_X7_isIn
  have h1' : ¬ x < lo := Int32.not_lt.mpr h1
  have h2' : ¬ hi < x := Int32.not_lt.mpr h2
  simp (disch := omega) only [li0, li1, li2, li3, li4, li5, li6, li7, li8, li9, li10, li16, li17, li20, li30, li32, li48, li49, li50, li57, li60, li126, li147, nI_add, nI_sb, pk_mul, nI_m1, inrT, leT, leF, ltT, ltF, eqT, eqF, n1lt, m1lt, m1neg, m1nle, m1le, m1a1, m1a2, m1s, m1s', nI_cl, ↓tl, ↓sb, sb, sel, ser, ↓reduceIte, if_true, if_false, true_or, or_true, false_or, or_false, umS, umK, umJ, uaS, uaK, uaI, uaJ, h1, h2, h1', h2', if_true, if_false]
theorem r_inF {x lo hi : Int32} (u : ts_Mem) (h : x < lo ∨ hi < x) : f_X7_isIn x lo hi u = some (nI 0) := by
  unfold f_X7_isIn
  by_cases a : x < lo
  · have a' : ¬ lo ≤ x := Int32.not_le.mpr a
    simp (disch := omega) only [li0, li1, li2, li3, li4, li5, li6, li7, li8, li9, li10, li16, li17, li20, li30, li32, li48, li49, li50, li57, li60, li126, li147, nI_add, nI_sb, pk_mul, nI_m1, inrT, leT, leF, ltT, ltF, eqT, eqF, n1lt, m1lt, m1neg, m1nle, m1le, m1a1, m1a2, m1s, m1s', nI_cl, ↓tl, ↓sb, sb, sel, ser, ↓reduceIte, if_true, if_false, true_or, or_true, false_or, or_false, umS, umK, umJ, uaS, uaK, uaI, uaJ, a, a', if_true, if_false]
  · have b : hi < x := h.resolve_left a
    have a' : lo ≤ x := Int32.not_lt.mp a
    have b' : ¬ x ≤ hi := Int32.not_le.mpr b
    simp (disch := omega) only [li0, li1, li2, li3, li4, li5, li6, li7, li8, li9, li10, li16, li17, li20, li30, li32, li48, li49, li50, li57, li60, li126, li147, nI_add, nI_sb, pk_mul, nI_m1, inrT, leT, leF, ltT, ltF, eqT, eqF, n1lt, m1lt, m1neg, m1nle, m1le, m1a1, m1a2, m1s, m1s', nI_cl, ↓tl, ↓sb, sb, sel, ser, ↓reduceIte, if_true, if_false, true_or, or_true, false_or, or_false, umS, umK, umJ, uaS, uaK, uaI, uaJ, a, a', b, b', if_true, if_false]
theorem r_dgT {be : pu_A} {mu : pu_M} {L pos m d g : Nat} (u : ts_Mem) (h : pQ be mu L pos m) (hd : d ≤ g) (hg : g ≤ 9) (hc : dgt be L pos d) : f_X7_digit (nI (48 + g)) (ma mu u) = some (nI d, ma (um mu 30 22 (nI (pos + 1))) u) := by
  obtain ⟨h1, h2, h3, h4, h5, h6, h7, h8, h9, h10, h11, h12, h13⟩ := h
  obtain ⟨c1, c2⟩ := hc
  have hm := (h12 pos (by omega)).symm.trans c2
  have hs := fun u => r_sg u h5 h6 h10 c1
  have hin := fun u => r_inT (x := nI (48 + d)) (lo := nI 48) (hi := nI (48 + g)) u (nI_le (by omega) (by omega)) (nI_le (by omega) (by omega))
  unfold f_X7_digit
  simp (disch := omega) only [li0, li1, li2, li3, li4, li5, li6, li7, li8, li9, li10, li16, li17, li20, li30, li32, li48, li49, li50, li57, li60, li126, li147, nI_add, nI_sb, pk_mul, nI_m1, inrT, leT, leF, ltT, ltF, eqT, eqF, n1lt, m1lt, m1neg, m1nle, m1le, m1a1, m1a2, m1s, m1s', nI_cl, ↓tl, ↓sb, sb, sel, ser, ↓reduceIte, if_true, if_false, true_or, or_true, false_or, or_false, umS, umK, umJ, uaS, uaK, uaI, uaJ, mg30, mg31, mg32, mg33, mg34, mg35, mg36, mg37, mg38, mg39, mg40, mg41, mg42, mg43, mg44, mg45, mg46, mg47, mg48, mg49, ms30, ms31, ms32, ms33, ms34, ms35, ms36, ms37, ms38, ms39, ms40, ms41, ms42, ms43, ms44, ms45, ms46, ms47, ms48, ms49, hs, hm, h7, hin, h6, Nat.add_sub_cancel_left]
theorem r_dgF {be : pu_A} {mu : pu_M} {L pos m g : Nat} (u : ts_Mem) (h : pQ be mu L pos m) (hg : g ≤ 9) (hc : L ≤ pos ∨ be 22 0 pos < nI 48 ∨ nI (48 + g) < be 22 0 pos) : f_X7_digit (nI (48 + g)) (ma mu u) = some (nI 0, ma (um mu 30 23 (nI pos)) u) := by
  obtain ⟨h1, h2, h3, h4, h5, h6, h7, h8, h9, h10, h11, h12, h13⟩ := h
  unfold f_X7_digit f_X7_fault
  by_cases a : L ≤ pos
  · have hs := fun u => r_sgN u h5 h6 (by omega) a
    have hin := fun u => r_inF (x := -nI 1) (lo := nI 48) (hi := nI (48 + g)) u (Or.inl (by decide))
    simp (disch := omega) only [li0, li1, li2, li3, li4, li5, li6, li7, li8, li9, li10, li16, li17, li20, li30, li32, li48, li49, li50, li57, li60, li126, li147, nI_add, nI_sb, pk_mul, nI_m1, inrT, leT, leF, ltT, ltF, eqT, eqF, n1lt, m1lt, m1neg, m1nle, m1le, m1a1, m1a2, m1s, m1s', nI_cl, ↓tl, ↓sb, sb, sel, ser, ↓reduceIte, if_true, if_false, true_or, or_true, false_or, or_false, umS, umK, umJ, uaS, uaK, uaI, uaJ, mg30, mg31, mg32, mg33, mg34, mg35, mg36, mg37, mg38, mg39, mg40, mg41, mg42, mg43, mg44, mg45, mg46, mg47, mg48, mg49, ms30, ms31, ms32, ms33, ms34, ms35, ms36, ms37, ms38, ms39, ms40, ms41, ms42, ms43, ms44, ms45, ms46, ms47, ms48, ms49, hs, h7, hin, h6]
  · have hs := fun u => r_sg u h5 h6 h10 (show pos < L by omega)
    have hin := fun u => r_inF (x := mu 42 pos) (lo := nI 48) (hi := nI (48 + g)) u (by
      rw [← h12 pos (by omega)]
      exact hc.resolve_left a)
    simp (disch := omega) only [li0, li1, li2, li3, li4, li5, li6, li7, li8, li9, li10, li16, li17, li20, li30, li32, li48, li49, li50, li57, li60, li126, li147, nI_add, nI_sb, pk_mul, nI_m1, inrT, leT, leF, ltT, ltF, eqT, eqF, n1lt, m1lt, m1neg, m1nle, m1le, m1a1, m1a2, m1s, m1s', nI_cl, ↓tl, ↓sb, sb, sel, ser, ↓reduceIte, if_true, if_false, true_or, or_true, false_or, or_false, umS, umK, umJ, uaS, uaK, uaI, uaJ, mg30, mg31, mg32, mg33, mg34, mg35, mg36, mg37, mg38, mg39, mg40, mg41, mg42, mg43, mg44, mg45, mg46, mg47, mg48, mg49, ms30, ms31, ms32, ms33, ms34, ms35, ms36, ms37, ms38, ms39, ms40, ms41, ms42, ms43, ms44, ms45, ms46, ms47, ms48, ms49, hs, h7, hin, h6]
-- the reference after a fault
theorem d_go {mu : pu_M} {e pos : Nat} (c : Int32) (u : ts_Mem) (h7 : mu 30 23 = nI e) (he : e < 2 ^ 31) (h6 : mu 30 22 = nI pos) : f_X7_goes c (ma mu u) = some (nI 0, ma mu u) := by
  have hus : um mu 30 22 (nI pos) = mu := um_self h6
  unfold f_X7_goes
  simp (disch := omega) only [li0, li1, li2, li3, li4, li5, li6, li7, li8, li9, li10, li16, li17, li20, li30, li32, li48, li49, li50, li57, li60, li126, li147, nI_add, nI_sb, pk_mul, nI_m1, inrT, leT, leF, ltT, ltF, eqT, eqF, n1lt, m1lt, m1neg, m1nle, m1le, m1a1, m1a2, m1s, m1s', nI_cl, ↓tl, ↓sb, sb, sel, ser, ↓reduceIte, if_true, if_false, true_or, or_true, false_or, or_false, umS, umK, umJ, uaS, uaK, uaI, uaJ, mg30, mg31, mg32, mg33, mg34, mg35, mg36, mg37, mg38, mg39, mg40, mg41, mg42, mg43, mg44, mg45, mg46, mg47, mg48, mg49, ms30, ms31, ms32, ms33, ms34, ms35, ms36, ms37, ms38, ms39, ms40, ms41, ms42, ms43, ms44, ms45, ms46, ms47, ms48, ms49, h7, h6, pl0, Nat.add_zero, hus]
theorem d_fa {mu : pu_M} {e : Nat} (u : ts_Mem) (h7 : mu 30 23 = nI e) (he : e < 2 ^ 31) : f_X7_fault (ma mu u) = some (ma mu u) := by
  have hus : um mu 30 23 (nI e) = mu := um_self h7
  unfold f_X7_fault
  simp (disch := omega) only [li0, li1, li2, li3, li4, li5, li6, li7, li8, li9, li10, li16, li17, li20, li30, li32, li48, li49, li50, li57, li60, li126, li147, nI_add, nI_sb, pk_mul, nI_m1, inrT, leT, leF, ltT, ltF, eqT, eqF, n1lt, m1lt, m1neg, m1nle, m1le, m1a1, m1a2, m1s, m1s', nI_cl, ↓tl, ↓sb, sb, sel, ser, ↓reduceIte, if_true, if_false, true_or, or_true, false_or, or_false, umS, umK, umJ, uaS, uaK, uaI, uaJ, mg30, mg31, mg32, mg33, mg34, mg35, mg36, mg37, mg38, mg39, mg40, mg41, mg42, mg43, mg44, mg45, mg46, mg47, mg48, mg49, ms30, ms31, ms32, ms33, ms34, ms35, ms36, ms37, ms38, ms39, ms40, ms41, ms42, ms43, ms44, ms45, ms46, ms47, ms48, ms49, h7, hus]
theorem d_dg {mu : pu_M} {e pos L : Nat} (c : Int32) (u : ts_Mem) (h7 : mu 30 23 = nI e) (he : e < 2 ^ 31) (h6 : mu 30 22 = nI pos) (h5 : mu 30 21 = nI L) (h10 : L ≤ 60) (hp : pos ≤ L) : f_X7_digit c (ma mu u) = some (nI 0, ma mu u) := by
  have hf := fun u => d_fa (mu := mu) u h7 he
  unfold f_X7_digit
  by_cases a : L ≤ pos
  · have hs := fun u => r_sgN (mu := mu) u h5 h6 (by omega) a
    simp (disch := omega) only [li0, li1, li2, li3, li4, li5, li6, li7, li8, li9, li10, li16, li17, li20, li30, li32, li48, li49, li50, li57, li60, li126, li147, nI_add, nI_sb, pk_mul, nI_m1, inrT, leT, leF, ltT, ltF, eqT, eqF, n1lt, m1lt, m1neg, m1nle, m1le, m1a1, m1a2, m1s, m1s', nI_cl, ↓tl, ↓sb, sb, sel, ser, ↓reduceIte, if_true, if_false, true_or, or_true, false_or, or_false, umS, umK, umJ, uaS, uaK, uaI, uaJ, mg30, mg31, mg32, mg33, mg34, mg35, mg36, mg37, mg38, mg39, mg40, mg41, mg42, mg43, mg44, mg45, mg46, mg47, mg48, mg49, ms30, ms31, ms32, ms33, ms34, ms35, ms36, ms37, ms38, ms39, ms40, ms41, ms42, ms43, ms44, ms45, ms46, ms47, ms48, ms49, hs, h7, hf]
  · have hs := fun u => r_sg (mu := mu) u h5 h6 h10 (show pos < L by omega)
    simp (disch := omega) only [li0, li1, li2, li3, li4, li5, li6, li7, li8, li9, li10, li16, li17, li20, li30, li32, li48, li49, li50, li57, li60, li126, li147, nI_add, nI_sb, pk_mul, nI_m1, inrT, leT, leF, ltT, ltF, eqT, eqF, n1lt, m1lt, m1neg, m1nle, m1le, m1a1, m1a2, m1s, m1s', nI_cl, ↓tl, ↓sb, sb, sel, ser, ↓reduceIte, if_true, if_false, true_or, or_true, false_or, or_false, umS, umK, umJ, uaS, uaK, uaI, uaJ, mg30, mg31, mg32, mg33, mg34, mg35, mg36, mg37, mg38, mg39, mg40, mg41, mg42, mg43, mg44, mg45, mg46, mg47, mg48, mg49, ms30, ms31, ms32, ms33, ms34, ms35, ms36, ms37, ms38, ms39, ms40, ms41, ms42, ms43, ms44, ms45, ms46, ms47, ms48, ms49, hs, h7, hf]
theorem d_nm {mu : pu_M} {e pos L : Nat} (u : ts_Mem) (h7 : mu 30 23 = nI e) (he : e < 2 ^ 31) (h6 : mu 30 22 = nI pos) (h5 : mu 30 21 = nI L) (h10 : L ≤ 60) (hp : pos ≤ L) : f_X7_readNumber (ma mu u) = some (nI 0, ma mu u) := by
  have hd := fun u => d_dg (mu := mu) (nI 57) u h7 he h6 h5 h10 hp
  obtain ⟨N, hN⟩ : ∃ N, ts_fu = N + 1 := ⟨2999, rfl⟩
  unfold f_X7_readNumber
  simp (disch := omega) only [li0, li1, li2, li3, li4, li5, li6, li7, li8, li9, li10, li16, li17, li20, li30, li32, li48, li49, li50, li57, li60, li126, li147, nI_add, nI_sb, pk_mul, nI_m1, inrT, leT, leF, ltT, ltF, eqT, eqF, n1lt, m1lt, m1neg, m1nle, m1le, m1a1, m1a2, m1s, m1s', nI_cl, ↓tl, ↓sb, sb, sel, ser, ↓reduceIte, if_true, if_false, true_or, or_true, false_or, or_false, umS, umK, umJ, uaS, uaK, uaI, uaJ, hd]
  rw [hN, lp_X7_readNumber_9]
  simp (disch := omega) only [li0, li1, li2, li3, li4, li5, li6, li7, li8, li9, li10, li16, li17, li20, li30, li32, li48, li49, li50, li57, li60, li126, li147, nI_add, nI_sb, pk_mul, nI_m1, inrT, leT, leF, ltT, ltF, eqT, eqF, n1lt, m1lt, m1neg, m1nle, m1le, m1a1, m1a2, m1s, m1s', nI_cl, ↓tl, ↓sb, sb, sel, ser, ↓reduceIte, if_true, if_false, true_or, or_true, false_or, or_false, umS, umK, umJ, uaS, uaK, uaI, uaJ, mg30, mg31, mg32, mg33, mg34, mg35, mg36, mg37, mg38, mg39, mg40, mg41, mg42, mg43, mg44, mg45, mg46, mg47, mg48, mg49, ms30, ms31, ms32, ms33, ms34, ms35, ms36, ms37, ms38, ms39, ms40, ms41, ms42, ms43, ms44, ms45, ms46, ms47, ms48, ms49, h7]
-- numbers
theorem nm_loop {L m : Nat} : ∀ d j (be : pu_A) (mu : pu_M) (pos v : Nat), j + d = 3 → pQ be mu L pos m → v < 10 ^ (j + 1) → ∃ be' mu' pos' v', (∀ u N, d < N → ∃ x, lp_X3_takeNumber_23 N (nI v) (nI (j + 1)) (cb be u) = some (nI v', x, cb be' u)) ∧ (∀ u N, d < N → ∃ x, lp_X7_readNumber_9 N (nI v) (nI j) (ma mu u) = some (nI v', x, ma mu' u)) ∧ pQ be' mu' L pos' m ∧ pos ≤ pos' ∧ v' < 10000 ∧ pFb be be' ∧ pFm mu mu' ∧ (∀ j, mu' 43 j = mu 43 j) := by
  intro d
  induction d with
  | zero =>
    intro j be mu pos v hj h hv
    obtain rfl : j = 3 := by omega
    refine ⟨be, mu, pos, v, fun u N hN => ⟨nI (3 + 1), ?_⟩, fun u N hN => ⟨nI 3, ?_⟩, h, Nat.le_refl _, hv, pFb_refl _, pFm_refl _, fun _ => rfl⟩
    · obtain ⟨N, rfl⟩ : ∃ b, N = b + 1 := ⟨N - 1, by omega⟩
      rw [lp_X3_takeNumber_23]
      simp (disch := omega) only [li0, li1, li2, li3, li4, li5, li6, li7, li8, li9, li10, li16, li17, li20, li30, li32, li48, li49, li50, li57, li60, li126, li147, nI_add, nI_sb, pk_mul, nI_m1, inrT, leT, leF, ltT, ltF, eqT, eqF, n1lt, m1lt, m1neg, m1nle, m1le, m1a1, m1a2, m1s, m1s', nI_cl, ↓tl, ↓sb, sb, sel, ser, ↓reduceIte, if_true, if_false, true_or, or_true, false_or, or_false, umS, umK, umJ, uaS, uaK, uaI, uaJ]
    · obtain ⟨N, rfl⟩ : ∃ b, N = b + 1 := ⟨N - 1, by omega⟩
      rw [lp_X7_readNumber_9]
      simp (disch := omega) only [li0, li1, li2, li3, li4, li5, li6, li7, li8, li9, li10, li16, li17, li20, li30, li32, li48, li49, li50, li57, li60, li126, li147, nI_add, nI_sb, pk_mul, nI_m1, inrT, leT, leF, ltT, ltF, eqT, eqF, n1lt, m1lt, m1neg, m1nle, m1le, m1a1, m1a2, m1s, m1s', nI_cl, ↓tl, ↓sb, sb, sel, ser, ↓reduceIte, if_true, if_false, true_or, or_true, false_or, or_false, umS, umK, umJ, uaS, uaK, uaI, uaJ]
  | succ d ih =>
    intro j be mu pos v hj h hv
    have h' := h
    obtain ⟨h1, h2, h3, h4, h5, h6, h7, h8, h9, h10, h11, h12, h13⟩ := h'
    have hv3 : v < 1000 := Nat.lt_of_lt_of_le hv (Nat.le_trans (Nat.pow_le_pow_right (by omega) (show j + 1 ≤ 3 by omega)) (by decide))
    rcases dg_case be L pos with ⟨g, g1, g2⟩ | hc
    · have hm := (h12 pos (by have := g2.1; omega)).symm.trans g2.2
      have hs := fun u => r_sg (mu := mu) u h5 h6 h10 g2.1
      have hin := fun u => r_inT (x := nI (48 + g)) (lo := nI 48) (hi := nI 57) u (nI_le (by omega) (by omega)) (nI_le (by omega) (by omega))
      obtain ⟨be', mu', pos', v', q1, q2, q3, q4, q5, q6, q7, q8⟩ := ih (j + 1) (ua be 21 0 7 (nI (pos + 1))) (um mu 30 22 (nI (pos + 1))) (pos + 1) (10 * v + g) (by omega) (pQ_mv h g2.1) (by rw [Nat.pow_succ]; omega)
      refine ⟨be', mu', pos', v', fun u N hN => ?_, fun u N hN => ?_, q3, by omega, q5, pFb_trans (pFb_u _ _ (by omega)) q6, pFm_trans (pFm_u _ _ (by omega)) q7, fun j => by rw [q8, umK _ _ _ _ (by omega)]⟩
      · obtain ⟨N, rfl⟩ : ∃ b, N = b + 1 := ⟨N - 1, by omega⟩
        obtain ⟨x, hx⟩ := q1 u N (by omega)
        refine ⟨x, ?_⟩
        have hd := c_dgT u h g1 g2
        rw [lp_X3_takeNumber_23]
        simp (disch := omega) only [li0, li1, li2, li3, li4, li5, li6, li7, li8, li9, li10, li16, li17, li20, li30, li32, li48, li49, li50, li57, li60, li126, li147, nI_add, nI_sb, pk_mul, nI_m1, inrT, leT, leF, ltT, ltF, eqT, eqF, n1lt, m1lt, m1neg, m1nle, m1le, m1a1, m1a2, m1s, m1s', nI_cl, ↓tl, ↓sb, sb, sel, ser, ↓reduceIte, if_true, if_false, true_or, or_true, false_or, or_false, umS, umK, umJ, uaS, uaK, uaI, uaJ, bg0, bs0, bg21, bs21, bg22, bs22, bg23, bs23, bg24, bs24, bg25, bs25, bg26, bs26, bg27, bs27, bg28, bs28, bg29, bs29, hd, h2]
        exact hx
      · obtain ⟨N, rfl⟩ : ∃ b, N = b + 1 := ⟨N - 1, by omega⟩
        obtain ⟨x, hx⟩ := q2 u N (by omega)
        refine ⟨x, ?_⟩
        rw [lp_X7_readNumber_9]
        simp (disch := omega) only [li0, li1, li2, li3, li4, li5, li6, li7, li8, li9, li10, li16, li17, li20, li30, li32, li48, li49, li50, li57, li60, li126, li147, nI_add, nI_sb, pk_mul, nI_m1, inrT, leT, leF, ltT, ltF, eqT, eqF, n1lt, m1lt, m1neg, m1nle, m1le, m1a1, m1a2, m1s, m1s', nI_cl, ↓tl, ↓sb, sb, sel, ser, ↓reduceIte, if_true, if_false, true_or, or_true, false_or, or_false, umS, umK, umJ, uaS, uaK, uaI, uaJ, mg30, mg31, mg32, mg33, mg34, mg35, mg36, mg37, mg38, mg39, mg40, mg41, mg42, mg43, mg44, mg45, mg46, mg47, mg48, mg49, ms30, ms31, ms32, ms33, ms34, ms35, ms36, ms37, ms38, ms39, ms40, ms41, ms42, ms43, ms44, ms45, ms46, ms47, ms48, ms49, h7, hs, hm, hin, h6, show 10 * v + (48 + g) - 48 = 10 * v + g by omega]
        exact hx
    · refine ⟨be, mu, pos, v, fun u N hN => ⟨nI (j + 1), ?_⟩, fun u N hN => ⟨nI j, ?_⟩, h, Nat.le_refl _, by omega, pFb_refl _, pFm_refl _, fun _ => rfl⟩
      · obtain ⟨N, rfl⟩ : ∃ b, N = b + 1 := ⟨N - 1, by omega⟩
        have hd := c_dgF u h hc
        rw [lp_X3_takeNumber_23]
        simp (disch := omega) only [li0, li1, li2, li3, li4, li5, li6, li7, li8, li9, li10, li16, li17, li20, li30, li32, li48, li49, li50, li57, li60, li126, li147, nI_add, nI_sb, pk_mul, nI_m1, inrT, leT, leF, ltT, ltF, eqT, eqF, n1lt, m1lt, m1neg, m1nle, m1le, m1a1, m1a2, m1s, m1s', nI_cl, ↓tl, ↓sb, sb, sel, ser, ↓reduceIte, if_true, if_false, true_or, or_true, false_or, or_false, umS, umK, umJ, uaS, uaK, uaI, uaJ, bg0, bs0, bg21, bs21, bg22, bs22, bg23, bs23, bg24, bs24, bg25, bs25, bg26, bs26, bg27, bs27, bg28, bs28, bg29, bs29, hd]
      · obtain ⟨N, rfl⟩ : ∃ b, N = b + 1 := ⟨N - 1, by omega⟩
        rw [lp_X7_readNumber_9]
        by_cases a : L ≤ pos
        · have hs := fun u => r_sgN (mu := mu) u h5 h6 (by omega) a
          have hin := fun u => r_inF (x := -nI 1) (lo := nI 48) (hi := nI 57) u (Or.inl (by decide))
          simp (disch := omega) only [li0, li1, li2, li3, li4, li5, li6, li7, li8, li9, li10, li16, li17, li20, li30, li32, li48, li49, li50, li57, li60, li126, li147, nI_add, nI_sb, pk_mul, nI_m1, inrT, leT, leF, ltT, ltF, eqT, eqF, n1lt, m1lt, m1neg, m1nle, m1le, m1a1, m1a2, m1s, m1s', nI_cl, ↓tl, ↓sb, sb, sel, ser, ↓reduceIte, if_true, if_false, true_or, or_true, false_or, or_false, umS, umK, umJ, uaS, uaK, uaI, uaJ, mg30, mg31, mg32, mg33, mg34, mg35, mg36, mg37, mg38, mg39, mg40, mg41, mg42, mg43, mg44, mg45, mg46, mg47, mg48, mg49, ms30, ms31, ms32, ms33, ms34, ms35, ms36, ms37, ms38, ms39, ms40, ms41, ms42, ms43, ms44, ms45, ms46, ms47, ms48, ms49, hs, h7, hin]
        · have hs := fun u => r_sg (mu := mu) u h5 h6 h10 (show pos < L by omega)
          have hin := fun u => r_inF (x := mu 42 pos) (lo := nI 48) (hi := nI 57) u (by
            rw [← h12 pos (by omega)]
            exact hc.resolve_left a)
          simp (disch := omega) only [li0, li1, li2, li3, li4, li5, li6, li7, li8, li9, li10, li16, li17, li20, li30, li32, li48, li49, li50, li57, li60, li126, li147, nI_add, nI_sb, pk_mul, nI_m1, inrT, leT, leF, ltT, ltF, eqT, eqF, n1lt, m1lt, m1neg, m1nle, m1le, m1a1, m1a2, m1s, m1s', nI_cl, ↓tl, ↓sb, sb, sel, ser, ↓reduceIte, if_true, if_false, true_or, or_true, false_or, or_false, umS, umK, umJ, uaS, uaK, uaI, uaJ, mg30, mg31, mg32, mg33, mg34, mg35, mg36, mg37, mg38, mg39, mg40, mg41, mg42, mg43, mg44, mg45, mg46, mg47, mg48, mg49, ms30, ms31, ms32, ms33, ms34, ms35, ms36, ms37, ms38, ms39, ms40, ms41, ms42, ms43, ms44, ms45, ms46, ms47, ms48, ms49, hs, h7, hin]
/-- a number: taken on both sides, or missing on both -/
theorem nm {be : pu_A} {mu : pu_M} {L pos m : Nat} (h : pQ be mu L pos m) : (∃ be' mu' pos' v, (∀ u, f_X3_takeNumber (cb be u) = some (nI v, cb be' u)) ∧ (∀ u, f_X7_readNumber (ma mu u) = some (nI v, ma mu' u)) ∧ pQ be' mu' L pos' m ∧ pos < pos' ∧ v < 10000 ∧ pFb be be' ∧ pFm mu mu' ∧ (∀ j, mu' 43 j = mu 43 j)) ∨ ((∀ u, f_X3_takeNumber (cb be u) = some (-nI 1, cb be u)) ∧ (∀ u, f_X7_readNumber (ma mu u) = some (nI 0, ma (um mu 30 23 (nI pos)) u))) := by
  have h' := h
  obtain ⟨h1, h2, h3, h4, h5, h6, h7, h8, h9, h10, h11, h12, h13⟩ := h'
  rcases dg_case be L pos with ⟨g, g1, g2⟩ | hc
  · left
    obtain ⟨be', mu', pos', v', q1, q2, q3, q4, q5, q6, q7, q8⟩ := nm_loop 3 0 _ _ (pos + 1) g (by omega) (pQ_mv h g2.1) (by omega)
    refine ⟨be', mu', pos', v', fun u => ?_, fun u => ?_, q3, by omega, q5, pFb_trans (pFb_u _ _ (by omega)) q6, pFm_trans (pFm_u _ _ (by omega)) q7, fun j => by rw [q8, umK _ _ _ _ (by omega)]⟩
    · obtain ⟨x, hx⟩ := q1 u ts_fu (by unfold ts_fu; omega)
      have hd := c_dgT u h g1 g2
      unfold f_X3_takeNumber
      simp (disch := omega) only [li0, li1, li2, li3, li4, li5, li6, li7, li8, li9, li10, li16, li17, li20, li30, li32, li48, li49, li50, li57, li60, li126, li147, nI_add, nI_sb, pk_mul, nI_m1, inrT, leT, leF, ltT, ltF, eqT, eqF, n1lt, m1lt, m1neg, m1nle, m1le, m1a1, m1a2, m1s, m1s', nI_cl, ↓tl, ↓sb, sb, sel, ser, ↓reduceIte, if_true, if_false, true_or, or_true, false_or, or_false, umS, umK, umJ, uaS, uaK, uaI, uaJ, bg0, bs0, bg21, bs21, bg22, bs22, bg23, bs23, bg24, bs24, bg25, bs25, bg26, bs26, bg27, bs27, bg28, bs28, bg29, bs29, hd, h2]
      rw [show (nI 1) = nI (0 + 1) from rfl, hx]
      rfl
    · obtain ⟨x, hx⟩ := q2 u ts_fu (by unfold ts_fu; omega)
      have hd := r_dgT (g := 9) u h g1 (by omega) g2
      unfold f_X7_readNumber
      rw [show (57 : Int32) = nI (48 + 9) from rfl, hd, sb, show (0 : Int32) = nI 0 from rfl]
      dsimp only
      rw [hx]
      rfl
  · right
    refine ⟨fun u => ?_, fun u => ?_⟩
    · have hd := c_dgF u h hc
      unfold f_X3_takeNumber
      simp (disch := omega) only [li0, li1, li2, li3, li4, li5, li6, li7, li8, li9, li10, li16, li17, li20, li30, li32, li48, li49, li50, li57, li60, li126, li147, nI_add, nI_sb, pk_mul, nI_m1, inrT, leT, leF, ltT, ltF, eqT, eqF, n1lt, m1lt, m1neg, m1nle, m1le, m1a1, m1a2, m1s, m1s', nI_cl, ↓tl, ↓sb, sb, sel, ser, ↓reduceIte, if_true, if_false, true_or, or_true, false_or, or_false, umS, umK, umJ, uaS, uaK, uaI, uaJ, bg0, bs0, bg21, bs21, bg22, bs22, bg23, bs23, bg24, bs24, bg25, bs25, bg26, bs26, bg27, bs27, bg28, bs28, bg29, bs29, hd]
    · have hd := r_dgF (g := 9) u h (by omega) hc
      unfold f_X7_readNumber
      rw [show (57 : Int32) = nI (48 + 9) from rfl, hd, sb]
      dsimp only
      obtain ⟨N, hN⟩ : ∃ N, ts_fu = N + 1 := ⟨2999, rfl⟩
      rw [hN, lp_X7_readNumber_9]
      simp (disch := omega) only [li0, li1, li2, li3, li4, li5, li6, li7, li8, li9, li10, li16, li17, li20, li30, li32, li48, li49, li50, li57, li60, li126, li147, nI_add, nI_sb, pk_mul, nI_m1, inrT, leT, leF, ltT, ltF, eqT, eqF, n1lt, m1lt, m1neg, m1nle, m1le, m1a1, m1a2, m1s, m1s', nI_cl, ↓tl, ↓sb, sb, sel, ser, ↓reduceIte, if_true, if_false, true_or, or_true, false_or, or_false, umS, umK, umJ, uaS, uaK, uaI, uaJ, mg30, mg31, mg32, mg33, mg34, mg35, mg36, mg37, mg38, mg39, mg40, mg41, mg42, mg43, mg44, mg45, mg46, mg47, mg48, mg49, ms30, ms31, ms32, ms33, ms34, ms35, ms36, ms37, ms38, ms39, ms40, ms41, ms42, ms43, ms44, ms45, ms46, ms47, ms48, ms49]
