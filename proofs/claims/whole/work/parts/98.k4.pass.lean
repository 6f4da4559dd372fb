/-! the reference keeps its numbers, and takes them back -/
theorem ofN (a : Nat) : Int32.ofNat a = nI a := rfl
theorem ps_0 {mu : pu_M} {at_ : Nat} (x : Int32) (u : ts_Mem) (h36 : mu 30 36 = nI 0) (h35 : mu 30 35 = nI at_) (ha : at_ < 2200) : f_X7_pass x (ma mu u) = some (x, ma (um (um mu 49 at_ x) 30 35 (nI (at_ + 1))) u) := by
  unfold f_X7_pass
  simp (disch := omega) only [li0, li1, li2, li3, li4, li5, li6, li7, li8, li9, li10, li16, li17, li20, li30, li32, li48, li49, li50, li57, li60, li126, li147, nI_add, nI_sb, pk_mul, nI_m1, inrT, leT, leF, ltT, ltF, eqT, eqF, n1lt, m1lt, m1neg, m1nle, m1le, m1a1, m1a2, m1s, m1s', nI_cl, ↓tl, ↓sb, sb, sel, ser, ↓reduceIte, if_true, if_false, true_or, or_true, false_or, or_false, umS, umK, umJ, uaS, uaK, uaI, uaJ, mg30, mg31, mg32, mg33, mg34, mg35, mg36, mg37, mg38, mg39, mg40, mg41, mg42, mg43, mg44, mg45, mg46, mg47, mg48, mg49, ms30, ms31, ms32, ms33, ms34, ms35, ms36, ms37, ms38, ms39, ms40, ms41, ms42, ms43, ms44, ms45, ms46, ms47, ms48, ms49, h36, h35, Nat.add_sub_cancel]
theorem ps_1 {mu : pu_M} {at_ : Nat} (x : Int32) (u : ts_Mem) (h36 : mu 30 36 = nI 1) (h35 : mu 30 35 = nI at_) (ha : at_ < 2200) : f_X7_pass x (ma mu u) = some (mu 49 at_, ma (um mu 30 35 (nI (at_ + 1))) u) := by
  unfold f_X7_pass
  simp (disch := omega) only [li0, li1, li2, li3, li4, li5, li6, li7, li8, li9, li10, li16, li17, li20, li30, li32, li48, li49, li50, li57, li60, li126, li147, nI_add, nI_sb, pk_mul, nI_m1, inrT, leT, leF, ltT, ltF, eqT, eqF, n1lt, m1lt, m1neg, m1nle, m1le, m1a1, m1a2, m1s, m1s', nI_cl, ↓tl, ↓sb, sb, sel, ser, ↓reduceIte, if_true, if_false, true_or, or_true, false_or, or_false, umS, umK, umJ, uaS, uaK, uaI, uaJ, mg30, mg31, mg32, mg33, mg34, mg35, mg36, mg37, mg38, mg39, mg40, mg41, mg42, mg43, mg44, mg45, mg46, mg47, mg48, mg49, ms30, ms31, ms32, ms33, ms34, ms35, ms36, ms37, ms38, ms39, ms40, ms41, ms42, ms43, ms44, ms45, ms46, ms47, ms48, ms49, h36, h35, Nat.add_sub_cancel]
theorem pr_0 {kd kN lo : Nat} (hk : 31 ≤ kd ∧ kd ≤ 41) (hN : kN ≤ 1280) (hl : lo + kN ≤ 2200) : ∀ d j (mu : pu_M), j + d = kN → mu 30 36 = nI 0 → mu 30 35 = nI (lo + j) → ∃ mu', (∀ u M, d < M → lp_X7_passRow_2 kd kN M (nI j) (ma mu u) = some (nI kN, ma mu' u)) ∧ mu' 30 35 = nI (lo + kN) ∧ (∀ k, j ≤ k → k < kN → mu' 49 (lo + k) = mu kd k) ∧ (∀ a x, ¬ (a = 30 ∧ x = 35) → ¬ (a = 49 ∧ lo + j ≤ x ∧ x < lo + kN) → mu' a x = mu a x) := by
  intro d
  induction d with
  | zero =>
    intro j mu hj h36 h35
    obtain rfl : j = kN := by omega
    refine ⟨mu, fun u M hM => ?_, h35, fun k h1 h2 => absurd h1 (by omega), fun _ _ _ _ => rfl⟩
    obtain ⟨M, rfl⟩ : ∃ b, M = b + 1 := ⟨M - 1, by omega⟩
    rw [lp_X7_passRow_2]
    simp (disch := omega) only [ofN, li0, li1, li2, li3, li4, li5, li6, li7, li8, li9, li10, li16, li17, li20, li30, li32, li48, li49, li50, li57, li60, li126, li147, nI_add, nI_sb, pk_mul, nI_m1, inrT, leT, leF, ltT, ltF, eqT, eqF, n1lt, m1lt, m1neg, m1nle, m1le, m1a1, m1a2, m1s, m1s', nI_cl, ↓tl, ↓sb, sb, sel, ser, ↓reduceIte, if_true, if_false, true_or, or_true, false_or, or_false, umS, umK, umJ, uaS, uaK, uaI, uaJ]
  | succ d ih =>
    intro j mu hj h36 h35
    have hp := fun u => ps_0 (mu kd j) u h36 h35 (by omega)
    have hself : um (um (um mu 49 (lo + j) (mu kd j)) 30 35 (nI (lo + j + 1))) kd j (mu kd j) = um (um mu 49 (lo + j) (mu kd j)) 30 35 (nI (lo + j + 1)) := um_self (by simp (disch := omega) only [umK])
    obtain ⟨mu', q1, q2, q3, q4⟩ := ih (j + 1) (um (um mu 49 (lo + j) (mu kd j)) 30 35 (nI (lo + j + 1))) (by omega) (by simp (disch := omega) only [umJ, umK, h36]) (by simp (disch := omega) only [umS]; rw [show lo + (j + 1) = lo + j + 1 by omega])
    refine ⟨mu', fun u M hM => ?_, q2, fun k h1 h2 => ?_, fun a x h1 h2 => ?_⟩
    · obtain ⟨M, rfl⟩ : ∃ b, M = b + 1 := ⟨M - 1, by omega⟩
      have := q1 u M (by omega)
      rw [lp_X7_passRow_2]
      simp (disch := omega) only [ofN, li0, li1, li2, li3, li4, li5, li6, li7, li8, li9, li10, li16, li17, li20, li30, li32, li48, li49, li50, li57, li60, li126, li147, nI_add, nI_sb, pk_mul, nI_m1, inrT, leT, leF, ltT, ltF, eqT, eqF, n1lt, m1lt, m1neg, m1nle, m1le, m1a1, m1a2, m1s, m1s', nI_cl, ↓tl, ↓sb, sb, sel, ser, ↓reduceIte, if_true, if_false, true_or, or_true, false_or, or_false, umS, umK, umJ, uaS, uaK, uaI, uaJ, ma_g, ma_s, hp, hself]
      exact this
    · by_cases e : k = j
      · subst e
        rw [q4 _ _ (by omega) (by omega), umK _ _ _ _ (by omega), umS]
      · rw [q3 k (by omega) h2]; simp (disch := omega) only [umK]
    · rw [q4 a x h1 (by omega)]
      simp only [um]
      rw [if_neg (by omega), if_neg (by omega)]
theorem pr_1 {kd kN lo : Nat} (hk : 31 ≤ kd ∧ kd ≤ 41) (hN : kN ≤ 1280) (hl : lo + kN ≤ 2200) : ∀ d j (mu : pu_M), j + d = kN → mu 30 36 = nI 1 → mu 30 35 = nI (lo + j) → ∃ mu', (∀ u M, d < M → lp_X7_passRow_2 kd kN M (nI j) (ma mu u) = some (nI kN, ma mu' u)) ∧ mu' 30 35 = nI (lo + kN) ∧ (∀ k, j ≤ k → k < kN → mu' kd k = mu 49 (lo + k)) ∧ (∀ a x, ¬ (a = 30 ∧ x = 35) → ¬ (a = kd ∧ j ≤ x ∧ x < kN) → mu' a x = mu a x) := by
  intro d
  induction d with
  | zero =>
    intro j mu hj h36 h35
    obtain rfl : j = kN := by omega
    refine ⟨mu, fun u M hM => ?_, h35, fun k h1 h2 => absurd h1 (by omega), fun _ _ _ _ => rfl⟩
    obtain ⟨M, rfl⟩ : ∃ b, M = b + 1 := ⟨M - 1, by omega⟩
    rw [lp_X7_passRow_2]
    simp (disch := omega) only [ofN, li0, li1, li2, li3, li4, li5, li6, li7, li8, li9, li10, li16, li17, li20, li30, li32, li48, li49, li50, li57, li60, li126, li147, nI_add, nI_sb, pk_mul, nI_m1, inrT, leT, leF, ltT, ltF, eqT, eqF, n1lt, m1lt, m1neg, m1nle, m1le, m1a1, m1a2, m1s, m1s', nI_cl, ↓tl, ↓sb, sb, sel, ser, ↓reduceIte, if_true, if_false, true_or, or_true, false_or, or_false, umS, umK, umJ, uaS, uaK, uaI, uaJ]
  | succ d ih =>
    intro j mu hj h36 h35
    have hp := fun u => ps_1 (mu kd j) u h36 h35 (by omega)
    obtain ⟨mu', q1, q2, q3, q4⟩ := ih (j + 1) (um (um mu 30 35 (nI (lo + j + 1))) kd j (mu 49 (lo + j))) (by omega) (by simp (disch := omega) only [umJ, umK, h36]) (by simp (disch := omega) only [umK, umS]; rw [show lo + (j + 1) = lo + j + 1 by omega])
    refine ⟨mu', fun u M hM => ?_, q2, fun k h1 h2 => ?_, fun a x h1 h2 => ?_⟩
    · obtain ⟨M, rfl⟩ : ∃ b, M = b + 1 := ⟨M - 1, by omega⟩
      have := q1 u M (by omega)
      rw [lp_X7_passRow_2]
      simp (disch := omega) only [ofN, li0, li1, li2, li3, li4, li5, li6, li7, li8, li9, li10, li16, li17, li20, li30, li32, li48, li49, li50, li57, li60, li126, li147, nI_add, nI_sb, pk_mul, nI_m1, inrT, leT, leF, ltT, ltF, eqT, eqF, n1lt, m1lt, m1neg, m1nle, m1le, m1a1, m1a2, m1s, m1s', nI_cl, ↓tl, ↓sb, sb, sel, ser, ↓reduceIte, if_true, if_false, true_or, or_true, false_or, or_false, umS, umK, umJ, uaS, uaK, uaI, uaJ, ma_g, ma_s, hp]
      exact this
    · by_cases e : k = j
      · subst e
        rw [q4 _ _ (by omega) (by omega), umS]
      · rw [q3 k (by omega) h2]; simp (disch := omega) only [umK]
    · rw [q4 a x h1 (by omega)]
      simp only [um]
      rw [if_neg (by omega), if_neg (by omega)]
theorem pw_0 {kd kN lo : Nat} (mu : pu_M) (hk : 31 ≤ kd ∧ kd ≤ 41) (hN : kN ≤ 1280) (hl : lo + kN ≤ 2200) (h36 : mu 30 36 = nI 0) (h35 : mu 30 35 = nI lo) : ∃ mu', (∀ u, f_X7_passRow kd kN (ma mu u) = some (ma mu' u)) ∧ mu' 30 36 = nI 0 ∧ mu' 30 35 = nI (lo + kN) ∧ (∀ k, k < kN → mu' 49 (lo + k) = mu kd k) ∧ (∀ a x, ¬ (a = 30 ∧ x = 35) → ¬ (a = 49 ∧ lo ≤ x ∧ x < lo + kN) → mu' a x = mu a x) := by
  obtain ⟨mu', q1, q2, q3, q4⟩ := pr_0 hk hN hl kN 0 mu (by omega) h36 h35
  refine ⟨mu', fun u => ?_, by rw [q4 _ _ (by omega) (by omega)]; exact h36, q2, fun k h => q3 k (by omega) h, fun a x h1 h2 => q4 a x h1 (by omega)⟩
  unfold f_X7_passRow
  have := q1 u ts_fu (by unfold ts_fu; omega)
  rw [show (0 : Int32) = nI 0 from rfl, this]
  rfl
theorem pw_1 {kd kN lo : Nat} (mu : pu_M) (hk : 31 ≤ kd ∧ kd ≤ 41) (hN : kN ≤ 1280) (hl : lo + kN ≤ 2200) (h36 : mu 30 36 = nI 1) (h35 : mu 30 35 = nI lo) : ∃ mu', (∀ u, f_X7_passRow kd kN (ma mu u) = some (ma mu' u)) ∧ mu' 30 36 = nI 1 ∧ mu' 30 35 = nI (lo + kN) ∧ (∀ k, k < kN → mu' kd k = mu 49 (lo + k)) ∧ (∀ a x, ¬ (a = 30 ∧ x = 35) → ¬ (a = kd ∧ x < kN) → mu' a x = mu a x) := by
  obtain ⟨mu', q1, q2, q3, q4⟩ := pr_1 hk hN hl kN 0 mu (by omega) h36 h35
  refine ⟨mu', fun u => ?_, by rw [q4 _ _ (by omega) (by omega)]; exact h36, q2, fun k h => q3 k (by omega) h, fun a x h1 h2 => q4 a x h1 (by omega)⟩
  unfold f_X7_passRow
  have := q1 u ts_fu (by unfold ts_fu; omega)
  rw [show (0 : Int32) = nI 0 from rfl, this]
  rfl
theorem pall_0 (mu : pu_M) : ∃ mu', (∀ u, f_X7_passAll (nI 0) (ma mu u) = some (ma mu' u)) ∧ pKp mu' mu ∧ (∀ a x, ¬ (a = 30 ∧ (x = 35 ∨ x = 36)) → ¬ a = 49 → mu' a x = mu a x) := by
  obtain ⟨n0, a0, b0, c0, d0, e0⟩ : ∃ n0 : pu_M, (∀ u, f_X7_pass (mu 30 1) (ma (um (um mu 30 36 (nI 0)) 30 35 (nI 0)) u) = some (mu 30 1, ma n0 u)) ∧ n0 30 36 = nI 0 ∧ n0 30 35 = nI 1 ∧ n0 49 0 = mu 30 1 ∧ (∀ a x, ¬ (a = 30 ∧ x = 35) → ¬ (a = 49 ∧ x = 0) → n0 a x = um mu 30 36 (nI 0) a x) := by
    refine ⟨_, fun u => ps_0 (at_ := 0) _ u (by simp (disch := omega) only [umJ, umS]) (umS _ _ _ _) (by omega), ?_, umS _ _ _ _, ?_, fun a x h1 h2 => ?_⟩
    · simp (disch := omega) only [umJ, umK, umS]
    · simp (disch := omega) only [umK, umS]
    · simp only [um]; rw [if_neg (by omega), if_neg (by omega), if_neg (by omega)]
  obtain ⟨n1, a1, b1, c1, d1, e1⟩ : ∃ n1 : pu_M, (∀ u, f_X7_pass (mu 30 2) (ma (n0) u) = some (mu 30 2, ma n1 u)) ∧ n1 30 36 = nI 0 ∧ n1 30 35 = nI 2 ∧ n1 49 1 = mu 30 2 ∧ (∀ a x, ¬ (a = 30 ∧ x = 35) → ¬ (a = 49 ∧ x = 1) → n1 a x = n0 a x) := by
    refine ⟨_, fun u => ps_0 (at_ := 1) _ u b0 c0 (by omega), ?_, umS _ _ _ _, ?_, fun a x h1 h2 => ?_⟩
    · simp (disch := omega) only [umJ, umK, umS, b0]
    · simp (disch := omega) only [umK, umS]
    · simp only [um]; rw [if_neg (by omega), if_neg (by omega)]
  obtain ⟨n2, a2, b2, c2, d2, e2⟩ : ∃ n2 : pu_M, (∀ u, f_X7_pass (mu 30 3) (ma (n1) u) = some (mu 30 3, ma n2 u)) ∧ n2 30 36 = nI 0 ∧ n2 30 35 = nI 3 ∧ n2 49 2 = mu 30 3 ∧ (∀ a x, ¬ (a = 30 ∧ x = 35) → ¬ (a = 49 ∧ x = 2) → n2 a x = n1 a x) := by
    refine ⟨_, fun u => ps_0 (at_ := 2) _ u b1 c1 (by omega), ?_, umS _ _ _ _, ?_, fun a x h1 h2 => ?_⟩
    · simp (disch := omega) only [umJ, umK, umS, b1]
    · simp (disch := omega) only [umK, umS]
    · simp only [um]; rw [if_neg (by omega), if_neg (by omega)]
  obtain ⟨n3, a3, b3, c3, d3, e3⟩ : ∃ n3 : pu_M, (∀ u, f_X7_pass (mu 30 14) (ma (n2) u) = some (mu 30 14, ma n3 u)) ∧ n3 30 36 = nI 0 ∧ n3 30 35 = nI 4 ∧ n3 49 3 = mu 30 14 ∧ (∀ a x, ¬ (a = 30 ∧ x = 35) → ¬ (a = 49 ∧ x = 3) → n3 a x = n2 a x) := by
    refine ⟨_, fun u => ps_0 (at_ := 3) _ u b2 c2 (by omega), ?_, umS _ _ _ _, ?_, fun a x h1 h2 => ?_⟩
    · simp (disch := omega) only [umJ, umK, umS, b2]
    · simp (disch := omega) only [umK, umS]
    · simp only [um]; rw [if_neg (by omega), if_neg (by omega)]
  obtain ⟨m0, x0, y0, z0, p0, q0⟩ := pw_0 (kd := 31) (kN := 16) (lo := 4) n3 (by omega) (by omega) (by omega) b3 c3
  obtain ⟨m1, x1, y1, z1, p1, q1⟩ := pw_0 (kd := 32) (kN := 16) (lo := 20) m0 (by omega) (by omega) (by omega) y0 z0
  obtain ⟨m2, x2, y2, z2, p2, q2⟩ := pw_0 (kd := 33) (kN := 16) (lo := 36) m1 (by omega) (by omega) (by omega) y1 z1
  obtain ⟨m3, x3, y3, z3, p3, q3⟩ := pw_0 (kd := 34) (kN := 16) (lo := 52) m2 (by omega) (by omega) (by omega) y2 z2
  obtain ⟨m4, x4, y4, z4, p4, q4⟩ := pw_0 (kd := 35) (kN := 16) (lo := 68) m3 (by omega) (by omega) (by omega) y3 z3
  obtain ⟨m5, x5, y5, z5, p5, q5⟩ := pw_0 (kd := 36) (kN := 1280) (lo := 84) m4 (by omega) (by omega) (by omega) y4 z4
  obtain ⟨m6, x6, y6, z6, p6, q6⟩ := pw_0 (kd := 37) (kN := 16) (lo := 1364) m5 (by omega) (by omega) (by omega) y5 z5
  obtain ⟨m7, x7, y7, z7, p7, q7⟩ := pw_0 (kd := 38) (kN := 8) (lo := 1380) m6 (by omega) (by omega) (by omega) y6 z6
  obtain ⟨m8, x8, y8, z8, p8, q8⟩ := pw_0 (kd := 39) (kN := 640) (lo := 1388) m7 (by omega) (by omega) (by omega) y7 z7
  obtain ⟨m9, x9, y9, z9, p9, q9⟩ := pw_0 (kd := 40) (kN := 150) (lo := 2028) m8 (by omega) (by omega) (by omega) y8 z8
  obtain ⟨m10, x10, y10, z10, p10, q10⟩ := pw_0 (kd := 41) (kN := 9) (lo := 2178) m9 (by omega) (by omega) (by omega) y9 z9
  refine ⟨m10, fun u => ?_, ?_, fun a x h1 h2 => ?_⟩
  · unfold f_X7_passAll
    have r1 : um n0 30 1 (mu 30 1) = n0 := um_self (by rw [e0 _ _ (by omega) (by omega), umJ _ _ _ (by omega)])
    have r2 : um n1 30 2 (mu 30 2) = n1 := um_self (by rw [e1 _ _ (by omega) (by omega), e0 _ _ (by omega) (by omega), umJ _ _ _ (by omega)])
    have r3 : um n2 30 3 (mu 30 3) = n2 := um_self (by rw [e2 _ _ (by omega) (by omega), e1 _ _ (by omega) (by omega), e0 _ _ (by omega) (by omega), umJ _ _ _ (by omega)])
    have r4 : um n3 30 14 (mu 30 14) = n3 := um_self (by rw [e3 _ _ (by omega) (by omega), e2 _ _ (by omega) (by omega), e1 _ _ (by omega) (by omega), e0 _ _ (by omega) (by omega), umJ _ _ _ (by omega)])
    have s2 : n0 30 2 = mu 30 2 := by rw [e0 _ _ (by omega) (by omega), umJ _ _ _ (by omega)]
    have s3 : n1 30 3 = mu 30 3 := by rw [e1 _ _ (by omega) (by omega), e0 _ _ (by omega) (by omega), umJ _ _ _ (by omega)]
    have s4 : n2 30 14 = mu 30 14 := by rw [e2 _ _ (by omega) (by omega), e1 _ _ (by omega) (by omega), e0 _ _ (by omega) (by omega), umJ _ _ _ (by omega)]
    simp (disch := omega) only [li0, li1, li2, li3, li4, li5, li6, li7, li8, li9, li10, li16, li17, li20, li30, li32, li48, li49, li50, li57, li60, li126, li147, nI_add, nI_sb, pk_mul, nI_m1, inrT, leT, leF, ltT, ltF, eqT, eqF, n1lt, m1lt, m1neg, m1nle, m1le, m1a1, m1a2, m1s, m1s', nI_cl, ↓tl, ↓sb, sb, sel, ser, ↓reduceIte, if_true, if_false, true_or, or_true, false_or, or_false, umS, umK, umJ, uaS, uaK, uaI, uaJ, mg30, mg31, mg32, mg33, mg34, mg35, mg36, mg37, mg38, mg39, mg40, mg41, mg42, mg43, mg44, mg45, mg46, mg47, mg48, mg49, ms30, ms31, ms32, ms33, ms34, ms35, ms36, ms37, ms38, ms39, ms40, ms41, ms42, ms43, ms44, ms45, ms46, ms47, ms48, ms49, a0, a1, a2, a3, r1, r2, r3, r4, s2, s3, s4, x0, x1, x2, x3, x4, x5, x6, x7, x8, x9, x10]
  · refine ⟨?_, ?_, ?_, ?_, fun k hk => ?_, fun k hk => ?_, fun k hk => ?_, fun k hk => ?_, fun k hk => ?_, fun k hk => ?_, fun k hk => ?_, fun k hk => ?_, fun k hk => ?_, fun k hk => ?_, fun k hk => ?_⟩
    · rw [q10 _ _ (by omega) (by omega), q9 _ _ (by omega) (by omega), q8 _ _ (by omega) (by omega), q7 _ _ (by omega) (by omega), q6 _ _ (by omega) (by omega), q5 _ _ (by omega) (by omega), q4 _ _ (by omega) (by omega), q3 _ _ (by omega) (by omega), q2 _ _ (by omega) (by omega), q1 _ _ (by omega) (by omega), q0 _ _ (by omega) (by omega), e3 _ _ (by omega) (by omega), e2 _ _ (by omega) (by omega), e1 _ _ (by omega) (by omega), d0]
    · rw [q10 _ _ (by omega) (by omega), q9 _ _ (by omega) (by omega), q8 _ _ (by omega) (by omega), q7 _ _ (by omega) (by omega), q6 _ _ (by omega) (by omega), q5 _ _ (by omega) (by omega), q4 _ _ (by omega) (by omega), q3 _ _ (by omega) (by omega), q2 _ _ (by omega) (by omega), q1 _ _ (by omega) (by omega), q0 _ _ (by omega) (by omega), e3 _ _ (by omega) (by omega), e2 _ _ (by omega) (by omega), d1]
    · rw [q10 _ _ (by omega) (by omega), q9 _ _ (by omega) (by omega), q8 _ _ (by omega) (by omega), q7 _ _ (by omega) (by omega), q6 _ _ (by omega) (by omega), q5 _ _ (by omega) (by omega), q4 _ _ (by omega) (by omega), q3 _ _ (by omega) (by omega), q2 _ _ (by omega) (by omega), q1 _ _ (by omega) (by omega), q0 _ _ (by omega) (by omega), e3 _ _ (by omega) (by omega), d2]
    · rw [q10 _ _ (by omega) (by omega), q9 _ _ (by omega) (by omega), q8 _ _ (by omega) (by omega), q7 _ _ (by omega) (by omega), q6 _ _ (by omega) (by omega), q5 _ _ (by omega) (by omega), q4 _ _ (by omega) (by omega), q3 _ _ (by omega) (by omega), q2 _ _ (by omega) (by omega), q1 _ _ (by omega) (by omega), q0 _ _ (by omega) (by omega), d3]
    · rw [q10 _ _ (by omega) (by omega), q9 _ _ (by omega) (by omega), q8 _ _ (by omega) (by omega), q7 _ _ (by omega) (by omega), q6 _ _ (by omega) (by omega), q5 _ _ (by omega) (by omega), q4 _ _ (by omega) (by omega), q3 _ _ (by omega) (by omega), q2 _ _ (by omega) (by omega), q1 _ _ (by omega) (by omega), p0 k hk, e3 _ _ (by omega) (by omega), e2 _ _ (by omega) (by omega), e1 _ _ (by omega) (by omega), e0 _ _ (by omega) (by omega), umK _ _ _ _ (by omega)]
    · rw [q10 _ _ (by omega) (by omega), q9 _ _ (by omega) (by omega), q8 _ _ (by omega) (by omega), q7 _ _ (by omega) (by omega), q6 _ _ (by omega) (by omega), q5 _ _ (by omega) (by omega), q4 _ _ (by omega) (by omega), q3 _ _ (by omega) (by omega), q2 _ _ (by omega) (by omega), p1 k hk, q0 _ _ (by omega) (by omega), e3 _ _ (by omega) (by omega), e2 _ _ (by omega) (by omega), e1 _ _ (by omega) (by omega), e0 _ _ (by omega) (by omega), umK _ _ _ _ (by omega)]
    · rw [q10 _ _ (by omega) (by omega), q9 _ _ (by omega) (by omega), q8 _ _ (by omega) (by omega), q7 _ _ (by omega) (by omega), q6 _ _ (by omega) (by omega), q5 _ _ (by omega) (by omega), q4 _ _ (by omega) (by omega), q3 _ _ (by omega) (by omega), p2 k hk, q1 _ _ (by omega) (by omega), q0 _ _ (by omega) (by omega), e3 _ _ (by omega) (by omega), e2 _ _ (by omega) (by omega), e1 _ _ (by omega) (by omega), e0 _ _ (by omega) (by omega), umK _ _ _ _ (by omega)]
    · rw [q10 _ _ (by omega) (by omega), q9 _ _ (by omega) (by omega), q8 _ _ (by omega) (by omega), q7 _ _ (by omega) (by omega), q6 _ _ (by omega) (by omega), q5 _ _ (by omega) (by omega), q4 _ _ (by omega) (by omega), p3 k hk, q2 _ _ (by omega) (by omega), q1 _ _ (by omega) (by omega), q0 _ _ (by omega) (by omega), e3 _ _ (by omega) (by omega), e2 _ _ (by omega) (by omega), e1 _ _ (by omega) (by omega), e0 _ _ (by omega) (by omega), umK _ _ _ _ (by omega)]
    · rw [q10 _ _ (by omega) (by omega), q9 _ _ (by omega) (by omega), q8 _ _ (by omega) (by omega), q7 _ _ (by omega) (by omega), q6 _ _ (by omega) (by omega), q5 _ _ (by omega) (by omega), p4 k hk, q3 _ _ (by omega) (by omega), q2 _ _ (by omega) (by omega), q1 _ _ (by omega) (by omega), q0 _ _ (by omega) (by omega), e3 _ _ (by omega) (by omega), e2 _ _ (by omega) (by omega), e1 _ _ (by omega) (by omega), e0 _ _ (by omega) (by omega), umK _ _ _ _ (by omega)]
    · rw [q10 _ _ (by omega) (by omega), q9 _ _ (by omega) (by omega), q8 _ _ (by omega) (by omega), q7 _ _ (by omega) (by omega), q6 _ _ (by omega) (by omega), p5 k hk, q4 _ _ (by omega) (by omega), q3 _ _ (by omega) (by omega), q2 _ _ (by omega) (by omega), q1 _ _ (by omega) (by omega), q0 _ _ (by omega) (by omega), e3 _ _ (by omega) (by omega), e2 _ _ (by omega) (by omega), e1 _ _ (by omega) (by omega), e0 _ _ (by omega) (by omega), umK _ _ _ _ (by omega)]
    · rw [q10 _ _ (by omega) (by omega), q9 _ _ (by omega) (by omega), q8 _ _ (by omega) (by omega), q7 _ _ (by omega) (by omega), p6 k hk, q5 _ _ (by omega) (by omega), q4 _ _ (by omega) (by omega), q3 _ _ (by omega) (by omega), q2 _ _ (by omega) (by omega), q1 _ _ (by omega) (by omega), q0 _ _ (by omega) (by omega), e3 _ _ (by omega) (by omega), e2 _ _ (by omega) (by omega), e1 _ _ (by omega) (by omega), e0 _ _ (by omega) (by omega), umK _ _ _ _ (by omega)]
    · rw [q10 _ _ (by omega) (by omega), q9 _ _ (by omega) (by omega), q8 _ _ (by omega) (by omega), p7 k hk, q6 _ _ (by omega) (by omega), q5 _ _ (by omega) (by omega), q4 _ _ (by omega) (by omega), q3 _ _ (by omega) (by omega), q2 _ _ (by omega) (by omega), q1 _ _ (by omega) (by omega), q0 _ _ (by omega) (by omega), e3 _ _ (by omega) (by omega), e2 _ _ (by omega) (by omega), e1 _ _ (by omega) (by omega), e0 _ _ (by omega) (by omega), umK _ _ _ _ (by omega)]
    · rw [q10 _ _ (by omega) (by omega), q9 _ _ (by omega) (by omega), p8 k hk, q7 _ _ (by omega) (by omega), q6 _ _ (by omega) (by omega), q5 _ _ (by omega) (by omega), q4 _ _ (by omega) (by omega), q3 _ _ (by omega) (by omega), q2 _ _ (by omega) (by omega), q1 _ _ (by omega) (by omega), q0 _ _ (by omega) (by omega), e3 _ _ (by omega) (by omega), e2 _ _ (by omega) (by omega), e1 _ _ (by omega) (by omega), e0 _ _ (by omega) (by omega), umK _ _ _ _ (by omega)]
    · rw [q10 _ _ (by omega) (by omega), p9 k hk, q8 _ _ (by omega) (by omega), q7 _ _ (by omega) (by omega), q6 _ _ (by omega) (by omega), q5 _ _ (by omega) (by omega), q4 _ _ (by omega) (by omega), q3 _ _ (by omega) (by omega), q2 _ _ (by omega) (by omega), q1 _ _ (by omega) (by omega), q0 _ _ (by omega) (by omega), e3 _ _ (by omega) (by omega), e2 _ _ (by omega) (by omega), e1 _ _ (by omega) (by omega), e0 _ _ (by omega) (by omega), umK _ _ _ _ (by omega)]
    · rw [p10 k hk, q9 _ _ (by omega) (by omega), q8 _ _ (by omega) (by omega), q7 _ _ (by omega) (by omega), q6 _ _ (by omega) (by omega), q5 _ _ (by omega) (by omega), q4 _ _ (by omega) (by omega), q3 _ _ (by omega) (by omega), q2 _ _ (by omega) (by omega), q1 _ _ (by omega) (by omega), q0 _ _ (by omega) (by omega), e3 _ _ (by omega) (by omega), e2 _ _ (by omega) (by omega), e1 _ _ (by omega) (by omega), e0 _ _ (by omega) (by omega), umK _ _ _ _ (by omega)]
  · rw [q10 a x (by omega) (by omega), q9 a x (by omega) (by omega), q8 a x (by omega) (by omega), q7 a x (by omega) (by omega), q6 a x (by omega) (by omega), q5 a x (by omega) (by omega), q4 a x (by omega) (by omega), q3 a x (by omega) (by omega), q2 a x (by omega) (by omega), q1 a x (by omega) (by omega), q0 a x (by omega) (by omega), e3 a x (by omega) (by omega), e2 a x (by omega) (by omega), e1 a x (by omega) (by omega), e0 a x (by omega) (by omega)]
    unfold um; rw [if_neg (by omega)]
