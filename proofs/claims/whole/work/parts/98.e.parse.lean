/-! a whole program -/
/-- what the reading of a program leaves when it succeeds -/
def pZ (be : pu_A) (mu : pu_M) (L m e : Nat) : Prop := be 21 0 2 = nI m ∧ be 21 0 6 = nI e ∧ mu 30 21 = nI L ∧ mu 30 22 = nI L ∧ mu 30 23 = -nI 1 ∧ mu 30 26 = nI m ∧ mu 30 27 = nI e ∧ m ≤ 20 ∧ e ≤ 2 ∧ (∀ k, k < m → ∃ kd it, kd ≤ 2 ∧ it < 8 ∧ be 23 0 k = nI kd ∧ be 24 0 k = nI it ∧ mu 43 (3 * k) = nI kd ∧ mu 43 (3 * k + 1) = nI it ∧ mu 43 (3 * k + 2) = be 25 0 k)
def rP (N : Nat) (u : ts_Mem) : Option (((Unit) ⊕ Unit) × ts_Mem) := (f_X7_ends u).bind (fun q4 => if q4.1 = 0 then ((f_X7_readOperation q4.2).bind (fun q5 => lp_X7_readProgram_19 N q5)) else (some (.inr (), q4.2)))
theorem rP_eq (n : Nat) (u : ts_Mem) : lp_X7_readProgram_19 (n + 1) u = (f_X7_goes (32 : Int32) u).bind (fun q3 => if q3.1 = 0 then (some (.inl (), q3.2)) else rP n q3.2) := rfl
theorem pg_loop {L : Nat} : ∀ d (be : pu_A) (mu : pu_M) (pos m pt : Nat), L ≤ pos + d → pQ be mu L pos m → 3 * m ≤ pos → pt ≤ m → ∃ be' mu' r, (∀ u N, d + 1 < N → lp_X3_parse_26 N (nI pt) (cb be u) = some (.inr r, cb be' u)) ∧ (∀ u N, d + 1 < N → ∃ x, rP N (ma mu u) = some (x, ma mu' u)) ∧ pFb be be' ∧ pFm mu mu' ∧ ((r = -nI 1 ∧ ∃ m' e, pZ be' mu' L m' e) ∨ ∃ e x, r = nI e ∧ e ≤ 60 ∧ mu' 30 21 = nI L ∧ mu' 30 22 = nI x ∧ x < 2 ^ 31 ∧ (mu' 30 23 = nI e ∨ (mu' 30 23 = -nI 1 ∧ x = e ∧ e < L))) := by
  intro d
  induction d using Nat.strongRecOn with
  | ind d IH =>
  intro be mu pos m pt hd h h3m hpt
  have hq := h
  obtain ⟨h1, h2, h3, h4, h5, h6, h7, h8, h9, h10, h11, h12, h13⟩ := hq
  rcases part h h3m with ⟨e, e1, e2, e3, x1, x2⟩ | ⟨x0, ⟨be1, mu1, pos1, x1, x2, x3, x4, x5, x6⟩ | ⟨be1, mu1, e, x1, x2, x3, x4, x5, x6, x7, x8⟩⟩
  · -- an end
    by_cases eL : pos + 1 = L
    · refine ⟨ua (ua be 21 0 7 (nI (pos + 1))) 21 0 6 (nI e), um (um mu 30 22 (nI (pos + 1))) 30 27 (nI e), -nI 1, fun u N hN => ?_, fun u N hN => ⟨.inr (), ?_⟩, pFb_trans (pFb_u _ _ (by omega)) (pFb_u _ _ (by omega)), pFm_trans (pFm_u _ _ (by omega)) (pFm_u _ _ (by omega)), Or.inl ⟨rfl, m, e, ?_⟩⟩
      · obtain ⟨N, rfl⟩ : ∃ b, N = b + 1 := ⟨N - 1, by omega⟩
        rw [lp_X3_parse_26]
        simp (disch := omega) only [li0, li1, li2, li3, li4, li5, li6, li7, li8, li9, li10, li16, li17, li20, li30, li32, li48, li49, li50, li57, li60, li126, li147, nI_add, nI_sb, pk_mul, nI_m1, inrT, leT, leF, ltT, ltF, eqT, eqF, n1lt, m1lt, m1neg, m1nle, m1le, m1a1, m1a2, m1s, m1s', nI_cl, ↓tl, ↓sb, sb, sel, ser, ↓reduceIte, if_true, if_false, true_or, or_true, false_or, or_false, umS, umK, umJ, uaS, uaK, uaI, uaJ, bg0, bs0, bg21, bs21, bg22, bs22, bg23, bs23, bg24, bs24, bg25, bs25, bg26, bs26, bg27, bs27, bg28, bs28, bg29, bs29, x1, h1]
      · unfold rP
        simp (disch := omega) only [li0, li1, li2, li3, li4, li5, li6, li7, li8, li9, li10, li16, li17, li20, li30, li32, li48, li49, li50, li57, li60, li126, li147, nI_add, nI_sb, pk_mul, nI_m1, inrT, leT, leF, ltT, ltF, eqT, eqF, n1lt, m1lt, m1neg, m1nle, m1le, m1a1, m1a2, m1s, m1s', nI_cl, ↓tl, ↓sb, sb, sel, ser, ↓reduceIte, if_true, if_false, true_or, or_true, false_or, or_false, umS, umK, umJ, uaS, uaK, uaI, uaJ, x2]
      · unfold pZ
        simp (disch := omega) only [uaJ, uaS, uaK, umJ, umS, umK]
        subst eL
        exact ⟨h3, trivial, h5, rfl, h7, h8, trivial, by omega, e1, h13⟩
    · refine ⟨ua (ua be 21 0 7 (nI (pos + 1))) 21 0 6 (nI e), um (um mu 30 22 (nI (pos + 1))) 30 27 (nI e), nI (pos + 1), fun u N hN => ?_, fun u N hN => ⟨.inr (), ?_⟩, pFb_trans (pFb_u _ _ (by omega)) (pFb_u _ _ (by omega)), pFm_trans (pFm_u _ _ (by omega)) (pFm_u _ _ (by omega)), Or.inr ⟨pos + 1, pos + 1, rfl, by omega, ?_, ?_, by omega, Or.inr ⟨?_, rfl, by omega⟩⟩⟩
      · obtain ⟨N, rfl⟩ : ∃ b, N = b + 1 := ⟨N - 1, by omega⟩
        rw [lp_X3_parse_26]
        simp (disch := omega) only [li0, li1, li2, li3, li4, li5, li6, li7, li8, li9, li10, li16, li17, li20, li30, li32, li48, li49, li50, li57, li60, li126, li147, nI_add, nI_sb, pk_mul, nI_m1, inrT, leT, leF, ltT, ltF, eqT, eqF, n1lt, m1lt, m1neg, m1nle, m1le, m1a1, m1a2, m1s, m1s', nI_cl, ↓tl, ↓sb, sb, sel, ser, ↓reduceIte, if_true, if_false, true_or, or_true, false_or, or_false, umS, umK, umJ, uaS, uaK, uaI, uaJ, bg0, bs0, bg21, bs21, bg22, bs22, bg23, bs23, bg24, bs24, bg25, bs25, bg26, bs26, bg27, bs27, bg28, bs28, bg29, bs29, x1, h1]
      · unfold rP
        simp (disch := omega) only [li0, li1, li2, li3, li4, li5, li6, li7, li8, li9, li10, li16, li17, li20, li30, li32, li48, li49, li50, li57, li60, li126, li147, nI_add, nI_sb, pk_mul, nI_m1, inrT, leT, leF, ltT, ltF, eqT, eqF, n1lt, m1lt, m1neg, m1nle, m1le, m1a1, m1a2, m1s, m1s', nI_cl, ↓tl, ↓sb, sb, sel, ser, ↓reduceIte, if_true, if_false, true_or, or_true, false_or, or_false, umS, umK, umJ, uaS, uaK, uaI, uaJ, x2]
      · simp (disch := omega) only [umJ, umK, umS, h5]
      · simp (disch := omega) only [umJ, umK, umS]
      · simp (disch := omega) only [umJ, umK, umS, h7]
  · -- an operation
    have hq1 := x3
    obtain ⟨k1, k2, k3, k4, k5, k6, k7, k8, k9, k10, k11, k12, k13⟩ := hq1
    by_cases eL : pos1 = L
    · subst eL
      obtain ⟨-, y2⟩ := sg_miss (s := 32) x3 (by omega) (fun q => by omega)
      refine ⟨be1, mu1, -nI 1, fun u N hN => ?_, fun u N hN => ⟨.inl (), ?_⟩, x5, x6, Or.inl ⟨rfl, m + 1, 0, k3, k4, k5, k6, k7, k8, k9, by omega, by omega, k13⟩⟩
      · obtain ⟨N, rfl⟩ : ∃ b, N = b + 1 := ⟨N - 1, by omega⟩
        rw [lp_X3_parse_26]
        simp (disch := omega) only [li0, li1, li2, li3, li4, li5, li6, li7, li8, li9, li10, li16, li17, li20, li30, li32, li48, li49, li50, li57, li60, li126, li147, nI_add, nI_sb, pk_mul, nI_m1, inrT, leT, leF, ltT, ltF, eqT, eqF, n1lt, m1lt, m1neg, m1nle, m1le, m1a1, m1a2, m1s, m1s', nI_cl, ↓tl, ↓sb, sb, sel, ser, ↓reduceIte, if_true, if_false, true_or, or_true, false_or, or_false, umS, umK, umJ, uaS, uaK, uaI, uaJ, bg0, bs0, bg21, bs21, bg22, bs22, bg23, bs23, bg24, bs24, bg25, bs25, bg26, bs26, bg27, bs27, bg28, bs28, bg29, bs29, x1, k1, k2]
      · obtain ⟨N, rfl⟩ : ∃ b, N = b + 1 := ⟨N - 1, by omega⟩
        unfold rP
        simp (disch := omega) only [li0, li1, li2, li3, li4, li5, li6, li7, li8, li9, li10, li16, li17, li20, li30, li32, li48, li49, li50, li57, li60, li126, li147, nI_add, nI_sb, pk_mul, nI_m1, inrT, leT, leF, ltT, ltF, eqT, eqF, n1lt, m1lt, m1neg, m1nle, m1le, m1a1, m1a2, m1s, m1s', nI_cl, ↓tl, ↓sb, sb, sel, ser, ↓reduceIte, if_true, if_false, true_or, or_true, false_or, or_false, umS, umK, umJ, uaS, uaK, uaI, uaJ, x0, x2, rP_eq, y2]
    · by_cases s : pos1 < L ∧ be1 22 0 pos1 = nI 32
      · obtain ⟨y1, y2⟩ := sg_hit x3 s.1 s.2
        obtain ⟨be2, mu2, r, z1, z2, z3, z4, z5⟩ := IH (d - 3) (by omega) _ _ (pos1 + 1) (m + 1) (pt + 1) (by omega) (pQ_mv x3 s.1) (by omega) (by omega)
        refine ⟨be2, mu2, r, fun u N hN => ?_, fun u N hN => ?_, pFb_trans (pFb_trans x5 (pFb_u _ _ (by omega))) z3, pFm_trans (pFm_trans x6 (pFm_u _ _ (by omega))) z4, z5⟩
        · obtain ⟨N, rfl⟩ : ∃ b, N = b + 1 := ⟨N - 1, by omega⟩
          have := z1 u N (by omega)
          rw [lp_X3_parse_26]
          simp (disch := omega) only [li0, li1, li2, li3, li4, li5, li6, li7, li8, li9, li10, li16, li17, li20, li30, li32, li48, li49, li50, li57, li60, li126, li147, nI_add, nI_sb, pk_mul, nI_m1, inrT, leT, leF, ltT, ltF, eqT, eqF, n1lt, m1lt, m1neg, m1nle, m1le, m1a1, m1a2, m1s, m1s', nI_cl, ↓tl, ↓sb, sb, sel, ser, ↓reduceIte, if_true, if_false, true_or, or_true, false_or, or_false, umS, umK, umJ, uaS, uaK, uaI, uaJ, bg0, bs0, bg21, bs21, bg22, bs22, bg23, bs23, bg24, bs24, bg25, bs25, bg26, bs26, bg27, bs27, bg28, bs28, bg29, bs29, x1, k1, k2, k4, y1]
          exact this
        · obtain ⟨N, rfl⟩ : ∃ b, N = b + 1 := ⟨N - 1, by omega⟩
          obtain ⟨x, hx⟩ := z2 u N (by omega)
          refine ⟨x, ?_⟩
          unfold rP
          simp (disch := omega) only [li0, li1, li2, li3, li4, li5, li6, li7, li8, li9, li10, li16, li17, li20, li30, li32, li48, li49, li50, li57, li60, li126, li147, nI_add, nI_sb, pk_mul, nI_m1, inrT, leT, leF, ltT, ltF, eqT, eqF, n1lt, m1lt, m1neg, m1nle, m1le, m1a1, m1a2, m1s, m1s', nI_cl, ↓tl, ↓sb, sb, sel, ser, ↓reduceIte, if_true, if_false, true_or, or_true, false_or, or_false, umS, umK, umJ, uaS, uaK, uaI, uaJ, x0, x2, rP_eq, y2]
          exact hx
      · obtain ⟨y1, y2⟩ := sg_miss x3 (by omega) s
        refine ⟨be1, mu1, nI pos1, fun u N hN => ?_, fun u N hN => ⟨.inl (), ?_⟩, x5, x6, Or.inr ⟨pos1, pos1, rfl, by omega, k5, k6, by omega, Or.inr ⟨k7, rfl, by omega⟩⟩⟩
        · obtain ⟨N, rfl⟩ : ∃ b, N = b + 1 := ⟨N - 1, by omega⟩
          rw [lp_X3_parse_26]
          simp (disch := omega) only [li0, li1, li2, li3, li4, li5, li6, li7, li8, li9, li10, li16, li17, li20, li30, li32, li48, li49, li50, li57, li60, li126, li147, nI_add, nI_sb, pk_mul, nI_m1, inrT, leT, leF, ltT, ltF, eqT, eqF, n1lt, m1lt, m1neg, m1nle, m1le, m1a1, m1a2, m1s, m1s', nI_cl, ↓tl, ↓sb, sb, sel, ser, ↓reduceIte, if_true, if_false, true_or, or_true, false_or, or_false, umS, umK, umJ, uaS, uaK, uaI, uaJ, bg0, bs0, bg21, bs21, bg22, bs22, bg23, bs23, bg24, bs24, bg25, bs25, bg26, bs26, bg27, bs27, bg28, bs28, bg29, bs29, x1, k1, k2, k4, y1]
        · obtain ⟨N, rfl⟩ : ∃ b, N = b + 1 := ⟨N - 1, by omega⟩
          unfold rP
          simp (disch := omega) only [li0, li1, li2, li3, li4, li5, li6, li7, li8, li9, li10, li16, li17, li20, li30, li32, li48, li49, li50, li57, li60, li126, li147, nI_add, nI_sb, pk_mul, nI_m1, inrT, leT, leF, ltT, ltF, eqT, eqF, n1lt, m1lt, m1neg, m1nle, m1le, m1a1, m1a2, m1s, m1s', nI_cl, ↓tl, ↓sb, sb, sel, ser, ↓reduceIte, if_true, if_false, true_or, or_true, false_or, or_false, umS, umK, umJ, uaS, uaK, uaI, uaJ, x0, x2, rP_eq, y2]
  · -- a fault
    have y2 := fun c u => d_go (mu := mu1) c u x5 (by omega) x6
    have k5 : mu1 30 21 = nI L := by rw [x8 _ _ (by omega) (by omega)]; exact h5
    refine ⟨be1, mu1, nI e, fun u N hN => ?_, fun u N hN => ⟨.inl (), ?_⟩, x7, x8, Or.inr ⟨e, e, rfl, x4, k5, x6, by omega, Or.inl x5⟩⟩
    · obtain ⟨N, rfl⟩ : ∃ b, N = b + 1 := ⟨N - 1, by omega⟩
      rw [lp_X3_parse_26]
      simp (disch := omega) only [li0, li1, li2, li3, li4, li5, li6, li7, li8, li9, li10, li16, li17, li20, li30, li32, li48, li49, li50, li57, li60, li126, li147, nI_add, nI_sb, pk_mul, nI_m1, inrT, leT, leF, ltT, ltF, eqT, eqF, n1lt, m1lt, m1neg, m1nle, m1le, m1a1, m1a2, m1s, m1s', nI_cl, ↓tl, ↓sb, sb, sel, ser, ↓reduceIte, if_true, if_false, true_or, or_true, false_or, or_false, umS, umK, umJ, uaS, uaK, uaI, uaJ, bg0, bs0, bg21, bs21, bg22, bs22, bg23, bs23, bg24, bs24, bg25, bs25, bg26, bs26, bg27, bs27, bg28, bs28, bg29, bs29, x1, x3]
    · obtain ⟨N, rfl⟩ : ∃ b, N = b + 1 := ⟨N - 1, by omega⟩
      unfold rP
      simp (disch := omega) only [li0, li1, li2, li3, li4, li5, li6, li7, li8, li9, li10, li16, li17, li20, li30, li32, li48, li49, li50, li57, li60, li126, li147, nI_add, nI_sb, pk_mul, nI_m1, inrT, leT, leF, ltT, ltF, eqT, eqF, n1lt, m1lt, m1neg, m1nle, m1le, m1a1, m1a2, m1s, m1s', nI_cl, ↓tl, ↓sb, sb, sel, ser, ↓reduceIte, if_true, if_false, true_or, or_true, false_or, or_false, umS, umK, umJ, uaS, uaK, uaI, uaJ, x0, x2, rP_eq, y2]
theorem rp_map (N : Nat) (u : ts_Mem) : ((f_X7_ends u).bind (fun q1 => if q1.1 = 0 then ((f_X7_readOperation q1.2).bind (fun q2 => (lp_X7_readProgram_19 N q2).bind (fun q6 => Sum.elim (fun w7 => some q6.2) (fun r8 => some q6.2) q6.1))) else (some q1.2))) = (rP N u).bind (fun q => some q.2) := by
  unfold rP
  cases f_X7_ends u with
  | none => rfl
  | some q =>
    simp only [sb]
    by_cases e : q.1 = 0
    · rw [if_pos e, if_pos e]
      cases f_X7_readOperation q.2 with
      | none => rfl
      | some w =>
        simp only [sb]
        cases lp_X7_readProgram_19 N w with
        | none => rfl
        | some z =>
          obtain ⟨z1, z2⟩ := z
          cases z1 <;> rfl
    · rw [if_neg e, if_neg e]
      rfl
theorem prs {be : pu_A} {mu : pu_M} {L : Nat} (hL : L ≤ 60) (h1 : be 21 0 0 = nI L) (ht : ∀ j, j < 60 → be 22 0 j = mu 42 j) (h5 : mu 30 21 = nI L) (h6 : mu 30 22 = nI 0) (h7 : mu 30 23 = -nI 1) (h8 : mu 30 26 = nI 0) (h9 : mu 30 27 = nI 0) : ∃ be' mu' r, (∀ u, f_X3_parse (cb be u) = some (r, cb be' u)) ∧ (∀ u, f_X7_readProgram (ma mu u) = some (ma mu' u)) ∧ pFb be be' ∧ pFm mu mu' ∧ ((r = -nI 1 ∧ ∃ m' e, pZ be' mu' L m' e) ∨ ∃ e x, r = nI e ∧ e ≤ 60 ∧ mu' 30 21 = nI L ∧ mu' 30 22 = nI x ∧ x < 2 ^ 31 ∧ (mu' 30 23 = nI e ∨ (mu' 30 23 = -nI 1 ∧ x = e ∧ e < L))) := by
  have F : pFb be (ua (ua (ua be 21 0 2 (nI 0)) 21 0 6 (nI 0)) 21 0 7 (nI 0)) := pFb_trans (pFb_trans (pFb_u _ _ (by omega)) (pFb_u _ _ (by omega))) (pFb_u _ _ (by omega))
  by_cases e : L = 0
  · subst e
    refine ⟨ua (ua (ua be 21 0 2 (nI 0)) 21 0 6 (nI 0)) 21 0 7 (nI 0), mu, -nI 1, fun u => ?_, fun u => ?_, F, pFm_refl _, Or.inl ⟨rfl, 0, 0, ?_⟩⟩
    · unfold f_X3_parse
      simp (disch := omega) only [li0, li1, li2, li3, li4, li5, li6, li7, li8, li9, li10, li16, li17, li20, li30, li32, li48, li49, li50, li57, li60, li126, li147, nI_add, nI_sb, pk_mul, nI_m1, inrT, leT, leF, ltT, ltF, eqT, eqF, n1lt, m1lt, m1neg, m1nle, m1le, m1a1, m1a2, m1s, m1s', nI_cl, ↓tl, ↓sb, sb, sel, ser, ↓reduceIte, if_true, if_false, true_or, or_true, false_or, or_false, umS, umK, umJ, uaS, uaK, uaI, uaJ, bg0, bs0, bg21, bs21, bg22, bs22, bg23, bs23, bg24, bs24, bg25, bs25, bg26, bs26, bg27, bs27, bg28, bs28, bg29, bs29, h1]
    · unfold f_X7_readProgram
      simp (disch := omega) only [li0, li1, li2, li3, li4, li5, li6, li7, li8, li9, li10, li16, li17, li20, li30, li32, li48, li49, li50, li57, li60, li126, li147, nI_add, nI_sb, pk_mul, nI_m1, inrT, leT, leF, ltT, ltF, eqT, eqF, n1lt, m1lt, m1neg, m1nle, m1le, m1a1, m1a2, m1s, m1s', nI_cl, ↓tl, ↓sb, sb, sel, ser, ↓reduceIte, if_true, if_false, true_or, or_true, false_or, or_false, umS, umK, umJ, uaS, uaK, uaI, uaJ, mg30, mg31, mg32, mg33, mg34, mg35, mg36, mg37, mg38, mg39, mg40, mg41, mg42, mg43, mg44, mg45, mg46, mg47, mg48, mg49, ms30, ms31, ms32, ms33, ms34, ms35, ms36, ms37, ms38, ms39, ms40, ms41, ms42, ms43, ms44, ms45, ms46, ms47, ms48, ms49, h5]
    · unfold pZ
      simp (disch := omega) only [uaJ, uaS, uaK]
      exact ⟨trivial, trivial, h5, h6, h7, h8, h9, by omega, by omega, fun k hk => absurd hk (by omega)⟩
  · have hq : pQ (ua (ua (ua be 21 0 2 (nI 0)) 21 0 6 (nI 0)) 21 0 7 (nI 0)) mu L 0 0 := by
      unfold pQ
      simp (disch := omega) only [uaJ, uaS, uaK]
      exact ⟨h1, trivial, trivial, trivial, h5, h6, h7, h8, h9, hL, by omega, ht, fun k hk => absurd hk (by omega)⟩
    obtain ⟨be', mu', r, z1, z2, z3, z4, z5⟩ := pg_loop 60 _ _ 0 0 0 (by omega) hq (by omega) (by omega)
    refine ⟨be', mu', r, fun u => ?_, fun u => ?_, pFb_trans F z3, z4, z5⟩
    · have := z1 u ts_fu (by unfold ts_fu; omega)
      unfold f_X3_parse
      simp (disch := omega) only [li0, li1, li2, li3, li4, li5, li6, li7, li8, li9, li10, li16, li17, li20, li30, li32, li48, li49, li50, li57, li60, li126, li147, nI_add, nI_sb, pk_mul, nI_m1, inrT, leT, leF, ltT, ltF, eqT, eqF, n1lt, m1lt, m1neg, m1nle, m1le, m1a1, m1a2, m1s, m1s', nI_cl, ↓tl, ↓sb, sb, sel, ser, ↓reduceIte, if_true, if_false, true_or, or_true, false_or, or_false, umS, umK, umJ, uaS, uaK, uaI, uaJ, bg0, bs0, bg21, bs21, bg22, bs22, bg23, bs23, bg24, bs24, bg25, bs25, bg26, bs26, bg27, bs27, bg28, bs28, bg29, bs29, h1, this]
    · obtain ⟨x, hx⟩ := z2 u ts_fu (by unfold ts_fu; omega)
      unfold f_X7_readProgram
      have hne : ¬ ts_gI (ma mu u) (30, 0, 0) 21 = 0 := by
        simp (disch := omega) only [li0, li1, li2, li3, li4, li5, li6, li7, li8, li9, li10, li16, li17, li20, li30, li32, li48, li49, li50, li57, li60, li126, li147, nI_add, nI_sb, pk_mul, nI_m1, inrT, leT, leF, ltT, ltF, eqT, eqF, n1lt, m1lt, m1neg, m1nle, m1le, m1a1, m1a2, m1s, m1s', nI_cl, ↓tl, ↓sb, sb, sel, ser, ↓reduceIte, if_true, if_false, true_or, or_true, false_or, or_false, umS, umK, umJ, uaS, uaK, uaI, uaJ, mg30, mg31, mg32, mg33, mg34, mg35, mg36, mg37, mg38, mg39, mg40, mg41, mg42, mg43, mg44, mg45, mg46, mg47, mg48, mg49, ms30, ms31, ms32, ms33, ms34, ms35, ms36, ms37, ms38, ms39, ms40, ms41, ms42, ms43, ms44, ms45, ms46, ms47, ms48, ms49, h5]
        exact id
      rw [if_neg hne, rp_map, hx]
      rfl
