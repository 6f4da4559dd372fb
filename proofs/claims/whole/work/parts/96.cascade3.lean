theorem cs_loop {al : pu_A} {mu : pu_M} {p n nx : Nat} (hS : pS al mu p n nx) : ∀ (c : Nat) (v w : Int32) (rd : Nat), 16 - cn (bt v) 16 = c → rd + c ≤ 16 → ¬ v = w → (∀ b, b < 32 → bt v b = true → b < n ∧ un al b) → ∃ v', (∀ u N c1, 17 < N → ∃ x, lp_X0_transactionsAbortedWith_20 0 c1 (ca al u) (N + c) v (nI rd) = some (v', x)) ∧ (∀ u N c1, 2 < N → ∃ x, lp_X7_cascade_37 c1 (ma mu u) (N + c) v w = some (v', x)) := by
  have g10 : n ≤ 16 := hS.1.2.2.2.2.2.2.2.2.2
  intro c
  induction c using Nat.strongRecOn with
  | ind c IH =>
  intro v w rd hc hrd hvw hv
  obtain ⟨v1, q1, q2, q3, q4⟩ := cs_round hS n 0 v (by omega) hv
  have r1 := fun u c1 c3 => q1 u ts_fu c1 c3 (by unfold ts_fu; omega)
  have r2 := fun u c1 c3 => q2 u ts_fu c1 c3 (by unfold ts_fu; omega)
  by_cases e : v1 = v
  · subst e
    refine ⟨v1, fun u N c1 hN => ⟨nI 16, ?_⟩, fun u N c1 hN => ⟨v1, ?_⟩⟩
    · exact cs_fix u c1 v1 (fun N c1 c3 h => q1 u N c1 c3 h) g10 (16 - rd) rd (N + c) (by omega) (by omega)
    · obtain ⟨M, hM⟩ : ∃ b, N + c = b + 2 := ⟨N + c - 2, by omega⟩
      rw [hM, lp_X7_cascade_37, if_neg hvw]
      simp (disch := omega) only [li0, li1, li2, li3, li4, li5, li6, li7, li8, li9, li10, li16, li17, li20, li30, li32, li48, li49, li50, li57, li60, li126, li147, nI_add, nI_sb, pk_mul, nI_m1, inrT, leT, leF, ltT, ltF, eqT, eqF, n1lt, m1lt, m1neg, m1nle, m1le, m1a1, m1a2, m1s, m1s', nI_cl, ↓tl, ↓sb, sb, sel, ser, ↓reduceIte, if_true, if_false, true_or, or_true, false_or, or_false, umS, umK, umJ, uaS, uaK, uaI, uaJ, r2]
      rw [lp_X7_cascade_37, if_pos rfl]
  · have hlt : cn (bt v) 16 < cn (bt v1) 16 := by
      have : ∃ t, t < 16 ∧ bt v t = false ∧ bt v1 t = true := by
        apply Classical.byContradiction
        intro q
        apply e
        apply bt_ext
        intro b hb
        cases h1 : bt v1 b
        · cases h2 : bt v b
          · rfl
          · rw [q4 b hb h2] at h1; exact h1.symm
        · cases h2 : bt v b
          · exact absurd ⟨b, by have := (q3 b hb h1).1; omega, h2, h1⟩ q
          · rfl
      obtain ⟨t, t1, t2, t3⟩ := this
      exact cn_smono (fun b hb => q4 b (by omega)) t1 t2 t3
    have hle := cn_le (bt v1) 16
    obtain ⟨v', y1, y2⟩ := IH (16 - cn (bt v1) 16) (by omega) v1 v (rd + 1) rfl (by omega) e q3
    refine ⟨v', fun u N c1 hN => ?_, fun u N c1 hN => ?_⟩
    · obtain ⟨x, h⟩ := y1 u (N + c - 1 - (16 - cn (bt v1) 16)) c1 (by omega)
      rw [show N + c - 1 - (16 - cn (bt v1) 16) + (16 - cn (bt v1) 16) = N + c - 1 by omega] at h
      refine ⟨x, ?_⟩
      obtain ⟨M, hM⟩ : ∃ b, N + c = b + 1 := ⟨N + c - 1, by omega⟩
      rw [hM, Nat.add_sub_cancel] at h
      rw [hM, lp_X0_transactionsAbortedWith_20]
      simp (disch := omega) only [li0, li1, li2, li3, li4, li5, li6, li7, li8, li9, li10, li16, li17, li20, li30, li32, li48, li49, li50, li57, li60, li126, li147, nI_add, nI_sb, pk_mul, nI_m1, inrT, leT, leF, ltT, ltF, eqT, eqF, n1lt, m1lt, m1neg, m1nle, m1le, m1a1, m1a2, m1s, m1s', nI_cl, ↓tl, ↓sb, sb, sel, ser, ↓reduceIte, if_true, if_false, true_or, or_true, false_or, or_false, umS, umK, umJ, uaS, uaK, uaI, uaJ, r1]
      exact h
    · obtain ⟨x, h⟩ := y2 u (N + c - 1 - (16 - cn (bt v1) 16)) c1 (by omega)
      rw [show N + c - 1 - (16 - cn (bt v1) 16) + (16 - cn (bt v1) 16) = N + c - 1 by omega] at h
      refine ⟨x, ?_⟩
      obtain ⟨M, hM⟩ : ∃ b, N + c = b + 1 := ⟨N + c - 1, by omega⟩
      rw [hM, Nat.add_sub_cancel] at h
      rw [hM, lp_X7_cascade_37, if_neg hvw]
      simp (disch := omega) only [li0, li1, li2, li3, li4, li5, li6, li7, li8, li9, li10, li16, li17, li20, li30, li32, li48, li49, li50, li57, li60, li126, li147, nI_add, nI_sb, pk_mul, nI_m1, inrT, leT, leF, ltT, ltF, eqT, eqF, n1lt, m1lt, m1neg, m1nle, m1le, m1a1, m1a2, m1s, m1s', nI_cl, ↓tl, ↓sb, sb, sel, ser, ↓reduceIte, if_true, if_false, true_or, or_true, false_or, or_false, umS, umK, umJ, uaS, uaK, uaI, uaJ, r2]
      exact h
