/-! the cascade: sixteen rounds reach what the reference's rounds reach -/
theorem cn_mono {f g : Nat → Bool} {n : Nat} (h : ∀ b, b < n → f b = true → g b = true) : cn f n ≤ cn g n := by
  induction n with
  | zero => exact Nat.le_refl _
  | succ n ih =>
    unfold cn
    have i1 := ih (fun b hb => h b (by omega))
    have := h n (by omega)
    cases q : f n
    · simp; omega
    · rw [this q]; simp; omega
theorem cn_smono {f g : Nat → Bool} {n t : Nat} (h : ∀ b, b < n → f b = true → g b = true) (ht : t < n) (hf : f t = false) (hg : g t = true) : cn f n < cn g n := by
  induction n with
  | zero => omega
  | succ n ih =>
    unfold cn
    by_cases e : t = n
    · subst e
      have := cn_mono (n := t) (fun b hb => h b (by omega))
      rw [hf, hg]; simp; omega
    · have i1 := ih (fun b hb => h b (by omega)) (by omega)
      have := h n (by omega)
      cases q : f n
      · simp; omega
      · rw [this q]; simp; omega
theorem cs_fix {al : pu_A} {n : Nat} (u : ts_Mem) (c1 v : Int32) (hf : ∀ N c1 c3, n < N → lp_X0_transactionsAbortedWith_29 0 c1 c3 (ca al u) N v (nI 0) = some (v, nI n)) (hn : n ≤ 16) : ∀ d rd N, rd + d = 16 → d < N → lp_X0_transactionsAbortedWith_20 0 c1 (ca al u) N v (nI rd) = some (v, nI 16) := by
  intro d
  induction d with
  | zero =>
    intro rd N hr hN
    obtain ⟨N, rfl⟩ : ∃ b, N = b + 1 := ⟨N - 1, by omega⟩
    obtain rfl : rd = 16 := by omega
    rw [lp_X0_transactionsAbortedWith_20]
    simp (disch := omega) only [li0, li1, li2, li3, li4, li5, li6, li7, li8, li9, li10, li16, li17, li20, li30, li32, li48, li49, li50, li57, li60, li126, li147, nI_add, nI_sb, pk_mul, nI_m1, inrT, leT, leF, ltT, ltF, eqT, eqF, n1lt, m1lt, m1neg, m1nle, m1le, m1a1, m1a2, m1s, m1s', nI_cl, ↓tl, ↓sb, sb, sel, ser, ↓reduceIte, if_true, if_false, true_or, or_true, false_or, or_false, umS, umK, umJ, uaS, uaK, uaI, uaJ]
  | succ d ih =>
    intro rd N hr hN
    obtain ⟨N, rfl⟩ : ∃ b, N = b + 1 := ⟨N - 1, by omega⟩
    have h1 := fun c1 c3 => hf ts_fu c1 c3 (by unfold ts_fu; omega)
    have := ih (rd + 1) N (by omega) (by omega)
    rw [lp_X0_transactionsAbortedWith_20]
    simp (disch := omega) only [li0, li1, li2, li3, li4, li5, li6, li7, li8, li9, li10, li16, li17, li20, li30, li32, li48, li49, li50, li57, li60, li126, li147, nI_add, nI_sb, pk_mul, nI_m1, inrT, leT, leF, ltT, ltF, eqT, eqF, n1lt, m1lt, m1neg, m1nle, m1le, m1a1, m1a2, m1s, m1s', nI_cl, ↓tl, ↓sb, sb, sel, ser, ↓reduceIte, if_true, if_false, true_or, or_true, false_or, or_false, umS, umK, umJ, uaS, uaK, uaI, uaJ, h1]
    exact this
