/-! a whole abort; commits -/
theorem ab_all {al : pu_A} {mu : pu_M} {p n nx t : Nat} (it : Int32) (hS : pS al mu p n nx) (hR : pR al n) (ht : t < n) (hu : un al t) : ∃ al' mu' r, (∀ u, f_X0_abortWithDependents 0 (nI t) it (ca al u) = some (nI r, ca al' u)) ∧ (∀ u, f_X7_doAbort 17 (nI t) (nI 6) it (ma mu u) = some (nI r, ma mu' u)) ∧ pS al' mu' p n nx ∧ pR al' n ∧ al' 11 t 0 = nI 3 ∧ (∀ s, al' 11 s 1 = al 11 s 1 ∧ al' 11 s 5 = al 11 s 5) ∧ (∀ a b j, a < 4 ∨ a = 5 ∨ (11 < a ∧ a < 16) ∨ 20 < a → al' a b j = al a b j) ∧ (∀ a j, (a = 30 ∧ ¬ j = 14) ∨ a = 32 ∨ a = 33 ∨ a = 35 ∨ a = 36 ∨ 41 < a → mu' a j = mu a j) := by
  have hn : n ≤ 16 := hS.1.2.2.2.2.2.2.2.2.2
  obtain ⟨al1, mu1, x0, x1, x2, x3, x4, x5, x6, x7, x8⟩ := ab1 (k := 6) it hS ht hu (by omega)
  have hu1 : ¬ un al1 t := by
    intro q; rcases q with q | q <;> rw [x3] at q <;> exact absurd q (by decide)
  have hun : ∀ s, ¬ s = t → (un al1 s ↔ un al s) := fun s hs => by unfold un; rw [x5 s 0 hs]
  have hc1 : cn (unB al1) n + 1 = cn (unB al) n := (cn_off (t := t) ht (unB_t.mpr hu) (unB_f.mpr hu1) (fun j _ hj => by unfold unB; rw [x5 j 0 hj])).symm
  have hcl := cn_le (unB al) n
  have hS1 : pS (ua al1 6 0 0 (nI t)) mu1 p n nx := pS_cg x2 (fun a b j h => uaK _ _ _ _ _ _ (by omega)) (fun _ _ _ => rfl) (by
    have := x2.2.2.2.2.2
    unfold pEv pu_E at this ⊢
    simp (disch := omega) only [uaK]
    exact this)
  have a11 : ∀ s j, ua al1 6 0 0 (nI t) 11 s j = al1 11 s j := fun s j => uaK _ _ _ _ _ _ (by decide)
  have uq : ∀ s, un (ua al1 6 0 0 (nI t)) s ↔ un al1 s := fun s => by unfold un; rw [a11]
  obtain ⟨al2, mu2, r, y1, y2, y3, y4, y5, y6, y7⟩ := ab_loop (nI t) it (cn (unB al1) n) n (nI 6) it (ua al1 6 0 0 (nI t)) mu1 t 0 1 0 1 1 16 ts_fu (by omega) hS1 (cn_congr (fun j _ => by unfold unB; rw [a11])) ht (by rw [uq]; exact hu1) (by rw [a11, x3]; decide) (by omega) (by omega) (by omega) (by omega) (uaS _ _ _ _ _) (fun s h => absurd h (by omega)) (by unfold ts_fu; omega)
  obtain ⟨b1, b2, b3, b4, b5, b6, b7, b8⟩ := y6
  have so : ∀ s, un al1 s → ¬ s = t := fun s q e => hu1 (e ▸ q)
  have q1 : ¬ un (ua al1 6 0 0 (nI t)) t := by rw [uq]; exact hu1
  refine ⟨al2, mu2, 1 + r, fun u => ?_, fun u => ?_, y4, ?_, ?_, fun s => ?_, fun a b j h => ?_, fun a j h => ?_⟩
  · unfold f_X0_abortWithDependents
    have y2' := y2 u (ts_fu - (2 * r + 1))
    rw [show ts_fu - (2 * r + 1) + 2 * r + 1 = ts_fu by unfold ts_fu; omega] at y2'
    obtain ⟨M, hM⟩ : ∃ M, ts_fu - (2 * r + 1) = M + 1 := ⟨ts_fu - (2 * r + 1) - 1, by unfold ts_fu; omega⟩
    simp (disch := omega) only [li0, li1, li2, li3, li4, li5, li6, li7, li8, li9, li10, li16, li17, li20, li30, li32, li48, li49, li50, li57, li60, li126, li147, nI_add, nI_sb, pk_mul, nI_m1, inrT, leT, leF, ltT, ltF, eqT, eqF, n1lt, m1lt, m1neg, m1nle, m1le, m1a1, m1a2, m1s, m1s', nI_cl, ↓tl, ↓sb, sb, sel, ser, ↓reduceIte, if_true, if_false, true_or, or_true, false_or, or_false, umS, umK, umJ, uaS, uaK, uaI, uaJ, cg1, cg2, cg3, cg4, cg5, cg6, cg7, cg8, cg9, cg10, cg11, cg12, cg13, cg14, cg15, cg16, cg17, cg18, cg19, cg20, cs1, cs2, cs3, cs4, cs5, cs6, cs7, cs8, cs9, cs10, cs11, cs12, cs13, cs14, cs15, cs16, cs17, cs18, cs19, cs20, cc17, cc18, cc19, cc20, x0, y2']
    rw [hM, lp_X0_abortWithDependents_23]
    simp (disch := omega) only [li0, li1, li2, li3, li4, li5, li6, li7, li8, li9, li10, li16, li17, li20, li30, li32, li48, li49, li50, li57, li60, li126, li147, nI_add, nI_sb, pk_mul, nI_m1, inrT, leT, leF, ltT, ltF, eqT, eqF, n1lt, m1lt, m1neg, m1nle, m1le, m1a1, m1a2, m1s, m1s', nI_cl, ↓tl, ↓sb, sb, sel, ser, ↓reduceIte, if_true, if_false, true_or, or_true, false_or, or_false, umS, umK, umJ, uaS, uaK, uaI, uaJ, Nat.sub_self]
  · rw [x1 u 16, y3 u]
    rfl
  · intro s hs j hj hb
    by_cases e : un al2 s
    · have q := b1 s 4 e
      have q2 := (uq s).mp q.1
      have es := so s q2
      have hb' := hb
      rw [q.2, a11, x5 s 4 es] at hb'
      have hr := hR s hs j hj hb'
      have hjn : j < n := ((hS.2.2.2.1 s hs j hj).2) (((hS.2.2.2.1 s hs j hj).1.mp hb').1)
      refine ⟨?_, e⟩
      by_cases ej : j = t
      · subst ej; exact absurd ⟨e, hb⟩ (y7 s hs)
      · rw [← unB_t]
        cases hq : unB al2 j
        · exact absurd ⟨e, hb⟩ (b4 j hjn (by rw [uq, hun j ej]; exact hr.1) (unB_f.mp hq) s hs)
        · rfl
    · by_cases e1 : un (ua al1 6 0 0 (nI t)) s
      · rw [(b3 s e1 e).2, bt_0] at hb; exact absurd hb (by decide)
      · rw [b2 s 4 e1, a11] at hb
        by_cases es : s = t
        · subst es; rw [x4, bt_0] at hb; exact absurd hb (by decide)
        · rw [x5 s 4 es] at hb
          rw [uq, hun s es] at e1
          exact absurd (hR s hs j hj hb).2 e1
  · rw [b2 t 0 q1, a11, x3]
  · have q := b6 s
    rw [a11, a11] at q
    exact ⟨by rw [q.1, (x6 s).1], by rw [q.2, (x6 s).2]⟩
  · rw [b7 a b j h, uaK _ _ _ _ _ _ (by omega), x7 a b j (by omega)]
  · rw [b8 a j h, x8 a j h]
def aClr (t j n : Nat) (al : pu_A) : pu_A := fun a b c => if a = 11 ∧ c = 4 ∧ j ≤ b ∧ b < n then al 11 b 4 &&& ((nI 1 <<< (nI t &&& 31)) ^^^ (-nI 1)) else al a b c
theorem aClr_o (t j n : Nat) (al : pu_A) {a c : Nat} (b : Nat) (h : ¬ a = 11 ∨ ¬ c = 4) : aClr t j n al a b c = al a b c := if_neg (fun q => by omega)
theorem c_clr (u : ts_Mem) (t n : Nat) (hn : n ≤ 16) : ∀ d j N (al : pu_A), al 1 0 2 = nI n → j + d = n → d < N → lp_X0_finishCommit_12 0 (nI t) N (nI j) (ca al u) = some (nI n, ca (aClr t j n al) u) := by
  intro d
  induction d with
  | zero =>
    intro j N al hnn hj hN
    obtain ⟨N, rfl⟩ : ∃ b, N = b + 1 := ⟨N - 1, by omega⟩
    obtain rfl : j = n := by omega
    rw [lp_X0_finishCommit_12]
    simp (disch := omega) only [li0, li1, li2, li3, li4, li5, li6, li7, li8, li9, li10, li16, li17, li20, li30, li32, li48, li49, li50, li57, li60, li126, li147, nI_add, nI_sb, pk_mul, nI_m1, inrT, leT, leF, ltT, ltF, eqT, eqF, n1lt, m1lt, m1neg, m1nle, m1le, m1a1, m1a2, m1s, m1s', nI_cl, ↓tl, ↓sb, sb, sel, ser, ↓reduceIte, if_true, if_false, true_or, or_true, false_or, or_false, umS, umK, umJ, uaS, uaK, uaI, uaJ, cg1, cg2, cg3, cg4, cg5, cg6, cg7, cg8, cg9, cg10, cg11, cg12, cg13, cg14, cg15, cg16, cg17, cg18, cg19, cg20, cs1, cs2, cs3, cs4, cs5, cs6, cs7, cs8, cs9, cs10, cs11, cs12, cs13, cs14, cs15, cs16, cs17, cs18, cs19, cs20, cc17, cc18, cc19, cc20, hnn]
    congr 3
    funext a b c
    unfold aClr
    rw [if_neg (by omega)]
  | succ d ih =>
    intro j N al hnn hj hN
    obtain ⟨N, rfl⟩ : ∃ b, N = b + 1 := ⟨N - 1, by omega⟩
    rw [lp_X0_finishCommit_12]
    simp (disch := omega) only [li0, li1, li2, li3, li4, li5, li6, li7, li8, li9, li10, li16, li17, li20, li30, li32, li48, li49, li50, li57, li60, li126, li147, nI_add, nI_sb, pk_mul, nI_m1, inrT, leT, leF, ltT, ltF, eqT, eqF, n1lt, m1lt, m1neg, m1nle, m1le, m1a1, m1a2, m1s, m1s', nI_cl, ↓tl, ↓sb, sb, sel, ser, ↓reduceIte, if_true, if_false, true_or, or_true, false_or, or_false, umS, umK, umJ, uaS, uaK, uaI, uaJ, cg1, cg2, cg3, cg4, cg5, cg6, cg7, cg8, cg9, cg10, cg11, cg12, cg13, cg14, cg15, cg16, cg17, cg18, cg19, cg20, cs1, cs2, cs3, cs4, cs5, cs6, cs7, cs8, cs9, cs10, cs11, cs12, cs13, cs14, cs15, cs16, cs17, cs18, cs19, cs20, cc17, cc18, cc19, cc20, hnn]
    rw [ih (j + 1) N _ (by rw [uaK _ _ _ _ _ _ (by decide)]; exact hnn) (by omega) (by omega)]
    congr 3
    funext a b c
    unfold aClr
    by_cases e : a = 11 ∧ c = 4 ∧ j ≤ b ∧ b < n
    · obtain ⟨rfl, rfl, e1, e2⟩ := e
      by_cases eb : b = j
      · subst eb
        rw [if_neg (by omega), if_pos (by omega), uaS]
      · rw [if_pos (by omega), if_pos (by omega), uaI _ _ _ _ _ eb]
    · rw [if_neg (by omega), if_neg e]
      unfold ua
      rw [if_neg (by omega)]
/-- what commits leave as it was -/
def pM (al al' : pu_A) (mu mu' : pu_M) : Prop := (∀ s j, ¬ j = 0 → ¬ j = 4 → al' 11 s j = al 11 s j) ∧ (∀ a b j, a < 4 ∨ a = 5 ∨ a = 6 ∨ 11 < a → al' a b j = al a b j) ∧ (∀ a j, (a = 30 ∧ ¬ j = 14) ∨ (31 < a ∧ a < 40) ∨ 41 < a → mu' a j = mu a j)
theorem pM_trans {al al1 al2 : pu_A} {mu mu1 mu2 : pu_M} (h1 : pM al al1 mu mu1) (h2 : pM al1 al2 mu1 mu2) : pM al al2 mu mu2 := ⟨fun s j a b => by rw [h2.1 s j a b, h1.1 s j a b], fun a b j h => by rw [h2.2.1 a b j h, h1.2.1 a b j h], fun a j h => by rw [h2.2.2 a j h, h1.2.2 a j h]⟩
theorem cm1 {al : pu_A} {mu : pu_M} {p n nx t : Nat} (hS : pS al mu p n nx) (hR : pR al n) (ht : t < n) (hu : un al t) (h0 : al 11 t 4 = nI 0) : ∃ al' mu', (∀ u, f_X0_finishCommit 0 (nI t) (ca al u) = some (ca al' u)) ∧ (∀ u, f_X7_record (nI 5) (nI t) (-nI 1) (ma (um mu 31 t (nI 2)) u) = some (ma mu' u)) ∧ pS al' mu' p n nx ∧ pR al' n ∧ al' 11 t 0 = nI 2 ∧ (∀ s, ¬ s = t → al' 11 s 0 = al 11 s 0) ∧ pM al al' mu mu' := by
  obtain ⟨hG, hT, hO, hD, hC, hE⟩ := hS
  have hn : n ≤ 16 := hG.2.2.2.2.2.2.2.2.2
  have hnn : al 1 0 2 = nI n := hG.2.2.2.2.2.2.2.1
  have hE1 : pEv (aClr t 0 n (ua al 11 t 0 (nI 2))) (um mu 31 t (nI 2)) := by
    unfold pEv pu_E at hE ⊢
    simp (disch := omega) only [aClr_o, uaK, umK]
    exact hE
  obtain ⟨al2, mu2, s0, s1, s2, s3, s4⟩ := n_note 5 (nI t) (-nI 1) (by omega) hE1
  have f4 : ∀ s, s < n → aClr t 0 n (ua al 11 t 0 (nI 2)) 11 s 4 = al 11 s 4 &&& ((nI 1 <<< (nI t &&& 31)) ^^^ (-nI 1)) := fun s hs => by
    unfold aClr
    rw [if_pos (by omega), uaJ _ _ _ _ _ (by decide)]
  have fo : ∀ s j, ¬ j = 4 → ¬ j = 0 → aClr t 0 n (ua al 11 t 0 (nI 2)) 11 s j = al 11 s j := fun s j h h' => by
    rw [aClr_o _ _ _ _ _ (Or.inr h), uaJ _ _ _ _ _ h']
  have f0 : ∀ s, ¬ s = t → aClr t 0 n (ua al 11 t 0 (nI 2)) 11 s 0 = al 11 s 0 := fun s h => by
    rw [aClr_o _ _ _ _ _ (Or.inr (by decide)), uaI _ _ _ _ _ h]
  have f0t : aClr t 0 n (ua al 11 t 0 (nI 2)) 11 t 0 = nI 2 := by
    rw [aClr_o _ _ _ _ _ (Or.inr (by decide)), uaS]
  have fx : ∀ a b j, ¬ a = 11 → aClr t 0 n (ua al 11 t 0 (nI 2)) a b j = al a b j := fun a b j h => by
    rw [aClr_o _ _ _ _ _ (Or.inl h), uaK _ _ _ _ _ _ h]
  have hut : ∀ s, un (aClr t 0 n (ua al 11 t 0 (nI 2))) s → ¬ s = t ∧ un al s := fun s h => by
    have e : ¬ s = t := by
      intro e; subst e
      rcases h with h | h <;> rw [f0t] at h <;> exact absurd h (by decide)
    unfold un at h ⊢
    rw [f0 s e] at h
    exact ⟨e, h⟩
  refine ⟨al2, mu2, fun u => ?_, s1, ?_, ?_, ?_, ?_, ?_⟩
  · unfold f_X0_finishCommit
    have := fun u => c_clr u t n hn n 0 ts_fu (ua al 11 t 0 (nI 2)) (by rw [uaK _ _ _ _ _ _ (by decide)]; exact hnn) (by omega) (by unfold ts_fu; omega)
    simp (disch := omega) only [li0, li1, li2, li3, li4, li5, li6, li7, li8, li9, li10, li16, li17, li20, li30, li32, li48, li49, li50, li57, li60, li126, li147, nI_add, nI_sb, pk_mul, nI_m1, inrT, leT, leF, ltT, ltF, eqT, eqF, n1lt, m1lt, m1neg, m1nle, m1le, m1a1, m1a2, m1s, m1s', nI_cl, ↓tl, ↓sb, sb, sel, ser, ↓reduceIte, if_true, if_false, true_or, or_true, false_or, or_false, umS, umK, umJ, uaS, uaK, uaI, uaJ, cg1, cg2, cg3, cg4, cg5, cg6, cg7, cg8, cg9, cg10, cg11, cg12, cg13, cg14, cg15, cg16, cg17, cg18, cg19, cg20, cs1, cs2, cs3, cs4, cs5, cs6, cs7, cs8, cs9, cs10, cs11, cs12, cs13, cs14, cs15, cs16, cs17, cs18, cs19, cs20, cc17, cc18, cc19, cc20, this, s0]
  · apply pS_cg (al := aClr t 0 n (ua al 11 t 0 (nI 2))) (mu := um mu 31 t (nI 2)) _ (fun a b j h => s3 a b j (by omega)) (fun a j h => s4 a j (by omega) (by omega) (by omega)) s2
    refine ⟨?_, fun s hs => ?_, fun s hs => ?_, fun s hs j hj => ?_, fun i hi => ?_, hE1⟩
    · unfold pG at hG ⊢
      simp (disch := omega) only [fx, umK]
      exact hG
    · have := hT s hs
      by_cases e : s = t
      · subst e
        simp (disch := omega) only [fo, f0t, umS, umK] at this ⊢
        exact ⟨⟨2, by omega, rfl⟩, trivial, this.2.2⟩
      · simp (disch := omega) only [fo, f0, umK, umJ] at this ⊢
        exact this
    · have := hO s hs
      simp (disch := omega) only [fo, fx, umK] at this ⊢
      exact this
    · have := hD s hs j hj
      rw [f4 s hs, bt_clr _ (by omega) hj, umK _ _ _ _ (by decide)]
      by_cases e : j = t
      · subst e
        rw [f0t]
        simp only [decide_true, Bool.not_true, Bool.and_false]
        exact ⟨⟨fun q => absurd q (by decide), fun q => absurd trivial q.2⟩, this.2⟩
      · rw [f0 j e]
        have e' : ¬ t = j := fun q => e q.symm
        simp only [e', decide_false, Bool.not_false, Bool.and_true]
        exact this
    · obtain ⟨c, c1, w1, w2, w3, w4, w5⟩ := hC i hi
      refine ⟨c, ?_, w1, fun k k' hk hk' => ?_, fun k hk => ?_, ?_, fun s hs hus => ?_⟩
      · unfold pC at c1 ⊢
        simp (disch := omega) only [fx, umK]
        exact c1
      · simp (disch := omega) only [fx]
        exact w2 k k' hk hk'
      · simp (disch := omega) only [fx]
        rcases w3 k hk with a | ⟨w, b1, b2, b3, b4⟩
        · exact Or.inl a
        · refine Or.inr ⟨w, b1, b2, ?_, ?_⟩
          · rw [fo w 1 (by decide) (by decide)]; exact b3
          · by_cases e : w = t
            · subst e; rw [f0t]; decide
            · rw [f0 w e]; exact b4
      · simp (disch := omega) only [fx]
        rcases w4 with a | ⟨w, b1, b2, b3⟩
        · exact Or.inl a
        · refine Or.inr ⟨w, b1, b2, ?_⟩
          by_cases e : w = t
          · subst e; exact f0t
          · rw [f0 w e]; exact b3
      · rw [fx _ _ _ (by decide), fo s 1 (by decide) (by decide)]
        exact w5 s hs (hut s hus).2
  · intro s hs j hj hb
    have u2 : ∀ s, un al2 s ↔ un (aClr t 0 n (ua al 11 t 0 (nI 2))) s := fun s => by unfold un; rw [s3 _ _ _ (by omega)]
    have back : ∀ s, ¬ s = t → un al s → un al2 s := fun s h q => by
      rw [u2]; unfold un at q ⊢; rw [f0 s h]; exact q
    rw [s3 _ _ _ (by omega), f4 s hs, bt_clr _ (by omega) hj, Bool.and_eq_true] at hb
    have hr := hR s hs j hj hb.1
    have hjt : ¬ j = t := fun e => by subst e; simp at hb
    have hst : ¬ s = t := fun e => by
      subst e; rw [h0, bt_0] at hb; exact absurd hb.1 (by decide)
    exact ⟨back j hjt hr.1, back s hst hr.2⟩
  · rw [s3 _ _ _ (by omega)]; exact f0t
  · intro s h; rw [s3 _ _ _ (by omega)]; exact f0 s h
  · refine ⟨fun s j h1 h2 => ?_, fun a b j h => ?_, fun a j h => ?_⟩
    · rw [s3 _ _ _ (by omega)]; exact fo s j h2 h1
    · rw [s3 a b j (by omega)]; exact fx a b j (by omega)
    · rw [s4 a j (by omega) (by omega) (by omega), umK _ _ _ _ (by omega)]
