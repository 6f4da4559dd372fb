/-! a restart, a beginning -/
theorem toI_nI {a : Nat} (h : a < 2 ^ 31) : (nI a).toInt = (a : Int) := nI_toInt h
/-- the write times lie below the next timestamp -/
theorem w_lt {al : pu_A} {mu : pu_M} {p n nx i c k : Nat} (hS : pS al mu p n nx) (hW : pW al n i c) (hk : k < c) : (al 17 i k).toInt < nx := by
  have g6 : 1 ≤ nx := hS.1.2.2.2.2.2.1
  rcases hW.2.2.1 k hk with ⟨-, a⟩ | ⟨w, b1, -, b3, -⟩
  · rw [a, toI_nI (by omega)]; omega
  · rw [b3]; exact (hS.2.1 w b1).2.2.2.2.2.2
def aRs (t nx : Nat) (al : pu_A) : pu_A := ua (ua (ua al 1 0 1 (nI (nx + 1))) 11 t 1 (nI nx)) 11 t 0 (nI 0)
def mRs (t nx : Nat) (mu : pu_M) : pu_M := um (um (um mu 31 t (nI 0)) 32 t (nI nx)) 30 3 (nI (nx + 1))
theorem pS_rs {al : pu_A} {mu : pu_M} {p n nx t : Nat} (hS : pS al mu p n nx) (ht : t < n) (h3 : al 11 t 0 = nI 3) (hx : nx + 1 < 2 ^ 30) : pS (aRs t nx al) (mRs t nx mu) p n (nx + 1) := by
  have hS' := hS
  obtain ⟨hG, hT, hO, hD, hC, hE⟩ := hS
  have a1 : ∀ s, ¬ s = t → ∀ j, aRs t nx al 11 s j = al 11 s j := fun s h j => by
    unfold aRs; simp (disch := omega) only [uaI, uaK]
  have a0 : aRs t nx al 11 t 0 = nI 0 := uaS _ _ _ _ _
  have at1 : aRs t nx al 11 t 1 = nI nx := by
    unfold aRs; simp (disch := omega) only [uaJ, uaS]
  have aj : ∀ s j, 1 < j → aRs t nx al 11 s j = al 11 s j := fun s j h => by
    unfold aRs; simp (disch := omega) only [uaJ, uaK]
  have ao : ∀ {a : Nat} (b j : Nat), 1 < a → ¬ a = 11 → aRs t nx al a b j = al a b j := fun b j h1 h2 => by
    unfold aRs; simp (disch := omega) only [uaK]
  have mo : ∀ {a : Nat} (j : Nat), ¬ a = 30 → ¬ a = 31 → ¬ a = 32 → mRs t nx mu a j = mu a j := fun j h1 h2 h3 => by
    unfold mRs; simp (disch := omega) only [umK]
  obtain ⟨g1, g2, g3, g4, g5, g6, g7, g8, g9, g10⟩ := hG
  have ne2 : ∀ s, (aRs t nx al 11 s 0 = nI 2 ↔ al 11 s 0 = nI 2) := fun s => by
    by_cases e : s = t
    · subst e; rw [a0, h3]; decide
    · rw [a1 s e]
  refine ⟨?_, fun s hs => ?_, fun s hs => ?_, fun s hs j hj => ?_, fun i hi => ?_, ?_⟩
  · unfold aRs mRs
    refine ⟨?_, ?_, g3, ?_, ?_, by omega, hx, ?_, ?_, g10⟩
    · simp (disch := omega) only [uaK, uaJ]; exact g1
    · simp (disch := omega) only [umK, umJ]; exact g2
    · simp (disch := omega) only [uaK, uaS]
    · simp (disch := omega) only [umS]
    · simp (disch := omega) only [uaK, uaJ]; exact g8
    · simp (disch := omega) only [umK, umJ]; exact g9
  · have := hT s hs
    by_cases e : s = t
    · subst e
      unfold mRs
      rw [a0, at1, aj _ 2 (by decide), aj _ 3 (by decide), toI_nI (by omega)]
      simp (disch := omega) only [umK, umS]
      exact ⟨⟨0, by omega, rfl⟩, trivial, trivial, this.2.2.2.1, this.2.2.2.2.1, by omega, by omega⟩
    · unfold mRs
      simp (disch := omega) only [a1, umK, umJ]
      obtain ⟨b1, b2, b3, b4, b5, b6, b7⟩ := this
      exact ⟨b1, b2, b3, b4, b5, b6, by omega⟩
  · have := hO s hs
    simp (disch := omega) only [aj, ao, mo]
    exact this
  · have := hD s hs j hj
    rw [aj _ 4 (by decide), ne2, mo _ (by decide) (by decide) (by decide)]
    exact this
  · obtain ⟨c, c1, c2⟩ := hC i hi
    have wl := w_lt (k := 0) hS' c2 c2.1
    obtain ⟨w1, w2, w3, w4, w5⟩ := c2
    refine ⟨c, ?_, w1, fun k k' hk hk' => ?_, fun k hk => ?_, ?_, fun s hs hus => ?_⟩
    · unfold pC at c1 ⊢
      simp (disch := omega) only [ao, mo]
      exact c1
    · simp (disch := omega) only [ao]
      exact w2 k k' hk hk'
    · simp (disch := omega) only [ao]
      rcases w3 k hk with a | ⟨w, b1, b2, b3, b4⟩
      · exact Or.inl a
      · have hwt : ¬ w = t := fun e => b4 (e ▸ h3)
        exact Or.inr ⟨w, b1, b2, by rw [a1 w hwt]; exact b3, by rw [a1 w hwt]; exact b4⟩
    · simp (disch := omega) only [ao]
      rcases w4 with a | ⟨w, b1, b2, b3⟩
      · exact Or.inl a
      · exact Or.inr ⟨w, b1, b2, (ne2 w).mpr b3⟩
    · rw [ao _ _ (by decide) (by decide)]
      by_cases e : s = t
      · subst e; rw [at1, toI_nI (by omega)]; omega
      · unfold un at hus
        rw [a1 s e] at hus ⊢
        exact w5 s hs hus
  · unfold aRs mRs
    unfold pEv pu_E at hE ⊢
    simp (disch := omega) only [uaK, umK, umJ]
    exact hE
theorem rst {al : pu_A} {mu : pu_M} {p n nx : Nat} (hS : pS al mu p n nx) (hR : pR al n) (hx : nx + 1 < 2 ^ 30) : (∃ m, m = 0 ∧ (∀ u, f_X0_nextToRestart 0 (ca al u) = some (ixN m)) ∧ (∀ u, lp_X7_restartNext_9 (ma mu u) ts_fu (-nI 1) (nI 0) = some (ixN m, nI n))) ∨ ∃ t al' mu' mu1 N1, t < n ∧ N1 = ts_fu ∧ (∀ u, f_X0_nextToRestart 0 (ca al u) = some (nI t)) ∧ (∀ u, lp_X7_restartNext_9 (ma mu u) ts_fu (-nI 1) (nI 0) = some (nI t, nI n)) ∧ (∀ u, f_X0_restartTransaction 0 (nI t) (ca al u) = some (ca al' u)) ∧ (∀ u, f_X7_record (nI 8) (nI t) (-nI 1) (ma (mRs t nx mu) u) = some (ma mu1 u)) ∧ (∀ u, ∃ x, lp_X7_restartNext_133 (nI t) N1 (nI 0) (ma mu1 u) = some (x, ma mu' u)) ∧ pS al' mu' p n (nx + 1) ∧ pR al' n ∧ (∀ a j, (a = 30 ∧ (j < 14 ∨ 18 < j) ∧ ¬ j = 3) ∨ 41 < a → mu' a j = mu a j) := by
  have g10 : n ≤ 16 := hS.1.2.2.2.2.2.2.2.2.2
  have g4 : al 1 0 1 = nI nx := hS.1.2.2.2.1
  obtain ⟨m, q1, q2, q3, q4⟩ := rs_loop hS n 0 0 (by omega) (by omega) (fun h => absurd h (by omega))
  have hsc : ∀ u, f_X0_nextToRestart 0 (ca al u) = some (ixN m) := fun u => by
    unfold f_X0_nextToRestart
    have := q2 u ts_fu (by unfold ts_fu; omega)
    rw [show (-1 : Int32) = ixN 0 from rfl, show (0 : Int32) = nI 0 from rfl, this]
    rfl
  have hsr : ∀ u, lp_X7_restartNext_9 (ma mu u) ts_fu (-nI 1) (nI 0) = some (ixN m, nI n) := fun u => q3 u ts_fu (by unfold ts_fu; omega)
  by_cases e : m = 0
  · exact Or.inl ⟨m, e, hsc, hsr⟩
  · right
    obtain ⟨t, rfl⟩ : ∃ t, m = t + 1 := ⟨m - 1, by omega⟩
    have h3 := q4 (by omega)
    rw [Nat.add_sub_cancel] at h3
    have hS1 := pS_rs hS (show t < n by omega) h3 hx
    obtain ⟨al2, mu2, s0, s1, s2, s3, s4⟩ := n_note 8 (nI t) (-nI 1) (by omega) hS1.2.2.2.2.2
    have hS2 : pS al2 mu2 p n (nx + 1) := pS_cg hS1 (fun a b j h => s3 a b j (by omega)) (fun a j h => s4 a j (by omega) (by omega) (by omega)) s2
    have a5 : al2 11 t 5 = al 11 t 5 := by
      rw [s3 _ _ _ (by omega)]; unfold aRs; simp (disch := omega) only [uaJ, uaK]
    have a0 : al2 11 t 0 = nI 0 := by
      rw [s3 _ _ _ (by omega)]; exact uaS _ _ _ _ _
    have hR2 : pR al2 n := by
      intro s hs j hj hb
      rw [s3 _ _ _ (by omega)] at hb
      have e4 : aRs t nx al 11 s 4 = al 11 s 4 := by unfold aRs; simp (disch := omega) only [uaJ, uaK]
      rw [e4] at hb
      have hr := hR s hs j hj hb
      have keep : ∀ s, un al s → un al2 s := fun s q => by
        have est : ¬ s = t := fun e => un_ne3 q (e ▸ h3)
        unfold un at q ⊢
        rw [s3 _ _ _ (by omega)]
        unfold aRs
        simp (disch := omega) only [uaI, uaK]
        exact q
      exact ⟨keep j hr.1, keep s hr.2⟩
    obtain ⟨q, o1, o2, -, -⟩ := hS.2.2.1 t (by omega)
    obtain ⟨al3, mu3, y1, y2, y3, y4, y5⟩ := rp_loop (t := t) (nI 0) o1 (by omega) q 0 al2 mu2 (by omega) (by rw [a5]; exact o2) a0 hS2 hR2
    refine ⟨t, al3, mu3, mu2, ts_fu, by omega, rfl, hsc, hsr, fun u => ?_, s1, fun u => y2 u ts_fu (by unfold ts_fu; omega), y3, y4, fun a j h => ?_⟩
    · unfold f_X0_restartTransaction f_X0_givenTimestamp
      obtain ⟨x, h⟩ := y1 u ts_fu (by unfold ts_fu; omega)
      unfold aRs at s0
      simp (disch := omega) only [li0, li1, li2, li3, li4, li5, li6, li7, li8, li9, li10, li16, li17, li20, li30, li32, li48, li49, li50, li57, li60, li126, li147, nI_add, nI_sb, pk_mul, nI_m1, inrT, leT, leF, ltT, ltF, eqT, eqF, n1lt, m1lt, m1neg, m1nle, m1le, m1a1, m1a2, m1s, m1s', nI_cl, ↓tl, ↓sb, sb, sel, ser, ↓reduceIte, if_true, if_false, true_or, or_true, false_or, or_false, umS, umK, umJ, uaS, uaK, uaI, uaJ, cg1, cg2, cg3, cg4, cg5, cg6, cg7, cg8, cg9, cg10, cg11, cg12, cg13, cg14, cg15, cg16, cg17, cg18, cg19, cg20, cs1, cs2, cs3, cs4, cs5, cs6, cs7, cs8, cs9, cs10, cs11, cs12, cs13, cs14, cs15, cs16, cs17, cs18, cs19, cs20, cc17, cc18, cc19, cc20, g4, s0, h]
    · rw [y5 a j (by omega), s4 a j (by omega) (by omega) (by omega)]
      unfold mRs um
      rw [if_neg (by omega), if_neg (by omega), if_neg (by omega)]
