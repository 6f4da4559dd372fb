/-! a beginning -/
def aNew (n nx : Nat) (pr : Int32) (al : pu_A) : pu_A := ua (ua (ua (ua (ua (ua (ua (ua al 1 0 2 (nI (n + 1))) 1 0 1 (nI (nx + 1))) 11 n 0 (nI 0)) 11 n 1 (nI nx)) 11 n 2 pr) 11 n 3 (nI 0)) 11 n 4 (nI 0)) 11 n 5 (nI 0)
def mNew (n nx : Nat) (pr : Int32) (mu : pu_M) : pu_M := um (um (um (um (um (um (um mu 31 n (nI 0)) 32 n (nI nx)) 33 n pr) 34 n (nI 0)) 35 n (nI 0)) 37 n (nI 0)) 30 3 (nI (nx + 1))
theorem pS_new {al : pu_A} {mu : pu_M} {p n nx : Nat} (pr : Int32) (hS : pS al mu p n nx) (hn : n < 16) (hx : nx + 1 < 2 ^ 30) : pS (aNew n nx pr al) (um (mNew n nx pr mu) 30 2 (nI (n + 1))) p (n + 1) (nx + 1) := by
  have hS' := hS
  obtain ⟨hG, hT, hO, hD, hC, hE⟩ := hS
  have a1 : ∀ s, ¬ s = n → ∀ j, aNew n nx pr al 11 s j = al 11 s j := fun s h j => by
    unfold aNew; simp (disch := omega) only [uaI, uaK]
  have ao : ∀ {a : Nat} (b j : Nat), 1 < a → ¬ a = 11 → aNew n nx pr al a b j = al a b j := fun b j h1 h2 => by
    unfold aNew; simp (disch := omega) only [uaK]
  have m1 : ∀ {a s : Nat}, ¬ a = 30 → ¬ a = 36 → ¬ s = n → um (mNew n nx pr mu) 30 2 (nI (n + 1)) a s = mu a s := fun {a s} h1 h2 h3 => by
    unfold mNew um
    rw [if_neg (by omega), if_neg (by omega), if_neg (by omega), if_neg (by omega), if_neg (by omega), if_neg (by omega), if_neg (by omega), if_neg (by omega)]
  have mo : ∀ {a : Nat} (s : Nat), 35 < a → ¬ a = 37 → um (mNew n nx pr mu) 30 2 (nI (n + 1)) a s = mu a s := fun {a} s h1 h2 => by
    unfold mNew um
    rw [if_neg (by omega), if_neg (by omega), if_neg (by omega), if_neg (by omega), if_neg (by omega), if_neg (by omega), if_neg (by omega), if_neg (by omega)]
  obtain ⟨g1, g2, g3, g4, g5, g6, g7, g8, g9, g10⟩ := hG
  refine ⟨?_, fun s hs => ?_, fun s hs => ?_, fun s hs j hj => ?_, fun i hi => ?_, ?_⟩
  · unfold aNew mNew
    refine ⟨?_, ?_, g3, ?_, ?_, by omega, hx, ?_, ?_, by omega⟩
    · simp (disch := omega) only [uaK, uaJ]; exact g1
    · simp (disch := omega) only [umK, umJ]; exact g2
    · simp (disch := omega) only [uaK, uaS]
    · simp (disch := omega) only [umS, umJ]
    · simp (disch := omega) only [uaK, uaJ, uaS]
    · simp (disch := omega) only [umS]
  · by_cases e : s = n
    · subst e
      unfold aNew mNew
      simp (disch := omega) only [uaS, uaJ, umK, umS]
      rw [toI_nI (by omega)]
      exact ⟨⟨0, by omega, rfl⟩, trivial, trivial, trivial, trivial, by omega, by omega⟩
    · obtain ⟨b1, b2, b3, b4, b5, b6, b7⟩ := hT s (by omega)
      simp (disch := omega) only [a1, m1]
      exact ⟨b1, b2, b3, b4, b5, b6, by omega⟩
  · by_cases e : s = n
    · subst e
      refine ⟨0, by omega, ?_, ?_, fun k hk => absurd hk (by omega)⟩
      · exact uaS _ _ _ _ _
      · unfold mNew
        simp (disch := omega) only [umK, umS]
    · have := hO s (by omega)
      simp (disch := omega) only [a1, m1, mo, ao]
      exact this
  · by_cases e : s = n
    · subst e
      have z1 : aNew s nx pr al 11 s 4 = nI 0 := by unfold aNew; simp (disch := omega) only [uaJ, uaS]
      have z2 : um (mNew s nx pr mu) 30 2 (nI (s + 1)) 37 s = nI 0 := by unfold mNew; simp (disch := omega) only [umK, umS]
      rw [z1, z2, bt_0]
      exact ⟨⟨fun q => absurd q (by decide), fun q => absurd q.1 (by decide)⟩, fun q => absurd q (by decide)⟩
    · have := hD s (by omega) j hj
      rw [a1 s e, m1 (by decide) (by decide) e]
      by_cases ej : j = n
      · subst ej
        have hb : ¬ bt (mu 37 s) j = true := fun q => absurd (this.2 q) (by omega)
        refine ⟨⟨fun q => absurd (this.1.mp q).1 hb, fun q => absurd q.1 hb⟩, fun q => absurd q hb⟩
      · rw [a1 j ej]
        exact ⟨this.1, fun q => by have := this.2 q; omega⟩
  · obtain ⟨c, c1, c2⟩ := hC i hi
    have wl := w_lt (k := 0) hS' c2 c2.1
    obtain ⟨w1, w2, w3, w4, w5⟩ := c2
    refine ⟨c, ?_, w1, fun k k' hk hk' => ?_, fun k hk => ?_, ?_, fun s hs hus => ?_⟩
    · unfold pC at c1 ⊢
      simp (disch := omega) only [ao, mo]
      exact c1
    · simp (disch := omega) only [ao]
      exact w2 k k' hk hk'
    · simp (disch := omega) only [ao]
      rcases w3 k hk with a | ⟨w, b1, b2, b3, b4⟩
      · exact Or.inl a
      · have hwt : ¬ w = n := by omega
        exact Or.inr ⟨w, by omega, b2, by rw [a1 w hwt]; exact b3, by rw [a1 w hwt]; exact b4⟩
    · simp (disch := omega) only [ao]
      rcases w4 with a | ⟨w, b1, b2, b3⟩
      · exact Or.inl a
      · exact Or.inr ⟨w, by omega, b2, by rw [a1 w (by omega)]; exact b3⟩
    · rw [ao _ _ (by decide) (by decide)]
      by_cases e : s = n
      · subst e
        have z1 : aNew s nx pr al 11 s 1 = nI nx := by unfold aNew; simp (disch := omega) only [uaJ, uaS]
        rw [z1, toI_nI (by omega)]; omega
      · unfold un at hus
        rw [a1 s e] at hus ⊢
        exact w5 s (by omega) hus
  · unfold pEv pu_E at hE ⊢
    unfold aNew mNew
    simp (disch := omega) only [uaK, umK, umJ]
    exact hE
theorem beg {al : pu_A} {mu : pu_M} {p n nx : Nat} (pr : Int32) (hS : pS al mu p n nx) (hR : pR al n) (hn : n < 16) (hx : nx + 1 < 2 ^ 30) : ∃ al' mu1, (∀ u, f_X0_newTransaction 0 pr (ca al u) = some (nI n, ca al' u)) ∧ (∀ u, f_X7_record (nI 0) (nI n) (-nI 1) (ma (mNew n nx pr mu) u) = some (ma mu1 u)) ∧ pS al' (um mu1 30 2 (nI (n + 1))) p (n + 1) (nx + 1) ∧ pR al' (n + 1) ∧ (∀ a j, (a = 30 ∧ ¬ j = 3 ∧ ¬ j = 14) ∨ 41 < a → mu1 a j = mu a j) := by
  have hS1 := pS_new pr hS hn hx
  have g4 : al 1 0 1 = nI nx := hS.1.2.2.2.1
  have g8 : al 1 0 2 = nI n := hS.1.2.2.2.2.2.2.2.1
  have hE1 : pEv (aNew n nx pr al) (mNew n nx pr mu) := by
    have := hS1.2.2.2.2.2
    unfold pEv pu_E at this ⊢
    simp (disch := omega) only [umK, umJ] at this
    exact this
  obtain ⟨al2, mu2, s0, s1, s2, s3, s4⟩ := n_note 0 (nI n) (-nI 1) (by omega) hE1
  refine ⟨al2, mu2, fun u => ?_, s1, ?_, ?_, fun a j h => ?_⟩
  · unfold f_X0_newTransaction f_X0_givenTimestamp f_X5_start
    unfold aNew at s0
    simp (disch := omega) only [li0, li1, li2, li3, li4, li5, li6, li7, li8, li9, li10, li16, li17, li20, li30, li32, li48, li49, li50, li57, li60, li126, li147, nI_add, nI_sb, pk_mul, nI_m1, inrT, leT, leF, ltT, ltF, eqT, eqF, n1lt, m1lt, m1neg, m1nle, m1le, m1a1, m1a2, m1s, m1s', nI_cl, ↓tl, ↓sb, sb, sel, ser, ↓reduceIte, if_true, if_false, true_or, or_true, false_or, or_false, umS, umK, umJ, uaS, uaK, uaI, uaJ, cg1, cg2, cg3, cg4, cg5, cg6, cg7, cg8, cg9, cg10, cg11, cg12, cg13, cg14, cg15, cg16, cg17, cg18, cg19, cg20, cs1, cs2, cs3, cs4, cs5, cs6, cs7, cs8, cs9, cs10, cs11, cs12, cs13, cs14, cs15, cs16, cs17, cs18, cs19, cs20, cc17, cc18, cc19, cc20, g4, g8, s0]
  · refine pS_cg hS1 (fun a b j h => s3 a b j (by omega)) (fun a j h => ?_) ?_
    · unfold um
      split
      · rfl
      · rw [s4 a j (by omega) (by omega) (by omega)]
    · unfold pEv pu_E at s2 ⊢
      simp (disch := omega) only [umK, umJ]
      exact s2
  · intro s hs j hj hb
    rw [s3 _ _ _ (by omega)] at hb
    have keep : ∀ s, un al s → ¬ s = n → un al2 s := fun s q e => by
      unfold un at q ⊢
      rw [s3 _ _ _ (by omega)]
      unfold aNew
      simp (disch := omega) only [uaI, uaK]
      exact q
    by_cases e : s = n
    · subst e
      have z1 : aNew s nx pr al 11 s 4 = nI 0 := by unfold aNew; simp (disch := omega) only [uaJ, uaS]
      rw [z1, bt_0] at hb
      exact absurd hb (by decide)
    · have z1 : aNew n nx pr al 11 s 4 = al 11 s 4 := by unfold aNew; simp (disch := omega) only [uaI, uaK]
      rw [z1] at hb
      have hr := hR s (by omega) j hj hb
      have hd := hS.2.2.2.1 s (by omega) j hj
      have := hd.2 (hd.1.mp hb).1
      exact ⟨keep j hr.1 (by omega), keep s hr.2 e⟩
  · rw [s4 a j (by omega) (by omega) (by omega)]
    unfold mNew um
    rw [if_neg (by omega), if_neg (by omega), if_neg (by omega), if_neg (by omega), if_neg (by omega), if_neg (by omega), if_neg (by omega)]
