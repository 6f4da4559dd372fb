/-! the relation between the bench and the reference -/
def un (al : pu_A) (t : Nat) : Prop := al 11 t 0 = nI 0 ∨ al 11 t 0 = nI 1
def pG (al : pu_A) (mu : pu_M) (p n nx : Nat) : Prop := al 1 0 0 = nI p ∧ mu 30 1 = nI p ∧ p ≤ 2 ∧ al 1 0 1 = nI nx ∧ mu 30 3 = nI nx ∧ 1 ≤ nx ∧ nx < 2 ^ 30 ∧ al 1 0 2 = nI n ∧ mu 30 2 = nI n ∧ n ≤ 16
def pT (al : pu_A) (mu : pu_M) (n nx : Nat) : Prop := ∀ t, t < n → (∃ s, s ≤ 3 ∧ al 11 t 0 = nI s) ∧ mu 31 t = al 11 t 0 ∧ mu 32 t = al 11 t 1 ∧ mu 33 t = al 11 t 2 ∧ mu 34 t = al 11 t 3 ∧ 0 < (al 11 t 1).toInt ∧ (al 11 t 1).toInt < nx
def pO (al : pu_A) (mu : pu_M) (n : Nat) : Prop := ∀ t, t < n → ∃ q, q ≤ 20 ∧ al 11 t 5 = nI q ∧ mu 35 t = nI q ∧ ∀ k, k < q → (∃ kd, kd ≤ 2 ∧ al 12 t k = nI kd) ∧ (∃ it, it < 8 ∧ al 13 t k = nI it) ∧ mu 36 (4 * (20 * t + k)) = al 12 t k ∧ mu 36 (4 * (20 * t + k) + 1) = al 13 t k ∧ mu 36 (4 * (20 * t + k) + 2) = al 14 t k ∧ mu 36 (4 * (20 * t + k) + 3) = al 15 t k
def pD (al : pu_A) (mu : pu_M) (n : Nat) : Prop := ∀ t, t < n → ∀ j, j < 32 → (bt (al 11 t 4) j = true ↔ bt (mu 37 t) j = true ∧ ¬ al 11 j 0 = nI 2) ∧ (bt (mu 37 t) j = true → j < n)
def pW (al : pu_A) (n i c : Nat) : Prop := 1 ≤ c ∧ (∀ k k', k < k' → k' < c → (al 17 i k).toInt < (al 17 i k').toInt) ∧ (∀ k, k < c → (al 20 i k = -nI 1 ∧ al 17 i k = nI 0) ∨ ∃ w, w < n ∧ al 20 i k = nI w ∧ al 17 i k = al 11 w 1 ∧ ¬ al 11 w 0 = nI 3) ∧ (al 20 i 0 = -nI 1 ∨ ∃ w, w < n ∧ al 20 i 0 = nI w ∧ al 11 w 0 = nI 2) ∧ (∀ t, t < n → un al t → (al 17 i 0).toInt ≤ (al 11 t 1).toInt)
def pEv (al : pu_A) (mu : pu_M) : Prop := ∃ o c, al 4 0 0 = nI o ∧ al 4 0 1 = nI c ∧ o < 50 ∧ c ≤ 50 ∧ pu_E al mu o c
def pCs (al : pu_A) (mu : pu_M) (n : Nat) : Prop := ∀ i, i < 8 → ∃ c, pC al mu i c ∧ pW al n i c
def pS (al : pu_A) (mu : pu_M) (p n nx : Nat) : Prop := pG al mu p n nx ∧ pT al mu n nx ∧ pO al mu n ∧ pD al mu n ∧ pCs al mu n ∧ pEv al mu
def pR (al : pu_A) (n : Nat) : Prop := ∀ t, t < n → ∀ j, j < 32 → bt (al 11 t 4) j = true → un al j ∧ un al t
theorem n_note {al : pu_A} {mu : pu_M} (k : Nat) (t it : Int32) (hk : k < 9) (hE : pEv al mu) : ∃ al' mu', (∀ u, f_X2_note 0 (nI k) t it (ca al u) = some (ca al' u)) ∧ (∀ u, f_X7_record (nI k) t it (ma mu u) = some (ma mu' u)) ∧ pEv al' mu' ∧ (∀ a b j, a < 4 ∨ 10 < a ∨ a = 5 ∨ a = 6 → al' a b j = al a b j) ∧ (∀ a j, ¬ a = 40 → ¬ a = 41 → ¬ (a = 30 ∧ j = 14) → mu' a j = mu a j) := by
  obtain ⟨o, c, h1, h2, h3, h4, h5⟩ := hE
  obtain ⟨mu', hr, hE', hF⟩ := m_record (al := al) (mu := mu) k o c t it hk h3 h4 h5
  refine ⟨aNote k t it o c al, mu', fun u => c_note al u k o c t it hk h1 h2 h3 h4, hr, ⟨if c < 50 then o else (o + 1) % 50, if c < 50 then c + 1 else c, ?_, ?_, ?_, ?_, hE'⟩, fun a b j h => aNote_o k t it o c al b j h, hF⟩
  · unfold aNote
    split
    · simp (disch := omega) only [li0, li1, li2, li3, li4, li5, li6, li7, li8, li9, li10, li16, li17, li20, li30, li32, li48, li49, li50, li57, li60, li126, li147, nI_add, nI_sb, pk_mul, nI_m1, inrT, leT, leF, ltT, ltF, eqT, eqF, n1lt, m1lt, m1neg, m1nle, m1le, m1a1, m1a2, m1s, m1s', nI_cl, ↓tl, ↓sb, sb, sel, ser, ↓reduceIte, if_true, if_false, true_or, or_true, false_or, or_false, umS, umK, umJ, uaS, uaK, uaI, uaJ, h1]
    · simp (disch := omega) only [li0, li1, li2, li3, li4, li5, li6, li7, li8, li9, li10, li16, li17, li20, li30, li32, li48, li49, li50, li57, li60, li126, li147, nI_add, nI_sb, pk_mul, nI_m1, inrT, leT, leF, ltT, ltF, eqT, eqF, n1lt, m1lt, m1neg, m1nle, m1le, m1a1, m1a2, m1s, m1s', nI_cl, ↓tl, ↓sb, sb, sel, ser, ↓reduceIte, if_true, if_false, true_or, or_true, false_or, or_false, umS, umK, umJ, uaS, uaK, uaI, uaJ]
  · unfold aNote
    split
    · simp (disch := omega) only [li0, li1, li2, li3, li4, li5, li6, li7, li8, li9, li10, li16, li17, li20, li30, li32, li48, li49, li50, li57, li60, li126, li147, nI_add, nI_sb, pk_mul, nI_m1, inrT, leT, leF, ltT, ltF, eqT, eqF, n1lt, m1lt, m1neg, m1nle, m1le, m1a1, m1a2, m1s, m1s', nI_cl, ↓tl, ↓sb, sb, sel, ser, ↓reduceIte, if_true, if_false, true_or, or_true, false_or, or_false, umS, umK, umJ, uaS, uaK, uaI, uaJ]
    · simp (disch := omega) only [li0, li1, li2, li3, li4, li5, li6, li7, li8, li9, li10, li16, li17, li20, li30, li32, li48, li49, li50, li57, li60, li126, li147, nI_add, nI_sb, pk_mul, nI_m1, inrT, leT, leF, ltT, ltF, eqT, eqF, n1lt, m1lt, m1neg, m1nle, m1le, m1a1, m1a2, m1s, m1s', nI_cl, ↓tl, ↓sb, sb, sel, ser, ↓reduceIte, if_true, if_false, true_or, or_true, false_or, or_false, umS, umK, umJ, uaS, uaK, uaI, uaJ, h2]
  · split <;> omega
  · split <;> omega
theorem pS_cg {al al' : pu_A} {mu mu' : pu_M} {p n nx : Nat} (h : pS al mu p n nx) (h1 : ∀ a b j, a = 1 ∨ 10 < a → al' a b j = al a b j) (h2 : ∀ a j, a = 30 ∧ j < 4 ∨ 30 < a ∧ a < 40 → mu' a j = mu a j) (hE : pEv al' mu') : pS al' mu' p n nx := by
  obtain ⟨g, t, o, d, c, -⟩ := h
  refine ⟨?_, ?_, ?_, ?_, ?_, hE⟩
  · unfold pG at g ⊢
    simp (disch := omega) only [h1, h2]
    exact g
  · unfold pT at t ⊢
    simp (disch := omega) only [h1, h2]
    exact t
  · unfold pO at o ⊢
    simp (disch := omega) only [h1, h2]
    exact o
  · unfold pD at d ⊢
    simp (disch := omega) only [h1, h2]
    exact d
  · unfold pCs pC pW un at c ⊢
    simp (disch := omega) only [h1, h2]
    exact c
/-- what the removal of a transaction's versions leaves of an item -/
def pF (al al' : pu_A) (mu' : pu_M) (t i : Nat) : Prop := ∃ (c c' : Nat) (g : Nat → Nat), al 16 i 0 = nI c ∧ c ≤ 17 ∧ 1 ≤ c' ∧ pC al' mu' i c' ∧ g 0 = 0 ∧ (∀ k, k < c' → g k < c ∧ ¬ al 20 i (g k) = nI t) ∧ (∀ k k', k < k' → k' < c' → g k < g k') ∧ (∀ a k, 17 ≤ a ∧ a ≤ 20 → k < c' → al' a i k = al a i (g k))
theorem rem_item {al : pu_A} {mu : pu_M} {i c n t : Nat} (hi : i < 8) (ht : t < n) (hn : n ≤ 16) (hC : pC al mu i c) (hW : pW al n i c) (hu : un al t) : ∃ c' mu', (∀ u, lp_X7_takeVersions_13 (nI t) (nI i) ts_fu (nI 0) (nI 0) (ma mu u) = some (nI c', nI c, ma mu' u)) ∧ c' ≤ 17 ∧ (∀ a b, ¬ a = 39 → mu' a b = mu a b) ∧ (∀ b, b < 80 * i ∨ 80 * i + 80 ≤ b → mu' 39 b = mu 39 b) ∧ pF al (aRem i c (nI t) (al 11 t 1) al) (um mu' 38 i (nI c')) t i := by
  obtain ⟨h1, h2, h3, h4⟩ := hC
  obtain ⟨w1, w2, w3, w4, -⟩ := hW
  have hl := la_le (al 17 i) (al 11 t 1) c
  have hat := la_at (al 17 i) (al 11 t 1) c
  have key : ∀ k, k < c → al 20 i k = nI t → la (al 17 i) (al 11 t 1) c = k + 1 := by
    intro k hk e
    have et : al 17 i k = al 11 t 1 := by
      rcases w3 k hk with ⟨a, b⟩ | ⟨w, a1, a2, a3, a4⟩
      · rw [a] at e
        exact absurd e (by rw [m1lt (by omega)]; exact id)
      · have : w = t := by
          rw [e] at a2
          exact ((nI_eq (by omega) (by omega)).mp a2).symm
        subst this; exact a3
    apply la_of
    · omega
    · intro _; rw [Nat.add_sub_cancel, et]; exact Int32.le_refl _
    · intro k' q1 q2
      have := w2 k k' (by omega) q2
      rw [et] at this
      rw [Int32.le_iff_toInt_le]
      omega
  have no0 : ¬ al 20 i 0 = nI t := by
    intro e
    rcases w4 with a | ⟨w, a1, a2, a3⟩
    · rw [a] at e
      exact absurd e (by rw [m1lt (by omega)]; exact id)
    · have : w = t := by
        rw [e] at a2
        exact ((nI_eq (by omega) (by omega)).mp a2).symm
      subst this
      rcases hu with b | b
      · rw [a3] at b; exact absurd b (by decide)
      · rw [a3] at b; exact absurd b (by decide)
  unfold aRem
  by_cases e : 1 ≤ la (al 17 i) (al 11 t 1) c ∧ al 20 i (la (al 17 i) (al 11 t 1) c - 1) = nI t
  · -- a version is removed
    obtain ⟨r, hr⟩ : ∃ r, la (al 17 i) (al 11 t 1) c = r + 1 := ⟨la (al 17 i) (al 11 t 1) c - 1, by omega⟩
    have e' := e
    rw [hr] at e' hl
    rw [Nat.add_sub_cancel] at e'
    have hne : ∀ k, k < c → ¬ k = r → ¬ al 20 i k = nI t := fun k hk hkr q => by
      have := key k hk q; omega
    have hr0 : ¬ r = 0 := by
      intro q; rw [q] at e'; exact no0 e'.2
    have hw : ∀ k, k < c → mu 39 (4 * (20 * i + k) + 3) = al 20 i k := fun k hk => (h4 k hk).2.2.2
    obtain ⟨N, hN⟩ : ∃ N, ts_fu - r = N + 1 := ⟨ts_fu - r - 1, by unfold ts_fu; omega⟩
    have hN2 : c < N := by unfold ts_fu at hN; omega
    obtain ⟨mu', q0, q1, q2, q3, q4⟩ := r_tv2 (nI t) hi h3 (c - (r + 1)) (r + 1) N mu (by omega) (by omega) (by omega) h2 (fun k k1 k2 => by rw [hw k k2]; exact hne k k2 (by omega))
    rw [if_pos e, hr]
    simp only [Nat.add_sub_cancel] at q0 q3 q4 ⊢
    refine ⟨c - 1, mu', fun u => ?_, by omega, q1, q2, c, c - 1, fun k => if k < r then k else k + 1, h1, h3, by omega, ?_, ?_, fun k hk => ?_, fun k k' hk hk' => ?_, fun a k ha hk => ?_⟩
    · rw [r_tv1 u (nI t) hi h2 h3 (show r ≤ c by omega) (fun k hk => by rw [hw k (by omega)]; exact hne k (by omega) (by omega)) r 0 ts_fu (by omega) (by unfold ts_fu; omega), hN, lp_X7_takeVersions_13]
      have hwr := hw r (by omega)
      rw [e'.2] at hwr
      have := q0 u
      unfold f_X7_place
      simp (disch := omega) only [li0, li1, li2, li3, li4, li5, li6, li7, li8, li9, li10, li16, li17, li20, li30, li32, li48, li49, li50, li57, li60, li126, li147, nI_add, nI_sb, pk_mul, nI_m1, inrT, leT, leF, ltT, ltF, eqT, eqF, n1lt, m1lt, m1neg, m1nle, m1le, m1a1, m1a2, m1s, m1s', nI_cl, ↓tl, ↓sb, sb, sel, ser, ↓reduceIte, if_true, if_false, true_or, or_true, false_or, or_false, umS, umK, umJ, uaS, uaK, uaI, uaJ, mg30, mg31, mg32, mg33, mg34, mg35, mg36, mg37, mg38, mg39, mg40, mg41, mg42, mg43, mg44, mg45, mg46, mg47, mg48, mg49, ms30, ms31, ms32, ms33, ms34, ms35, ms36, ms37, ms38, ms39, ms40, ms41, ms42, ms43, ms44, ms45, ms46, ms47, ms48, ms49, h2, hwr]
      exact this
    · refine ⟨?_, umS _ _ _ _, by omega, fun k hk => ?_⟩
      · rw [aSh_c]; congr 1; omega
      · simp (disch := omega) only [umK]
        by_cases hk1 : k < r
        · rw [aSh_out _ _ _ _ _ _ (by omega) hk1, aSh_out _ _ _ _ _ _ (by omega) hk1, aSh_out _ _ _ _ _ _ (by omega) hk1, aSh_out _ _ _ _ _ _ (by omega) hk1]
          have a0 := q3 k 0 hk1 (by omega)
          have a1 := q3 k 1 hk1 (by omega)
          have a2 := q3 k 2 hk1 (by omega)
          have a3 := q3 k 3 hk1 (by omega)
          simp only [Nat.add_zero] at a0
          rw [a0, a1, a2, a3]
          exact h4 k (by omega)
        · rw [aSh_in _ _ _ _ _ _ (by omega) (by omega) (by omega), aSh_in _ _ _ _ _ _ (by omega) (by omega) (by omega), aSh_in _ _ _ _ _ _ (by omega) (by omega) (by omega), aSh_in _ _ _ _ _ _ (by omega) (by omega) (by omega), show r + 1 + (k - r) = k + 1 by omega]
          have a0 := q4 k 0 (by omega) hk (by omega)
          have a1 := q4 k 1 (by omega) hk (by omega)
          have a2 := q4 k 2 (by omega) hk (by omega)
          have a3 := q4 k 3 (by omega) hk (by omega)
          simp only [Nat.add_zero] at a0
          rw [a0, a1, a2, a3]
          exact h4 (k + 1) (by omega)
    · show (if 0 < r then 0 else 0 + 1) = 0
      rw [if_pos (by omega)]
    · show (if k < r then k else k + 1) < c ∧ ¬ al 20 i (if k < r then k else k + 1) = nI t
      split
      · exact ⟨by omega, hne k (by omega) (by omega)⟩
      · exact ⟨by omega, hne (k + 1) (by omega) (by omega)⟩
    · show (if k < r then k else k + 1) < (if k' < r then k' else k' + 1)
      split <;> split <;> omega
    · show aSh i (r + 1) r (c - (r + 1)) al a i k = al a i (if k < r then k else k + 1)
      split
      · rw [aSh_out _ _ _ _ _ _ ha (by omega)]
      · rw [aSh_in _ _ _ _ _ _ ha (by omega) (by omega)]
        congr 1; omega
  · -- none is
    rw [if_neg e]
    have hne : ∀ k, k < c → ¬ al 20 i k = nI t := fun k hk q => by
      have := key k hk q
      exact e ⟨by omega, by rw [this, Nat.add_sub_cancel]; exact q⟩
    have hw : ∀ k, k < c → ¬ mu 39 (4 * (20 * i + k) + 3) = nI t := fun k hk => by rw [(h4 k hk).2.2.2]; exact hne k hk
    refine ⟨c, mu, fun u => ?_, h3, fun _ _ _ => rfl, fun _ _ => rfl, c, c, id, h1, h3, w1, ?_, rfl, fun k hk => ⟨hk, hne k hk⟩, fun _ _ h _ => h, fun _ _ _ _ => rfl⟩
    · rw [r_tv1 u (nI t) hi h2 h3 (Nat.le_refl c) hw c 0 ts_fu (by omega) (by unfold ts_fu; omega)]
      obtain ⟨N, hN⟩ : ∃ N, ts_fu - c = N + 1 := ⟨ts_fu - c - 1, by unfold ts_fu; omega⟩
      rw [hN, lp_X7_takeVersions_13]
      simp (disch := omega) only [li0, li1, li2, li3, li4, li5, li6, li7, li8, li9, li10, li16, li17, li20, li30, li32, li48, li49, li50, li57, li60, li126, li147, nI_add, nI_sb, pk_mul, nI_m1, inrT, leT, leF, ltT, ltF, eqT, eqF, n1lt, m1lt, m1neg, m1nle, m1le, m1a1, m1a2, m1s, m1s', nI_cl, ↓tl, ↓sb, sb, sel, ser, ↓reduceIte, if_true, if_false, true_or, or_true, false_or, or_false, umS, umK, umJ, uaS, uaK, uaI, uaJ, mg30, mg31, mg32, mg33, mg34, mg35, mg36, mg37, mg38, mg39, mg40, mg41, mg42, mg43, mg44, mg45, mg46, mg47, mg48, mg49, ms30, ms31, ms32, ms33, ms34, ms35, ms36, ms37, ms38, ms39, ms40, ms41, ms42, ms43, ms44, ms45, ms46, ms47, ms48, ms49, h2]
    · refine ⟨h1, ?_, h3, fun k hk => ?_⟩
      · exact umS _ _ _ _
      · simp (disch := omega) only [umK]
        exact h4 k hk
