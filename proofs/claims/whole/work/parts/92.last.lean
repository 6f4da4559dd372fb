/-! the last committed version up to a timestamp -/
def lf (f : Nat → Bool) : Nat → Nat
  | 0 => 0
  | n + 1 => if f n then n + 1 else lf f n
theorem lf_le (f : Nat → Bool) (n : Nat) : lf f n ≤ n := by
  induction n with
  | zero => exact Nat.le_refl _
  | succ n ih => unfold lf; split <;> omega
theorem lf_at (f : Nat → Bool) (n : Nat) : 1 ≤ lf f n → f (lf f n - 1) = true := by
  induction n with
  | zero => intro h; exact absurd (show 1 ≤ 0 from h) (by decide)
  | succ n ih =>
    unfold lf
    split
    · intro _; assumption
    · exact ih
theorem lf_congr {f g : Nat → Bool} {n : Nat} (h : ∀ k, k < n → f k = g k) : lf f n = lf g n := by
  induction n with
  | zero => rfl
  | succ n ih => unfold lf; rw [h n (by omega), ih (fun k hk => h k (by omega))]
theorem lf_cut {f : Nat → Bool} {m n : Nat} (hm : m ≤ n) (h : ∀ k, m ≤ k → k < n → f k = false) : lf f n = lf f m := by
  induction n with
  | zero => obtain rfl : m = 0 := by omega
            rfl
  | succ n ih =>
    by_cases e : m = n + 1
    · subst e; rfl
    · have : lf f (n + 1) = if f n then n + 1 else lf f n := rfl
      rw [this, h n (by omega) (by omega)]
      exact ih (by omega) (fun k h1 h2 => h k h1 (by omega))
theorem lf_pos {f : Nat → Bool} {n : Nat} (hn : 1 ≤ n) (h0 : f 0 = true) : 1 ≤ lf f n := by
  induction n with
  | zero => omega
  | succ n ih =>
    unfold lf
    split
    · omega
    · by_cases e : n = 0
      · subst e; rename_i h; exact absurd h0 h
      · exact ih (by omega)
theorem c_lc_loop {al : pu_A} {n i c : Nat} (u : ts_Mem) (T : Int32) (hnn : al 1 0 2 = nI n) (hn : n ≤ 16) (hc : c ≤ 17) (hW : pW al n i c) : ∀ m N, m ≤ c → m < N → lp_X0_lastCommittedAtMost_6 0 0 i T (ca al u) N (ixN m) = some (ixN (lf (fun k => !uwB al i k) m)) := by
  intro m
  induction m with
  | zero =>
    intro N _ hN
    obtain ⟨N, rfl⟩ : ∃ b, N = b + 1 := ⟨N - 1, by omega⟩
    rw [lp_X0_lastCommittedAtMost_6]
    exact if_pos (by decide)
  | succ m ih =>
    intro N hm hN
    obtain ⟨N, rfl⟩ : ∃ b, N = b + 1 := ⟨N - 1, by omega⟩
    have ix : ixN (m + 1) = nI m := rfl
    have i1 : nI m + (-nI 1) = ixN m := by
      by_cases e0 : m = 0
      · subst e0; decide
      · rw [ixN_p (by omega), nI_m1 (by omega)]
    have hu := fun u => c_uw (k := m) u hnn hn hW (by omega)
    rw [lp_X0_lastCommittedAtMost_6, ix, show lf (fun k => !uwB al i k) (m + 1) = if !uwB al i m then m + 1 else lf (fun k => !uwB al i k) m from rfl]
    cases e : uwB al i m
    · simp only [e, Bool.false_eq_true, if_false] at hu
      simp only [Bool.not_false, if_true]
      simp (disch := omega) only [li0, li1, li2, li3, li4, li5, li6, li7, li8, li9, li10, li16, li17, li20, li30, li32, li48, li49, li50, li57, li60, li126, li147, nI_add, nI_sb, pk_mul, nI_m1, inrT, leT, leF, ltT, ltF, eqT, eqF, n1lt, m1lt, m1neg, m1nle, m1le, m1a1, m1a2, m1s, m1s', nI_cl, ↓tl, ↓sb, sb, sel, ser, ↓reduceIte, if_true, if_false, true_or, or_true, false_or, or_false, umS, umK, umJ, uaS, uaK, uaI, uaJ, cg1, cg2, cg3, cg4, cg5, cg6, cg7, cg8, cg9, cg10, cg11, cg12, cg13, cg14, cg15, cg16, cg17, cg18, cg19, cg20, cs1, cs2, cs3, cs4, cs5, cs6, cs7, cs8, cs9, cs10, cs11, cs12, cs13, cs14, cs15, cs16, cs17, cs18, cs19, cs20, cc17, cc18, cc19, cc20, hu, ix]
    · simp only [e, if_true] at hu
      simp only [Bool.not_true, Bool.false_eq_true, if_false]
      rw [← ih N (by omega) (by omega), ← i1]
      simp (disch := omega) only [li0, li1, inrT, ltF, eqF, nI_cl, if_true, if_false, cg1, cg2, cg3, cg4, cg5, cg6, cg7, cg8, cg9, cg10, cg11, cg12, cg13, cg14, cg15, cg16, cg17, cg18, cg19, cg20, cs1, cs2, cs3, cs4, cs5, cs6, cs7, cs8, cs9, cs10, cs11, cs12, cs13, cs14, cs15, cs16, cs17, cs18, cs19, cs20, cc17, cc18, cc19, cc20, hu, sb]
theorem r_lc_loop {al : pu_A} {mu : pu_M} {p n nx i c : Nat} (u : ts_Mem) (T : Int32) (hS : pS al mu p n nx) (hi : i < 8) (hC : pC al mu i c) (hW : pW al n i c) : ∀ d j N, j + d = c → d < N → lp_X7_lastCommitted_5 (nI i) T (ma mu u) N (ixN (lf (fun k => !uwB al i k && decide (al 17 i k ≤ T)) j)) (nI j) = some (ixN (lf (fun k => !uwB al i k && decide (al 17 i k ≤ T)) c), nI c) := by
  have d2 := hC.2.1
  have d3 := hC.2.2.1
  intro d
  induction d with
  | zero =>
    intro j N hj hN
    obtain ⟨N, rfl⟩ : ∃ b, N = b + 1 := ⟨N - 1, by omega⟩
    obtain rfl : j = c := by omega
    rw [lp_X7_lastCommitted_5]
    simp (disch := omega) only [li0, li1, li2, li3, li4, li5, li6, li7, li8, li9, li10, li16, li17, li20, li30, li32, li48, li49, li50, li57, li60, li126, li147, nI_add, nI_sb, pk_mul, nI_m1, inrT, leT, leF, ltT, ltF, eqT, eqF, n1lt, m1lt, m1neg, m1nle, m1le, m1a1, m1a2, m1s, m1s', nI_cl, ↓tl, ↓sb, sb, sel, ser, ↓reduceIte, if_true, if_false, true_or, or_true, false_or, or_false, umS, umK, umJ, uaS, uaK, uaI, uaJ, mg30, mg31, mg32, mg33, mg34, mg35, mg36, mg37, mg38, mg39, mg40, mg41, mg42, mg43, mg44, mg45, mg46, mg47, mg48, mg49, ms30, ms31, ms32, ms33, ms34, ms35, ms36, ms37, ms38, ms39, ms40, ms41, ms42, ms43, ms44, ms45, ms46, ms47, ms48, ms49, d2]
  | succ d ih =>
    intro j N hj hN
    obtain ⟨N, rfl⟩ : ∃ b, N = b + 1 := ⟨N - 1, by omega⟩
    have hl : lf (fun k => !uwB al i k && decide (al 17 i k ≤ T)) (j + 1) = if (!uwB al i j && decide (al 17 i j ≤ T)) then j + 1 else lf (fun k => !uwB al i k && decide (al 17 i k ≤ T)) j := rfl
    have ih' := ih (j + 1) N (by omega) (by omega)
    have hcm := r_cm (k := j) u hS hi hC hW (by omega)
    have hw := r_wr u hi hC (show j < c by omega)
    rw [lp_X7_lastCommitted_5]
    rw [hl] at ih'
    cases e : uwB al i j
    · simp only [e, Bool.false_eq_true, if_false] at hcm
      by_cases e2 : al 17 i j ≤ T
      · have e2' : ¬ T < al 17 i j := Int32.not_lt.mpr e2
        simp only [e, e2, Bool.not_false, decide_true, Bool.true_and, if_true] at ih'
        simp (disch := omega) only [li0, li1, li2, li3, li4, li5, li6, li7, li8, li9, li10, li16, li17, li20, li30, li32, li48, li49, li50, li57, li60, li126, li147, nI_add, nI_sb, pk_mul, nI_m1, inrT, leT, leF, ltT, ltF, eqT, eqF, n1lt, m1lt, m1neg, m1nle, m1le, m1a1, m1a2, m1s, m1s', nI_cl, ↓tl, ↓sb, sb, sel, ser, ↓reduceIte, if_true, if_false, true_or, or_true, false_or, or_false, umS, umK, umJ, uaS, uaK, uaI, uaJ, mg30, mg31, mg32, mg33, mg34, mg35, mg36, mg37, mg38, mg39, mg40, mg41, mg42, mg43, mg44, mg45, mg46, mg47, mg48, mg49, ms30, ms31, ms32, ms33, ms34, ms35, ms36, ms37, ms38, ms39, ms40, ms41, ms42, ms43, ms44, ms45, ms46, ms47, ms48, ms49, d2, hcm, hw, if_neg e2']
        exact ih'
      · have e2' : T < al 17 i j := Int32.not_le.mp e2
        simp only [e, e2, Bool.not_false, decide_false, Bool.and_false, Bool.false_eq_true, if_false] at ih'
        simp (disch := omega) only [li0, li1, li2, li3, li4, li5, li6, li7, li8, li9, li10, li16, li17, li20, li30, li32, li48, li49, li50, li57, li60, li126, li147, nI_add, nI_sb, pk_mul, nI_m1, inrT, leT, leF, ltT, ltF, eqT, eqF, n1lt, m1lt, m1neg, m1nle, m1le, m1a1, m1a2, m1s, m1s', nI_cl, ↓tl, ↓sb, sb, sel, ser, ↓reduceIte, if_true, if_false, true_or, or_true, false_or, or_false, umS, umK, umJ, uaS, uaK, uaI, uaJ, mg30, mg31, mg32, mg33, mg34, mg35, mg36, mg37, mg38, mg39, mg40, mg41, mg42, mg43, mg44, mg45, mg46, mg47, mg48, mg49, ms30, ms31, ms32, ms33, ms34, ms35, ms36, ms37, ms38, ms39, ms40, ms41, ms42, ms43, ms44, ms45, ms46, ms47, ms48, ms49, d2, hcm, hw, if_pos e2']
        exact ih'
    · simp only [e, if_true] at hcm
      simp only [e, Bool.not_true, Bool.false_and, Bool.false_eq_true, if_false] at ih'
      simp (disch := omega) only [li0, li1, li2, li3, li4, li5, li6, li7, li8, li9, li10, li16, li17, li20, li30, li32, li48, li49, li50, li57, li60, li126, li147, nI_add, nI_sb, pk_mul, nI_m1, inrT, leT, leF, ltT, ltF, eqT, eqF, n1lt, m1lt, m1neg, m1nle, m1le, m1a1, m1a2, m1s, m1s', nI_cl, ↓tl, ↓sb, sb, sel, ser, ↓reduceIte, if_true, if_false, true_or, or_true, false_or, or_false, umS, umK, umJ, uaS, uaK, uaI, uaJ, mg30, mg31, mg32, mg33, mg34, mg35, mg36, mg37, mg38, mg39, mg40, mg41, mg42, mg43, mg44, mg45, mg46, mg47, mg48, mg49, ms30, ms31, ms32, ms33, ms34, ms35, ms36, ms37, ms38, ms39, ms40, ms41, ms42, ms43, ms44, ms45, ms46, ms47, ms48, ms49, d2, hcm]
      exact ih'
theorem lcm {al : pu_A} {mu : pu_M} {p n nx i c : Nat} (T : Int32) (hS : pS al mu p n nx) (hi : i < 8) (hC : pC al mu i c) (hW : pW al n i c) : ∃ m, m ≤ c ∧ (∀ u, f_X0_lastCommittedAtMost 0 0 i T (ca al u) = some (ixN m)) ∧ (∀ u, f_X7_lastCommitted (nI i) T (ma mu u) = some (ixN m)) ∧ (1 ≤ m → uwB al i (m - 1) = false ∧ al 17 i (m - 1) ≤ T) ∧ (al 17 i 0 ≤ T → 1 ≤ m) := by
  have g10 : n ≤ 16 := hS.1.2.2.2.2.2.2.2.2.2
  have g8 : al 1 0 2 = nI n := hS.1.2.2.2.2.2.2.2.1
  have d1 := hC.1
  have d3 := hC.2.2.1
  have hml := la_le (al 17 i) T c
  have hmat := la_at (al 17 i) T c
  have hmgt := la_gt (al 17 i) T c
  have eq : lf (fun k => !uwB al i k && decide (al 17 i k ≤ T)) c = lf (fun k => !uwB al i k) (la (al 17 i) T c) := by
    rw [lf_cut hml (fun k h1 h2 => by simp [hmgt k h1 h2])]
    apply lf_congr
    intro k hk
    have : al 17 i k ≤ T := by
      have h1 := hmat (by omega)
      rw [Int32.le_iff_toInt_le] at h1 ⊢
      by_cases e : k = la (al 17 i) T c - 1
      · rw [e]; exact h1
      · have := hW.2.1 k (la (al 17 i) T c - 1) (by omega) (by omega); omega
    simp [this]
  refine ⟨lf (fun k => !uwB al i k && decide (al 17 i k ≤ T)) c, lf_le _ _, fun u => ?_, fun u => ?_, fun h => ?_, fun h => ?_⟩
  · unfold f_X0_lastCommittedAtMost
    rw [c_la al u i c T d1 d3, sb, c_lc_loop u T g8 g10 d3 hW _ ts_fu hml (by unfold ts_fu; omega), sb, eq]
  · unfold f_X7_lastCommitted
    have := r_lc_loop u T hS hi hC hW c 0 ts_fu (by omega) (by unfold ts_fu; omega)
    rw [show (-1 : Int32) = ixN (lf (fun k => !uwB al i k && decide (al 17 i k ≤ T)) 0) from rfl, show (0 : Int32) = nI 0 from rfl, this]
    rfl
  · have := lf_at _ _ h
    simpa using this
  · apply lf_pos hW.1
    have : uwB al i 0 = false := by
      unfold uwB
      rcases hW.2.2.2.1 with a | ⟨w, b1, b2, b3⟩
      · rw [a]; simp
      · rw [b2, nI_cl (by omega)]
        have : unB al w = false := unB_f.mpr (fun q => un_ne2 q b3)
        rw [this]; simp
    simp [this, h]
