/-! chains of the reference -/
def pC (al : pu_A) (mu : pu_M) (i c : Nat) : Prop := al 16 i 0 = nI c ∧ mu 38 i = nI c ∧ c ≤ 17 ∧ ∀ k, k < c → mu 39 (4 * (20 * i + k)) = al 17 i k ∧ mu 39 (4 * (20 * i + k) + 1) = al 18 i k ∧ mu 39 (4 * (20 * i + k) + 2) = al 19 i k ∧ mu 39 (4 * (20 * i + k) + 3) = al 20 i k
def mPut (mu : pu_M) (i k : Nat) (a b c d : Int32) : pu_M := um (um (um (um mu 39 (4 * (20 * i + k)) a) 39 (4 * (20 * i + k) + 1) b) 39 (4 * (20 * i + k) + 2) c) 39 (4 * (20 * i + k) + 3) d
theorem r_put (mu : pu_M) (u : ts_Mem) (i k : Nat) (a b c d : Int32) (hi : i < 8) (hk : k < 20) : f_X7_put (nI i) (nI k) a b c d (ma mu u) = some (ma (mPut mu i k a b c d) u) := by
  unfold f_X7_put f_X7_place
  simp (disch := omega) only [li0, li1, li2, li3, li4, li5, li6, li7, li8, li9, li10, li16, li17, li20, li30, li32, li48, li49, li50, li57, li60, li126, li147, nI_add, nI_sb, pk_mul, nI_m1, inrT, leT, leF, ltT, ltF, eqT, eqF, n1lt, m1lt, m1neg, m1nle, m1le, m1a1, m1a2, m1s, m1s', nI_cl, ↓tl, ↓sb, sb, sel, ser, ↓reduceIte, if_true, if_false, true_or, or_true, false_or, or_false, umS, umK, umJ, uaS, uaK, uaI, uaJ, mg30, mg31, mg32, mg33, mg34, mg35, mg36, mg37, mg38, mg39, mg40, mg41, mg42, mg43, mg44, mg45, mg46, mg47, mg48, mg49, ms30, ms31, ms32, ms33, ms34, ms35, ms36, ms37, ms38, ms39, ms40, ms41, ms42, ms43, ms44, ms45, ms46, ms47, ms48, ms49]
  rfl
theorem mPut_k (mu : pu_M) (i k : Nat) (a b c d : Int32) {e : Nat} (j : Nat) (h : ¬ e = 39) : mPut mu i k a b c d e j = mu e j := by
  unfold mPut
  simp (disch := omega) only [umK]
theorem mPut_j (mu : pu_M) (i k : Nat) (a b c d : Int32) (j : Nat) (h : j < 4 * (20 * i + k) ∨ 4 * (20 * i + k) + 3 < j) : mPut mu i k a b c d 39 j = mu 39 j := by
  unfold mPut
  simp (disch := omega) only [umJ]
theorem mPut_0 (mu : pu_M) (i k : Nat) (a b c d : Int32) : mPut mu i k a b c d 39 (4 * (20 * i + k)) = a := by
  unfold mPut
  simp (disch := omega) only [umJ, umS]
theorem mPut_1 (mu : pu_M) (i k : Nat) (a b c d : Int32) : mPut mu i k a b c d 39 (4 * (20 * i + k) + 1) = b := by
  unfold mPut
  simp (disch := omega) only [umJ, umS]
theorem mPut_2 (mu : pu_M) (i k : Nat) (a b c d : Int32) : mPut mu i k a b c d 39 (4 * (20 * i + k) + 2) = c := by
  unfold mPut
  simp (disch := omega) only [umJ, umS]
theorem mPut_3 (mu : pu_M) (i k : Nat) (a b c d : Int32) : mPut mu i k a b c d 39 (4 * (20 * i + k) + 3) = d := by
  unfold mPut
  simp (disch := omega) only [umS]
theorem mPut_self (mu : pu_M) (i k : Nat) : mPut mu i k (mu 39 (4 * (20 * i + k))) (mu 39 (4 * (20 * i + k) + 1)) (mu 39 (4 * (20 * i + k) + 2)) (mu 39 (4 * (20 * i + k) + 3)) = mu := by
  funext e j
  by_cases he : e = 39
  · subst he
    by_cases h0 : j = 4 * (20 * i + k)
    · subst h0; exact mPut_0 ..
    · by_cases h1 : j = 4 * (20 * i + k) + 1
      · subst h1; exact mPut_1 ..
      · by_cases h2 : j = 4 * (20 * i + k) + 2
        · subst h2; exact mPut_2 ..
        · by_cases h3 : j = 4 * (20 * i + k) + 3
          · subst h3; exact mPut_3 ..
          · exact mPut_j _ _ _ _ _ _ _ _ (by omega)
  · exact mPut_k _ _ _ _ _ _ _ _ he
theorem r_lut_loop {al : pu_A} {mu : pu_M} (u : ts_Mem) {i c : Nat} (T : Int32) (hi : i < 8) (hC : pC al mu i c) : ∀ d j N, j + d = c → d < N → lp_X7_lastUpTo_5 (nI i) T (ma mu u) N (ixN (la (al 17 i) T j)) (nI j) = some (ixN (la (al 17 i) T c), nI c) := by
  obtain ⟨h1, h2, h3, h4⟩ := hC
  intro d
  induction d with
  | zero =>
    intro j N hj hN
    obtain ⟨N, rfl⟩ : ∃ b, N = b + 1 := ⟨N - 1, by omega⟩
    obtain rfl : j = c := by omega
    rw [lp_X7_lastUpTo_5]
    simp (disch := omega) only [li0, li1, li2, li3, li4, li5, li6, li7, li8, li9, li10, li16, li17, li20, li30, li32, li48, li49, li50, li57, li60, li126, li147, nI_add, nI_sb, pk_mul, nI_m1, inrT, leT, leF, ltT, ltF, eqT, eqF, n1lt, m1lt, m1neg, m1nle, m1le, m1a1, m1a2, m1s, m1s', nI_cl, ↓tl, ↓sb, sb, sel, ser, ↓reduceIte, if_true, if_false, true_or, or_true, false_or, or_false, umS, umK, umJ, uaS, uaK, uaI, uaJ, mg30, mg31, mg32, mg33, mg34, mg35, mg36, mg37, mg38, mg39, mg40, mg41, mg42, mg43, mg44, mg45, mg46, mg47, mg48, mg49, ms30, ms31, ms32, ms33, ms34, ms35, ms36, ms37, ms38, ms39, ms40, ms41, ms42, ms43, ms44, ms45, ms46, ms47, ms48, ms49, h2]
  | succ d ih =>
    intro j N hj hN
    obtain ⟨N, rfl⟩ : ∃ b, N = b + 1 := ⟨N - 1, by omega⟩
    rw [lp_X7_lastUpTo_5]
    unfold f_X7_written f_X7_place
    obtain ⟨g0, -⟩ := h4 j (by omega)
    have hl : la (al 17 i) T (j + 1) = if al 17 i j ≤ T then j + 1 else la (al 17 i) T j := rfl
    by_cases e : al 17 i j ≤ T
    · have e' : ¬ T < al 17 i j := Int32.not_lt.mpr e
      rw [if_pos e] at hl
      have ih' := ih (j + 1) N (by omega) (by omega)
      rw [hl] at ih'
      simp (disch := omega) only [li0, li1, li2, li3, li4, li5, li6, li7, li8, li9, li10, li16, li17, li20, li30, li32, li48, li49, li50, li57, li60, li126, li147, nI_add, nI_sb, pk_mul, nI_m1, inrT, leT, leF, ltT, ltF, eqT, eqF, n1lt, m1lt, m1neg, m1nle, m1le, m1a1, m1a2, m1s, m1s', nI_cl, ↓tl, ↓sb, sb, sel, ser, ↓reduceIte, if_true, if_false, true_or, or_true, false_or, or_false, umS, umK, umJ, uaS, uaK, uaI, uaJ, mg30, mg31, mg32, mg33, mg34, mg35, mg36, mg37, mg38, mg39, mg40, mg41, mg42, mg43, mg44, mg45, mg46, mg47, mg48, mg49, ms30, ms31, ms32, ms33, ms34, ms35, ms36, ms37, ms38, ms39, ms40, ms41, ms42, ms43, ms44, ms45, ms46, ms47, ms48, ms49, h2, g0, if_neg e']
      exact ih'
    · have e' : T < al 17 i j := Int32.not_le.mp e
      rw [if_neg e] at hl
      have ih' := ih (j + 1) N (by omega) (by omega)
      rw [hl] at ih'
      simp (disch := omega) only [li0, li1, li2, li3, li4, li5, li6, li7, li8, li9, li10, li16, li17, li20, li30, li32, li48, li49, li50, li57, li60, li126, li147, nI_add, nI_sb, pk_mul, nI_m1, inrT, leT, leF, ltT, ltF, eqT, eqF, n1lt, m1lt, m1neg, m1nle, m1le, m1a1, m1a2, m1s, m1s', nI_cl, ↓tl, ↓sb, sb, sel, ser, ↓reduceIte, if_true, if_false, true_or, or_true, false_or, or_false, umS, umK, umJ, uaS, uaK, uaI, uaJ, mg30, mg31, mg32, mg33, mg34, mg35, mg36, mg37, mg38, mg39, mg40, mg41, mg42, mg43, mg44, mg45, mg46, mg47, mg48, mg49, ms30, ms31, ms32, ms33, ms34, ms35, ms36, ms37, ms38, ms39, ms40, ms41, ms42, ms43, ms44, ms45, ms46, ms47, ms48, ms49, h2, g0, if_pos e']
      exact ih'
theorem r_lut {al : pu_A} {mu : pu_M} (u : ts_Mem) {i c : Nat} (T : Int32) (hi : i < 8) (hC : pC al mu i c) : f_X7_lastUpTo (nI i) T (ma mu u) = some (ixN (la (al 17 i) T c)) := by
  unfold f_X7_lastUpTo
  have h := r_lut_loop u T hi hC c 0 ts_fu (by omega) (by have := hC.2.2.1; unfold ts_fu; omega)
  rw [show (-1 : Int32) = ixN (la (al 17 i) T 0) from rfl, show (0 : Int32) = nI 0 from rfl, h]
  rfl
theorem r_wr {al : pu_A} {mu : pu_M} (u : ts_Mem) {i c k : Nat} (hi : i < 8) (hC : pC al mu i c) (hk : k < c) : f_X7_written (nI i) (nI k) (ma mu u) = some (al 17 i k) := by
  obtain ⟨h1, h2, h3, h4⟩ := hC
  unfold f_X7_written f_X7_place
  simp (disch := omega) only [li0, li1, li2, li3, li4, li5, li6, li7, li8, li9, li10, li16, li17, li20, li30, li32, li48, li49, li50, li57, li60, li126, li147, nI_add, nI_sb, pk_mul, nI_m1, inrT, leT, leF, ltT, ltF, eqT, eqF, n1lt, m1lt, m1neg, m1nle, m1le, m1a1, m1a2, m1s, m1s', nI_cl, ↓tl, ↓sb, sb, sel, ser, ↓reduceIte, if_true, if_false, true_or, or_true, false_or, or_false, umS, umK, umJ, uaS, uaK, uaI, uaJ, mg30, mg31, mg32, mg33, mg34, mg35, mg36, mg37, mg38, mg39, mg40, mg41, mg42, mg43, mg44, mg45, mg46, mg47, mg48, mg49, ms30, ms31, ms32, ms33, ms34, ms35, ms36, ms37, ms38, ms39, ms40, ms41, ms42, ms43, ms44, ms45, ms46, ms47, ms48, ms49, h4]
theorem r_ref_loop1 {al : pu_A} {mu : pu_M} (u : ts_Mem) {i c : Nat} (t : Nat) (hi : i < 8) (hC : pC al mu i c) : ∀ d j N, j + d = c → d < N → lp_X7_isRefused_83 (nI t) (nI i) (ma mu u) N 1 (nI j) = some (1, nI c) := by
  obtain ⟨h1, h2, h3, h4⟩ := hC
  intro d
  induction d with
  | zero =>
    intro j N hj hN
    obtain ⟨N, rfl⟩ : ∃ b, N = b + 1 := ⟨N - 1, by omega⟩
    obtain rfl : j = c := by omega
    rw [lp_X7_isRefused_83]
    simp (disch := omega) only [li0, li1, li2, li3, li4, li5, li6, li7, li8, li9, li10, li16, li17, li20, li30, li32, li48, li49, li50, li57, li60, li126, li147, nI_add, nI_sb, pk_mul, nI_m1, inrT, leT, leF, ltT, ltF, eqT, eqF, n1lt, m1lt, m1neg, m1nle, m1le, m1a1, m1a2, m1s, m1s', nI_cl, ↓tl, ↓sb, sb, sel, ser, ↓reduceIte, if_true, if_false, true_or, or_true, false_or, or_false, umS, umK, umJ, uaS, uaK, uaI, uaJ, mg30, mg31, mg32, mg33, mg34, mg35, mg36, mg37, mg38, mg39, mg40, mg41, mg42, mg43, mg44, mg45, mg46, mg47, mg48, mg49, ms30, ms31, ms32, ms33, ms34, ms35, ms36, ms37, ms38, ms39, ms40, ms41, ms42, ms43, ms44, ms45, ms46, ms47, ms48, ms49, h2]
  | succ d ih =>
    intro j N hj hN
    obtain ⟨N, rfl⟩ : ∃ b, N = b + 1 := ⟨N - 1, by omega⟩
    rw [lp_X7_isRefused_83]
    have ih' := ih (j + 1) N (by omega) (by omega)
    simp (disch := omega) only [li0, li1, li2, li3, li4, li5, li6, li7, li8, li9, li10, li16, li17, li20, li30, li32, li48, li49, li50, li57, li60, li126, li147, nI_add, nI_sb, pk_mul, nI_m1, inrT, leT, leF, ltT, ltF, eqT, eqF, n1lt, m1lt, m1neg, m1nle, m1le, m1a1, m1a2, m1s, m1s', nI_cl, ↓tl, ↓sb, sb, sel, ser, ↓reduceIte, if_true, if_false, true_or, or_true, false_or, or_false, umS, umK, umJ, uaS, uaK, uaI, uaJ, mg30, mg31, mg32, mg33, mg34, mg35, mg36, mg37, mg38, mg39, mg40, mg41, mg42, mg43, mg44, mg45, mg46, mg47, mg48, mg49, ms30, ms31, ms32, ms33, ms34, ms35, ms36, ms37, ms38, ms39, ms40, ms41, ms42, ms43, ms44, ms45, ms46, ms47, ms48, ms49, h2] at ih' ⊢
    exact ih'
theorem r_ref_loop {al : pu_A} {mu : pu_M} (u : ts_Mem) {i c t : Nat} (hi : i < 8) (ht : t < 16) (hC : pC al mu i c) : ∀ d j N, j + d = c → d < N → (lp_X7_isRefused_83 (nI t) (nI i) (ma mu u) N 0 (nI j) = some (0, nI c) ∧ ∀ k, j ≤ k → k < c → al 18 i k ≤ mu 32 t) ∨ (lp_X7_isRefused_83 (nI t) (nI i) (ma mu u) N 0 (nI j) = some (1, nI c) ∧ ∃ k, k < c ∧ ¬ al 18 i k ≤ mu 32 t) := by
  have hC' := hC
  obtain ⟨h1, h2, h3, h4⟩ := hC
  intro d
  induction d with
  | zero =>
    intro j N hj hN
    obtain ⟨N, rfl⟩ : ∃ b, N = b + 1 := ⟨N - 1, by omega⟩
    obtain rfl : j = c := by omega
    rw [lp_X7_isRefused_83]
    simp (disch := omega) only [li0, li1, li2, li3, li4, li5, li6, li7, li8, li9, li10, li16, li17, li20, li30, li32, li48, li49, li50, li57, li60, li126, li147, nI_add, nI_sb, pk_mul, nI_m1, inrT, leT, leF, ltT, ltF, eqT, eqF, n1lt, m1lt, m1neg, m1nle, m1le, m1a1, m1a2, m1s, m1s', nI_cl, ↓tl, ↓sb, sb, sel, ser, ↓reduceIte, if_true, if_false, true_or, or_true, false_or, or_false, umS, umK, umJ, uaS, uaK, uaI, uaJ, mg30, mg31, mg32, mg33, mg34, mg35, mg36, mg37, mg38, mg39, mg40, mg41, mg42, mg43, mg44, mg45, mg46, mg47, mg48, mg49, ms30, ms31, ms32, ms33, ms34, ms35, ms36, ms37, ms38, ms39, ms40, ms41, ms42, ms43, ms44, ms45, ms46, ms47, ms48, ms49, h2]
    exact Or.inl ⟨trivial, fun k h1 h2 => absurd h1 (by omega)⟩
  | succ d ih =>
    intro j N hj hN
    obtain ⟨N, rfl⟩ : ∃ b, N = b + 1 := ⟨N - 1, by omega⟩
    rw [lp_X7_isRefused_83]
    unfold f_X7_place
    obtain ⟨-, g1, -⟩ := h4 j (by omega)
    by_cases e : al 18 i j ≤ mu 32 t
    · have ih' := ih (j + 1) N (by omega) (by omega)
      simp (disch := omega) only [li0, li1, li2, li3, li4, li5, li6, li7, li8, li9, li10, li16, li17, li20, li30, li32, li48, li49, li50, li57, li60, li126, li147, nI_add, nI_sb, pk_mul, nI_m1, inrT, leT, leF, ltT, ltF, eqT, eqF, n1lt, m1lt, m1neg, m1nle, m1le, m1a1, m1a2, m1s, m1s', nI_cl, ↓tl, ↓sb, sb, sel, ser, ↓reduceIte, if_true, if_false, true_or, or_true, false_or, or_false, umS, umK, umJ, uaS, uaK, uaI, uaJ, mg30, mg31, mg32, mg33, mg34, mg35, mg36, mg37, mg38, mg39, mg40, mg41, mg42, mg43, mg44, mg45, mg46, mg47, mg48, mg49, ms30, ms31, ms32, ms33, ms34, ms35, ms36, ms37, ms38, ms39, ms40, ms41, ms42, ms43, ms44, ms45, ms46, ms47, ms48, ms49, h2, g1, if_pos e] at ih' ⊢
      rcases ih' with ⟨a, b⟩ | ⟨a, b⟩
      · refine Or.inl ⟨a, fun k h1 h2 => ?_⟩
        by_cases ek : k = j
        · subst ek; exact e
        · exact b k (by omega) h2
      · exact Or.inr ⟨a, b⟩
    · have ih' := r_ref_loop1 u t hi hC' d (j + 1) N (by omega) (by omega)
      simp (disch := omega) only [li0, li1, li2, li3, li4, li5, li6, li7, li8, li9, li10, li16, li17, li20, li30, li32, li48, li49, li50, li57, li60, li126, li147, nI_add, nI_sb, pk_mul, nI_m1, inrT, leT, leF, ltT, ltF, eqT, eqF, n1lt, m1lt, m1neg, m1nle, m1le, m1a1, m1a2, m1s, m1s', nI_cl, ↓tl, ↓sb, sb, sel, ser, ↓reduceIte, if_true, if_false, true_or, or_true, false_or, or_false, umS, umK, umJ, uaS, uaK, uaI, uaJ, mg30, mg31, mg32, mg33, mg34, mg35, mg36, mg37, mg38, mg39, mg40, mg41, mg42, mg43, mg44, mg45, mg46, mg47, mg48, mg49, ms30, ms31, ms32, ms33, ms34, ms35, ms36, ms37, ms38, ms39, ms40, ms41, ms42, ms43, ms44, ms45, ms46, ms47, ms48, ms49, h2, g1, if_neg e] at ih' ⊢
      exact Or.inr ⟨ih', j, by omega, e⟩
theorem r_tv1 {mu : pu_M} (u : ts_Mem) {i c r : Nat} (t : Int32) (hi : i < 8) (hm : mu 38 i = nI c) (h17 : c ≤ 17) (hr : r ≤ c) (hn : ∀ k, k < r → ¬ mu 39 (4 * (20 * i + k) + 3) = t) : ∀ d j N, j + d = r → d < N → lp_X7_takeVersions_13 t (nI i) N (nI j) (nI j) (ma mu u) = lp_X7_takeVersions_13 t (nI i) (N - d) (nI r) (nI r) (ma mu u) := by
  intro d
  induction d with
  | zero =>
    intro j N hj hN
    obtain rfl : j = r := by omega
    rfl
  | succ d ih =>
    intro j N hj hN
    obtain ⟨N, rfl⟩ : ∃ b, N = b + 1 := ⟨N - 1, by omega⟩
    rw [lp_X7_takeVersions_13]
    unfold f_X7_place
    have hp := r_put mu u i j (mu 39 (4 * (20 * i + j))) (mu 39 (4 * (20 * i + j) + 1)) (mu 39 (4 * (20 * i + j) + 2)) (mu 39 (4 * (20 * i + j) + 3)) hi (by omega)
    rw [mPut_self] at hp
    have ih' := ih (j + 1) N (by omega) (by omega)
    simp (disch := omega) only [li0, li1, li2, li3, li4, li5, li6, li7, li8, li9, li10, li16, li17, li20, li30, li32, li48, li49, li50, li57, li60, li126, li147, nI_add, nI_sb, pk_mul, nI_m1, inrT, leT, leF, ltT, ltF, eqT, eqF, n1lt, m1lt, m1neg, m1nle, m1le, m1a1, m1a2, m1s, m1s', nI_cl, ↓tl, ↓sb, sb, sel, ser, ↓reduceIte, if_true, if_false, true_or, or_true, false_or, or_false, umS, umK, umJ, uaS, uaK, uaI, uaJ, mg30, mg31, mg32, mg33, mg34, mg35, mg36, mg37, mg38, mg39, mg40, mg41, mg42, mg43, mg44, mg45, mg46, mg47, mg48, mg49, ms30, ms31, ms32, ms33, ms34, ms35, ms36, ms37, ms38, ms39, ms40, ms41, ms42, ms43, ms44, ms45, ms46, ms47, ms48, ms49, hm, if_neg (hn j (by omega)), hp]
    rw [ih', show N + 1 - (d + 1) = N - d by omega]
theorem r_tv2 {i c : Nat} (t : Int32) (hi : i < 8) (h17 : c ≤ 17) : ∀ d j N (mu : pu_M), j + d = c → d < N → 1 ≤ j → mu 38 i = nI c → (∀ k, j ≤ k → k < c → ¬ mu 39 (4 * (20 * i + k) + 3) = t) → ∃ mu', (∀ u, lp_X7_takeVersions_13 t (nI i) N (nI (j - 1)) (nI j) (ma mu u) = some (nI (c - 1), nI c, ma mu' u)) ∧ (∀ a b, ¬ a = 39 → mu' a b = mu a b) ∧ (∀ b, b < 80 * i ∨ 80 * i + 80 ≤ b → mu' 39 b = mu 39 b) ∧ (∀ k e, k < j - 1 → e < 4 → mu' 39 (4 * (20 * i + k) + e) = mu 39 (4 * (20 * i + k) + e)) ∧ (∀ k e, j - 1 ≤ k → k < c - 1 → e < 4 → mu' 39 (4 * (20 * i + k) + e) = mu 39 (4 * (20 * i + (k + 1)) + e)) := by
  intro d
  induction d with
  | zero =>
    intro j N mu hj hN hj1 hm hn
    obtain ⟨N, rfl⟩ : ∃ b, N = b + 1 := ⟨N - 1, by omega⟩
    obtain rfl : j = c := by omega
    exact ⟨mu, fun u => by
      rw [lp_X7_takeVersions_13]
      simp (disch := omega) only [li0, li1, li2, li3, li4, li5, li6, li7, li8, li9, li10, li16, li17, li20, li30, li32, li48, li49, li50, li57, li60, li126, li147, nI_add, nI_sb, pk_mul, nI_m1, inrT, leT, leF, ltT, ltF, eqT, eqF, n1lt, m1lt, m1neg, m1nle, m1le, m1a1, m1a2, m1s, m1s', nI_cl, ↓tl, ↓sb, sb, sel, ser, ↓reduceIte, if_true, if_false, true_or, or_true, false_or, or_false, umS, umK, umJ, uaS, uaK, uaI, uaJ, mg30, mg31, mg32, mg33, mg34, mg35, mg36, mg37, mg38, mg39, mg40, mg41, mg42, mg43, mg44, mg45, mg46, mg47, mg48, mg49, ms30, ms31, ms32, ms33, ms34, ms35, ms36, ms37, ms38, ms39, ms40, ms41, ms42, ms43, ms44, ms45, ms46, ms47, ms48, ms49, hm], fun _ _ _ => rfl, fun _ _ => rfl, fun _ _ _ _ => rfl, fun k e h1 h2 h3 => absurd h1 (by omega)⟩
  | succ d ih =>
    intro j N mu hj hN hj1 hm hn
    obtain ⟨N, rfl⟩ : ∃ b, N = b + 1 := ⟨N - 1, by omega⟩
    have hp := fun u => r_put mu u i (j - 1) (mu 39 (4 * (20 * i + j))) (mu 39 (4 * (20 * i + j) + 1)) (mu 39 (4 * (20 * i + j) + 2)) (mu 39 (4 * (20 * i + j) + 3)) hi (by omega)
    obtain ⟨mu', q0, q1, q2, q3, q4⟩ := ih (j + 1) N (mPut mu i (j - 1) (mu 39 (4 * (20 * i + j))) (mu 39 (4 * (20 * i + j) + 1)) (mu 39 (4 * (20 * i + j) + 2)) (mu 39 (4 * (20 * i + j) + 3))) (by omega) (by omega) (by omega) (by rw [mPut_k _ _ _ _ _ _ _ _ (by decide)]; exact hm) (fun k h1 h2 => by
      rw [mPut_j _ _ _ _ _ _ _ _ (by omega)]; exact hn k (by omega) h2)
    have k1 : j - 1 + 1 = j := by omega
    have k2 : j + 1 - 1 = j := by omega
    rw [k2] at q0 q3 q4
    refine ⟨mu', fun u => by
      rw [lp_X7_takeVersions_13]
      unfold f_X7_place
      simp (disch := omega) only [li0, li1, li2, li3, li4, li5, li6, li7, li8, li9, li10, li16, li17, li20, li30, li32, li48, li49, li50, li57, li60, li126, li147, nI_add, nI_sb, pk_mul, nI_m1, inrT, leT, leF, ltT, ltF, eqT, eqF, n1lt, m1lt, m1neg, m1nle, m1le, m1a1, m1a2, m1s, m1s', nI_cl, ↓tl, ↓sb, sb, sel, ser, ↓reduceIte, if_true, if_false, true_or, or_true, false_or, or_false, umS, umK, umJ, uaS, uaK, uaI, uaJ, mg30, mg31, mg32, mg33, mg34, mg35, mg36, mg37, mg38, mg39, mg40, mg41, mg42, mg43, mg44, mg45, mg46, mg47, mg48, mg49, ms30, ms31, ms32, ms33, ms34, ms35, ms36, ms37, ms38, ms39, ms40, ms41, ms42, ms43, ms44, ms45, ms46, ms47, ms48, ms49, hm, if_neg (hn j (by omega) (by omega)), hp, k1]
      exact q0 u, fun a b h => ?_, fun b h => ?_, fun k e h1 h2 => ?_, fun k e h1 h2 h3 => ?_⟩
    · rw [q1 a b h, mPut_k _ _ _ _ _ _ _ _ h]
    · rw [q2 b h, mPut_j _ _ _ _ _ _ _ _ (by omega)]
    · rw [q3 k e (by omega) h2, mPut_j _ _ _ _ _ _ _ _ (by omega)]
    · by_cases ek : k = j - 1
      · subst ek
        rw [q3 (j - 1) e (by omega) h3, k1]
        obtain rfl | rfl | rfl | rfl : e = 0 ∨ e = 1 ∨ e = 2 ∨ e = 3 := by omega
        · exact mPut_0 ..
        · exact mPut_1 ..
        · exact mPut_2 ..
        · exact mPut_3 ..
      · rw [q4 k e (by omega) h2 h3, mPut_j _ _ _ _ _ _ _ _ (by omega)]
