/-! snapshot and restore -/
def cpy (b0 b1 : Nat) (P : Nat → Nat → Nat → Bool) (u : ts_Mem) : ts_Mem := (fun id j => if id.2.1 = b0 ∧ P id.1 id.2.2 j = true then u.1 (id.1, b1, id.2.2) j else u.1 id j, u.2)
def pPt (P : Nat → Nat → Nat → Bool) (k i j : Nat) : Nat → Nat → Nat → Bool := fun a b c => P a b c || decide (a = k ∧ b = i ∧ c = j)
def pPn (P : Nat → Nat → Nat → Bool) (k i n : Nat) : Nat → Nat → Nat → Bool := fun a b c => P a b c || decide (a = k ∧ b = i ∧ c < n)
theorem cp_s {b0 b1 : Nat} (hb : ¬ b1 = b0) (P : Nat → Nat → Nat → Bool) (u : ts_Mem) (k i j : Nat) : ts_sI (cpy b0 b1 P u) (k, b0, i) j (ts_gI (cpy b0 b1 P u) (k, b1, i) j) = cpy b0 b1 (pPt P k i j) u := by
  unfold ts_sI ts_gI cpy pPt
  refine Prod.ext ?_ rfl
  funext id n
  obtain ⟨a, b, c⟩ := id
  simp only [Prod.mk.injEq, hb, false_and, if_false, Bool.or_eq_true, decide_eq_true_eq]
  by_cases e : (a = k ∧ b = b0 ∧ c = i) ∧ n = j
  · obtain ⟨⟨rfl, rfl, rfl⟩, rfl⟩ := e
    simp
  · rw [if_neg e]
    by_cases e2 : b = b0
    · subst e2
      by_cases e3 : P a c n = true
      · rw [if_pos ⟨rfl, e3⟩, if_pos ⟨rfl, Or.inl e3⟩]
      · rw [if_neg (fun q => e3 q.2), if_neg]
        rintro ⟨-, q | ⟨rfl, rfl, rfl⟩⟩
        · exact e3 q
        · exact e ⟨⟨rfl, rfl, rfl⟩, rfl⟩
    · rw [if_neg (fun q => e2 q.1), if_neg (fun q => e2 q.1)]
theorem cp_c {b0 b1 : Nat} (hb : ¬ b1 = b0) (P : Nat → Nat → Nat → Bool) (u : ts_Mem) (k i n : Nat) : ts_cI (cpy b0 b1 P u) (k, b1, i) (k, b0, i) 0 0 n = cpy b0 b1 (pPn P k i n) u := by
  unfold ts_cI cpy pPn va_cpy
  refine Prod.ext ?_ rfl
  funext id m
  obtain ⟨a, b, c⟩ := id
  simp only [Prod.mk.injEq, hb, false_and, if_false, Bool.or_eq_true, decide_eq_true_eq, Nat.zero_le, true_and, Nat.zero_add, Nat.sub_zero]
  by_cases e : a = k ∧ b = b0 ∧ c = i
  · obtain ⟨rfl, rfl, rfl⟩ := e
    by_cases e2 : m < n
    · simp [e2]
    · simp [e2]
  · rw [if_neg e]
    by_cases e2 : b = b0
    · subst e2
      by_cases e3 : P a c m = true
      · rw [if_pos ⟨rfl, e3⟩, if_pos ⟨rfl, Or.inl e3⟩]
      · rw [if_neg (fun q => e3 q.2), if_neg]
        rintro ⟨-, q | ⟨rfl, rfl, -⟩⟩
        · exact e3 q
        · exact e ⟨rfl, rfl, rfl⟩
    · rw [if_neg (fun q => e2 q.1), if_neg (fun q => e2 q.1)]
theorem pPt_iff (P : Nat → Nat → Nat → Bool) (k i j a b c : Nat) : pPt P k i j a b c = true ↔ P a b c = true ∨ (a = k ∧ b = i ∧ c = j) := by
  unfold pPt; rw [Bool.or_eq_true, decide_eq_true_eq]
theorem pPn_iff (P : Nat → Nat → Nat → Bool) (k i n a b c : Nat) : pPn P k i n a b c = true ↔ P a b c = true ∨ (a = k ∧ b = i ∧ c < n) := by
  unfold pPn; rw [Bool.or_eq_true, decide_eq_true_eq]
theorem cl0 : ((0 : Int32)).toNatClampNeg = 0 := rfl
theorem cl9 : ((9 : Int32)).toNatClampNeg = 9 := rfl
theorem cl17 : ((17 : Int32)).toNatClampNeg = 17 := rfl
theorem cl20 : ((20 : Int32)).toNatClampNeg = 20 := rfl
theorem cl50 : ((50 : Int32)).toNatClampNeg = 50 := rfl
theorem cT {b0 b1 : Nat} (hb : ¬ b1 = b0) (P : Nat → Nat → Nat → Bool) (i : Nat) : ∃ Q, (∀ u, f_X5_copyFrom b0 i b1 i (cpy b0 b1 P u) = some (cpy b0 b1 Q u)) ∧ ∀ a b c, Q a b c = true ↔ P a b c = true ∨ (b = i ∧ ((a = 11 ∧ c < 6) ∨ (12 ≤ a ∧ a ≤ 15 ∧ c < 20))) := by
  refine ⟨pPn (pPn (pPn (pPn (pPt (pPt (pPt (pPt (pPt (pPt P 11 i 0) 11 i 1) 11 i 2) 11 i 3) 11 i 4) 11 i 5) 12 i 20) 13 i 20) 14 i 20) 15 i 20, fun u => ?_, ?_⟩
  · unfold f_X5_copyFrom
    simp only [cl0, cl20, tl, cp_s hb, cp_c hb]
  · intro a b c
    simp only [pPt_iff, pPn_iff]
    constructor
    · rintro ((((((((((h | h) | h) | h) | h) | h) | h) | h) | h) | h) | h)
      · exact Or.inl h
      all_goals (right; omega)
    · rintro (h | h)
      · simp only [h, true_or]
      · by_cases hp : P a b c = true
        · simp only [hp, true_or]
        · simp only [hp, Bool.false_eq_true, false_or]
          omega
theorem cC {b0 b1 : Nat} (hb : ¬ b1 = b0) (P : Nat → Nat → Nat → Bool) (i : Nat) : ∃ Q, (∀ u, f_X1_copyFrom b0 i b1 i (cpy b0 b1 P u) = some (cpy b0 b1 Q u)) ∧ ∀ a b c, Q a b c = true ↔ P a b c = true ∨ (b = i ∧ ((a = 16 ∧ c = 0) ∨ (17 ≤ a ∧ a ≤ 20 ∧ c < 17))) := by
  refine ⟨pPn (pPn (pPn (pPn (pPt P 16 i 0) 17 i 17) 18 i 17) 19 i 17) 20 i 17, fun u => ?_, ?_⟩
  · unfold f_X1_copyFrom
    simp only [cl0, cl17, tl, cp_s hb, cp_c hb]
  · intro a b c
    simp only [pPt_iff, pPn_iff]
    constructor
    · rintro (((((h | h) | h) | h) | h) | h)
      · exact Or.inl h
      all_goals (right; omega)
    · rintro (h | h)
      · simp only [h, true_or]
      · by_cases hp : P a b c = true
        · simp only [hp, true_or]
        · simp only [hp, Bool.false_eq_true, false_or]
          omega
theorem cE {b0 b1 : Nat} (hb : ¬ b1 = b0) (P : Nat → Nat → Nat → Bool) : ∃ Q, (∀ u, f_X2_copyFrom b0 b1 (cpy b0 b1 P u) = some (cpy b0 b1 Q u)) ∧ ∀ a b c, Q a b c = true ↔ P a b c = true ∨ (b = 0 ∧ ((a = 4 ∧ c < 2) ∨ (7 ≤ a ∧ a ≤ 9 ∧ c < 50) ∨ (a = 10 ∧ c < 9))) := by
  refine ⟨pPn (pPn (pPn (pPn (pPt (pPt P 4 0 0) 4 0 1) 7 0 50) 8 0 50) 9 0 50) 10 0 9, fun u => ?_, ?_⟩
  · unfold f_X2_copyFrom
    simp only [cl0, cl50, cl9, tl, cp_s hb, cp_c hb]
  · intro a b c
    simp only [pPt_iff, pPn_iff]
    constructor
    · rintro ((((((h | h) | h) | h) | h) | h) | h)
      · exact Or.inl h
      all_goals (right; omega)
    · rintro (h | h)
      · simp only [h, true_or]
      · by_cases hp : P a b c = true
        · simp only [hp, true_or]
        · simp only [hp, Bool.false_eq_true, false_or]
          omega
theorem cT_loop {b0 b1 : Nat} (hb : ¬ b1 = b0) : ∀ d j (P : Nat → Nat → Nat → Bool), j + d = 16 → ∃ Q, (∀ u N, d < N → lp_X0_copyFrom_26 b0 b1 N (nI j) (cpy b0 b1 P u) = some (nI 16, cpy b0 b1 Q u)) ∧ ∀ a b c, Q a b c = true ↔ P a b c = true ∨ (j ≤ b ∧ b < 16 ∧ ((a = 11 ∧ c < 6) ∨ (12 ≤ a ∧ a ≤ 15 ∧ c < 20))) := by
  intro d
  induction d with
  | zero =>
    intro j P hj
    obtain rfl : j = 16 := by omega
    refine ⟨P, fun u N hN => ?_, fun a b c => ⟨Or.inl, fun q => q.elim id (fun q => absurd q.1 (by omega))⟩⟩
    obtain ⟨N, rfl⟩ : ∃ b, N = b + 1 := ⟨N - 1, by omega⟩
    rw [lp_X0_copyFrom_26]
    simp (disch := omega) only [li0, li1, li2, li3, li4, li5, li6, li7, li8, li9, li10, li16, li17, li20, li30, li32, li48, li49, li50, li57, li60, li126, li147, nI_add, nI_sb, pk_mul, nI_m1, inrT, leT, leF, ltT, ltF, eqT, eqF, n1lt, m1lt, m1neg, m1nle, m1le, m1a1, m1a2, m1s, m1s', nI_cl, ↓tl, ↓sb, sb, sel, ser, ↓reduceIte, if_true, if_false, true_or, or_true, false_or, or_false, umS, umK, umJ, uaS, uaK, uaI, uaJ]
  | succ d ih =>
    intro j P hj
    obtain ⟨Q1, q1, q2⟩ := cT hb P j
    obtain ⟨Q, q3, q4⟩ := ih (j + 1) Q1 (by omega)
    refine ⟨Q, fun u N hN => ?_, fun a b c => ?_⟩
    · obtain ⟨N, rfl⟩ : ∃ b, N = b + 1 := ⟨N - 1, by omega⟩
      have := q3 u N (by omega)
      rw [lp_X0_copyFrom_26]
      simp (disch := omega) only [li0, li1, li2, li3, li4, li5, li6, li7, li8, li9, li10, li16, li17, li20, li30, li32, li48, li49, li50, li57, li60, li126, li147, nI_add, nI_sb, pk_mul, nI_m1, inrT, leT, leF, ltT, ltF, eqT, eqF, n1lt, m1lt, m1neg, m1nle, m1le, m1a1, m1a2, m1s, m1s', nI_cl, ↓tl, ↓sb, sb, sel, ser, ↓reduceIte, if_true, if_false, true_or, or_true, false_or, or_false, umS, umK, umJ, uaS, uaK, uaI, uaJ, q1]
      exact this
    · rw [q4, q2]
      constructor
      · rintro ((h | h) | h)
        · exact Or.inl h
        · right; omega
        · right; omega
      · rintro (h | h)
        · exact Or.inl (Or.inl h)
        · by_cases e : b = j
          · exact Or.inl (Or.inr ⟨e, h.2.2⟩)
          · right; omega
theorem cC_loop {b0 b1 : Nat} (hb : ¬ b1 = b0) : ∀ d j (P : Nat → Nat → Nat → Bool), j + d = 8 → ∃ Q, (∀ u N, d < N → lp_X0_copyFrom_55 b0 b1 N (nI j) (cpy b0 b1 P u) = some (nI 8, cpy b0 b1 Q u)) ∧ ∀ a b c, Q a b c = true ↔ P a b c = true ∨ (j ≤ b ∧ b < 8 ∧ ((a = 16 ∧ c = 0) ∨ (17 ≤ a ∧ a ≤ 20 ∧ c < 17))) := by
  intro d
  induction d with
  | zero =>
    intro j P hj
    obtain rfl : j = 8 := by omega
    refine ⟨P, fun u N hN => ?_, fun a b c => ⟨Or.inl, fun q => q.elim id (fun q => absurd q.1 (by omega))⟩⟩
    obtain ⟨N, rfl⟩ : ∃ b, N = b + 1 := ⟨N - 1, by omega⟩
    rw [lp_X0_copyFrom_55]
    simp (disch := omega) only [li0, li1, li2, li3, li4, li5, li6, li7, li8, li9, li10, li16, li17, li20, li30, li32, li48, li49, li50, li57, li60, li126, li147, nI_add, nI_sb, pk_mul, nI_m1, inrT, leT, leF, ltT, ltF, eqT, eqF, n1lt, m1lt, m1neg, m1nle, m1le, m1a1, m1a2, m1s, m1s', nI_cl, ↓tl, ↓sb, sb, sel, ser, ↓reduceIte, if_true, if_false, true_or, or_true, false_or, or_false, umS, umK, umJ, uaS, uaK, uaI, uaJ]
  | succ d ih =>
    intro j P hj
    obtain ⟨Q1, q1, q2⟩ := cC hb P j
    obtain ⟨Q, q3, q4⟩ := ih (j + 1) Q1 (by omega)
    refine ⟨Q, fun u N hN => ?_, fun a b c => ?_⟩
    · obtain ⟨N, rfl⟩ : ∃ b, N = b + 1 := ⟨N - 1, by omega⟩
      have := q3 u N (by omega)
      rw [lp_X0_copyFrom_55]
      simp (disch := omega) only [li0, li1, li2, li3, li4, li5, li6, li7, li8, li9, li10, li16, li17, li20, li30, li32, li48, li49, li50, li57, li60, li126, li147, nI_add, nI_sb, pk_mul, nI_m1, inrT, leT, leF, ltT, ltF, eqT, eqF, n1lt, m1lt, m1neg, m1nle, m1le, m1a1, m1a2, m1s, m1s', nI_cl, ↓tl, ↓sb, sb, sel, ser, ↓reduceIte, if_true, if_false, true_or, or_true, false_or, or_false, umS, umK, umJ, uaS, uaK, uaI, uaJ, q1]
      exact this
    · rw [q4, q2]
      constructor
      · rintro ((h | h) | h)
        · exact Or.inl h
        · right; omega
        · right; omega
      · rintro (h | h)
        · exact Or.inl (Or.inl h)
        · by_cases e : b = j
          · exact Or.inl (Or.inr ⟨e, h.2.2⟩)
          · right; omega
def RR (a b c : Nat) : Prop := (a = 1 ∧ b = 0 ∧ c < 3) ∨ (b = 0 ∧ ((a = 4 ∧ c < 2) ∨ (7 ≤ a ∧ a ≤ 9 ∧ c < 50) ∨ (a = 10 ∧ c < 9))) ∨ (b < 16 ∧ ((a = 11 ∧ c < 6) ∨ (12 ≤ a ∧ a ≤ 15 ∧ c < 20))) ∨ (b < 8 ∧ ((a = 16 ∧ c = 0) ∨ (17 ≤ a ∧ a ≤ 20 ∧ c < 17)))
theorem cpF {b0 b1 : Nat} (hb : ¬ b1 = b0) : ∃ P, (∀ u, f_X0_copyFrom b0 b1 u = some (cpy b0 b1 P u)) ∧ ∀ a b c, P a b c = true ↔ RR a b c := by
  have h0 : ∀ u : ts_Mem, u = cpy b0 b1 (fun _ _ _ => false) u := fun u => by
    unfold cpy; simp
  obtain ⟨P1, p1, p2⟩ := cT_loop hb 16 0 (pPt (pPt (pPt (fun _ _ _ => false) 1 0 0) 1 0 1) 1 0 2) (by omega)
  obtain ⟨P2, p3, p4⟩ := cC_loop hb 8 0 P1 (by omega)
  obtain ⟨P3, p5, p6⟩ := cE hb P2
  refine ⟨P3, fun u => ?_, fun a b c => ?_⟩
  · unfold f_X0_copyFrom
    have e1 := p1 u ts_fu (by unfold ts_fu; omega)
    have e2 := p3 u ts_fu (by unfold ts_fu; omega)
    conv => lhs; rw [h0 u]
    simp only [tl, cp_s hb, li0, e1, e2, p5, sb]
  · rw [p6, p4, p2, pPt_iff, pPt_iff, pPt_iff]
    unfold RR
    simp only [Bool.false_eq_true, false_or]
    omega
/-- the relation sees these cells alone -/
def MM (a j : Nat) : Prop := (a = 30 ∧ (j = 1 ∨ j = 2 ∨ j = 3 ∨ j = 14)) ∨ (31 ≤ a ∧ a ≤ 35 ∧ j < 16) ∨ (a = 37 ∧ j < 16) ∨ (a = 36 ∧ j < 1280) ∨ (a = 38 ∧ j < 8) ∨ (a = 39 ∧ j < 640) ∨ (a = 40 ∧ j < 150) ∨ (a = 41 ∧ j < 9)
theorem pS_ag {al al' : pu_A} {mu mu' : pu_M} {p n nx : Nat} (h : pS al mu p n nx) (h1 : ∀ a b c, RR a b c → al' a b c = al a b c) (h2 : ∀ a j, MM a j → mu' a j = mu a j) : pS al' mu' p n nx := by
  obtain ⟨g, t, o, d, c, e⟩ := h
  have g10 : n ≤ 16 := g.2.2.2.2.2.2.2.2.2
  have r1 : ∀ c, c < 3 → al' 1 0 c = al 1 0 c := fun c h => h1 _ _ _ (by unfold RR; omega)
  have r11 : ∀ b c, b < 16 → c < 6 → al' 11 b c = al 11 b c := fun b c h q => h1 _ _ _ (by unfold RR; omega)
  have m30 : ∀ j, (j = 1 ∨ j = 2 ∨ j = 3 ∨ j = 14) → mu' 30 j = mu 30 j := fun j h => h2 _ _ (by unfold MM; omega)
  refine ⟨?_, fun s hs => ?_, fun s hs => ?_, fun s hs j hj => ?_, fun i hi => ?_, ?_⟩
  · unfold pG at g ⊢
    rw [r1 0 (by omega), r1 1 (by omega), r1 2 (by omega), m30 1 (by omega), m30 2 (by omega), m30 3 (by omega)]
    exact g
  · have := t s hs
    rw [r11 s 0 (by omega) (by omega), r11 s 1 (by omega) (by omega), r11 s 2 (by omega) (by omega), r11 s 3 (by omega) (by omega), h2 31 s (by unfold MM; omega), h2 32 s (by unfold MM; omega), h2 33 s (by unfold MM; omega), h2 34 s (by unfold MM; omega)]
    exact this
  · obtain ⟨q, o1, o2, o3, o4⟩ := o s hs
    refine ⟨q, o1, by rw [r11 s 5 (by omega) (by omega)]; exact o2, by rw [h2 35 s (by unfold MM; omega)]; exact o3, fun k hk => ?_⟩
    have := o4 k hk
    rw [h1 12 s k (by unfold RR; omega), h1 13 s k (by unfold RR; omega), h1 14 s k (by unfold RR; omega), h1 15 s k (by unfold RR; omega), h2 36 (4 * (20 * s + k)) (by unfold MM; omega), h2 36 (4 * (20 * s + k) + 1) (by unfold MM; omega), h2 36 (4 * (20 * s + k) + 2) (by unfold MM; omega), h2 36 (4 * (20 * s + k) + 3) (by unfold MM; omega)]
    exact this
  · obtain ⟨d1, d2⟩ := d s hs j hj
    rw [r11 s 4 (by omega) (by omega), h2 37 s (by unfold MM; omega)]
    refine ⟨?_, d2⟩
    by_cases ej : j < n
    · rw [r11 j 0 (by omega) (by omega)]; exact d1
    · constructor
      · intro q; exact absurd (d2 (d1.mp q).1) ej
      · intro q; exact absurd (d2 q.1) ej
  · obtain ⟨c', c1, c2⟩ := c i hi
    refine ⟨c', ?_, ?_⟩
    · obtain ⟨b1, b2, b3, b4⟩ := c1
      refine ⟨by rw [h1 16 i 0 (by unfold RR; omega)]; exact b1, by rw [h2 38 i (by unfold MM; omega)]; exact b2, b3, fun k hk => ?_⟩
      have := b4 k hk
      rw [h1 17 i k (by unfold RR; omega), h1 18 i k (by unfold RR; omega), h1 19 i k (by unfold RR; omega), h1 20 i k (by unfold RR; omega), h2 39 (4 * (20 * i + k)) (by unfold MM; omega), h2 39 (4 * (20 * i + k) + 1) (by unfold MM; omega), h2 39 (4 * (20 * i + k) + 2) (by unfold MM; omega), h2 39 (4 * (20 * i + k) + 3) (by unfold MM; omega)]
      exact this
    · have b3 := c1.2.2.1
      obtain ⟨w1, w2, w3, w4, w5⟩ := c2
      have r17 : ∀ k, k < c' → al' 17 i k = al 17 i k := fun k hk => h1 _ _ _ (by unfold RR; omega)
      have r20 : ∀ k, k < c' → al' 20 i k = al 20 i k := fun k hk => h1 _ _ _ (by unfold RR; omega)
      refine ⟨w1, fun k k' hk hk' => ?_, fun k hk => ?_, ?_, fun s hs hu => ?_⟩
      · rw [r17 k (by omega), r17 k' hk']; exact w2 k k' hk hk'
      · rw [r17 k hk, r20 k hk]
        rcases w3 k hk with q | ⟨w, q1, q2, q3, q4⟩
        · exact Or.inl q
        · exact Or.inr ⟨w, q1, q2, by rw [r11 w 1 (by omega) (by omega)]; exact q3, by rw [r11 w 0 (by omega) (by omega)]; exact q4⟩
      · rw [r20 0 (by omega)]
        rcases w4 with q | ⟨w, q1, q2, q3⟩
        · exact Or.inl q
        · exact Or.inr ⟨w, q1, q2, by rw [r11 w 0 (by omega) (by omega)]; exact q3⟩
      · rw [r17 0 (by omega), r11 s 1 (by omega) (by omega)]
        refine w5 s hs ?_
        unfold un at hu ⊢
        rw [r11 s 0 (by omega) (by omega)] at hu
        exact hu
  · obtain ⟨o', c', e1, e2, e3, e4, e5, e6, e7⟩ := e
    refine ⟨o', c', by rw [h1 4 0 0 (by unfold RR; omega)]; exact e1, by rw [h1 4 0 1 (by unfold RR; omega)]; exact e2, e3, e4, by rw [m30 14 (by omega)]; exact e5, fun i hi => ?_, fun k hk => ?_⟩
    · have := e6 i hi
      have hm : (o' + i) % 50 < 50 := Nat.mod_lt _ (by omega)
      rw [h1 7 0 _ (by unfold RR; omega), h1 8 0 _ (by unfold RR; omega), h1 9 0 _ (by unfold RR; omega), h2 40 (3 * i) (by unfold MM; omega), h2 40 (3 * i + 1) (by unfold MM; omega), h2 40 (3 * i + 2) (by unfold MM; omega)]
      exact this
    · rw [h1 10 0 k (by unfold RR; omega), h2 41 k (by unfold MM; omega)]
      exact e7 k hk
theorem pR_ag {al al' : pu_A} {mu : pu_M} {p n nx : Nat} (hS : pS al mu p n nx) (h : pR al n) (h1 : ∀ a b c, RR a b c → al' a b c = al a b c) : pR al' n := by
  have g10 : n ≤ 16 := hS.1.2.2.2.2.2.2.2.2.2
  have r11 : ∀ b c, b < 16 → c < 6 → al' 11 b c = al 11 b c := fun b c h q => h1 _ _ _ (by unfold RR; omega)
  intro s hs j hj hb
  rw [r11 s 4 (by omega) (by omega)] at hb
  have hj2 := (hS.2.2.2.1 s hs j hj).2 ((hS.2.2.2.1 s hs j hj).1.mp hb).1
  unfold un
  rw [r11 s 0 (by omega) (by omega), r11 j 0 (by omega) (by omega)]
  exact h s hs j hj hb
