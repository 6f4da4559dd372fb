/-! rows: floats of the memory named fo -/
abbrev pu_F : Type := Nat → Nat → Nat → UInt32
def cf (fo : pu_F) (u : ts_Mem) : ts_Mem := (u.1, fun id j => if id.2.1 = 0 then fo id.1 id.2.2 j else u.2.1 id j, u.2.2)
def uf (fo : pu_F) (k i j : Nat) (x : UInt32) : pu_F := fun a b c => if a = k ∧ b = i ∧ c = j then x else fo a b c
theorem ca_cf (al : pu_A) (fo : pu_F) (u : ts_Mem) : ca al (cf fo u) = cf fo (ca al u) := rfl
theorem cb_cf (be : pu_A) (fo : pu_F) (u : ts_Mem) : cb be (cf fo u) = cf fo (cb be u) := rfl
theorem ma_cf (mu : pu_M) (fo : pu_F) (u : ts_Mem) : ma mu (cf fo u) = cf fo (ma mu u) := rfl
theorem fg (fo : pu_F) (u : ts_Mem) (k i j : Nat) : ts_gF (cf fo u) (k, 0, i) j = fo k i j := by
  simp [ts_gF, cf]
theorem fs (fo : pu_F) (u : ts_Mem) (k i j : Nat) (x : UInt32) : ts_sF (cf fo u) (k, 0, i) j x = cf (uf fo k i j x) u := by
  unfold ts_sF cf uf
  refine Prod.ext rfl (Prod.ext ?_ rfl)
  funext id n
  obtain ⟨a, b, c⟩ := id
  simp only [Prod.mk.injEq]
  by_cases e : (a = k ∧ b = 0 ∧ c = i) ∧ n = j
  · obtain ⟨⟨rfl, rfl, rfl⟩, rfl⟩ := e
    simp
  · rw [if_neg e]
    by_cases e2 : b = 0
    · rw [if_pos e2, if_pos e2, if_neg]
      rintro ⟨rfl, rfl, rfl⟩
      exact e ⟨⟨rfl, e2, rfl⟩, rfl⟩
    · rw [if_neg e2, if_neg e2]
def pf2 (fo : pu_F) (k i1 i2 n : Nat) : pu_F := fun a b c => if a = k ∧ b = i2 ∧ c < n then fo k i1 c else fo a b c
theorem fc (fo : pu_F) (u : ts_Mem) (k i1 i2 n : Nat) : ts_cF (cf fo u) (k, 0, i1) (k, 0, i2) 0 0 n = cf (pf2 fo k i1 i2 n) u := by
  unfold ts_cF cf pf2 va_cpy
  refine Prod.ext rfl (Prod.ext ?_ rfl)
  funext id m
  obtain ⟨a, b, c⟩ := id
  simp only [Prod.mk.injEq, if_true]
  by_cases e : a = k ∧ b = 0 ∧ c = i2
  · obtain ⟨rfl, rfl, rfl⟩ := e
    simp
  · rw [if_neg e]
    by_cases e2 : b = 0
    · rw [if_pos e2, if_pos e2, if_neg]
      rintro ⟨rfl, rfl, -⟩
      exact e ⟨rfl, e2, rfl⟩
    · rw [if_neg e2, if_neg e2]
theorem cf_self (u : ts_Mem) : cf (fun k i j => ts_gF u (k, 0, i) j) u = u := by
  unfold cf
  refine Prod.ext rfl (Prod.ext ?_ rfl)
  funext id n
  obtain ⟨a, b, c⟩ := id
  by_cases e : b = 0
  · subst e; rfl
  · simp only [if_neg e]
theorem ufS (fo : pu_F) (k i j : Nat) (x : UInt32) : uf fo k i j x k i j = x := if_pos ⟨rfl, rfl, rfl⟩
theorem uf_o (fo : pu_F) {k i j a b c : Nat} (x : UInt32) (h : ¬ (a = k ∧ b = i ∧ c = j)) : uf fo k i j x a b c = fo a b c := if_neg h
theorem cf_sI (fo : pu_F) (u : ts_Mem) (i : ts_I) (j : Nat) (x : Int32) : ts_sI (cf fo u) i j x = cf fo (ts_sI u i j x) := rfl
theorem cf_J (fo : pu_F) (u : ts_Mem) (i : ts_I) (j : Nat) (x : Int64) : ts_sJ (cf fo u) i j x = cf fo (ts_sJ u i j x) := rfl
theorem cf_D (fo : pu_F) (u : ts_Mem) (i : ts_I) (j : Nat) (x : UInt64) : ts_sD (cf fo u) i j x = cf fo (ts_sD u i j x) := rfl
/-- rows of both sides, by name -/
def pY (be : pu_A) (mu : pu_M) (fo : pu_F) : Prop := ∀ s, s < 3 → (∃ l, l ≤ 30 ∧ be 27 s 1 = nI l ∧ mu 46 s = nI l) ∧ be 27 s 0 = mu 45 s ∧ (mu 45 s = -nI 1 ∨ mu 45 s = nI 0 ∨ mu 45 s = nI 1) ∧ ∀ k, k < 30 → be 29 s k = mu 47 (30 * s + k) ∧ fo 28 s k = fo 48 0 (30 * s + k) ∧ FP.fIsNaN (fo 48 0 (30 * s + k)) = false
theorem pY_X {be : pu_A} {mu : pu_M} {fo : pu_F} {v : ts_Mem} (h : pY be mu fo) : pXr be mu (cf fo v) := by
  unfold pXr
  simp only [fg]
  exact h
theorem pX_Y {be : pu_A} {mu : pu_M} {v : ts_Mem} (h : pXr be mu v) : pY be mu (fun k i j => ts_gF v (k, 0, i) j) := h
/-- frames of the calls over rows -/
def fB (be be' : pu_A) : Prop := ∀ a b j, ¬ (26 < a ∧ a < 30) → be' a b j = be a b j
def fM (mu mu' : pu_M) : Prop := ∀ a j, ¬ (44 < a ∧ a < 48) → ¬ (a = 30 ∧ j = 0) → mu' a j = mu a j
theorem pX_y {be be' : pu_A} {mu mu' : pu_M} {v : ts_Mem} {fo : pu_F} {K K' : Nat} (h : pX be mu v K) (h1 : fB be be') (h2 : fM mu mu') (hY : pY be' mu' fo) (hK : K ≤ K') : pX be' mu' (cf fo v) K' := by
  obtain ⟨a1, -, a3⟩ := h
  refine ⟨?_, pY_X hY, ?_⟩
  · unfold pXp at a1 ⊢
    rw [h1 21 0 0 (by omega), h1 0 0 4 (by omega), h2 30 20 (by omega) (by omega), h2 30 24 (by omega) (by omega)]
    have e1 := fun j => h1 22 0 j (by omega)
    have e2 := fun j => h2 42 j (by omega) (by omega)
    simp only [e1, e2]
    exact a1
  · unfold pXs pKp at a3 ⊢
    rw [h1 0 0 2 (by omega), h2 30 33 (by omega) (by omega)]
    have e2 := fun j => h2 49 j (by omega) (by omega)
    simp only [e2]
    obtain ⟨x1, x2⟩ := a3
    refine ⟨x1, ?_⟩
    rcases x2 with b | ⟨b, mk, p, n, nx, c1, c2, c3, c4⟩
    · exact Or.inl b
    · exact Or.inr ⟨b, mk, p, n, nx, c1, c2, c3, by omega⟩
theorem pS_y {al : pu_A} {mu mu' : pu_M} {p n nx : Nat} (h : pS al mu p n nx) (h2 : fM mu mu') : pS al mu' p n nx := pS_mu h (fun a j q => h2 a j (by omega) (by omega))
theorem msF_ok {al be be' : pu_A} {mu mu' : pu_M} {f1 f2 : pu_F} {v : ts_Mem} {p n nx K : Nat} {r : Int32} {fl fr : ts_Mem → Option (Int32 × ts_Mem)} (h1 : ∀ w, fl (ca al (cb be (cf (fun k i j => ts_gF v (k, 0, i) j) w))) = some (nI 0, ts_sJ (ca al (cb be' (cf f1 w))) (50, 0, 0) 0 r.toInt64)) (h2 : ∀ w, fr (ma mu (cf f1 w)) = some (r, ma mu' (cf f2 w))) (h0 : mu' 30 0 = nI 0) (hS : pS al mu' p n nx) (hR : pR al n) (hn : nx ≤ K) (hX : pX be' mu' (cf f2 v) K) : ∃ u2, law1 (fl (ca al (cb be (ma mu v)))) fr = some u2 ∧ Z u2 K := by
  refine ⟨ca al (cb be' (ma mu' (cf f2 (ts_sJ v (50, 0, 0) 0 r.toInt64)))), ?_, al, be', mu', cf f2 (ts_sJ v (50, 0, 0) 0 r.toInt64), p, n, nx, rfl, hS, hR, hn, hX⟩
  refine law1_ok (r := r) (w1 := ts_sJ (ca al (cb be' (cf f1 (ma mu v)))) (50, 0, 0) 0 r.toInt64) ?_ ?_ ?_ ?_
  · rw [← h1 (ma mu v), ← ma_cf, cf_self]
  · rw [ca_J, cb_J, cf_J, ma_J, ← ma_cf, mm, cb_cf, ca_cf, h2, ← ca_cf, ← cb_cf, ← mm]
  · rw [mm, mg30, h0]
  · show ts_gJ (ts_sJ v (50, 0, 0) 0 r.toInt64) (50, 0, 0) 0 = r.toInt64
    simp [ts_gJ, ts_sJ]
theorem msF_th {al be be' : pu_A} {mu mu' : pu_M} {f1 f2 : pu_F} {v : ts_Mem} {p n nx K c : Nat} {x : Int32} {fl fr : ts_Mem → Option (Int32 × ts_Mem)} (h1 : ∀ w, fl (ca al (cb be (cf (fun k i j => ts_gF v (k, 0, i) j) w))) = some (nI c, ca al (cb be' (cf f1 w)))) (hc : 1 ≤ c) (hc2 : c ≤ 9) (h2 : ∀ w, fr (ma mu (cf f1 w)) = some (x, ma mu' (cf f2 w))) (h0 : mu' 30 0 = nI c) (hS : pS al mu' p n nx) (hR : pR al n) (hn : nx ≤ K) (hX : pX be' mu' (cf f2 v) K) : ∃ u2, law1 (fl (ca al (cb be (ma mu v)))) fr = some u2 ∧ Z u2 K := by
  refine ⟨ca al (cb be' (ma mu' (cf f2 v))), ?_, al, be', mu', cf f2 v, p, n, nx, rfl, hS, hR, hn, hX⟩
  refine law1_th (x := x) (c := nI c) (w1 := ca al (cb be' (cf f1 (ma mu v)))) ?_ (fun q => ?_) ?_ ?_
  · rw [← h1 (ma mu v), ← ma_cf, cf_self]
  · exact absurd ((nI_eq (b := 0) (by omega) (by omega)).mp q) (by omega)
  · rw [← ma_cf, mm, cb_cf, ca_cf, h2, ← ca_cf, ← cb_cf, ← mm]
  · rw [mm, mg30, h0]
-- the loops
theorem mn_loop {s : Nat} (al : pu_A) (c1 c2 : Int32) : ∀ d j (be : pu_A) (fo : pu_F), j + d = 30 → ∃ be' fo', (∀ w N, d < N → lp_X4_makeNew_12 s c1 c2 N (nI j) (ca al (cb be (cf fo w))) = some (nI 30, ca al (cb be' (cf fo' w)))) ∧ (∀ k, j ≤ k → k < 30 → be' 29 s k = nI 0 ∧ fo' 28 s k = 0) ∧ (∀ a b x, ¬ (a = 29 ∧ b = s ∧ j ≤ x) → be' a b x = be a b x) ∧ (∀ a b x, ¬ (a = 28 ∧ b = s ∧ j ≤ x) → fo' a b x = fo a b x) := by
  intro d
  induction d with
  | zero =>
    intro j be fo hj
    obtain rfl : j = 30 := by omega
    refine ⟨be, fo, fun w N hN => ?_, fun k h1 h2 => absurd h1 (by omega), fun _ _ _ _ => rfl, fun _ _ _ _ => rfl⟩
    obtain ⟨N, rfl⟩ : ∃ b, N = b + 1 := ⟨N - 1, by omega⟩
    rw [lp_X4_makeNew_12]
    simp (disch := omega) only [li0, li1, li2, li3, li4, li5, li6, li7, li8, li9, li10, li16, li17, li20, li30, li32, li48, li49, li50, li57, li60, li126, li147, nI_add, nI_sb, pk_mul, nI_m1, inrT, leT, leF, ltT, ltF, eqT, eqF, n1lt, m1lt, m1neg, m1nle, m1le, m1a1, m1a2, m1s, m1s', nI_cl, ↓tl, ↓sb, sb, sel, ser, ↓reduceIte, if_true, if_false, true_or, or_true, false_or, or_false, umS, umK, umJ, uaS, uaK, uaI, uaJ]
  | succ d ih =>
    intro j be fo hj
    obtain ⟨be', fo', q1, q2, q3, q4⟩ := ih (j + 1) (ua be 29 s j (nI 0)) (uf fo 28 s j 0) (by omega)
    refine ⟨be', fo', fun w N hN => ?_, fun k h1 h2 => ?_, fun a b x h => ?_, fun a b x h => ?_⟩
    · obtain ⟨N, rfl⟩ : ∃ b, N = b + 1 := ⟨N - 1, by omega⟩
      have := q1 w N (by omega)
      rw [lp_X4_makeNew_12]
      simp (disch := omega) only [li0, li1, li2, li3, li4, li5, li6, li7, li8, li9, li10, li16, li17, li20, li30, li32, li48, li49, li50, li57, li60, li126, li147, nI_add, nI_sb, pk_mul, nI_m1, inrT, leT, leF, ltT, ltF, eqT, eqF, n1lt, m1lt, m1neg, m1nle, m1le, m1a1, m1a2, m1s, m1s', nI_cl, ↓tl, ↓sb, sb, sel, ser, ↓reduceIte, if_true, if_false, true_or, or_true, false_or, or_false, umS, umK, umJ, uaS, uaK, uaI, uaJ, ca_F, cb_F, fs, xg0, xs0, xg21, xs21, xg22, xs22, xg23, xs23, xg24, xs24, xg25, xs25, xg26, xs26, xg27, xs27, xg28, xs28, xg29, xs29, bg0, bs0, bg21, bs21, bg22, bs22, bg23, bs23, bg24, bs24, bg25, bs25, bg26, bs26, bg27, bs27, bg28, bs28, bg29, bs29]
      exact this
    · by_cases e : k = j
      · subst e
        rw [q3 _ _ _ (by omega), q4 _ _ _ (by omega), uaS, ufS]
        exact ⟨rfl, rfl⟩
      · exact q2 k (by omega) h2
    · rw [q3 a b x (by omega)]; unfold ua; rw [if_neg (by omega)]
    · rw [q4 a b x (by omega)]; exact uf_o _ _ (by omega)
theorem ra_loop {s : Nat} (hs : s < 3) (c2 c3 : Int32) : ∀ d j (mu : pu_M) (fo : pu_F), j + d = 30 → ∃ mu' fo', (∀ w N, d < N → lp_X7_allocate_63 (nI s) c2 c3 N (nI j) (ma mu (cf fo w)) = some (nI 30, ma mu' (cf fo' w))) ∧ (∀ k, j ≤ k → k < 30 → mu' 47 (30 * s + k) = nI 0 ∧ fo' 48 0 (30 * s + k) = 0) ∧ (∀ a x, ¬ (a = 47 ∧ 30 * s + j ≤ x ∧ x < 30 * s + 30) → mu' a x = mu a x) ∧ (∀ a b x, ¬ (a = 48 ∧ b = 0 ∧ 30 * s + j ≤ x ∧ x < 30 * s + 30) → fo' a b x = fo a b x) := by
  intro d
  induction d with
  | zero =>
    intro j mu fo hj
    obtain rfl : j = 30 := by omega
    refine ⟨mu, fo, fun w N hN => ?_, fun k h1 h2 => absurd h1 (by omega), fun _ _ _ => rfl, fun _ _ _ _ => rfl⟩
    obtain ⟨N, rfl⟩ : ∃ b, N = b + 1 := ⟨N - 1, by omega⟩
    rw [lp_X7_allocate_63]
    simp (disch := omega) only [li0, li1, li2, li3, li4, li5, li6, li7, li8, li9, li10, li16, li17, li20, li30, li32, li48, li49, li50, li57, li60, li126, li147, nI_add, nI_sb, pk_mul, nI_m1, inrT, leT, leF, ltT, ltF, eqT, eqF, n1lt, m1lt, m1neg, m1nle, m1le, m1a1, m1a2, m1s, m1s', nI_cl, ↓tl, ↓sb, sb, sel, ser, ↓reduceIte, if_true, if_false, true_or, or_true, false_or, or_false, umS, umK, umJ, uaS, uaK, uaI, uaJ]
  | succ d ih =>
    intro j mu fo hj
    obtain ⟨mu', fo', q1, q2, q3, q4⟩ := ih (j + 1) (um mu 47 (30 * s + j) (nI 0)) (uf fo 48 0 (30 * s + j) 0) (by omega)
    refine ⟨mu', fo', fun w N hN => ?_, fun k h1 h2 => ?_, fun a x h => ?_, fun a b x h => ?_⟩
    · obtain ⟨N, rfl⟩ : ∃ b, N = b + 1 := ⟨N - 1, by omega⟩
      have := q1 w N (by omega)
      rw [lp_X7_allocate_63]
      simp (disch := omega) only [li0, li1, li2, li3, li4, li5, li6, li7, li8, li9, li10, li16, li17, li20, li30, li32, li48, li49, li50, li57, li60, li126, li147, nI_add, nI_sb, pk_mul, nI_m1, inrT, leT, leF, ltT, ltF, eqT, eqF, n1lt, m1lt, m1neg, m1nle, m1le, m1a1, m1a2, m1s, m1s', nI_cl, ↓tl, ↓sb, sb, sel, ser, ↓reduceIte, if_true, if_false, true_or, or_true, false_or, or_false, umS, umK, umJ, uaS, uaK, uaI, uaJ, mg30, mg31, mg32, mg33, mg34, mg35, mg36, mg37, mg38, mg39, mg40, mg41, mg42, mg43, mg44, mg45, mg46, mg47, mg48, mg49, ms30, ms31, ms32, ms33, ms34, ms35, ms36, ms37, ms38, ms39, ms40, ms41, ms42, ms43, ms44, ms45, ms46, ms47, ms48, ms49, ma_F, fs]
      exact this
    · by_cases e : k = j
      · subst e
        rw [q3 _ _ (by omega), q4 _ _ _ (by omega), umS, ufS]
        exact ⟨rfl, rfl⟩
      · exact q2 k (by omega) h2
    · rw [q3 a x (by omega)]; unfold um; rw [if_neg (by omega)]
    · rw [q4 a b x (by omega)]; exact uf_o _ _ (by omega)
theorem ce_loop {s t l : Nat} (hs : s < 3) (ht : t < 3) (hl : l ≤ 30) : ∀ d j (mu : pu_M) (fo : pu_F), j + d = l → mu 46 s = nI l → ∃ mu' fo', (∀ w N, d < N → lp_X7_copyElements_2 (nI s) (nI t) N (nI j) (ma mu (cf fo w)) = some (nI l, ma mu' (cf fo' w))) ∧ (∀ k, j ≤ k → k < l → mu' 47 (30 * t + k) = mu 47 (30 * s + k) ∧ fo' 48 0 (30 * t + k) = fo 48 0 (30 * s + k)) ∧ (∀ a x, ¬ (a = 47 ∧ 30 * t + j ≤ x ∧ x < 30 * t + l) → mu' a x = mu a x) ∧ (∀ a b x, ¬ (a = 48 ∧ b = 0 ∧ 30 * t + j ≤ x ∧ x < 30 * t + l) → fo' a b x = fo a b x) := by
  intro d
  induction d with
  | zero =>
    intro j mu fo hj h46
    obtain rfl : j = l := by omega
    refine ⟨mu, fo, fun w N hN => ?_, fun k h1 h2 => absurd h1 (by omega), fun _ _ _ => rfl, fun _ _ _ _ => rfl⟩
    obtain ⟨N, rfl⟩ : ∃ b, N = b + 1 := ⟨N - 1, by omega⟩
    rw [lp_X7_copyElements_2]
    simp (disch := omega) only [li0, li1, li2, li3, li4, li5, li6, li7, li8, li9, li10, li16, li17, li20, li30, li32, li48, li49, li50, li57, li60, li126, li147, nI_add, nI_sb, pk_mul, nI_m1, inrT, leT, leF, ltT, ltF, eqT, eqF, n1lt, m1lt, m1neg, m1nle, m1le, m1a1, m1a2, m1s, m1s', nI_cl, ↓tl, ↓sb, sb, sel, ser, ↓reduceIte, if_true, if_false, true_or, or_true, false_or, or_false, umS, umK, umJ, uaS, uaK, uaI, uaJ, mg30, mg31, mg32, mg33, mg34, mg35, mg36, mg37, mg38, mg39, mg40, mg41, mg42, mg43, mg44, mg45, mg46, mg47, mg48, mg49, ms30, ms31, ms32, ms33, ms34, ms35, ms36, ms37, ms38, ms39, ms40, ms41, ms42, ms43, ms44, ms45, ms46, ms47, ms48, ms49, h46]
  | succ d ih =>
    intro j mu fo hj h46
    obtain ⟨mu', fo', q1, q2, q3, q4⟩ := ih (j + 1) (um mu 47 (30 * t + j) (mu 47 (30 * s + j))) (uf fo 48 0 (30 * t + j) (fo 48 0 (30 * s + j))) (by omega) (by rw [umK _ _ _ _ (by omega)]; exact h46)
    refine ⟨mu', fo', fun w N hN => ?_, fun k h1 h2 => ?_, fun a x h => ?_, fun a b x h => ?_⟩
    · obtain ⟨N, rfl⟩ : ∃ b, N = b + 1 := ⟨N - 1, by omega⟩
      have := q1 w N (by omega)
      rw [lp_X7_copyElements_2]
      simp (disch := omega) only [li0, li1, li2, li3, li4, li5, li6, li7, li8, li9, li10, li16, li17, li20, li30, li32, li48, li49, li50, li57, li60, li126, li147, nI_add, nI_sb, pk_mul, nI_m1, inrT, leT, leF, ltT, ltF, eqT, eqF, n1lt, m1lt, m1neg, m1nle, m1le, m1a1, m1a2, m1s, m1s', nI_cl, ↓tl, ↓sb, sb, sel, ser, ↓reduceIte, if_true, if_false, true_or, or_true, false_or, or_false, umS, umK, umJ, uaS, uaK, uaI, uaJ, mg30, mg31, mg32, mg33, mg34, mg35, mg36, mg37, mg38, mg39, mg40, mg41, mg42, mg43, mg44, mg45, mg46, mg47, mg48, mg49, ms30, ms31, ms32, ms33, ms34, ms35, ms36, ms37, ms38, ms39, ms40, ms41, ms42, ms43, ms44, ms45, ms46, ms47, ms48, ms49, h46, ma_F, ma_gF, fg, fs]
      exact this
    · by_cases e : k = j
      · subst e
        rw [q3 _ _ (by omega), q4 _ _ _ (by omega), umS, ufS]
        exact ⟨rfl, rfl⟩
      · obtain ⟨z1, z2⟩ := q2 k (by omega) h2
        rw [z1, z2]
        have ne : ¬ 30 * s + k = 30 * t + j := by omega
        rw [umJ _ _ _ ne, uf_o _ _ (by omega)]
        exact ⟨rfl, rfl⟩
    · rw [q3 a x (by omega)]; unfold um; rw [if_neg (by omega)]
    · rw [q4 a b x (by omega)]; exact uf_o _ _ (by omega)
