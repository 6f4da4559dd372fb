/-! the relation over the whole memory, and a call of the law -/
def pKp (mu mk : pu_M) : Prop := mu 49 0 = mk 30 1 ∧ mu 49 1 = mk 30 2 ∧ mu 49 2 = mk 30 3 ∧ mu 49 3 = mk 30 14 ∧ (∀ k, k < 16 → mu 49 (4 + k) = mk 31 k) ∧ (∀ k, k < 16 → mu 49 (20 + k) = mk 32 k) ∧ (∀ k, k < 16 → mu 49 (36 + k) = mk 33 k) ∧ (∀ k, k < 16 → mu 49 (52 + k) = mk 34 k) ∧ (∀ k, k < 16 → mu 49 (68 + k) = mk 35 k) ∧ (∀ k, k < 1280 → mu 49 (84 + k) = mk 36 k) ∧ (∀ k, k < 16 → mu 49 (1364 + k) = mk 37 k) ∧ (∀ k, k < 8 → mu 49 (1380 + k) = mk 38 k) ∧ (∀ k, k < 640 → mu 49 (1388 + k) = mk 39 k) ∧ (∀ k, k < 150 → mu 49 (2028 + k) = mk 40 k) ∧ (∀ k, k < 9 → mu 49 (2178 + k) = mk 41 k)
def SV (v : ts_Mem) : pu_A := fun k i j => ts_gI v (k, 1, i) j
def pXr (be : pu_A) (mu : pu_M) (v : ts_Mem) : Prop := ∀ s, s < 3 → (∃ l, l ≤ 30 ∧ be 27 s 1 = nI l ∧ mu 46 s = nI l) ∧ be 27 s 0 = mu 45 s ∧ (mu 45 s = -nI 1 ∨ mu 45 s = nI 0 ∨ mu 45 s = nI 1) ∧ ∀ k, k < 30 → be 29 s k = mu 47 (30 * s + k) ∧ ts_gF v (28, 0, s) k = ts_gF v (48, 0, 0) (30 * s + k) ∧ FP.fIsNaN (ts_gF v (48, 0, 0) (30 * s + k)) = false
def pXp (be : pu_A) (mu : pu_M) : Prop := (∃ l, l ≤ 60 ∧ be 21 0 0 = nI l ∧ mu 30 20 = nI l) ∧ (∀ j, j < 60 → be 22 0 j = mu 42 j) ∧ be 0 0 4 = mu 30 24 ∧ (mu 30 24 = -nI 1 ∨ ∃ e, e ≤ 60 ∧ mu 30 24 = nI e)
def pXs (be : pu_A) (mu : pu_M) (v : ts_Mem) (K : Nat) : Prop := be 0 0 2 = mu 30 33 ∧ (mu 30 33 = nI 0 ∨ (mu 30 33 = nI 1 ∧ ∃ mk p n nx, pKp mu mk ∧ pS (SV v) mk p n nx ∧ pR (SV v) n ∧ nx ≤ K))
def pX (be : pu_A) (mu : pu_M) (v : ts_Mem) (K : Nat) : Prop := pXp be mu ∧ pXr be mu v ∧ pXs be mu v K
def fX (mu mu' : pu_M) : Prop := ∀ a j, (a = 30 ∧ (j = 20 ∨ j = 24 ∨ j = 33)) ∨ a = 42 ∨ (44 < a ∧ a < 50) → mu' a j = mu a j
theorem pX_f {be : pu_A} {mu mu' : pu_M} {v : ts_Mem} {K K' : Nat} (h : pX be mu v K) (hf : fX mu mu') (hK : K ≤ K') : pX be mu' v K' := by
  obtain ⟨h1, h2, h3⟩ := h
  refine ⟨?_, ?_, ?_⟩
  · unfold pXp at h1 ⊢
    have e1 := hf 30 20 (by omega)
    have e2 := hf 30 24 (by omega)
    have e3 := fun j => hf 42 j (by omega)
    simp only [e1, e2, e3]
    exact h1
  · unfold pXr at h2 ⊢
    have e1 := fun j => hf 45 j (by omega)
    have e2 := fun j => hf 46 j (by omega)
    have e3 := fun j => hf 47 j (by omega)
    simp only [e1, e2, e3]
    exact h2
  · unfold pXs pKp at h3 ⊢
    have e1 := hf 30 33 (by omega)
    have e3 := fun j => hf 49 j (by omega)
    simp only [e1, e3]
    obtain ⟨a, b⟩ := h3
    refine ⟨a, ?_⟩
    rcases b with b | ⟨b, mk, p, n, nx, c1, c2, c3, c4⟩
    · exact Or.inl b
    · exact Or.inr ⟨b, mk, p, n, nx, c1, c2, c3, by omega⟩
def Z (u : ts_Mem) (K : Nat) : Prop := ∃ al be mu v p n nx, u = ca al (cb be (ma mu v)) ∧ pS al mu p n nx ∧ pR al n ∧ nx ≤ K ∧ pX be mu v K
theorem mm (al be : pu_A) (mu : pu_M) (v : ts_Mem) : ca al (cb be (ma mu v)) = ma mu (ca al (cb be v)) := by rw [cb_ma, ca_ma]
def law1 (a : Option (Int32 × ts_Mem)) (m : ts_Mem → Option (Int32 × ts_Mem)) : Option ts_Mem := a.bind (fun q2 => (m q2.2).bind (fun q4 => (f_X7_thrown q4.2).bind (fun q5 => if q5 = q2.1 then (if q2.1 = 0 then (if (lg_cmp (ts_gJ q4.2 (50, 0, 0) 0) (q4.1).toInt64) = 0 then (some q4.2) else (none)) else (some q4.2)) else (none))))
theorem lg_refl (x : Int64) : lg_cmp x x = 0 := by
  unfold lg_cmp
  simp
theorem law1_ok {a : Option (Int32 × ts_Mem)} {m : ts_Mem → Option (Int32 × ts_Mem)} {w1 w2 : ts_Mem} {r : Int32} (h1 : a = some (nI 0, w1)) (h2 : m w1 = some (r, w2)) (h3 : ts_gI w2 (30, 0, 0) 0 = nI 0) (h4 : ts_gJ w2 (50, 0, 0) 0 = r.toInt64) : law1 a m = some w2 := by
  unfold law1 f_X7_thrown
  rw [h1, sb]
  dsimp only
  rw [h2, sb]
  dsimp only
  rw [sb, h3, if_pos rfl, h4, lg_refl]
  exact (if_pos rfl).trans (if_pos rfl)
theorem law1_th {a : Option (Int32 × ts_Mem)} {m : ts_Mem → Option (Int32 × ts_Mem)} {w1 w2 : ts_Mem} {x c : Int32} (h1 : a = some (c, w1)) (hc : ¬ c = 0) (h2 : m w1 = some (x, w2)) (h3 : ts_gI w2 (30, 0, 0) 0 = c) : law1 a m = some w2 := by
  unfold law1 f_X7_thrown
  rw [h1, sb]
  dsimp only
  rw [h2, sb]
  dsimp only
  rw [sb, h3, if_pos rfl, if_neg hc]
theorem mst_ok {al al' be be' : pu_A} {mu mu' : pu_M} {v : ts_Mem} {p n nx K : Nat} {r : Int32} {fl fr : ts_Mem → Option (Int32 × ts_Mem)} (h1 : ∀ w, fl (ca al (cb be w)) = some (nI 0, ts_sJ (ca al' (cb be' w)) (50, 0, 0) 0 r.toInt64)) (h2 : ∀ w, fr (ma mu w) = some (r, ma mu' w)) (h0 : mu' 30 0 = nI 0) (hS : pS al' mu' p n nx) (hR : pR al' n) (hn : nx ≤ K) (hX : pX be' mu' v K) : ∃ u2, law1 (fl (ca al (cb be (ma mu v)))) fr = some u2 ∧ Z u2 K := by
  refine ⟨ca al' (cb be' (ma mu' (ts_sJ v (50, 0, 0) 0 r.toInt64))), ?_, al', be', mu', ts_sJ v (50, 0, 0) 0 r.toInt64, p, n, nx, rfl, hS, hR, hn, hX⟩
  apply law1_ok (h1 _)
  · rw [ca_J, cb_J, ma_J, mm, h2, mm]
  · rw [mm, mg30, h0]
  · show ts_gJ (ts_sJ v (50, 0, 0) 0 r.toInt64) (50, 0, 0) 0 = r.toInt64
    simp [ts_gJ, ts_sJ]
theorem mst_th {al al' be be' : pu_A} {mu mu' : pu_M} {v : ts_Mem} {p n nx K c : Nat} {x : Int32} {fl fr : ts_Mem → Option (Int32 × ts_Mem)} (h1 : ∀ w, fl (ca al (cb be w)) = some (nI c, ca al' (cb be' w))) (hc : 1 ≤ c) (hc2 : c ≤ 9) (h2 : ∀ w, fr (ma mu w) = some (x, ma mu' w)) (h0 : mu' 30 0 = nI c) (hS : pS al' mu' p n nx) (hR : pR al' n) (hn : nx ≤ K) (hX : pX be' mu' v K) : ∃ u2, law1 (fl (ca al (cb be (ma mu v)))) fr = some u2 ∧ Z u2 K := by
  refine ⟨ca al' (cb be' (ma mu' v)), ?_, al', be', mu', v, p, n, nx, rfl, hS, hR, hn, hX⟩
  refine law1_th (x := x) (h1 _) (fun q => ?_) ?_ ?_
  · exact absurd ((nI_eq (b := 0) (by omega) (by omega)).mp q) (by omega)
  · rw [mm, h2, mm]
  · rw [mm, mg30, h0]
/-- a number in a range from 0, or outside -/
theorem rg_case (x : Int32) (hi : Nat) (h : hi < 2 ^ 31) : (∃ t, t < hi ∧ x = nI t) ∨ (x < nI 0 ∨ nI hi ≤ x) := by
  by_cases a : x < nI 0
  · exact Or.inr (Or.inl a)
  · by_cases b : nI hi ≤ x
    · exact Or.inr (Or.inr b)
    · left
      rw [Int32.lt_iff_toInt_lt, nI_toInt (by decide)] at a
      rw [Int32.le_iff_toInt_le, nI_toInt h] at b
      refine ⟨x.toInt.toNat, by omega, ?_⟩
      apply Int32.toInt_inj.mp
      rw [nI_toInt (by omega)]
      omega
theorem r_rgT {t hi : Nat} (u : ts_Mem) (h : t ≤ hi) (hh : hi < 2 ^ 31) : f_X7_isIn (nI t) (nI 0) (nI hi) u = some (nI 1) := r_inT u (nI_le (by omega) (by omega)) (nI_le h hh)
theorem r_rgF {x : Int32} {hi : Nat} (u : ts_Mem) (h : x < nI 0 ∨ nI (hi + 1) ≤ x) (hh : hi + 1 < 2 ^ 31) : f_X7_isIn x (nI 0) (nI hi) u = some (nI 0) := r_inF u (by
  rcases h with h | h
  · exact Or.inl h
  · right
    rw [Int32.le_iff_toInt_le, nI_toInt hh] at h
    rw [Int32.lt_iff_toInt_lt, nI_toInt (by omega)]
    omega)
theorem c_itT {al : pu_A} {n t : Nat} (w : ts_Mem) (hn : al 1 0 2 = nI n) (h16 : n ≤ 16) (ht : t < n) : f_X6_isTransaction (nI t) (ca al w) = some (nI 1) := by
  unfold f_X6_isTransaction
  simp (disch := omega) only [li0, li1, li2, li3, li4, li5, li6, li7, li8, li9, li10, li16, li17, li20, li30, li32, li48, li49, li50, li57, li60, li126, li147, nI_add, nI_sb, pk_mul, nI_m1, inrT, leT, leF, ltT, ltF, eqT, eqF, n1lt, m1lt, m1neg, m1nle, m1le, m1a1, m1a2, m1s, m1s', nI_cl, ↓tl, ↓sb, sb, sel, ser, ↓reduceIte, if_true, if_false, true_or, or_true, false_or, or_false, umS, umK, umJ, uaS, uaK, uaI, uaJ, cg1, cg2, cg3, cg4, cg5, cg6, cg7, cg8, cg9, cg10, cg11, cg12, cg13, cg14, cg15, cg16, cg17, cg18, cg19, cg20, cs1, cs2, cs3, cs4, cs5, cs6, cs7, cs8, cs9, cs10, cs11, cs12, cs13, cs14, cs15, cs16, cs17, cs18, cs19, cs20, cc17, cc18, cc19, cc20, hn]
theorem c_itF {al : pu_A} {n : Nat} {x : Int32} (w : ts_Mem) (hn : al 1 0 2 = nI n) (h : x < nI 0 ∨ nI n ≤ x) : f_X6_isTransaction x (ca al w) = some (nI 0) := by
  unfold f_X6_isTransaction
  by_cases a : x < nI 0
  · simp (disch := omega) only [li0, li1, li2, li3, li4, li5, li6, li7, li8, li9, li10, li16, li17, li20, li30, li32, li48, li49, li50, li57, li60, li126, li147, nI_add, nI_sb, pk_mul, nI_m1, inrT, leT, leF, ltT, ltF, eqT, eqF, n1lt, m1lt, m1neg, m1nle, m1le, m1a1, m1a2, m1s, m1s', nI_cl, ↓tl, ↓sb, sb, sel, ser, ↓reduceIte, if_true, if_false, true_or, or_true, false_or, or_false, umS, umK, umJ, uaS, uaK, uaI, uaJ, cg1, cg2, cg3, cg4, cg5, cg6, cg7, cg8, cg9, cg10, cg11, cg12, cg13, cg14, cg15, cg16, cg17, cg18, cg19, cg20, cs1, cs2, cs3, cs4, cs5, cs6, cs7, cs8, cs9, cs10, cs11, cs12, cs13, cs14, cs15, cs16, cs17, cs18, cs19, cs20, cc17, cc18, cc19, cc20, hn, if_pos a]
  · have b := h.resolve_left a
    simp (disch := omega) only [li0, li1, li2, li3, li4, li5, li6, li7, li8, li9, li10, li16, li17, li20, li30, li32, li48, li49, li50, li57, li60, li126, li147, nI_add, nI_sb, pk_mul, nI_m1, inrT, leT, leF, ltT, ltF, eqT, eqF, n1lt, m1lt, m1neg, m1nle, m1le, m1a1, m1a2, m1s, m1s', nI_cl, ↓tl, ↓sb, sb, sel, ser, ↓reduceIte, if_true, if_false, true_or, or_true, false_or, or_false, umS, umK, umJ, uaS, uaK, uaI, uaJ, cg1, cg2, cg3, cg4, cg5, cg6, cg7, cg8, cg9, cg10, cg11, cg12, cg13, cg14, cg15, cg16, cg17, cg18, cg19, cg20, cs1, cs2, cs3, cs4, cs5, cs6, cs7, cs8, cs9, cs10, cs11, cs12, cs13, cs14, cs15, cs16, cs17, cs18, cs19, cs20, cc17, cc18, cc19, cc20, hn, if_neg a, if_pos b]
theorem r_itT {mu : pu_M} {n t : Nat} (u : ts_Mem) (hn : mu 30 2 = nI n) (h16 : n ≤ 16) (ht : t < n) : f_X7_isTransaction (nI t) (ma mu u) = some (nI 1) := by
  unfold f_X7_isTransaction
  have := fun u => r_rgT (t := t) (hi := n - 1) u (by omega) (by omega)
  simp (disch := omega) only [li0, li1, li2, li3, li4, li5, li6, li7, li8, li9, li10, li16, li17, li20, li30, li32, li48, li49, li50, li57, li60, li126, li147, nI_add, nI_sb, pk_mul, nI_m1, inrT, leT, leF, ltT, ltF, eqT, eqF, n1lt, m1lt, m1neg, m1nle, m1le, m1a1, m1a2, m1s, m1s', nI_cl, ↓tl, ↓sb, sb, sel, ser, ↓reduceIte, if_true, if_false, true_or, or_true, false_or, or_false, umS, umK, umJ, uaS, uaK, uaI, uaJ, mg30, mg31, mg32, mg33, mg34, mg35, mg36, mg37, mg38, mg39, mg40, mg41, mg42, mg43, mg44, mg45, mg46, mg47, mg48, mg49, ms30, ms31, ms32, ms33, ms34, ms35, ms36, ms37, ms38, ms39, ms40, ms41, ms42, ms43, ms44, ms45, ms46, ms47, ms48, ms49, hn, this]
theorem r_itF {mu : pu_M} {n : Nat} {x : Int32} (u : ts_Mem) (hn : mu 30 2 = nI n) (h16 : n ≤ 16) (h : x < nI 0 ∨ nI n ≤ x) : f_X7_isTransaction x (ma mu u) = some (nI 0) := by
  unfold f_X7_isTransaction
  by_cases e : n = 0
  · subst e
    have := fun u => r_inF (x := x) (lo := nI 0) (hi := -nI 1) u (by
      rcases h with h | h
      · exact Or.inl h
      · right
        rw [Int32.le_iff_toInt_le, nI_toInt (by decide)] at h
        rw [Int32.lt_iff_toInt_lt, show (-nI 1).toInt = -1 from by decide]
        omega)
    simp (disch := omega) only [li0, li1, li2, li3, li4, li5, li6, li7, li8, li9, li10, li16, li17, li20, li30, li32, li48, li49, li50, li57, li60, li126, li147, nI_add, nI_sb, pk_mul, nI_m1, inrT, leT, leF, ltT, ltF, eqT, eqF, n1lt, m1lt, m1neg, m1nle, m1le, m1a1, m1a2, m1s, m1s', nI_cl, ↓tl, ↓sb, sb, sel, ser, ↓reduceIte, if_true, if_false, true_or, or_true, false_or, or_false, umS, umK, umJ, uaS, uaK, uaI, uaJ, mg30, mg31, mg32, mg33, mg34, mg35, mg36, mg37, mg38, mg39, mg40, mg41, mg42, mg43, mg44, mg45, mg46, mg47, mg48, mg49, ms30, ms31, ms32, ms33, ms34, ms35, ms36, ms37, ms38, ms39, ms40, ms41, ms42, ms43, ms44, ms45, ms46, ms47, ms48, ms49, hn, this]
  · have := fun u => r_rgF (x := x) (hi := n - 1) u (by rw [show n - 1 + 1 = n by omega]; exact h) (by omega)
    simp (disch := omega) only [li0, li1, li2, li3, li4, li5, li6, li7, li8, li9, li10, li16, li17, li20, li30, li32, li48, li49, li50, li57, li60, li126, li147, nI_add, nI_sb, pk_mul, nI_m1, inrT, leT, leF, ltT, ltF, eqT, eqF, n1lt, m1lt, m1neg, m1nle, m1le, m1a1, m1a2, m1s, m1s', nI_cl, ↓tl, ↓sb, sb, sel, ser, ↓reduceIte, if_true, if_false, true_or, or_true, false_or, or_false, umS, umK, umJ, uaS, uaK, uaI, uaJ, mg30, mg31, mg32, mg33, mg34, mg35, mg36, mg37, mg38, mg39, mg40, mg41, mg42, mg43, mg44, mg45, mg46, mg47, mg48, mg49, ms30, ms31, ms32, ms33, ms34, ms35, ms36, ms37, ms38, ms39, ms40, ms41, ms42, ms43, ms44, ms45, ms46, ms47, ms48, ms49, hn, this]
theorem c_iiT {i : Nat} (w : ts_Mem) (h : i < 8) : f_X6_isItem (nI i) w = some (nI 1) := by
  unfold f_X6_isItem
  simp (disch := omega) only [li0, li1, li2, li3, li4, li5, li6, li7, li8, li9, li10, li16, li17, li20, li30, li32, li48, li49, li50, li57, li60, li126, li147, nI_add, nI_sb, pk_mul, nI_m1, inrT, leT, leF, ltT, ltF, eqT, eqF, n1lt, m1lt, m1neg, m1nle, m1le, m1a1, m1a2, m1s, m1s', nI_cl, ↓tl, ↓sb, sb, sel, ser, ↓reduceIte, if_true, if_false, true_or, or_true, false_or, or_false, umS, umK, umJ, uaS, uaK, uaI, uaJ]
theorem c_iiF {x : Int32} (w : ts_Mem) (h : x < nI 0 ∨ nI 8 ≤ x) : f_X6_isItem x w = some (nI 0) := by
  unfold f_X6_isItem
  by_cases a : x < nI 0
  · exact if_pos a
  · have b := h.resolve_left a
    exact (if_neg a).trans (if_pos b)
theorem r_iiT {i : Nat} (w : ts_Mem) (h : i < 8) : f_X7_isItem (nI i) w = some (nI 1) := by
  unfold f_X7_isItem
  have := fun u => r_rgT (t := i) (hi := 7) u (by omega) (by omega)
  simp (disch := omega) only [li0, li1, li2, li3, li4, li5, li6, li7, li8, li9, li10, li16, li17, li20, li30, li32, li48, li49, li50, li57, li60, li126, li147, nI_add, nI_sb, pk_mul, nI_m1, inrT, leT, leF, ltT, ltF, eqT, eqF, n1lt, m1lt, m1neg, m1nle, m1le, m1a1, m1a2, m1s, m1s', nI_cl, ↓tl, ↓sb, sb, sel, ser, ↓reduceIte, if_true, if_false, true_or, or_true, false_or, or_false, umS, umK, umJ, uaS, uaK, uaI, uaJ, this]
theorem r_iiF {x : Int32} (w : ts_Mem) (h : x < nI 0 ∨ nI 8 ≤ x) : f_X7_isItem x w = some (nI 0) := by
  unfold f_X7_isItem
  have := fun u => r_rgF (x := x) (hi := 7) u h (by omega)
  simp (disch := omega) only [li0, li1, li2, li3, li4, li5, li6, li7, li8, li9, li10, li16, li17, li20, li30, li32, li48, li49, li50, li57, li60, li126, li147, nI_add, nI_sb, pk_mul, nI_m1, inrT, leT, leF, ltT, ltF, eqT, eqF, n1lt, m1lt, m1neg, m1nle, m1le, m1a1, m1a2, m1s, m1s', nI_cl, ↓tl, ↓sb, sb, sel, ser, ↓reduceIte, if_true, if_false, true_or, or_true, false_or, or_false, umS, umK, umJ, uaS, uaK, uaI, uaJ, this]
theorem c_isT {i : Nat} (w : ts_Mem) (h : i < 3) : f_X6_isSlot (nI i) w = some (nI 1) := by
  unfold f_X6_isSlot
  simp (disch := omega) only [li0, li1, li2, li3, li4, li5, li6, li7, li8, li9, li10, li16, li17, li20, li30, li32, li48, li49, li50, li57, li60, li126, li147, nI_add, nI_sb, pk_mul, nI_m1, inrT, leT, leF, ltT, ltF, eqT, eqF, n1lt, m1lt, m1neg, m1nle, m1le, m1a1, m1a2, m1s, m1s', nI_cl, ↓tl, ↓sb, sb, sel, ser, ↓reduceIte, if_true, if_false, true_or, or_true, false_or, or_false, umS, umK, umJ, uaS, uaK, uaI, uaJ]
theorem c_isF {x : Int32} (w : ts_Mem) (h : x < nI 0 ∨ nI 3 ≤ x) : f_X6_isSlot x w = some (nI 0) := by
  unfold f_X6_isSlot
  by_cases a : x < nI 0
  · exact if_pos a
  · have b := h.resolve_left a
    exact (if_neg a).trans (if_pos b)
theorem r_isT {i : Nat} (w : ts_Mem) (h : i < 3) : f_X7_isSlot (nI i) w = some (nI 1) := by
  unfold f_X7_isSlot
  have := fun u => r_rgT (t := i) (hi := 2) u (by omega) (by omega)
  simp (disch := omega) only [li0, li1, li2, li3, li4, li5, li6, li7, li8, li9, li10, li16, li17, li20, li30, li32, li48, li49, li50, li57, li60, li126, li147, nI_add, nI_sb, pk_mul, nI_m1, inrT, leT, leF, ltT, ltF, eqT, eqF, n1lt, m1lt, m1neg, m1nle, m1le, m1a1, m1a2, m1s, m1s', nI_cl, ↓tl, ↓sb, sb, sel, ser, ↓reduceIte, if_true, if_false, true_or, or_true, false_or, or_false, umS, umK, umJ, uaS, uaK, uaI, uaJ, this]
theorem r_isF {x : Int32} (w : ts_Mem) (h : x < nI 0 ∨ nI 3 ≤ x) : f_X7_isSlot x w = some (nI 0) := by
  unfold f_X7_isSlot
  have := fun u => r_rgF (x := x) (hi := 2) u h (by omega)
  simp (disch := omega) only [li0, li1, li2, li3, li4, li5, li6, li7, li8, li9, li10, li16, li17, li20, li30, li32, li48, li49, li50, li57, li60, li126, li147, nI_add, nI_sb, pk_mul, nI_m1, inrT, leT, leF, ltT, ltF, eqT, eqF, n1lt, m1lt, m1neg, m1nle, m1le, m1a1, m1a2, m1s, m1s', nI_cl, ↓tl, ↓sb, sb, sel, ser, ↓reduceIte, if_true, if_false, true_or, or_true, false_or, or_false, umS, umK, umJ, uaS, uaK, uaI, uaJ, this]
theorem q_A0 (u : ts_Mem) : f_X6_requireArgument (nI 0) u = some (Sum.inr "java/lang/IllegalArgumentException") := rfl
theorem q_A1 (u : ts_Mem) : f_X6_requireArgument (nI 1) u = some (Sum.inl ()) := rfl
theorem q_S0 (u : ts_Mem) : f_X6_requireState (nI 0) u = some (Sum.inr "java/lang/IllegalStateException") := rfl
theorem q_S1 (u : ts_Mem) : f_X6_requireState (nI 1) u = some (Sum.inl ()) := rfl
theorem q_I0 (u : ts_Mem) : f_X6_requireIndex (nI 0) u = some (Sum.inr "java/lang/IndexOutOfBoundsException") := rfl
theorem q_I1 (u : ts_Mem) : f_X6_requireIndex (nI 1) u = some (Sum.inl ()) := rfl
theorem q_E0 (u : ts_Mem) : f_X6_requireElement (nI 0) u = some (Sum.inr "java/util/NoSuchElementException") := rfl
theorem q_E1 (u : ts_Mem) : f_X6_requireElement (nI 1) u = some (Sum.inl ()) := rfl
theorem r_fl (c : Int32) (mu : pu_M) (u : ts_Mem) : f_X7_fail c (ma mu u) = some (nI 0, ma (um mu 30 0 c) u) := by
  unfold f_X7_fail
  simp only [tl, ms30, li0]
theorem pS_0 {al : pu_A} {mu : pu_M} {p n nx : Nat} (x : Int32) (h : pS al mu p n nx) : pS al (um mu 30 0 x) p n nx := pS_44 h (fun _ _ _ _ => rfl) (fun a j h1 h2 => by unfold um; rw [if_neg h2])
theorem fX_0 (mu : pu_M) (x : Int32) : fX mu (um mu 30 0 x) := fun a j h => by unfold um; rw [if_neg (by omega)]
