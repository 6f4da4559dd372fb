/-! a version is put -/
theorem r_ins {i m : Nat} (hi : i < 8) (hm : 1 ≤ m) : ∀ (d j N : Nat) (mu : pu_M), j = m + d → j ≤ 17 → d < N → ∃ mu', (∀ u c1 c3 c4, lp_X7_doWrite_118 c1 (nI i) c3 c4 (nI (m - 1)) N (nI j) (ma mu u) = some (nI m, ma mu' u)) ∧ (∀ a b, ¬ a = 39 → mu' a b = mu a b) ∧ (∀ b, b < 80 * i ∨ 80 * i + 80 ≤ b → mu' 39 b = mu 39 b) ∧ (∀ k e, k ≤ m → e < 4 → mu' 39 (4 * (20 * i + k) + e) = mu 39 (4 * (20 * i + k) + e)) ∧ (∀ k e, m < k → k ≤ j → e < 4 → mu' 39 (4 * (20 * i + k) + e) = mu 39 (4 * (20 * i + (k - 1)) + e)) ∧ (∀ k e, j < k → k < 20 → e < 4 → mu' 39 (4 * (20 * i + k) + e) = mu 39 (4 * (20 * i + k) + e)) := by
  intro d
  induction d with
  | zero =>
    intro j N mu hj hj17 hN
    obtain ⟨N, rfl⟩ : ∃ b, N = b + 1 := ⟨N - 1, by omega⟩
    obtain rfl : j = m := by omega
    refine ⟨mu, fun u c1 c3 c4 => ?_, fun _ _ _ => rfl, fun _ _ => rfl, fun _ _ _ _ => rfl, fun k e h1 h2 => absurd h1 (by omega), fun _ _ _ _ _ => rfl⟩
    rw [lp_X7_doWrite_118]
    simp (disch := omega) only [li0, li1, li2, li3, li4, li5, li6, li7, li8, li9, li10, li16, li17, li20, li30, li32, li48, li49, li50, li57, li60, li126, li147, nI_add, nI_sb, pk_mul, nI_m1, inrT, leT, leF, ltT, ltF, eqT, eqF, n1lt, m1lt, m1neg, m1nle, m1le, m1a1, m1a2, m1s, m1s', nI_cl, ↓tl, ↓sb, sb, sel, ser, ↓reduceIte, if_true, if_false, true_or, or_true, false_or, or_false, umS, umK, umJ, uaS, uaK, uaI, uaJ]
  | succ d ih =>
    intro j N mu hj hj17 hN
    obtain ⟨N, rfl⟩ : ∃ b, N = b + 1 := ⟨N - 1, by omega⟩
    have hp := fun u => r_put mu u i j (mu 39 (4 * (20 * i + (j - 1)))) (mu 39 (4 * (20 * i + (j - 1)) + 1)) (mu 39 (4 * (20 * i + (j - 1)) + 2)) (mu 39 (4 * (20 * i + (j - 1)) + 3)) hi (by omega)
    obtain ⟨mu', q0, q1, q2, q3, q4, q5⟩ := ih (j - 1) N (mPut mu i j (mu 39 (4 * (20 * i + (j - 1)))) (mu 39 (4 * (20 * i + (j - 1)) + 1)) (mu 39 (4 * (20 * i + (j - 1)) + 2)) (mu 39 (4 * (20 * i + (j - 1)) + 3))) (by omega) (by omega) (by omega)
    refine ⟨mu', fun u c1 c3 c4 => ?_, fun a b h => ?_, fun b h => ?_, fun k e h1 h2 => ?_, fun k e h1 h2 h3 => ?_, fun k e h1 h2 h3 => ?_⟩
    · rw [lp_X7_doWrite_118]
      unfold f_X7_place
      simp (disch := omega) only [li0, li1, li2, li3, li4, li5, li6, li7, li8, li9, li10, li16, li17, li20, li30, li32, li48, li49, li50, li57, li60, li126, li147, nI_add, nI_sb, pk_mul, nI_m1, inrT, leT, leF, ltT, ltF, eqT, eqF, n1lt, m1lt, m1neg, m1nle, m1le, m1a1, m1a2, m1s, m1s', nI_cl, ↓tl, ↓sb, sb, sel, ser, ↓reduceIte, if_true, if_false, true_or, or_true, false_or, or_false, umS, umK, umJ, uaS, uaK, uaI, uaJ, mg30, mg31, mg32, mg33, mg34, mg35, mg36, mg37, mg38, mg39, mg40, mg41, mg42, mg43, mg44, mg45, mg46, mg47, mg48, mg49, ms30, ms31, ms32, ms33, ms34, ms35, ms36, ms37, ms38, ms39, ms40, ms41, ms42, ms43, ms44, ms45, ms46, ms47, ms48, ms49, hp]
      exact q0 u c1 c3 c4
    · rw [q1 a b h, mPut_k _ _ _ _ _ _ _ _ h]
    · rw [q2 b h, mPut_j _ _ _ _ _ _ _ _ (by omega)]
    · rw [q3 k e h1 h2, mPut_j _ _ _ _ _ _ _ _ (by omega)]
    · by_cases ek : k = j
      · subst ek
        have nq : mu' 39 (4 * (20 * i + k) + e) = mPut mu i k (mu 39 (4 * (20 * i + (k - 1)))) (mu 39 (4 * (20 * i + (k - 1)) + 1)) (mu 39 (4 * (20 * i + (k - 1)) + 2)) (mu 39 (4 * (20 * i + (k - 1)) + 3)) 39 (4 * (20 * i + k) + e) := q5 k e (by omega) (by omega) h3
        rw [nq]
        obtain rfl | rfl | rfl | rfl : e = 0 ∨ e = 1 ∨ e = 2 ∨ e = 3 := by omega
        · exact mPut_0 ..
        · exact mPut_1 ..
        · exact mPut_2 ..
        · exact mPut_3 ..
      · rw [q4 k e h1 (by omega) h3, mPut_j _ _ _ _ _ _ _ _ (by omega)]
    · rw [q5 k e (by omega) h2 h3, mPut_j _ _ _ _ _ _ _ _ (by omega)]
theorem few {al : pu_A} {n i c t : Nat} (hn : n ≤ 16) (ht : t < n) (hW : pW al n i c) (hno : ∀ k, k < c → ¬ al 17 i k = al 11 t 1) : c ≤ 16 := by
  obtain ⟨w1, w2, w3, w4, w5⟩ := hW
  have inj : ∀ k k', k < k' → k' < c → ¬ al 17 i k = al 17 i k' := fun k k' h1 h2 e => by
    have := w2 k k' h1 h2; rw [e] at this; omega
  apply pigeon 16 c (fun k => if al 20 i k = -nI 1 then t else (al 20 i k).toNatClampNeg)
  · intro k hk
    rcases w3 k hk with ⟨a, -⟩ | ⟨w, b1, b2, -, -⟩
    · show (if al 20 i k = -nI 1 then t else (al 20 i k).toNatClampNeg) < 16
      rw [if_pos a]; omega
    · show (if al 20 i k = -nI 1 then t else (al 20 i k).toNatClampNeg) < 16
      rw [b2, if_neg (by rw [n1lt (by omega)]; exact id), nI_cl (by omega)]; omega
  · intro k k' h1 h2
    show ¬ (if al 20 i k = -nI 1 then t else (al 20 i k).toNatClampNeg) = (if al 20 i k' = -nI 1 then t else (al 20 i k').toNatClampNeg)
    rcases w3 k (by omega) with ⟨a, a'⟩ | ⟨w, b1, b2, b3, -⟩
    · rcases w3 k' h2 with ⟨c, c'⟩ | ⟨w', d1, d2, d3, -⟩
      · exact fun _ => inj k k' h1 h2 (by rw [a', c'])
      · rw [if_pos a, d2, if_neg (by rw [n1lt (by omega)]; exact id), nI_cl (by omega)]
        intro e; subst e; exact hno k' h2 d3
    · rcases w3 k' h2 with ⟨c, c'⟩ | ⟨w', d1, d2, d3, -⟩
      · rw [if_pos c, b2, if_neg (by rw [n1lt (by omega)]; exact id), nI_cl (by omega)]
        intro e; subst e; exact hno k (by omega) b3
      · rw [b2, d2, if_neg (by rw [n1lt (by omega)]; exact id), if_neg (by rw [n1lt (by omega)]; exact id), nI_cl (by omega), nI_cl (by omega)]
        intro e; subst e; exact inj k k' h1 h2 (by rw [b3, d3])
theorem pS_val {al : pu_A} {mu : pu_M} {p n nx i c k : Nat} (x : Int32) (hS : pS al mu p n nx) (hi : i < 8) (hc : al 16 i 0 = nI c) (hc17 : c ≤ 17) (hk : k < c) : pS (ua al 19 i k x) (um mu 39 (4 * (20 * i + k) + 2) x) p n nx := by
  obtain ⟨hG, hT, hO, hD, hC, hE⟩ := hS
  refine ⟨?_, ?_, ?_, ?_, fun i' hi' => ?_, ?_⟩
  · unfold pG at hG ⊢
    simp (disch := omega) only [uaK, umK]
    exact hG
  · unfold pT at hT ⊢
    simp (disch := omega) only [uaK, umK]
    exact hT
  · unfold pO at hO ⊢
    simp (disch := omega) only [uaK, umK]
    exact hO
  · unfold pD at hD ⊢
    simp (disch := omega) only [uaK, umK]
    exact hD
  · obtain ⟨c', c1, c2⟩ := hC i' hi'
    refine ⟨c', ?_, ?_⟩
    · obtain ⟨d1, d2, d3, d4⟩ := c1
      refine ⟨?_, ?_, d3, fun k' hk' => ?_⟩
      · simp (disch := omega) only [uaK]; exact d1
      · simp (disch := omega) only [umK]; exact d2
      · have := d4 k' hk'
        by_cases e : i' = i
        · subst e
          by_cases e2 : k' = k
          · subst e2
            simp (disch := omega) only [uaK, uaS, umS, umJ]
            exact ⟨this.1, this.2.1, trivial, this.2.2.2⟩
          · simp (disch := omega) only [uaK, uaJ, umJ]
            exact this
        · simp (disch := omega) only [uaK, uaI, umJ]
          exact this
    · unfold pW un at c2 ⊢
      simp (disch := omega) only [uaK]
      exact c2
  · unfold pEv pu_E at hE ⊢
    simp (disch := omega) only [uaK, umK]
    exact hE
/-- the chain behind an insertion, place by place -/
def aIns (i c m : Nat) (T t v : Int32) (al : pu_A) : pu_A := ua (ua (ua (ua (aSh i m (m + 1) (c - m) al) 17 i m T) 18 i m (nI 0)) 19 i m v) 20 i m t
theorem aIns_lo (i c m : Nat) (T t v : Int32) (al : pu_A) {a : Nat} (k : Nat) (h : 17 ≤ a ∧ a ≤ 20) (hk : k < m) : aIns i c m T t v al a i k = al a i k := by
  unfold aIns
  unfold ua
  rw [if_neg (by omega), if_neg (by omega), if_neg (by omega), if_neg (by omega), aSh_out _ _ _ _ _ _ h (by omega)]
theorem aIns_hi (i c m : Nat) (T t v : Int32) (al : pu_A) {a : Nat} (k : Nat) (h : 17 ≤ a ∧ a ≤ 20) (hk : m < k) (hk2 : k ≤ c) : aIns i c m T t v al a i k = al a i (k - 1) := by
  unfold aIns
  unfold ua
  rw [if_neg (by omega), if_neg (by omega), if_neg (by omega), if_neg (by omega), aSh_in _ _ _ _ _ _ h (by omega) (by omega)]
  congr 1; omega
theorem aIns_o (i c m : Nat) (T t v : Int32) (al : pu_A) {a : Nat} (b k : Nat) (h : a < 16 ∨ 20 < a ∨ ¬ b = i) : aIns i c m T t v al a b k = al a b k := by
  unfold aIns
  unfold ua
  rw [if_neg (by omega), if_neg (by omega), if_neg (by omega), if_neg (by omega), aSh_o _ _ _ _ _ _ _ h]
theorem aIns_c (i c m : Nat) (T t v : Int32) (al : pu_A) (h : m ≤ c) : aIns i c m T t v al 16 i 0 = nI (c + 1) := by
  unfold aIns
  rw [uaK _ _ _ _ _ _ (by decide), uaK _ _ _ _ _ _ (by decide), uaK _ _ _ _ _ _ (by decide), uaK _ _ _ _ _ _ (by decide), aSh_c]
  congr 1; omega
theorem aIns_m (i c m : Nat) (T t v : Int32) (al : pu_A) : aIns i c m T t v al 17 i m = T ∧ aIns i c m T t v al 18 i m = nI 0 ∧ aIns i c m T t v al 19 i m = v ∧ aIns i c m T t v al 20 i m = t := by
  unfold aIns
  simp (disch := omega) only [uaS, uaK, and_self]
theorem pS_ins {al : pu_A} {mu mu1 : pu_M} {p n nx i c m t : Nat} (v : Int32) (hS : pS al mu p n nx) (hi : i < 8) (hc : al 16 i 0 = nI c) (hm : 1 ≤ m) (hmc : m ≤ c) (hc16 : c ≤ 16) (ht : t < n) (ha : al 11 t 0 = nI 0) (hlo : ∀ k, k < m → (al 17 i k).toInt < (al 11 t 1).toInt) (hhi : ∀ k, m ≤ k → k < c → (al 11 t 1).toInt < (al 17 i k).toInt) (q1 : ∀ a b, ¬ a = 39 → mu1 a b = mu a b) (q2 : ∀ b, b < 80 * i ∨ 80 * i + 80 ≤ b → mu1 39 b = mu 39 b) (q3 : ∀ k e, k ≤ m → e < 4 → mu1 39 (4 * (20 * i + k) + e) = mu 39 (4 * (20 * i + k) + e)) (q4 : ∀ k e, m < k → k ≤ c → e < 4 → mu1 39 (4 * (20 * i + k) + e) = mu 39 (4 * (20 * i + (k - 1)) + e)) : pS (aIns i c m (al 11 t 1) (nI t) v al) (um (mPut mu1 i m (al 11 t 1) (nI 0) v (nI t)) 38 i (nI (c + 1))) p n nx := by
  obtain ⟨hG, hT, hO, hD, hC, hE⟩ := hS
  have ao : ∀ {a : Nat} (b k : Nat), (a < 16 ∨ 20 < a ∨ ¬ b = i) → aIns i c m (al 11 t 1) (nI t) v al a b k = al a b k := fun b k h => aIns_o i c m (al 11 t 1) (nI t) v al b k h
  have mo : ∀ {a : Nat} (b : Nat), ¬ a = 38 → ¬ a = 39 → um (mPut mu1 i m (al 11 t 1) (nI 0) v (nI t)) 38 i (nI (c + 1)) a b = mu a b := fun b h1 h2 => by
    rw [umK _ _ _ _ h1, mPut_k _ _ _ _ _ _ _ _ h2, q1 _ _ h2]
  refine ⟨?_, ?_, ?_, ?_, fun i' hi' => ?_, ?_⟩
  · unfold pG at hG ⊢
    simp (disch := omega) only [ao, mo]
    exact hG
  · unfold pT at hT ⊢
    simp (disch := omega) only [ao, mo]
    exact hT
  · unfold pO at hO ⊢
    simp (disch := omega) only [ao, mo]
    exact hO
  · unfold pD at hD ⊢
    simp (disch := omega) only [ao, mo]
    exact hD
  · obtain ⟨c', c1, c2⟩ := hC i' hi'
    by_cases e : i' = i
    · subst e
      have : c' = c := by
        have q := c1.1; have q' := c1.2.2.1
        rw [hc] at q
        exact ((nI_eq (by omega) (by omega)).mp q).symm
      subst this
      obtain ⟨d1, d2, d3, d4⟩ := c1
      obtain ⟨w1, w2, w3, w4, w5⟩ := c2
      obtain ⟨m17, m18, m19, m20⟩ := aIns_m i' c' m (al 11 t 1) (nI t) v al
      have lo : ∀ {a : Nat} (k : Nat), (17 ≤ a ∧ a ≤ 20) → k < m → aIns i' c' m (al 11 t 1) (nI t) v al a i' k = al a i' k := fun k h hk => aIns_lo i' c' m (al 11 t 1) (nI t) v al k h hk
      have hi2 : ∀ {a : Nat} (k : Nat), (17 ≤ a ∧ a ≤ 20) → m < k → k ≤ c' → aIns i' c' m (al 11 t 1) (nI t) v al a i' k = al a i' (k - 1) := fun k h h1 h2 => aIns_hi i' c' m (al 11 t 1) (nI t) v al k h h1 h2
      refine ⟨c' + 1, ⟨aIns_c _ _ _ _ _ _ _ hmc, umS _ _ _ _, by omega, fun k hk => ?_⟩, by omega, fun k k' hk hk' => ?_, fun k hk => ?_, ?_, fun s hs hus => ?_⟩
      · simp (disch := omega) only [umK]
        by_cases k1 : k < m
        · have z0 := q3 k 0 (by omega) (by omega)
          have z1 := q3 k 1 (by omega) (by omega)
          have z2 := q3 k 2 (by omega) (by omega)
          have z3 := q3 k 3 (by omega) (by omega)
          rw [Nat.add_zero] at z0
          simp (disch := omega) only [mPut_j, lo, z0, z1, z2, z3]
          exact d4 k (by omega)
        · by_cases k2 : k = m
          · subst k2
            simp only [mPut_0, mPut_1, mPut_2, mPut_3, m17, m18, m19, m20, and_self]
          · have z0 := q4 k 0 (by omega) (by omega) (by omega)
            have z1 := q4 k 1 (by omega) (by omega) (by omega)
            have z2 := q4 k 2 (by omega) (by omega) (by omega)
            have z3 := q4 k 3 (by omega) (by omega) (by omega)
            simp only [Nat.add_zero] at z0
            simp (disch := omega) only [mPut_j, hi2, z0, z1, z2, z3]
            exact d4 (k - 1) (by omega)
      · have val : ∀ k, k ≤ c' → (k < m ∧ aIns i' c' m (al 11 t 1) (nI t) v al 17 i' k = al 17 i' k) ∨ (k = m ∧ aIns i' c' m (al 11 t 1) (nI t) v al 17 i' k = al 11 t 1) ∨ (m < k ∧ aIns i' c' m (al 11 t 1) (nI t) v al 17 i' k = al 17 i' (k - 1)) := fun k hk => by
          by_cases k1 : k < m
          · exact Or.inl ⟨k1, lo k (by omega) k1⟩
          · by_cases k2 : k = m
            · exact Or.inr (Or.inl ⟨k2, by subst k2; exact m17⟩)
            · exact Or.inr (Or.inr ⟨by omega, hi2 k (by omega) (by omega) (by omega)⟩)
        rcases val k (by omega) with ⟨a, b⟩ | ⟨a, b⟩ | ⟨a, b⟩ <;> rcases val k' (by omega) with ⟨a', b'⟩ | ⟨a', b'⟩ | ⟨a', b'⟩ <;> rw [b, b']
        · exact w2 k k' hk (by omega)
        · exact hlo k a
        · have := hlo k a; have := hhi (k' - 1) (by omega) (by omega); omega
        · omega
        · omega
        · exact hhi (k' - 1) (by omega) (by omega)
        · omega
        · omega
        · exact w2 (k - 1) (k' - 1) (by omega) (by omega)
      · by_cases k1 : k < m
        · simp (disch := omega) only [lo, ao]
          exact w3 k (by omega)
        · by_cases k2 : k = m
          · subst k2
            simp (disch := omega) only [m17, m20, ao]
            exact Or.inr ⟨t, ht, rfl, rfl, by rw [ha]; decide⟩
          · simp (disch := omega) only [hi2, ao]
            exact w3 (k - 1) (by omega)
      · simp (disch := omega) only [lo, ao]
        exact w4
      · unfold un at hus
        simp (disch := omega) only [lo, ao] at hus ⊢
        exact w5 s hs hus
    · refine ⟨c', ?_, ?_⟩
      · obtain ⟨d1, d2, d3, d4⟩ := c1
        refine ⟨?_, ?_, d3, fun k hk => ?_⟩
        · rw [ao _ _ (by omega)]; exact d1
        · rw [umJ _ _ _ e, mPut_k _ _ _ _ _ _ _ _ (by decide), q1 _ _ (by decide)]; exact d2
        · simp (disch := omega) only [ao, umK, mPut_j, q2]
          exact d4 k hk
      · unfold pW un at c2 ⊢
        simp (disch := omega) only [ao]
        exact c2
  · unfold pEv pu_E at hE ⊢
    simp (disch := omega) only [ao, mo]
    exact hE
