/-! reads -/
def pP (al al' : pu_A) (mu mu' : pu_M) : Prop := (∀ s, al' 11 s 1 = al 11 s 1 ∧ al' 11 s 5 = al 11 s 5) ∧ (∀ a b j, a < 4 ∨ (11 < a ∧ a < 15) → al' a b j = al a b j) ∧ (∀ a j, (a = 30 ∧ (j < 14 ∨ 18 < j)) ∨ 41 < a → mu' a j = mu a j)
theorem pP_refl (al : pu_A) (mu : pu_M) : pP al al mu mu := ⟨fun _ => ⟨rfl, rfl⟩, fun _ _ _ _ => rfl, fun _ _ _ => rfl⟩
theorem pP_trans {al al1 al2 : pu_A} {mu mu1 mu2 : pu_M} (h1 : pP al al1 mu mu1) (h2 : pP al1 al2 mu1 mu2) : pP al al2 mu mu2 := ⟨fun s => ⟨by rw [(h2.1 s).1, (h1.1 s).1], by rw [(h2.1 s).2, (h1.1 s).2]⟩, fun a b j h => by rw [h2.2.1 a b j h, h1.2.1 a b j h], fun a j h => by rw [h2.2.2 a j h, h1.2.2 a j h]⟩
theorem pS_read {al : pu_A} {mu : pu_M} {p n nx i c k : Nat} (x : Int32) (hS : pS al mu p n nx) (hi : i < 8) (hc : al 16 i 0 = nI c) (hc17 : c ≤ 17) (hk : k < c) : pS (ua al 18 i k x) (um mu 39 (4 * (20 * i + k) + 1) x) p n nx := by
  obtain ⟨hG, hT, hO, hD, hC, hE⟩ := hS
  refine ⟨?_, ?_, ?_, ?_, fun i' hi' => ?_, ?_⟩
  · unfold pG at hG ⊢
    simp (disch := omega) only [uaK, umK]
    exact hG
  · unfold pT at hT ⊢
    simp (disch := omega) only [uaK, umK]
    exact hT
  · unfold pO at hO ⊢
    simp (disch := omega) only [uaK, umK]
    exact hO
  · unfold pD at hD ⊢
    simp (disch := omega) only [uaK, umK]
    exact hD
  · obtain ⟨c', c1, c2⟩ := hC i' hi'
    refine ⟨c', ?_, ?_⟩
    · obtain ⟨d1, d2, d3, d4⟩ := c1
      refine ⟨?_, ?_, d3, fun k' hk' => ?_⟩
      · simp (disch := omega) only [uaK]; exact d1
      · simp (disch := omega) only [umK]; exact d2
      · have := d4 k' hk'
        by_cases e : i' = i
        · subst e
          by_cases e2 : k' = k
          · subst e2
            simp (disch := omega) only [uaK, uaS, umS, umJ]
            exact ⟨this.1, trivial, this.2.2⟩
          · simp (disch := omega) only [uaK, uaJ, umJ]
            exact this
        · simp (disch := omega) only [uaK, uaI, umJ]
          exact this
    · unfold pW un at c2 ⊢
      simp (disch := omega) only [uaK]
      exact c2
  · unfold pEv pu_E at hE ⊢
    simp (disch := omega) only [uaK, umK]
    exact hE
theorem pS_dep {al : pu_A} {mu : pu_M} {p n nx t w : Nat} (hS : pS al mu p n nx) (ht : t < n) (hw : w < n) (hu : un al w) : pS (ua al 11 t 4 (al 11 t 4 ||| (nI 1 <<< (nI w &&& 31)))) (um mu 37 t (mu 37 t ||| (nI 1 <<< (nI w &&& 31)))) p n nx := by
  obtain ⟨hG, hT, hO, hD, hC, hE⟩ := hS
  have hn : n ≤ 16 := hG.2.2.2.2.2.2.2.2.2
  refine ⟨?_, ?_, ?_, fun s hs j hj => ?_, ?_, ?_⟩
  · unfold pG at hG ⊢
    simp (disch := omega) only [uaK, umK]
    exact hG
  · unfold pT at hT ⊢
    simp (disch := omega) only [uaJ, umK]
    exact hT
  · unfold pO at hO ⊢
    simp (disch := omega) only [uaJ, uaK, umK]
    exact hO
  · have := hD s hs j hj
    by_cases e : s = t
    · subst e
      simp (disch := omega) only [uaS, umS, uaJ]
      rw [bt_set _ (by omega) hj, bt_set _ (by omega) hj, Bool.or_eq_true, Bool.or_eq_true, decide_eq_true_iff, this.1]
      constructor
      · constructor
        · rintro (a | rfl)
          · exact ⟨Or.inl a.1, a.2⟩
          · exact ⟨Or.inr rfl, un_ne2 hu⟩
        · rintro ⟨a | rfl, b⟩
          · exact Or.inl ⟨a, b⟩
          · exact Or.inr rfl
      · rintro (a | rfl)
        · exact this.2 a
        · exact hw
    · simp (disch := omega) only [uaI, uaJ, umJ]
      exact this
  · unfold pCs pC pW un at hC ⊢
    simp (disch := omega) only [uaJ, uaK, umK]
    exact hC
  · unfold pEv pu_E at hE ⊢
    simp (disch := omega) only [uaK, umK]
    exact hE
theorem pR_dep {al : pu_A} {n t w : Nat} (hR : pR al n) (ht : t < n) (hn : n ≤ 16) (hw : w < n) (hu : un al w) (hut : un al t) : pR (ua al 11 t 4 (al 11 t 4 ||| (nI 1 <<< (nI w &&& 31)))) n := by
  intro s hs j hj hb
  have uq : ∀ s, un (ua al 11 t 4 (al 11 t 4 ||| (nI 1 <<< (nI w &&& 31)))) s ↔ un al s := fun s => by
    unfold un; rw [uaJ _ _ _ _ _ (by decide)]
  rw [uq, uq]
  by_cases e : s = t
  · subst e
    rw [uaS, bt_set _ (by omega) hj, Bool.or_eq_true, decide_eq_true_iff] at hb
    rcases hb with hb | rfl
    · exact hR s hs j hj hb
    · exact ⟨hu, hut⟩
  · rw [uaI _ _ _ _ _ e] at hb
    exact hR s hs j hj hb
theorem c_raise2 (al : pu_A) (u : ts_Mem) (i k : Nat) (T : Int32) (hk : k < 17) : f_X1_raiseReadTime 0 i (nI k) T (ca al u) = some (ca (ua al 18 i k (if al 18 i k < T then T else al 18 i k)) u) := by
  rw [c_raise al u i k T hk]
  by_cases e : T ≤ al 18 i k
  · rw [if_pos e, if_neg (Int32.not_lt.mpr e)]
    congr 2
    funext a b c
    unfold ua
    split
    · rename_i h; rw [h.1, h.2.1, h.2.2]
    · rfl
  · rw [if_neg e, if_pos (Int32.not_le.mp e)]
theorem c_uwT {al : pu_A} {n w : Nat} (u : ts_Mem) (hnn : al 1 0 2 = nI n) (hn : n ≤ 16) (hw : w < n) (h : un al w) : f_X0_isUncommittedWriter 0 (nI w) (ca al u) = some (nI 1) := by
  unfold f_X0_isUncommittedWriter
  simp (disch := omega) only [li0, li1, li2, li3, li4, li5, li6, li7, li8, li9, li10, li16, li17, li20, li30, li32, li48, li49, li50, li57, li60, li126, li147, nI_add, nI_sb, pk_mul, nI_m1, inrT, leT, leF, ltT, ltF, eqT, eqF, n1lt, m1lt, m1neg, m1nle, m1le, m1a1, m1a2, m1s, m1s', nI_cl, ↓tl, ↓sb, sb, sel, ser, ↓reduceIte, if_true, if_false, true_or, or_true, false_or, or_false, umS, umK, umJ, uaS, uaK, uaI, uaJ, cg1, cg2, cg3, cg4, cg5, cg6, cg7, cg8, cg9, cg10, cg11, cg12, cg13, cg14, cg15, cg16, cg17, cg18, cg19, cg20, cs1, cs2, cs3, cs4, cs5, cs6, cs7, cs8, cs9, cs10, cs11, cs12, cs13, cs14, cs15, cs16, cs17, cs18, cs19, cs20, cc17, cc18, cc19, cc20, hnn, c_unT u h]
theorem c_uwF {al : pu_A} {n w : Nat} (u : ts_Mem) (hnn : al 1 0 2 = nI n) (hn : n ≤ 16) (hw : w < n) (h : ¬ un al w) : f_X0_isUncommittedWriter 0 (nI w) (ca al u) = some (nI 0) := by
  unfold f_X0_isUncommittedWriter
  simp (disch := omega) only [li0, li1, li2, li3, li4, li5, li6, li7, li8, li9, li10, li16, li17, li20, li30, li32, li48, li49, li50, li57, li60, li126, li147, nI_add, nI_sb, pk_mul, nI_m1, inrT, leT, leF, ltT, ltF, eqT, eqF, n1lt, m1lt, m1neg, m1nle, m1le, m1a1, m1a2, m1s, m1s', nI_cl, ↓tl, ↓sb, sb, sel, ser, ↓reduceIte, if_true, if_false, true_or, or_true, false_or, or_false, umS, umK, umJ, uaS, uaK, uaI, uaJ, cg1, cg2, cg3, cg4, cg5, cg6, cg7, cg8, cg9, cg10, cg11, cg12, cg13, cg14, cg15, cg16, cg17, cg18, cg19, cg20, cs1, cs2, cs3, cs4, cs5, cs6, cs7, cs8, cs9, cs10, cs11, cs12, cs13, cs14, cs15, cs16, cs17, cs18, cs19, cs20, cc17, cc18, cc19, cc20, hnn, c_unF u h]
theorem c_uwN {al : pu_A} (u : ts_Mem) : f_X0_isUncommittedWriter 0 (-nI 1) (ca al u) = some (nI 0) := by
  unfold f_X0_isUncommittedWriter
  simp (disch := omega) only [li0, li1, li2, li3, li4, li5, li6, li7, li8, li9, li10, li16, li17, li20, li30, li32, li48, li49, li50, li57, li60, li126, li147, nI_add, nI_sb, pk_mul, nI_m1, inrT, leT, leF, ltT, ltF, eqT, eqF, n1lt, m1lt, m1neg, m1nle, m1le, m1a1, m1a2, m1s, m1s', nI_cl, ↓tl, ↓sb, sb, sel, ser, ↓reduceIte, if_true, if_false, true_or, or_true, false_or, or_false, umS, umK, umJ, uaS, uaK, uaI, uaJ]
theorem r_unN {mu : pu_M} (u : ts_Mem) : f_X7_isUncommitted (-nI 1) (ma mu u) = some (nI 0) := by
  unfold f_X7_isUncommitted
  simp (disch := omega) only [li0, li1, li2, li3, li4, li5, li6, li7, li8, li9, li10, li16, li17, li20, li30, li32, li48, li49, li50, li57, li60, li126, li147, nI_add, nI_sb, pk_mul, nI_m1, inrT, leT, leF, ltT, ltF, eqT, eqF, n1lt, m1lt, m1neg, m1nle, m1le, m1a1, m1a2, m1s, m1s', nI_cl, ↓tl, ↓sb, sb, sel, ser, ↓reduceIte, if_true, if_false, true_or, or_true, false_or, or_false, umS, umK, umJ, uaS, uaK, uaI, uaJ]
theorem bxx {α β : Type} {a : Option α} {x : α} (h : a = some x) (B : α → Option β) : a.bind B = B x := by rw [h]; rfl
theorem rd {al : pu_A} {mu : pu_M} {p n nx t i : Nat} (hS : pS al mu p n nx) (hR : pR al n) (ht : t < n) (ha : al 11 t 0 = nI 0) (hi : i < 8) : ((∀ u, f_X0_readItem 0 (nI t) (nI i) (ca al u) = some (-nI 1, ca al u)) ∧ (∀ u, f_X7_doRead (nI t) (nI i) (ma mu u) = (f_X7_doAbort 17 (nI t) (nI 6) (nI i) (ma mu u)).bind (fun q => some (nI 0, q.2)))) ∨ ∃ al' mu' k, k < 17 ∧ (∀ u, f_X0_readItem 0 (nI t) (nI i) (ca al u) = some (nI k, ca al' u)) ∧ (∀ u, f_X7_doRead (nI t) (nI i) (ma mu u) = some (nI 1, ma mu' u)) ∧ mu' 30 16 = al' 19 i k ∧ pS al' mu' p n nx ∧ pR al' n ∧ al' 11 t 0 = nI 0 ∧ pP al al' mu mu' := by
  have hS' := hS
  obtain ⟨⟨g1, g2, g3, g4, g5, g6, g7, g8, g9, g10⟩, hT, hO, hD, hCs, hE⟩ := hS'
  obtain ⟨c, hC, hW⟩ := hCs i hi
  have hC' := hC
  obtain ⟨d1, d2, d3, d4⟩ := hC'
  obtain ⟨w1, w2, w3, w4, w5⟩ := hW
  obtain ⟨-, t1, t2, -⟩ := hT t ht
  have hu : un al t := Or.inl ha
  have hla := fun u => c_la al u i c (al 11 t 1) d1 d3
  have hlr := fun u => r_lut (al := al) (mu := mu) u (al 11 t 1) hi hC
  obtain ⟨m, hm⟩ : ∃ m, la (al 17 i) (al 11 t 1) c = m := ⟨_, rfl⟩
  have hml := la_le (al 17 i) (al 11 t 1) c
  have hmat := la_at (al 17 i) (al 11 t 1) c
  have hmgt := la_gt (al 17 i) (al 11 t 1) c
  rw [hm] at hml hmat hmgt
  have hm1 : 1 ≤ m := by
    apply Nat.lt_of_not_le
    intro q
    have := hmgt 0 q (by omega)
    rw [Int32.le_iff_toInt_le] at this
    exact this (w5 t ht hu)
  simp only [hm, ixN_p hm1] at hla hlr
  have hlrB : ∀ u (B : Int32 → Option (Int32 × ts_Mem)), (f_X7_lastUpTo (nI i) (ts_gI (ma mu u) (32, 0, 0) (nI t).toNatClampNeg) (ma mu u)).bind B = B (nI (m - 1)) := fun u B => by
    rw [nI_cl (show t < 2 ^ 31 by omega), mg32, t2]
    exact bxx (hlr u) B
  have hwcB : ∀ u (B : Int32 → Option (Int32 × ts_Mem)), (f_X7_written (nI i) (ts_gI (ma mu u) (38, 0, 0) (nI i).toNatClampNeg - 1) (ma mu u)).bind B = B (al 17 i (c - 1)) := fun u B => by
    rw [nI_cl (show i < 2 ^ 31 by omega), mg38, d2, show nI c - 1 = nI (c - 1) from nI_sb (b := 1) (by omega)]
    exact bxx (r_wr (al := al) (mu := mu) u hi hC (show c - 1 < c by omega)) B
  by_cases late : p < 2 ∧ m < c
  · -- too late
    left
    have hgt : ¬ al 17 i (c - 1) ≤ al 11 t 1 := hmgt (c - 1) (by omega) (by omega)
    refine ⟨fun u => ?_, fun u => ?_⟩
    · unfold f_X0_readItem
      simp (disch := omega) only [li0, li1, li2, li3, li4, li5, li6, li7, li8, li9, li10, li16, li17, li20, li30, li32, li48, li49, li50, li57, li60, li126, li147, nI_add, nI_sb, pk_mul, nI_m1, inrT, leT, leF, ltT, ltF, eqT, eqF, n1lt, m1lt, m1neg, m1nle, m1le, m1a1, m1a2, m1s, m1s', nI_cl, ↓tl, ↓sb, sb, sel, ser, ↓reduceIte, if_true, if_false, true_or, or_true, false_or, or_false, umS, umK, umJ, uaS, uaK, uaI, uaJ, cg1, cg2, cg3, cg4, cg5, cg6, cg7, cg8, cg9, cg10, cg11, cg12, cg13, cg14, cg15, cg16, cg17, cg18, cg19, cg20, cs1, cs2, cs3, cs4, cs5, cs6, cs7, cs8, cs9, cs10, cs11, cs12, cs13, cs14, cs15, cs16, cs17, cs18, cs19, cs20, cc17, cc18, cc19, cc20, g1, d1, hla]
    · unfold f_X7_doRead
      simp (disch := omega) only [li0, li1, li2, li3, li4, li5, li6, li7, li8, li9, li10, li16, li17, li20, li30, li32, li48, li49, li50, li57, li60, li126, li147, nI_add, nI_sb, pk_mul, nI_m1, inrT, leT, leF, ltT, ltF, eqT, eqF, n1lt, m1lt, m1neg, m1nle, m1le, m1a1, m1a2, m1s, m1s', nI_cl, ↓tl, ↓sb, sb, sel, ser, ↓reduceIte, if_true, if_false, true_or, or_true, false_or, or_false, umS, umK, umJ, uaS, uaK, uaI, uaJ, mg30, mg31, mg32, mg33, mg34, mg35, mg36, mg37, mg38, mg39, mg40, mg41, mg42, mg43, mg44, mg45, mg46, mg47, mg48, mg49, ms30, ms31, ms32, ms33, ms34, ms35, ms36, ms37, ms38, ms39, ms40, ms41, ms42, ms43, ms44, ms45, ms46, ms47, ms48, ms49, ↓hwcB, g2, t2, if_neg hgt]
  · right
    have e0 := d4 (m - 1) (by omega)
    have hcr := fun u => c_raise2 al u i (m - 1) (al 11 t 1) (by omega)
    have hS1 := pS_read (if al 18 i (m - 1) < al 11 t 1 then al 11 t 1 else al 18 i (m - 1)) hS hi d1 d3 (show m - 1 < c by omega)
    have hle : p < 2 → m = c ∧ al 17 i (c - 1) ≤ al 11 t 1 := fun h => by
      have : m = c := by omega
      subst this
      exact ⟨rfl, hmat hm1⟩
    -- the state behind the raised time, and the writer
    obtain ⟨al1, hal1⟩ : ∃ x, x = ua al 18 i (m - 1) (if al 18 i (m - 1) < al 11 t 1 then al 11 t 1 else al 18 i (m - 1)) := ⟨_, rfl⟩
    obtain ⟨mu1, hmu1⟩ : ∃ x, x = um mu 39 (4 * (20 * i + (m - 1)) + 1) (if al 18 i (m - 1) < al 11 t 1 then al 11 t 1 else al 18 i (m - 1)) := ⟨_, rfl⟩
    rw [← hal1, ← hmu1] at hS1
    rw [← hal1] at hcr
    have a11 : ∀ s j, al1 11 s j = al 11 s j := fun s j => by rw [hal1, uaK _ _ _ _ _ _ (by decide)]
    have uq : ∀ s, un al1 s ↔ un al s := fun s => by unfold un; rw [a11]
    have hR1 : pR al1 n := fun s hs j hj hb => by
      rw [uq, uq]; rw [a11] at hb; exact hR s hs j hj hb
    have g8' : al1 1 0 2 = nI n := by rw [hal1, uaK _ _ _ _ _ _ (by decide)]; exact g8
    have hT1 := hS1.2.1
    have wr1 : al1 20 i (m - 1) = al 20 i (m - 1) := by rw [hal1, uaK _ _ _ _ _ _ (by decide)]
    have wr2 : mu1 39 (4 * (20 * i + (m - 1)) + 3) = al 20 i (m - 1) := by rw [hmu1, umJ _ _ _ (by omega)]; exact e0.2.2.2
    have wr3 : mu1 39 (4 * (20 * i + (m - 1)) + 2) = al 19 i (m - 1) := by rw [hmu1, umJ _ _ _ (by omega)]; exact e0.2.2.1
    have hP1 : pP al al1 mu mu1 := by
      rw [hal1, hmu1]
      refine ⟨fun s => ?_, fun a b j h => ?_, fun a j h => ?_⟩
      · simp (disch := omega) only [uaK, and_self]
      · rw [uaK _ _ _ _ _ _ (by omega)]
      · rw [umK _ _ _ _ (by omega)]
    -- with or without a new dependency
    have fin : ∀ al2 mu2, pS al2 mu2 p n nx → pR al2 n → al2 11 t 0 = nI 0 → pP al1 al2 mu1 mu2 → al2 19 i (m - 1) = al 19 i (m - 1) → (∀ al' u, (∀ u, f_X2_note 0 (nI 1) (nI t) (nI i) (ca al2 u) = some (ca al' u)) → f_X0_readItem 0 (nI t) (nI i) (ca al u) = some (nI (m - 1), ca al' u)) → (∀ mu' u, (∀ u, f_X7_record (nI 1) (nI t) (nI i) (ma (um mu2 30 16 (al 19 i (m - 1))) u) = some (ma mu' u)) → f_X7_doRead (nI t) (nI i) (ma mu u) = some (nI 1, ma mu' u)) → ∃ al' mu' k, k < 17 ∧ (∀ u, f_X0_readItem 0 (nI t) (nI i) (ca al u) = some (nI k, ca al' u)) ∧ (∀ u, f_X7_doRead (nI t) (nI i) (ma mu u) = some (nI 1, ma mu' u)) ∧ mu' 30 16 = al' 19 i k ∧ pS al' mu' p n nx ∧ pR al' n ∧ al' 11 t 0 = nI 0 ∧ pP al al' mu mu' := by
      intro al2 mu2 hS2 hR2 hs2 hP2 hv2 hcl hrf
      have hE2 : pEv al2 (um mu2 30 16 (al 19 i (m - 1))) := by
        have := hS2.2.2.2.2.2
        unfold pEv pu_E at this ⊢
        simp (disch := omega) only [umJ, umK]
        exact this
      obtain ⟨al3, mu3, s0, s1, s2, s3, s4⟩ := n_note 1 (nI t) (nI i) (by omega) hE2
      refine ⟨al3, mu3, m - 1, by omega, fun u => hcl al3 u s0, fun u => hrf mu3 u s1, ?_, ?_, ?_, ?_, ?_⟩
      · rw [s3 _ _ _ (by omega), hv2, s4 _ _ (by decide) (by decide) (by omega), umS]
      · exact pS_cg hS2 (fun a b j h => s3 a b j (by omega)) (fun a j h => by rw [s4 a j (by omega) (by omega) (by omega)]; unfold um; rw [if_neg (by omega)]) s2
      · intro s hs j hj hb
        have uq3 : ∀ s, un al3 s ↔ un al2 s := fun s => by unfold un; rw [s3 _ _ _ (by omega)]
        rw [uq3, uq3]; rw [s3 _ _ _ (by omega)] at hb; exact hR2 s hs j hj hb
      · rw [s3 _ _ _ (by omega)]; exact hs2
      · refine pP_trans (pP_trans hP1 hP2) ⟨fun s => ?_, fun a b j h => ?_, fun a j h => ?_⟩
        · simp (disch := omega) only [s3, and_self]
        · rw [s3 a b j (by omega)]
        · rw [s4 a j (by omega) (by omega) (by omega)]; unfold um; rw [if_neg (by omega)]
    have v1 : al1 19 i (m - 1) = al 19 i (m - 1) := by rw [hal1, uaK _ _ _ _ _ _ (by decide)]
    have mq : um mu 39 (4 * (20 * i + (m - 1)) + 1) (if al 18 i (m - 1) < al 11 t 1 then al 11 t 1 else al 18 i (m - 1)) = mu1 := hmu1.symm
    -- without
    have plain : (al 20 i (m - 1) = nI t ∨ ((∀ u, f_X0_isUncommittedWriter 0 (al 20 i (m - 1)) (ca al1 u) = some (nI 0)) ∧ ¬ al 20 i (m - 1) = nI t ∧ (∀ u, f_X7_isUncommitted (al 20 i (m - 1)) (ma mu1 u) = some (nI 0)))) → ∃ al' mu' k, k < 17 ∧ (∀ u, f_X0_readItem 0 (nI t) (nI i) (ca al u) = some (nI k, ca al' u)) ∧ (∀ u, f_X7_doRead (nI t) (nI i) (ma mu u) = some (nI 1, ma mu' u)) ∧ mu' 30 16 = al' 19 i k ∧ pS al' mu' p n nx ∧ pR al' n ∧ al' 11 t 0 = nI 0 ∧ pP al al' mu mu' := by
      intro hyp
      refine fin al1 mu1 hS1 hR1 (by rw [a11]; exact ha) (pP_refl _ _) v1 (fun al' u h => ?_) (fun mu' u h => ?_)
      · unfold f_X0_readItem
        rcases hyp with e | ⟨e1, e2, e3⟩
        · by_cases hp : p = 2
          · subst hp
            simp (disch := omega) only [li0, li1, li2, li3, li4, li5, li6, li7, li8, li9, li10, li16, li17, li20, li30, li32, li48, li49, li50, li57, li60, li126, li147, nI_add, nI_sb, pk_mul, nI_m1, inrT, leT, leF, ltT, ltF, eqT, eqF, n1lt, m1lt, m1neg, m1nle, m1le, m1a1, m1a2, m1s, m1s', nI_cl, ↓tl, ↓sb, sb, sel, ser, ↓reduceIte, if_true, if_false, true_or, or_true, false_or, or_false, umS, umK, umJ, uaS, uaK, uaI, uaJ, cg1, cg2, cg3, cg4, cg5, cg6, cg7, cg8, cg9, cg10, cg11, cg12, cg13, cg14, cg15, cg16, cg17, cg18, cg19, cg20, cs1, cs2, cs3, cs4, cs5, cs6, cs7, cs8, cs9, cs10, cs11, cs12, cs13, cs14, cs15, cs16, cs17, cs18, cs19, cs20, cc17, cc18, cc19, cc20, g1, d1, hla, hcr, wr1, e, h]
          · have := hle (by omega)
            simp (disch := omega) only [li0, li1, li2, li3, li4, li5, li6, li7, li8, li9, li10, li16, li17, li20, li30, li32, li48, li49, li50, li57, li60, li126, li147, nI_add, nI_sb, pk_mul, nI_m1, inrT, leT, leF, ltT, ltF, eqT, eqF, n1lt, m1lt, m1neg, m1nle, m1le, m1a1, m1a2, m1s, m1s', nI_cl, ↓tl, ↓sb, sb, sel, ser, ↓reduceIte, if_true, if_false, true_or, or_true, false_or, or_false, umS, umK, umJ, uaS, uaK, uaI, uaJ, cg1, cg2, cg3, cg4, cg5, cg6, cg7, cg8, cg9, cg10, cg11, cg12, cg13, cg14, cg15, cg16, cg17, cg18, cg19, cg20, cs1, cs2, cs3, cs4, cs5, cs6, cs7, cs8, cs9, cs10, cs11, cs12, cs13, cs14, cs15, cs16, cs17, cs18, cs19, cs20, cc17, cc18, cc19, cc20, g1, d1, hla, hcr, wr1, e, h]
        · by_cases hp : p = 2
          · subst hp
            simp (disch := omega) only [li0, li1, li2, li3, li4, li5, li6, li7, li8, li9, li10, li16, li17, li20, li30, li32, li48, li49, li50, li57, li60, li126, li147, nI_add, nI_sb, pk_mul, nI_m1, inrT, leT, leF, ltT, ltF, eqT, eqF, n1lt, m1lt, m1neg, m1nle, m1le, m1a1, m1a2, m1s, m1s', nI_cl, ↓tl, ↓sb, sb, sel, ser, ↓reduceIte, if_true, if_false, true_or, or_true, false_or, or_false, umS, umK, umJ, uaS, uaK, uaI, uaJ, cg1, cg2, cg3, cg4, cg5, cg6, cg7, cg8, cg9, cg10, cg11, cg12, cg13, cg14, cg15, cg16, cg17, cg18, cg19, cg20, cs1, cs2, cs3, cs4, cs5, cs6, cs7, cs8, cs9, cs10, cs11, cs12, cs13, cs14, cs15, cs16, cs17, cs18, cs19, cs20, cc17, cc18, cc19, cc20, g1, d1, hla, hcr, wr1, if_neg e2, e1, h]
          · have := hle (by omega)
            simp (disch := omega) only [li0, li1, li2, li3, li4, li5, li6, li7, li8, li9, li10, li16, li17, li20, li30, li32, li48, li49, li50, li57, li60, li126, li147, nI_add, nI_sb, pk_mul, nI_m1, inrT, leT, leF, ltT, ltF, eqT, eqF, n1lt, m1lt, m1neg, m1nle, m1le, m1a1, m1a2, m1s, m1s', nI_cl, ↓tl, ↓sb, sb, sel, ser, ↓reduceIte, if_true, if_false, true_or, or_true, false_or, or_false, umS, umK, umJ, uaS, uaK, uaI, uaJ, cg1, cg2, cg3, cg4, cg5, cg6, cg7, cg8, cg9, cg10, cg11, cg12, cg13, cg14, cg15, cg16, cg17, cg18, cg19, cg20, cs1, cs2, cs3, cs4, cs5, cs6, cs7, cs8, cs9, cs10, cs11, cs12, cs13, cs14, cs15, cs16, cs17, cs18, cs19, cs20, cc17, cc18, cc19, cc20, g1, d1, hla, hcr, wr1, if_neg e2, e1, h]
      · unfold f_X7_doRead f_X7_place
        rcases hyp with e | ⟨e1, e2, e3⟩
        · by_cases hp : p = 2
          · subst hp
            simp (disch := omega) only [li0, li1, li2, li3, li4, li5, li6, li7, li8, li9, li10, li16, li17, li20, li30, li32, li48, li49, li50, li57, li60, li126, li147, nI_add, nI_sb, pk_mul, nI_m1, inrT, leT, leF, ltT, ltF, eqT, eqF, n1lt, m1lt, m1neg, m1nle, m1le, m1a1, m1a2, m1s, m1s', nI_cl, ↓tl, ↓sb, sb, sel, ser, ↓reduceIte, if_true, if_false, true_or, or_true, false_or, or_false, umS, umK, umJ, uaS, uaK, uaI, uaJ, mg30, mg31, mg32, mg33, mg34, mg35, mg36, mg37, mg38, mg39, mg40, mg41, mg42, mg43, mg44, mg45, mg46, mg47, mg48, mg49, ms30, ms31, ms32, ms33, ms34, ms35, ms36, ms37, ms38, ms39, ms40, ms41, ms42, ms43, ms44, ms45, ms46, ms47, ms48, ms49, ↓hlrB, g2, d2, t2, e0, mq, wr2, wr3, e, h]
          · obtain ⟨rfl, h5⟩ := hle (by omega)
            simp (disch := omega) only [li0, li1, li2, li3, li4, li5, li6, li7, li8, li9, li10, li16, li17, li20, li30, li32, li48, li49, li50, li57, li60, li126, li147, nI_add, nI_sb, pk_mul, nI_m1, inrT, leT, leF, ltT, ltF, eqT, eqF, n1lt, m1lt, m1neg, m1nle, m1le, m1a1, m1a2, m1s, m1s', nI_cl, ↓tl, ↓sb, sb, sel, ser, ↓reduceIte, if_true, if_false, true_or, or_true, false_or, or_false, umS, umK, umJ, uaS, uaK, uaI, uaJ, mg30, mg31, mg32, mg33, mg34, mg35, mg36, mg37, mg38, mg39, mg40, mg41, mg42, mg43, mg44, mg45, mg46, mg47, mg48, mg49, ms30, ms31, ms32, ms33, ms34, ms35, ms36, ms37, ms38, ms39, ms40, ms41, ms42, ms43, ms44, ms45, ms46, ms47, ms48, ms49, ↓hwcB, g2, d2, t2, if_pos h5, e0, mq, wr2, wr3, e, h]
        · by_cases hp : p = 2
          · subst hp
            simp (disch := omega) only [li0, li1, li2, li3, li4, li5, li6, li7, li8, li9, li10, li16, li17, li20, li30, li32, li48, li49, li50, li57, li60, li126, li147, nI_add, nI_sb, pk_mul, nI_m1, inrT, leT, leF, ltT, ltF, eqT, eqF, n1lt, m1lt, m1neg, m1nle, m1le, m1a1, m1a2, m1s, m1s', nI_cl, ↓tl, ↓sb, sb, sel, ser, ↓reduceIte, if_true, if_false, true_or, or_true, false_or, or_false, umS, umK, umJ, uaS, uaK, uaI, uaJ, mg30, mg31, mg32, mg33, mg34, mg35, mg36, mg37, mg38, mg39, mg40, mg41, mg42, mg43, mg44, mg45, mg46, mg47, mg48, mg49, ms30, ms31, ms32, ms33, ms34, ms35, ms36, ms37, ms38, ms39, ms40, ms41, ms42, ms43, ms44, ms45, ms46, ms47, ms48, ms49, ↓hlrB, g2, d2, t2, e0, mq, wr2, wr3, if_neg e2, e3, h]
          · obtain ⟨rfl, h5⟩ := hle (by omega)
            simp (disch := omega) only [li0, li1, li2, li3, li4, li5, li6, li7, li8, li9, li10, li16, li17, li20, li30, li32, li48, li49, li50, li57, li60, li126, li147, nI_add, nI_sb, pk_mul, nI_m1, inrT, leT, leF, ltT, ltF, eqT, eqF, n1lt, m1lt, m1neg, m1nle, m1le, m1a1, m1a2, m1s, m1s', nI_cl, ↓tl, ↓sb, sb, sel, ser, ↓reduceIte, if_true, if_false, true_or, or_true, false_or, or_false, umS, umK, umJ, uaS, uaK, uaI, uaJ, mg30, mg31, mg32, mg33, mg34, mg35, mg36, mg37, mg38, mg39, mg40, mg41, mg42, mg43, mg44, mg45, mg46, mg47, mg48, mg49, ms30, ms31, ms32, ms33, ms34, ms35, ms36, ms37, ms38, ms39, ms40, ms41, ms42, ms43, ms44, ms45, ms46, ms47, ms48, ms49, ↓hwcB, g2, d2, t2, if_pos h5, e0, mq, wr2, wr3, if_neg e2, e3, h]
    rcases w3 (m - 1) (by omega) with ⟨b1, -⟩ | ⟨w, b1, b2, b3, b4⟩
    · exact plain (Or.inr ⟨fun u => by rw [b1]; exact c_uwN u, by rw [b1, m1lt (by omega)]; exact id, fun u => by rw [b1]; exact r_unN u⟩)
    · by_cases ew : w = t
      · subst ew; exact plain (Or.inl b2)
      · have ewt : ¬ al 20 i (m - 1) = nI t := by rw [b2, eqF ew (by omega) (by omega)]; exact id
        by_cases euw : un al w
        · have euw1 := (uq w).mpr euw
          have f1 := fun u => c_uwT (al := al1) u g8' g10 b1 euw1
          have f2 := fun u => r_unT (al := al1) (mu := mu1) u hT1 g10 b1 euw1
          have nwt : ¬ nI w = nI t := by rw [eqF ew (by omega) (by omega)]; exact id
          have m37 : mu1 37 t = mu 37 t := by rw [hmu1, umK _ _ _ _ (by decide)]
          refine fin _ _ (pS_dep hS1 ht b1 euw1) (pR_dep hR1 ht g10 b1 euw1 ((uq t).mpr hu)) (by rw [uaJ _ _ _ _ _ (by decide), a11]; exact ha) ?_ (by rw [uaK _ _ _ _ _ _ (by decide)]; exact v1) (fun al' u h => ?_) (fun mu' u h => ?_)
          · refine ⟨fun s => ?_, fun a b j h => ?_, fun a j h => ?_⟩
            · simp (disch := omega) only [uaJ, and_self]
            · rw [uaK _ _ _ _ _ _ (by omega)]
            · rw [umK _ _ _ _ (by omega)]
          · unfold f_X0_readItem
            by_cases hp : p = 2
            · subst hp
              simp (disch := omega) only [li0, li1, li2, li3, li4, li5, li6, li7, li8, li9, li10, li16, li17, li20, li30, li32, li48, li49, li50, li57, li60, li126, li147, nI_add, nI_sb, pk_mul, nI_m1, inrT, leT, leF, ltT, ltF, eqT, eqF, n1lt, m1lt, m1neg, m1nle, m1le, m1a1, m1a2, m1s, m1s', nI_cl, ↓tl, ↓sb, sb, sel, ser, ↓reduceIte, if_true, if_false, true_or, or_true, false_or, or_false, umS, umK, umJ, uaS, uaK, uaI, uaJ, cg1, cg2, cg3, cg4, cg5, cg6, cg7, cg8, cg9, cg10, cg11, cg12, cg13, cg14, cg15, cg16, cg17, cg18, cg19, cg20, cs1, cs2, cs3, cs4, cs5, cs6, cs7, cs8, cs9, cs10, cs11, cs12, cs13, cs14, cs15, cs16, cs17, cs18, cs19, cs20, cc17, cc18, cc19, cc20, g1, d1, hla, hcr, wr1, b2, if_neg nwt, f1, h]
            · have := hle (by omega)
              simp (disch := omega) only [li0, li1, li2, li3, li4, li5, li6, li7, li8, li9, li10, li16, li17, li20, li30, li32, li48, li49, li50, li57, li60, li126, li147, nI_add, nI_sb, pk_mul, nI_m1, inrT, leT, leF, ltT, ltF, eqT, eqF, n1lt, m1lt, m1neg, m1nle, m1le, m1a1, m1a2, m1s, m1s', nI_cl, ↓tl, ↓sb, sb, sel, ser, ↓reduceIte, if_true, if_false, true_or, or_true, false_or, or_false, umS, umK, umJ, uaS, uaK, uaI, uaJ, cg1, cg2, cg3, cg4, cg5, cg6, cg7, cg8, cg9, cg10, cg11, cg12, cg13, cg14, cg15, cg16, cg17, cg18, cg19, cg20, cs1, cs2, cs3, cs4, cs5, cs6, cs7, cs8, cs9, cs10, cs11, cs12, cs13, cs14, cs15, cs16, cs17, cs18, cs19, cs20, cc17, cc18, cc19, cc20, g1, d1, hla, hcr, wr1, b2, if_neg nwt, f1, h]
          · unfold f_X7_doRead f_X7_place
            by_cases hp : p = 2
            · subst hp
              simp (disch := omega) only [li0, li1, li2, li3, li4, li5, li6, li7, li8, li9, li10, li16, li17, li20, li30, li32, li48, li49, li50, li57, li60, li126, li147, nI_add, nI_sb, pk_mul, nI_m1, inrT, leT, leF, ltT, ltF, eqT, eqF, n1lt, m1lt, m1neg, m1nle, m1le, m1a1, m1a2, m1s, m1s', nI_cl, ↓tl, ↓sb, sb, sel, ser, ↓reduceIte, if_true, if_false, true_or, or_true, false_or, or_false, umS, umK, umJ, uaS, uaK, uaI, uaJ, mg30, mg31, mg32, mg33, mg34, mg35, mg36, mg37, mg38, mg39, mg40, mg41, mg42, mg43, mg44, mg45, mg46, mg47, mg48, mg49, ms30, ms31, ms32, ms33, ms34, ms35, ms36, ms37, ms38, ms39, ms40, ms41, ms42, ms43, ms44, ms45, ms46, ms47, ms48, ms49, ↓hlrB, g2, d2, t2, e0, mq, wr2, b2, if_neg nwt, f2, wr3, h]
            · obtain ⟨rfl, h5⟩ := hle (by omega)
              simp (disch := omega) only [li0, li1, li2, li3, li4, li5, li6, li7, li8, li9, li10, li16, li17, li20, li30, li32, li48, li49, li50, li57, li60, li126, li147, nI_add, nI_sb, pk_mul, nI_m1, inrT, leT, leF, ltT, ltF, eqT, eqF, n1lt, m1lt, m1neg, m1nle, m1le, m1a1, m1a2, m1s, m1s', nI_cl, ↓tl, ↓sb, sb, sel, ser, ↓reduceIte, if_true, if_false, true_or, or_true, false_or, or_false, umS, umK, umJ, uaS, uaK, uaI, uaJ, mg30, mg31, mg32, mg33, mg34, mg35, mg36, mg37, mg38, mg39, mg40, mg41, mg42, mg43, mg44, mg45, mg46, mg47, mg48, mg49, ms30, ms31, ms32, ms33, ms34, ms35, ms36, ms37, ms38, ms39, ms40, ms41, ms42, ms43, ms44, ms45, ms46, ms47, ms48, ms49, ↓hwcB, g2, d2, t2, if_pos h5, e0, mq, wr2, b2, if_neg nwt, f2, wr3, h]
        · have euw1 : ¬ un al1 w := fun q => euw ((uq w).mp q)
          exact plain (Or.inr ⟨fun u => by rw [b2]; exact c_uwF u g8' g10 b1 euw1, ewt, fun u => by rw [b2]; exact r_unF u hT1 g10 b1 euw1⟩)
