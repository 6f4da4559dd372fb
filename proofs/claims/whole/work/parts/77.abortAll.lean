/-! aborts with all dependents -/
def unB (al : pu_A) (t : Nat) : Bool := decide (al 11 t 0 = nI 0) || decide (al 11 t 0 = nI 1)
theorem unB_t {al : pu_A} {t : Nat} : unB al t = true ↔ un al t := by
  unfold unB un
  rw [Bool.or_eq_true, decide_eq_true_iff, decide_eq_true_iff]
theorem unB_f {al : pu_A} {t : Nat} : unB al t = false ↔ ¬ un al t := by
  rw [← unB_t]; cases unB al t <;> simp
theorem c_unT {al : pu_A} {t : Nat} (u : ts_Mem) (h : un al t) : f_X5_isUncommitted 0 t (ca al u) = some (nI 1) := by
  unfold f_X5_isUncommitted
  rcases h with h | h
  · simp (disch := omega) only [li0, li1, li2, li3, li4, li5, li6, li7, li8, li9, li10, li16, li17, li20, li30, li32, li48, li49, li50, li57, li60, li126, li147, nI_add, nI_sb, pk_mul, nI_m1, inrT, leT, leF, ltT, ltF, eqT, eqF, n1lt, m1lt, m1neg, m1nle, m1le, m1a1, m1a2, m1s, m1s', nI_cl, ↓tl, ↓sb, sb, sel, ser, ↓reduceIte, if_true, if_false, true_or, or_true, false_or, or_false, umS, umK, umJ, uaS, uaK, uaI, uaJ, cg1, cg2, cg3, cg4, cg5, cg6, cg7, cg8, cg9, cg10, cg11, cg12, cg13, cg14, cg15, cg16, cg17, cg18, cg19, cg20, cs1, cs2, cs3, cs4, cs5, cs6, cs7, cs8, cs9, cs10, cs11, cs12, cs13, cs14, cs15, cs16, cs17, cs18, cs19, cs20, cc17, cc18, cc19, cc20, h]
  · simp (disch := omega) only [li0, li1, li2, li3, li4, li5, li6, li7, li8, li9, li10, li16, li17, li20, li30, li32, li48, li49, li50, li57, li60, li126, li147, nI_add, nI_sb, pk_mul, nI_m1, inrT, leT, leF, ltT, ltF, eqT, eqF, n1lt, m1lt, m1neg, m1nle, m1le, m1a1, m1a2, m1s, m1s', nI_cl, ↓tl, ↓sb, sb, sel, ser, ↓reduceIte, if_true, if_false, true_or, or_true, false_or, or_false, umS, umK, umJ, uaS, uaK, uaI, uaJ, cg1, cg2, cg3, cg4, cg5, cg6, cg7, cg8, cg9, cg10, cg11, cg12, cg13, cg14, cg15, cg16, cg17, cg18, cg19, cg20, cs1, cs2, cs3, cs4, cs5, cs6, cs7, cs8, cs9, cs10, cs11, cs12, cs13, cs14, cs15, cs16, cs17, cs18, cs19, cs20, cc17, cc18, cc19, cc20, h]
theorem c_unF {al : pu_A} {t : Nat} (u : ts_Mem) (h : ¬ un al t) : f_X5_isUncommitted 0 t (ca al u) = some (nI 0) := by
  unfold f_X5_isUncommitted
  have h0 : ¬ al 11 t 0 = nI 0 := fun e => h (Or.inl e)
  have h1 : ¬ al 11 t 0 = nI 1 := fun e => h (Or.inr e)
  simp (disch := omega) only [li0, li1, li2, li3, li4, li5, li6, li7, li8, li9, li10, li16, li17, li20, li30, li32, li48, li49, li50, li57, li60, li126, li147, nI_add, nI_sb, pk_mul, nI_m1, inrT, leT, leF, ltT, ltF, eqT, eqF, n1lt, m1lt, m1neg, m1nle, m1le, m1a1, m1a2, m1s, m1s', nI_cl, ↓tl, ↓sb, sb, sel, ser, ↓reduceIte, if_true, if_false, true_or, or_true, false_or, or_false, umS, umK, umJ, uaS, uaK, uaI, uaJ, cg1, cg2, cg3, cg4, cg5, cg6, cg7, cg8, cg9, cg10, cg11, cg12, cg13, cg14, cg15, cg16, cg17, cg18, cg19, cg20, cs1, cs2, cs3, cs4, cs5, cs6, cs7, cs8, cs9, cs10, cs11, cs12, cs13, cs14, cs15, cs16, cs17, cs18, cs19, cs20, cc17, cc18, cc19, cc20, if_neg h0, if_neg h1]
theorem r_unT {al : pu_A} {mu : pu_M} {n nx t : Nat} (u : ts_Mem) (hT : pT al mu n nx) (hn : n ≤ 16) (ht : t < n) (h : un al t) : f_X7_isUncommitted (nI t) (ma mu u) = some (nI 1) := by
  obtain ⟨-, h1, -⟩ := hT t ht
  unfold f_X7_isUncommitted
  rcases h with h | h
  · rw [h] at h1
    simp (disch := omega) only [li0, li1, li2, li3, li4, li5, li6, li7, li8, li9, li10, li16, li17, li20, li30, li32, li48, li49, li50, li57, li60, li126, li147, nI_add, nI_sb, pk_mul, nI_m1, inrT, leT, leF, ltT, ltF, eqT, eqF, n1lt, m1lt, m1neg, m1nle, m1le, m1a1, m1a2, m1s, m1s', nI_cl, ↓tl, ↓sb, sb, sel, ser, ↓reduceIte, if_true, if_false, true_or, or_true, false_or, or_false, umS, umK, umJ, uaS, uaK, uaI, uaJ, mg30, mg31, mg32, mg33, mg34, mg35, mg36, mg37, mg38, mg39, mg40, mg41, mg42, mg43, mg44, mg45, mg46, mg47, mg48, mg49, ms30, ms31, ms32, ms33, ms34, ms35, ms36, ms37, ms38, ms39, ms40, ms41, ms42, ms43, ms44, ms45, ms46, ms47, ms48, ms49, h1]
  · rw [h] at h1
    simp (disch := omega) only [li0, li1, li2, li3, li4, li5, li6, li7, li8, li9, li10, li16, li17, li20, li30, li32, li48, li49, li50, li57, li60, li126, li147, nI_add, nI_sb, pk_mul, nI_m1, inrT, leT, leF, ltT, ltF, eqT, eqF, n1lt, m1lt, m1neg, m1nle, m1le, m1a1, m1a2, m1s, m1s', nI_cl, ↓tl, ↓sb, sb, sel, ser, ↓reduceIte, if_true, if_false, true_or, or_true, false_or, or_false, umS, umK, umJ, uaS, uaK, uaI, uaJ, mg30, mg31, mg32, mg33, mg34, mg35, mg36, mg37, mg38, mg39, mg40, mg41, mg42, mg43, mg44, mg45, mg46, mg47, mg48, mg49, ms30, ms31, ms32, ms33, ms34, ms35, ms36, ms37, ms38, ms39, ms40, ms41, ms42, ms43, ms44, ms45, ms46, ms47, ms48, ms49, h1]
theorem r_unF {al : pu_A} {mu : pu_M} {n nx t : Nat} (u : ts_Mem) (hT : pT al mu n nx) (hn : n ≤ 16) (ht : t < n) (h : ¬ un al t) : f_X7_isUncommitted (nI t) (ma mu u) = some (nI 0) := by
  obtain ⟨⟨s, hs, hs2⟩, h1, -⟩ := hT t ht
  unfold f_X7_isUncommitted
  rw [hs2] at h1
  have : 1 < s := by
    apply Nat.lt_of_not_le
    intro q
    apply h
    obtain rfl | rfl : s = 0 ∨ s = 1 := by omega
    · exact Or.inl hs2
    · exact Or.inr hs2
  simp (disch := omega) only [li0, li1, li2, li3, li4, li5, li6, li7, li8, li9, li10, li16, li17, li20, li30, li32, li48, li49, li50, li57, li60, li126, li147, nI_add, nI_sb, pk_mul, nI_m1, inrT, leT, leF, ltT, ltF, eqT, eqF, n1lt, m1lt, m1neg, m1nle, m1le, m1a1, m1a2, m1s, m1s', nI_cl, ↓tl, ↓sb, sb, sel, ser, ↓reduceIte, if_true, if_false, true_or, or_true, false_or, or_false, umS, umK, umJ, uaS, uaK, uaI, uaJ, mg30, mg31, mg32, mg33, mg34, mg35, mg36, mg37, mg38, mg39, mg40, mg41, mg42, mg43, mg44, mg45, mg46, mg47, mg48, mg49, ms30, ms31, ms32, ms33, ms34, ms35, ms36, ms37, ms38, ms39, ms40, ms41, ms42, ms43, ms44, ms45, ms46, ms47, ms48, ms49, h1]
theorem fdo_none {al : pu_A} {n t : Nat} (u : ts_Mem) (hn : n ≤ 16) (hnn : al 1 0 2 = nI n) (ht : t < 16) : ∀ d j N, j + d = n → d < N → (∀ s, j ≤ s → s < n → ¬ (un al s ∧ bt (al 11 s 4) t = true)) → lp_X0_firstDependentOn_2 0 (nI t) (ca al u) N (nI j) = some (.inl (nI n)) := by
  intro d
  induction d with
  | zero =>
    intro j N hj hN h
    obtain ⟨N, rfl⟩ : ∃ b, N = b + 1 := ⟨N - 1, by omega⟩
    obtain rfl : j = n := by omega
    rw [lp_X0_firstDependentOn_2]
    simp (disch := omega) only [li0, li1, li2, li3, li4, li5, li6, li7, li8, li9, li10, li16, li17, li20, li30, li32, li48, li49, li50, li57, li60, li126, li147, nI_add, nI_sb, pk_mul, nI_m1, inrT, leT, leF, ltT, ltF, eqT, eqF, n1lt, m1lt, m1neg, m1nle, m1le, m1a1, m1a2, m1s, m1s', nI_cl, ↓tl, ↓sb, sb, sel, ser, ↓reduceIte, if_true, if_false, true_or, or_true, false_or, or_false, umS, umK, umJ, uaS, uaK, uaI, uaJ, cg1, cg2, cg3, cg4, cg5, cg6, cg7, cg8, cg9, cg10, cg11, cg12, cg13, cg14, cg15, cg16, cg17, cg18, cg19, cg20, cs1, cs2, cs3, cs4, cs5, cs6, cs7, cs8, cs9, cs10, cs11, cs12, cs13, cs14, cs15, cs16, cs17, cs18, cs19, cs20, cc17, cc18, cc19, cc20, hnn]
  | succ d ih =>
    intro j N hj hN h
    obtain ⟨N, rfl⟩ : ∃ b, N = b + 1 := ⟨N - 1, by omega⟩
    have ih' := ih (j + 1) N (by omega) (by omega) (fun s h1 h2 => h s (by omega) h2)
    rw [lp_X0_firstDependentOn_2]
    by_cases e : un al j
    · have hb : bt (al 11 j 4) t = false := by
        cases q : bt (al 11 j 4) t
        · rfl
        · exact absurd ⟨e, q⟩ (h j (Nat.le_refl _) (by omega))
      have hb2 := (bt_tst (al 11 j 4) ht).mpr hb
      simp (disch := omega) only [li0, li1, li2, li3, li4, li5, li6, li7, li8, li9, li10, li16, li17, li20, li30, li32, li48, li49, li50, li57, li60, li126, li147, nI_add, nI_sb, pk_mul, nI_m1, inrT, leT, leF, ltT, ltF, eqT, eqF, n1lt, m1lt, m1neg, m1nle, m1le, m1a1, m1a2, m1s, m1s', nI_cl, ↓tl, ↓sb, sb, sel, ser, ↓reduceIte, if_true, if_false, true_or, or_true, false_or, or_false, umS, umK, umJ, uaS, uaK, uaI, uaJ, cg1, cg2, cg3, cg4, cg5, cg6, cg7, cg8, cg9, cg10, cg11, cg12, cg13, cg14, cg15, cg16, cg17, cg18, cg19, cg20, cs1, cs2, cs3, cs4, cs5, cs6, cs7, cs8, cs9, cs10, cs11, cs12, cs13, cs14, cs15, cs16, cs17, cs18, cs19, cs20, cc17, cc18, cc19, cc20, hnn, c_unT u e, hb2]
      exact ih'
    · simp (disch := omega) only [li0, li1, li2, li3, li4, li5, li6, li7, li8, li9, li10, li16, li17, li20, li30, li32, li48, li49, li50, li57, li60, li126, li147, nI_add, nI_sb, pk_mul, nI_m1, inrT, leT, leF, ltT, ltF, eqT, eqF, n1lt, m1lt, m1neg, m1nle, m1le, m1a1, m1a2, m1s, m1s', nI_cl, ↓tl, ↓sb, sb, sel, ser, ↓reduceIte, if_true, if_false, true_or, or_true, false_or, or_false, umS, umK, umJ, uaS, uaK, uaI, uaJ, cg1, cg2, cg3, cg4, cg5, cg6, cg7, cg8, cg9, cg10, cg11, cg12, cg13, cg14, cg15, cg16, cg17, cg18, cg19, cg20, cs1, cs2, cs3, cs4, cs5, cs6, cs7, cs8, cs9, cs10, cs11, cs12, cs13, cs14, cs15, cs16, cs17, cs18, cs19, cs20, cc17, cc18, cc19, cc20, hnn, c_unF u e]
      exact ih'
theorem fdo_some {al : pu_A} {n t o : Nat} (u : ts_Mem) (hn : n ≤ 16) (hnn : al 1 0 2 = nI n) (ht : t < 16) (ho : o < n) (hu : un al o) (hb : bt (al 11 o 4) t = true) : ∀ d j N, j + d = o → d < N → (∀ s, j ≤ s → s < o → ¬ (un al s ∧ bt (al 11 s 4) t = true)) → lp_X0_firstDependentOn_2 0 (nI t) (ca al u) N (nI j) = some (.inr (nI o)) := by
  intro d
  induction d with
  | zero =>
    intro j N hj hN h
    obtain ⟨N, rfl⟩ : ∃ b, N = b + 1 := ⟨N - 1, by omega⟩
    obtain rfl : j = o := by omega
    rw [lp_X0_firstDependentOn_2]
    have hb2 : ¬ al 11 j 4 &&& (nI 1 <<< (nI t &&& 31)) = nI 0 := fun q => by
      rw [(bt_tst (al 11 j 4) ht).mp q] at hb; exact absurd hb (by decide)
    simp (disch := omega) only [li0, li1, li2, li3, li4, li5, li6, li7, li8, li9, li10, li16, li17, li20, li30, li32, li48, li49, li50, li57, li60, li126, li147, nI_add, nI_sb, pk_mul, nI_m1, inrT, leT, leF, ltT, ltF, eqT, eqF, n1lt, m1lt, m1neg, m1nle, m1le, m1a1, m1a2, m1s, m1s', nI_cl, ↓tl, ↓sb, sb, sel, ser, ↓reduceIte, if_true, if_false, true_or, or_true, false_or, or_false, umS, umK, umJ, uaS, uaK, uaI, uaJ, cg1, cg2, cg3, cg4, cg5, cg6, cg7, cg8, cg9, cg10, cg11, cg12, cg13, cg14, cg15, cg16, cg17, cg18, cg19, cg20, cs1, cs2, cs3, cs4, cs5, cs6, cs7, cs8, cs9, cs10, cs11, cs12, cs13, cs14, cs15, cs16, cs17, cs18, cs19, cs20, cc17, cc18, cc19, cc20, hnn, c_unT u hu, if_neg hb2]
  | succ d ih =>
    intro j N hj hN h
    obtain ⟨N, rfl⟩ : ∃ b, N = b + 1 := ⟨N - 1, by omega⟩
    have ih' := ih (j + 1) N (by omega) (by omega) (fun s h1 h2 => h s (by omega) h2)
    rw [lp_X0_firstDependentOn_2]
    by_cases e : un al j
    · have hb : bt (al 11 j 4) t = false := by
        cases q : bt (al 11 j 4) t
        · rfl
        · exact absurd ⟨e, q⟩ (h j (Nat.le_refl _) (by omega))
      have hb2 := (bt_tst (al 11 j 4) ht).mpr hb
      simp (disch := omega) only [li0, li1, li2, li3, li4, li5, li6, li7, li8, li9, li10, li16, li17, li20, li30, li32, li48, li49, li50, li57, li60, li126, li147, nI_add, nI_sb, pk_mul, nI_m1, inrT, leT, leF, ltT, ltF, eqT, eqF, n1lt, m1lt, m1neg, m1nle, m1le, m1a1, m1a2, m1s, m1s', nI_cl, ↓tl, ↓sb, sb, sel, ser, ↓reduceIte, if_true, if_false, true_or, or_true, false_or, or_false, umS, umK, umJ, uaS, uaK, uaI, uaJ, cg1, cg2, cg3, cg4, cg5, cg6, cg7, cg8, cg9, cg10, cg11, cg12, cg13, cg14, cg15, cg16, cg17, cg18, cg19, cg20, cs1, cs2, cs3, cs4, cs5, cs6, cs7, cs8, cs9, cs10, cs11, cs12, cs13, cs14, cs15, cs16, cs17, cs18, cs19, cs20, cc17, cc18, cc19, cc20, hnn, c_unT u e, hb2]
      exact ih'
    · simp (disch := omega) only [li0, li1, li2, li3, li4, li5, li6, li7, li8, li9, li10, li16, li17, li20, li30, li32, li48, li49, li50, li57, li60, li126, li147, nI_add, nI_sb, pk_mul, nI_m1, inrT, leT, leF, ltT, ltF, eqT, eqF, n1lt, m1lt, m1neg, m1nle, m1le, m1a1, m1a2, m1s, m1s', nI_cl, ↓tl, ↓sb, sb, sel, ser, ↓reduceIte, if_true, if_false, true_or, or_true, false_or, or_false, umS, umK, umJ, uaS, uaK, uaI, uaJ, cg1, cg2, cg3, cg4, cg5, cg6, cg7, cg8, cg9, cg10, cg11, cg12, cg13, cg14, cg15, cg16, cg17, cg18, cg19, cg20, cs1, cs2, cs3, cs4, cs5, cs6, cs7, cs8, cs9, cs10, cs11, cs12, cs13, cs14, cs15, cs16, cs17, cs18, cs19, cs20, cc17, cc18, cc19, cc20, hnn, c_unF u e]
      exact ih'
/-- what a run of aborts leaves as it was -/
def pK (al al' : pu_A) (mu mu' : pu_M) (n d : Nat) : Prop := (∀ s j, un al' s → un al s ∧ al' 11 s j = al 11 s j) ∧ (∀ s j, ¬ un al s → al' 11 s j = al 11 s j) ∧ (∀ s, un al s → ¬ un al' s → al' 11 s 0 = nI 3 ∧ al' 11 s 4 = nI 0) ∧ (∀ j, j < n → un al j → ¬ un al' j → ∀ s, s < n → ¬ (un al' s ∧ bt (al' 11 s 4) j = true)) ∧ (∀ j, j < d → al' 6 0 j = al 6 0 j) ∧ (∀ s, al' 11 s 1 = al 11 s 1 ∧ al' 11 s 5 = al 11 s 5) ∧ (∀ a b j, a < 4 ∨ a = 5 ∨ (11 < a ∧ a < 16) ∨ 20 < a → al' a b j = al a b j) ∧ (∀ a j, (a = 30 ∧ ¬ j = 14) ∨ a = 32 ∨ a = 33 ∨ a = 35 ∨ a = 36 ∨ 41 < a → mu' a j = mu a j)
theorem pK_refl (al : pu_A) (mu : pu_M) (n d : Nat) : pK al al mu mu n d := ⟨fun _ _ h => ⟨h, rfl⟩, fun _ _ _ => rfl, fun _ h1 h2 => absurd h1 h2, fun _ _ h1 h2 => absurd h1 h2, fun _ _ => rfl, fun _ => ⟨rfl, rfl⟩, fun _ _ _ _ => rfl, fun _ _ _ => rfl⟩
theorem pK_trans {al al1 al2 : pu_A} {mu mu1 mu2 : pu_M} {n d d1 d2 : Nat} (h1 : pK al al1 mu mu1 n d1) (h2 : pK al1 al2 mu1 mu2 n d2) (hd1 : d ≤ d1) (hd2 : d ≤ d2) : pK al al2 mu mu2 n d := by
  obtain ⟨a1, a2, a3, a4, a5, a6, a7, a8⟩ := h1
  obtain ⟨b1, b2, b3, b4, b5, b6, b7, b8⟩ := h2
  have n1 : ∀ s, ¬ un al s → ¬ un al1 s := fun s h q => h (a1 s 0 q).1
  refine ⟨fun s j h => ?_, fun s j h => ?_, fun s h1 h2 => ?_, fun j hj h1 h2 s hs q => ?_, fun j hj => ?_, fun s => ?_, fun a b j h => ?_, fun a j h => ?_⟩
  · have q := b1 s j h
    have q2 := a1 s j q.1
    exact ⟨q2.1, by rw [q.2, q2.2]⟩
  · rw [b2 s j (n1 s h), a2 s j h]
  · by_cases e : un al1 s
    · exact b3 s e h2
    · rw [b2 s 0 e, b2 s 4 e]; exact a3 s h1 e
  · by_cases e : un al1 j
    · exact b4 j hj e h2 s hs q
    · have q2 := b1 s 4 q.1
      exact a4 j hj h1 e s hs ⟨q2.1, by rw [← q2.2]; exact q.2⟩
  · rw [b5 j (by omega), a5 j (by omega)]
  · exact ⟨by rw [(b6 s).1, (a6 s).1], by rw [(b6 s).2, (a6 s).2]⟩
  · rw [b7 a b j h, a7 a b j h]
  · rw [b8 a j h, a8 a j h]
theorem ab_loop {p n nx : Nat} (c1 c2 : Int32) : ∀ (c m : Nat) (k it : Int32) (al : pu_A) (mu : pu_M) (t o d st ab cnt fu N : Nat), o + m = n → pS al mu p n nx → cn (unB al) n = c → t < n → ¬ un al t → ¬ al 11 t 0 = nI 2 → 1 ≤ d → d + c ≤ 16 → st + 2 * c + d ≤ 32 → c ≤ fu → al 6 0 (d - 1) = nI t → (∀ s, s < o → ¬ (un al s ∧ bt (al 11 s 4) t = true)) → m < N → ∃ al' mu' r, r ≤ c ∧ (∀ u M, lp_X0_abortWithDependents_23 0 c1 c2 (M + 2 * r + 1) (nI ab) (nI d) (nI st) (ca al u) = lp_X0_abortWithDependents_23 0 c1 c2 M (nI (ab + r)) (nI (d - 1)) (nI (st + 2 * r + 1)) (ca al' u)) ∧ (∀ u, lp_X7_doAbort_42 (f_X7_doAbort fu) (nI t) k it N (nI cnt) (nI o) (ma mu u) = some (nI (cnt + r), nI n, ma mu' u)) ∧ pS al' mu' p n nx ∧ cn (unB al') n + r = c ∧ pK al al' mu mu' n d ∧ (∀ s, s < n → ¬ (un al' s ∧ bt (al' 11 s 4) t = true)) := by
  intro c
  induction c using Nat.strongRecOn with
  | ind c IH =>
  intro m
  induction m with
  | zero =>
    intro k it al mu t o d st ab cnt fu N ho hS hc ht hut h2t hd hdc hst hfu hpath hno hN
    obtain rfl : o = n := by omega
    have hG := hS.1
    obtain ⟨g1, g2, g3, g4, g5, g6, g7, g8, g9, g10⟩ := hG
    refine ⟨al, mu, 0, by omega, fun u M => ?_, fun u => ?_, hS, by omega, pK_refl _ _ _ _, hno⟩
    · have hf : f_X0_firstDependentOn 0 (nI t) (ca al u) = some (-nI 1) := by
        unfold f_X0_firstDependentOn
        rw [show (0 : Int32) = nI 0 from rfl, fdo_none u g10 g8 (by omega) o 0 ts_fu (by omega) (by unfold ts_fu; omega) (fun s _ h => hno s h)]
        rfl
      rw [show M + 2 * 0 + 1 = M + 1 by omega, lp_X0_abortWithDependents_23]
      simp (disch := omega) only [li0, li1, li2, li3, li4, li5, li6, li7, li8, li9, li10, li16, li17, li20, li30, li32, li48, li49, li50, li57, li60, li126, li147, nI_add, nI_sb, pk_mul, nI_m1, inrT, leT, leF, ltT, ltF, eqT, eqF, n1lt, m1lt, m1neg, m1nle, m1le, m1a1, m1a2, m1s, m1s', nI_cl, ↓tl, ↓sb, sb, sel, ser, ↓reduceIte, if_true, if_false, true_or, or_true, false_or, or_false, umS, umK, umJ, uaS, uaK, uaI, uaJ, cg1, cg2, cg3, cg4, cg5, cg6, cg7, cg8, cg9, cg10, cg11, cg12, cg13, cg14, cg15, cg16, cg17, cg18, cg19, cg20, cs1, cs2, cs3, cs4, cs5, cs6, cs7, cs8, cs9, cs10, cs11, cs12, cs13, cs14, cs15, cs16, cs17, cs18, cs19, cs20, cc17, cc18, cc19, cc20, hpath, hf, Nat.mul_zero, Nat.add_zero]
    · obtain ⟨N, rfl⟩ : ∃ b, N = b + 1 := ⟨N - 1, by omega⟩
      rw [lp_X7_doAbort_42]
      simp (disch := omega) only [li0, li1, li2, li3, li4, li5, li6, li7, li8, li9, li10, li16, li17, li20, li30, li32, li48, li49, li50, li57, li60, li126, li147, nI_add, nI_sb, pk_mul, nI_m1, inrT, leT, leF, ltT, ltF, eqT, eqF, n1lt, m1lt, m1neg, m1nle, m1le, m1a1, m1a2, m1s, m1s', nI_cl, ↓tl, ↓sb, sb, sel, ser, ↓reduceIte, if_true, if_false, true_or, or_true, false_or, or_false, umS, umK, umJ, uaS, uaK, uaI, uaJ, mg30, mg31, mg32, mg33, mg34, mg35, mg36, mg37, mg38, mg39, mg40, mg41, mg42, mg43, mg44, mg45, mg46, mg47, mg48, mg49, ms30, ms31, ms32, ms33, ms34, ms35, ms36, ms37, ms38, ms39, ms40, ms41, ms42, ms43, ms44, ms45, ms46, ms47, ms48, ms49, g9, Nat.add_zero]
  | succ m IHm =>
    intro k it al mu t o d st ab cnt fu N ho hS hc ht hut h2t hd hdc hst hfu hpath hno hN
    have hS' := hS
    obtain ⟨⟨g1, g2, g3, g4, g5, g6, g7, g8, g9, g10⟩, hT, hO, hD, hCs, hE⟩ := hS'
    obtain ⟨N, rfl⟩ : ∃ b, N = b + 1 := ⟨N - 1, by omega⟩
    by_cases e : un al o ∧ bt (al 11 o 4) t = true
    · -- o falls
      obtain ⟨eu, eb⟩ := e
      have hcp : 1 ≤ c := by
        have := cn_pos (f := unB al) (n := n) (t := o) (by omega) (unB_t.mpr eu)
        omega
      have hot : ¬ o = t := fun q => hut (q ▸ eu)
      obtain ⟨al1, mu1, x0, x1, x2, x3, x4, x5, x6, x7, x8⟩ := ab1 (k := 7) (-nI 1) hS (show o < n by omega) eu (by omega)
      have hu1 : ¬ un al1 o := by
        intro q; rcases q with q | q <;> rw [x3] at q <;> exact absurd q (by decide)
      have hun : ∀ s, ¬ s = o → (un al1 s ↔ un al s) := fun s hs => by unfold un; rw [x5 s 0 hs]
      have hc1 : cn (unB al1) n + 1 = c := by
        rw [← hc]
        refine (cn_off (t := o) (by omega) (unB_t.mpr eu) (unB_f.mpr hu1) (fun j _ hj => ?_)).symm
        unfold unB; rw [x5 j 0 hj]
      have hS1a : pS (ua al1 6 0 d (nI o)) mu1 p n nx := pS_cg x2 (fun a b j h => uaK _ _ _ _ _ _ (by omega)) (fun _ _ _ => rfl) (by
        have := x2.2.2.2.2.2
        unfold pEv pu_E at this ⊢
        simp (disch := omega) only [uaK]
        exact this)
      obtain ⟨fu, rfl⟩ : ∃ b, fu = b + 1 := ⟨fu - 1, by omega⟩
      have uq : ∀ s, un (ua al1 6 0 d (nI o)) s ↔ un al1 s := fun s => by unfold un; rw [uaK _ _ _ _ _ _ (by decide)]
      obtain ⟨al2, mu2, r, y1, y2, y3, y4, y5, y6, y7⟩ := IH (c - 1) (by omega) n (nI 7) (-nI 1) (ua al1 6 0 d (nI o)) mu1 o 0 (d + 1) (st + 1) (ab + 1) 1 fu ts_fu (by omega) hS1a (by
        rw [← cn_congr (f := unB al1) (g := unB (ua al1 6 0 d (nI o))) (fun j _ => by unfold unB; rw [uaK _ _ _ _ _ _ (by decide)])]; omega) (by omega) (by rw [uq]; exact hu1) (by rw [uaK _ _ _ _ _ _ (by decide), x3]; decide) (by omega) (by omega) (by omega) (by omega) (by rw [Nat.add_sub_cancel]; exact uaS _ _ _ _ _) (fun s h => absurd h (by omega)) (by unfold ts_fu; omega)
      have k2 : pK al al2 mu mu2 n d := by
        obtain ⟨b1, b2, b3, b4, b5, b6, b7, b8⟩ := y6
        have a11 : ∀ s j, ua al1 6 0 d (nI o) 11 s j = al1 11 s j := fun s j => uaK _ _ _ _ _ _ (by decide)
        have so : ∀ s, un al1 s → ¬ s = o := fun s q e => hu1 (e ▸ q)
        refine ⟨fun s j h => ?_, fun s j h => ?_, fun s h1 h2 => ?_, fun j hj h1 h2 s hs q => ?_, fun j hj => ?_, fun s => ?_, fun a b j h => ?_, fun a j h => ?_⟩
        · have q := b1 s j h
          have q1 := (uq s).mp q.1
          exact ⟨(hun s (so s q1)).mp q1, by rw [q.2, a11, x5 s j (so s q1)]⟩
        · have e : ¬ s = o := fun e => h (e ▸ eu)
          have q1 : ¬ un (ua al1 6 0 d (nI o)) s := by rw [uq, hun s e]; exact h
          rw [b2 s j q1, a11, x5 s j e]
        · by_cases e : s = o
          · subst e
            have q1 : ¬ un (ua al1 6 0 d (nI s)) s := by rw [uq]; exact hu1
            rw [b2 s 0 q1, b2 s 4 q1, a11, a11]
            exact ⟨x3, x4⟩
          · exact b3 s (by rw [uq, hun s e]; exact h1) h2
        · by_cases e : j = o
          · subst e; exact y7 s hs q
          · exact b4 j hj (by rw [uq, hun j e]; exact h1) h2 s hs q
        · rw [b5 j (by omega), uaJ _ _ _ _ _ (by omega), x7 _ _ _ (by omega)]
        · have q := b6 s
          rw [a11, a11] at q
          exact ⟨by rw [q.1, (x6 s).1], by rw [q.2, (x6 s).2]⟩
        · rw [b7 a b j h, uaK _ _ _ _ _ _ (by omega), x7 a b j (by omega)]
        · rw [b8 a j h, x8 a j h]
      have hlt2 : ¬ un al2 t := fun q => hut (k2.1 t 0 q).1
      obtain ⟨al3, mu3, r', z1, z2, z3, z4, z5, z6, z7⟩ := IH (c - 1 - r) (by omega) m k it al2 mu2 t (o + 1) d (st + 2 * r + 2) (ab + 1 + r) (cnt + (1 + r)) (fu + 1) N (by omega) y4 (by omega) ht hlt2 (by rw [k2.2.1 t 0 hut]; exact h2t) hd (by omega) (by omega) (by omega) (by rw [k2.2.2.2.2.1 _ (by omega)]; exact hpath) (fun s hs q => by
        have q2 := k2.1 s 4 q.1
        by_cases es : s = o
        · subst es
          exact hu1 ((uq s).mp (y6.1 s 0 q.1).1)
        · exact hno s (by omega) ⟨q2.1, by rw [← q2.2]; exact q.2⟩) (by omega)
      refine ⟨al3, mu3, r + 1 + r', by omega, fun u M => ?_, fun u => ?_, z4, by omega, pK_trans k2 z6 (Nat.le_refl _) (Nat.le_refl _), z7⟩
      · have hf : f_X0_firstDependentOn 0 (nI t) (ca al u) = some (nI o) := by
          unfold f_X0_firstDependentOn
          rw [show (0 : Int32) = nI 0 from rfl, fdo_some u g10 g8 (by omega) (by omega) eu eb o 0 ts_fu (by omega) (by unfold ts_fu; omega) (fun s _ h => hno s h)]
          rfl
        have y2' := y2 u (M + 2 * r' + 1)
        have z2' := z2 u M
        rw [show M + 2 * (r + 1 + r') + 1 = (M + 2 * r' + 1 + 2 * r + 1) + 1 by omega, lp_X0_abortWithDependents_23]
        simp (disch := omega) only [li0, li1, li2, li3, li4, li5, li6, li7, li8, li9, li10, li16, li17, li20, li30, li32, li48, li49, li50, li57, li60, li126, li147, nI_add, nI_sb, pk_mul, nI_m1, inrT, leT, leF, ltT, ltF, eqT, eqF, n1lt, m1lt, m1neg, m1nle, m1le, m1a1, m1a2, m1s, m1s', nI_cl, ↓tl, ↓sb, sb, sel, ser, ↓reduceIte, if_true, if_false, true_or, or_true, false_or, or_false, umS, umK, umJ, uaS, uaK, uaI, uaJ, cg1, cg2, cg3, cg4, cg5, cg6, cg7, cg8, cg9, cg10, cg11, cg12, cg13, cg14, cg15, cg16, cg17, cg18, cg19, cg20, cs1, cs2, cs3, cs4, cs5, cs6, cs7, cs8, cs9, cs10, cs11, cs12, cs13, cs14, cs15, cs16, cs17, cs18, cs19, cs20, cc17, cc18, cc19, cc20, hpath, hf, x0]
        rw [y2', Nat.add_sub_cancel, show st + 1 + 2 * r + 1 = st + 2 * r + 2 by omega, z2']
        congr 2
        · omega
        · omega
      · rw [lp_X7_doAbort_42]
        have hr := r_unT u hT g10 (show o < n by omega) eu
        have hb := (bt_shr (mu 37 o) (show t < 16 by omega)).mpr (((hD o (by omega) t (by omega)).1.mp eb).1)
        have x1' := x1 u fu
        have y3' := y3 u
        have z3' := z3 u
        simp (disch := omega) only [li0, li1, li2, li3, li4, li5, li6, li7, li8, li9, li10, li16, li17, li20, li30, li32, li48, li49, li50, li57, li60, li126, li147, nI_add, nI_sb, pk_mul, nI_m1, inrT, leT, leF, ltT, ltF, eqT, eqF, n1lt, m1lt, m1neg, m1nle, m1le, m1a1, m1a2, m1s, m1s', nI_cl, ↓tl, ↓sb, sb, sel, ser, ↓reduceIte, if_true, if_false, true_or, or_true, false_or, or_false, umS, umK, umJ, uaS, uaK, uaI, uaJ, mg30, mg31, mg32, mg33, mg34, mg35, mg36, mg37, mg38, mg39, mg40, mg41, mg42, mg43, mg44, mg45, mg46, mg47, mg48, mg49, ms30, ms31, ms32, ms33, ms34, ms35, ms36, ms37, ms38, ms39, ms40, ms41, ms42, ms43, ms44, ms45, ms46, ms47, ms48, ms49, g9, hr, hb, x1', y3']
        rw [z3']
        congr 3
        omega
    · -- o stays
      obtain ⟨al', mu', r, y1, y2, y3, y4, y5, y6, y7⟩ := IHm k it al mu t (o + 1) d st ab cnt fu N (by omega) hS hc ht hut h2t hd hdc hst hfu hpath (fun s hs => by
        by_cases es : s = o
        · subst es; exact e
        · exact hno s (by omega)) (by omega)
      refine ⟨al', mu', r, y1, y2, fun u => ?_, y4, y5, y6, y7⟩
      rw [lp_X7_doAbort_42]
      have y3' := y3 u
      by_cases eu : un al o
      · have hr := r_unT u hT g10 (show o < n by omega) eu
        have hb : ¬ (mu 37 o >>> (nI t &&& 31)) &&& nI 1 = nI 1 := fun q => by
          have := (bt_shr (mu 37 o) (show t < 16 by omega)).mp q
          exact e ⟨eu, (hD o (by omega) t (by omega)).1.mpr ⟨this, h2t⟩⟩
        simp (disch := omega) only [li0, li1, li2, li3, li4, li5, li6, li7, li8, li9, li10, li16, li17, li20, li30, li32, li48, li49, li50, li57, li60, li126, li147, nI_add, nI_sb, pk_mul, nI_m1, inrT, leT, leF, ltT, ltF, eqT, eqF, n1lt, m1lt, m1neg, m1nle, m1le, m1a1, m1a2, m1s, m1s', nI_cl, ↓tl, ↓sb, sb, sel, ser, ↓reduceIte, if_true, if_false, true_or, or_true, false_or, or_false, umS, umK, umJ, uaS, uaK, uaI, uaJ, mg30, mg31, mg32, mg33, mg34, mg35, mg36, mg37, mg38, mg39, mg40, mg41, mg42, mg43, mg44, mg45, mg46, mg47, mg48, mg49, ms30, ms31, ms32, ms33, ms34, ms35, ms36, ms37, ms38, ms39, ms40, ms41, ms42, ms43, ms44, ms45, ms46, ms47, ms48, ms49, g9, hr, if_neg hb]
        exact y3'
      · have hr := r_unF u hT g10 (show o < n by omega) eu
        simp (disch := omega) only [li0, li1, li2, li3, li4, li5, li6, li7, li8, li9, li10, li16, li17, li20, li30, li32, li48, li49, li50, li57, li60, li126, li147, nI_add, nI_sb, pk_mul, nI_m1, inrT, leT, leF, ltT, ltF, eqT, eqF, n1lt, m1lt, m1neg, m1nle, m1le, m1a1, m1a2, m1s, m1s', nI_cl, ↓tl, ↓sb, sb, sel, ser, ↓reduceIte, if_true, if_false, true_or, or_true, false_or, or_false, umS, umK, umJ, uaS, uaK, uaI, uaJ, mg30, mg31, mg32, mg33, mg34, mg35, mg36, mg37, mg38, mg39, mg40, mg41, mg42, mg43, mg44, mg45, mg46, mg47, mg48, mg49, ms30, ms31, ms32, ms33, ms34, ms35, ms36, ms37, ms38, ms39, ms40, ms41, ms42, ms43, ms44, ms45, ms46, ms47, ms48, ms49, g9, hr]
        exact y3'
