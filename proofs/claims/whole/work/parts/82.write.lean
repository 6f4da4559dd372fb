/-! writes -/
def rfu (al : pu_A) (p i c m : Nat) (T : Int32) : Prop := (p = 2 ∧ ¬ al 18 i (m - 1) ≤ T) ∨ (p < 2 ∧ ((∃ k, k < c ∧ ¬ al 18 i k ≤ T) ∨ (p = 0 ∧ m < c)))
theorem wr_ref {al : pu_A} {mu : pu_M} {p n nx t i c m : Nat} (hS : pS al mu p n nx) (ht : t < n) (hi : i < 8) (hC : pC al mu i c) (hm : la (al 17 i) (al 11 t 1) c = m) (hm1 : 1 ≤ m) : (rfu al p i c m (al 11 t 1) → ∀ u, f_X7_isRefused (nI t) (nI i) (ma mu u) = some (nI 1)) ∧ (¬ rfu al p i c m (al 11 t 1) → ∀ u, f_X7_isRefused (nI t) (nI i) (ma mu u) = some (nI 0)) := by
  obtain ⟨⟨g1, g2, g3, g4, g5, g6, g7, g8, g9, g10⟩, hT, hO, hD, hCs, hE⟩ := hS
  have hC' := hC
  obtain ⟨d1, d2, d3, d4⟩ := hC'
  obtain ⟨-, t1, t2, -⟩ := hT t ht
  have hlr := fun u => r_lut (al := al) (mu := mu) u (al 11 t 1) hi hC
  have hml := la_le (al 17 i) (al 11 t 1) c
  have hmat := la_at (al 17 i) (al 11 t 1) c
  have hmgt := la_gt (al 17 i) (al 11 t 1) c
  rw [hm] at hml hmat hmgt
  simp only [hm, ixN_p hm1] at hlr
  have hwc := fun u => r_wr (al := al) (mu := mu) u hi hC (show c - 1 < c by omega)
  have e0 := (d4 (m - 1) (by omega)).2.1
  have l1 := fun u => r_ref_loop1 (al := al) (mu := mu) u t hi hC c 0 ts_fu (by omega) (by unfold ts_fu; omega)
  have l0 := fun u => r_ref_loop (al := al) (mu := mu) u hi (show t < 16 by omega) hC c 0 ts_fu (by omega) (by unfold ts_fu; omega)
  rw [t2] at l0
  have z1 : (nI 1 = nI 0 ∨ nI 1 = nI 1) = True := eq_true (Or.inr rfl)
  have z0 : (nI 0 = nI 0 ∨ nI 0 = nI 1) = True := eq_true (Or.inl rfl)
  simp only [li0, li1] at l0 l1
  refine ⟨fun h u => ?_, fun h u => ?_⟩
  · unfold f_X7_isRefused f_X7_place
    rcases h with ⟨rfl, h⟩ | ⟨hp, h⟩
    · simp (disch := omega) only [li0, li1, li2, li3, li4, li5, li6, li7, li8, li9, li10, li16, li17, li20, li30, li32, li48, li49, li50, li57, li60, li126, li147, nI_add, nI_sb, pk_mul, nI_m1, inrT, leT, leF, ltT, ltF, eqT, eqF, n1lt, m1lt, m1neg, m1nle, m1le, m1a1, m1a2, m1s, m1s', nI_cl, ↓tl, ↓sb, sb, sel, ser, ↓reduceIte, if_true, if_false, true_or, or_true, false_or, or_false, umS, umK, umJ, uaS, uaK, uaI, uaJ, mg30, mg31, mg32, mg33, mg34, mg35, mg36, mg37, mg38, mg39, mg40, mg41, mg42, mg43, mg44, mg45, mg46, mg47, mg48, mg49, ms30, ms31, ms32, ms33, ms34, ms35, ms36, ms37, ms38, ms39, ms40, ms41, ms42, ms43, ms44, ms45, ms46, ms47, ms48, ms49, g2, t2, hlr, e0, if_neg h]
    · have any : (∃ k, k < c ∧ ¬ al 18 i k ≤ al 11 t 1) → lp_X7_isRefused_83 (nI t) (nI i) (ma mu u) ts_fu (nI 0) (nI 0) = some (nI 1, nI c) := fun ⟨k, k1, k2⟩ => by
        rcases l0 u with ⟨-, b⟩ | ⟨a, -⟩
        · exact absurd (b k (by omega) k1) k2
        · exact a
      by_cases hp0 : p = 0
      · subst hp0
        by_cases e : al 17 i (c - 1) ≤ al 11 t 1
        · have hmc : ¬ m < c := fun q => hmgt (c - 1) (by omega) (by omega) e
          rcases h with h | h
          · simp (disch := omega) only [li0, li1, li2, li3, li4, li5, li6, li7, li8, li9, li10, li16, li17, li20, li30, li32, li48, li49, li50, li57, li60, li126, li147, nI_add, nI_sb, pk_mul, nI_m1, inrT, leT, leF, ltT, ltF, eqT, eqF, n1lt, m1lt, m1neg, m1nle, m1le, m1a1, m1a2, m1s, m1s', nI_cl, ↓tl, ↓sb, sb, sel, ser, ↓reduceIte, if_true, if_false, true_or, or_true, false_or, or_false, umS, umK, umJ, uaS, uaK, uaI, uaJ, mg30, mg31, mg32, mg33, mg34, mg35, mg36, mg37, mg38, mg39, mg40, mg41, mg42, mg43, mg44, mg45, mg46, mg47, mg48, mg49, ms30, ms31, ms32, ms33, ms34, ms35, ms36, ms37, ms38, ms39, ms40, ms41, ms42, ms43, ms44, ms45, ms46, ms47, ms48, ms49, g2, d2, t2, hwc, if_pos e, any h, z1]
          · exact absurd h.2 hmc
        · simp (disch := omega) only [li0, li1, li2, li3, li4, li5, li6, li7, li8, li9, li10, li16, li17, li20, li30, li32, li48, li49, li50, li57, li60, li126, li147, nI_add, nI_sb, pk_mul, nI_m1, inrT, leT, leF, ltT, ltF, eqT, eqF, n1lt, m1lt, m1neg, m1nle, m1le, m1a1, m1a2, m1s, m1s', nI_cl, ↓tl, ↓sb, sb, sel, ser, ↓reduceIte, if_true, if_false, true_or, or_true, false_or, or_false, umS, umK, umJ, uaS, uaK, uaI, uaJ, mg30, mg31, mg32, mg33, mg34, mg35, mg36, mg37, mg38, mg39, mg40, mg41, mg42, mg43, mg44, mg45, mg46, mg47, mg48, mg49, ms30, ms31, ms32, ms33, ms34, ms35, ms36, ms37, ms38, ms39, ms40, ms41, ms42, ms43, ms44, ms45, ms46, ms47, ms48, ms49, g2, d2, t2, hwc, if_neg e, l1, z1]
      · obtain rfl : p = 1 := by omega
        rcases h with h | h
        · simp (disch := omega) only [li0, li1, li2, li3, li4, li5, li6, li7, li8, li9, li10, li16, li17, li20, li30, li32, li48, li49, li50, li57, li60, li126, li147, nI_add, nI_sb, pk_mul, nI_m1, inrT, leT, leF, ltT, ltF, eqT, eqF, n1lt, m1lt, m1neg, m1nle, m1le, m1a1, m1a2, m1s, m1s', nI_cl, ↓tl, ↓sb, sb, sel, ser, ↓reduceIte, if_true, if_false, true_or, or_true, false_or, or_false, umS, umK, umJ, uaS, uaK, uaI, uaJ, mg30, mg31, mg32, mg33, mg34, mg35, mg36, mg37, mg38, mg39, mg40, mg41, mg42, mg43, mg44, mg45, mg46, mg47, mg48, mg49, ms30, ms31, ms32, ms33, ms34, ms35, ms36, ms37, ms38, ms39, ms40, ms41, ms42, ms43, ms44, ms45, ms46, ms47, ms48, ms49, g2, any h, z1]
        · exact absurd h.1 (by decide)
  · unfold f_X7_isRefused f_X7_place
    by_cases hp2 : p = 2
    · subst hp2
      have e : al 18 i (m - 1) ≤ al 11 t 1 := by
        apply Classical.byContradiction
        intro q
        exact h (Or.inl ⟨rfl, q⟩)
      simp (disch := omega) only [li0, li1, li2, li3, li4, li5, li6, li7, li8, li9, li10, li16, li17, li20, li30, li32, li48, li49, li50, li57, li60, li126, li147, nI_add, nI_sb, pk_mul, nI_m1, inrT, leT, leF, ltT, ltF, eqT, eqF, n1lt, m1lt, m1neg, m1nle, m1le, m1a1, m1a2, m1s, m1s', nI_cl, ↓tl, ↓sb, sb, sel, ser, ↓reduceIte, if_true, if_false, true_or, or_true, false_or, or_false, umS, umK, umJ, uaS, uaK, uaI, uaJ, mg30, mg31, mg32, mg33, mg34, mg35, mg36, mg37, mg38, mg39, mg40, mg41, mg42, mg43, mg44, mg45, mg46, mg47, mg48, mg49, ms30, ms31, ms32, ms33, ms34, ms35, ms36, ms37, ms38, ms39, ms40, ms41, ms42, ms43, ms44, ms45, ms46, ms47, ms48, ms49, g2, t2, hlr, e0, if_pos e]
    · have none' : lp_X7_isRefused_83 (nI t) (nI i) (ma mu u) ts_fu (nI 0) (nI 0) = some (nI 0, nI c) := by
        rcases l0 u with ⟨a, -⟩ | ⟨-, b⟩
        · exact a
        · exact absurd (Or.inr ⟨by omega, Or.inl b⟩) h
      by_cases hp0 : p = 0
      · subst hp0
        have hmc : m = c := by
          by_cases q : m < c
          · exact absurd (Or.inr ⟨by omega, Or.inr ⟨rfl, q⟩⟩) h
          · omega
        have e : al 17 i (c - 1) ≤ al 11 t 1 := by rw [← hmc]; exact hmat hm1
        simp (disch := omega) only [li0, li1, li2, li3, li4, li5, li6, li7, li8, li9, li10, li16, li17, li20, li30, li32, li48, li49, li50, li57, li60, li126, li147, nI_add, nI_sb, pk_mul, nI_m1, inrT, leT, leF, ltT, ltF, eqT, eqF, n1lt, m1lt, m1neg, m1nle, m1le, m1a1, m1a2, m1s, m1s', nI_cl, ↓tl, ↓sb, sb, sel, ser, ↓reduceIte, if_true, if_false, true_or, or_true, false_or, or_false, umS, umK, umJ, uaS, uaK, uaI, uaJ, mg30, mg31, mg32, mg33, mg34, mg35, mg36, mg37, mg38, mg39, mg40, mg41, mg42, mg43, mg44, mg45, mg46, mg47, mg48, mg49, ms30, ms31, ms32, ms33, ms34, ms35, ms36, ms37, ms38, ms39, ms40, ms41, ms42, ms43, ms44, ms45, ms46, ms47, ms48, ms49, g2, d2, t2, hwc, if_pos e, none', z0]
      · obtain rfl : p = 1 := by omega
        simp (disch := omega) only [li0, li1, li2, li3, li4, li5, li6, li7, li8, li9, li10, li16, li17, li20, li30, li32, li48, li49, li50, li57, li60, li126, li147, nI_add, nI_sb, pk_mul, nI_m1, inrT, leT, leF, ltT, ltF, eqT, eqF, n1lt, m1lt, m1neg, m1nle, m1le, m1a1, m1a2, m1s, m1s', nI_cl, ↓tl, ↓sb, sb, sel, ser, ↓reduceIte, if_true, if_false, true_or, or_true, false_or, or_false, umS, umK, umJ, uaS, uaK, uaI, uaJ, mg30, mg31, mg32, mg33, mg34, mg35, mg36, mg37, mg38, mg39, mg40, mg41, mg42, mg43, mg44, mg45, mg46, mg47, mg48, mg49, ms30, ms31, ms32, ms33, ms34, ms35, ms36, ms37, ms38, ms39, ms40, ms41, ms42, ms43, ms44, ms45, ms46, ms47, ms48, ms49, g2, none', z0]
theorem wr_cls {al : pu_A} {p n t i c m : Nat} (g1 : al 1 0 0 = nI p) (hp : p ≤ 2) (hn : n ≤ 16) (ht : t < n) (hi : i < 8) (d1 : al 16 i 0 = nI c) (d3 : c ≤ 17) (hm : la (al 17 i) (al 11 t 1) c = m) (hm1 : 1 ≤ m) (v : Int32) : (rfu al p i c m (al 11 t 1) → ∀ u, f_X0_writeItem 0 (nI t) (nI i) v (ca al u) = some (-nI 1, ca al u)) ∧ (¬ rfu al p i c m (al 11 t 1) → ∀ al1 al2 b kd, ((p = 1 ∧ m < c ∧ b = 1 ∧ kd = 3) ∨ (¬ (p = 1 ∧ m < c) ∧ b = 0 ∧ kd = 2)) → (∀ u, f_X1_putValue 0 i (al 11 t 1) (nI t) v (ca al u) = some (ca al1 u)) → (∀ u, f_X2_note 0 (nI kd) (nI t) (nI i) (ca al1 u) = some (ca al2 u)) → ∀ u, f_X0_writeItem 0 (nI t) (nI i) v (ca al u) = some (nI b, ca al2 u)) := by
  have hla := fun u => c_la al u i c (al 11 t 1) d1 d3
  have hml := la_le (al 17 i) (al 11 t 1) c
  rw [hm] at hml
  simp only [hm, ixN_p hm1] at hla
  have z1 : (nI 1 = nI 0 ∨ nI 1 = nI 1) = True := eq_true (Or.inr rfl)
  have z0 : (nI 0 = nI 0 ∨ nI 0 = nI 1) = True := eq_true (Or.inl rfl)
  have any := fun u => c_any al u i c (al 11 t 1) d1 d3
  simp only [li0, li1] at any
  refine ⟨fun h u => ?_, fun h al1 al2 b kd hk hput hnote u => ?_⟩
  · unfold f_X0_writeItem f_X0_isReadTooLate
    rcases h with ⟨rfl, h⟩ | ⟨hp, h⟩
    · simp (disch := omega) only [li0, li1, li2, li3, li4, li5, li6, li7, li8, li9, li10, li16, li17, li20, li30, li32, li48, li49, li50, li57, li60, li126, li147, nI_add, nI_sb, pk_mul, nI_m1, inrT, leT, leF, ltT, ltF, eqT, eqF, n1lt, m1lt, m1neg, m1nle, m1le, m1a1, m1a2, m1s, m1s', nI_cl, ↓tl, ↓sb, sb, sel, ser, ↓reduceIte, if_true, if_false, true_or, or_true, false_or, or_false, umS, umK, umJ, uaS, uaK, uaI, uaJ, cg1, cg2, cg3, cg4, cg5, cg6, cg7, cg8, cg9, cg10, cg11, cg12, cg13, cg14, cg15, cg16, cg17, cg18, cg19, cg20, cs1, cs2, cs3, cs4, cs5, cs6, cs7, cs8, cs9, cs10, cs11, cs12, cs13, cs14, cs15, cs16, cs17, cs18, cs19, cs20, cc17, cc18, cc19, cc20, g1, hla, if_neg h]
    · rcases any u with ⟨a, b⟩ | ⟨a, b⟩
      · rcases h with ⟨k, k1, k2⟩ | ⟨rfl, h⟩
        · exact absurd (b k k1) k2
        · simp (disch := omega) only [li0, li1, li2, li3, li4, li5, li6, li7, li8, li9, li10, li16, li17, li20, li30, li32, li48, li49, li50, li57, li60, li126, li147, nI_add, nI_sb, pk_mul, nI_m1, inrT, leT, leF, ltT, ltF, eqT, eqF, n1lt, m1lt, m1neg, m1nle, m1le, m1a1, m1a2, m1s, m1s', nI_cl, ↓tl, ↓sb, sb, sel, ser, ↓reduceIte, if_true, if_false, true_or, or_true, false_or, or_false, umS, umK, umJ, uaS, uaK, uaI, uaJ, cg1, cg2, cg3, cg4, cg5, cg6, cg7, cg8, cg9, cg10, cg11, cg12, cg13, cg14, cg15, cg16, cg17, cg18, cg19, cg20, cs1, cs2, cs3, cs4, cs5, cs6, cs7, cs8, cs9, cs10, cs11, cs12, cs13, cs14, cs15, cs16, cs17, cs18, cs19, cs20, cc17, cc18, cc19, cc20, g1, d1, hla, a, z0]
      · by_cases e : m = c
        · simp (disch := omega) only [li0, li1, li2, li3, li4, li5, li6, li7, li8, li9, li10, li16, li17, li20, li30, li32, li48, li49, li50, li57, li60, li126, li147, nI_add, nI_sb, pk_mul, nI_m1, inrT, leT, leF, ltT, ltF, eqT, eqF, n1lt, m1lt, m1neg, m1nle, m1le, m1a1, m1a2, m1s, m1s', nI_cl, ↓tl, ↓sb, sb, sel, ser, ↓reduceIte, if_true, if_false, true_or, or_true, false_or, or_false, umS, umK, umJ, uaS, uaK, uaI, uaJ, cg1, cg2, cg3, cg4, cg5, cg6, cg7, cg8, cg9, cg10, cg11, cg12, cg13, cg14, cg15, cg16, cg17, cg18, cg19, cg20, cs1, cs2, cs3, cs4, cs5, cs6, cs7, cs8, cs9, cs10, cs11, cs12, cs13, cs14, cs15, cs16, cs17, cs18, cs19, cs20, cc17, cc18, cc19, cc20, g1, d1, hla, a, z1]
        · simp (disch := omega) only [li0, li1, li2, li3, li4, li5, li6, li7, li8, li9, li10, li16, li17, li20, li30, li32, li48, li49, li50, li57, li60, li126, li147, nI_add, nI_sb, pk_mul, nI_m1, inrT, leT, leF, ltT, ltF, eqT, eqF, n1lt, m1lt, m1neg, m1nle, m1le, m1a1, m1a2, m1s, m1s', nI_cl, ↓tl, ↓sb, sb, sel, ser, ↓reduceIte, if_true, if_false, true_or, or_true, false_or, or_false, umS, umK, umJ, uaS, uaK, uaI, uaJ, cg1, cg2, cg3, cg4, cg5, cg6, cg7, cg8, cg9, cg10, cg11, cg12, cg13, cg14, cg15, cg16, cg17, cg18, cg19, cg20, cs1, cs2, cs3, cs4, cs5, cs6, cs7, cs8, cs9, cs10, cs11, cs12, cs13, cs14, cs15, cs16, cs17, cs18, cs19, cs20, cc17, cc18, cc19, cc20, g1, d1, hla, a, z1]
  · unfold f_X0_writeItem f_X0_isReadTooLate
    by_cases hp2 : p = 2
    · subst hp2
      have e : al 18 i (m - 1) ≤ al 11 t 1 := by
        apply Classical.byContradiction
        intro q
        exact h (Or.inl ⟨rfl, q⟩)
      rcases hk with ⟨q, -⟩ | ⟨-, rfl, rfl⟩
      · exact absurd q (by decide)
      · simp (disch := omega) only [li0, li1, li2, li3, li4, li5, li6, li7, li8, li9, li10, li16, li17, li20, li30, li32, li48, li49, li50, li57, li60, li126, li147, nI_add, nI_sb, pk_mul, nI_m1, inrT, leT, leF, ltT, ltF, eqT, eqF, n1lt, m1lt, m1neg, m1nle, m1le, m1a1, m1a2, m1s, m1s', nI_cl, ↓tl, ↓sb, sb, sel, ser, ↓reduceIte, if_true, if_false, true_or, or_true, false_or, or_false, umS, umK, umJ, uaS, uaK, uaI, uaJ, cg1, cg2, cg3, cg4, cg5, cg6, cg7, cg8, cg9, cg10, cg11, cg12, cg13, cg14, cg15, cg16, cg17, cg18, cg19, cg20, cs1, cs2, cs3, cs4, cs5, cs6, cs7, cs8, cs9, cs10, cs11, cs12, cs13, cs14, cs15, cs16, cs17, cs18, cs19, cs20, cc17, cc18, cc19, cc20, g1, hla, if_pos e, hput, hnote]
    · rcases any u with ⟨a, b'⟩ | ⟨a, b'⟩
      · rcases hk with ⟨rfl, q, rfl, rfl⟩ | ⟨q, rfl, rfl⟩
        · simp (disch := omega) only [li0, li1, li2, li3, li4, li5, li6, li7, li8, li9, li10, li16, li17, li20, li30, li32, li48, li49, li50, li57, li60, li126, li147, nI_add, nI_sb, pk_mul, nI_m1, inrT, leT, leF, ltT, ltF, eqT, eqF, n1lt, m1lt, m1neg, m1nle, m1le, m1a1, m1a2, m1s, m1s', nI_cl, ↓tl, ↓sb, sb, sel, ser, ↓reduceIte, if_true, if_false, true_or, or_true, false_or, or_false, umS, umK, umJ, uaS, uaK, uaI, uaJ, cg1, cg2, cg3, cg4, cg5, cg6, cg7, cg8, cg9, cg10, cg11, cg12, cg13, cg14, cg15, cg16, cg17, cg18, cg19, cg20, cs1, cs2, cs3, cs4, cs5, cs6, cs7, cs8, cs9, cs10, cs11, cs12, cs13, cs14, cs15, cs16, cs17, cs18, cs19, cs20, cc17, cc18, cc19, cc20, g1, d1, hla, a, z0, hput, hnote]
        · have hmc : m = c := by
            apply Classical.byContradiction
            intro q2
            by_cases p0 : p = 0
            · exact h (Or.inr ⟨by omega, Or.inr ⟨p0, by omega⟩⟩)
            · exact q ⟨by omega, by omega⟩
          simp (disch := omega) only [li0, li1, li2, li3, li4, li5, li6, li7, li8, li9, li10, li16, li17, li20, li30, li32, li48, li49, li50, li57, li60, li126, li147, nI_add, nI_sb, pk_mul, nI_m1, inrT, leT, leF, ltT, ltF, eqT, eqF, n1lt, m1lt, m1neg, m1nle, m1le, m1a1, m1a2, m1s, m1s', nI_cl, ↓tl, ↓sb, sb, sel, ser, ↓reduceIte, if_true, if_false, true_or, or_true, false_or, or_false, umS, umK, umJ, uaS, uaK, uaI, uaJ, cg1, cg2, cg3, cg4, cg5, cg6, cg7, cg8, cg9, cg10, cg11, cg12, cg13, cg14, cg15, cg16, cg17, cg18, cg19, cg20, cs1, cs2, cs3, cs4, cs5, cs6, cs7, cs8, cs9, cs10, cs11, cs12, cs13, cs14, cs15, cs16, cs17, cs18, cs19, cs20, cc17, cc18, cc19, cc20, g1, d1, hla, a, z0, hput, hnote]
      · exact absurd (Or.inr ⟨by omega, Or.inl b'⟩) h
