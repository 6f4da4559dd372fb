/-! events: the ring of the class, the row of the reference -/
def aNote (k : Nat) (t it : Int32) (o c : Nat) (al : pu_A) : pu_A :=
  let a1 := ua (ua (ua (ua al 7 0 ((o + c) % 50) (nI k)) 8 0 ((o + c) % 50) t) 9 0 ((o + c) % 50) it) 10 0 k (al 10 0 k + 1)
  if c < 50 then ua a1 4 0 1 (nI (c + 1)) else ua a1 4 0 0 (nI ((o + 1) % 50))
theorem aNote_o (k : Nat) (t it : Int32) (o c : Nat) (al : pu_A) {a : Nat} (b j : Nat) (h : a < 4 ∨ 10 < a ∨ a = 5 ∨ a = 6) : aNote k t it o c al a b j = al a b j := by
  unfold aNote
  split
  · simp (disch := omega) only [uaK]
  · simp (disch := omega) only [uaK]
theorem c_note (al : pu_A) (u : ts_Mem) (k o c : Nat) (t it : Int32) (hk : k < 9) (ho : al 4 0 0 = nI o) (hc : al 4 0 1 = nI c) (ho5 : o < 50) (hc5 : c ≤ 50) : f_X2_note 0 (nI k) t it (ca al u) = some (ca (aNote k t it o c al) u) := by
  have hp : (o + c) % 50 < 50 := Nat.mod_lt _ (by decide)
  have e1 : nI (o + c) - nI (o + c) / nI 50 * nI 50 = nI ((o + c) % 50) := nI_rem (by omega) (by decide) (by decide)
  have e2 : nI (o + 1) - nI (o + 1) / nI 50 * nI 50 = nI ((o + 1) % 50) := nI_rem (by omega) (by decide) (by decide)
  have g0 : ts_gI (ca al u) (4, 0, 0) 0 = nI o := by rw [ca_g _ _ _ _ _ (by decide) (by decide), ho]
  have g1 : ts_gI (ca al u) (4, 0, 0) 1 = nI c := by rw [ca_g _ _ _ _ _ (by decide) (by decide), hc]
  unfold f_X2_note ts_let
  simp only [g0, g1, nI_add]
  rw [show (50 : Int32) = nI 50 from rfl, e1]
  simp only [if_pos (inr_nI hp (by decide)), if_pos (inr_nI hk (by decide)), nI_cl (show (o + c) % 50 < 2 ^ 31 by omega), nI_cl (show k < 2 ^ 31 by omega), cg1, cg2, cg3, cg4, cg5, cg6, cg7, cg8, cg9, cg10, cg11, cg12, cg13, cg14, cg15, cg16, cg17, cg18, cg19, cg20, cs1, cs2, cs3, cs4, cs5, cs6, cs7, cs8, cs9, cs10, cs11, cs12, cs13, cs14, cs15, cs16, cs17, cs18, cs19, cs20, cc17, cc18, cc19, cc20]
  by_cases hc50 : c < 50
  · have e3 : ¬ nI 50 ≤ nI c := nI_ge hc50 (by decide)
    simp only [ua, hc, aNote, hc50, e3, if_true, if_false, Nat.reduceEqDiff, false_and, nI_1]
  · have e3 : nI 50 ≤ nI c := nI_le (by omega) (by omega)
    simp only [ua, hc, ho, aNote, hc50, e3, if_true, if_false, Nat.reduceEqDiff, false_and, nI_1, e2]
/-- the reference's row of events as it lies behind that of the class -/
def pu_E (al : pu_A) (mu : pu_M) (o c : Nat) : Prop :=
  mu 30 14 = nI c ∧ (∀ i, i < c → mu 40 (3 * i) = al 7 0 ((o + i) % 50) ∧ mu 40 (3 * i + 1) = al 8 0 ((o + i) % 50) ∧ mu 40 (3 * i + 2) = al 9 0 ((o + i) % 50)) ∧ ∀ k, k < 9 → mu 41 k = al 10 0 k
def shE (mu : pu_M) (j : Nat) : pu_M := fun a c => if a = 40 ∧ j ≤ c ∧ c < 147 then mu 40 (c + 3) else mu a c
theorem shE_o (mu : pu_M) (j : Nat) {a : Nat} (c : Nat) (h : ¬ a = 40) : shE mu j a c = mu a c := if_neg (fun q => h q.1)
theorem l_record (u : ts_Mem) (c1 c2 c3 : Int32) : ∀ (d j n : Nat) (mu : pu_M), j + d = 147 → d < n → lp_X7_record_22 c1 c2 c3 n (nI j) (ma mu u) = some (nI 147, ma (shE mu j) u) := by
  intro d
  induction d with
  | zero =>
    intro j n mu hj hn
    obtain ⟨n, rfl⟩ : ∃ m, n = m + 1 := ⟨n - 1, by omega⟩
    obtain rfl : j = 147 := by omega
    rw [lp_X7_record_22, if_pos (by decide)]
    congr 3
    funext a c
    unfold shE
    rw [if_neg (by omega)]
  | succ d ih =>
    intro j n mu hj hn
    obtain ⟨n, rfl⟩ : ∃ m, n = m + 1 := ⟨n - 1, by omega⟩
    rw [lp_X7_record_22]
    simp (disch := omega) only [li0, li1, li2, li3, li4, li5, li6, li7, li8, li9, li10, li16, li17, li20, li30, li32, li48, li49, li50, li57, li60, li126, li147, nI_add, nI_sb, pk_mul, nI_m1, inrT, leT, leF, ltT, ltF, eqT, eqF, n1lt, m1lt, m1neg, m1nle, m1le, m1a1, m1a2, m1s, m1s', nI_cl, ↓tl, ↓sb, sb, sel, ser, ↓reduceIte, if_true, if_false, true_or, or_true, false_or, or_false, umS, umK, umJ, uaS, uaK, uaI, uaJ, mg30, mg31, mg32, mg33, mg34, mg35, mg36, mg37, mg38, mg39, mg40, mg41, mg42, mg43, mg44, mg45, mg46, mg47, mg48, mg49, ms30, ms31, ms32, ms33, ms34, ms35, ms36, ms37, ms38, ms39, ms40, ms41, ms42, ms43, ms44, ms45, ms46, ms47, ms48, ms49]
    rw [ih (j + 1) n _ (by omega) (by omega)]
    congr 3
    funext a c
    simp only [shE, um]
    by_cases ha : a = 40
    · subst ha
      by_cases hc : c = j
      · subst hc
        simp (disch := omega) [if_neg, if_pos]
      · by_cases hc2 : j ≤ c ∧ c < 147
        · have h1 : j + 1 ≤ c := by omega
          have h2 : ¬ c + 3 = j := by omega
          simp [h1, h2, hc2]
        · have h1 : ¬ (j + 1 ≤ c ∧ c < 147) := by omega
          simp [h1, hc, hc2]
    · simp [ha]
theorem m_record {al : pu_A} {mu : pu_M} (k o c : Nat) (t it : Int32) (hk : k < 9) (ho5 : o < 50) (hc5 : c ≤ 50) (hR : pu_E al mu o c) : ∃ mu', (∀ u, f_X7_record (nI k) t it (ma mu u) = some (ma mu' u)) ∧ pu_E (aNote k t it o c al) mu' (if c < 50 then o else (o + 1) % 50) (if c < 50 then c + 1 else c) ∧ (∀ a j, a ≠ 40 → a ≠ 41 → ¬ (a = 30 ∧ j = 14) → mu' a j = mu a j) := by
  obtain ⟨h1, h2, h3⟩ := hR
  have kk : k < 2 ^ 31 := by omega
  by_cases hc50 : c < 50
  · refine ⟨um (um (um (um (um mu 41 k (mu 41 k + 1)) 40 (3 * c) (nI k)) 40 (3 * c + 1) t) 40 (3 * c + 2) it) 30 14 (nI (c + 1)), fun u => ?_, ?_, ?_⟩
    · unfold f_X7_record
      simp (disch := omega) only [li0, li1, li2, li3, li4, li5, li6, li7, li8, li9, li10, li16, li17, li20, li30, li32, li48, li49, li50, li57, li60, li126, li147, nI_add, nI_sb, pk_mul, nI_m1, inrT, leT, leF, ltT, ltF, eqT, eqF, n1lt, m1lt, m1neg, m1nle, m1le, m1a1, m1a2, m1s, m1s', nI_cl, ↓tl, ↓sb, sb, sel, ser, ↓reduceIte, if_true, if_false, true_or, or_true, false_or, or_false, umS, umK, umJ, uaS, uaK, uaI, uaJ, mg30, mg31, mg32, mg33, mg34, mg35, mg36, mg37, mg38, mg39, mg40, mg41, mg42, mg43, mg44, mg45, mg46, mg47, mg48, mg49, ms30, ms31, ms32, ms33, ms34, ms35, ms36, ms37, ms38, ms39, ms40, ms41, ms42, ms43, ms44, ms45, ms46, ms47, ms48, ms49, h1]
    · rw [if_pos hc50, if_pos hc50]
      refine ⟨by simp [um], fun i hi => ?_, fun j hj => ?_⟩
      · by_cases hic : i = c
        · subst hic
          simp (disch := omega) only [aNote, if_pos hc50, li0, li1, li2, li3, li4, li5, li6, li7, li8, li9, li10, li16, li17, li20, li30, li32, li48, li49, li50, li57, li60, li126, li147, nI_add, nI_sb, pk_mul, nI_m1, inrT, leT, leF, ltT, ltF, eqT, eqF, n1lt, m1lt, m1neg, m1nle, m1le, m1a1, m1a2, m1s, m1s', nI_cl, ↓tl, ↓sb, sb, sel, ser, ↓reduceIte, if_true, if_false, true_or, or_true, false_or, or_false, umS, umK, umJ, uaS, uaK, uaI, uaJ, and_self]
        · obtain ⟨g1, g2, g3⟩ := h2 i (by omega)
          have hm : ¬ (o + i) % 50 = (o + c) % 50 := by omega
          simp (disch := omega) only [aNote, if_pos hc50, li0, li1, li2, li3, li4, li5, li6, li7, li8, li9, li10, li16, li17, li20, li30, li32, li48, li49, li50, li57, li60, li126, li147, nI_add, nI_sb, pk_mul, nI_m1, inrT, leT, leF, ltT, ltF, eqT, eqF, n1lt, m1lt, m1neg, m1nle, m1le, m1a1, m1a2, m1s, m1s', nI_cl, ↓tl, ↓sb, sb, sel, ser, ↓reduceIte, if_true, if_false, true_or, or_true, false_or, or_false, umS, umK, umJ, uaS, uaK, uaI, uaJ, g1, g2, g3, and_self]
      · by_cases hjk : j = k
        · subst hjk
          simp (disch := omega) only [aNote, if_pos hc50, li0, li1, li2, li3, li4, li5, li6, li7, li8, li9, li10, li16, li17, li20, li30, li32, li48, li49, li50, li57, li60, li126, li147, nI_add, nI_sb, pk_mul, nI_m1, inrT, leT, leF, ltT, ltF, eqT, eqF, n1lt, m1lt, m1neg, m1nle, m1le, m1a1, m1a2, m1s, m1s', nI_cl, ↓tl, ↓sb, sb, sel, ser, ↓reduceIte, if_true, if_false, true_or, or_true, false_or, or_false, umS, umK, umJ, uaS, uaK, uaI, uaJ, h3 j hj]
        · simp (disch := omega) only [aNote, if_pos hc50, li0, li1, li2, li3, li4, li5, li6, li7, li8, li9, li10, li16, li17, li20, li30, li32, li48, li49, li50, li57, li60, li126, li147, nI_add, nI_sb, pk_mul, nI_m1, inrT, leT, leF, ltT, ltF, eqT, eqF, n1lt, m1lt, m1neg, m1nle, m1le, m1a1, m1a2, m1s, m1s', nI_cl, ↓tl, ↓sb, sb, sel, ser, ↓reduceIte, if_true, if_false, true_or, or_true, false_or, or_false, umS, umK, umJ, uaS, uaK, uaI, uaJ, h3 j hj]
    · intro a j h40 h41 h30
      simp [um, h40, h41, h30]
  · obtain rfl : c = 50 := by omega
    refine ⟨um (um (um (um (um (shE (um mu 41 k (mu 41 k + 1)) 0) 30 14 (nI 49)) 40 147 (nI k)) 40 148 t) 40 149 it) 30 14 (nI 50), fun u => ?_, ?_, ?_⟩
    · unfold f_X7_record
      have hl := fun c1 c2 c3 mu => l_record u c1 c2 c3 147 0 ts_fu mu (by omega) (by decide)
      simp (disch := omega) only [li0, li1, li2, li3, li4, li5, li6, li7, li8, li9, li10, li16, li17, li20, li30, li32, li48, li49, li50, li57, li60, li126, li147, nI_add, nI_sb, pk_mul, nI_m1, inrT, leT, leF, ltT, ltF, eqT, eqF, n1lt, m1lt, m1neg, m1nle, m1le, m1a1, m1a2, m1s, m1s', nI_cl, ↓tl, ↓sb, sb, sel, ser, ↓reduceIte, if_true, if_false, true_or, or_true, false_or, or_false, umS, umK, umJ, uaS, uaK, uaI, uaJ, mg30, mg31, mg32, mg33, mg34, mg35, mg36, mg37, mg38, mg39, mg40, mg41, mg42, mg43, mg44, mg45, mg46, mg47, mg48, mg49, ms30, ms31, ms32, ms33, ms34, ms35, ms36, ms37, ms38, ms39, ms40, ms41, ms42, ms43, ms44, ms45, ms46, ms47, ms48, ms49, h1, hl, shE_o, Nat.reduceMul, Nat.reduceSub, Nat.reduceAdd]
    · rw [if_neg hc50, if_neg hc50]
      refine ⟨by simp [um], fun i hi => ?_, fun j hj => ?_⟩
      · by_cases hic : i = 49
        · subst hic
          have hm : (o + 1) % 50 + 49 = o + 50 ∨ (o + 1) % 50 + 49 = o := by omega
          have hm2 : ((o + 1) % 50 + 49) % 50 = (o + 50) % 50 := by omega
          simp (disch := omega) only [aNote, if_neg hc50, li0, li1, li2, li3, li4, li5, li6, li7, li8, li9, li10, li16, li17, li20, li30, li32, li48, li49, li50, li57, li60, li126, li147, nI_add, nI_sb, pk_mul, nI_m1, inrT, leT, leF, ltT, ltF, eqT, eqF, n1lt, m1lt, m1neg, m1nle, m1le, m1a1, m1a2, m1s, m1s', nI_cl, ↓tl, ↓sb, sb, sel, ser, ↓reduceIte, if_true, if_false, true_or, or_true, false_or, or_false, umS, umK, umJ, uaS, uaK, uaI, uaJ, hm2, Nat.reduceMul, Nat.reduceAdd, and_self]
        · obtain ⟨g1, g2, g3⟩ := h2 (i + 1) (by omega)
          have hm : ¬ ((o + 1) % 50 + i) % 50 = (o + 50) % 50 := by omega
          have hm2 : ((o + 1) % 50 + i) % 50 = (o + (i + 1)) % 50 := by omega
          have k1 : 3 * i + 3 = 3 * (i + 1) := by omega
          have k2 : 3 * i + 1 + 3 = 3 * (i + 1) + 1 := by omega
          have k3 : 3 * i + 2 + 3 = 3 * (i + 1) + 2 := by omega
          have l1 : 3 * i < 147 := by omega
          have l2 : 3 * i + 1 < 147 := by omega
          have l3 : 3 * i + 2 < 147 := by omega
          simp (disch := omega) only [aNote, if_neg hc50, li0, li1, li2, li3, li4, li5, li6, li7, li8, li9, li10, li16, li17, li20, li30, li32, li48, li49, li50, li57, li60, li126, li147, nI_add, nI_sb, pk_mul, nI_m1, inrT, leT, leF, ltT, ltF, eqT, eqF, n1lt, m1lt, m1neg, m1nle, m1le, m1a1, m1a2, m1s, m1s', nI_cl, ↓tl, ↓sb, sb, sel, ser, ↓reduceIte, if_true, if_false, true_or, or_true, false_or, or_false, umS, umK, umJ, uaS, uaK, uaI, uaJ]
          simp only [hm2, shE, Nat.zero_le, l1, l2, l3, and_self, if_true, k1, k2, k3, ← g1, ← g2, ← g3]
          simp (disch := omega) only [umK, and_self]
      · by_cases hjk : j = k
        · subst hjk
          simp (disch := omega) only [aNote, if_neg hc50, li0, li1, li2, li3, li4, li5, li6, li7, li8, li9, li10, li16, li17, li20, li30, li32, li48, li49, li50, li57, li60, li126, li147, nI_add, nI_sb, pk_mul, nI_m1, inrT, leT, leF, ltT, ltF, eqT, eqF, n1lt, m1lt, m1neg, m1nle, m1le, m1a1, m1a2, m1s, m1s', nI_cl, ↓tl, ↓sb, sb, sel, ser, ↓reduceIte, if_true, if_false, true_or, or_true, false_or, or_false, umS, umK, umJ, uaS, uaK, uaI, uaJ, shE_o, h3 j hj]
        · simp (disch := omega) only [aNote, if_neg hc50, li0, li1, li2, li3, li4, li5, li6, li7, li8, li9, li10, li16, li17, li20, li30, li32, li48, li49, li50, li57, li60, li126, li147, nI_add, nI_sb, pk_mul, nI_m1, inrT, leT, leF, ltT, ltF, eqT, eqF, n1lt, m1lt, m1neg, m1nle, m1le, m1a1, m1a2, m1s, m1s', nI_cl, ↓tl, ↓sb, sb, sel, ser, ↓reduceIte, if_true, if_false, true_or, or_true, false_or, or_false, umS, umK, umJ, uaS, uaK, uaI, uaJ, shE_o, h3 j hj]
    · intro a j h40 h41 h30
      simp [um, shE, h40, h41, h30]
