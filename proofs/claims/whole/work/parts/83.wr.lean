/-! a write on both sides -/
theorem wr {al : pu_A} {mu : pu_M} {p n nx t i : Nat} (v : Int32) (hS : pS al mu p n nx) (hR : pR al n) (ht : t < n) (ha : al 11 t 0 = nI 0) (hi : i < 8) : ((∀ u, f_X0_writeItem 0 (nI t) (nI i) v (ca al u) = some (-nI 1, ca al u)) ∧ (∀ u, f_X7_doWrite (nI t) (nI i) v (ma mu u) = (f_X7_doAbort 17 (nI t) (nI 6) (nI i) (ma mu u)).bind (fun q => some (-2147483648, q.2)))) ∨ ∃ al' mu' b, b ≤ 1 ∧ (∀ u, f_X0_writeItem 0 (nI t) (nI i) v (ca al u) = some (nI b, ca al' u)) ∧ (∀ u, f_X7_doWrite (nI t) (nI i) v (ma mu u) = some (nI b, ma mu' u)) ∧ pS al' mu' p n nx ∧ pR al' n ∧ al' 11 t 0 = nI 0 ∧ pP al al' mu mu' ∧ mu' 30 17 = mu 30 17 := by
  have hS' := hS
  obtain ⟨⟨g1, g2, g3, g4, g5, g6, g7, g8, g9, g10⟩, hT, hO, hD, hCs, hE⟩ := hS'
  obtain ⟨c, hC, hW⟩ := hCs i hi
  have hC' := hC
  obtain ⟨d1, d2, d3, d4⟩ := hC'
  have hW' := hW
  obtain ⟨w1, w2, w3, w4, w5⟩ := hW'
  obtain ⟨-, t1, t2, -⟩ := hT t ht
  have hu : un al t := Or.inl ha
  have hlr := fun u => r_lut (al := al) (mu := mu) u (al 11 t 1) hi hC
  have hpv := fun u h => c_putValue al u i c (al 11 t 1) (nI t) v d1 d3 h
  obtain ⟨m, hm⟩ : ∃ m, la (al 17 i) (al 11 t 1) c = m := ⟨_, rfl⟩
  have hml := la_le (al 17 i) (al 11 t 1) c
  have hmat := la_at (al 17 i) (al 11 t 1) c
  have hmgt := la_gt (al 17 i) (al 11 t 1) c
  unfold aPut at hpv
  rw [hm] at hml hmat hmgt hpv
  have hm1 : 1 ≤ m := by
    apply Nat.lt_of_not_le
    intro q
    have := hmgt 0 q (by omega)
    rw [Int32.le_iff_toInt_le] at this
    exact this (w5 t ht hu)
  simp only [hm, ixN_p hm1] at hlr
  have hlrB : ∀ u (B : Int32 → Option (Int32 × ts_Mem)), (f_X7_lastUpTo (nI i) (ts_gI (ma mu u) (32, 0, 0) (nI t).toNatClampNeg) (ma mu u)).bind B = B (nI (m - 1)) := fun u B => by
    rw [nI_cl (show t < 2 ^ 31 by omega), mg32, t2]
    exact bxx (hlr u) B
  have hwcB : ∀ u (B : Int32 → Option (Int32 × ts_Mem)), (f_X7_written (nI i) (ts_gI (ma mu u) (38, 0, 0) (nI i).toNatClampNeg - 1) (ma mu u)).bind B = B (al 17 i (c - 1)) := fun u B => by
    rw [nI_cl (show i < 2 ^ 31 by omega), mg38, d2, show nI c - 1 = nI (c - 1) from nI_sb (b := 1) (by omega)]
    exact bxx (r_wr (al := al) (mu := mu) u hi hC (show c - 1 < c by omega)) B
  have hwmB : ∀ u (B : Int32 → Option (Int32 × ts_Mem)), (f_X7_written (nI i) (nI (m - 1)) (ma mu u)).bind B = B (al 17 i (m - 1)) := fun u B => bxx (r_wr (al := al) (mu := mu) u hi hC (show m - 1 < c by omega)) B
  obtain ⟨R1, R0⟩ := wr_ref hS ht hi hC hm hm1
  obtain ⟨C1, C0⟩ := wr_cls (n := n) g1 g3 g10 ht hi d1 d3 hm hm1 v
  by_cases hr : rfu al p i c m (al 11 t 1)
  · left
    refine ⟨C1 hr, fun u => ?_⟩
    have hB : ∀ u (B : Int32 → Option (Int32 × ts_Mem)), (f_X7_isRefused (nI t) (nI i) (ma mu u)).bind B = B (nI 1) := fun u B => bxx (R1 hr u) B
    unfold f_X7_doWrite
    simp (disch := omega) only [li0, li1, li2, li3, li4, li5, li6, li7, li8, li9, li10, li16, li17, li20, li30, li32, li48, li49, li50, li57, li60, li126, li147, nI_add, nI_sb, pk_mul, nI_m1, inrT, leT, leF, ltT, ltF, eqT, eqF, n1lt, m1lt, m1neg, m1nle, m1le, m1a1, m1a2, m1s, m1s', nI_cl, ↓tl, ↓sb, sb, sel, ser, ↓reduceIte, if_true, if_false, true_or, or_true, false_or, or_false, umS, umK, umJ, uaS, uaK, uaI, uaJ, ↓hB]
  · right
    have hB : ∀ u (B : Int32 → Option (Int32 × ts_Mem)), (f_X7_isRefused (nI t) (nI i) (ma mu u)).bind B = B (nI 0) := fun u B => bxx (R0 hr u) B
    obtain ⟨b, kd, hbk, hb1, hkd⟩ : ∃ b kd, ((p = 1 ∧ m < c ∧ b = 1 ∧ kd = 3) ∨ (¬ (p = 1 ∧ m < c) ∧ b = 0 ∧ kd = 2)) ∧ b ≤ 1 ∧ kd < 9 := by
      by_cases q : p = 1 ∧ m < c
      · exact ⟨1, 3, Or.inl ⟨q.1, q.2, rfl, rfl⟩, by omega, by omega⟩
      · exact ⟨0, 2, Or.inr ⟨q, rfl, rfl⟩, by omega, by omega⟩
    have fin : ∀ al1 mu1, pS al1 mu1 p n nx → (∀ s j, al1 11 s j = al 11 s j) → pP al al1 mu mu1 → mu1 30 17 = mu 30 17 → (∀ u, f_X1_putValue 0 i (al 11 t 1) (nI t) v (ca al u) = some (ca al1 u)) → (∀ mu' u, (∀ u, f_X7_record (nI kd) (nI t) (nI i) (ma mu1 u) = some (ma mu' u)) → f_X7_doWrite (nI t) (nI i) v (ma mu u) = some (nI b, ma mu' u)) → ∃ al' mu' b, b ≤ 1 ∧ (∀ u, f_X0_writeItem 0 (nI t) (nI i) v (ca al u) = some (nI b, ca al' u)) ∧ (∀ u, f_X7_doWrite (nI t) (nI i) v (ma mu u) = some (nI b, ma mu' u)) ∧ pS al' mu' p n nx ∧ pR al' n ∧ al' 11 t 0 = nI 0 ∧ pP al al' mu mu' ∧ mu' 30 17 = mu 30 17 := by
      intro al1 mu1 hS1 a11 hP1 h17 hput hrec
      obtain ⟨al3, mu3, s0, s1, s2, s3, s4⟩ := n_note kd (nI t) (nI i) hkd hS1.2.2.2.2.2
      refine ⟨al3, mu3, b, hb1, C0 hr al1 al3 b kd hbk hput s0, fun u => hrec mu3 u s1, ?_, ?_, ?_, ?_, by rw [s4 _ _ (by decide) (by decide) (by omega)]; exact h17⟩
      · exact pS_cg hS1 (fun a b j h => s3 a b j (by omega)) (fun a j h => s4 a j (by omega) (by omega) (by omega)) s2
      · intro s hs j hj hb
        have uq3 : ∀ s, un al3 s ↔ un al s := fun s => by unfold un; rw [s3 _ _ _ (by omega), a11]
        rw [uq3, uq3]; rw [s3 _ _ _ (by omega), a11] at hb; exact hR s hs j hj hb
      · rw [s3 _ _ _ (by omega), a11]; exact ha
      · refine pP_trans hP1 ⟨fun s => ?_, fun a b j h => ?_, fun a j h => ?_⟩
        · simp (disch := omega) only [s3, and_self]
        · rw [s3 a b j (by omega)]
        · rw [s4 a j (by omega) (by omega) (by omega)]
    have hgc : m < c → ¬ al 17 i (c - 1) ≤ al 11 t 1 := fun q => hmgt (c - 1) (by omega) (by omega)
    have hlc : m = c → al 17 i (c - 1) ≤ al 11 t 1 := fun q => by rw [← q]; exact hmat hm1
    by_cases same : al 17 i (m - 1) = al 11 t 1
    · refine fin (ua al 19 i (m - 1) v) (um mu 39 (4 * (20 * i + (m - 1)) + 2) v) (pS_val v hS hi d1 d3 (by omega)) (fun s j => uaK _ _ _ _ _ _ (by decide)) ?_ (umK _ _ _ _ (by decide)) (fun u => ?_) (fun mu' u h => ?_)
      · refine ⟨fun s => ?_, fun a b j h => ?_, fun a j h => ?_⟩
        · simp (disch := omega) only [uaK, and_self]
        · rw [uaK _ _ _ _ _ _ (by omega)]
        · rw [umK _ _ _ _ (by omega)]
      · have := hpv u (fun q => absurd ⟨hm1, same⟩ q)
        rw [if_pos ⟨hm1, same⟩] at this
        exact this
      · unfold f_X7_doWrite f_X7_place
        rcases hbk with ⟨rfl, e2, rfl, rfl⟩ | ⟨e2, rfl, rfl⟩
        · simp (disch := omega) only [li0, li1, li2, li3, li4, li5, li6, li7, li8, li9, li10, li16, li17, li20, li30, li32, li48, li49, li50, li57, li60, li126, li147, nI_add, nI_sb, pk_mul, nI_m1, inrT, leT, leF, ltT, ltF, eqT, eqF, n1lt, m1lt, m1neg, m1nle, m1le, m1a1, m1a2, m1s, m1s', nI_cl, ↓tl, ↓sb, sb, sel, ser, ↓reduceIte, if_true, if_false, true_or, or_true, false_or, or_false, umS, umK, umJ, uaS, uaK, uaI, uaJ, mg30, mg31, mg32, mg33, mg34, mg35, mg36, mg37, mg38, mg39, mg40, mg41, mg42, mg43, mg44, mg45, mg46, mg47, mg48, mg49, ms30, ms31, ms32, ms33, ms34, ms35, ms36, ms37, ms38, ms39, ms40, ms41, ms42, ms43, ms44, ms45, ms46, ms47, ms48, ms49, ↓hB, ↓hwcB, ↓hlrB, ↓hwmB, g2, t2, if_neg (hgc e2), same, h]
        · by_cases p1 : p = 1
          · subst p1
            have e3 := hlc (by omega)
            simp (disch := omega) only [li0, li1, li2, li3, li4, li5, li6, li7, li8, li9, li10, li16, li17, li20, li30, li32, li48, li49, li50, li57, li60, li126, li147, nI_add, nI_sb, pk_mul, nI_m1, inrT, leT, leF, ltT, ltF, eqT, eqF, n1lt, m1lt, m1neg, m1nle, m1le, m1a1, m1a2, m1s, m1s', nI_cl, ↓tl, ↓sb, sb, sel, ser, ↓reduceIte, if_true, if_false, true_or, or_true, false_or, or_false, umS, umK, umJ, uaS, uaK, uaI, uaJ, mg30, mg31, mg32, mg33, mg34, mg35, mg36, mg37, mg38, mg39, mg40, mg41, mg42, mg43, mg44, mg45, mg46, mg47, mg48, mg49, ms30, ms31, ms32, ms33, ms34, ms35, ms36, ms37, ms38, ms39, ms40, ms41, ms42, ms43, ms44, ms45, ms46, ms47, ms48, ms49, ↓hB, ↓hwcB, ↓hlrB, ↓hwmB, g2, t2, if_pos e3, same, h]
          · simp (disch := omega) only [li0, li1, li2, li3, li4, li5, li6, li7, li8, li9, li10, li16, li17, li20, li30, li32, li48, li49, li50, li57, li60, li126, li147, nI_add, nI_sb, pk_mul, nI_m1, inrT, leT, leF, ltT, ltF, eqT, eqF, n1lt, m1lt, m1neg, m1nle, m1le, m1a1, m1a2, m1s, m1s', nI_cl, ↓tl, ↓sb, sb, sel, ser, ↓reduceIte, if_true, if_false, true_or, or_true, false_or, or_false, umS, umK, umJ, uaS, uaK, uaI, uaJ, mg30, mg31, mg32, mg33, mg34, mg35, mg36, mg37, mg38, mg39, mg40, mg41, mg42, mg43, mg44, mg45, mg46, mg47, mg48, mg49, ms30, ms31, ms32, ms33, ms34, ms35, ms36, ms37, ms38, ms39, ms40, ms41, ms42, ms43, ms44, ms45, ms46, ms47, ms48, ms49, ↓hB, ↓hwcB, ↓hlrB, ↓hwmB, g2, t2, same, h]
    · have lo : ∀ k, k < m → (al 17 i k).toInt < (al 11 t 1).toInt := fun k hk => by
        have h1 := hmat hm1
        rw [Int32.le_iff_toInt_le] at h1
        have h2 : ¬ (al 17 i (m - 1)).toInt = (al 11 t 1).toInt := fun q => same (Int32.toInt_inj.mp q)
        by_cases e : k = m - 1
        · subst e; omega
        · have := w2 k (m - 1) (by omega) (by omega); omega
      have hi' : ∀ k, m ≤ k → k < c → (al 11 t 1).toInt < (al 17 i k).toInt := fun k h1 h2 => by
        have := hmgt k h1 h2
        rw [Int32.le_iff_toInt_le] at this
        omega
      have hc16 : c ≤ 16 := few g10 ht hW (fun k hk q => by
        by_cases e : k < m
        · have := lo k e; rw [q] at this; omega
        · have := hi' k (by omega) hk; rw [q] at this; omega)
      obtain ⟨mu1, q0, q1, q2, q3, q4, -⟩ := r_ins hi hm1 (c - m) c ts_fu mu (by omega) d3 (by unfold ts_fu; omega)
      have hinB : ∀ u c4 (B : Int32 × ts_Mem → Option (Int32 × ts_Mem)), (lp_X7_doWrite_118 (nI t) (nI i) v c4 (nI (m - 1)) ts_fu (ts_gI (ma mu u) (38, 0, 0) (nI i).toNatClampNeg) (ma mu u)).bind B = B (nI m, ma mu1 u) := fun u c4 B => by
        rw [nI_cl (show i < 2 ^ 31 by omega), mg38, d2]
        exact bxx (q0 u _ _ _) B
      have hpt := fun u => r_put mu1 u i m (al 11 t 1) (nI 0) v (nI t) hi (by omega)
      have k1 : m - 1 + 1 = m := by omega
      have m32 : mu1 32 t = al 11 t 1 := by rw [q1 _ _ (by decide)]; exact t2
      have m38 : mPut mu1 i m (al 11 t 1) (nI 0) v (nI t) 38 i = nI c := by rw [mPut_k _ _ _ _ _ _ _ _ (by decide), q1 _ _ (by decide)]; exact d2
      refine fin (aIns i c m (al 11 t 1) (nI t) v al) (um (mPut mu1 i m (al 11 t 1) (nI 0) v (nI t)) 38 i (nI (c + 1))) (pS_ins v hS hi d1 hm1 hml hc16 ht ha lo hi' q1 q2 q3 q4) (fun s j => aIns_o _ _ _ _ _ _ _ _ _ (by omega)) ?_ (by rw [umK _ _ _ _ (by decide), mPut_k _ _ _ _ _ _ _ _ (by decide), q1 _ _ (by decide)]) (fun u => ?_) (fun mu' u h => ?_)
      · refine ⟨fun s => ?_, fun a b j h => ?_, fun a j h => ?_⟩
        · rw [aIns_o _ _ _ _ _ _ _ _ _ (by omega), aIns_o _ _ _ _ _ _ _ _ _ (by omega)]; exact ⟨rfl, rfl⟩
        · rw [aIns_o _ _ _ _ _ _ _ _ _ (by omega)]
        · rw [umK _ _ _ _ (by omega), mPut_k _ _ _ _ _ _ _ _ (by omega), q1 _ _ (by omega)]
      · have := hpv u (fun _ => by omega)
        rw [if_neg (fun q => same q.2)] at this
        exact this
      · unfold f_X7_doWrite f_X7_place
        rcases hbk with ⟨rfl, e2, rfl, rfl⟩ | ⟨e2, rfl, rfl⟩
        · simp (disch := omega) only [li0, li1, li2, li3, li4, li5, li6, li7, li8, li9, li10, li16, li17, li20, li30, li32, li48, li49, li50, li57, li60, li126, li147, nI_add, nI_sb, pk_mul, nI_m1, inrT, leT, leF, ltT, ltF, eqT, eqF, n1lt, m1lt, m1neg, m1nle, m1le, m1a1, m1a2, m1s, m1s', nI_cl, ↓tl, ↓sb, sb, sel, ser, ↓reduceIte, if_true, if_false, true_or, or_true, false_or, or_false, umS, umK, umJ, uaS, uaK, uaI, uaJ, mg30, mg31, mg32, mg33, mg34, mg35, mg36, mg37, mg38, mg39, mg40, mg41, mg42, mg43, mg44, mg45, mg46, mg47, mg48, mg49, ms30, ms31, ms32, ms33, ms34, ms35, ms36, ms37, ms38, ms39, ms40, ms41, ms42, ms43, ms44, ms45, ms46, ms47, ms48, ms49, ↓hB, ↓hwcB, ↓hlrB, ↓hwmB, ↓hinB, g2, t2, if_neg (hgc e2), if_neg same, k1, m32, hpt, m38, h]
        · by_cases p1 : p = 1
          · subst p1
            have e3 := hlc (by omega)
            simp (disch := omega) only [li0, li1, li2, li3, li4, li5, li6, li7, li8, li9, li10, li16, li17, li20, li30, li32, li48, li49, li50, li57, li60, li126, li147, nI_add, nI_sb, pk_mul, nI_m1, inrT, leT, leF, ltT, ltF, eqT, eqF, n1lt, m1lt, m1neg, m1nle, m1le, m1a1, m1a2, m1s, m1s', nI_cl, ↓tl, ↓sb, sb, sel, ser, ↓reduceIte, if_true, if_false, true_or, or_true, false_or, or_false, umS, umK, umJ, uaS, uaK, uaI, uaJ, mg30, mg31, mg32, mg33, mg34, mg35, mg36, mg37, mg38, mg39, mg40, mg41, mg42, mg43, mg44, mg45, mg46, mg47, mg48, mg49, ms30, ms31, ms32, ms33, ms34, ms35, ms36, ms37, ms38, ms39, ms40, ms41, ms42, ms43, ms44, ms45, ms46, ms47, ms48, ms49, ↓hB, ↓hwcB, ↓hlrB, ↓hwmB, ↓hinB, g2, t2, if_pos e3, if_neg same, k1, m32, hpt, m38, h]
          · simp (disch := omega) only [li0, li1, li2, li3, li4, li5, li6, li7, li8, li9, li10, li16, li17, li20, li30, li32, li48, li49, li50, li57, li60, li126, li147, nI_add, nI_sb, pk_mul, nI_m1, inrT, leT, leF, ltT, ltF, eqT, eqF, n1lt, m1lt, m1neg, m1nle, m1le, m1a1, m1a2, m1s, m1s', nI_cl, ↓tl, ↓sb, sb, sel, ser, ↓reduceIte, if_true, if_false, true_or, or_true, false_or, or_false, umS, umK, umJ, uaS, uaK, uaI, uaJ, mg30, mg31, mg32, mg33, mg34, mg35, mg36, mg37, mg38, mg39, mg40, mg41, mg42, mg43, mg44, mg45, mg46, mg47, mg48, mg49, ms30, ms31, ms32, ms33, ms34, ms35, ms36, ms37, ms38, ms39, ms40, ms41, ms42, ms43, ms44, ms45, ms46, ms47, ms48, ms49, ↓hB, ↓hwcB, ↓hlrB, ↓hwmB, ↓hinB, g2, t2, if_neg same, k1, m32, hpt, m38, h]
