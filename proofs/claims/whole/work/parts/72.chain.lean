/-! chains of the class -/
def la (w : Nat → Int32) (T : Int32) : Nat → Nat
  | 0 => 0
  | n + 1 => if w n ≤ T then n + 1 else la w T n
def ixN : Nat → Int32
  | 0 => -1
  | m + 1 => nI m
theorem ixN_p {m : Nat} (h : 1 ≤ m) : ixN m = nI (m - 1) := by
  obtain ⟨b, rfl⟩ : ∃ b, m = b + 1 := ⟨m - 1, by omega⟩
  rfl
theorem ixN_0 {m : Nat} (h : m = 0) : ixN m = -1 := by
  subst h; rfl
theorem la_le (w : Nat → Int32) (T : Int32) : ∀ n, la w T n ≤ n := by
  intro n
  induction n with
  | zero => exact Nat.le_refl _
  | succ n ih => unfold la; split <;> omega
theorem la_at (w : Nat → Int32) (T : Int32) : ∀ n, 1 ≤ la w T n → w (la w T n - 1) ≤ T := by
  intro n
  induction n with
  | zero => intro h; exact absurd (show 1 ≤ 0 from h) (by decide)
  | succ n ih =>
    unfold la
    split
    · intro _; assumption
    · exact ih
theorem la_gt (w : Nat → Int32) (T : Int32) : ∀ n k, la w T n ≤ k → k < n → ¬ w k ≤ T := by
  intro n
  induction n with
  | zero => intro k _ h; exact absurd h (by omega)
  | succ n ih =>
    intro k
    unfold la
    split
    · intro h1 h2; exact absurd h1 (by omega)
    · intro h1 h2
      by_cases e : k = n
      · subst e; assumption
      · exact ih k h1 (by omega)
theorem la_of (w : Nat → Int32) (T : Int32) (n m : Nat) (hm : m ≤ n) (h1 : 1 ≤ m → w (m - 1) ≤ T) (h2 : ∀ k, m ≤ k → k < n → ¬ w k ≤ T) : la w T n = m := by
  have a1 := la_le w T n
  have a2 := la_at w T n
  have a3 := la_gt w T n
  by_cases e : la w T n < m
  · exact absurd (h1 (by omega)) (a3 (m - 1) (by omega) (by omega))
  · by_cases e2 : m < la w T n
    · exact absurd (a2 (by omega)) (h2 _ (by omega) (by omega))
    · omega
theorem la_congr {w w' : Nat → Int32} (T : Int32) {n : Nat} (h : ∀ k, k < n → w k = w' k) : la w T n = la w' T n := by
  induction n with
  | zero => rfl
  | succ n ih =>
    unfold la
    rw [h n (by omega), ih (fun k hk => h k (by omega))]
theorem c_la_loop (al : pu_A) (u : ts_Mem) (i : Nat) (T : Int32) : ∀ m N, m ≤ 17 → m < N → lp_X1_lastAtMost_7 0 i T (ca al u) N (ixN m) = some (ixN (la (al 17 i) T m)) := by
  intro m
  induction m with
  | zero =>
    intro N _ hN
    obtain ⟨N, rfl⟩ : ∃ b, N = b + 1 := ⟨N - 1, by omega⟩
    rw [lp_X1_lastAtMost_7]
    exact if_pos (by decide)
  | succ m ih =>
    intro N hm hN
    obtain ⟨N, rfl⟩ : ∃ b, N = b + 1 := ⟨N - 1, by omega⟩
    rw [lp_X1_lastAtMost_7]
    have ix : ixN (m + 1) = nI m := rfl
    have i1 : nI m + (-nI 1) = ixN m := by
      by_cases e0 : m = 0
      · subst e0; decide
      · rw [ixN_p (by omega), nI_m1 (by omega)]
    have hp : ¬ nI m < nI 0 := nI_nlt (by omega) (by omega)
    rw [ix, show la (al 17 i) T (m + 1) = if al 17 i m ≤ T then m + 1 else la (al 17 i) T m from rfl]
    by_cases e : al 17 i m ≤ T
    · rw [if_pos e]
      simp (disch := omega) only [li0, li1, li2, li3, li4, li5, li6, li7, li8, li9, li10, li16, li17, li20, li30, li32, li48, li49, li50, li57, li60, li126, li147, nI_add, nI_sb, pk_mul, nI_m1, inrT, leT, leF, ltT, ltF, eqT, eqF, n1lt, m1lt, m1neg, m1nle, m1le, m1a1, m1a2, m1s, m1s', nI_cl, ↓tl, ↓sb, sb, sel, ser, ↓reduceIte, if_true, if_false, true_or, or_true, false_or, or_false, umS, umK, umJ, uaS, uaK, uaI, uaJ, cg1, cg2, cg3, cg4, cg5, cg6, cg7, cg8, cg9, cg10, cg11, cg12, cg13, cg14, cg15, cg16, cg17, cg18, cg19, cg20, cs1, cs2, cs3, cs4, cs5, cs6, cs7, cs8, cs9, cs10, cs11, cs12, cs13, cs14, cs15, cs16, cs17, cs18, cs19, cs20, cc17, cc18, cc19, cc20, if_pos e, ix]
    · rw [if_neg e, ← ih N (by omega) (by omega), ← i1]
      simp (disch := omega) only [li0, li1, inrT, ltF, nI_cl, if_true, if_false, cg1, cg2, cg3, cg4, cg5, cg6, cg7, cg8, cg9, cg10, cg11, cg12, cg13, cg14, cg15, cg16, cg17, cg18, cg19, cg20, cs1, cs2, cs3, cs4, cs5, cs6, cs7, cs8, cs9, cs10, cs11, cs12, cs13, cs14, cs15, cs16, cs17, cs18, cs19, cs20, cc17, cc18, cc19, cc20, if_neg e]
theorem c_la (al : pu_A) (u : ts_Mem) (i c : Nat) (T : Int32) (hc : al 16 i 0 = nI c) (h17 : c ≤ 17) : f_X1_lastAtMost 0 i T (ca al u) = some (ixN (la (al 17 i) T c)) := by
  unfold f_X1_lastAtMost
  have e : nI c - 1 = ixN c := by
    by_cases e0 : c = 0
    · subst e0; decide
    · rw [ixN_p (by omega)]; exact nI_sb (b := 1) (by omega)
  simp only [tl, cg1, cg2, cg3, cg4, cg5, cg6, cg7, cg8, cg9, cg10, cg11, cg12, cg13, cg14, cg15, cg16, cg17, cg18, cg19, cg20, cs1, cs2, cs3, cs4, cs5, cs6, cs7, cs8, cs9, cs10, cs11, cs12, cs13, cs14, cs15, cs16, cs17, cs18, cs19, cs20, cc17, cc18, cc19, cc20, hc, e]
  rw [c_la_loop al u i T c ts_fu h17 (by unfold ts_fu; omega)]
  rfl
def aSh (i f t n : Nat) (al : pu_A) : pu_A := ua (pa (pa (pa (pa al 17 i 17 i f t n) 18 i 18 i f t n) 19 i 19 i f t n) 20 i 20 i f t n) 16 i 0 (nI (t + n))
theorem okc_nI {a b n : Nat} (h1 : a + n ≤ 17) (h2 : b + n ≤ 17) : ts_okc (nI a) (nI b) (nI n) 17 17 := by
  refine ⟨nI_pos (by omega), nI_pos (by omega), nI_pos (by omega), ?_, ?_⟩
  · rw [nI_cl (by omega), nI_cl (by omega)]; exact h1
  · rw [nI_cl (by omega), nI_cl (by omega)]; exact h2
theorem c_shift (al : pu_A) (u : ts_Mem) (i c f t : Nat) (hc : al 16 i 0 = nI c) (hf : f ≤ c) (h17 : c ≤ 17) (ht : t + (c - f) ≤ 17) : f_X1_shift 0 i (nI f) (nI t) (ca al u) = some (ca (aSh i f t (c - f) al) u) := by
  unfold f_X1_shift
  simp (disch := omega) only [li0, li1, li2, li3, li4, li5, li6, li7, li8, li9, li10, li16, li17, li20, li30, li32, li48, li49, li50, li57, li60, li126, li147, nI_add, nI_sb, pk_mul, nI_m1, inrT, leT, leF, ltT, ltF, eqT, eqF, n1lt, m1lt, m1neg, m1nle, m1le, m1a1, m1a2, m1s, m1s', nI_cl, ↓tl, ↓sb, sb, sel, ser, ↓reduceIte, if_true, if_false, true_or, or_true, false_or, or_false, umS, umK, umJ, uaS, uaK, uaI, uaJ, cg1, cg2, cg3, cg4, cg5, cg6, cg7, cg8, cg9, cg10, cg11, cg12, cg13, cg14, cg15, cg16, cg17, cg18, cg19, cg20, cs1, cs2, cs3, cs4, cs5, cs6, cs7, cs8, cs9, cs10, cs11, cs12, cs13, cs14, cs15, cs16, cs17, cs18, cs19, cs20, cc17, cc18, cc19, cc20, hc, if_pos (okc_nI (a := f) (b := t) (n := c - f) (by omega) (by omega))]
  rfl
theorem aSh_c (i f t n : Nat) (al : pu_A) : aSh i f t n al 16 i 0 = nI (t + n) := uaS _ _ _ _ _
theorem aSh_o (i f t n : Nat) (al : pu_A) {a : Nat} (b j : Nat) (h : a < 16 ∨ 20 < a ∨ ¬ b = i) : aSh i f t n al a b j = al a b j := by
  unfold aSh ua pa
  simp only []
  rw [if_neg (by omega), if_neg (by omega), if_neg (by omega), if_neg (by omega), if_neg (by omega)]
theorem aSh_v (i f t n : Nat) (al : pu_A) {a : Nat} (j : Nat) (h : 17 ≤ a ∧ a ≤ 20) : aSh i f t n al a i j = va_cpy (al a i) (al a i) f t n j := by
  unfold aSh
  rw [uaK _ _ _ _ _ _ (by omega)]
  have pK : ∀ (al : pu_A) (k : Nat), ¬ k = a → pa al k i k i f t n a i = al a i := fun al k hk => by
    funext j; exact if_neg (fun q => hk q.1.symm)
  have pS : ∀ (al : pu_A), pa al a i a i f t n a i j = va_cpy (al a i) (al a i) f t n j := fun al => if_pos ⟨rfl, rfl⟩
  obtain rfl | rfl | rfl | rfl : a = 17 ∨ a = 18 ∨ a = 19 ∨ a = 20 := by omega
  · rw [pK _ 20 (by decide), pK _ 19 (by decide), pK _ 18 (by decide), pS]
  · rw [pK _ 20 (by decide), pK _ 19 (by decide), pS, pK _ 17 (by decide)]
  · rw [pK _ 20 (by decide), pS, pK _ 18 (by decide), pK _ 17 (by decide)]
  · rw [pS, pK _ 19 (by decide), pK _ 18 (by decide), pK _ 17 (by decide)]
theorem aSh_in (i f t n : Nat) (al : pu_A) {a : Nat} (j : Nat) (h : 17 ≤ a ∧ a ≤ 20) (h1 : t ≤ j) (h2 : j < t + n) : aSh i f t n al a i j = al a i (f + (j - t)) := by
  rw [aSh_v i f t n al j h, pk_cpy_in h1 h2]
theorem aSh_out (i f t n : Nat) (al : pu_A) {a : Nat} (j : Nat) (h : 17 ≤ a ∧ a ≤ 20) (h1 : j < t) : aSh i f t n al a i j = al a i j := by
  rw [aSh_v i f t n al j h, pk_cpy_out (Or.inl h1)]
def aPut (i c : Nat) (T t v : Int32) (al : pu_A) : pu_A :=
  let m := la (al 17 i) T c
  if 1 ≤ m ∧ al 17 i (m - 1) = T then ua al 19 i (m - 1) v else ua (ua (ua (ua (aSh i m (m + 1) (c - m) al) 17 i m T) 18 i m 0) 19 i m v) 20 i m t
theorem c_putValue (al : pu_A) (u : ts_Mem) (i c : Nat) (T t v : Int32) (hc : al 16 i 0 = nI c) (h17 : c ≤ 17) (h16 : ¬ (1 ≤ la (al 17 i) T c ∧ al 17 i (la (al 17 i) T c - 1) = T) → c < 17) : f_X1_putValue 0 i T t v (ca al u) = some (ca (aPut i c T t v al) u) := by
  unfold f_X1_putValue
  rw [c_la al u i c T hc h17, sb]
  unfold aPut
  have hl := la_le (al 17 i) T c
  by_cases e0 : la (al 17 i) T c = 0
  · have hc17 := h16 (by omega)
    have hs := c_shift al u i c 0 1 hc (by omega) h17 (by omega)
    have hn : ¬ (1 ≤ 0 ∧ al 17 i (0 - 1) = T) := by omega
    simp (disch := omega) only [e0, ixN_0, li0, li1, li2, li3, li4, li5, li6, li7, li8, li9, li10, li16, li17, li20, li30, li32, li48, li49, li50, li57, li60, li126, li147, nI_add, nI_sb, pk_mul, nI_m1, inrT, leT, leF, ltT, ltF, eqT, eqF, n1lt, m1lt, m1neg, m1nle, m1le, m1a1, m1a2, m1s, m1s', nI_cl, ↓tl, ↓sb, sb, sel, ser, ↓reduceIte, if_true, if_false, true_or, or_true, false_or, or_false, umS, umK, umJ, uaS, uaK, uaI, uaJ, cg1, cg2, cg3, cg4, cg5, cg6, cg7, cg8, cg9, cg10, cg11, cg12, cg13, cg14, cg15, cg16, cg17, cg18, cg19, cg20, cs1, cs2, cs3, cs4, cs5, cs6, cs7, cs8, cs9, cs10, cs11, cs12, cs13, cs14, cs15, cs16, cs17, cs18, cs19, cs20, cc17, cc18, cc19, cc20, hc, hs, if_neg hn]
  · by_cases e1 : al 17 i (la (al 17 i) T c - 1) = T
    · have hn : 1 ≤ la (al 17 i) T c ∧ al 17 i (la (al 17 i) T c - 1) = T := ⟨by omega, e1⟩
      simp (disch := omega) only [ixN_p, li0, li1, li2, li3, li4, li5, li6, li7, li8, li9, li10, li16, li17, li20, li30, li32, li48, li49, li50, li57, li60, li126, li147, nI_add, nI_sb, pk_mul, nI_m1, inrT, leT, leF, ltT, ltF, eqT, eqF, n1lt, m1lt, m1neg, m1nle, m1le, m1a1, m1a2, m1s, m1s', nI_cl, ↓tl, ↓sb, sb, sel, ser, ↓reduceIte, if_true, if_false, true_or, or_true, false_or, or_false, umS, umK, umJ, uaS, uaK, uaI, uaJ, cg1, cg2, cg3, cg4, cg5, cg6, cg7, cg8, cg9, cg10, cg11, cg12, cg13, cg14, cg15, cg16, cg17, cg18, cg19, cg20, cs1, cs2, cs3, cs4, cs5, cs6, cs7, cs8, cs9, cs10, cs11, cs12, cs13, cs14, cs15, cs16, cs17, cs18, cs19, cs20, cc17, cc18, cc19, cc20, if_pos hn, if_pos e1]
    · have hn : ¬ (1 ≤ la (al 17 i) T c ∧ al 17 i (la (al 17 i) T c - 1) = T) := fun q => e1 q.2
      have hc17 := h16 hn
      have hs := c_shift al u i c (la (al 17 i) T c) (la (al 17 i) T c + 1) hc (by omega) h17 (by omega)
      have k1 : la (al 17 i) T c - 1 + 1 = la (al 17 i) T c := by omega
      have k2 : la (al 17 i) T c - 1 + 2 = la (al 17 i) T c + 1 := by omega
      simp (disch := omega) only [ixN_p, li0, li1, li2, li3, li4, li5, li6, li7, li8, li9, li10, li16, li17, li20, li30, li32, li48, li49, li50, li57, li60, li126, li147, nI_add, nI_sb, pk_mul, nI_m1, inrT, leT, leF, ltT, ltF, eqT, eqF, n1lt, m1lt, m1neg, m1nle, m1le, m1a1, m1a2, m1s, m1s', nI_cl, ↓tl, ↓sb, sb, sel, ser, ↓reduceIte, if_true, if_false, true_or, or_true, false_or, or_false, umS, umK, umJ, uaS, uaK, uaI, uaJ, cg1, cg2, cg3, cg4, cg5, cg6, cg7, cg8, cg9, cg10, cg11, cg12, cg13, cg14, cg15, cg16, cg17, cg18, cg19, cg20, cs1, cs2, cs3, cs4, cs5, cs6, cs7, cs8, cs9, cs10, cs11, cs12, cs13, cs14, cs15, cs16, cs17, cs18, cs19, cs20, cc17, cc18, cc19, cc20, hc, if_neg e1, k1, k2, hs, if_neg hn]
def aRem (i c : Nat) (t T : Int32) (al : pu_A) : pu_A :=
  let m := la (al 17 i) T c
  if 1 ≤ m ∧ al 20 i (m - 1) = t then aSh i m (m - 1) (c - m) al else al
theorem c_removeVersionOf (al : pu_A) (u : ts_Mem) (i c : Nat) (t T : Int32) (hc : al 16 i 0 = nI c) (h17 : c ≤ 17) : f_X1_removeVersionOf 0 i t T (ca al u) = some (ca (aRem i c t T al) u) := by
  unfold f_X1_removeVersionOf
  rw [c_la al u i c T hc h17, sb]
  unfold aRem
  have hl := la_le (al 17 i) T c
  by_cases e0 : la (al 17 i) T c = 0
  · have hn : ¬ (1 ≤ 0 ∧ al 20 i (0 - 1) = t) := by omega
    simp (disch := omega) only [e0, ixN_0, li0, li1, li2, li3, li4, li5, li6, li7, li8, li9, li10, li16, li17, li20, li30, li32, li48, li49, li50, li57, li60, li126, li147, nI_add, nI_sb, pk_mul, nI_m1, inrT, leT, leF, ltT, ltF, eqT, eqF, n1lt, m1lt, m1neg, m1nle, m1le, m1a1, m1a2, m1s, m1s', nI_cl, ↓tl, ↓sb, sb, sel, ser, ↓reduceIte, if_true, if_false, true_or, or_true, false_or, or_false, umS, umK, umJ, uaS, uaK, uaI, uaJ, cg1, cg2, cg3, cg4, cg5, cg6, cg7, cg8, cg9, cg10, cg11, cg12, cg13, cg14, cg15, cg16, cg17, cg18, cg19, cg20, cs1, cs2, cs3, cs4, cs5, cs6, cs7, cs8, cs9, cs10, cs11, cs12, cs13, cs14, cs15, cs16, cs17, cs18, cs19, cs20, cc17, cc18, cc19, cc20, if_neg hn]
  · have k1 : la (al 17 i) T c - 1 + 1 = la (al 17 i) T c := by omega
    by_cases e1 : al 20 i (la (al 17 i) T c - 1) = t
    · have hn : 1 ≤ la (al 17 i) T c ∧ al 20 i (la (al 17 i) T c - 1) = t := ⟨by omega, e1⟩
      have hs := c_shift al u i c (la (al 17 i) T c) (la (al 17 i) T c - 1) hc (by omega) h17 (by omega)
      simp (disch := omega) only [ixN_p, li0, li1, li2, li3, li4, li5, li6, li7, li8, li9, li10, li16, li17, li20, li30, li32, li48, li49, li50, li57, li60, li126, li147, nI_add, nI_sb, pk_mul, nI_m1, inrT, leT, leF, ltT, ltF, eqT, eqF, n1lt, m1lt, m1neg, m1nle, m1le, m1a1, m1a2, m1s, m1s', nI_cl, ↓tl, ↓sb, sb, sel, ser, ↓reduceIte, if_true, if_false, true_or, or_true, false_or, or_false, umS, umK, umJ, uaS, uaK, uaI, uaJ, cg1, cg2, cg3, cg4, cg5, cg6, cg7, cg8, cg9, cg10, cg11, cg12, cg13, cg14, cg15, cg16, cg17, cg18, cg19, cg20, cs1, cs2, cs3, cs4, cs5, cs6, cs7, cs8, cs9, cs10, cs11, cs12, cs13, cs14, cs15, cs16, cs17, cs18, cs19, cs20, cc17, cc18, cc19, cc20, if_pos hn, if_pos e1, k1, hs]
    · have hn : ¬ (1 ≤ la (al 17 i) T c ∧ al 20 i (la (al 17 i) T c - 1) = t) := fun q => e1 q.2
      simp (disch := omega) only [ixN_p, li0, li1, li2, li3, li4, li5, li6, li7, li8, li9, li10, li16, li17, li20, li30, li32, li48, li49, li50, li57, li60, li126, li147, nI_add, nI_sb, pk_mul, nI_m1, inrT, leT, leF, ltT, ltF, eqT, eqF, n1lt, m1lt, m1neg, m1nle, m1le, m1a1, m1a2, m1s, m1s', nI_cl, ↓tl, ↓sb, sb, sel, ser, ↓reduceIte, if_true, if_false, true_or, or_true, false_or, or_false, umS, umK, umJ, uaS, uaK, uaI, uaJ, cg1, cg2, cg3, cg4, cg5, cg6, cg7, cg8, cg9, cg10, cg11, cg12, cg13, cg14, cg15, cg16, cg17, cg18, cg19, cg20, cs1, cs2, cs3, cs4, cs5, cs6, cs7, cs8, cs9, cs10, cs11, cs12, cs13, cs14, cs15, cs16, cs17, cs18, cs19, cs20, cc17, cc18, cc19, cc20, if_neg hn, if_neg e1]
theorem c_raise (al : pu_A) (u : ts_Mem) (i k : Nat) (T : Int32) (hk : k < 17) : f_X1_raiseReadTime 0 i (nI k) T (ca al u) = some (ca (if T ≤ al 18 i k then al else ua al 18 i k T) u) := by
  unfold f_X1_raiseReadTime
  by_cases e : T ≤ al 18 i k
  · simp (disch := omega) only [li0, li1, li2, li3, li4, li5, li6, li7, li8, li9, li10, li16, li17, li20, li30, li32, li48, li49, li50, li57, li60, li126, li147, nI_add, nI_sb, pk_mul, nI_m1, inrT, leT, leF, ltT, ltF, eqT, eqF, n1lt, m1lt, m1neg, m1nle, m1le, m1a1, m1a2, m1s, m1s', nI_cl, ↓tl, ↓sb, sb, sel, ser, ↓reduceIte, if_true, if_false, true_or, or_true, false_or, or_false, umS, umK, umJ, uaS, uaK, uaI, uaJ, cg1, cg2, cg3, cg4, cg5, cg6, cg7, cg8, cg9, cg10, cg11, cg12, cg13, cg14, cg15, cg16, cg17, cg18, cg19, cg20, cs1, cs2, cs3, cs4, cs5, cs6, cs7, cs8, cs9, cs10, cs11, cs12, cs13, cs14, cs15, cs16, cs17, cs18, cs19, cs20, cc17, cc18, cc19, cc20, if_pos e]
  · simp (disch := omega) only [li0, li1, li2, li3, li4, li5, li6, li7, li8, li9, li10, li16, li17, li20, li30, li32, li48, li49, li50, li57, li60, li126, li147, nI_add, nI_sb, pk_mul, nI_m1, inrT, leT, leF, ltT, ltF, eqT, eqF, n1lt, m1lt, m1neg, m1nle, m1le, m1a1, m1a2, m1s, m1s', nI_cl, ↓tl, ↓sb, sb, sel, ser, ↓reduceIte, if_true, if_false, true_or, or_true, false_or, or_false, umS, umK, umJ, uaS, uaK, uaI, uaJ, cg1, cg2, cg3, cg4, cg5, cg6, cg7, cg8, cg9, cg10, cg11, cg12, cg13, cg14, cg15, cg16, cg17, cg18, cg19, cg20, cs1, cs2, cs3, cs4, cs5, cs6, cs7, cs8, cs9, cs10, cs11, cs12, cs13, cs14, cs15, cs16, cs17, cs18, cs19, cs20, cc17, cc18, cc19, cc20, if_neg e]
theorem c_any_loop (al : pu_A) (u : ts_Mem) (i c : Nat) (T : Int32) (hc : al 16 i 0 = nI c) (h17 : c ≤ 17) : ∀ d j N, j + d = c → d < N → (lp_X1_isAnyReadAfter_2 0 i T (ca al u) N (nI j) = some (.inl (nI c)) ∧ ∀ k, j ≤ k → k < c → al 18 i k ≤ T) ∨ (lp_X1_isAnyReadAfter_2 0 i T (ca al u) N (nI j) = some (.inr 1) ∧ ∃ k, k < c ∧ ¬ al 18 i k ≤ T) := by
  intro d
  induction d with
  | zero =>
    intro j N hj hN
    obtain ⟨N, rfl⟩ : ∃ b, N = b + 1 := ⟨N - 1, by omega⟩
    rw [lp_X1_isAnyReadAfter_2]
    obtain rfl : j = c := by omega
    simp (disch := omega) only [li0, li1, li2, li3, li4, li5, li6, li7, li8, li9, li10, li16, li17, li20, li30, li32, li48, li49, li50, li57, li60, li126, li147, nI_add, nI_sb, pk_mul, nI_m1, inrT, leT, leF, ltT, ltF, eqT, eqF, n1lt, m1lt, m1neg, m1nle, m1le, m1a1, m1a2, m1s, m1s', nI_cl, ↓tl, ↓sb, sb, sel, ser, ↓reduceIte, if_true, if_false, true_or, or_true, false_or, or_false, umS, umK, umJ, uaS, uaK, uaI, uaJ, cg1, cg2, cg3, cg4, cg5, cg6, cg7, cg8, cg9, cg10, cg11, cg12, cg13, cg14, cg15, cg16, cg17, cg18, cg19, cg20, cs1, cs2, cs3, cs4, cs5, cs6, cs7, cs8, cs9, cs10, cs11, cs12, cs13, cs14, cs15, cs16, cs17, cs18, cs19, cs20, cc17, cc18, cc19, cc20, hc]
    exact Or.inl ⟨trivial, fun k h1 h2 => absurd h1 (by omega)⟩
  | succ d ih =>
    intro j N hj hN
    obtain ⟨N, rfl⟩ : ∃ b, N = b + 1 := ⟨N - 1, by omega⟩
    rw [lp_X1_isAnyReadAfter_2]
    by_cases e : al 18 i j ≤ T
    · simp (disch := omega) only [li0, li1, li2, li3, li4, li5, li6, li7, li8, li9, li10, li16, li17, li20, li30, li32, li48, li49, li50, li57, li60, li126, li147, nI_add, nI_sb, pk_mul, nI_m1, inrT, leT, leF, ltT, ltF, eqT, eqF, n1lt, m1lt, m1neg, m1nle, m1le, m1a1, m1a2, m1s, m1s', nI_cl, ↓tl, ↓sb, sb, sel, ser, ↓reduceIte, if_true, if_false, true_or, or_true, false_or, or_false, umS, umK, umJ, uaS, uaK, uaI, uaJ, cg1, cg2, cg3, cg4, cg5, cg6, cg7, cg8, cg9, cg10, cg11, cg12, cg13, cg14, cg15, cg16, cg17, cg18, cg19, cg20, cs1, cs2, cs3, cs4, cs5, cs6, cs7, cs8, cs9, cs10, cs11, cs12, cs13, cs14, cs15, cs16, cs17, cs18, cs19, cs20, cc17, cc18, cc19, cc20, hc, if_pos e]
      rcases ih (j + 1) N (by omega) (by omega) with ⟨a, b⟩ | ⟨a, b⟩
      · refine Or.inl ⟨a, fun k h1 h2 => ?_⟩
        by_cases ek : k = j
        · subst ek; exact e
        · exact b k (by omega) h2
      · exact Or.inr ⟨a, b⟩
    · simp (disch := omega) only [li0, li1, li2, li3, li4, li5, li6, li7, li8, li9, li10, li16, li17, li20, li30, li32, li48, li49, li50, li57, li60, li126, li147, nI_add, nI_sb, pk_mul, nI_m1, inrT, leT, leF, ltT, ltF, eqT, eqF, n1lt, m1lt, m1neg, m1nle, m1le, m1a1, m1a2, m1s, m1s', nI_cl, ↓tl, ↓sb, sb, sel, ser, ↓reduceIte, if_true, if_false, true_or, or_true, false_or, or_false, umS, umK, umJ, uaS, uaK, uaI, uaJ, cg1, cg2, cg3, cg4, cg5, cg6, cg7, cg8, cg9, cg10, cg11, cg12, cg13, cg14, cg15, cg16, cg17, cg18, cg19, cg20, cs1, cs2, cs3, cs4, cs5, cs6, cs7, cs8, cs9, cs10, cs11, cs12, cs13, cs14, cs15, cs16, cs17, cs18, cs19, cs20, cc17, cc18, cc19, cc20, hc, if_neg e]
      exact Or.inr ⟨trivial, j, by omega, e⟩
theorem c_any (al : pu_A) (u : ts_Mem) (i c : Nat) (T : Int32) (hc : al 16 i 0 = nI c) (h17 : c ≤ 17) : (f_X1_isAnyReadAfter 0 i T (ca al u) = some 0 ∧ ∀ k, k < c → al 18 i k ≤ T) ∨ (f_X1_isAnyReadAfter 0 i T (ca al u) = some 1 ∧ ∃ k, k < c ∧ ¬ al 18 i k ≤ T) := by
  unfold f_X1_isAnyReadAfter
  rcases c_any_loop al u i c T hc h17 c 0 ts_fu (by omega) (by unfold ts_fu; omega) with ⟨a, b⟩ | ⟨a, b⟩
  · exact Or.inl ⟨by rw [show (0 : Int32) = nI 0 from rfl, a]; rfl, fun k hk => b k (by omega) hk⟩
  · exact Or.inr ⟨by rw [show (0 : Int32) = nI 0 from rfl, a]; rfl, b⟩
