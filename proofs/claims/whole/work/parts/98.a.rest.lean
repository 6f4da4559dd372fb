/-! the rest of the class's rows (kinds 0 and 21 to 29), named be -/
def cb (be : pu_A) (u : ts_Mem) : ts_Mem := (fun id j => if (id.1 = 0 ∨ 21 ≤ id.1 ∧ id.1 ≤ 29) ∧ id.2.1 = 0 then be id.1 id.2.2 j else u.1 id j, u.2)
theorem cb_g (be : pu_A) (u : ts_Mem) (k i j : Nat) (h : k = 0 ∨ 21 ≤ k ∧ k ≤ 29) : ts_gI (cb be u) (k, 0, i) j = be k i j := by
  simp only [ts_gI, cb]
  rw [if_pos ⟨h, trivial⟩]
theorem cb_s (be : pu_A) (u : ts_Mem) (k i j : Nat) (x : Int32) (h : k = 0 ∨ 21 ≤ k ∧ k ≤ 29) : ts_sI (cb be u) (k, 0, i) j x = cb (ua be k i j x) u := by
  unfold ts_sI cb ua
  refine Prod.ext ?_ rfl
  funext id n
  obtain ⟨a, b, c⟩ := id
  simp only [Prod.mk.injEq]
  by_cases e : (a = k ∧ b = 0 ∧ c = i) ∧ n = j
  · obtain ⟨⟨rfl, rfl, rfl⟩, rfl⟩ := e
    rw [if_pos ⟨⟨rfl, rfl, rfl⟩, rfl⟩, if_pos ⟨h, rfl⟩, if_pos ⟨rfl, rfl, rfl⟩]
  · rw [if_neg e]
    by_cases e2 : (a = 0 ∨ 21 ≤ a ∧ a ≤ 29) ∧ b = 0
    · rw [if_pos e2, if_pos e2, if_neg]
      rintro ⟨rfl, rfl, rfl⟩
      exact e ⟨⟨rfl, e2.2, rfl⟩, rfl⟩
    · rw [if_neg e2, if_neg e2]
theorem cb_self (u : ts_Mem) : cb (fun k i j => ts_gI u (k, 0, i) j) u = u := by
  unfold cb
  refine Prod.ext ?_ rfl
  funext id n
  obtain ⟨a, b, c⟩ := id
  by_cases e2 : (a = 0 ∨ 21 ≤ a ∧ a ≤ 29) ∧ b = 0
  · simp only [if_pos e2]
    obtain ⟨-, rfl⟩ := e2
    rfl
  · simp only [if_neg e2]
theorem ca_cb (al be : pu_A) (u : ts_Mem) : ca al (cb be u) = cb be (ca al u) := by
  unfold ca cb
  refine Prod.ext ?_ rfl
  funext id n
  obtain ⟨a, b, c⟩ := id
  dsimp only
  by_cases e1 : (1 ≤ a ∧ a ≤ 20) ∧ b = 0
  · have e2 : ¬ ((a = 0 ∨ 21 ≤ a ∧ a ≤ 29) ∧ b = 0) := by omega
    rw [if_pos e1, if_neg e2, if_pos e1]
  · rw [if_neg e1]
    by_cases e2 : (a = 0 ∨ 21 ≤ a ∧ a ≤ 29) ∧ b = 0
    · rw [if_pos e2, if_pos e2]
    · rw [if_neg e2, if_neg e2, if_neg e1]
theorem cb_ma (be : pu_A) (mu : pu_M) (u : ts_Mem) : cb be (ma mu u) = ma mu (cb be u) := by
  unfold cb ma
  refine Prod.ext ?_ rfl
  funext id n
  obtain ⟨a, b, c⟩ := id
  dsimp only
  by_cases e1 : (a = 0 ∨ 21 ≤ a ∧ a ≤ 29) ∧ b = 0
  · have e2 : ¬ ((30 ≤ a ∧ a < 50) ∧ (b, c) = (0, 0)) := by omega
    rw [if_pos e1, if_neg e2, if_pos e1]
  · rw [if_neg e1]
    by_cases e2 : (30 ≤ a ∧ a < 50) ∧ (b, c) = (0, 0)
    · rw [if_pos e2, if_pos e2]
    · rw [if_neg e2, if_neg e2, if_neg e1]
theorem ca_sx (al : pu_A) (u : ts_Mem) (k i j : Nat) (x : Int32) (h : k = 0 ∨ 20 < k) : ts_sI (ca al u) (k, 0, i) j x = ca al (ts_sI u (k, 0, i) j x) := by
  unfold ts_sI ca
  refine Prod.ext ?_ rfl
  funext id n
  obtain ⟨a, b, c⟩ := id
  dsimp only
  by_cases e : (a, b, c) = (k, 0, i) ∧ n = j
  · have e3 := e.1
    simp only [Prod.mk.injEq] at e3
    obtain ⟨rfl, rfl, rfl⟩ := e3
    rw [if_pos e, if_neg (by omega), if_pos e]
  · rw [if_neg e]
    split
    · rfl
    · rfl
theorem um_self {mu : pu_M} {k j : Nat} {x : Int32} (h : mu k j = x) : um mu k j x = mu := by
  funext a c
  unfold um
  split
  · rename_i q; obtain ⟨rfl, rfl⟩ := q; exact h.symm
  · rfl
theorem ua_self {al : pu_A} {k i j : Nat} {x : Int32} (h : al k i j = x) : ua al k i j x = al := by
  funext a b c
  unfold ua
  split
  · rename_i q; obtain ⟨rfl, rfl, rfl⟩ := q; exact h.symm
  · rfl
theorem bg0 (be : pu_A) (u : ts_Mem) (i j : Nat) : ts_gI (cb be u) (0, 0, i) j = be 0 i j := cb_g be u 0 i j (by decide)
theorem bs0 (be : pu_A) (u : ts_Mem) (i j : Nat) (x : Int32) : ts_sI (cb be u) (0, 0, i) j x = cb (ua be 0 i j x) u := cb_s be u 0 i j x (by decide)
theorem xg0 (al : pu_A) (u : ts_Mem) (i j : Nat) : ts_gI (ca al u) (0, 0, i) j = ts_gI u (0, 0, i) j := ca_g0 al u 0 i j
theorem xs0 (al : pu_A) (u : ts_Mem) (i j : Nat) (x : Int32) : ts_sI (ca al u) (0, 0, i) j x = ca al (ts_sI u (0, 0, i) j x) := ca_sx al u 0 i j x (by decide)
theorem bg21 (be : pu_A) (u : ts_Mem) (i j : Nat) : ts_gI (cb be u) (21, 0, i) j = be 21 i j := cb_g be u 21 i j (by decide)
theorem bs21 (be : pu_A) (u : ts_Mem) (i j : Nat) (x : Int32) : ts_sI (cb be u) (21, 0, i) j x = cb (ua be 21 i j x) u := cb_s be u 21 i j x (by decide)
theorem xg21 (al : pu_A) (u : ts_Mem) (i j : Nat) : ts_gI (ca al u) (21, 0, i) j = ts_gI u (21, 0, i) j := ca_go al u 21 i j (by decide) 0
theorem xs21 (al : pu_A) (u : ts_Mem) (i j : Nat) (x : Int32) : ts_sI (ca al u) (21, 0, i) j x = ca al (ts_sI u (21, 0, i) j x) := ca_sx al u 21 i j x (by decide)
theorem bg22 (be : pu_A) (u : ts_Mem) (i j : Nat) : ts_gI (cb be u) (22, 0, i) j = be 22 i j := cb_g be u 22 i j (by decide)
theorem bs22 (be : pu_A) (u : ts_Mem) (i j : Nat) (x : Int32) : ts_sI (cb be u) (22, 0, i) j x = cb (ua be 22 i j x) u := cb_s be u 22 i j x (by decide)
theorem xg22 (al : pu_A) (u : ts_Mem) (i j : Nat) : ts_gI (ca al u) (22, 0, i) j = ts_gI u (22, 0, i) j := ca_go al u 22 i j (by decide) 0
theorem xs22 (al : pu_A) (u : ts_Mem) (i j : Nat) (x : Int32) : ts_sI (ca al u) (22, 0, i) j x = ca al (ts_sI u (22, 0, i) j x) := ca_sx al u 22 i j x (by decide)
theorem bg23 (be : pu_A) (u : ts_Mem) (i j : Nat) : ts_gI (cb be u) (23, 0, i) j = be 23 i j := cb_g be u 23 i j (by decide)
theorem bs23 (be : pu_A) (u : ts_Mem) (i j : Nat) (x : Int32) : ts_sI (cb be u) (23, 0, i) j x = cb (ua be 23 i j x) u := cb_s be u 23 i j x (by decide)
theorem xg23 (al : pu_A) (u : ts_Mem) (i j : Nat) : ts_gI (ca al u) (23, 0, i) j = ts_gI u (23, 0, i) j := ca_go al u 23 i j (by decide) 0
theorem xs23 (al : pu_A) (u : ts_Mem) (i j : Nat) (x : Int32) : ts_sI (ca al u) (23, 0, i) j x = ca al (ts_sI u (23, 0, i) j x) := ca_sx al u 23 i j x (by decide)
theorem bg24 (be : pu_A) (u : ts_Mem) (i j : Nat) : ts_gI (cb be u) (24, 0, i) j = be 24 i j := cb_g be u 24 i j (by decide)
theorem bs24 (be : pu_A) (u : ts_Mem) (i j : Nat) (x : Int32) : ts_sI (cb be u) (24, 0, i) j x = cb (ua be 24 i j x) u := cb_s be u 24 i j x (by decide)
theorem xg24 (al : pu_A) (u : ts_Mem) (i j : Nat) : ts_gI (ca al u) (24, 0, i) j = ts_gI u (24, 0, i) j := ca_go al u 24 i j (by decide) 0
theorem xs24 (al : pu_A) (u : ts_Mem) (i j : Nat) (x : Int32) : ts_sI (ca al u) (24, 0, i) j x = ca al (ts_sI u (24, 0, i) j x) := ca_sx al u 24 i j x (by decide)
theorem bg25 (be : pu_A) (u : ts_Mem) (i j : Nat) : ts_gI (cb be u) (25, 0, i) j = be 25 i j := cb_g be u 25 i j (by decide)
theorem bs25 (be : pu_A) (u : ts_Mem) (i j : Nat) (x : Int32) : ts_sI (cb be u) (25, 0, i) j x = cb (ua be 25 i j x) u := cb_s be u 25 i j x (by decide)
theorem xg25 (al : pu_A) (u : ts_Mem) (i j : Nat) : ts_gI (ca al u) (25, 0, i) j = ts_gI u (25, 0, i) j := ca_go al u 25 i j (by decide) 0
theorem xs25 (al : pu_A) (u : ts_Mem) (i j : Nat) (x : Int32) : ts_sI (ca al u) (25, 0, i) j x = ca al (ts_sI u (25, 0, i) j x) := ca_sx al u 25 i j x (by decide)
theorem bg26 (be : pu_A) (u : ts_Mem) (i j : Nat) : ts_gI (cb be u) (26, 0, i) j = be 26 i j := cb_g be u 26 i j (by decide)
theorem bs26 (be : pu_A) (u : ts_Mem) (i j : Nat) (x : Int32) : ts_sI (cb be u) (26, 0, i) j x = cb (ua be 26 i j x) u := cb_s be u 26 i j x (by decide)
theorem xg26 (al : pu_A) (u : ts_Mem) (i j : Nat) : ts_gI (ca al u) (26, 0, i) j = ts_gI u (26, 0, i) j := ca_go al u 26 i j (by decide) 0
theorem xs26 (al : pu_A) (u : ts_Mem) (i j : Nat) (x : Int32) : ts_sI (ca al u) (26, 0, i) j x = ca al (ts_sI u (26, 0, i) j x) := ca_sx al u 26 i j x (by decide)
theorem bg27 (be : pu_A) (u : ts_Mem) (i j : Nat) : ts_gI (cb be u) (27, 0, i) j = be 27 i j := cb_g be u 27 i j (by decide)
theorem bs27 (be : pu_A) (u : ts_Mem) (i j : Nat) (x : Int32) : ts_sI (cb be u) (27, 0, i) j x = cb (ua be 27 i j x) u := cb_s be u 27 i j x (by decide)
theorem xg27 (al : pu_A) (u : ts_Mem) (i j : Nat) : ts_gI (ca al u) (27, 0, i) j = ts_gI u (27, 0, i) j := ca_go al u 27 i j (by decide) 0
theorem xs27 (al : pu_A) (u : ts_Mem) (i j : Nat) (x : Int32) : ts_sI (ca al u) (27, 0, i) j x = ca al (ts_sI u (27, 0, i) j x) := ca_sx al u 27 i j x (by decide)
theorem bg28 (be : pu_A) (u : ts_Mem) (i j : Nat) : ts_gI (cb be u) (28, 0, i) j = be 28 i j := cb_g be u 28 i j (by decide)
theorem bs28 (be : pu_A) (u : ts_Mem) (i j : Nat) (x : Int32) : ts_sI (cb be u) (28, 0, i) j x = cb (ua be 28 i j x) u := cb_s be u 28 i j x (by decide)
theorem xg28 (al : pu_A) (u : ts_Mem) (i j : Nat) : ts_gI (ca al u) (28, 0, i) j = ts_gI u (28, 0, i) j := ca_go al u 28 i j (by decide) 0
theorem xs28 (al : pu_A) (u : ts_Mem) (i j : Nat) (x : Int32) : ts_sI (ca al u) (28, 0, i) j x = ca al (ts_sI u (28, 0, i) j x) := ca_sx al u 28 i j x (by decide)
theorem bg29 (be : pu_A) (u : ts_Mem) (i j : Nat) : ts_gI (cb be u) (29, 0, i) j = be 29 i j := cb_g be u 29 i j (by decide)
theorem bs29 (be : pu_A) (u : ts_Mem) (i j : Nat) (x : Int32) : ts_sI (cb be u) (29, 0, i) j x = cb (ua be 29 i j x) u := cb_s be u 29 i j x (by decide)
theorem xg29 (al : pu_A) (u : ts_Mem) (i j : Nat) : ts_gI (ca al u) (29, 0, i) j = ts_gI u (29, 0, i) j := ca_go al u 29 i j (by decide) 0
theorem xs29 (al : pu_A) (u : ts_Mem) (i j : Nat) (x : Int32) : ts_sI (ca al u) (29, 0, i) j x = ca al (ts_sI u (29, 0, i) j x) := ca_sx al u 29 i j x (by decide)
theorem cb_J (be : pu_A) (u : ts_Mem) (i : ts_I) (j : Nat) (x : Int64) : ts_sJ (cb be u) i j x = cb be (ts_sJ u i j x) := rfl
theorem ca_J (al : pu_A) (u : ts_Mem) (i : ts_I) (j : Nat) (x : Int64) : ts_sJ (ca al u) i j x = ca al (ts_sJ u i j x) := rfl
theorem ma_J (mu : pu_M) (u : ts_Mem) (i : ts_I) (j : Nat) (x : Int64) : ts_sJ (ma mu u) i j x = ma mu (ts_sJ u i j x) := rfl
theorem cb_D (be : pu_A) (u : ts_Mem) (i : ts_I) (j : Nat) (x : UInt64) : ts_sD (cb be u) i j x = cb be (ts_sD u i j x) := rfl
theorem ca_D (al : pu_A) (u : ts_Mem) (i : ts_I) (j : Nat) (x : UInt64) : ts_sD (ca al u) i j x = ca al (ts_sD u i j x) := rfl
theorem ma_D (mu : pu_M) (u : ts_Mem) (i : ts_I) (j : Nat) (x : UInt64) : ts_sD (ma mu u) i j x = ma mu (ts_sD u i j x) := rfl
theorem cb_F (be : pu_A) (u : ts_Mem) (i : ts_I) (j : Nat) (x : UInt32) : ts_sF (cb be u) i j x = cb be (ts_sF u i j x) := rfl
theorem ca_F (al : pu_A) (u : ts_Mem) (i : ts_I) (j : Nat) (x : UInt32) : ts_sF (ca al u) i j x = ca al (ts_sF u i j x) := rfl
theorem ma_F (mu : pu_M) (u : ts_Mem) (i : ts_I) (j : Nat) (x : UInt32) : ts_sF (ma mu u) i j x = ma mu (ts_sF u i j x) := rfl
theorem cb_gF (be : pu_A) (u : ts_Mem) (i : ts_I) (j : Nat) : ts_gF (cb be u) i j = ts_gF u i j := rfl
theorem ca_gF (al : pu_A) (u : ts_Mem) (i : ts_I) (j : Nat) : ts_gF (ca al u) i j = ts_gF u i j := rfl
theorem ma_gF (mu : pu_M) (u : ts_Mem) (i : ts_I) (j : Nat) : ts_gF (ma mu u) i j = ts_gF u i j := rfl
theorem cb_gJ (be : pu_A) (u : ts_Mem) (i : ts_I) (j : Nat) : ts_gJ (cb be u) i j = ts_gJ u i j := rfl
theorem ca_gJ (al : pu_A) (u : ts_Mem) (i : ts_I) (j : Nat) : ts_gJ (ca al u) i j = ts_gJ u i j := rfl
theorem ma_gJ (mu : pu_M) (u : ts_Mem) (i : ts_I) (j : Nat) : ts_gJ (ma mu u) i j = ts_gJ u i j := rfl
theorem cb_gD (be : pu_A) (u : ts_Mem) (i : ts_I) (j : Nat) : ts_gD (cb be u) i j = ts_gD u i j := rfl
theorem ca_gD (al : pu_A) (u : ts_Mem) (i : ts_I) (j : Nat) : ts_gD (ca al u) i j = ts_gD u i j := rfl
theorem ma_gD (mu : pu_M) (u : ts_Mem) (i : ts_I) (j : Nat) : ts_gD (ma mu u) i j = ts_gD u i j := rfl
-- signs of the programs
theorem li32' : (32 : Int32) = nI 32 := rfl
theorem li43 : (43 : Int32) = nI 43 := rfl
theorem li45 : (45 : Int32) = nI 45 := rfl
theorem li55 : (55 : Int32) = nI 55 := rfl
theorem li61 : (61 : Int32) = nI 61 := rfl
theorem li97 : (97 : Int32) = nI 97 := rfl
theorem li99 : (99 : Int32) = nI 99 := rfl
theorem li114 : (114 : Int32) = nI 114 := rfl
theorem li119 : (119 : Int32) = nI 119 := rfl
theorem li120 : (120 : Int32) = nI 120 := rfl
theorem pl0 (x : Int32) : x + nI 0 = x := by rw [show nI 0 = (0 : Int32) from rfl, Int32.add_zero]
theorem m1mul (x : Int32) : -nI 1 * x = -x := by
  show (-1 : Int32) * x = -x
  rw [Int32.neg_mul, Int32.one_mul]
theorem p1mul (x : Int32) : nI 1 * x = x := Int32.one_mul x
