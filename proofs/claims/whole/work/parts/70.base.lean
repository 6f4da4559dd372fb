/-! PURE LAYER: memory with the bench's rows named al (kind, index, place), the reference's rows named mu (kind, place) -/
abbrev pu_A : Type := Nat → Nat → Nat → Int32
abbrev pu_M : Type := Nat → Nat → Int32
def ca (al : pu_A) (u : ts_Mem) : ts_Mem := (fun id j => if (1 ≤ id.1 ∧ id.1 ≤ 20) ∧ id.2.1 = 0 then al id.1 id.2.2 j else u.1 id j, u.2)
def ma (mu : pu_M) (u : ts_Mem) : ts_Mem := (fun id j => if (30 ≤ id.1 ∧ id.1 < 50) ∧ id.2 = (0, 0) then mu id.1 j else u.1 id j, u.2)
def ua (al : pu_A) (k i j : Nat) (x : Int32) : pu_A := fun a b c => if a = k ∧ b = i ∧ c = j then x else al a b c
def um (mu : pu_M) (k j : Nat) (x : Int32) : pu_M := fun a c => if a = k ∧ c = j then x else mu a c
def pa (al : pu_A) (k1 i1 k2 i2 sp dp n : Nat) : pu_A := fun a b c => if a = k2 ∧ b = i2 then va_cpy (al k1 i1) (al k2 i2) sp dp n c else al a b c
theorem ca_g (al : pu_A) (u : ts_Mem) (k i j : Nat) (h1 : 1 ≤ k) (h2 : k ≤ 20) : ts_gI (ca al u) (k, 0, i) j = al k i j := by
  simp [ts_gI, ca, h1, h2]
theorem ca_go (al : pu_A) (u : ts_Mem) (k i j : Nat) (h : 20 < k) (b : Nat) : ts_gI (ca al u) (k, b, i) j = ts_gI u (k, b, i) j := by
  have : ¬ k ≤ 20 := by omega
  simp [ts_gI, ca, this]
theorem ca_g1 (al : pu_A) (u : ts_Mem) (k i j : Nat) : ts_gI (ca al u) (k, 1, i) j = ts_gI u (k, 1, i) j := by
  simp [ts_gI, ca]
theorem ca_g0 (al : pu_A) (u : ts_Mem) (b i j : Nat) : ts_gI (ca al u) (0, b, i) j = ts_gI u (0, b, i) j := by
  simp [ts_gI, ca]
theorem ca_s (al : pu_A) (u : ts_Mem) (k i j : Nat) (x : Int32) (h1 : 1 ≤ k) (h2 : k ≤ 20) : ts_sI (ca al u) (k, 0, i) j x = ca (ua al k i j x) u := by
  unfold ts_sI ca ua
  refine Prod.ext ?_ rfl
  funext id n
  obtain ⟨a, b, c⟩ := id
  simp only [Prod.mk.injEq]
  by_cases e : (a = k ∧ b = 0 ∧ c = i) ∧ n = j
  · obtain ⟨⟨rfl, rfl, rfl⟩, rfl⟩ := e
    simp [h1, h2]
  · rw [if_neg e]
    by_cases e2 : (1 ≤ a ∧ a ≤ 20) ∧ b = 0
    · rw [if_pos e2, if_pos e2, if_neg]
      rintro ⟨rfl, rfl, rfl⟩
      exact e ⟨⟨rfl, e2.2, rfl⟩, rfl⟩
    · rw [if_neg e2, if_neg e2]
theorem ca_c (al : pu_A) (u : ts_Mem) (k1 i1 k2 i2 sp dp n : Nat) (h1 : 1 ≤ k1) (h2 : k1 ≤ 20) (h3 : 1 ≤ k2) (h4 : k2 ≤ 20) : ts_cI (ca al u) (k1, 0, i1) (k2, 0, i2) sp dp n = ca (pa al k1 i1 k2 i2 sp dp n) u := by
  unfold ts_cI ca pa
  refine Prod.ext ?_ rfl
  funext id m
  obtain ⟨a, b, c⟩ := id
  simp only [Prod.mk.injEq]
  by_cases e : a = k2 ∧ b = 0 ∧ c = i2
  · obtain ⟨rfl, rfl, rfl⟩ := e
    simp [h1, h2, h3, h4]
  · rw [if_neg e]
    by_cases e2 : (1 ≤ a ∧ a ≤ 20) ∧ b = 0
    · rw [if_pos e2, if_pos e2, if_neg]
      rintro ⟨rfl, rfl⟩
      exact e ⟨rfl, e2.2, rfl⟩
    · rw [if_neg e2, if_neg e2]
theorem ma_g (mu : pu_M) (u : ts_Mem) (k j : Nat) (h1 : 30 ≤ k) (h2 : k < 50) : ts_gI (ma mu u) (k, 0, 0) j = mu k j := by
  simp [ts_gI, ma, h1, h2]
theorem ma_go (mu : pu_M) (u : ts_Mem) (k b i j : Nat) (h : k < 30) : ts_gI (ma mu u) (k, b, i) j = ts_gI u (k, b, i) j := by
  have : ¬ 30 ≤ k := by omega
  simp [ts_gI, ma, this]
theorem ma_s (mu : pu_M) (u : ts_Mem) (k j : Nat) (x : Int32) (h1 : 30 ≤ k) (h2 : k < 50) : ts_sI (ma mu u) (k, 0, 0) j x = ma (um mu k j x) u := by
  unfold ts_sI ma um
  refine Prod.ext ?_ rfl
  funext id n
  obtain ⟨a, b, c⟩ := id
  simp only [Prod.mk.injEq]
  by_cases e : (a = k ∧ b = 0 ∧ c = 0) ∧ n = j
  · obtain ⟨⟨rfl, rfl, rfl⟩, rfl⟩ := e
    simp [h1, h2]
  · rw [if_neg e]
    by_cases e2 : (30 ≤ a ∧ a < 50) ∧ b = 0 ∧ c = 0
    · rw [if_pos e2, if_pos e2, if_neg]
      rintro ⟨rfl, rfl⟩
      exact e ⟨⟨rfl, e2.2⟩, rfl⟩
    · rw [if_neg e2, if_neg e2]
theorem ca_self (u : ts_Mem) : ca (fun k i j => ts_gI u (k, 0, i) j) u = u := by
  unfold ca
  refine Prod.ext ?_ rfl
  funext id n
  obtain ⟨a, b, c⟩ := id
  by_cases e2 : (1 ≤ a ∧ a ≤ 20) ∧ b = 0
  · simp only [e2, and_self, if_true]
    obtain ⟨-, rfl⟩ := e2
    rfl
  · simp only [if_neg e2]
theorem ma_self (u : ts_Mem) : ma (fun k j => ts_gI u (k, 0, 0) j) u = u := by
  unfold ma
  refine Prod.ext ?_ rfl
  funext id n
  obtain ⟨a, b, c⟩ := id
  by_cases e2 : (30 ≤ a ∧ a < 50) ∧ (b, c) = (0, 0)
  · have e3 := e2.2
    simp only [Prod.mk.injEq] at e3
    obtain ⟨rfl, rfl⟩ := e3
    simp only [e2, and_self, if_true]
    rfl
  · simp only [if_neg e2]
theorem ca_ma (al : pu_A) (mu : pu_M) (u : ts_Mem) : ca al (ma mu u) = ma mu (ca al u) := by
  unfold ca ma
  refine Prod.ext ?_ rfl
  funext id n
  obtain ⟨a, b, c⟩ := id
  dsimp only
  by_cases e1 : (1 ≤ a ∧ a ≤ 20) ∧ b = 0
  · have e2 : ¬ ((30 ≤ a ∧ a < 50) ∧ (b, c) = (0, 0)) := by omega
    rw [if_pos e1, if_neg e2]
    rw [if_pos e1]
  · rw [if_neg e1]
    by_cases e2 : (30 ≤ a ∧ a < 50) ∧ (b, c) = (0, 0)
    · rw [if_pos e2, if_pos e2]
    · rw [if_neg e2, if_neg e2, if_neg e1]
-- numbers
theorem nI_addL (a c : Nat) : nI a + (OfNat.ofNat c : Int32) = nI (a + c) := nI_add a c
theorem nI_lit (c : Nat) : (OfNat.ofNat c : Int32) = nI c := rfl
theorem inr_nI {a N : Nat} (h : a < N) (hN : N < 2 ^ 31) : ts_inr (nI a) N := by
  intro q
  rcases q with q | q
  · exact nI_pos (by omega) q
  · rw [nI_clamp (by omega)] at q
    omega
theorem nI_cl {a : Nat} (h : a < 2 ^ 31) : (nI a).toNatClampNeg = a := nI_clamp h
theorem nI_rem {a d : Nat} (ha : a < 2 ^ 31) (h0 : 0 < d) (hd : d < 2 ^ 31) : nI a - nI a / nI d * nI d = nI (a % d) := pk_rem ha h0 hd
