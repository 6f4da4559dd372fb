/-! numbers: literals as nI, comparisons and places decided by the discharger -/
theorem li0 : (0 : Int32) = nI 0 := rfl
theorem li1 : (1 : Int32) = nI 1 := rfl
theorem li2 : (2 : Int32) = nI 2 := rfl
theorem li3 : (3 : Int32) = nI 3 := rfl
theorem li4 : (4 : Int32) = nI 4 := rfl
theorem li5 : (5 : Int32) = nI 5 := rfl
theorem li6 : (6 : Int32) = nI 6 := rfl
theorem li7 : (7 : Int32) = nI 7 := rfl
theorem li8 : (8 : Int32) = nI 8 := rfl
theorem li9 : (9 : Int32) = nI 9 := rfl
theorem li10 : (10 : Int32) = nI 10 := rfl
theorem li16 : (16 : Int32) = nI 16 := rfl
theorem li17 : (17 : Int32) = nI 17 := rfl
theorem li20 : (20 : Int32) = nI 20 := rfl
theorem li30 : (30 : Int32) = nI 30 := rfl
theorem li32 : (32 : Int32) = nI 32 := rfl
theorem li48 : (48 : Int32) = nI 48 := rfl
theorem li49 : (49 : Int32) = nI 49 := rfl
theorem li50 : (50 : Int32) = nI 50 := rfl
theorem li57 : (57 : Int32) = nI 57 := rfl
theorem li60 : (60 : Int32) = nI 60 := rfl
theorem li126 : (126 : Int32) = nI 126 := rfl
theorem li147 : (147 : Int32) = nI 147 := rfl
theorem ifr {α : Type} {a N : Nat} {x y : α} (h : a < N) (hN : N < 2 ^ 31) : (if ts_inr (nI a) N then x else y) = x := if_pos (inr_nI h hN)
theorem inrT {a N : Nat} (h : a < N) (hN : N < 2 ^ 31) : ts_inr (nI a) N = True := eq_true (inr_nI h hN)
theorem leT {a b : Nat} (h : a ≤ b) (hb : b < 2 ^ 31) : (nI a ≤ nI b) = True := eq_true (nI_le h hb)
theorem leF {a b : Nat} (h : b < a) (hb : a < 2 ^ 31) : (nI a ≤ nI b) = False := eq_false (nI_ge h hb)
theorem ltT {a b : Nat} (h : a < b) (hb : b < 2 ^ 31) : (nI a < nI b) = True := eq_true (nI_lt h hb)
theorem ltF {a b : Nat} (h : b ≤ a) (hb : a < 2 ^ 31) : (nI a < nI b) = False := eq_false (nI_nlt h hb)
theorem eqT {a b : Nat} (h : a = b) : (nI a = nI b) = True := eq_true (congrArg nI h)
theorem eqF {a b : Nat} (h : ¬ a = b) (ha : a < 2 ^ 31) (hb : b < 2 ^ 31) : (nI a = nI b) = False := eq_false (fun e => h ((nI_eq ha hb).mp e))
theorem nI_m1 {a : Nat} (h : 1 ≤ a) : nI a + (-nI 1) = nI (a - 1) := by
  obtain ⟨b, rfl⟩ : ∃ b, a = b + 1 := ⟨a - 1, by omega⟩
  exact pk_m1 b
theorem nI_sb {a b : Nat} (h : b ≤ a) : nI a - nI b = nI (a - b) := pk_sub h
theorem n1lt {a : Nat} (h : a < 2 ^ 31) : (nI a = -nI 1) = False := eq_false (fun e => by
  have h1 : (nI a).toInt = (-1 : Int32).toInt := congrArg Int32.toInt e
  rw [nI_toInt h] at h1
  have h2 : (-1 : Int32).toInt = -1 := by decide
  omega)
theorem m1lt {a : Nat} (h : a < 2 ^ 31) : (-nI 1 = nI a) = False := eq_false (fun e => by
  have h1 : (-1 : Int32).toInt = (nI a).toInt := congrArg Int32.toInt e
  rw [nI_toInt h] at h1
  have h2 : (-1 : Int32).toInt = -1 := by decide
  omega)
theorem m1neg : (-nI 1 < nI 0) = True := eq_true (by decide)
theorem m1nle : (nI 0 ≤ -nI 1) = False := eq_false (by decide)
theorem m1le : (-nI 1 ≤ nI 0) = True := eq_true (by decide)
theorem m1a1 : -nI 1 + nI 1 = nI 0 := by decide
theorem m1a2 : -nI 1 + nI 2 = nI 1 := by decide
theorem m1s : nI 0 - nI 1 = -nI 1 := by decide
theorem m1s' : nI 0 + (-nI 1) = -nI 1 := by decide
theorem tl {α β : Type} (a : α) (B : α → β) : ts_let a B = B a := rfl
theorem sb {α β : Type} (a : α) (B : α → Option β) : (some a).bind B = B a := rfl
theorem sel {α β γ : Type} (f : α → γ) (g : β → γ) (a : α) : Sum.elim f g (Sum.inl a) = f a := rfl
theorem ser {α β γ : Type} (f : α → γ) (g : β → γ) (b : β) : Sum.elim f g (Sum.inr b) = g b := rfl
theorem umS (mu : pu_M) (k j : Nat) (x : Int32) : um mu k j x k j = x := if_pos ⟨rfl, rfl⟩
theorem umK (mu : pu_M) {k a : Nat} (j c : Nat) (x : Int32) (h : ¬ a = k) : um mu k j x a c = mu a c := if_neg (fun q => h q.1)
theorem umJ (mu : pu_M) {j c : Nat} (k : Nat) (x : Int32) (h : ¬ c = j) : um mu k j x k c = mu k c := if_neg (fun q => h q.2)
theorem uaS (al : pu_A) (k i j : Nat) (x : Int32) : ua al k i j x k i j = x := if_pos ⟨rfl, rfl, rfl⟩
theorem uaK (al : pu_A) {k a : Nat} (i j b c : Nat) (x : Int32) (h : ¬ a = k) : ua al k i j x a b c = al a b c := if_neg (fun q => h q.1)
theorem uaI (al : pu_A) {i b : Nat} (k j c : Nat) (x : Int32) (h : ¬ b = i) : ua al k i j x k b c = al k b c := if_neg (fun q => h q.2.1)
theorem uaJ (al : pu_A) {j c : Nat} (k i b : Nat) (x : Int32) (h : ¬ c = j) : ua al k i j x k b c = al k b c := if_neg (fun q => h q.2.2)
