/-! bits of dependencies -/
def bt (x : Int32) (j : Nat) : Bool := x.toBitVec.getLsbD j
theorem sh1 {w : Nat} (h : w < 16) : nI 1 <<< (nI w &&& 31) = nI (2 ^ w) := by
  have : ∀ w : Fin 16, nI 1 <<< (nI w.val &&& 31) = nI (2 ^ w.val) := by decide
  exact this ⟨w, h⟩
theorem bt_nI {n j : Nat} (h : n < 2 ^ 32) (hj : j < 32) : bt (nI n) j = n.testBit j := by
  unfold bt
  rw [BitVec.getLsbD, pk_tn h]
theorem bt_p {w j : Nat} (h : w < 16) (hj : j < 32) : bt (nI (2 ^ w)) j = decide (w = j) := by
  rw [bt_nI (Nat.pow_lt_pow_right (by decide) (by omega)) hj, Nat.testBit_two_pow]
theorem bt_or (x y : Int32) (j : Nat) : bt (x ||| y) j = (bt x j || bt y j) := by
  unfold bt
  rw [Int32.toBitVec_or, BitVec.getLsbD_or]
theorem bt_and (x y : Int32) (j : Nat) : bt (x &&& y) j = (bt x j && bt y j) := by
  unfold bt
  rw [Int32.toBitVec_and, BitVec.getLsbD_and]
theorem bt_xor (x y : Int32) (j : Nat) : bt (x ^^^ y) j = Bool.xor (bt x j) (bt y j) := by
  unfold bt
  rw [Int32.toBitVec_xor, BitVec.getLsbD_xor]
theorem bt_m1 {j : Nat} (h : j < 32) : bt (-nI 1) j = true := by
  have : ∀ j : Fin 32, bt (-nI 1) j.val = true := by decide
  exact this ⟨j, h⟩
theorem bt_0 (j : Nat) : bt (nI 0) j = false := by
  unfold bt
  exact BitVec.getLsbD_zero
theorem bt_ext {x y : Int32} (h : ∀ j, j < 32 → bt x j = bt y j) : x = y := by
  apply Int32.toBitVec_inj.mp
  apply BitVec.eq_of_getLsbD_eq
  intro i hi
  exact h i hi
theorem bt_z {x : Int32} : (x = nI 0) ↔ ∀ j, j < 32 → bt x j = false := by
  constructor
  · rintro rfl j _; exact bt_0 j
  · intro h; exact bt_ext (fun j hj => by rw [h j hj, bt_0])
theorem bt_set (x : Int32) {w j : Nat} (hw : w < 16) (hj : j < 32) : bt (x ||| (nI 1 <<< (nI w &&& 31))) j = (bt x j || decide (w = j)) := by
  rw [bt_or, sh1 hw, bt_p hw hj]
theorem bt_clr (x : Int32) {w j : Nat} (hw : w < 16) (hj : j < 32) : bt (x &&& ((nI 1 <<< (nI w &&& 31)) ^^^ (-nI 1))) j = (bt x j && !decide (w = j)) := by
  rw [bt_and, bt_xor, sh1 hw, bt_p hw hj, bt_m1 hj, Bool.xor_true]
theorem bt_tst (x : Int32) {w : Nat} (hw : w < 16) : (x &&& (nI 1 <<< (nI w &&& 31)) = nI 0) ↔ bt x w = false := by
  rw [bt_z, sh1 hw]
  constructor
  · intro h
    have := h w (by omega)
    rw [bt_and, bt_p hw (by omega)] at this
    simpa using this
  · intro h j hj
    rw [bt_and, bt_p hw hj]
    by_cases e : w = j
    · subst e; simp [h]
    · simp [e]
theorem bt_shr (x : Int32) {w : Nat} (hw : w < 16) : ((x >>> (nI w &&& 31)) &&& nI 1 = nI 1) ↔ bt x w = true := by
  have e1 : nI w &&& 31 = nI w := by
    have : ∀ w : Fin 16, nI w.val &&& 31 = nI w.val := by decide
    exact this ⟨w, hw⟩
  have e2 : ((nI w).toBitVec.smod 32).toNat = w := by
    have : ∀ w : Fin 16, ((nI w.val).toBitVec.smod 32).toNat = w.val := by decide
    exact this ⟨w, hw⟩
  have e3 : bt (x >>> nI w) 0 = bt x w := by
    unfold bt
    rw [Int32.toBitVec_shiftRight, BitVec.sshiftRight', e2, BitVec.getLsbD_sshiftRight]
    simp only [Nat.add_zero, show w < 32 by omega, if_true]
    simp
  rw [e1, ← e3]
  have e4 : ∀ y : Int32, (y &&& nI 1 = nI 1) ↔ bt y 0 = true := by
    intro y
    have one : nI 1 = nI (2 ^ 0) := rfl
    constructor
    · intro h
      have := congrArg (fun z => bt z 0) h
      simp only [bt_and] at this
      rw [one, bt_p (by decide) (by decide)] at this
      simpa using this
    · intro h
      apply bt_ext
      intro j hj
      rw [bt_and, one, bt_p (by decide) hj]
      by_cases e : 0 = j
      · subst e; simp [h]
      · simp [e]
  exact e4 _
theorem bt_meet (x y : Int32) : (x &&& y = nI 0) ↔ ∀ j, j < 32 → bt x j = true → bt y j = false := by
  rw [bt_z]
  constructor
  · intro h j hj hx
    have := h j hj
    rw [bt_and, hx] at this
    simpa using this
  · intro h j hj
    rw [bt_and]
    cases hx : bt x j
    · rfl
    · rw [h j hj hx]; rfl
/-! counting -/
def cn (f : Nat → Bool) : Nat → Nat
  | 0 => 0
  | n + 1 => cn f n + (if f n then 1 else 0)
theorem cn_le (f : Nat → Bool) (n : Nat) : cn f n ≤ n := by
  induction n with
  | zero => exact Nat.le_refl _
  | succ n ih => unfold cn; split <;> omega
theorem cn_congr {f g : Nat → Bool} {n : Nat} (h : ∀ j, j < n → f j = g j) : cn f n = cn g n := by
  induction n with
  | zero => rfl
  | succ n ih => unfold cn; rw [h n (by omega), ih (fun j hj => h j (by omega))]
theorem cn_off {f g : Nat → Bool} {n t : Nat} (ht : t < n) (hf : f t = true) (hg : g t = false) (h : ∀ j, j < n → ¬ j = t → f j = g j) : cn f n = cn g n + 1 := by
  induction n with
  | zero => omega
  | succ n ih =>
    unfold cn
    by_cases e : t = n
    · subst e
      rw [cn_congr (f := f) (g := g) (fun j hj => h j (by omega) (by omega)), hf, hg]
      simp
    · rw [ih (by omega) (fun j hj hjt => h j (by omega) hjt), h n (by omega) (by omega)]
      omega
theorem cn_pos {f : Nat → Bool} {n t : Nat} (ht : t < n) (hf : f t = true) : 1 ≤ cn f n := by
  induction n with
  | zero => omega
  | succ n ih =>
    unfold cn
    by_cases e : t = n
    · subst e; rw [hf]; simp
    · have := ih (by omega); omega
theorem cn_lt {f : Nat → Bool} {n t : Nat} (ht : t < n) (hf : f t = false) : cn f n < n := by
  induction n with
  | zero => omega
  | succ n ih =>
    unfold cn
    by_cases e : t = n
    · subst e; rw [hf]; have := cn_le f t; simp; omega
    · have := ih (by omega); split <;> omega
/-- a row of different numbers below a bound is not longer than the bound -/
theorem pigeon : ∀ (m n : Nat) (f : Nat → Nat), (∀ k, k < n → f k < m) → (∀ k k', k < k' → k' < n → ¬ f k = f k') → n ≤ m := by
  intro m
  induction m with
  | zero =>
    intro n f h _
    by_cases e : n = 0
    · omega
    · exact absurd (h 0 (by omega)) (by omega)
  | succ m ih =>
    intro n f h1 h2
    by_cases e : n = 0
    · omega
    · have := ih (n - 1) (fun k => if f k = m then f (n - 1) else f k) (fun k hk => by
        have a1 := h1 k (by omega)
        have a2 := h1 (n - 1) (by omega)
        have a3 := h2 k (n - 1) (by omega) (by omega)
        split <;> omega) (fun k k' hk hk' => by
        have a3 := h2 k (n - 1) (by omega) (by omega)
        have a4 := h2 k' (n - 1) (by omega) (by omega)
        have a5 := h2 k k' hk (by omega)
        split <;> split <;> omega)
      omega
