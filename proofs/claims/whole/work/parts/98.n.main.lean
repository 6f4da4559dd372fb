/-! the law, call by call -/
theorem t_192 (xs : Nat → Int32) {N i K : Nat} {u : ts_Mem} (i1 : ts_inr (nI (4 * i) + (1 : Int32)) N = True) (i2 : ts_inr (nI (4 * i) + (2 : Int32)) N = True) (i3 : ts_inr (nI (4 * i) + (3 : Int32)) N = True) (hZ : Z u K) (hK : K + 1 < 2 ^ 30) : ∃ u2, fL_192 xs N (nI (4 * i)) u = some u2 ∧ Z u2 (K + 1) := by
  unfold fL_192
  simp only [i1, i2, i3, if_true]
  exact k_reset _ hZ
theorem t_248 (xs : Nat → Int32) {N i K : Nat} {u : ts_Mem} (i1 : ts_inr (nI (4 * i) + (1 : Int32)) N = True) (i2 : ts_inr (nI (4 * i) + (2 : Int32)) N = True) (i3 : ts_inr (nI (4 * i) + (3 : Int32)) N = True) (hZ : Z u K) (hK : K + 1 < 2 ^ 30) : ∃ u2, fL_248 xs N (nI (4 * i)) u = some u2 ∧ Z u2 (K + 1) := by
  unfold fL_248
  simp only [i1, i2, i3, if_true]
  exact k_begin _ hZ hK
theorem t_304 (xs : Nat → Int32) {N i K : Nat} {u : ts_Mem} (i1 : ts_inr (nI (4 * i) + (1 : Int32)) N = True) (i2 : ts_inr (nI (4 * i) + (2 : Int32)) N = True) (i3 : ts_inr (nI (4 * i) + (3 : Int32)) N = True) (hZ : Z u K) (hK : K + 1 < 2 ^ 30) : ∃ u2, fL_304 xs N (nI (4 * i)) u = some u2 ∧ Z u2 (K + 1) := by
  unfold fL_304
  simp only [i1, i2, i3, if_true]
  exact k_read _ _ hZ
theorem t_372 (xs : Nat → Int32) {N i K : Nat} {u : ts_Mem} (i1 : ts_inr (nI (4 * i) + (1 : Int32)) N = True) (i2 : ts_inr (nI (4 * i) + (2 : Int32)) N = True) (i3 : ts_inr (nI (4 * i) + (3 : Int32)) N = True) (hZ : Z u K) (hK : K + 1 < 2 ^ 30) : ∃ u2, fL_372 xs N (nI (4 * i)) u = some u2 ∧ Z u2 (K + 1) := by
  unfold fL_372
  simp only [i1, i2, i3, if_true]
  exact k_write _ _ _ hZ
theorem t_452 (xs : Nat → Int32) {N i K : Nat} {u : ts_Mem} (i1 : ts_inr (nI (4 * i) + (1 : Int32)) N = True) (i2 : ts_inr (nI (4 * i) + (2 : Int32)) N = True) (i3 : ts_inr (nI (4 * i) + (3 : Int32)) N = True) (hZ : Z u K) (hK : K + 1 < 2 ^ 30) : ∃ u2, fL_452 xs N (nI (4 * i)) u = some u2 ∧ Z u2 (K + 1) := by
  unfold fL_452
  simp only [i1, i2, i3, if_true]
  exact k_add _ _ _ hZ
theorem t_532 (xs : Nat → Int32) {N i K : Nat} {u : ts_Mem} (i1 : ts_inr (nI (4 * i) + (1 : Int32)) N = True) (i2 : ts_inr (nI (4 * i) + (2 : Int32)) N = True) (i3 : ts_inr (nI (4 * i) + (3 : Int32)) N = True) (hZ : Z u K) (hK : K + 1 < 2 ^ 30) : ∃ u2, fL_532 xs N (nI (4 * i)) u = some u2 ∧ Z u2 (K + 1) := by
  unfold fL_532
  simp only [i1, i2, i3, if_true]
  exact k_commit _ hZ
theorem t_595 (xs : Nat → Int32) {N i K : Nat} {u : ts_Mem} (i1 : ts_inr (nI (4 * i) + (1 : Int32)) N = True) (i2 : ts_inr (nI (4 * i) + (2 : Int32)) N = True) (i3 : ts_inr (nI (4 * i) + (3 : Int32)) N = True) (hZ : Z u K) (hK : K + 1 < 2 ^ 30) : ∃ u2, fL_595 xs N (nI (4 * i)) u = some u2 ∧ Z u2 (K + 1) := by
  unfold fL_595
  simp only [i1, i2, i3, if_true]
  exact k_abort _ hZ
theorem t_651 (xs : Nat → Int32) {N i K : Nat} {u : ts_Mem} (i1 : ts_inr (nI (4 * i) + (1 : Int32)) N = True) (i2 : ts_inr (nI (4 * i) + (2 : Int32)) N = True) (i3 : ts_inr (nI (4 * i) + (3 : Int32)) N = True) (hZ : Z u K) (hK : K + 1 < 2 ^ 30) : ∃ u2, fL_651 xs N (nI (4 * i)) u = some u2 ∧ Z u2 (K + 1) := by
  unfold fL_651
  exact k_restartNext hZ hK
theorem t_695 (xs : Nat → Int32) {N i K : Nat} {u : ts_Mem} (i1 : ts_inr (nI (4 * i) + (1 : Int32)) N = True) (i2 : ts_inr (nI (4 * i) + (2 : Int32)) N = True) (i3 : ts_inr (nI (4 * i) + (3 : Int32)) N = True) (hZ : Z u K) (hK : K + 1 < 2 ^ 30) : ∃ u2, fL_695 xs N (nI (4 * i)) u = some u2 ∧ Z u2 (K + 1) := by
  unfold fL_695
  simp only [i1, i2, i3, if_true]
  exact k_append _ hZ
theorem t_753 (xs : Nat → Int32) {N i K : Nat} {u : ts_Mem} (i1 : ts_inr (nI (4 * i) + (1 : Int32)) N = True) (i2 : ts_inr (nI (4 * i) + (2 : Int32)) N = True) (i3 : ts_inr (nI (4 * i) + (3 : Int32)) N = True) (hZ : Z u K) (hK : K + 1 < 2 ^ 30) : ∃ u2, fL_753 xs N (nI (4 * i)) u = some u2 ∧ Z u2 (K + 1) := by
  unfold fL_753
  simp only [i1, i2, i3, if_true]
  exact k_run _ hZ
theorem t_809 (xs : Nat → Int32) {N i K : Nat} {u : ts_Mem} (i1 : ts_inr (nI (4 * i) + (1 : Int32)) N = True) (i2 : ts_inr (nI (4 * i) + (2 : Int32)) N = True) (i3 : ts_inr (nI (4 * i) + (3 : Int32)) N = True) (hZ : Z u K) (hK : K + 1 < 2 ^ 30) : ∃ u2, fL_809 xs N (nI (4 * i)) u = some u2 ∧ Z u2 (K + 1) := by
  unfold fL_809
  exact k_errorPosition hZ
theorem t_853 (xs : Nat → Int32) {N i K : Nat} {u : ts_Mem} (i1 : ts_inr (nI (4 * i) + (1 : Int32)) N = True) (i2 : ts_inr (nI (4 * i) + (2 : Int32)) N = True) (i3 : ts_inr (nI (4 * i) + (3 : Int32)) N = True) (hZ : Z u K) (hK : K + 1 < 2 ^ 30) : ∃ u2, fL_853 xs N (nI (4 * i)) u = some u2 ∧ Z u2 (K + 1) := by
  unfold fL_853
  exact k_transactionCount hZ
theorem t_866 (xs : Nat → Int32) {N i K : Nat} {u : ts_Mem} (i1 : ts_inr (nI (4 * i) + (1 : Int32)) N = True) (i2 : ts_inr (nI (4 * i) + (2 : Int32)) N = True) (i3 : ts_inr (nI (4 * i) + (3 : Int32)) N = True) (hZ : Z u K) (hK : K + 1 < 2 ^ 30) : ∃ u2, fL_866 xs N (nI (4 * i)) u = some u2 ∧ Z u2 (K + 1) := by
  unfold fL_866
  simp only [i1, i2, i3, if_true]
  exact k_transaction _ _ hZ
theorem t_934 (xs : Nat → Int32) {N i K : Nat} {u : ts_Mem} (i1 : ts_inr (nI (4 * i) + (1 : Int32)) N = True) (i2 : ts_inr (nI (4 * i) + (2 : Int32)) N = True) (i3 : ts_inr (nI (4 * i) + (3 : Int32)) N = True) (hZ : Z u K) (hK : K + 1 < 2 ^ 30) : ∃ u2, fL_934 xs N (nI (4 * i)) u = some u2 ∧ Z u2 (K + 1) := by
  unfold fL_934
  simp only [i1, i2, i3, if_true]
  exact k_dependencies _ hZ
theorem t_990 (xs : Nat → Int32) {N i K : Nat} {u : ts_Mem} (i1 : ts_inr (nI (4 * i) + (1 : Int32)) N = True) (i2 : ts_inr (nI (4 * i) + (2 : Int32)) N = True) (i3 : ts_inr (nI (4 * i) + (3 : Int32)) N = True) (hZ : Z u K) (hK : K + 1 < 2 ^ 30) : ∃ u2, fL_990 xs N (nI (4 * i)) u = some u2 ∧ Z u2 (K + 1) := by
  unfold fL_990
  simp only [i1, i2, i3, if_true]
  exact k_cascade _ hZ
theorem t_1046 (xs : Nat → Int32) {N i K : Nat} {u : ts_Mem} (i1 : ts_inr (nI (4 * i) + (1 : Int32)) N = True) (i2 : ts_inr (nI (4 * i) + (2 : Int32)) N = True) (i3 : ts_inr (nI (4 * i) + (3 : Int32)) N = True) (hZ : Z u K) (hK : K + 1 < 2 ^ 30) : ∃ u2, fL_1046 xs N (nI (4 * i)) u = some u2 ∧ Z u2 (K + 1) := by
  unfold fL_1046
  simp only [i1, i2, i3, if_true]
  exact k_operation _ _ _ hZ
theorem t_1126 (xs : Nat → Int32) {N i K : Nat} {u : ts_Mem} (i1 : ts_inr (nI (4 * i) + (1 : Int32)) N = True) (i2 : ts_inr (nI (4 * i) + (2 : Int32)) N = True) (i3 : ts_inr (nI (4 * i) + (3 : Int32)) N = True) (hZ : Z u K) (hK : K + 1 < 2 ^ 30) : ∃ u2, fL_1126 xs N (nI (4 * i)) u = some u2 ∧ Z u2 (K + 1) := by
  unfold fL_1126
  simp only [i1, i2, i3, if_true]
  exact k_versionCount _ hZ
theorem t_1182 (xs : Nat → Int32) {N i K : Nat} {u : ts_Mem} (i1 : ts_inr (nI (4 * i) + (1 : Int32)) N = True) (i2 : ts_inr (nI (4 * i) + (2 : Int32)) N = True) (i3 : ts_inr (nI (4 * i) + (3 : Int32)) N = True) (hZ : Z u K) (hK : K + 1 < 2 ^ 30) : ∃ u2, fL_1182 xs N (nI (4 * i)) u = some u2 ∧ Z u2 (K + 1) := by
  unfold fL_1182
  simp only [i1, i2, i3, if_true]
  exact k_version _ _ _ hZ
theorem t_1262 (xs : Nat → Int32) {N i K : Nat} {u : ts_Mem} (i1 : ts_inr (nI (4 * i) + (1 : Int32)) N = True) (i2 : ts_inr (nI (4 * i) + (2 : Int32)) N = True) (i3 : ts_inr (nI (4 * i) + (3 : Int32)) N = True) (hZ : Z u K) (hK : K + 1 < 2 ^ 30) : ∃ u2, fL_1262 xs N (nI (4 * i)) u = some u2 ∧ Z u2 (K + 1) := by
  unfold fL_1262
  simp only [i1, i2, i3, if_true]
  exact k_valueAt _ _ hZ
theorem t_1330 (xs : Nat → Int32) {N i K : Nat} {u : ts_Mem} (i1 : ts_inr (nI (4 * i) + (1 : Int32)) N = True) (i2 : ts_inr (nI (4 * i) + (2 : Int32)) N = True) (i3 : ts_inr (nI (4 * i) + (3 : Int32)) N = True) (hZ : Z u K) (hK : K + 1 < 2 ^ 30) : ∃ u2, fL_1330 xs N (nI (4 * i)) u = some u2 ∧ Z u2 (K + 1) := by
  unfold fL_1330
  exact k_collect hZ
theorem t_1343 (xs : Nat → Int32) {N i K : Nat} {u : ts_Mem} (i1 : ts_inr (nI (4 * i) + (1 : Int32)) N = True) (i2 : ts_inr (nI (4 * i) + (2 : Int32)) N = True) (i3 : ts_inr (nI (4 * i) + (3 : Int32)) N = True) (hZ : Z u K) (hK : K + 1 < 2 ^ 30) : ∃ u2, fL_1343 xs N (nI (4 * i)) u = some u2 ∧ Z u2 (K + 1) := by
  unfold fL_1343
  exact k_horizon hZ
theorem t_1356 (xs : Nat → Int32) {N i K : Nat} {u : ts_Mem} (i1 : ts_inr (nI (4 * i) + (1 : Int32)) N = True) (i2 : ts_inr (nI (4 * i) + (2 : Int32)) N = True) (i3 : ts_inr (nI (4 * i) + (3 : Int32)) N = True) (hZ : Z u K) (hK : K + 1 < 2 ^ 30) : ∃ u2, fL_1356 xs N (nI (4 * i)) u = some u2 ∧ Z u2 (K + 1) := by
  unfold fL_1356
  exact k_check hZ
theorem t_1369 (xs : Nat → Int32) {N i K : Nat} {u : ts_Mem} (i1 : ts_inr (nI (4 * i) + (1 : Int32)) N = True) (i2 : ts_inr (nI (4 * i) + (2 : Int32)) N = True) (i3 : ts_inr (nI (4 * i) + (3 : Int32)) N = True) (hZ : Z u K) (hK : K + 1 < 2 ^ 30) : ∃ u2, fL_1369 xs N (nI (4 * i)) u = some u2 ∧ Z u2 (K + 1) := by
  unfold fL_1369
  exact k_eventCount hZ
theorem t_1382 (xs : Nat → Int32) {N i K : Nat} {u : ts_Mem} (i1 : ts_inr (nI (4 * i) + (1 : Int32)) N = True) (i2 : ts_inr (nI (4 * i) + (2 : Int32)) N = True) (i3 : ts_inr (nI (4 * i) + (3 : Int32)) N = True) (hZ : Z u K) (hK : K + 1 < 2 ^ 30) : ∃ u2, fL_1382 xs N (nI (4 * i)) u = some u2 ∧ Z u2 (K + 1) := by
  unfold fL_1382
  simp only [i1, i2, i3, if_true]
  exact k_event _ _ hZ
theorem t_1450 (xs : Nat → Int32) {N i K : Nat} {u : ts_Mem} (i1 : ts_inr (nI (4 * i) + (1 : Int32)) N = True) (i2 : ts_inr (nI (4 * i) + (2 : Int32)) N = True) (i3 : ts_inr (nI (4 * i) + (3 : Int32)) N = True) (hZ : Z u K) (hK : K + 1 < 2 ^ 30) : ∃ u2, fL_1450 xs N (nI (4 * i)) u = some u2 ∧ Z u2 (K + 1) := by
  unfold fL_1450
  simp only [i1, i2, i3, if_true]
  exact k_total _ hZ
theorem t_1506 (xs : Nat → Int32) {N i K : Nat} {u : ts_Mem} (i1 : ts_inr (nI (4 * i) + (1 : Int32)) N = True) (i2 : ts_inr (nI (4 * i) + (2 : Int32)) N = True) (i3 : ts_inr (nI (4 * i) + (3 : Int32)) N = True) (hZ : Z u K) (hK : K + 1 < 2 ^ 30) : ∃ u2, fL_1506 xs N (nI (4 * i)) u = some u2 ∧ Z u2 (K + 1) := by
  unfold fL_1506
  exact k_abortShare hZ
theorem t_1571 (xs : Nat → Int32) {N i K : Nat} {u : ts_Mem} (i1 : ts_inr (nI (4 * i) + (1 : Int32)) N = True) (i2 : ts_inr (nI (4 * i) + (2 : Int32)) N = True) (i3 : ts_inr (nI (4 * i) + (3 : Int32)) N = True) (hZ : Z u K) (hK : K + 1 < 2 ^ 30) : ∃ u2, fL_1571 xs N (nI (4 * i)) u = some u2 ∧ Z u2 (K + 1) := by
  unfold fL_1571
  simp only [i1, i2, i3, if_true]
  exact k_allocate _ _ _ hZ
theorem t_1631 (xs : Nat → Int32) {N i K : Nat} {u : ts_Mem} (i1 : ts_inr (nI (4 * i) + (1 : Int32)) N = True) (i2 : ts_inr (nI (4 * i) + (2 : Int32)) N = True) (i3 : ts_inr (nI (4 * i) + (3 : Int32)) N = True) (hZ : Z u K) (hK : K + 1 < 2 ^ 30) : ∃ u2, fL_1631 xs N (nI (4 * i)) u = some u2 ∧ Z u2 (K + 1) := by
  unfold fL_1631
  simp only [i1, i2, i3, if_true]
  exact k_export _ _ hZ
theorem t_1699 (xs : Nat → Int32) {N i K : Nat} {u : ts_Mem} (i1 : ts_inr (nI (4 * i) + (1 : Int32)) N = True) (i2 : ts_inr (nI (4 * i) + (2 : Int32)) N = True) (i3 : ts_inr (nI (4 * i) + (3 : Int32)) N = True) (hZ : Z u K) (hK : K + 1 < 2 ^ 30) : ∃ u2, fL_1699 xs N (nI (4 * i)) u = some u2 ∧ Z u2 (K + 1) := by
  unfold fL_1699
  simp only [i1, i2, i3, if_true]
  exact k_divide _ _ _ hZ
theorem t_1801 (xs : Nat → Int32) {N i K : Nat} {u : ts_Mem} (i1 : ts_inr (nI (4 * i) + (1 : Int32)) N = True) (i2 : ts_inr (nI (4 * i) + (2 : Int32)) N = True) (i3 : ts_inr (nI (4 * i) + (3 : Int32)) N = True) (hZ : Z u K) (hK : K + 1 < 2 ^ 30) : ∃ u2, fL_1801 xs N (nI (4 * i)) u = some u2 ∧ Z u2 (K + 1) := by
  unfold fL_1801
  simp only [i1, i2, i3, if_true]
  exact k_cloneRow _ _ hZ
theorem t_1869 (xs : Nat → Int32) {N i K : Nat} {u : ts_Mem} (i1 : ts_inr (nI (4 * i) + (1 : Int32)) N = True) (i2 : ts_inr (nI (4 * i) + (2 : Int32)) N = True) (i3 : ts_inr (nI (4 * i) + (3 : Int32)) N = True) (hZ : Z u K) (hK : K + 1 < 2 ^ 30) : ∃ u2, fL_1869 xs N (nI (4 * i)) u = some u2 ∧ Z u2 (K + 1) := by
  unfold fL_1869
  simp only [i1, i2, i3, if_true]
  exact k_copyRow _ _ hZ
theorem t_1937 (xs : Nat → Int32) {N i K : Nat} {u : ts_Mem} (i1 : ts_inr (nI (4 * i) + (1 : Int32)) N = True) (i2 : ts_inr (nI (4 * i) + (2 : Int32)) N = True) (i3 : ts_inr (nI (4 * i) + (3 : Int32)) N = True) (hZ : Z u K) (hK : K + 1 < 2 ^ 30) : ∃ u2, fL_1937 xs N (nI (4 * i)) u = some u2 ∧ Z u2 (K + 1) := by
  unfold fL_1937
  exact k_snapshot hZ
theorem t_1950 (xs : Nat → Int32) {N i K : Nat} {u : ts_Mem} (i1 : ts_inr (nI (4 * i) + (1 : Int32)) N = True) (i2 : ts_inr (nI (4 * i) + (2 : Int32)) N = True) (i3 : ts_inr (nI (4 * i) + (3 : Int32)) N = True) (hZ : Z u K) (hK : K + 1 < 2 ^ 30) : ∃ u2, fL_1950 xs N (nI (4 * i)) u = some u2 ∧ Z u2 (K + 1) := by
  unfold fL_1950
  exact k_restore hZ
theorem cndT {N i : Nat} (h : N < 4 * i + 4) (hi : i ≤ 600) : Int32.ofNat N - (4 : Int32) < nI (4 * i) := by
  show nI N - nI 4 < nI (4 * i)
  by_cases e : 4 ≤ N
  · rw [nI_sb e]; exact nI_lt (by omega) (by omega)
  · rw [Int32.lt_iff_toInt_lt, nI_toInt (show 4 * i < 2 ^ 31 by omega)]
    rcases (show N = 0 ∨ N = 1 ∨ N = 2 ∨ N = 3 by omega) with rfl | rfl | rfl | rfl
    · rw [show (nI 0 - nI 4).toInt = -4 from by decide]; omega
    · rw [show (nI 1 - nI 4).toInt = -3 from by decide]; omega
    · rw [show (nI 2 - nI 4).toInt = -2 from by decide]; omega
    · rw [show (nI 3 - nI 4).toInt = -1 from by decide]; omega
theorem cndF {N i : Nat} (h : 4 * i + 4 ≤ N) (hN : N ≤ 2048) : ¬ Int32.ofNat N - (4 : Int32) < nI (4 * i) := by
  show ¬ nI N - nI 4 < nI (4 * i)
  rw [nI_sb (by omega)]
  exact nI_nlt (by omega) (by omega)
theorem Z_m {u : ts_Mem} {K : Nat} (h : Z u K) : Z u (K + 1) := by
  obtain ⟨al, be, mu, v, p, n, nx, h0, hS, hR, hn, hX⟩ := h
  exact ⟨al, be, mu, v, p, n, nx, h0, hS, hR, by omega, pX_f hX (fun _ _ _ => rfl) (by omega)⟩
theorem main_loop (xs : Nat → Int32) {N : Nat} (hN : N ≤ 2048) : ∀ n i u, Z u (i + 1) → n + i = 513 → 4 * i ≤ N → ∃ u2, lpL xs N n (nI (4 * i)) u = some u2 := by
  intro n
  induction n with
  | zero => intro i u _ h1 h2; omega
  | succ n ih =>
    intro i u hZ h1 h2
    rw [lpL]
    by_cases hc : N < 4 * i + 4
    · rw [if_pos (cndT hc (by omega))]
      exact ⟨u, rfl⟩
    · rw [if_neg (cndF (by omega) hN), if_pos (inr_nI (show 4 * i < N by omega) (by omega))]
      have i1 : ts_inr (nI (4 * i) + (1 : Int32)) N = True := eq_true (by rw [show nI (4 * i) + (1 : Int32) = nI (4 * i + 1) from nI_add _ _]; exact inr_nI (by omega) (by omega))
      have i2 : ts_inr (nI (4 * i) + (2 : Int32)) N = True := eq_true (by rw [show nI (4 * i) + (2 : Int32) = nI (4 * i + 2) from nI_add _ _]; exact inr_nI (by omega) (by omega))
      have i3 : ts_inr (nI (4 * i) + (3 : Int32)) N = True := eq_true (by rw [show nI (4 * i) + (3 : Int32) = nI (4 * i + 3) from nI_add _ _]; exact inr_nI (by omega) (by omega))
      have hK : i + 1 + 1 < 2 ^ 30 := by omega
      have e4 : nI (4 * i) + (4 : Int32) = nI (4 * (i + 1)) := by rw [show nI (4 * i) + (4 : Int32) = nI (4 * i + 4) from nI_add _ _, show 4 * (i + 1) = 4 * i + 4 by omega]
      have fin : ∀ F : Option ts_Mem, (∃ u1, F = some u1 ∧ Z u1 (i + 1 + 1)) → ∃ u2, F.bind (fun u1 => lpL xs N n (nI (4 * i) + (4 : Int32)) u1) = some u2 := by
        rintro F ⟨u1, rfl, hu⟩
        rw [sb, e4]
        exact ih (i + 1) u1 hu (by omega) (by omega)
      by_cases c0 : (xs (nI (4 * i)).toNatClampNeg &&& (63 : Int32)) = 0
      · rw [if_pos c0]
        exact fin _ (t_192 xs i1 i2 i3 hZ hK)
      rw [if_neg c0]
      by_cases c1 : (xs (nI (4 * i)).toNatClampNeg &&& (63 : Int32)) = 1
      · rw [if_pos c1]
        exact fin _ (t_248 xs i1 i2 i3 hZ hK)
      rw [if_neg c1]
      by_cases c2 : (xs (nI (4 * i)).toNatClampNeg &&& (63 : Int32)) = 2
      · rw [if_pos c2]
        exact fin _ (t_304 xs i1 i2 i3 hZ hK)
      rw [if_neg c2]
      by_cases c3 : (xs (nI (4 * i)).toNatClampNeg &&& (63 : Int32)) = 3
      · rw [if_pos c3]
        exact fin _ (t_372 xs i1 i2 i3 hZ hK)
      rw [if_neg c3]
      by_cases c4 : (xs (nI (4 * i)).toNatClampNeg &&& (63 : Int32)) = 4
      · rw [if_pos c4]
        exact fin _ (t_452 xs i1 i2 i3 hZ hK)
      rw [if_neg c4]
      by_cases c5 : (xs (nI (4 * i)).toNatClampNeg &&& (63 : Int32)) = 5
      · rw [if_pos c5]
        exact fin _ (t_532 xs i1 i2 i3 hZ hK)
      rw [if_neg c5]
      by_cases c6 : (xs (nI (4 * i)).toNatClampNeg &&& (63 : Int32)) = 6
      · rw [if_pos c6]
        exact fin _ (t_595 xs i1 i2 i3 hZ hK)
      rw [if_neg c6]
      by_cases c7 : (xs (nI (4 * i)).toNatClampNeg &&& (63 : Int32)) = 7
      · rw [if_pos c7]
        exact fin _ (t_651 xs i1 i2 i3 hZ hK)
      rw [if_neg c7]
      by_cases c8 : (xs (nI (4 * i)).toNatClampNeg &&& (63 : Int32)) = 8
      · rw [if_pos c8]
        exact fin _ (t_695 xs i1 i2 i3 hZ hK)
      rw [if_neg c8]
      by_cases c9 : (xs (nI (4 * i)).toNatClampNeg &&& (63 : Int32)) = 9
      · rw [if_pos c9]
        exact fin _ (t_753 xs i1 i2 i3 hZ hK)
      rw [if_neg c9]
      by_cases c10 : (xs (nI (4 * i)).toNatClampNeg &&& (63 : Int32)) = 10
      · rw [if_pos c10]
        exact fin _ (t_809 xs i1 i2 i3 hZ hK)
      rw [if_neg c10]
      by_cases c11 : (xs (nI (4 * i)).toNatClampNeg &&& (63 : Int32)) = 11
      · rw [if_pos c11]
        exact fin _ (t_853 xs i1 i2 i3 hZ hK)
      rw [if_neg c11]
      by_cases c12 : (xs (nI (4 * i)).toNatClampNeg &&& (63 : Int32)) = 12
      · rw [if_pos c12]
        exact fin _ (t_866 xs i1 i2 i3 hZ hK)
      rw [if_neg c12]
      by_cases c13 : (xs (nI (4 * i)).toNatClampNeg &&& (63 : Int32)) = 13
      · rw [if_pos c13]
        exact fin _ (t_934 xs i1 i2 i3 hZ hK)
      rw [if_neg c13]
      by_cases c14 : (xs (nI (4 * i)).toNatClampNeg &&& (63 : Int32)) = 14
      · rw [if_pos c14]
        exact fin _ (t_990 xs i1 i2 i3 hZ hK)
      rw [if_neg c14]
      by_cases c15 : (xs (nI (4 * i)).toNatClampNeg &&& (63 : Int32)) = 15
      · rw [if_pos c15]
        exact fin _ (t_1046 xs i1 i2 i3 hZ hK)
      rw [if_neg c15]
      by_cases c16 : (xs (nI (4 * i)).toNatClampNeg &&& (63 : Int32)) = 16
      · rw [if_pos c16]
        exact fin _ (t_1126 xs i1 i2 i3 hZ hK)
      rw [if_neg c16]
      by_cases c17 : (xs (nI (4 * i)).toNatClampNeg &&& (63 : Int32)) = 17
      · rw [if_pos c17]
        exact fin _ (t_1182 xs i1 i2 i3 hZ hK)
      rw [if_neg c17]
      by_cases c18 : (xs (nI (4 * i)).toNatClampNeg &&& (63 : Int32)) = 18
      · rw [if_pos c18]
        exact fin _ (t_1262 xs i1 i2 i3 hZ hK)
      rw [if_neg c18]
      by_cases c19 : (xs (nI (4 * i)).toNatClampNeg &&& (63 : Int32)) = 19
      · rw [if_pos c19]
        exact fin _ (t_1330 xs i1 i2 i3 hZ hK)
      rw [if_neg c19]
      by_cases c20 : (xs (nI (4 * i)).toNatClampNeg &&& (63 : Int32)) = 20
      · rw [if_pos c20]
        exact fin _ (t_1343 xs i1 i2 i3 hZ hK)
      rw [if_neg c20]
      by_cases c21 : (xs (nI (4 * i)).toNatClampNeg &&& (63 : Int32)) = 21
      · rw [if_pos c21]
        exact fin _ (t_1356 xs i1 i2 i3 hZ hK)
      rw [if_neg c21]
      by_cases c22 : (xs (nI (4 * i)).toNatClampNeg &&& (63 : Int32)) = 22
      · rw [if_pos c22]
        exact fin _ (t_1369 xs i1 i2 i3 hZ hK)
      rw [if_neg c22]
      by_cases c23 : (xs (nI (4 * i)).toNatClampNeg &&& (63 : Int32)) = 23
      · rw [if_pos c23]
        exact fin _ (t_1382 xs i1 i2 i3 hZ hK)
      rw [if_neg c23]
      by_cases c24 : (xs (nI (4 * i)).toNatClampNeg &&& (63 : Int32)) = 24
      · rw [if_pos c24]
        exact fin _ (t_1450 xs i1 i2 i3 hZ hK)
      rw [if_neg c24]
      by_cases c25 : (xs (nI (4 * i)).toNatClampNeg &&& (63 : Int32)) = 25
      · rw [if_pos c25]
        exact fin _ (t_1506 xs i1 i2 i3 hZ hK)
      rw [if_neg c25]
      by_cases c26 : (xs (nI (4 * i)).toNatClampNeg &&& (63 : Int32)) = 26
      · rw [if_pos c26]
        exact fin _ (t_1571 xs i1 i2 i3 hZ hK)
      rw [if_neg c26]
      by_cases c27 : (xs (nI (4 * i)).toNatClampNeg &&& (63 : Int32)) = 27
      · rw [if_pos c27]
        exact fin _ (t_1631 xs i1 i2 i3 hZ hK)
      rw [if_neg c27]
      by_cases c28 : (xs (nI (4 * i)).toNatClampNeg &&& (63 : Int32)) = 28
      · rw [if_pos c28]
        exact fin _ (t_1699 xs i1 i2 i3 hZ hK)
      rw [if_neg c28]
      by_cases c29 : (xs (nI (4 * i)).toNatClampNeg &&& (63 : Int32)) = 29
      · rw [if_pos c29]
        exact fin _ (t_1801 xs i1 i2 i3 hZ hK)
      rw [if_neg c29]
      by_cases c30 : (xs (nI (4 * i)).toNatClampNeg &&& (63 : Int32)) = 30
      · rw [if_pos c30]
        exact fin _ (t_1869 xs i1 i2 i3 hZ hK)
      rw [if_neg c30]
      by_cases c31 : (xs (nI (4 * i)).toNatClampNeg &&& (63 : Int32)) = 31
      · rw [if_pos c31]
        exact fin _ (t_1937 xs i1 i2 i3 hZ hK)
      rw [if_neg c31]
      by_cases c32 : (xs (nI (4 * i)).toNatClampNeg &&& (63 : Int32)) = 32
      · rw [if_pos c32]
        exact fin _ (t_1950 xs i1 i2 i3 hZ hK)
      rw [if_neg c32]
      rw [e4]
      exact ih (i + 1) u (Z_m hZ) (by omega) (by omega)
