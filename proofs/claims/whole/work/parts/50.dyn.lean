/-! the making of the world: the order in which cells are made (their addresses follow it) and references set -/
def ts_ORD : List ts_I := [(0, 0, 0), (1, 0, 0), (2, 0, 0), (11, 0, 0), (12, 0, 0), (13, 0, 0), (14, 0, 0), (15, 0, 0), (11, 0, 1), (12, 0, 1), (13, 0, 1), (14, 0, 1), (15, 0, 1), (11, 0, 2), (12, 0, 2), (13, 0, 2), (14, 0, 2), (15, 0, 2), (11, 0, 3), (12, 0, 3), (13, 0, 3), (14, 0, 3), (15, 0, 3), (11, 0, 4), (12, 0, 4), (13, 0, 4), (14, 0, 4), (15, 0, 4), (11, 0, 5), (12, 0, 5), (13, 0, 5), (14, 0, 5), (15, 0, 5), (11, 0, 6), (12, 0, 6), (13, 0, 6), (14, 0, 6), (15, 0, 6), (11, 0, 7), (12, 0, 7), (13, 0, 7), (14, 0, 7), (15, 0, 7), (11, 0, 8), (12, 0, 8), (13, 0, 8), (14, 0, 8), (15, 0, 8), (11, 0, 9), (12, 0, 9), (13, 0, 9), (14, 0, 9), (15, 0, 9), (11, 0, 10), (12, 0, 10), (13, 0, 10), (14, 0, 10), (15, 0, 10), (11, 0, 11), (12, 0, 11), (13, 0, 11), (14, 0, 11), (15, 0, 11), (11, 0, 12), (12, 0, 12), (13, 0, 12), (14, 0, 12), (15, 0, 12), (11, 0, 13), (12, 0, 13), (13, 0, 13), (14, 0, 13), (15, 0, 13), (11, 0, 14), (12, 0, 14), (13, 0, 14), (14, 0, 14), (15, 0, 14), (11, 0, 15), (12, 0, 15), (13, 0, 15), (14, 0, 15), (15, 0, 15), (3, 0, 0), (16, 0, 0), (17, 0, 0), (18, 0, 0), (19, 0, 0), (20, 0, 0), (16, 0, 1), (17, 0, 1), (18, 0, 1), (19, 0, 1), (20, 0, 1), (16, 0, 2), (17, 0, 2), (18, 0, 2), (19, 0, 2), (20, 0, 2), (16, 0, 3), (17, 0, 3), (18, 0, 3), (19, 0, 3), (20, 0, 3), (16, 0, 4), (17, 0, 4), (18, 0, 4), (19, 0, 4), (20, 0, 4), (16, 0, 5), (17, 0, 5), (18, 0, 5), (19, 0, 5), (20, 0, 5), (16, 0, 6), (17, 0, 6), (18, 0, 6), (19, 0, 6), (20, 0, 6), (16, 0, 7), (17, 0, 7), (18, 0, 7), (19, 0, 7), (20, 0, 7), (4, 0, 0), (7, 0, 0), (8, 0, 0), (9, 0, 0), (10, 0, 0), (5, 0, 0), (6, 0, 0), (1, 1, 0), (2, 1, 0), (11, 1, 0), (12, 1, 0), (13, 1, 0), (14, 1, 0), (15, 1, 0), (11, 1, 1), (12, 1, 1), (13, 1, 1), (14, 1, 1), (15, 1, 1), (11, 1, 2), (12, 1, 2), (13, 1, 2), (14, 1, 2), (15, 1, 2), (11, 1, 3), (12, 1, 3), (13, 1, 3), (14, 1, 3), (15, 1, 3), (11, 1, 4), (12, 1, 4), (13, 1, 4), (14, 1, 4), (15, 1, 4), (11, 1, 5), (12, 1, 5), (13, 1, 5), (14, 1, 5), (15, 1, 5), (11, 1, 6), (12, 1, 6), (13, 1, 6), (14, 1, 6), (15, 1, 6), (11, 1, 7), (12, 1, 7), (13, 1, 7), (14, 1, 7), (15, 1, 7), (11, 1, 8), (12, 1, 8), (13, 1, 8), (14, 1, 8), (15, 1, 8), (11, 1, 9), (12, 1, 9), (13, 1, 9), (14, 1, 9), (15, 1, 9), (11, 1, 10), (12, 1, 10), (13, 1, 10), (14, 1, 10), (15, 1, 10), (11, 1, 11), (12, 1, 11), (13, 1, 11), (14, 1, 11), (15, 1, 11), (11, 1, 12), (12, 1, 12), (13, 1, 12), (14, 1, 12), (15, 1, 12), (11, 1, 13), (12, 1, 13), (13, 1, 13), (14, 1, 13), (15, 1, 13), (11, 1, 14), (12, 1, 14), (13, 1, 14), (14, 1, 14), (15, 1, 14), (11, 1, 15), (12, 1, 15), (13, 1, 15), (14, 1, 15), (15, 1, 15), (3, 1, 0), (16, 1, 0), (17, 1, 0), (18, 1, 0), (19, 1, 0), (20, 1, 0), (16, 1, 1), (17, 1, 1), (18, 1, 1), (19, 1, 1), (20, 1, 1), (16, 1, 2), (17, 1, 2), (18, 1, 2), (19, 1, 2), (20, 1, 2), (16, 1, 3), (17, 1, 3), (18, 1, 3), (19, 1, 3), (20, 1, 3), (16, 1, 4), (17, 1, 4), (18, 1, 4), (19, 1, 4), (20, 1, 4), (16, 1, 5), (17, 1, 5), (18, 1, 5), (19, 1, 5), (20, 1, 5), (16, 1, 6), (17, 1, 6), (18, 1, 6), (19, 1, 6), (20, 1, 6), (16, 1, 7), (17, 1, 7), (18, 1, 7), (19, 1, 7), (20, 1, 7), (4, 1, 0), (7, 1, 0), (8, 1, 0), (9, 1, 0), (10, 1, 0), (5, 1, 0), (6, 1, 0), (21, 0, 0), (22, 0, 0), (23, 0, 0), (24, 0, 0), (25, 0, 0), (26, 0, 0), (27, 0, 0), (28, 0, 0), (29, 0, 0), (27, 0, 1), (28, 0, 1), (29, 0, 1), (27, 0, 2), (28, 0, 2), (29, 0, 2), (30, 0, 0), (31, 0, 0), (32, 0, 0), (33, 0, 0), (34, 0, 0), (35, 0, 0), (36, 0, 0), (37, 0, 0), (38, 0, 0), (39, 0, 0), (40, 0, 0), (41, 0, 0), (42, 0, 0), (43, 0, 0), (44, 0, 0), (45, 0, 0), (46, 0, 0), (47, 0, 0), (48, 0, 0), (49, 0, 0), (50, 0, 0), (51, 0, 0)]
def ts_EV : List (ts_I × Nat) := [((1, 0, 0), 3), ((11, 0, 0), 6), ((11, 0, 0), 7), ((11, 0, 0), 8), ((11, 0, 0), 9), ((2, 0, 0), 0), ((11, 0, 1), 6), ((11, 0, 1), 7), ((11, 0, 1), 8), ((11, 0, 1), 9), ((2, 0, 0), 1), ((11, 0, 2), 6), ((11, 0, 2), 7), ((11, 0, 2), 8), ((11, 0, 2), 9), ((2, 0, 0), 2), ((11, 0, 3), 6), ((11, 0, 3), 7), ((11, 0, 3), 8), ((11, 0, 3), 9), ((2, 0, 0), 3), ((11, 0, 4), 6), ((11, 0, 4), 7), ((11, 0, 4), 8), ((11, 0, 4), 9), ((2, 0, 0), 4), ((11, 0, 5), 6), ((11, 0, 5), 7), ((11, 0, 5), 8), ((11, 0, 5), 9), ((2, 0, 0), 5), ((11, 0, 6), 6), ((11, 0, 6), 7), ((11, 0, 6), 8), ((11, 0, 6), 9), ((2, 0, 0), 6), ((11, 0, 7), 6), ((11, 0, 7), 7), ((11, 0, 7), 8), ((11, 0, 7), 9), ((2, 0, 0), 7), ((11, 0, 8), 6), ((11, 0, 8), 7), ((11, 0, 8), 8), ((11, 0, 8), 9), ((2, 0, 0), 8), ((11, 0, 9), 6), ((11, 0, 9), 7), ((11, 0, 9), 8), ((11, 0, 9), 9), ((2, 0, 0), 9), ((11, 0, 10), 6), ((11, 0, 10), 7), ((11, 0, 10), 8), ((11, 0, 10), 9), ((2, 0, 0), 10), ((11, 0, 11), 6), ((11, 0, 11), 7), ((11, 0, 11), 8), ((11, 0, 11), 9), ((2, 0, 0), 11), ((11, 0, 12), 6), ((11, 0, 12), 7), ((11, 0, 12), 8), ((11, 0, 12), 9), ((2, 0, 0), 12), ((11, 0, 13), 6), ((11, 0, 13), 7), ((11, 0, 13), 8), ((11, 0, 13), 9), ((2, 0, 0), 13), ((11, 0, 14), 6), ((11, 0, 14), 7), ((11, 0, 14), 8), ((11, 0, 14), 9), ((2, 0, 0), 14), ((11, 0, 15), 6), ((11, 0, 15), 7), ((11, 0, 15), 8), ((11, 0, 15), 9), ((2, 0, 0), 15), ((1, 0, 0), 4), ((16, 0, 0), 1), ((16, 0, 0), 2), ((16, 0, 0), 3), ((16, 0, 0), 4), ((3, 0, 0), 0), ((16, 0, 1), 1), ((16, 0, 1), 2), ((16, 0, 1), 3), ((16, 0, 1), 4), ((3, 0, 0), 1), ((16, 0, 2), 1), ((16, 0, 2), 2), ((16, 0, 2), 3), ((16, 0, 2), 4), ((3, 0, 0), 2), ((16, 0, 3), 1), ((16, 0, 3), 2), ((16, 0, 3), 3), ((16, 0, 3), 4), ((3, 0, 0), 3), ((16, 0, 4), 1), ((16, 0, 4), 2), ((16, 0, 4), 3), ((16, 0, 4), 4), ((3, 0, 0), 4), ((16, 0, 5), 1), ((16, 0, 5), 2), ((16, 0, 5), 3), ((16, 0, 5), 4), ((3, 0, 0), 5), ((16, 0, 6), 1), ((16, 0, 6), 2), ((16, 0, 6), 3), ((16, 0, 6), 4), ((3, 0, 0), 6), ((16, 0, 7), 1), ((16, 0, 7), 2), ((16, 0, 7), 3), ((16, 0, 7), 4), ((3, 0, 0), 7), ((4, 0, 0), 2), ((4, 0, 0), 3), ((4, 0, 0), 4), ((4, 0, 0), 5), ((1, 0, 0), 5), ((1, 0, 0), 6), ((1, 0, 0), 7), ((0, 0, 0), 0), ((1, 1, 0), 3), ((11, 1, 0), 6), ((11, 1, 0), 7), ((11, 1, 0), 8), ((11, 1, 0), 9), ((2, 1, 0), 0), ((11, 1, 1), 6), ((11, 1, 1), 7), ((11, 1, 1), 8), ((11, 1, 1), 9), ((2, 1, 0), 1), ((11, 1, 2), 6), ((11, 1, 2), 7), ((11, 1, 2), 8), ((11, 1, 2), 9), ((2, 1, 0), 2), ((11, 1, 3), 6), ((11, 1, 3), 7), ((11, 1, 3), 8), ((11, 1, 3), 9), ((2, 1, 0), 3), ((11, 1, 4), 6), ((11, 1, 4), 7), ((11, 1, 4), 8), ((11, 1, 4), 9), ((2, 1, 0), 4), ((11, 1, 5), 6), ((11, 1, 5), 7), ((11, 1, 5), 8), ((11, 1, 5), 9), ((2, 1, 0), 5), ((11, 1, 6), 6), ((11, 1, 6), 7), ((11, 1, 6), 8), ((11, 1, 6), 9), ((2, 1, 0), 6), ((11, 1, 7), 6), ((11, 1, 7), 7), ((11, 1, 7), 8), ((11, 1, 7), 9), ((2, 1, 0), 7), ((11, 1, 8), 6), ((11, 1, 8), 7), ((11, 1, 8), 8), ((11, 1, 8), 9), ((2, 1, 0), 8), ((11, 1, 9), 6), ((11, 1, 9), 7), ((11, 1, 9), 8), ((11, 1, 9), 9), ((2, 1, 0), 9), ((11, 1, 10), 6), ((11, 1, 10), 7), ((11, 1, 10), 8), ((11, 1, 10), 9), ((2, 1, 0), 10), ((11, 1, 11), 6), ((11, 1, 11), 7), ((11, 1, 11), 8), ((11, 1, 11), 9), ((2, 1, 0), 11), ((11, 1, 12), 6), ((11, 1, 12), 7), ((11, 1, 12), 8), ((11, 1, 12), 9), ((2, 1, 0), 12), ((11, 1, 13), 6), ((11, 1, 13), 7), ((11, 1, 13), 8), ((11, 1, 13), 9), ((2, 1, 0), 13), ((11, 1, 14), 6), ((11, 1, 14), 7), ((11, 1, 14), 8), ((11, 1, 14), 9), ((2, 1, 0), 14), ((11, 1, 15), 6), ((11, 1, 15), 7), ((11, 1, 15), 8), ((11, 1, 15), 9), ((2, 1, 0), 15), ((1, 1, 0), 4), ((16, 1, 0), 1), ((16, 1, 0), 2), ((16, 1, 0), 3), ((16, 1, 0), 4), ((3, 1, 0), 0), ((16, 1, 1), 1), ((16, 1, 1), 2), ((16, 1, 1), 3), ((16, 1, 1), 4), ((3, 1, 0), 1), ((16, 1, 2), 1), ((16, 1, 2), 2), ((16, 1, 2), 3), ((16, 1, 2), 4), ((3, 1, 0), 2), ((16, 1, 3), 1), ((16, 1, 3), 2), ((16, 1, 3), 3), ((16, 1, 3), 4), ((3, 1, 0), 3), ((16, 1, 4), 1), ((16, 1, 4), 2), ((16, 1, 4), 3), ((16, 1, 4), 4), ((3, 1, 0), 4), ((16, 1, 5), 1), ((16, 1, 5), 2), ((16, 1, 5), 3), ((16, 1, 5), 4), ((3, 1, 0), 5), ((16, 1, 6), 1), ((16, 1, 6), 2), ((16, 1, 6), 3), ((16, 1, 6), 4), ((3, 1, 0), 6), ((16, 1, 7), 1), ((16, 1, 7), 2), ((16, 1, 7), 3), ((16, 1, 7), 4), ((3, 1, 0), 7), ((4, 1, 0), 2), ((4, 1, 0), 3), ((4, 1, 0), 4), ((4, 1, 0), 5), ((1, 1, 0), 5), ((1, 1, 0), 6), ((1, 1, 0), 7), ((0, 0, 0), 1), ((21, 0, 0), 1), ((21, 0, 0), 3), ((21, 0, 0), 4), ((21, 0, 0), 5), ((0, 0, 0), 3), ((0, 0, 0), 5), ((27, 0, 0), 2), ((27, 0, 0), 3), ((26, 0, 0), 0), ((27, 0, 1), 2), ((27, 0, 1), 3), ((26, 0, 0), 1), ((27, 0, 2), 2), ((27, 0, 2), 3), ((26, 0, 0), 2), ((30, 0, 0), 4), ((30, 0, 0), 5), ((30, 0, 0), 6), ((30, 0, 0), 7), ((30, 0, 0), 8), ((30, 0, 0), 9), ((30, 0, 0), 10), ((30, 0, 0), 11), ((30, 0, 0), 12), ((30, 0, 0), 13), ((30, 0, 0), 15), ((30, 0, 0), 19), ((30, 0, 0), 25), ((30, 0, 0), 28), ((30, 0, 0), 29), ((30, 0, 0), 30), ((30, 0, 0), 31), ((30, 0, 0), 32), ((30, 0, 0), 34)]
def ts_lvt (j : Nat) : List ts_I := ts_ORD.take j
def ts_rft (m : Nat) : ts_I → Nat → Option ts_I := fun i k => if (i, k) ∈ ts_EV.take m then ts_R0 i k else none
def ts_ad (sz : Nat) : ts_I → Nat := fun i => sz + ts_ORD.idxOf i
theorem ts_ord_all : (List.range 298).all (fun j => (ts_ORD[j]?.map (fun i => ts_ORD.idxOf i)) == some j) = true := by decide +kernel
theorem ts_ord_len : ts_ORD.length = 298 := by decide +kernel
theorem ts_ord_ix {j : Nat} {i : ts_I} (h : ts_ORD[j]? = some i) : ts_ORD.idxOf i = j := by
  have hj : j < 298 := by rw [← ts_ord_len]; exact (List.getElem?_eq_some_iff.mp h).1
  have := List.all_eq_true.mp ts_ord_all j (List.mem_range.mpr hj)
  rw [h] at this
  simpa using this
theorem ts_ad_at {sz j : Nat} {i : ts_I} (h : ts_ORD[j]? = some i) : ts_ad sz i = sz + j := by rw [ts_ad, ts_ord_ix h]
theorem ts_lvt_s {j : Nat} {i : ts_I} (h : ts_ORD[j]? = some i) : ts_lvt (j + 1) = ts_lvt j ++ [i] := by
  simp [ts_lvt, List.take_add_one, h]
theorem ts_lvm {i : ts_I} (q : Nat) {j : Nat} (h : ts_ORD[q]? = some i) (hq : q < j) : i ∈ ts_lvt j := by
  refine List.mem_of_getElem? (i := q) ?_
  rw [ts_lvt, List.getElem?_take, if_pos hq]
  exact h
theorem ts_lvn {j : Nat} {i : ts_I} (h : ts_ORD[j]? = some i) : i ∉ ts_lvt j := by
  intro hm
  obtain ⟨q, hq⟩ := List.getElem?_of_mem hm
  rw [ts_lvt, List.getElem?_take] at hq
  split at hq
  · next hlt =>
    have h1 := ts_ord_ix hq
    have h2 := ts_ord_ix h
    omega
  · cases hq
theorem ts_rft_s {m k : Nat} {i i2 : ts_I} (h : ts_EV[m]? = some (i, k)) (h2 : ts_R0 i k = some i2) : ts_sR (ts_rft m) i k (some i2) = ts_rft (m + 1) := by
  funext a n
  unfold ts_sR ts_rft
  rw [List.take_add_one, h, ← h2]
  by_cases h1 : a = i ∧ n = k
  · obtain ⟨rfl, rfl⟩ := h1
    simp
  · rw [if_neg h1]
    have h3 : ¬ (a, n) = (i, k) := fun e => h1 (by simpa using e)
    simp only [Option.toList_some, List.mem_append, List.mem_singleton, h3, or_false]
theorem ts_rfm {i i2 : ts_I} {k : Nat} (q : Nat) {m : Nat} (h : ts_EV[q]? = some (i, k)) (hq : q < m) (h2 : ts_R0 i k = some i2) : ts_rft m i k = some i2 := by
  unfold ts_rft
  rw [if_pos, h2]
  refine List.mem_of_getElem? (i := q) ?_
  rw [List.getElem?_take, if_pos hq]
  exact h
/-- a row of nothing -/
def ts_Z (u : ts_Mem) (i : ts_I) : Prop := ∀ k, u.1 i k = 0 ∧ u.2.1 i k = 0 ∧ u.2.2.1 i k = 0 ∧ u.2.2.2 i k = 0
def ts_ZA (j : Nat) (u : ts_Mem) : Prop := ∀ i, i ∉ ts_lvt j → ts_Z u i
def ts_RA (j m : Nat) : Prop := ∀ i, i ∉ ts_lvt j → ∀ k, ts_rft m i k = none
theorem ts_lvt_mono {j j2 : Nat} (h : j ≤ j2) {i : ts_I} (hi : i ∈ ts_lvt j) : i ∈ ts_lvt j2 := by
  obtain ⟨q, hq⟩ := List.getElem?_of_mem hi
  rw [ts_lvt, List.getElem?_take] at hq
  split at hq
  · next hlt => exact ts_lvm q hq (by omega)
  · cases hq
theorem ts_ZA_m {j j2 : Nat} {u : ts_Mem} (h : ts_ZA j u) (hj : j ≤ j2) : ts_ZA j2 u := fun i hi => h i (fun hm => hi (ts_lvt_mono hj hm))
theorem ts_RA_m {j j2 m : Nat} (h : ts_RA j m) (hj : j ≤ j2) : ts_RA j2 m := fun i hi => h i (fun hm => hi (ts_lvt_mono hj hm))
theorem ts_ZA_w {j k : Nat} {u : ts_Mem} {i : ts_I} {x : Int32} (h : ts_ZA j u) (hi : i ∈ ts_lvt j) : ts_ZA j (ts_sI u i k x) := fun a ha n => by
  have hne : a ≠ i := fun e => ha (e ▸ hi)
  have := h a ha n
  simpa [ts_sI, hne] using this
theorem ts_RA_w {j m k : Nat} {i : ts_I} (h : ts_RA j m) (he : ts_EV[m]? = some (i, k)) (hi : i ∈ ts_lvt j) : ts_RA j (m + 1) := fun a ha n => by
  have hne : a ≠ i := fun e => ha (e ▸ hi)
  have := h a ha n
  unfold ts_rft at this ⊢
  rw [List.take_add_one, he]
  have h3 : ¬ (a, n) = (i, k) := fun e => hne (by have := congrArg Prod.fst e; exact this)
  simp only [Option.toList_some, List.mem_append, List.mem_singleton, h3, or_false]
  exact this
def ts_KA (U : State) : Prop := va_AO RX5 U ∧ va_AO RX1 U ∧ va_AO RX4 U
theorem ts_KA_moved {u U : State} (hvm : u.vm.Alike U.vm) (h : ts_KA u) : ts_KA U := ⟨h.1.moved hvm, h.2.1.moved hvm, h.2.2.moved hvm⟩
theorem ts_df0 : ∀ j, j < 8 → defaultValue (tyX0 j) = (if (ts_fk 0)[j]? = some 1 then .null else .int 0) := by decide +kernel
theorem ts_df1 : ∀ j, j < 5 → defaultValue (tyX1 j) = (if (ts_fk 1)[j]? = some 1 then .null else .int 0) := by decide +kernel
theorem ts_df2 : ∀ j, j < 6 → defaultValue (tyX2 j) = (if (ts_fk 2)[j]? = some 1 then .null else .int 0) := by decide +kernel
theorem ts_df3 : ∀ j, j < 8 → defaultValue (tyX3 j) = (if (ts_fk 3)[j]? = some 1 then .null else .int 0) := by decide +kernel
theorem ts_df4 : ∀ j, j < 4 → defaultValue (tyX4 j) = (if (ts_fk 4)[j]? = some 1 then .null else .int 0) := by decide +kernel
theorem ts_df5 : ∀ j, j < 10 → defaultValue (tyX5 j) = (if (ts_fk 5)[j]? = some 1 then .null else .int 0) := by decide +kernel
theorem ts_df6 : ∀ j, j < 6 → defaultValue (tyX6 j) = (if (ts_fk 6)[j]? = some 1 then .null else .int 0) := by decide +kernel
theorem ts_df7 : ∀ j, j < 37 → defaultValue (tyX7 j) = (if (ts_fk 7)[j]? = some 1 then .null else .int 0) := by decide +kernel
theorem ts_clD {ci : Nat} {q : vw_C} (h : ts_cl[ci]? = some q) : ∃ ty : Nat → FieldType, (∀ k, k < q.2.2 → parseFieldDescriptor (q.2.1 k).2.2.1 = some (ty k)) ∧ (∀ j, j < q.2.2 → defaultValue (ty j) = (if (ts_fk ci)[j]? = some 1 then .null else .int 0)) ∧ q.2.2 = (ts_fk ci).length := by
  match ci, h with
  | 0, h => cases h; exact ⟨_, tyX0_ok, ts_df0, rfl⟩
  | 1, h => cases h; exact ⟨_, tyX1_ok, ts_df1, rfl⟩
  | 2, h => cases h; exact ⟨_, tyX2_ok, ts_df2, rfl⟩
  | 3, h => cases h; exact ⟨_, tyX3_ok, ts_df3, rfl⟩
  | 4, h => cases h; exact ⟨_, tyX4_ok, ts_df4, rfl⟩
  | 5, h => cases h; exact ⟨_, tyX5_ok, ts_df5, rfl⟩
  | 6, h => cases h; exact ⟨_, tyX6_ok, ts_df6, rfl⟩
  | 7, h => cases h; exact ⟨_, tyX7_ok, ts_df7, rfl⟩
  | n + 8, h => simp [ts_cl] at h
/-- what making an object of class ci by entry ix needs -/
def ts_NW (own : String) (ix ci : Nat) : Prop := ∃ q : vw_C, ts_cl[ci]? = some q ∧ Cond.classLink own ix q.1 ∈ ts_ws ∧ Cond.instantiable q.1 q.2.2 ∈ ts_ws ∧ Cond.initialized q.1 ∈ ts_ws
theorem ts_HW_push {D : va_G} {dT : Nat → ClassId} {sz : Nat} {ad : ts_I → Nat} {lv : List ts_I} {rf : ts_I → Nat → Option ts_I} {u : ts_Mem} {i : ts_I} {H H1 : Heap} (hw : ts_HW D dT sz ad (lv, rf, u) H) (hid : ad i = H.size) (hA : sz ≤ ad i) (hk : ∀ q : Nat, q < H.size → H1[q]? = H[q]?)
    (hat : va_at D ts_cl (ad i, ts_cell dT ad rf u i) H1) : ts_HW D dT sz ad (lv ++ [i], rf, u) H1 := by
  have e : ts_wl dT ad (lv ++ [i], rf, u) = ts_wl dT ad (lv, rf, u) ++ [(ad i, ts_cell dT ad rf u i)] := by simp [ts_wl]
  refine ⟨?_, ?_⟩
  · rw [e]
    refine (hw.1.kept (fun k x hx => hk x.1 ((hw.1 k x hx).lt))).app (fun k x hx => ?_)
    have hz : k < 1 := (List.getElem?_eq_some_iff.mp hx).1
    rw [show k = 0 by omega] at hx
    cases hx
    exact hat
  · rw [e]
    exact hw.2.push hw.1 hid hA
section TD
variable {D : va_G} {dT : Nat → ClassId} {sz : Nat} {p : Program} {l : Launch} {e : Env} {R : Room} {s : State} {m : MethodId} {args : Array Value} {below : List Frame} {meth : Method} {c : Code} {nL d : Nat} {Q : State → Prop} {own : String} {cc : ByteArray} {ret : Option FieldType}
variable {j m1 : Nat} {pc : Nat} {L L' : List (Option ts_AV)} {S S0 : List ts_AV} {u u' : ts_Mem} {k n mc ms : Nat}
/-- how large the heap is: the cells made so far lie one behind the other -/
theorem ts_size {T : State} {locs : List Loc} {H : Heap} (X : Stand p l e R s m args below meth c T locs k n) (hT : T.heap = H) (hw : ts_HW D dT sz (ts_ad sz) (ts_lvt j, ts_rft m1, u) H) (hS : va_S (fun q => sz ≤ q) s.heap H locs) (h0 : sz ≤ s.heap.size) (hsz : s.heap.size + k = sz + j) (hj : j ≤ 298) : H.size = sz + j := by
  have h1 : T.heap.size ≤ s.heap.size + k := X.heapSize
  rw [hT] at h1
  have h2 := hS.1
  by_cases hj0 : j = 0
  · omega
  · obtain ⟨i, hi⟩ : ∃ i, ts_ORD[j - 1]? = some i := ⟨_, List.getElem?_eq_getElem (by rw [ts_ord_len]; omega)⟩
    obtain ⟨q, hq, hqw⟩ := ts_wl_at (dT := dT) (ad := ts_ad sz) (hp := (ts_lvt j, ts_rft m1, u)) (ts_lvm (j - 1) hi (by omega) : i ∈ ts_lvt j)
    have h3 := vx_lt hw.1 hqw
    have h4 : ts_ad sz i < H.size := h3
    rw [ts_ad_at hi] at h4
    omega
theorem tv_objInit (C : ts_CX D dT sz p l R s m args meth c own cc nL ret d) {ix : Nat} {i : ts_I} {ad : ts_I → Nat} {lv : List ts_I} {rf : ts_I → Nat → Option ts_I} (hd : decode cc pc = .ok (.invokespecial ix, 3)) (F : Cond.methodLink own ix Lib.objectInit ∈ ts_ws) (G : Cond.instanceMethod Lib.objectInit ∈ ts_ws ∧ Cond.code Lib.objectInit ⟨#[0xb1]⟩ 1 none ∈ ts_ws) (hrest : ∀ ad : ts_I → Nat, (S.map fun v => (ts_cv ad v).category).sum ≤ 8)
    (K : ts_V D dT sz p l e R s m args below meth c nL Q ad lv rf (pc + 3) L S u k n) : ts_V D dT sz p l e R s m args below meth c nL Q ad lv rf pc L (.inr i :: S) u k n := by
  intro ls H locs hl hw hS
  have h1 := C.2.2.2.2.2.2.2.2.1
  have h2 := C.2.2.2.2.2.2.2.2.2.1
  have h3 := ts_rest (hrest ad)
  exact W.objInit C.1 C.2.1 C.2.2.2.1 (C.2.2.2.2.1 _ F) (C.2.2.2.2.1 _ G.1) (C.2.2.2.2.1 _ G.2) rfl (hl.1.trans C.2.2.1.symm) rfl hd (by omega) (by show 2 * 0 + _ + 12 ≤ _; omega) (K ls H locs hl hw hS)
theorem tv_new (C : ts_CX D dT sz p l R s m args meth c own cc nL ret d) {ix ci N : Nat} {i : ts_I} (hd : decode cc pc = .ok (.new ix, 3)) (F : ts_NW own ix ci) (hN : (ts_fk ci).length = N) (hj : ts_ORD[j]? = some i) (hs : ts_shp i = .inl ci) (h0 : sz ≤ s.heap.size) (hsz : s.heap.size + k = sz + j) (hz : ts_ZA j u) (hr : ts_RA j m1) (hk : k + 1 ≤ R.cells ∧ n + N ≤ R.slots)
    (K : ts_V D dT sz p l e R s m args below meth c nL Q (ts_ad sz) (ts_lvt (j + 1)) (ts_rft m1) (pc + 3) L (.inr i :: S) u (k + 1) (n + N)) : ts_V D dT sz p l e R s m args below meth c nL Q (ts_ad sz) (ts_lvt j) (ts_rft m1) pc L S u k n := by
  intro ls H locs hl hw hS T hT X
  have hj9 : j ≤ 298 := by have := (List.getElem?_eq_some_iff.mp hj).1; rw [ts_ord_len] at this; omega
  have hH := ts_size X hT hw hS h0 hsz hj9
  obtain ⟨⟨Cn, T0, N0⟩, f1, f2, f3, f4⟩ := F
  obtain ⟨ty, g1, g2, g3⟩ := ts_clD f1
  dsimp only at g1 g2 g3 f2 f3 f4
  have hN0 : N0 = N := by rw [g3, hN]
  subst hN0
  have hKn := C.2.2.2.2.2.2.2.1.1.1 ci _ f1
  refine W.newcK C.1 C.2.1 C.2.2.2.1 (C.2.2.2.2.1 _ f2) (C.2.2.2.2.1 _ f3) (C.2.2.2.2.1 _ f4) (g := F0 m pc ls (S.map (ts_cv (ts_ad sz)))) rfl hd hk.1 hk.2 hKn.2.1 rfl (fun H1 kC hkC e1 z1 o1 => ?_) T hT X
  have hid : ts_ad sz i = H.size := by rw [ts_ad_at hj, hH]
  have hat : va_at D ts_cl (ts_ad sz i, ts_cell dT (ts_ad sz) (ts_rft m1) u i) H1 := by
    rw [ts_cell_o hs, hid]
    refine ⟨_, f1, (u_born ty C.2.2.2.2.1 (ts_clf f1).1 hKn hkC e1 g1).to (fun a ha => ?_)⟩
    have ha2 : a < (ts_fk ci).length := by rw [← g3]; exact ha
    rw [g2 a ha]
    unfold vp_V
    rw [List.getD_eq_getElem?_getD, ts_fs_at (List.getElem?_eq_getElem ha2), List.getElem?_eq_getElem ha2]
    by_cases h1 : (ts_fk ci)[a] = 1
    · simp [h1, hr i (ts_lvn hj) a, va_rf]
    · simp [h1, (hz i (ts_lvn hj) a).1]
  have hw1 := ts_HW_push hw hid (by rw [hid, hH]; omega) o1 hat
  rw [← ts_lvt_s hj] at hw1
  have := K ls H1 locs hl hw1 ⟨by rw [z1]; exact Nat.le_trans hS.1 (Nat.le_succ _), fun q h1 h2 => (o1 q (Nat.lt_of_lt_of_le h1 hS.1)).trans (hS.2.1 q h1 h2), hS.2.2⟩
  rw [← hid]
  exact this
theorem tv_newa0 (C : ts_CX D dT sz p l R s m args meth c own cc nL ret d) {N : Nat} {z : Int32} {i : ts_I} (hd : decode cc pc = .ok (.newarray .int, 2)) (F : Cond.arrayClass (ts_ty 0) ∈ ts_ws) (hN : z.toNatClampNeg = N) (hn0 : ¬ z < 0) (hby : N * componentBytes (ts_ty 0) ≤ 536870912) (hj : ts_ORD[j]? = some i) (hs : ts_shp i = .inr (0, N)) (h0 : sz ≤ s.heap.size) (hsz : s.heap.size + k = sz + j) (hz : ts_ZA j u) (hk : k + 1 ≤ R.cells ∧ n + N ≤ R.slots)
    (K : ts_V D dT sz p l e R s m args below meth c nL Q (ts_ad sz) (ts_lvt (j + 1)) (ts_rft m1) (pc + 2) L (.inr i :: S) u (k + 1) (n + N)) : ts_V D dT sz p l e R s m args below meth c nL Q (ts_ad sz) (ts_lvt j) (ts_rft m1) pc L (.inl (.int z) :: S) u k n := by
  intro ls H locs hl hw hS T hT X
  have hj9 : j ≤ 298 := by have := (List.getElem?_eq_some_iff.mp hj).1; rw [ts_ord_len] at this; omega
  have hH := ts_size X hT hw hS h0 hsz hj9
  refine va_newaK (atype := .int) C.1 C.2.1 (C.2.2.2.2.1 _ F) (g := F0 m pc ls ((.inl (.int z) :: S : List ts_AV).map (ts_cv (ts_ad sz)))) rfl hd rfl hn0 hN hby hk.1 hk.2 rfl (fun H1 cA e1 z1 o1 hAr hNm => ?_) T hT X
  have hid : ts_ad sz i = H.size := by rw [ts_ad_at hj, hH]
  have hcA : dT 0 = cA := Option.some.inj (((C.2.2.2.2.2.2.2.1.1.2 0 _ (ts_tys_at dT (t := 0) (by decide))).2 : s.vm.findClass ("[" ++ (ts_ty 0).toString) = some (dT 0)).symm.trans hNm)
  have hat : va_at D ts_cl (ts_ad sz i, ts_cell dT (ts_ad sz) (ts_rft m1) u i) H1 := by
    rw [ts_cell_a hs, hid, hcA]
    show H1[H.size]? = some (vp_cell cA (N, ts_arr (ts_ad sz) (ts_rft m1) u i 0))
    rw [e1]
    congr 1
    simp only [ts_arr, vp_cell]
    congr 1
    funext a
    have := (hz i (ts_lvn hj) a).1
    simp [this, defaultValue, newarray.typeOf]
  have hw1 := ts_HW_push hw hid (by rw [hid, hH]; omega) o1 hat
  rw [← ts_lvt_s hj] at hw1
  have := K ls H1 locs hl hw1 ⟨by rw [z1]; exact Nat.le_trans hS.1 (Nat.le_succ _), fun q h1 h2 => (o1 q (Nat.lt_of_lt_of_le h1 hS.1)).trans (hS.2.1 q h1 h2), hS.2.2⟩
  rw [← hid]
  exact this
theorem tv_newa1 (C : ts_CX D dT sz p l R s m args meth c own cc nL ret d) {N : Nat} {z : Int32} {i : ts_I} (hd : decode cc pc = .ok (.newarray .char, 2)) (F : Cond.arrayClass (ts_ty 1) ∈ ts_ws) (hN : z.toNatClampNeg = N) (hn0 : ¬ z < 0) (hby : N * componentBytes (ts_ty 1) ≤ 536870912) (hj : ts_ORD[j]? = some i) (hs : ts_shp i = .inr (1, N)) (h0 : sz ≤ s.heap.size) (hsz : s.heap.size + k = sz + j) (hz : ts_ZA j u) (hk : k + 1 ≤ R.cells ∧ n + N ≤ R.slots)
    (K : ts_V D dT sz p l e R s m args below meth c nL Q (ts_ad sz) (ts_lvt (j + 1)) (ts_rft m1) (pc + 2) L (.inr i :: S) u (k + 1) (n + N)) : ts_V D dT sz p l e R s m args below meth c nL Q (ts_ad sz) (ts_lvt j) (ts_rft m1) pc L (.inl (.int z) :: S) u k n := by
  intro ls H locs hl hw hS T hT X
  have hj9 : j ≤ 298 := by have := (List.getElem?_eq_some_iff.mp hj).1; rw [ts_ord_len] at this; omega
  have hH := ts_size X hT hw hS h0 hsz hj9
  refine va_newaK (atype := .char) C.1 C.2.1 (C.2.2.2.2.1 _ F) (g := F0 m pc ls ((.inl (.int z) :: S : List ts_AV).map (ts_cv (ts_ad sz)))) rfl hd rfl hn0 hN hby hk.1 hk.2 rfl (fun H1 cA e1 z1 o1 hAr hNm => ?_) T hT X
  have hid : ts_ad sz i = H.size := by rw [ts_ad_at hj, hH]
  have hcA : dT 1 = cA := Option.some.inj (((C.2.2.2.2.2.2.2.1.1.2 1 _ (ts_tys_at dT (t := 1) (by decide))).2 : s.vm.findClass ("[" ++ (ts_ty 1).toString) = some (dT 1)).symm.trans hNm)
  have hat : va_at D ts_cl (ts_ad sz i, ts_cell dT (ts_ad sz) (ts_rft m1) u i) H1 := by
    rw [ts_cell_a hs, hid, hcA]
    show H1[H.size]? = some (vp_cell cA (N, ts_arr (ts_ad sz) (ts_rft m1) u i 1))
    rw [e1]
    congr 1
    simp only [ts_arr, vp_cell]
    congr 1
    funext a
    have := (hz i (ts_lvn hj) a).1
    simp [this, defaultValue, newarray.typeOf]
  have hw1 := ts_HW_push hw hid (by rw [hid, hH]; omega) o1 hat
  rw [← ts_lvt_s hj] at hw1
  have := K ls H1 locs hl hw1 ⟨by rw [z1]; exact Nat.le_trans hS.1 (Nat.le_succ _), fun q h1 h2 => (o1 q (Nat.lt_of_lt_of_le h1 hS.1)).trans (hS.2.1 q h1 h2), hS.2.2⟩
  rw [← hid]
  exact this
theorem tv_newa2 (C : ts_CX D dT sz p l R s m args meth c own cc nL ret d) {N : Nat} {z : Int32} {i : ts_I} (hd : decode cc pc = .ok (.newarray .float, 2)) (F : Cond.arrayClass (ts_ty 2) ∈ ts_ws) (hN : z.toNatClampNeg = N) (hn0 : ¬ z < 0) (hby : N * componentBytes (ts_ty 2) ≤ 536870912) (hj : ts_ORD[j]? = some i) (hs : ts_shp i = .inr (2, N)) (h0 : sz ≤ s.heap.size) (hsz : s.heap.size + k = sz + j) (hz : ts_ZA j u) (hk : k + 1 ≤ R.cells ∧ n + N ≤ R.slots)
    (K : ts_V D dT sz p l e R s m args below meth c nL Q (ts_ad sz) (ts_lvt (j + 1)) (ts_rft m1) (pc + 2) L (.inr i :: S) u (k + 1) (n + N)) : ts_V D dT sz p l e R s m args below meth c nL Q (ts_ad sz) (ts_lvt j) (ts_rft m1) pc L (.inl (.int z) :: S) u k n := by
  intro ls H locs hl hw hS T hT X
  have hj9 : j ≤ 298 := by have := (List.getElem?_eq_some_iff.mp hj).1; rw [ts_ord_len] at this; omega
  have hH := ts_size X hT hw hS h0 hsz hj9
  refine va_newaK (atype := .float) C.1 C.2.1 (C.2.2.2.2.1 _ F) (g := F0 m pc ls ((.inl (.int z) :: S : List ts_AV).map (ts_cv (ts_ad sz)))) rfl hd rfl hn0 hN hby hk.1 hk.2 rfl (fun H1 cA e1 z1 o1 hAr hNm => ?_) T hT X
  have hid : ts_ad sz i = H.size := by rw [ts_ad_at hj, hH]
  have hcA : dT 2 = cA := Option.some.inj (((C.2.2.2.2.2.2.2.1.1.2 2 _ (ts_tys_at dT (t := 2) (by decide))).2 : s.vm.findClass ("[" ++ (ts_ty 2).toString) = some (dT 2)).symm.trans hNm)
  have hat : va_at D ts_cl (ts_ad sz i, ts_cell dT (ts_ad sz) (ts_rft m1) u i) H1 := by
    rw [ts_cell_a hs, hid, hcA]
    show H1[H.size]? = some (vp_cell cA (N, ts_arr (ts_ad sz) (ts_rft m1) u i 2))
    rw [e1]
    congr 1
    simp only [ts_arr, vp_cell]
    congr 1
    funext a
    have := (hz i (ts_lvn hj) a).2.1
    simp [this, defaultValue, newarray.typeOf]
  have hw1 := ts_HW_push hw hid (by rw [hid, hH]; omega) o1 hat
  rw [← ts_lvt_s hj] at hw1
  have := K ls H1 locs hl hw1 ⟨by rw [z1]; exact Nat.le_trans hS.1 (Nat.le_succ _), fun q h1 h2 => (o1 q (Nat.lt_of_lt_of_le h1 hS.1)).trans (hS.2.1 q h1 h2), hS.2.2⟩
  rw [← hid]
  exact this
theorem tv_newa3 (C : ts_CX D dT sz p l R s m args meth c own cc nL ret d) {N : Nat} {z : Int32} {i : ts_I} (hd : decode cc pc = .ok (.newarray .long, 2)) (F : Cond.arrayClass (ts_ty 3) ∈ ts_ws) (hN : z.toNatClampNeg = N) (hn0 : ¬ z < 0) (hby : N * componentBytes (ts_ty 3) ≤ 536870912) (hj : ts_ORD[j]? = some i) (hs : ts_shp i = .inr (3, N)) (h0 : sz ≤ s.heap.size) (hsz : s.heap.size + k = sz + j) (hz : ts_ZA j u) (hk : k + 1 ≤ R.cells ∧ n + N ≤ R.slots)
    (K : ts_V D dT sz p l e R s m args below meth c nL Q (ts_ad sz) (ts_lvt (j + 1)) (ts_rft m1) (pc + 2) L (.inr i :: S) u (k + 1) (n + N)) : ts_V D dT sz p l e R s m args below meth c nL Q (ts_ad sz) (ts_lvt j) (ts_rft m1) pc L (.inl (.int z) :: S) u k n := by
  intro ls H locs hl hw hS T hT X
  have hj9 : j ≤ 298 := by have := (List.getElem?_eq_some_iff.mp hj).1; rw [ts_ord_len] at this; omega
  have hH := ts_size X hT hw hS h0 hsz hj9
  refine va_newaK (atype := .long) C.1 C.2.1 (C.2.2.2.2.1 _ F) (g := F0 m pc ls ((.inl (.int z) :: S : List ts_AV).map (ts_cv (ts_ad sz)))) rfl hd rfl hn0 hN hby hk.1 hk.2 rfl (fun H1 cA e1 z1 o1 hAr hNm => ?_) T hT X
  have hid : ts_ad sz i = H.size := by rw [ts_ad_at hj, hH]
  have hcA : dT 3 = cA := Option.some.inj (((C.2.2.2.2.2.2.2.1.1.2 3 _ (ts_tys_at dT (t := 3) (by decide))).2 : s.vm.findClass ("[" ++ (ts_ty 3).toString) = some (dT 3)).symm.trans hNm)
  have hat : va_at D ts_cl (ts_ad sz i, ts_cell dT (ts_ad sz) (ts_rft m1) u i) H1 := by
    rw [ts_cell_a hs, hid, hcA]
    show H1[H.size]? = some (vp_cell cA (N, ts_arr (ts_ad sz) (ts_rft m1) u i 3))
    rw [e1]
    congr 1
    simp only [ts_arr, vp_cell]
    congr 1
    funext a
    have := (hz i (ts_lvn hj) a).2.2.1
    simp [this, defaultValue, newarray.typeOf]
  have hw1 := ts_HW_push hw hid (by rw [hid, hH]; omega) o1 hat
  rw [← ts_lvt_s hj] at hw1
  have := K ls H1 locs hl hw1 ⟨by rw [z1]; exact Nat.le_trans hS.1 (Nat.le_succ _), fun q h1 h2 => (o1 q (Nat.lt_of_lt_of_le h1 hS.1)).trans (hS.2.1 q h1 h2), hS.2.2⟩
  rw [← hid]
  exact this
theorem tv_newa4 (C : ts_CX D dT sz p l R s m args meth c own cc nL ret d) {N : Nat} {z : Int32} {i : ts_I} (hd : decode cc pc = .ok (.newarray .double, 2)) (F : Cond.arrayClass (ts_ty 4) ∈ ts_ws) (hN : z.toNatClampNeg = N) (hn0 : ¬ z < 0) (hby : N * componentBytes (ts_ty 4) ≤ 536870912) (hj : ts_ORD[j]? = some i) (hs : ts_shp i = .inr (4, N)) (h0 : sz ≤ s.heap.size) (hsz : s.heap.size + k = sz + j) (hz : ts_ZA j u) (hk : k + 1 ≤ R.cells ∧ n + N ≤ R.slots)
    (K : ts_V D dT sz p l e R s m args below meth c nL Q (ts_ad sz) (ts_lvt (j + 1)) (ts_rft m1) (pc + 2) L (.inr i :: S) u (k + 1) (n + N)) : ts_V D dT sz p l e R s m args below meth c nL Q (ts_ad sz) (ts_lvt j) (ts_rft m1) pc L (.inl (.int z) :: S) u k n := by
  intro ls H locs hl hw hS T hT X
  have hj9 : j ≤ 298 := by have := (List.getElem?_eq_some_iff.mp hj).1; rw [ts_ord_len] at this; omega
  have hH := ts_size X hT hw hS h0 hsz hj9
  refine va_newaK (atype := .double) C.1 C.2.1 (C.2.2.2.2.1 _ F) (g := F0 m pc ls ((.inl (.int z) :: S : List ts_AV).map (ts_cv (ts_ad sz)))) rfl hd rfl hn0 hN hby hk.1 hk.2 rfl (fun H1 cA e1 z1 o1 hAr hNm => ?_) T hT X
  have hid : ts_ad sz i = H.size := by rw [ts_ad_at hj, hH]
  have hcA : dT 4 = cA := Option.some.inj (((C.2.2.2.2.2.2.2.1.1.2 4 _ (ts_tys_at dT (t := 4) (by decide))).2 : s.vm.findClass ("[" ++ (ts_ty 4).toString) = some (dT 4)).symm.trans hNm)
  have hat : va_at D ts_cl (ts_ad sz i, ts_cell dT (ts_ad sz) (ts_rft m1) u i) H1 := by
    rw [ts_cell_a hs, hid, hcA]
    show H1[H.size]? = some (vp_cell cA (N, ts_arr (ts_ad sz) (ts_rft m1) u i 4))
    rw [e1]
    congr 1
    simp only [ts_arr, vp_cell]
    congr 1
    funext a
    have := (hz i (ts_lvn hj) a).2.2.2
    simp [this, defaultValue, newarray.typeOf]
  have hw1 := ts_HW_push hw hid (by rw [hid, hH]; omega) o1 hat
  rw [← ts_lvt_s hj] at hw1
  have := K ls H1 locs hl hw1 ⟨by rw [z1]; exact Nat.le_trans hS.1 (Nat.le_succ _), fun q h1 h2 => (o1 q (Nat.lt_of_lt_of_le h1 hS.1)).trans (hS.2.1 q h1 h2), hS.2.2⟩
  rw [← hid]
  exact this
theorem tv_anewa5 (C : ts_CX D dT sz p l R s m args meth c own cc nL ret d) (KA : ts_KA s) {ix N : Nat} {z : Int32} {i : ts_I} (hd : decode cc pc = .ok (.anewarray ix, 3)) (F : Cond.classLink own ix RX5 ∈ ts_ws) (hN : z.toNatClampNeg = N) (hn0 : ¬ z < 0) (hby : N * 4 ≤ 536870912) (hj : ts_ORD[j]? = some i) (hs : ts_shp i = .inr (5, N)) (h0 : sz ≤ s.heap.size) (hsz : s.heap.size + k = sz + j) (hr : ts_RA j m1) (hk : k + 1 ≤ R.cells ∧ n + N ≤ R.slots)
    (K : ts_V D dT sz p l e R s m args below meth c nL Q (ts_ad sz) (ts_lvt (j + 1)) (ts_rft m1) (pc + 3) L (.inr i :: S) u (k + 1) (n + N)) : ts_V D dT sz p l e R s m args below meth c nL Q (ts_ad sz) (ts_lvt j) (ts_rft m1) pc L (.inl (.int z) :: S) u k n := by
  intro ls H locs hl hw hS T hT X
  have hj9 : j ≤ 298 := by have := (List.getElem?_eq_some_iff.mp hj).1; rw [ts_ord_len] at this; omega
  have hH := ts_size X hT hw hS h0 hsz hj9
  subst hN
  refine W.anew C.1 C.2.1 C.2.2.2.1 (C.2.2.2.2.1 _ F) (va_AO.use KA.1) (g := F0 m pc ls ((.inl (.int z) :: S : List ts_AV).map (ts_cv (ts_ad sz)))) rfl hd rfl hn0 hby hk.1 hk.2 (fun cA kA comp f1 f2 f3 f4 => ?_) T hT X
  generalize hH1 : H.push ({ cls := cA, slots := Array.replicate z.toNatClampNeg .null, vm := .none } : Cell) = H1
  have e1 : H1[H.size]? = some (arrV cA z.toNatClampNeg (fun _ => .null)) := by
    rw [← hH1]
    simp only [Array.getElem?_push, if_true]
    congr 1
    simp only [arrV]
    congr 1
    apply Array.ext
    · simp
    · intro a h1 h2
      simp
  have z1 : H1.size = H.size + 1 := by rw [← hH1]; simp
  have o1 : ∀ q : Nat, q < H.size → H1[q]? = H[q]? := fun q hq => by rw [← hH1, Array.getElem?_push, if_neg (Nat.ne_of_lt hq)]
  have hid : ts_ad sz i = H.size := by rw [ts_ad_at hj, hH]
  have hcA : dT 5 = cA := by
    obtain ⟨kA2, comp2, k1, k2, k3, k4⟩ := (C.2.2.2.2.2.2.2.1.1.2 5 _ (ts_tys_at dT (t := 5) (by decide))).2
    exact Option.some.inj (k4.symm.trans f1)
  have hat : va_at D ts_cl (ts_ad sz i, ts_cell dT (ts_ad sz) (ts_rft m1) u i) H1 := by
    rw [ts_cell_a hs, hid, hcA]
    show H1[H.size]? = some (vp_cell cA (z.toNatClampNeg, ts_arr (ts_ad sz) (ts_rft m1) u i 5))
    rw [e1]
    congr 1
    simp only [ts_arr, vp_cell]
    congr 1
    funext a
    have := hr i (ts_lvn hj) a
    simp [this, va_rf]
  have hw1 := ts_HW_push hw hid (by rw [hid, hH]; omega) o1 hat
  rw [← ts_lvt_s hj] at hw1
  have := K ls H1 locs hl hw1 ⟨by rw [z1]; exact Nat.le_trans hS.1 (Nat.le_succ _), fun q h1 h2 => (o1 q (Nat.lt_of_lt_of_le h1 hS.1)).trans (hS.2.1 q h1 h2), hS.2.2⟩
  rw [← hid]
  exact this
theorem tv_aast5 (C : ts_CX D dT sz p l R s m args meth c own cc nL ret d) {N a : Nat} {x : Int32} {i i2 : ts_I} {ci : Nat} {q2 : vw_C} (hd : decode cc pc = .ok (.aastore, 1)) (hi : i ∈ ts_lvt j) (hs : ts_shp i = .inr (5, N)) (hx : ts_inr x N) (hxa : x.toNatClampNeg = a) (hi2 : i2 ∈ ts_lvt j) (hs2 : ts_shp i2 = .inl ci) (hcl : ts_cl[ci]? = some q2) (hq2 : q2.1 = RX5) (he : ts_EV[m1]? = some (i, a)) (hR : ts_R0 i a = some i2)
    (K : ts_V D dT sz p l e R s m args below meth c nL Q (ts_ad sz) (ts_lvt j) (ts_rft (m1 + 1)) (pc + 1) L S u k n) : ts_V D dT sz p l e R s m args below meth c nL Q (ts_ad sz) (ts_lvt j) (ts_rft m1) pc L (.inr i2 :: .inl (.int x) :: .inr i :: S) u k n := by
  subst hxa
  intro ls H locs hl hw hS
  obtain ⟨q, hq, hqw⟩ := ts_at_a (dT := dT) (ad := ts_ad sz) (rf := ts_rft m1) (u := u) hi hs
  obtain ⟨q3, hq3, hqw3⟩ := ts_at_o (dT := dT) (ad := ts_ad sz) (rf := ts_rft m1) (u := u) hi2 hs2
  refine va_astq (r := q2) C.1 C.2.1 C.2.2.2.2.2.2.2.1.1 hw.1 hw.2 hS q 5 q3 ci hqw (by rw [hq2]; exact ts_tys_at dT (t := 5) (by decide)) hqw3 hcl hx hd (fun H1 locs1 hP1 hD1 hS1 => ?_)
  refine K ls H1 locs1 hl (ts_HW_set hw hq (rf' := ts_rft (m1 + 1)) ?_ (fun i3 h => ?_) hP1 hD1) hS1
  · rw [ts_cell_a hs, ← ts_rft_s he hR]
    show Sum.inl (dT 5, N, Sum.inr (Sum.inr (Sum.inr (Sum.inr (fun b => (ts_sR (ts_rft m1) i x.toNatClampNeg (some i2) i b).map (ts_ad sz)))))) = _
    congr 7
    funext b
    by_cases hb : b = x.toNatClampNeg
    · subst hb; simp [ts_sR, va_up]
    · simp [ts_sR, va_up, hb]
  · rw [← ts_rft_s he hR]
    exact ts_cell_ne (fun n => by simp [ts_sR, h]) (fun _ => rfl) (fun _ => rfl) (fun _ => rfl) (fun _ => rfl)
theorem tv_anewa6 (C : ts_CX D dT sz p l R s m args meth c own cc nL ret d) (KA : ts_KA s) {ix N : Nat} {z : Int32} {i : ts_I} (hd : decode cc pc = .ok (.anewarray ix, 3)) (F : Cond.classLink own ix RX1 ∈ ts_ws) (hN : z.toNatClampNeg = N) (hn0 : ¬ z < 0) (hby : N * 4 ≤ 536870912) (hj : ts_ORD[j]? = some i) (hs : ts_shp i = .inr (6, N)) (h0 : sz ≤ s.heap.size) (hsz : s.heap.size + k = sz + j) (hr : ts_RA j m1) (hk : k + 1 ≤ R.cells ∧ n + N ≤ R.slots)
    (K : ts_V D dT sz p l e R s m args below meth c nL Q (ts_ad sz) (ts_lvt (j + 1)) (ts_rft m1) (pc + 3) L (.inr i :: S) u (k + 1) (n + N)) : ts_V D dT sz p l e R s m args below meth c nL Q (ts_ad sz) (ts_lvt j) (ts_rft m1) pc L (.inl (.int z) :: S) u k n := by
  intro ls H locs hl hw hS T hT X
  have hj9 : j ≤ 298 := by have := (List.getElem?_eq_some_iff.mp hj).1; rw [ts_ord_len] at this; omega
  have hH := ts_size X hT hw hS h0 hsz hj9
  subst hN
  refine W.anew C.1 C.2.1 C.2.2.2.1 (C.2.2.2.2.1 _ F) (va_AO.use KA.2.1) (g := F0 m pc ls ((.inl (.int z) :: S : List ts_AV).map (ts_cv (ts_ad sz)))) rfl hd rfl hn0 hby hk.1 hk.2 (fun cA kA comp f1 f2 f3 f4 => ?_) T hT X
  generalize hH1 : H.push ({ cls := cA, slots := Array.replicate z.toNatClampNeg .null, vm := .none } : Cell) = H1
  have e1 : H1[H.size]? = some (arrV cA z.toNatClampNeg (fun _ => .null)) := by
    rw [← hH1]
    simp only [Array.getElem?_push, if_true]
    congr 1
    simp only [arrV]
    congr 1
    apply Array.ext
    · simp
    · intro a h1 h2
      simp
  have z1 : H1.size = H.size + 1 := by rw [← hH1]; simp
  have o1 : ∀ q : Nat, q < H.size → H1[q]? = H[q]? := fun q hq => by rw [← hH1, Array.getElem?_push, if_neg (Nat.ne_of_lt hq)]
  have hid : ts_ad sz i = H.size := by rw [ts_ad_at hj, hH]
  have hcA : dT 6 = cA := by
    obtain ⟨kA2, comp2, k1, k2, k3, k4⟩ := (C.2.2.2.2.2.2.2.1.1.2 6 _ (ts_tys_at dT (t := 6) (by decide))).2
    exact Option.some.inj (k4.symm.trans f1)
  have hat : va_at D ts_cl (ts_ad sz i, ts_cell dT (ts_ad sz) (ts_rft m1) u i) H1 := by
    rw [ts_cell_a hs, hid, hcA]
    show H1[H.size]? = some (vp_cell cA (z.toNatClampNeg, ts_arr (ts_ad sz) (ts_rft m1) u i 6))
    rw [e1]
    congr 1
    simp only [ts_arr, vp_cell]
    congr 1
    funext a
    have := hr i (ts_lvn hj) a
    simp [this, va_rf]
  have hw1 := ts_HW_push hw hid (by rw [hid, hH]; omega) o1 hat
  rw [← ts_lvt_s hj] at hw1
  have := K ls H1 locs hl hw1 ⟨by rw [z1]; exact Nat.le_trans hS.1 (Nat.le_succ _), fun q h1 h2 => (o1 q (Nat.lt_of_lt_of_le h1 hS.1)).trans (hS.2.1 q h1 h2), hS.2.2⟩
  rw [← hid]
  exact this
theorem tv_aast6 (C : ts_CX D dT sz p l R s m args meth c own cc nL ret d) {N a : Nat} {x : Int32} {i i2 : ts_I} {ci : Nat} {q2 : vw_C} (hd : decode cc pc = .ok (.aastore, 1)) (hi : i ∈ ts_lvt j) (hs : ts_shp i = .inr (6, N)) (hx : ts_inr x N) (hxa : x.toNatClampNeg = a) (hi2 : i2 ∈ ts_lvt j) (hs2 : ts_shp i2 = .inl ci) (hcl : ts_cl[ci]? = some q2) (hq2 : q2.1 = RX1) (he : ts_EV[m1]? = some (i, a)) (hR : ts_R0 i a = some i2)
    (K : ts_V D dT sz p l e R s m args below meth c nL Q (ts_ad sz) (ts_lvt j) (ts_rft (m1 + 1)) (pc + 1) L S u k n) : ts_V D dT sz p l e R s m args below meth c nL Q (ts_ad sz) (ts_lvt j) (ts_rft m1) pc L (.inr i2 :: .inl (.int x) :: .inr i :: S) u k n := by
  subst hxa
  intro ls H locs hl hw hS
  obtain ⟨q, hq, hqw⟩ := ts_at_a (dT := dT) (ad := ts_ad sz) (rf := ts_rft m1) (u := u) hi hs
  obtain ⟨q3, hq3, hqw3⟩ := ts_at_o (dT := dT) (ad := ts_ad sz) (rf := ts_rft m1) (u := u) hi2 hs2
  refine va_astq (r := q2) C.1 C.2.1 C.2.2.2.2.2.2.2.1.1 hw.1 hw.2 hS q 6 q3 ci hqw (by rw [hq2]; exact ts_tys_at dT (t := 6) (by decide)) hqw3 hcl hx hd (fun H1 locs1 hP1 hD1 hS1 => ?_)
  refine K ls H1 locs1 hl (ts_HW_set hw hq (rf' := ts_rft (m1 + 1)) ?_ (fun i3 h => ?_) hP1 hD1) hS1
  · rw [ts_cell_a hs, ← ts_rft_s he hR]
    show Sum.inl (dT 6, N, Sum.inr (Sum.inr (Sum.inr (Sum.inr (fun b => (ts_sR (ts_rft m1) i x.toNatClampNeg (some i2) i b).map (ts_ad sz)))))) = _
    congr 7
    funext b
    by_cases hb : b = x.toNatClampNeg
    · subst hb; simp [ts_sR, va_up]
    · simp [ts_sR, va_up, hb]
  · rw [← ts_rft_s he hR]
    exact ts_cell_ne (fun n => by simp [ts_sR, h]) (fun _ => rfl) (fun _ => rfl) (fun _ => rfl) (fun _ => rfl)
theorem tv_anewa7 (C : ts_CX D dT sz p l R s m args meth c own cc nL ret d) (KA : ts_KA s) {ix N : Nat} {z : Int32} {i : ts_I} (hd : decode cc pc = .ok (.anewarray ix, 3)) (F : Cond.classLink own ix RX4 ∈ ts_ws) (hN : z.toNatClampNeg = N) (hn0 : ¬ z < 0) (hby : N * 4 ≤ 536870912) (hj : ts_ORD[j]? = some i) (hs : ts_shp i = .inr (7, N)) (h0 : sz ≤ s.heap.size) (hsz : s.heap.size + k = sz + j) (hr : ts_RA j m1) (hk : k + 1 ≤ R.cells ∧ n + N ≤ R.slots)
    (K : ts_V D dT sz p l e R s m args below meth c nL Q (ts_ad sz) (ts_lvt (j + 1)) (ts_rft m1) (pc + 3) L (.inr i :: S) u (k + 1) (n + N)) : ts_V D dT sz p l e R s m args below meth c nL Q (ts_ad sz) (ts_lvt j) (ts_rft m1) pc L (.inl (.int z) :: S) u k n := by
  intro ls H locs hl hw hS T hT X
  have hj9 : j ≤ 298 := by have := (List.getElem?_eq_some_iff.mp hj).1; rw [ts_ord_len] at this; omega
  have hH := ts_size X hT hw hS h0 hsz hj9
  subst hN
  refine W.anew C.1 C.2.1 C.2.2.2.1 (C.2.2.2.2.1 _ F) (va_AO.use KA.2.2) (g := F0 m pc ls ((.inl (.int z) :: S : List ts_AV).map (ts_cv (ts_ad sz)))) rfl hd rfl hn0 hby hk.1 hk.2 (fun cA kA comp f1 f2 f3 f4 => ?_) T hT X
  generalize hH1 : H.push ({ cls := cA, slots := Array.replicate z.toNatClampNeg .null, vm := .none } : Cell) = H1
  have e1 : H1[H.size]? = some (arrV cA z.toNatClampNeg (fun _ => .null)) := by
    rw [← hH1]
    simp only [Array.getElem?_push, if_true]
    congr 1
    simp only [arrV]
    congr 1
    apply Array.ext
    · simp
    · intro a h1 h2
      simp
  have z1 : H1.size = H.size + 1 := by rw [← hH1]; simp
  have o1 : ∀ q : Nat, q < H.size → H1[q]? = H[q]? := fun q hq => by rw [← hH1, Array.getElem?_push, if_neg (Nat.ne_of_lt hq)]
  have hid : ts_ad sz i = H.size := by rw [ts_ad_at hj, hH]
  have hcA : dT 7 = cA := by
    obtain ⟨kA2, comp2, k1, k2, k3, k4⟩ := (C.2.2.2.2.2.2.2.1.1.2 7 _ (ts_tys_at dT (t := 7) (by decide))).2
    exact Option.some.inj (k4.symm.trans f1)
  have hat : va_at D ts_cl (ts_ad sz i, ts_cell dT (ts_ad sz) (ts_rft m1) u i) H1 := by
    rw [ts_cell_a hs, hid, hcA]
    show H1[H.size]? = some (vp_cell cA (z.toNatClampNeg, ts_arr (ts_ad sz) (ts_rft m1) u i 7))
    rw [e1]
    congr 1
    simp only [ts_arr, vp_cell]
    congr 1
    funext a
    have := hr i (ts_lvn hj) a
    simp [this, va_rf]
  have hw1 := ts_HW_push hw hid (by rw [hid, hH]; omega) o1 hat
  rw [← ts_lvt_s hj] at hw1
  have := K ls H1 locs hl hw1 ⟨by rw [z1]; exact Nat.le_trans hS.1 (Nat.le_succ _), fun q h1 h2 => (o1 q (Nat.lt_of_lt_of_le h1 hS.1)).trans (hS.2.1 q h1 h2), hS.2.2⟩
  rw [← hid]
  exact this
theorem tv_aast7 (C : ts_CX D dT sz p l R s m args meth c own cc nL ret d) {N a : Nat} {x : Int32} {i i2 : ts_I} {ci : Nat} {q2 : vw_C} (hd : decode cc pc = .ok (.aastore, 1)) (hi : i ∈ ts_lvt j) (hs : ts_shp i = .inr (7, N)) (hx : ts_inr x N) (hxa : x.toNatClampNeg = a) (hi2 : i2 ∈ ts_lvt j) (hs2 : ts_shp i2 = .inl ci) (hcl : ts_cl[ci]? = some q2) (hq2 : q2.1 = RX4) (he : ts_EV[m1]? = some (i, a)) (hR : ts_R0 i a = some i2)
    (K : ts_V D dT sz p l e R s m args below meth c nL Q (ts_ad sz) (ts_lvt j) (ts_rft (m1 + 1)) (pc + 1) L S u k n) : ts_V D dT sz p l e R s m args below meth c nL Q (ts_ad sz) (ts_lvt j) (ts_rft m1) pc L (.inr i2 :: .inl (.int x) :: .inr i :: S) u k n := by
  subst hxa
  intro ls H locs hl hw hS
  obtain ⟨q, hq, hqw⟩ := ts_at_a (dT := dT) (ad := ts_ad sz) (rf := ts_rft m1) (u := u) hi hs
  obtain ⟨q3, hq3, hqw3⟩ := ts_at_o (dT := dT) (ad := ts_ad sz) (rf := ts_rft m1) (u := u) hi2 hs2
  refine va_astq (r := q2) C.1 C.2.1 C.2.2.2.2.2.2.2.1.1 hw.1 hw.2 hS q 7 q3 ci hqw (by rw [hq2]; exact ts_tys_at dT (t := 7) (by decide)) hqw3 hcl hx hd (fun H1 locs1 hP1 hD1 hS1 => ?_)
  refine K ls H1 locs1 hl (ts_HW_set hw hq (rf' := ts_rft (m1 + 1)) ?_ (fun i3 h => ?_) hP1 hD1) hS1
  · rw [ts_cell_a hs, ← ts_rft_s he hR]
    show Sum.inl (dT 7, N, Sum.inr (Sum.inr (Sum.inr (Sum.inr (fun b => (ts_sR (ts_rft m1) i x.toNatClampNeg (some i2) i b).map (ts_ad sz)))))) = _
    congr 7
    funext b
    by_cases hb : b = x.toNatClampNeg
    · subst hb; simp [ts_sR, va_up]
    · simp [ts_sR, va_up, hb]
  · rw [← ts_rft_s he hR]
    exact ts_cell_ne (fun n => by simp [ts_sR, h]) (fun _ => rfl) (fun _ => rfl) (fun _ => rfl) (fun _ => rfl)
theorem tv_putRD (C : ts_CX D dT sz p l R s m args meth c own cc nL ret d) {ix ci a : Nat} {i i2 : ts_I} {ty : FieldType} (hd : decode cc pc = .ok (.putfield ix, 3)) (F : ts_FF own ix ci a ty) (hi : i ∈ ts_lvt j) (hs : ts_shp i = .inl ci) (hf : (ts_fk ci)[a]? = some 1) (hin : meth.name = "<init>") (hn : ∀ a, narrow ty (.ref a) = .ref a) (hft : ∀ a, fits ty (.ref a) = true) (he : ts_EV[m1]? = some (i, a)) (hR : ts_R0 i a = some i2)
    (K : ts_V D dT sz p l e R s m args below meth c nL Q (ts_ad sz) (ts_lvt j) (ts_rft (m1 + 1)) (pc + 3) L S u k n) : ts_V D dT sz p l e R s m args below meth c nL Q (ts_ad sz) (ts_lvt j) (ts_rft m1) pc L (.inr i2 :: .inr i :: S) u k n :=
  tv_putR C hd F hi hs hf hin hn hft (by rw [ts_rft_s he hR]; exact K)
/-- the contract of a constructor -/
def ts_PcD (D : va_G) (dT : Nat → ClassId) (sz : Nat) (A : List ts_AV) (j m1 : Nat) (u : ts_Mem) : Array Value → State → Prop := fun v U => ts_Pc D dT sz (ts_ad sz) (ts_lvt j) (ts_rft m1) A u v U ∧ U.heap.size = sz + j ∧ ts_KA U
def ts_MD (l : Launch) (D : va_G) (dT : Nat → ClassId) (sz : Nat) (y : MethodName) (w0 : Cond) (d mc ms : Nat) (A : List ts_AV) (j m1 : Nat) (u : ts_Mem) (j2 m2 : Nat) (u2 : ts_Mem) : Prop :=
  vx_Met l y (w0 :: ts_ws) (ts_rm d mc ms) (ts_PcD D dT sz A j m1 u) (ts_Qc D dT sz (ts_ad sz) (ts_lvt j2) (ts_rft m2) (.inl none) u2) (ts_XC D dT sz (ts_ad sz) (ts_lvt j2) (ts_rft m2) (.inl none) u2) mc ms (fun q => sz ≤ q)
theorem ts_blindD {A : List ts_AV} : FrameBlind (ts_PcD D dT sz A j m1 u) := fun a U g mk h => ⟨ts_blind a U g mk h.1, h.2.1, ts_KA_moved (Vm.Alike.refl U.vm) h.2.2⟩
theorem ts_afterD {H : Heap} {locs : List Loc} {ls : Array Slot} {st0 rest : List Value} {a : Array Value} {ad : ts_I → Nat} {lv : List ts_I} {rf : ts_I → Nat → Option ts_I}
    (hr : vx_Run p l e R s m args below meth c H locs k n mc ms (F0 m pc ls st0) rest (ts_Qc D dT sz ad lv rf (.inl none) u' a) (ts_XC D dT sz ad lv rf (.inl none) u') (fun q => sz ≤ q)) (hS : va_S (fun q => sz ≤ q) s.heap H locs)
    (kk : ∀ (H1 : Heap) (locs1 : List Loc), ts_HW D dT sz ad (lv, rf, u') H1 → va_S (fun q => sz ≤ q) s.heap H1 locs1 → W p l e R s m args below meth c H1 locs1 (k + mc) (n + ms) Q (F0 m (pc + 3) ls rest)) : W p l e R s m args below meth c H locs k n Q (F0 m pc ls st0) :=
  ts_afterR (v := none) hr hS kk
theorem tv_callI (C : ts_CX D dT sz p l R s m args meth c own cc nL ret d) (KA : ts_KA s) {ix maxL d' j2 m2 : Nat} {y : MethodName} {w0 : Cond} {bytes : ByteArray} {i : ts_I} (hd : decode cc pc = .ok (.invokespecial ix, 3)) (Y : ts_YB own ix y w0 bytes maxL none 0) (hy : y.name = "<init>" ∧ Cond.instanceMethod y ∈ ts_ws) (M : ts_MD l D dT sz y w0 d' mc ms [.inr i] j m1 u j2 m2 u') (hdd : d' + 1 ≤ d) (h0 : sz ≤ s.heap.size) (hsz : s.heap.size + k = sz + j) (hj9 : j ≤ 298) (hk : k + mc ≤ R.cells ∧ n + ms ≤ R.slots) (hrest : ∀ ad : ts_I → Nat, (S.map fun v => (ts_cv ad v).category).sum ≤ 8)
    (K : ts_V D dT sz p l e R s m args below meth c nL Q (ts_ad sz) (ts_lvt j2) (ts_rft m2) (pc + 3) L S u' (k + mc) (n + ms)) : ts_V D dT sz p l e R s m args below meth c nL Q (ts_ad sz) (ts_lvt j) (ts_rft m1) pc L (.inr i :: S) u k n := by
  intro ls H locs hl hw hS T hT X
  have hH := ts_size X hT hw hS h0 hsz hj9
  refine ts_afterD (vx_runI (b := ts_ad sz i) (As := []) ⟨C.1, C.2.1, C.2.2.1, C.2.2.2.1, C.2.2.2.2.1⟩ M ⟨ts_cb C Y hdd, hy.1, C.2.2.2.2.1 _ hy.2⟩ ⟨ts_blindD, fun U hU hW => ⟨⟨rfl, ts_KS_call C.2.2.2.2.2.2.2.1 hS hU hW, by rw [hU]; exact hw⟩, by rw [hU]; exact hH, ts_KA_moved hW.alike KA⟩⟩ rfl rfl hl.1 rfl (lv_room (ts_rest (hrest _))) hd hk) hS (fun H1 locs1 hw1 hS1 => K ls H1 locs1 hl hw1 hS1) T hT X
theorem tv_callIN (C : ts_CX D dT sz p l R s m args meth c own cc nL ret d) (KA : ts_KA s) {ix maxL d' j2 m2 : Nat} {y : MethodName} {w0 : Cond} {host : String} {bytes : ByteArray} {i : ts_I} (hd : decode cc pc = .ok (.invokespecial ix, 3)) (Y0 : w0 = Cond.code y bytes maxL none) (Y1 : w0 ∈ ts_ws ∧ Cond.initialized y.cls ∈ ts_ws ∧ Cond.methodLinkNest own ix y host ∈ lw_tbl) (Y2 : y.cls ≠ "java/lang/invoke/MethodHandle" ∧ y.cls ≠ "java/lang/invoke/VarHandle" ∧ (parseMethodDescriptor y.desc).map (fun d => d.parameters.length) = some 0) (Y3 : maxL ≤ 20) (hy : y.name = "<init>" ∧ Cond.instanceMethod y ∈ ts_ws) (M : ts_MD l D dT sz y w0 d' mc ms [.inr i] j m1 u j2 m2 u') (hdd : d' + 1 ≤ d) (h0 : sz ≤ s.heap.size) (hsz : s.heap.size + k = sz + j) (hj9 : j ≤ 298) (hk : k + mc ≤ R.cells ∧ n + ms ≤ R.slots) (hrest : ∀ ad : ts_I → Nat, (S.map fun v => (ts_cv ad v).category).sum ≤ 8)
    (K : ts_V D dT sz p l e R s m args below meth c nL Q (ts_ad sz) (ts_lvt j2) (ts_rft m2) (pc + 3) L S u' (k + mc) (n + ms)) : ts_V D dT sz p l e R s m args below meth c nL Q (ts_ad sz) (ts_lvt j) (ts_rft m1) pc L (.inr i :: S) u k n := by
  intro ls H locs hl hw hS T hT X
  have hH := ts_size X hT hw hS h0 hsz hj9
  have h1 := C.2.2.2.2.2.2.2.2.1
  have h2 := C.2.2.2.2.2.2.2.2.2.1
  have hf : (ts_rm d' mc ms).frames + 1 ≤ R.frames := by
    show d' + 12 + 1 ≤ R.frames
    omega
  have hlo : 8 + (maxL + 11) + (ts_rm d' mc ms).locals ≤ R.locals := by
    show 8 + (maxL + 11) + (40 * d' + 150) ≤ R.locals
    omega
  have cn := va_cnB (host := host) (maxL := maxL) (ret := none) (bytes := bytes) (mc := mc) (ms := ms) (rm := ts_rm d' mc ms) (ws := w0 :: ts_ws) (R := R) 0 C.2.2.2.2.1 (ts_good Y1.1) (by rw [Y0]) rfl rfl (C.2.2.2.2.2.2.2.1.2.2.2.2.2.2 _ Y1.2.2 rfl) (C.2.2.2.2.1 _ Y1.2.1) Y2 ⟨hf, hlo⟩
  refine ts_afterD (vx_runIN (b := ts_ad sz i) (As := []) ⟨C.1, C.2.1, C.2.2.1, C.2.2.2.1, C.2.2.2.2.1⟩ M ⟨cn, hy.1, C.2.2.2.2.1 _ hy.2⟩ ⟨ts_blindD, fun U hU hW => ⟨⟨rfl, ts_KS_call C.2.2.2.2.2.2.2.1 hS hU hW, by rw [hU]; exact hw⟩, by rw [hU]; exact hH, ts_KA_moved hW.alike KA⟩⟩ rfl rfl hl.1 rfl (lv_room (ts_rest (hrest _))) hd hk) hS (fun H1 locs1 hw1 hS1 => K ls H1 locs1 hl hw1 hS1) T hT X
end TD
theorem ts_enterD {l : Launch} {D : va_G} {dT : Nat → ClassId} {sz : Nat} {y : MethodName} {w0 : Cond} {cc : ByteArray} {nL d mc ms j m1 j2 m2 : Nat} {ret : Option FieldType} {A : List ts_AV} {u u2 : ts_Mem}
    (hl : l.stackTraces = false) (hy : plainName y.cls = true) (hw : w0 = Cond.code y cc nL ret) (hA : A.all ts_one = true) (hn : A.length ≤ nL)
    (body : ∀ (p : Program) (e : Env) (s : State) (m : MethodId) (args : Array Value) (below : List Frame) (meth : Method) (c : Code), ts_CX D dT sz p l (ts_rm d mc ms) s m args meth c y.cls cc nL ret d → ts_KA s → meth.name = y.name → sz ≤ s.heap.size → s.heap.size + 0 = sz + j →
      ts_V D dT sz p l e (ts_rm d mc ms) s m args below meth c nL (ts_Q below D dT sz (ts_ad sz) (ts_lvt j2) (ts_rft m2) (.inl none) u2 args s mc ms) (ts_ad sz) (ts_lvt j) (ts_rft m1) 0 (A.map some ++ List.replicate (nL - A.length) none) [] u 0 0) : ts_MD l D dT sz y w0 d mc ms A j m1 u j2 m2 u2 := by
  subst hw
  refine vx_ofW (cc := cc) (maxL := nL) (ret := ret) hy rfl ?_
  intro p e s m args below meth c s₁ B hml hX hv
  obtain ⟨⟨rfl, hK, hHW⟩, hsz, hKA⟩ := hv
  have hts := atoms_spec (ws := Cond.code y cc nL ret :: ts_ws) B.pre
  have := body p e s m _ below meth c ⟨B.exec, B.bytes, hml, findClass_of_methodNamed B.named, fun w h => hts w (List.mem_cons_of_mem _ h), B.notSynchronized, hl, hK, Nat.le_refl _, Nat.le_refl _, B.returns⟩ hKA (name_of_methodNamed B.named B.method).1 hK.2.1 hsz
  rw [lg_entry_eq]
  exact this _ s.heap [] (ts_lr_entry A hA hn) hHW va_S.rf
