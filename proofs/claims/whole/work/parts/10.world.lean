/-! the world as memory by names: a name is (kind, bench, index); static shapes; typed memory; which names are there -/
abbrev ts_I : Type := Nat × Nat × Nat
abbrev ts_AV : Type := Value ⊕ ts_I
def ts_cv (ad : ts_I → Nat) : ts_AV → Value
  | .inl v => v
  | .inr i => .ref (ad i)
abbrev ts_Mem : Type := (ts_I → Nat → Int32) × (ts_I → Nat → UInt32) × (ts_I → Nat → Int64) × (ts_I → Nat → UInt64)
abbrev ts_Hp : Type := List ts_I × (ts_I → Nat → Option ts_I) × ts_Mem
/-- the classes: 0 Bench, 1 Chain, 2 EventLog, 3 Program, 4 Row, 5 Transaction, 6 the class itself, 7 the reference -/
abbrev ts_cl : List vw_C := [(RX0, TX0, 8), (RX1, TX1, 5), (RX2, TX2, 6), (RX3, TX3, 8), (RX4, TX4, 4), (RX5, TX5, 10), (RX6, TX6, 6), (RX7, TX7, 37)]
/-- fields by class: 0 int, 1 reference, 2 boolean -/
def ts_fk : Nat → List Nat
  | 0 => [0, 0, 0, 1, 1, 1, 1, 1]
  | 1 => [0, 1, 1, 1, 1]
  | 2 => [0, 0, 1, 1, 1, 1]
  | 3 => [0, 1, 0, 1, 1, 1, 0, 0]
  | 4 => [0, 0, 1, 1]
  | 5 => [0, 0, 0, 0, 0, 0, 1, 1, 1, 1]
  | 6 => [1, 1, 2, 1, 0, 1]
  | _ => [0, 0, 0, 0, 1, 1, 1, 1, 1, 1, 1, 1, 1, 1, 0, 1, 0, 0, 0, 1, 0, 0, 0, 0, 0, 1, 0, 0, 1, 1, 1, 1, 1, 2, 1, 0, 2]
/-- array types -/
def ts_ty : Nat → FieldType
  | 0 => .int
  | 1 => .char
  | 2 => .float
  | 3 => .long
  | 4 => .double
  | 5 => .object RX5
  | 6 => .object RX1
  | _ => .object RX4
/-- the kinds: an object's class, or an array's type and length -/
def ts_kd : List (Nat ⊕ (Nat × Nat)) := [
  .inl 6, .inl 0, .inr (5, 16), .inr (6, 8), .inl 2, .inr (0, 8), .inr (0, 16), .inr (0, 50), .inr (0, 50), .inr (0, 50), .inr (0, 9),
  .inl 5, .inr (0, 20), .inr (0, 20), .inr (0, 20), .inr (0, 20),
  .inl 1, .inr (0, 17), .inr (0, 17), .inr (0, 17), .inr (0, 17),
  .inl 3, .inr (1, 60), .inr (0, 20), .inr (0, 20), .inr (0, 20),
  .inr (7, 3), .inl 4, .inr (2, 30), .inr (0, 30),
  .inl 7, .inr (0, 16), .inr (0, 16), .inr (0, 16), .inr (0, 16), .inr (0, 16), .inr (0, 1280), .inr (0, 16), .inr (0, 8), .inr (0, 640), .inr (0, 150), .inr (0, 9),
  .inr (1, 60), .inr (0, 120), .inr (0, 8), .inr (0, 3), .inr (0, 3), .inr (0, 90), .inr (2, 90), .inr (0, 2200),
  .inr (3, 1), .inr (4, 1)]
def ts_shp (i : ts_I) : Nat ⊕ (Nat × Nat) := ts_kd.getD i.1 (.inl 99)
def ts_arr (ad : ts_I → Nat) (R : ts_I → Nat → Option ts_I) (u : ts_Mem) (i : ts_I) : Nat → (Nat → Int32) ⊕ (Nat → Int64) ⊕ (Nat → UInt32) ⊕ (Nat → UInt64) ⊕ (Nat → Option Nat)
  | 0 => .inl (u.1 i)
  | 1 => .inl (u.1 i)
  | 2 => .inr (.inr (.inl (u.2.1 i)))
  | 3 => .inr (.inl (u.2.2.1 i))
  | 4 => .inr (.inr (.inr (.inl (u.2.2.2 i))))
  | _ => .inr (.inr (.inr (.inr (fun j => (R i j).map ad))))
def ts_fs (ad : ts_I → Nat) (R : ts_I → Nat → Option ts_I) (u : ts_Mem) (i : ts_I) (ks : List Nat) : List Value :=
  ks.zipIdx.map (fun q => if q.1 = 1 then va_rf ((R i q.2).map ad) else Value.int (u.1 i q.2))
def ts_cell (dT : Nat → ClassId) (ad : ts_I → Nat) (R : ts_I → Nat → Option ts_I) (u : ts_Mem) (i : ts_I) : va_E :=
  match ts_shp i with
  | .inl ci => .inr (ci, ts_fs ad R u i (ts_fk ci))
  | .inr (t, n) => .inl (dT t, n, ts_arr ad R u i t)
def ts_wl (dT : Nat → ClassId) (ad : ts_I → Nat) (hp : ts_Hp) : va_W := hp.1.map (fun i => (ad i, ts_cell dT ad hp.2.1 hp.2.2 i))
def ts_HW (D : va_G) (dT : Nat → ClassId) (sz : Nat) (ad : ts_I → Nat) (hp : ts_Hp) (H : Heap) : Prop :=
  va_P D ts_cl (ts_wl dT ad hp) H ∧ va_D (fun q => sz ≤ q) (ts_wl dT ad hp)
def ts_tys (dT : Nat → ClassId) : List (ClassId × FieldType) := (List.range 8).map (fun t => (dT t, ts_ty t))
theorem ts_tys_at (dT : Nat → ClassId) {t : Nat} (h : t < 8) : (ts_tys dT)[t]? = some (dT t, ts_ty t) := by
  simp [ts_tys, h]
theorem ts_wl_at {dT : Nat → ClassId} {ad : ts_I → Nat} {hp : ts_Hp} {i : ts_I} (h : i ∈ hp.1) : ∃ q : Nat, hp.1[q]? = some i ∧ (ts_wl dT ad hp)[q]? = some (ad i, ts_cell dT ad hp.2.1 hp.2.2 i) := by
  obtain ⟨q, hq⟩ := List.getElem?_of_mem h
  exact ⟨q, hq, by simp [ts_wl, hq]⟩
theorem ts_wl_set {A : Nat → Prop} {dT : Nat → ClassId} {ad : ts_I → Nat} {hp : ts_Hp} {R' : ts_I → Nat → Option ts_I} {u' : ts_Mem} {i : ts_I} {q : Nat} (hD : va_D A (ts_wl dT ad hp)) (hq : hp.1[q]? = some i)
    (hne : ∀ j, j ≠ i → ts_cell dT ad R' u' j = ts_cell dT ad hp.2.1 hp.2.2 j) : (ts_wl dT ad hp).set q (ad i, ts_cell dT ad R' u' i) = ts_wl dT ad (hp.1, R', u') := by
  apply List.ext_getElem?
  intro j
  by_cases hj : j = q
  · subst hj
    have hl : j < hp.1.length := (List.getElem?_eq_some_iff.mp hq).1
    rw [List.getElem?_set_self (by simpa [ts_wl] using hl)]
    simp [ts_wl, hq]
  · rw [List.getElem?_set_ne (fun e => hj e.symm)]
    show (hp.1.map _)[j]? = (hp.1.map _)[j]?
    rw [List.getElem?_map, List.getElem?_map]
    cases hx : hp.1[j]? with
    | none => rfl
    | some k =>
      have hk : k ≠ i := by
        intro e
        subst e
        exact hj (hD.1 j q _ _ (by simp only [ts_wl, List.getElem?_map, hx]; rfl) (by simp only [ts_wl, List.getElem?_map, hq]; rfl) rfl)
      simp [hne k hk]
/-- memory: one number changed -/
def ts_sI (u : ts_Mem) (i : ts_I) (k : Nat) (x : Int32) : ts_Mem := (fun j n => if j = i ∧ n = k then x else u.1 j n, u.2)
def ts_sF (u : ts_Mem) (i : ts_I) (k : Nat) (x : UInt32) : ts_Mem := (u.1, fun j n => if j = i ∧ n = k then x else u.2.1 j n, u.2.2)
def ts_sJ (u : ts_Mem) (i : ts_I) (k : Nat) (x : Int64) : ts_Mem := (u.1, u.2.1, fun j n => if j = i ∧ n = k then x else u.2.2.1 j n, u.2.2.2)
def ts_sD (u : ts_Mem) (i : ts_I) (k : Nat) (x : UInt64) : ts_Mem := (u.1, u.2.1, u.2.2.1, fun j n => if j = i ∧ n = k then x else u.2.2.2 j n)
def ts_sR (R : ts_I → Nat → Option ts_I) (i : ts_I) (k : Nat) (x : Option ts_I) : ts_I → Nat → Option ts_I := fun j n => if j = i ∧ n = k then x else R j n
def ts_cI (u : ts_Mem) (i j : ts_I) (sp dp n : Nat) : ts_Mem := (fun a k => if a = j then va_cpy (u.1 i) (u.1 j) sp dp n k else u.1 a k, u.2)
def ts_cF (u : ts_Mem) (i j : ts_I) (sp dp n : Nat) : ts_Mem := (u.1, fun a k => if a = j then va_cpy (u.2.1 i) (u.2.1 j) sp dp n k else u.2.1 a k, u.2.2)
def ts_gI (u : ts_Mem) (i : ts_I) (k : Nat) : Int32 := u.1 i k
def ts_gF (u : ts_Mem) (i : ts_I) (k : Nat) : UInt32 := u.2.1 i k
def ts_gJ (u : ts_Mem) (i : ts_I) (k : Nat) : Int64 := u.2.2.1 i k
def ts_gD (u : ts_Mem) (i : ts_I) (k : Nat) : UInt64 := u.2.2.2 i k
theorem ts_fs_ne {ad : ts_I → Nat} {R R' : ts_I → Nat → Option ts_I} {u u' : ts_Mem} {i : ts_I} (ks : List Nat) (hR : ∀ n, R' i n = R i n) (hu : ∀ n, u'.1 i n = u.1 i n) : ts_fs ad R' u' i ks = ts_fs ad R u i ks := by
  unfold ts_fs
  congr 1
  funext q
  rw [hR, hu]
theorem ts_cell_ne {dT : Nat → ClassId} {ad : ts_I → Nat} {R R' : ts_I → Nat → Option ts_I} {u u' : ts_Mem} {i : ts_I} (hR : ∀ n, R' i n = R i n) (h1 : ∀ n, u'.1 i n = u.1 i n) (h2 : ∀ n, u'.2.1 i n = u.2.1 i n) (h3 : ∀ n, u'.2.2.1 i n = u.2.2.1 i n) (h4 : ∀ n, u'.2.2.2 i n = u.2.2.2 i n) :
    ts_cell dT ad R' u' i = ts_cell dT ad R u i := by
  unfold ts_cell
  cases ts_shp i with
  | inl ci => exact congrArg (fun z => Sum.inr (ci, z)) (ts_fs_ne _ hR h1)
  | inr tn =>
    obtain ⟨t, n⟩ := tn
    have e : ts_arr ad R' u' i t = ts_arr ad R u i t := by
      unfold ts_arr
      split
      · rw [funext h1]
      · rw [funext h1]
      · rw [funext h2]
      · rw [funext h3]
      · rw [funext h4]
      · simp only [hR]
    show Sum.inl (dT t, n, ts_arr ad R' u' i t) = Sum.inl (dT t, n, ts_arr ad R u i t)
    rw [e]
theorem ts_fs_at {ad : ts_I → Nat} {R : ts_I → Nat → Option ts_I} {u : ts_Mem} {i : ts_I} {ks : List Nat} {k c : Nat} (h : ks[k]? = some c) : (ts_fs ad R u i ks)[k]? = some (if c = 1 then va_rf ((R i k).map ad) else Value.int (u.1 i k)) := by
  simp [ts_fs, List.getElem?_map, List.getElem?_zipIdx, h]
theorem ts_fs_len {ad : ts_I → Nat} {R : ts_I → Nat → Option ts_I} {u : ts_Mem} {i : ts_I} {ks : List Nat} : (ts_fs ad R u i ks).length = ks.length := by
  simp [ts_fs]
theorem ts_fs_sI {ad : ts_I → Nat} {R : ts_I → Nat → Option ts_I} {u : ts_Mem} {i : ts_I} {ks : List Nat} {k c : Nat} (h : ks[k]? = some c) (hc : c ≠ 1) (x : Int32) : (ts_fs ad R u i ks).set k (.int x) = ts_fs ad R (ts_sI u i k x) i ks := by
  apply List.ext_getElem?
  intro j
  have hl : k < ks.length := (List.getElem?_eq_some_iff.mp h).1
  by_cases hj : j = k
  · subst hj
    rw [List.getElem?_set_self (by rw [ts_fs_len]; exact hl), ts_fs_at h, if_neg hc]
    simp [ts_sI]
  · rw [List.getElem?_set_ne (fun e => hj e.symm)]
    cases hx : ks[j]? with
    | none => simp [ts_fs, List.getElem?_map, List.getElem?_zipIdx, hx]
    | some c2 =>
      rw [ts_fs_at hx, ts_fs_at hx]
      simp [ts_sI, hj]
theorem ts_fs_sR {ad : ts_I → Nat} {R : ts_I → Nat → Option ts_I} {u : ts_Mem} {i : ts_I} {ks : List Nat} {k : Nat} (h : ks[k]? = some 1) (x : ts_I) : (ts_fs ad R u i ks).set k (.ref (ad x)) = ts_fs ad (ts_sR R i k (some x)) u i ks := by
  apply List.ext_getElem?
  intro j
  have hl : k < ks.length := (List.getElem?_eq_some_iff.mp h).1
  by_cases hj : j = k
  · subst hj
    rw [List.getElem?_set_self (by rw [ts_fs_len]; exact hl), ts_fs_at h, if_pos rfl]
    simp [ts_sR, va_rf]
  · rw [List.getElem?_set_ne (fun e => hj e.symm)]
    cases hx : ks[j]? with
    | none => simp [ts_fs, List.getElem?_map, List.getElem?_zipIdx, hx]
    | some c2 =>
      rw [ts_fs_at hx, ts_fs_at hx]
      simp [ts_sR, hj]
/-- the words: those of the tables that a callee may use too -/
def ts_ws : List Cond := lw_tbl.filter goodWord
theorem ts_wm {i : Nat} {w : Cond} (h : lw_tbl[i]? = some w) (hg : goodWord w = true) : w ∈ ts_ws := List.mem_filter.mpr ⟨List.mem_of_getElem? h, hg⟩
theorem ts_wg {w : Cond} (h : w ∈ ts_ws) : (w.onTables && w.keeps) = true ∨ ∃ ty, w = .arrayClass ty := good_of_word (List.mem_filter.mp h).2
theorem ts_good {w0 : Cond} (h : w0 ∈ ts_ws) : GoodIn ts_ws (w0 :: ts_ws) := fun w hw => by
  have h2 : w ∈ ts_ws := (List.mem_cons.mp hw).elim (fun e => e ▸ h) id
  exact ⟨h2, ts_wg h2⟩
