/-! fields and arrays -/
theorem ts_in0 : ∀ w ∈ u_ws RX0 TX0 8, w ∈ ts_ws := by decide +kernel
theorem ts_in1 : ∀ w ∈ u_ws RX1 TX1 5, w ∈ ts_ws := by decide +kernel
theorem ts_in2 : ∀ w ∈ u_ws RX2 TX2 6, w ∈ ts_ws := by decide +kernel
theorem ts_in3 : ∀ w ∈ u_ws RX3 TX3 8, w ∈ ts_ws := by decide +kernel
theorem ts_in4 : ∀ w ∈ u_ws RX4 TX4 4, w ∈ ts_ws := by decide +kernel
theorem ts_in5 : ∀ w ∈ u_ws RX5 TX5 10, w ∈ ts_ws := by decide +kernel
theorem ts_in6 : ∀ w ∈ u_ws RX6 TX6 6, w ∈ ts_ws := by decide +kernel
theorem ts_in7 : ∀ w ∈ u_ws RX7 TX7 37, w ∈ ts_ws := by decide +kernel
/-- what is known of a class of the list: its rows, its fields' types, its fields' names -/
theorem ts_clf {ci : Nat} {q : vw_C} (h : ts_cl[ci]? = some q) : (∀ w ∈ u_ws q.1 q.2.1 q.2.2, w ∈ ts_ws) ∧ (∃ ty : Nat → FieldType, ∀ k, k < q.2.2 → parseFieldDescriptor (q.2.1 k).2.2.1 = some (ty k)) ∧ (∀ a, a < q.2.2 → ∀ b, b < q.2.2 → a ≠ b → (q.2.1 a).2.1 ≠ (q.2.1 b).2.1) := by
  match ci, h with
  | 0, h => cases h; exact ⟨ts_in0, ⟨_, tyX0_ok⟩, nmX0⟩
  | 1, h => cases h; exact ⟨ts_in1, ⟨_, tyX1_ok⟩, nmX1⟩
  | 2, h => cases h; exact ⟨ts_in2, ⟨_, tyX2_ok⟩, nmX2⟩
  | 3, h => cases h; exact ⟨ts_in3, ⟨_, tyX3_ok⟩, nmX3⟩
  | 4, h => cases h; exact ⟨ts_in4, ⟨_, tyX4_ok⟩, nmX4⟩
  | 5, h => cases h; exact ⟨ts_in5, ⟨_, tyX5_ok⟩, nmX5⟩
  | 6, h => cases h; exact ⟨ts_in6, ⟨_, tyX6_ok⟩, nmX6⟩
  | 7, h => cases h; exact ⟨ts_in7, ⟨_, tyX7_ok⟩, nmX7⟩
  | n + 8, h => simp [ts_cl] at h
/-- an entry of a pool names field j of class ci -/
def ts_FL (own : String) (ix ci j : Nat) : Prop := ∃ q : vw_C, ts_cl[ci]? = some q ∧ j < q.2.2 ∧ Cond.fieldLink own ix (q.2.1 j).1 (q.2.1 j).2.1 (q.2.1 j).2.2.1 ∈ ts_ws
/-- .. whose type is ty, not final -/
def ts_FP (own : String) (ix ci j : Nat) (ty : FieldType) : Prop := ∃ q : vw_C, ts_cl[ci]? = some q ∧ j < q.2.2 ∧ Cond.fieldLink own ix (q.2.1 j).1 (q.2.1 j).2.1 (q.2.1 j).2.2.1 ∈ ts_ws ∧ (q.2.1 j).2.2.2 = false ∧ parseFieldDescriptor (q.2.1 j).2.2.1 = some ty
/-- .. a final reference, declared by the class itself -/
def ts_FF (own : String) (ix ci j : Nat) (ty : FieldType) : Prop := ∃ q : vw_C, ts_cl[ci]? = some q ∧ j < q.2.2 ∧ Cond.fieldLink own ix (q.2.1 j).1 (q.2.1 j).2.1 (q.2.1 j).2.2.1 ∈ ts_ws ∧ (q.2.1 j).2.2.2 = true ∧ (q.2.1 j).1 = own ∧ parseFieldDescriptor (q.2.1 j).2.2.1 = some ty
theorem ts_cell_o {dT : Nat → ClassId} {ad : ts_I → Nat} {rf : ts_I → Nat → Option ts_I} {u : ts_Mem} {i : ts_I} {ci : Nat} (h : ts_shp i = .inl ci) : ts_cell dT ad rf u i = .inr (ci, ts_fs ad rf u i (ts_fk ci)) := by
  unfold ts_cell; rw [h]
theorem ts_cell_a {dT : Nat → ClassId} {ad : ts_I → Nat} {rf : ts_I → Nat → Option ts_I} {u : ts_Mem} {i : ts_I} {t N : Nat} (h : ts_shp i = .inr (t, N)) : ts_cell dT ad rf u i = .inl (dT t, N, ts_arr ad rf u i t) := by
  unfold ts_cell; rw [h]
theorem ts_vin {x : Int32} {N : Nat} (h : vp_in x N) : x.toNatClampNeg < N := Nat.not_le.mp fun q => h (Or.inr q)
abbrev ts_okc (sp dp n : Int32) (n0 n1 : Nat) : Prop := ¬ sp < 0 ∧ ¬ dp < 0 ∧ ¬ n < 0 ∧ sp.toNatClampNeg + n.toNatClampNeg ≤ n0 ∧ dp.toNatClampNeg + n.toNatClampNeg ≤ n1
/-- in range, decided -/
abbrev ts_inr (x : Int32) (N : Nat) : Prop := ¬ (x < 0 ∨ N ≤ x.toNatClampNeg)
theorem ts_at_o {dT : Nat → ClassId} {ad : ts_I → Nat} {lv : List ts_I} {rf : ts_I → Nat → Option ts_I} {u : ts_Mem} {i : ts_I} {ci : Nat} (hi : i ∈ lv) (hs : ts_shp i = .inl ci) : ∃ q : Nat, lv[q]? = some i ∧ (ts_wl dT ad (lv, rf, u))[q]? = some (ad i, .inr (ci, ts_fs ad rf u i (ts_fk ci))) := by
  obtain ⟨q, h1, h2⟩ := ts_wl_at (dT := dT) (ad := ad) (hp := (lv, rf, u)) hi
  exact ⟨q, h1, by rw [h2, ts_cell_o hs]⟩
theorem ts_at_a {dT : Nat → ClassId} {ad : ts_I → Nat} {lv : List ts_I} {rf : ts_I → Nat → Option ts_I} {u : ts_Mem} {i : ts_I} {t N : Nat} (hi : i ∈ lv) (hs : ts_shp i = .inr (t, N)) : ∃ q : Nat, lv[q]? = some i ∧ (ts_wl dT ad (lv, rf, u))[q]? = some (ad i, .inl (dT t, N, ts_arr ad rf u i t)) := by
  obtain ⟨q, h1, h2⟩ := ts_wl_at (dT := dT) (ad := ad) (hp := (lv, rf, u)) hi
  exact ⟨q, h1, by rw [h2, ts_cell_a hs]⟩
theorem ts_HW_set {D : va_G} {dT : Nat → ClassId} {sz : Nat} {ad : ts_I → Nat} {lv : List ts_I} {rf rf' : ts_I → Nat → Option ts_I} {u u' : ts_Mem} {i : ts_I} {q : Nat} {E : va_E} {H H1 : Heap} (hw : ts_HW D dT sz ad (lv, rf, u) H) (hq : lv[q]? = some i) (hE : ts_cell dT ad rf' u' i = E)
    (hne : ∀ j, j ≠ i → ts_cell dT ad rf' u' j = ts_cell dT ad rf u j) (hP1 : va_P D ts_cl ((ts_wl dT ad (lv, rf, u)).set q (ad i, E)) H1) (hD1 : va_D (fun q => sz ≤ q) ((ts_wl dT ad (lv, rf, u)).set q (ad i, E))) : ts_HW D dT sz ad (lv, rf', u') H1 := by
  have hset := ts_wl_set (R' := rf') (u' := u') (hp := (lv, rf, u)) hw.2 hq hne
  rw [hE] at hset
  rw [hset] at hP1 hD1
  exact ⟨hP1, hD1⟩
section TH
variable {D : va_G} {dT : Nat → ClassId} {sz : Nat} {p : Program} {l : Launch} {e : Env} {R : Room} {s : State} {m : MethodId} {args : Array Value} {below : List Frame} {meth : Method} {c : Code} {nL d : Nat} {Q : State → Prop} {own : String} {cc : ByteArray} {ret : Option FieldType}
variable {ad : ts_I → Nat} {lv : List ts_I} {rf : ts_I → Nat → Option ts_I} {pc : Nat} {L L' : List (Option ts_AV)} {S : List ts_AV} {u : ts_Mem} {k n : Nat}
theorem tv_getI (C : ts_CX D dT sz p l R s m args meth c own cc nL ret d) {ix ci j cd : Nat} {i : ts_I} (hd : decode cc pc = .ok (.getfield ix, 3)) (F : ts_FL own ix ci j) (hi : i ∈ lv) (hs : ts_shp i = .inl ci) (hf : (ts_fk ci)[j]? = some cd) (hc : cd ≠ 1)
    (K : ts_V D dT sz p l e R s m args below meth c nL Q ad lv rf (pc + 3) L (.inl (.int (ts_gI u i j)) :: S) u k n) : ts_V D dT sz p l e R s m args below meth c nL Q ad lv rf pc L (.inr i :: S) u k n := by
  intro ls H locs hl hw hS
  obtain ⟨q, hq, hqw⟩ := ts_at_o (dT := dT) (ad := ad) (rf := rf) (u := u) hi hs
  obtain ⟨⟨Cn, T, N⟩, f1, f2, f3⟩ := F
  exact va_get (T := T) (N := N) (C := Cn) C.1 C.2.1 C.2.2.2.2.1 (ts_clf f1).1 C.2.2.2.1 C.2.2.2.2.2.2.2.1.1 hw.1 q hqw f1 j f2 (C.2.2.2.2.1 _ f3) (fun x h => h) (v := .int (ts_gI u i j)) (by rw [ts_fs_at hf, if_neg hc]; rfl) hd (K ls H locs hl hw hS)
theorem tv_getR (C : ts_CX D dT sz p l R s m args meth c own cc nL ret d) {ix ci j : Nat} {i i2 : ts_I} (hd : decode cc pc = .ok (.getfield ix, 3)) (F : ts_FL own ix ci j) (hi : i ∈ lv) (hs : ts_shp i = .inl ci) (hf : (ts_fk ci)[j]? = some 1) (hr : rf i j = some i2)
    (K : ts_V D dT sz p l e R s m args below meth c nL Q ad lv rf (pc + 3) L (.inr i2 :: S) u k n) : ts_V D dT sz p l e R s m args below meth c nL Q ad lv rf pc L (.inr i :: S) u k n := by
  intro ls H locs hl hw hS
  obtain ⟨q, hq, hqw⟩ := ts_at_o (dT := dT) (ad := ad) (rf := rf) (u := u) hi hs
  obtain ⟨⟨Cn, T, N⟩, f1, f2, f3⟩ := F
  exact va_get (T := T) (N := N) (C := Cn) C.1 C.2.1 C.2.2.2.2.1 (ts_clf f1).1 C.2.2.2.1 C.2.2.2.2.2.2.2.1.1 hw.1 q hqw f1 j f2 (C.2.2.2.2.1 _ f3) (fun x h => h) (v := .ref (ad i2)) (by rw [ts_fs_at hf, if_pos rfl, hr]; rfl) hd (K ls H locs hl hw hS)
theorem ts_put_ne {dT : Nat → ClassId} {ad : ts_I → Nat} {rf : ts_I → Nat → Option ts_I} {u : ts_Mem} {i : ts_I} {j : Nat} {x : Int32} : ∀ i2, i2 ≠ i → ts_cell dT ad rf (ts_sI u i j x) i2 = ts_cell dT ad rf u i2 := fun i2 h => ts_cell_ne (fun _ => rfl) (fun n => by simp [ts_sI, h]) (fun _ => rfl) (fun _ => rfl) (fun _ => rfl)
theorem tv_putI (C : ts_CX D dT sz p l R s m args meth c own cc nL ret d) {ix ci j cd : Nat} {i : ts_I} {x : Int32} {ty : FieldType} (hd : decode cc pc = .ok (.putfield ix, 3)) (F : ts_FP own ix ci j ty) (hi : i ∈ lv) (hs : ts_shp i = .inl ci) (hf : (ts_fk ci)[j]? = some cd) (hc : cd ≠ 1) (hn : narrow ty (.int x) = .int x) (hft : fits ty (.int x) = true)
    (K : ts_V D dT sz p l e R s m args below meth c nL Q ad lv rf (pc + 3) L S (ts_sI u i j x) k n) : ts_V D dT sz p l e R s m args below meth c nL Q ad lv rf pc L (.inl (.int x) :: .inr i :: S) u k n := by
  intro ls H locs hl hw hS
  obtain ⟨q, hq, hqw⟩ := ts_at_o (dT := dT) (ad := ad) (rf := rf) (u := u) hi hs
  obtain ⟨⟨Cn, T, N⟩, f1, f2, f3, f4, f5⟩ := F
  obtain ⟨g1, ⟨ty0, g2⟩, g3⟩ := ts_clf f1
  refine va_put (T := T) (N := N) (C := Cn) C.1 C.2.1 C.2.2.2.2.1 g1 ty0 g2 g3 C.2.2.2.1 C.2.2.2.2.2.2.2.1.1 hw.1 hw.2 hS q hqw f1 j f2 (C.2.2.2.2.1 _ f3) (fun x h => h) f4 f5 hn hft (by rw [ts_fs_len]; exact (List.getElem?_eq_some_iff.mp hf).1) hd (fun H1 locs1 hP1 hD1 hS1 => ?_)
  exact K ls H1 locs1 hl (ts_HW_set hw hq (by rw [ts_cell_o hs, ← ts_fs_sI hf hc]; rfl) ts_put_ne hP1 hD1) hS1
theorem tv_putR (C : ts_CX D dT sz p l R s m args meth c own cc nL ret d) {ix ci j : Nat} {i i2 : ts_I} {ty : FieldType} (hd : decode cc pc = .ok (.putfield ix, 3)) (F : ts_FF own ix ci j ty) (hi : i ∈ lv) (hs : ts_shp i = .inl ci) (hf : (ts_fk ci)[j]? = some 1) (hin : meth.name = "<init>") (hn : ∀ a, narrow ty (.ref a) = .ref a) (hft : ∀ a, fits ty (.ref a) = true)
    (K : ts_V D dT sz p l e R s m args below meth c nL Q ad lv (ts_sR rf i j (some i2)) (pc + 3) L S u k n) : ts_V D dT sz p l e R s m args below meth c nL Q ad lv rf pc L (.inr i2 :: .inr i :: S) u k n := by
  intro ls H locs hl hw hS
  obtain ⟨q, hq, hqw⟩ := ts_at_o (dT := dT) (ad := ad) (rf := rf) (u := u) hi hs
  obtain ⟨⟨Cn, T, N⟩, f1, f2, f3, f4, f5, f6⟩ := F
  obtain ⟨g1, ⟨ty0, g2⟩, g3⟩ := ts_clf f1
  refine va_putF (T := T) (N := N) (C := Cn) C.1 C.2.1 C.2.2.2.2.1 g1 ty0 g2 g3 C.2.2.2.1 C.2.2.2.2.2.2.2.1.1 hw.1 hw.2 hS q hqw f1 j f2 (C.2.2.2.2.1 _ f3) (fun x h => h) f4 hin f5 f6 (hn _) (hft _) (by rw [ts_fs_len]; exact (List.getElem?_eq_some_iff.mp hf).1) hd (fun H1 locs1 hP1 hD1 hS1 => ?_)
  exact K ls H1 locs1 hl (ts_HW_set hw hq (by rw [ts_cell_o hs, ← ts_fs_sR hf]; rfl) (fun i3 h => ts_cell_ne (fun n => by simp [ts_sR, h]) (fun _ => rfl) (fun _ => rfl) (fun _ => rfl) (fun _ => rfl)) hP1 hD1) hS1
theorem tv_iaload (C : ts_CX D dT sz p l R s m args meth c own cc nL ret d) {i : ts_I} {N j : Nat} {x : Int32} (hd : decode cc pc = .ok (.iaload, 1)) (hi : i ∈ lv) (hs : ts_shp i = .inr (0, N)) (hx : ts_inr x N) (hj : x.toNatClampNeg = j)
    (K : ts_V D dT sz p l e R s m args below meth c nL Q ad lv rf (pc + 1) L (.inl (.int (ts_gI u i j)) :: S) u k n) : ts_V D dT sz p l e R s m args below meth c nL Q ad lv rf pc L (.inl (.int x) :: .inr i :: S) u k n := by
  intro ls H locs hl hw hS
  subst hj
  obtain ⟨q, hq, hqw⟩ := ts_at_a (dT := dT) (ad := ad) (rf := rf) (u := u) hi hs
  exact va_iald C.1 C.2.1 C.2.2.2.2.2.2.2.1.1 hw.1 q 0 hqw (ts_tys_at dT (t := 0) (by decide)) hx hd (K ls H locs hl hw hS)
theorem tv_caload (C : ts_CX D dT sz p l R s m args meth c own cc nL ret d) {i : ts_I} {N j : Nat} {x : Int32} (hd : decode cc pc = .ok (.caload, 1)) (hi : i ∈ lv) (hs : ts_shp i = .inr (1, N)) (hx : ts_inr x N) (hj : x.toNatClampNeg = j)
    (K : ts_V D dT sz p l e R s m args below meth c nL Q ad lv rf (pc + 1) L (.inl (.int (ts_gI u i j)) :: S) u k n) : ts_V D dT sz p l e R s m args below meth c nL Q ad lv rf pc L (.inl (.int x) :: .inr i :: S) u k n := by
  intro ls H locs hl hw hS
  subst hj
  obtain ⟨q, hq, hqw⟩ := ts_at_a (dT := dT) (ad := ad) (rf := rf) (u := u) hi hs
  exact va_cald C.1 C.2.1 C.2.2.2.2.2.2.2.1.1 hw.1 q 1 hqw (ts_tys_at dT (t := 1) (by decide)) hx hd (K ls H locs hl hw hS)
theorem tv_faload (C : ts_CX D dT sz p l R s m args meth c own cc nL ret d) {i : ts_I} {N j : Nat} {x : Int32} (hd : decode cc pc = .ok (.faload, 1)) (hi : i ∈ lv) (hs : ts_shp i = .inr (2, N)) (hx : ts_inr x N) (hj : x.toNatClampNeg = j)
    (K : ts_V D dT sz p l e R s m args below meth c nL Q ad lv rf (pc + 1) L (.inl (.float (ts_gF u i j)) :: S) u k n) : ts_V D dT sz p l e R s m args below meth c nL Q ad lv rf pc L (.inl (.int x) :: .inr i :: S) u k n := by
  intro ls H locs hl hw hS
  subst hj
  obtain ⟨q, hq, hqw⟩ := ts_at_a (dT := dT) (ad := ad) (rf := rf) (u := u) hi hs
  exact va_fald C.1 C.2.1 C.2.2.2.2.2.2.2.1.1 hw.1 q 2 hqw (ts_tys_at dT (t := 2) (by decide)) hx hd (K ls H locs hl hw hS)
theorem tv_laload (C : ts_CX D dT sz p l R s m args meth c own cc nL ret d) {i : ts_I} {N j : Nat} {x : Int32} (hd : decode cc pc = .ok (.laload, 1)) (hi : i ∈ lv) (hs : ts_shp i = .inr (3, N)) (hx : ts_inr x N) (hj : x.toNatClampNeg = j)
    (K : ts_V D dT sz p l e R s m args below meth c nL Q ad lv rf (pc + 1) L (.inl (.long (ts_gJ u i j)) :: S) u k n) : ts_V D dT sz p l e R s m args below meth c nL Q ad lv rf pc L (.inl (.int x) :: .inr i :: S) u k n := by
  intro ls H locs hl hw hS
  subst hj
  obtain ⟨q, hq, hqw⟩ := ts_at_a (dT := dT) (ad := ad) (rf := rf) (u := u) hi hs
  exact va_lald C.1 C.2.1 C.2.2.2.2.2.2.2.1.1 hw.1 q 3 hqw (ts_tys_at dT (t := 3) (by decide)) hx hd (K ls H locs hl hw hS)
theorem tv_daload (C : ts_CX D dT sz p l R s m args meth c own cc nL ret d) {i : ts_I} {N j : Nat} {x : Int32} (hd : decode cc pc = .ok (.daload, 1)) (hi : i ∈ lv) (hs : ts_shp i = .inr (4, N)) (hx : ts_inr x N) (hj : x.toNatClampNeg = j)
    (K : ts_V D dT sz p l e R s m args below meth c nL Q ad lv rf (pc + 1) L (.inl (.double (ts_gD u i j)) :: S) u k n) : ts_V D dT sz p l e R s m args below meth c nL Q ad lv rf pc L (.inl (.int x) :: .inr i :: S) u k n := by
  intro ls H locs hl hw hS
  subst hj
  obtain ⟨q, hq, hqw⟩ := ts_at_a (dT := dT) (ad := ad) (rf := rf) (u := u) hi hs
  exact va_dald C.1 C.2.1 C.2.2.2.2.2.2.2.1.1 hw.1 q 4 hqw (ts_tys_at dT (t := 4) (by decide)) hx hd (K ls H locs hl hw hS)
theorem tv_aaload5 (C : ts_CX D dT sz p l R s m args meth c own cc nL ret d) {i i2 : ts_I} {N j : Nat} {x : Int32} (hd : decode cc pc = .ok (.aaload, 1)) (hi : i ∈ lv) (hs : ts_shp i = .inr (5, N)) (hx : ts_inr x N) (hj : x.toNatClampNeg = j) (hr : rf i j = some i2)
    (K : ts_V D dT sz p l e R s m args below meth c nL Q ad lv rf (pc + 1) L (.inr i2 :: S) u k n) : ts_V D dT sz p l e R s m args below meth c nL Q ad lv rf pc L (.inl (.int x) :: .inr i :: S) u k n := by
  intro ls H locs hl hw hS
  subst hj
  obtain ⟨q, hq, hqw⟩ := ts_at_a (dT := dT) (ad := ad) (rf := rf) (u := u) hi hs
  refine va_aldq (C := RX5) (f := fun j => (rf i j).map ad) C.1 C.2.1 C.2.2.2.2.2.2.2.1.1 hw.1 q 5 hqw (ts_tys_at dT (t := 5) (by decide)) hx hd ?_
  rw [hr]
  exact K ls H locs hl hw hS
theorem tv_aaload6 (C : ts_CX D dT sz p l R s m args meth c own cc nL ret d) {i i2 : ts_I} {N j : Nat} {x : Int32} (hd : decode cc pc = .ok (.aaload, 1)) (hi : i ∈ lv) (hs : ts_shp i = .inr (6, N)) (hx : ts_inr x N) (hj : x.toNatClampNeg = j) (hr : rf i j = some i2)
    (K : ts_V D dT sz p l e R s m args below meth c nL Q ad lv rf (pc + 1) L (.inr i2 :: S) u k n) : ts_V D dT sz p l e R s m args below meth c nL Q ad lv rf pc L (.inl (.int x) :: .inr i :: S) u k n := by
  intro ls H locs hl hw hS
  subst hj
  obtain ⟨q, hq, hqw⟩ := ts_at_a (dT := dT) (ad := ad) (rf := rf) (u := u) hi hs
  refine va_aldq (C := RX1) (f := fun j => (rf i j).map ad) C.1 C.2.1 C.2.2.2.2.2.2.2.1.1 hw.1 q 6 hqw (ts_tys_at dT (t := 6) (by decide)) hx hd ?_
  rw [hr]
  exact K ls H locs hl hw hS
theorem tv_aaload7 (C : ts_CX D dT sz p l R s m args meth c own cc nL ret d) {i i2 : ts_I} {N j : Nat} {x : Int32} (hd : decode cc pc = .ok (.aaload, 1)) (hi : i ∈ lv) (hs : ts_shp i = .inr (7, N)) (hx : ts_inr x N) (hj : x.toNatClampNeg = j) (hr : rf i j = some i2)
    (K : ts_V D dT sz p l e R s m args below meth c nL Q ad lv rf (pc + 1) L (.inr i2 :: S) u k n) : ts_V D dT sz p l e R s m args below meth c nL Q ad lv rf pc L (.inl (.int x) :: .inr i :: S) u k n := by
  intro ls H locs hl hw hS
  subst hj
  obtain ⟨q, hq, hqw⟩ := ts_at_a (dT := dT) (ad := ad) (rf := rf) (u := u) hi hs
  refine va_aldq (C := RX4) (f := fun j => (rf i j).map ad) C.1 C.2.1 C.2.2.2.2.2.2.2.1.1 hw.1 q 7 hqw (ts_tys_at dT (t := 7) (by decide)) hx hd ?_
  rw [hr]
  exact K ls H locs hl hw hS
theorem tv_iastore (C : ts_CX D dT sz p l R s m args meth c own cc nL ret d) {i : ts_I} {N j : Nat} {x : Int32} {v : Int32} (hd : decode cc pc = .ok (.iastore, 1)) (hi : i ∈ lv) (hs : ts_shp i = .inr (0, N)) (hx : ts_inr x N) (hj : x.toNatClampNeg = j)
    (K : ts_V D dT sz p l e R s m args below meth c nL Q ad lv rf (pc + 1) L S (ts_sI u i j v) k n) : ts_V D dT sz p l e R s m args below meth c nL Q ad lv rf pc L (.inl (.int v) :: .inl (.int x) :: .inr i :: S) u k n := by
  intro ls H locs hl hw hS
  subst hj
  obtain ⟨q, hq, hqw⟩ := ts_at_a (dT := dT) (ad := ad) (rf := rf) (u := u) hi hs
  refine va_iast C.1 C.2.1 C.2.2.2.2.2.2.2.1.1 hw.1 hw.2 hS q 0 hqw (ts_tys_at dT (t := 0) (by decide)) hx hd (fun H1 locs1 hP1 hD1 hS1 => ?_)
  exact K ls H1 locs1 hl (ts_HW_set hw hq (by rw [ts_cell_a hs]; simp [ts_arr, ts_sI]; rfl) (fun i3 h => ts_cell_ne (fun _ => rfl) (fun n => by simp [ts_sI, h]) (fun _ => rfl) (fun _ => rfl) (fun _ => rfl)) hP1 hD1) hS1
theorem tv_castore (C : ts_CX D dT sz p l R s m args meth c own cc nL ret d) {i : ts_I} {N j : Nat} {x : Int32} {v : Int32} (hd : decode cc pc = .ok (.castore, 1)) (hi : i ∈ lv) (hs : ts_shp i = .inr (1, N)) (hx : ts_inr x N) (hj : x.toNatClampNeg = j)
    (K : ts_V D dT sz p l e R s m args below meth c nL Q ad lv rf (pc + 1) L S (ts_sI u i j (vp_nar .char v)) k n) : ts_V D dT sz p l e R s m args below meth c nL Q ad lv rf pc L (.inl (.int v) :: .inl (.int x) :: .inr i :: S) u k n := by
  intro ls H locs hl hw hS
  subst hj
  obtain ⟨q, hq, hqw⟩ := ts_at_a (dT := dT) (ad := ad) (rf := rf) (u := u) hi hs
  refine va_cast C.1 C.2.1 C.2.2.2.2.2.2.2.1.1 hw.1 hw.2 hS q 1 hqw (ts_tys_at dT (t := 1) (by decide)) hx hd (fun H1 locs1 hP1 hD1 hS1 => ?_)
  exact K ls H1 locs1 hl (ts_HW_set hw hq (by rw [ts_cell_a hs]; simp [ts_arr, ts_sI]; rfl) (fun i3 h => ts_cell_ne (fun _ => rfl) (fun n => by simp [ts_sI, h]) (fun _ => rfl) (fun _ => rfl) (fun _ => rfl)) hP1 hD1) hS1
theorem tv_fastore (C : ts_CX D dT sz p l R s m args meth c own cc nL ret d) {i : ts_I} {N j : Nat} {x : Int32} {v : UInt32} (hd : decode cc pc = .ok (.fastore, 1)) (hi : i ∈ lv) (hs : ts_shp i = .inr (2, N)) (hx : ts_inr x N) (hj : x.toNatClampNeg = j)
    (K : ts_V D dT sz p l e R s m args below meth c nL Q ad lv rf (pc + 1) L S (ts_sF u i j v) k n) : ts_V D dT sz p l e R s m args below meth c nL Q ad lv rf pc L (.inl (.float v) :: .inl (.int x) :: .inr i :: S) u k n := by
  intro ls H locs hl hw hS
  subst hj
  obtain ⟨q, hq, hqw⟩ := ts_at_a (dT := dT) (ad := ad) (rf := rf) (u := u) hi hs
  refine va_fast C.1 C.2.1 C.2.2.2.2.2.2.2.1.1 hw.1 hw.2 hS q 2 hqw (ts_tys_at dT (t := 2) (by decide)) hx hd (fun H1 locs1 hP1 hD1 hS1 => ?_)
  exact K ls H1 locs1 hl (ts_HW_set hw hq (by rw [ts_cell_a hs]; simp [ts_arr, ts_sF]; rfl) (fun i3 h => ts_cell_ne (fun _ => rfl) (fun _ => rfl) (fun n => by simp [ts_sF, h]) (fun _ => rfl) (fun _ => rfl)) hP1 hD1) hS1
theorem tv_lastore (C : ts_CX D dT sz p l R s m args meth c own cc nL ret d) {i : ts_I} {N j : Nat} {x : Int32} {v : Int64} (hd : decode cc pc = .ok (.lastore, 1)) (hi : i ∈ lv) (hs : ts_shp i = .inr (3, N)) (hx : ts_inr x N) (hj : x.toNatClampNeg = j)
    (K : ts_V D dT sz p l e R s m args below meth c nL Q ad lv rf (pc + 1) L S (ts_sJ u i j v) k n) : ts_V D dT sz p l e R s m args below meth c nL Q ad lv rf pc L (.inl (.long v) :: .inl (.int x) :: .inr i :: S) u k n := by
  intro ls H locs hl hw hS
  subst hj
  obtain ⟨q, hq, hqw⟩ := ts_at_a (dT := dT) (ad := ad) (rf := rf) (u := u) hi hs
  refine va_last C.1 C.2.1 C.2.2.2.2.2.2.2.1.1 hw.1 hw.2 hS q 3 hqw (ts_tys_at dT (t := 3) (by decide)) hx hd (fun H1 locs1 hP1 hD1 hS1 => ?_)
  exact K ls H1 locs1 hl (ts_HW_set hw hq (by rw [ts_cell_a hs]; simp [ts_arr, ts_sJ]; rfl) (fun i3 h => ts_cell_ne (fun _ => rfl) (fun _ => rfl) (fun _ => rfl) (fun n => by simp [ts_sJ, h]) (fun _ => rfl)) hP1 hD1) hS1
theorem tv_dastore (C : ts_CX D dT sz p l R s m args meth c own cc nL ret d) {i : ts_I} {N j : Nat} {x : Int32} {v : UInt64} (hd : decode cc pc = .ok (.dastore, 1)) (hi : i ∈ lv) (hs : ts_shp i = .inr (4, N)) (hx : ts_inr x N) (hj : x.toNatClampNeg = j)
    (K : ts_V D dT sz p l e R s m args below meth c nL Q ad lv rf (pc + 1) L S (ts_sD u i j v) k n) : ts_V D dT sz p l e R s m args below meth c nL Q ad lv rf pc L (.inl (.double v) :: .inl (.int x) :: .inr i :: S) u k n := by
  intro ls H locs hl hw hS
  subst hj
  obtain ⟨q, hq, hqw⟩ := ts_at_a (dT := dT) (ad := ad) (rf := rf) (u := u) hi hs
  refine va_dast C.1 C.2.1 C.2.2.2.2.2.2.2.1.1 hw.1 hw.2 hS q 4 hqw (ts_tys_at dT (t := 4) (by decide)) hx hd (fun H1 locs1 hP1 hD1 hS1 => ?_)
  exact K ls H1 locs1 hl (ts_HW_set hw hq (by rw [ts_cell_a hs]; simp [ts_arr, ts_sD]; rfl) (fun i3 h => ts_cell_ne (fun _ => rfl) (fun _ => rfl) (fun _ => rfl) (fun _ => rfl) (fun n => by simp [ts_sD, h])) hP1 hD1) hS1
theorem tv_alen (C : ts_CX D dT sz p l R s m args meth c own cc nL ret d) {i : ts_I} {t N : Nat} (hd : decode cc pc = .ok (.arraylength, 1)) (hi : i ∈ lv) (hs : ts_shp i = .inr (t, N)) (ht : t < 8)
    (K : ts_V D dT sz p l e R s m args below meth c nL Q ad lv rf (pc + 1) L (.inl (.int (Int32.ofNat N)) :: S) u k n) : ts_V D dT sz p l e R s m args below meth c nL Q ad lv rf pc L (.inr i :: S) u k n := by
  intro ls H locs hl hw hS
  obtain ⟨q, hq, hqw⟩ := ts_at_a (dT := dT) (ad := ad) (rf := rf) (u := u) hi hs
  exact va_alen C.1 C.2.1 C.2.2.2.2.2.2.2.1.1 hw.1 q t hqw (ts_tys_at dT ht) rfl hd (K ls H locs hl hw hS)
theorem ts_rest {ad : ts_I → Nat} {S : List ts_AV} (h : (S.map fun v => (ts_cv ad v).category).sum ≤ 8) : ((S.map (ts_cv ad)).map fun v => v.category).sum ≤ 8 := by
  rw [List.map_map]; exact h
theorem ts_nfw : nativeFrameWords "java/lang/System" "arraycopy" 5 + 11 ≤ 100 := by decide +kernel
theorem tv_copyi (C : ts_CX D dT sz p l R s m args meth c own cc nL ret d) {ix n0 n1 : Nat} {i i2 : ts_I} {sp dp z : Int32} (hd : decode cc pc = .ok (.invokestatic ix, 3)) (F : Cond.methodLink own ix arraycopyName ∈ ts_ws) (G : Cond.native arraycopyName ∈ ts_ws ∧ Cond.static arraycopyName ∈ ts_ws ∧ Cond.initialized "java/lang/System" ∈ ts_ws) (hi : i ∈ lv) (hs : ts_shp i = .inr (0, n0)) (hi2 : i2 ∈ lv) (hs2 : ts_shp i2 = .inr (0, n1)) (ho : ts_okc sp dp z n0 n1) (hrest : ∀ ad : ts_I → Nat, (S.map fun v => (ts_cv ad v).category).sum ≤ 8)
    (K : ts_V D dT sz p l e R s m args below meth c nL Q ad lv rf (pc + 3) L S (ts_cI u i i2 sp.toNatClampNeg dp.toNatClampNeg z.toNatClampNeg) k n) : ts_V D dT sz p l e R s m args below meth c nL Q ad lv rf pc L (.inl (.int z) :: .inl (.int dp) :: .inr i2 :: .inl (.int sp) :: .inr i :: S) u k n := by
  intro ls H locs hl hw hS
  obtain ⟨q, hq, hqw⟩ := ts_at_a (dT := dT) (ad := ad) (rf := rf) (u := u) hi hs
  obtain ⟨q2, hq2, hqw2⟩ := ts_at_a (dT := dT) (ad := ad) (rf := rf) (u := u) hi2 hs2
  have hr := ts_rest (hrest ad)
  have hn := ts_nfw
  have h1 := C.2.2.2.2.2.2.2.2.1
  have h2 := C.2.2.2.2.2.2.2.2.2.1
  obtain ⟨o1, o2, o3, o4, o5⟩ := ho
  refine va_copyi C.1 C.2.1 (C.2.2.1.trans hl.1.symm) C.2.2.2.1 (C.2.2.2.2.1 _ F) (C.2.2.2.2.1 _ G.1) (C.2.2.2.2.1 _ G.2.1) (C.2.2.2.2.1 _ G.2.2) C.2.2.2.2.2.2.2.1.1 hw.1 hw.2 hS q q2 0 0 hqw hqw2 (ts_tys_at dT (t := 0) (by decide)) (ts_tys_at dT (t := 0) (by decide)) rfl o1 o2 o3 o4 o5 (fun _ _ => rfl) (by omega) (by omega) hd (fun H1 locs1 hP1 hD1 hS1 => ?_)
  exact K ls H1 locs1 hl (ts_HW_set hw hq2 (by rw [ts_cell_a hs2]; simp [ts_arr, ts_cI]) (fun i3 h => ts_cell_ne (fun _ => rfl) (fun n => by simp [ts_cI, h]) (fun _ => rfl) (fun _ => rfl) (fun _ => rfl)) hP1 hD1) hS1
theorem tv_copyf (C : ts_CX D dT sz p l R s m args meth c own cc nL ret d) {ix n0 n1 : Nat} {i i2 : ts_I} {sp dp z : Int32} (hd : decode cc pc = .ok (.invokestatic ix, 3)) (F : Cond.methodLink own ix arraycopyName ∈ ts_ws) (G : Cond.native arraycopyName ∈ ts_ws ∧ Cond.static arraycopyName ∈ ts_ws ∧ Cond.initialized "java/lang/System" ∈ ts_ws) (hi : i ∈ lv) (hs : ts_shp i = .inr (2, n0)) (hi2 : i2 ∈ lv) (hs2 : ts_shp i2 = .inr (2, n1)) (ho : ts_okc sp dp z n0 n1) (hrest : ∀ ad : ts_I → Nat, (S.map fun v => (ts_cv ad v).category).sum ≤ 8)
    (K : ts_V D dT sz p l e R s m args below meth c nL Q ad lv rf (pc + 3) L S (ts_cF u i i2 sp.toNatClampNeg dp.toNatClampNeg z.toNatClampNeg) k n) : ts_V D dT sz p l e R s m args below meth c nL Q ad lv rf pc L (.inl (.int z) :: .inl (.int dp) :: .inr i2 :: .inl (.int sp) :: .inr i :: S) u k n := by
  intro ls H locs hl hw hS
  obtain ⟨q, hq, hqw⟩ := ts_at_a (dT := dT) (ad := ad) (rf := rf) (u := u) hi hs
  obtain ⟨q2, hq2, hqw2⟩ := ts_at_a (dT := dT) (ad := ad) (rf := rf) (u := u) hi2 hs2
  have hr := ts_rest (hrest ad)
  have hn := ts_nfw
  have h1 := C.2.2.2.2.2.2.2.2.1
  have h2 := C.2.2.2.2.2.2.2.2.2.1
  obtain ⟨o1, o2, o3, o4, o5⟩ := ho
  refine va_copyf C.1 C.2.1 (C.2.2.1.trans hl.1.symm) C.2.2.2.1 (C.2.2.2.2.1 _ F) (C.2.2.2.2.1 _ G.1) (C.2.2.2.2.1 _ G.2.1) (C.2.2.2.2.1 _ G.2.2) C.2.2.2.2.2.2.2.1.1 hw.1 hw.2 hS q q2 2 2 hqw hqw2 (ts_tys_at dT (t := 2) (by decide)) (ts_tys_at dT (t := 2) (by decide)) rfl o1 o2 o3 o4 o5 (fun _ _ => rfl) (by omega) (by omega) hd (fun H1 locs1 hP1 hD1 hS1 => ?_)
  exact K ls H1 locs1 hl (ts_HW_set hw hq2 (by rw [ts_cell_a hs2]; simp [ts_arr, ts_cF]) (fun i3 h => ts_cell_ne (fun _ => rfl) (fun _ => rfl) (fun n => by simp [ts_cF, h]) (fun _ => rfl) (fun _ => rfl)) hP1 hD1) hS1
end TH
