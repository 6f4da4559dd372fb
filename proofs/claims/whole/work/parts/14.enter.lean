/-! the rest of the instructions; how a method's walk begins -/
section TE
variable {D : va_G} {dT : Nat → ClassId} {sz : Nat} {p : Program} {l : Launch} {e : Env} {R : Room} {s : State} {m : MethodId} {args : Array Value} {below : List Frame} {meth : Method} {c : Code} {nL d : Nat} {Q : State → Prop} {own : String} {cc : ByteArray} {ret : Option FieldType}
variable {ad : ts_I → Nat} {lv : List ts_I} {rf : ts_I → Nat → Option ts_I} {pc : Nat} {L L' : List (Option ts_AV)} {S S0 : List ts_AV} {u u' : ts_Mem} {k n mc ms : Nat}
theorem tv_dup2 (C : ts_CX D dT sz p l R s m args meth c own cc nL ret d) {v w : ts_AV} (hd : decode cc pc = .ok (.dup2, 1)) (hc : ∀ ad, (ts_cv ad v).category = 1 ∧ (ts_cv ad w).category = 1) (K : ts_V D dT sz p l e R s m args below meth c nL Q ad lv rf (pc + 1) L (v :: w :: v :: w :: S) u k n) : ts_V D dT sz p l e R s m args below meth c nL Q ad lv rf pc L (v :: w :: S) u k n := fun ls H locs hl hw hS => lv_dup2_11 C.1 C.2.1 hd (hc ad).1 (hc ad).2 (K ls H locs hl hw hS)
theorem tv_lcmp (C : ts_CX D dT sz p l R s m args meth c own cc nL ret d) {x y : Int64} (hd : decode cc pc = .ok (.lcmp, 1)) (K : ts_V D dT sz p l e R s m args below meth c nL Q ad lv rf (pc + 1) L (.inl (.int (lg_cmp x y)) :: S) u k n) : ts_V D dT sz p l e R s m args below meth c nL Q ad lv rf pc L (.inl (.long y) :: .inl (.long x) :: S) u k n := fun ls H locs hl hw hS => W.lcmp C.1 C.2.1 hd (K ls H locs hl hw hS)
theorem tv_lconst (C : ts_CX D dT sz p l R s m args meth c own cc nL ret d) {z : Fin 2} {v : Int64} (hd : decode cc pc = .ok (.lconst z, 1)) (hv : Int64.ofNat (z : Nat) = v) (K : ts_V D dT sz p l e R s m args below meth c nL Q ad lv rf (pc + 1) L (.inl (.long v) :: S) u k n) : ts_V D dT sz p l e R s m args below meth c nL Q ad lv rf pc L S u k n := fun ls H locs hl hw hS => lv_lconst C.1 C.2.1 hd hv (K ls H locs hl hw hS)
theorem tv_fconst0 (C : ts_CX D dT sz p l R s m args meth c own cc nL ret d) (hd : decode cc pc = .ok (.fconst 0, 1)) (K : ts_V D dT sz p l e R s m args below meth c nL Q ad lv rf (pc + 1) L (.inl (.float 0) :: S) u k n) : ts_V D dT sz p l e R s m args below meth c nL Q ad lv rf pc L S u k n := fun ls H locs hl hw hS => lv_fconst0 C.1 C.2.1 hd (K ls H locs hl hw hS)
theorem tv_astoreX (C : ts_CX D dT sz p l R s m args meth c own cc nL ret d) {i a : Nat} (hd : decode cc pc = .ok (.astore i, 2)) (hn : i < nL) (hok : ts_ok2 L i = true) (hL : L.set i none = L') (K : ts_V D dT sz p l e R s m args below meth c nL Q ad lv rf (pc + 2) L' S u k n) : ts_V D dT sz p l e R s m args below meth c nL Q ad lv rf pc L (.inl (.ref a) :: S) u k n := by
  intro ls H locs hl hw hS
  refine lv_astore C.1 C.2.1 hd (ts_lr_has hl) hn rfl (fun ls2 hl2 => K ls2 H locs ?_ hw hS)
  obtain ⟨h1, h2, h3⟩ := ts_lr_set1 (ad := ad) (v := .inl (.ref a)) hok hl2
  refine ⟨h1, h2, fun j w hj => ?_⟩
  rw [← hL] at hj
  by_cases hji : j = i
  · subst hji
    rw [List.getElem?_set] at hj
    simp only [if_true] at hj
    split at hj <;> cases hj
  · rw [List.getElem?_set_ne (fun e => hji e.symm)] at hj
    exact h3 j w (by rw [List.getElem?_set_ne (fun e => hji e.symm)]; exact hj)
theorem tv_astoreX_n (C : ts_CX D dT sz p l R s m args meth c own cc nL ret d) {j0 : Fin 4} {i a : Nat} (hd : decode cc pc = .ok (.astore_n j0, 1)) (hi : (j0 : Nat) = i) (hn : i < nL) (hok : ts_ok2 L i = true) (hL : L.set i none = L') (K : ts_V D dT sz p l e R s m args below meth c nL Q ad lv rf (pc + 1) L' S u k n) : ts_V D dT sz p l e R s m args below meth c nL Q ad lv rf pc L (.inl (.ref a) :: S) u k n := by
  intro ls H locs hl hw hS
  refine lv_astore_n C.1 C.2.1 hd hi (ts_lr_has hl) hn rfl (fun ls2 hl2 => K ls2 H locs ?_ hw hS)
  obtain ⟨h1, h2, h3⟩ := ts_lr_set1 (ad := ad) (v := .inl (.ref a)) hok hl2
  refine ⟨h1, h2, fun j w hj => ?_⟩
  rw [← hL] at hj
  by_cases hji : j = i
  · subst hji
    rw [List.getElem?_set] at hj
    simp only [if_true] at hj
    split at hj <;> cases hj
  · rw [List.getElem?_set_ne (fun e => hji e.symm)] at hj
    exact h3 j w (by rw [List.getElem?_set_ne (fun e => hji e.symm)]; exact hj)
/-- the locals may be forgotten -/
theorem tv_forget (hL : ∀ (j : Nat) (v : ts_AV), L'[j]? = some (some v) → L[j]? = some (some v)) (K : ts_V D dT sz p l e R s m args below meth c nL Q ad lv rf pc L' S u k n) : ts_V D dT sz p l e R s m args below meth c nL Q ad lv rf pc L S u k n := fun ls H locs hl hw hS => K ls H locs ⟨hl.1, hl.2.1, fun j v h => hl.2.2 j v (hL j v h)⟩ hw hS
theorem tv_tabIn (C : ts_CX D dT sz p l R s m args meth c own cc nL ret d) {dflt lo hi off : Int} {offs : Array Int} {len : Nat} {x : Int32} (tgt : Nat) (hd : decode cc pc = .ok (.tableswitch dflt lo hi offs, len)) (h1 : ¬ x.toInt < lo) (h2 : ¬ hi < x.toInt) (ho : offs[(x.toInt - lo).toNat]? = some off) (ht : (pc : Int) + off = (tgt : Int)) (K : ts_V D dT sz p l e R s m args below meth c nL Q ad lv rf tgt L S u k n) : ts_V D dT sz p l e R s m args below meth c nL Q ad lv rf pc L (.inl (.int x) :: S) u k n := fun ls H locs hl hw hS => lv_tableIn C.1 C.2.1 hd h1 h2 ho ht (K ls H locs hl hw hS)
theorem tv_tabOut (C : ts_CX D dT sz p l R s m args meth c own cc nL ret d) {dflt lo hi : Int} {offs : Array Int} {len : Nat} {x : Int32} (tgt : Nat) (hd : decode cc pc = .ok (.tableswitch dflt lo hi offs, len)) (h : x.toInt < lo ∨ hi < x.toInt) (ht : (pc : Int) + dflt = (tgt : Int)) (K : ts_V D dT sz p l e R s m args below meth c nL Q ad lv rf tgt L S u k n) : ts_V D dT sz p l e R s m args below meth c nL Q ad lv rf pc L (.inl (.int x) :: S) u k n := fun ls H locs hl hw hS => lv_tableOut C.1 C.2.1 hd h ht (K ls H locs hl hw hS)
theorem tv_lookup (C : ts_CX D dT sz p l R s m args meth c own cc nL ret d) {dflt off : Int} {ps : Array (Int × Int)} {len : Nat} {x : Int32} (tgt : Nat) (hd : decode cc pc = .ok (.lookupswitch dflt ps, len)) (hp : (ps.toList.zip (ps.toList.drop 1)).all (fun (a, next) => a.1 < next.1) = true) (ho : Op.lookupswitch.offset ps.toList dflt x.toInt = off) (ht : (pc : Int) + off = (tgt : Int)) (K : ts_V D dT sz p l e R s m args below meth c nL Q ad lv rf tgt L S u k n) : ts_V D dT sz p l e R s m args below meth c nL Q ad lv rf pc L (.inl (.int x) :: S) u k n := fun ls H locs hl hw hS => lv_lookup C.1 C.2.1 hd hp ho ht (K ls H locs hl hw hS)
theorem tv_max (C : ts_CX D dT sz p l R s m args meth c own cc nL ret d) {ix : Nat} {x y : Int32} (hd : decode cc pc = .ok (.invokestatic ix, 3)) (F : Cond.methodLink own ix Lib.Math.max.name ∈ ts_ws) (G : Cond.static Lib.Math.max.name ∈ ts_ws ∧ Cond.initialized "java/lang/Math" ∈ ts_ws ∧ Cond.code Lib.Math.max.name Lib.Math.max.code 2 (some .int) ∈ ts_ws) (hk : k ≤ R.cells ∧ n ≤ R.slots) (hrest : ∀ ad : ts_I → Nat, (S.map fun v => (ts_cv ad v).category).sum ≤ 8)
    (K : ts_V D dT sz p l e R s m args below meth c nL Q ad lv rf (pc + 3) L (.inl (.int (if x < y then y else x)) :: S) u k n) : ts_V D dT sz p l e R s m args below meth c nL Q ad lv rf pc L (.inl (.int y) :: .inl (.int x) :: S) u k n := by
  intro ls H locs hl hw hS
  have h1 := C.2.2.2.2.2.2.2.2.1
  have h2 := C.2.2.2.2.2.2.2.2.2.1
  have h3 := ts_rest (hrest ad)
  exact va_mmax C.1 C.2.1 (C.2.2.1.trans hl.1.symm) C.2.2.2.1 (C.2.2.2.2.1 _ F) (C.2.2.2.2.1 _ G.1) (C.2.2.2.2.1 _ G.2.1) (C.2.2.2.2.1 _ G.2.2) (by omega) (by omega) hk.1 hk.2 hd (K ls H locs hl hw hS)
theorem tv_min (C : ts_CX D dT sz p l R s m args meth c own cc nL ret d) {ix : Nat} {x y : Int32} (hd : decode cc pc = .ok (.invokestatic ix, 3)) (F : Cond.methodLink own ix Lib.Math.min.name ∈ ts_ws) (G : Cond.static Lib.Math.min.name ∈ ts_ws ∧ Cond.initialized "java/lang/Math" ∈ ts_ws ∧ Cond.code Lib.Math.min.name Lib.Math.min.code 2 (some .int) ∈ ts_ws) (hk : k ≤ R.cells ∧ n ≤ R.slots) (hrest : ∀ ad : ts_I → Nat, (S.map fun v => (ts_cv ad v).category).sum ≤ 8)
    (K : ts_V D dT sz p l e R s m args below meth c nL Q ad lv rf (pc + 3) L (.inl (.int (if y < x then y else x)) :: S) u k n) : ts_V D dT sz p l e R s m args below meth c nL Q ad lv rf pc L (.inl (.int y) :: .inl (.int x) :: S) u k n := by
  intro ls H locs hl hw hS
  have h1 := C.2.2.2.2.2.2.2.2.1
  have h2 := C.2.2.2.2.2.2.2.2.2.1
  have h3 := ts_rest (hrest ad)
  exact va_mmin C.1 C.2.1 (C.2.2.1.trans hl.1.symm) C.2.2.2.1 (C.2.2.2.2.1 _ F) (C.2.2.2.2.1 _ G.1) (C.2.2.2.2.1 _ G.2.1) (C.2.2.2.2.1 _ G.2.2) (by omega) (by omega) hk.1 hk.2 hd (K ls H locs hl hw hS)
theorem tv_throwW (C : ts_CX D dT sz p l R s m args meth c own cc nL ret d) {ik is ic mc2 ms2 : Nat} {cls text : String} {names : List String} (hX : ∀ x ∈ c.exceptionTable.toList, False) (F : ts_TH own ik is ic cls text names)
    (d0 : decode cc pc = .ok (.new ik, 3)) (d3 : decode cc (pc + 3) = .ok (.dup, 1)) (d4 : decode cc (pc + 4) = .ok (.ldc_w is, 3)) (d6 : decode cc (pc + 7) = .ok (.invokespecial ic, 3)) (d9 : decode cc (pc + 10) = .ok (.athrow, 1))
    (hk : k + 1 ≤ R.cells ∧ n + 6 ≤ R.slots) (hrest : ∀ ad : ts_I → Nat, (S.map fun v => (ts_cv ad v).category).sum ≤ 8) (hc2 : k + 1 ≤ mc2 ∧ n + 6 ≤ ms2) : ts_V D dT sz p l e R s m args below meth c nL (ts_Q below D dT sz ad lv rf (.inr cls) u args s mc2 ms2) ad lv rf pc L S u k n := by
  intro ls H locs hl hw hS
  obtain ⟨f1, f2, f3, f4, f5, f6, f7, f8⟩ := F
  obtain ⟨sa, hsa⟩ := C.2.2.2.2.2.2.2.1.2.2.2.2.1 _ f5
  have h1 := C.2.2.2.2.2.2.2.2.1
  have h2 := C.2.2.2.2.2.2.2.2.2.1
  have h3 := ts_rest (hrest ad)
  have hat : ∀ w ∈ vx_atS own ic cls names, w.before args s = true := by
    intro w hw2
    obtain ⟨g1, g2 | g2⟩ := f6 w hw2
    · exact C.2.2.2.2.1 w (List.mem_filter.mpr ⟨g1, g2⟩)
    · exact va_Nw.use g2.2 (C.2.2.2.2.2.2.2.1.2.2.2.2.2.2 _ g1 g2.1)
  refine vx_throwSW C.1 C.2.1 C.2.2.2.2.2.2.1 C.2.2.2.1 f1 f2 (C.2.2.2.2.1 _ f3) (C.2.2.2.2.1 _ f4) hsa hat f7 C.2.2.2.2.2.2.2.1.2.2.1 C.2.2.2.2.2.2.2.1.2.2.2.1 hS (hl.1.trans C.2.2.1.symm) d0 d3 d4 d6 d9 (fun x hx => (hX x hx).elim) (by omega) (by omega) hk.1 hk.2 C.2.2.2.2.2.1 (fun t hv hz hq => ⟨rfl, ?_, ?_⟩) hS.2.2 hc2.1 hc2.2
  · exact ⟨hw.1.kept (fun j x hx => hq x.1 (vx_lt hw.1 hx)), hw.2⟩
  · exact ⟨Nat.le_trans hS.1 hz, fun q g1 g2 => (hq q (Nat.lt_of_lt_of_le g1 hS.1)).trans (hS.2.1 q g1 g2)⟩
end TE
/-- one-word arguments -/
def ts_one : ts_AV → Bool
  | .inl (.long _) => false
  | .inl (.double _) => false
  | _ => true
theorem ts_one_cat {v : ts_AV} (h : ts_one v = true) (ad : ts_I → Nat) : (ts_cv ad v).category = 1 := by
  cases v with
  | inr i => rfl
  | inl w => cases w <;> first | rfl | exact absurd h (by simp [ts_one])
theorem ts_sl {ad : ts_I → Nat} : ∀ (A : List ts_AV), A.all ts_one = true → (lg_sl (A.map (ts_cv ad))).length = A.length
  | [], _ => rfl
  | a :: A, h => by
    simp only [List.all_cons, Bool.and_eq_true] at h
    have := ts_sl (ad := ad) A h.2
    simp only [lg_sl, List.map_cons, List.flatMap_cons, List.length_append] at this ⊢
    rw [if_neg (by rw [ts_one_cat h.1]; decide), this]
    simp
    omega
theorem ts_av {ad : ts_I → Nat} : ∀ (A : List ts_AV) (b : Nat), A.all ts_one = true → ∀ (i : Nat) (v : ts_AV), A[i]? = some v → (b + i, ts_cv ad v) ∈ lv_args b (A.map (ts_cv ad))
  | [], _, _, i, v, h => by simp at h
  | a :: A, b, h, i, v, hv => by
    simp only [List.all_cons, Bool.and_eq_true] at h
    show (b + i, ts_cv ad v) ∈ (b, ts_cv ad a) :: lv_args (if (ts_cv ad a).category = 2 then b + 2 else b + 1) (A.map (ts_cv ad))
    rw [if_neg (by rw [ts_one_cat h.1]; decide)]
    cases i with
    | zero =>
      cases hv
      exact List.mem_cons_self
    | succ j =>
      have := ts_av (ad := ad) A (b + 1) h.2 j v (by simpa using hv)
      rw [show b + (j + 1) = b + 1 + j by omega]
      exact List.mem_cons_of_mem _ this
theorem ts_lr_entry {ad : ts_I → Nat} {nL : Nat} (A : List ts_AV) (h : A.all ts_one = true) (hn : A.length ≤ nL) : ts_lr nL ad (A.map some ++ List.replicate (nL - A.length) none) ((lg_sl (A.map (ts_cv ad)) ++ List.replicate (nL - (lg_sl (A.map (ts_cv ad))).length) Slot.unset).toArray) := by
  obtain ⟨h1, h2, h3⟩ := lv_entry (A.map (ts_cv ad)) (n := nL) (by rw [ts_sl A h]; exact hn)
  refine ⟨h1, h2, fun i v hv => ?_⟩
  by_cases hi : i < A.length
  · rw [List.getElem?_append_left (by simpa using hi), List.getElem?_map] at hv
    cases ha : A[i]? with
    | none => rw [ha] at hv; cases hv
    | some w =>
      rw [ha] at hv
      cases hv
      have := ts_av (ad := ad) A 0 h i v ha
      rw [Nat.zero_add] at this
      exact h3 _ this
  · rw [List.getElem?_append_right (by simpa using Nat.not_lt.mp hi), List.getElem?_replicate] at hv
    split at hv <;> cases hv
/-- a contract out of a walk: a method without handlers -/
theorem ts_enter {l : Launch} {D : va_G} {dT : Nat → ClassId} {sz : Nat} {y : MethodName} {w0 : Cond} {cc : ByteArray} {nL d mc ms : Nat} {ret : Option FieldType} {ad : ts_I → Nat} {lv : List ts_I} {rf : ts_I → Nat → Option ts_I} {A : List ts_AV} {u u' : ts_Mem} {out : Option Value ⊕ String}
    (hl : l.stackTraces = false) (hy : plainName y.cls = true) (hw : w0 = Cond.code y cc nL ret) (hA : A.all ts_one = true) (hn : A.length ≤ nL)
    (body : ∀ (p : Program) (e : Env) (s : State) (m : MethodId) (args : Array Value) (below : List Frame) (meth : Method) (c : Code), ts_CX D dT sz p l (ts_rm d mc ms) s m args meth c y.cls cc nL ret d → (∀ x ∈ c.exceptionTable.toList, False) → meth.name = y.name →
      ts_V D dT sz p l e (ts_rm d mc ms) s m args below meth c nL (ts_Q below D dT sz ad lv rf out u' args s mc ms) ad lv rf 0 (A.map some ++ List.replicate (nL - A.length) none) [] u 0 0) : ts_M l D dT sz y w0 d mc ms ad lv rf A u out u' := by
  subst hw
  refine vx_ofW (cc := cc) (maxL := nL) (ret := ret) hy rfl ?_
  intro p e s m args below meth c s₁ B hml hX hv
  obtain ⟨rfl, hK, hHW⟩ := hv
  have hts := atoms_spec (ws := Cond.code y cc nL ret :: ts_ws) B.pre
  have := body p e s m _ below meth c ⟨B.exec, B.bytes, hml, findClass_of_methodNamed B.named, fun w h => hts w (List.mem_cons_of_mem _ h), B.notSynchronized, hl, hK, Nat.le_refl _, Nat.le_refl _, B.returns⟩ hX (name_of_methodNamed B.named B.method).1
  rw [lg_entry_eq]
  exact this _ s.heap [] (ts_lr_entry A hA hn) hHW va_S.rf
/-- .. and with handlers -/
theorem ts_enterX {l : Launch} {D : va_G} {dT : Nat → ClassId} {sz : Nat} {y : MethodName} {w0 : Cond} {cc : ByteArray} {nL d mc ms : Nat} {ret : Option FieldType} {hh : List (Nat × Nat × Nat × Nat)} {ad : ts_I → Nat} {lv : List ts_I} {rf : ts_I → Nat → Option ts_I} {A : List ts_AV} {u u' : ts_Mem} {out : Option Value ⊕ String}
    (hl : l.stackTraces = false) (hy : plainName y.cls = true) (hw : w0 = Cond.codeWith y cc nL ret hh) (hA : A.all ts_one = true) (hn : A.length ≤ nL)
    (body : ∀ (p : Program) (e : Env) (s : State) (m : MethodId) (args : Array Value) (below : List Frame) (meth : Method) (c : Code), ts_CX D dT sz p l (ts_rm d mc ms) s m args meth c y.cls cc nL ret d → c.exceptionTable.toList = tableOf hh →
      ts_V D dT sz p l e (ts_rm d mc ms) s m args below meth c nL (ts_Q below D dT sz ad lv rf out u' args s mc ms) ad lv rf 0 (A.map some ++ List.replicate (nL - A.length) none) [] u 0 0) : ts_M l D dT sz y w0 d mc ms ad lv rf A u out u' := by
  subst hw
  refine vx_ofWH (cc := cc) (maxL := nL) (ret := ret) (hh := hh) hy rfl ?_
  intro p e s m args below meth c s₁ B hml hv
  obtain ⟨rfl, hK, hHW⟩ := hv
  have hts := atoms_spec (ws := Cond.codeWith y cc nL ret hh :: ts_ws) B.pre
  have := body p e s m _ below meth c ⟨B.exec, B.bytes, hml, findClass_of_methodNamed B.named, fun w h => hts w (List.mem_cons_of_mem _ h), B.notSynchronized, hl, hK, Nat.le_refl _, Nat.le_refl _, B.returns⟩ (vx_table (x := y) B (hts _ List.mem_cons_self))
  rw [lg_entry_eq]
  exact this _ s.heap [] (ts_lr_entry A hA hn) hHW va_S.rf
