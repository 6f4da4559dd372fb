/-! what a state's tables say, as every method of ours needs it; a walk's fixed facts; the judgement -/
def ts_strs : List (String × Nat × String) := [(RX6, 246, "an argument is not allowed"), (RX6, 251, "this cannot be done in the present state"), (RX6, 241, "there is nothing with this number"), (RX6, 236, "the transaction cannot have more than 20 operations"), (RX6, 256, "there is no such element"), (RX6, 195, "no timestamp was given"), (RX6, 214, "the divisor is 0")]
def ts_xs : List String := ["java/lang/IndexOutOfBoundsException", "java/lang/IllegalStateException", "java/lang/IllegalArgumentException", "java/lang/UnsupportedOperationException", "java/util/NoSuchElementException", "java/lang/ArithmeticException"]
def ts_isc : Cond → Bool
  | .castable .. => true
  | .methodLinkNest .. => true
  | .declares _ => true
  | _ => false
def ts_KS (D : va_G) (dT : Nat → ClassId) (sz : Nat) (U : State) : Prop :=
  va_K D ts_cl (ts_tys dT) U ∧ sz ≤ U.heap.size ∧ vx_Zq Bundle.tN "UNASSIGNED_STACK" Bundle.steD (fun q => sz ≤ q) U U.heap ∧ vx_Zq Bundle.tN "SUPPRESSED_SENTINEL" Bundle.listD (fun q => sz ≤ q) U U.heap ∧
  (∀ q ∈ ts_strs, ∃ a, vk_R q.1 q.2.1 q.2.2 a U) ∧ (∀ a ∈ ts_xs, ∀ b ∈ ts_xs, a ≠ b → va_Nc a b U) ∧ (∀ w ∈ lw_tbl, ts_isc w = true → va_Nw w U)
theorem ts_KS_call {D : va_G} {dT : Nat → ClassId} {sz : Nat} {s U : State} {H : Heap} {locs : List Loc} (h : ts_KS D dT sz s) (hS : va_S (fun q => sz ≤ q) s.heap H locs) (hU : U.heap = H) (hW : s.WarmedH U.vm) : ts_KS D dT sz U := by
  obtain ⟨h1, h2, h3, h4, h5, h6, h7⟩ := h
  subst hU
  refine ⟨h1.moved hW.alike, Nat.le_trans h2 hS.1, (h3.moved hW.alike).kept (fun a ha hn => hS.2.1 a ha hn), (h4.moved hW.alike).kept (fun a ha hn => hS.2.1 a ha hn), fun q hq => ?_, fun a ha b hb hne => (h6 a ha b hb hne).moved hW.alike, fun w hw hc => ?_⟩
  · obtain ⟨a, ha⟩ := h5 q hq
    exact ⟨a, ha.warm hW⟩
  · have h8 := h7 w hw hc
    cases w <;> first | exact va_Nw.warmC hW h8 | exact va_Nw.warmM hW h8 | exact va_Nw.warmD hW h8 | exact absurd hc (by simp [ts_isc])
theorem ts_KS_same {D : va_G} {dT : Nat → ClassId} {sz : Nat} {s U : State} (h : ts_KS D dT sz s) (hU : U.heap = s.heap) (hW : s.WarmedH U.vm) : ts_KS D dT sz U := ts_KS_call h (va_S.rf (A := fun q => sz ≤ q)) hU hW
def ts_CX (D : va_G) (dT : Nat → ClassId) (sz : Nat) (p : Program) (l : Launch) (R : Room) (s : State) (m : MethodId) (args : Array Value) (meth : Method) (c : Code) (own : String) (cc : ByteArray) (nL : Nat) (ret : Option FieldType) (d : Nat) : Prop :=
  p.tables.exec = Jvm.exec ∧ c.code = cc ∧ c.maxLocals = nL ∧ s.vm.findClass own = some m.cls ∧ (∀ w ∈ ts_ws, w.before args s = true) ∧ meth.locks = false ∧ l.stackTraces = false ∧ ts_KS D dT sz s ∧ d + 12 ≤ R.frames ∧ 40 * d + 150 ≤ R.locals ∧ meth.sig.returnType = ret
/-- the locals, by their places: what isn't known is none -/
def ts_lr (nL : Nat) (ad : ts_I → Nat) (L : List (Option ts_AV)) (ls : Array Slot) : Prop := ls.size = nL ∧ lv_wf ls ∧ ∀ (i : Nat) (v : ts_AV), L[i]? = some (some v) → ls[i]? = some (.val (ts_cv ad v))
def ts_V (D : va_G) (dT : Nat → ClassId) (sz : Nat) (p : Program) (l : Launch) (e : Env) (R : Room) (s : State) (m : MethodId) (args : Array Value) (below : List Frame) (meth : Method) (c : Code) (nL : Nat) (Q : State → Prop)
    (ad : ts_I → Nat) (lv : List ts_I) (rf : ts_I → Nat → Option ts_I) (pc : Nat) (L : List (Option ts_AV)) (S : List ts_AV) (u : ts_Mem) (k n : Nat) : Prop :=
  ∀ (ls : Array Slot) (H : Heap) (locs : List Loc), ts_lr nL ad L ls → ts_HW D dT sz ad (lv, rf, u) H → va_S (fun q => sz ≤ q) s.heap H locs → W p l e R s m args below meth c H locs k n Q (F0 m pc ls (S.map (ts_cv ad)))
def ts_pl (ad : ts_I → Nat) (L : List (Option ts_AV)) : List (Nat × Value) := L.zipIdx.filterMap (fun q => q.1.map (fun v => (q.2, ts_cv ad v)))
theorem ts_pl_mem {ad : ts_I → Nat} {L : List (Option ts_AV)} {q : Nat × Value} : q ∈ ts_pl ad L ↔ ∃ v, L[q.1]? = some (some v) ∧ q.2 = ts_cv ad v := by
  unfold ts_pl
  rw [List.mem_filterMap]
  constructor
  · rintro ⟨⟨o, i⟩, h1, h2⟩
    rw [List.mem_zipIdx_iff_getElem?] at h1
    cases o with
    | none => cases h2
    | some v => cases h2; exact ⟨v, h1, rfl⟩
  · rintro ⟨v, h1, h2⟩
    refine ⟨(some v, q.1), ?_, ?_⟩
    · rw [List.mem_zipIdx_iff_getElem?]; exact h1
    · show some (q.1, ts_cv ad v) = some q
      rw [← h2]
theorem ts_lr_has {nL : Nat} {ad : ts_I → Nat} {L : List (Option ts_AV)} {ls : Array Slot} (h : ts_lr nL ad L ls) : lv_has ls nL (ts_pl ad L) := by
  refine ⟨h.1, h.2.1, fun q hq => ?_⟩
  obtain ⟨v, h1, h2⟩ := ts_pl_mem.mp hq
  rw [h2]
  exact h.2.2 _ _ h1
/-- no two-word value just ahead of place i -/
def ts_ok2 (L : List (Option ts_AV)) (i : Nat) : Bool := match i with
  | 0 => true
  | j + 1 => match L[j]? with
    | some (some (.inl (.long _))) => false
    | some (some (.inl (.double _))) => false
    | _ => true
theorem ts_ok2_cat {L : List (Option ts_AV)} {j : Nat} {v : ts_AV} {ad : ts_I → Nat} (h : ts_ok2 L (j + 1) = true) (hv : L[j]? = some (some v)) : (ts_cv ad v).category = 1 := by
  unfold ts_ok2 at h
  simp only [hv] at h
  cases v with
  | inr i => rfl
  | inl w => cases w <;> first | rfl | exact absurd h (by simp)
theorem ts_lr_set1 {nL i : Nat} {ad : ts_I → Nat} {L : List (Option ts_AV)} {v : ts_AV} {ls' : Array Slot} (hok : ts_ok2 L i = true)
    (h : lv_has ls' nL ((i, ts_cv ad v) :: (ts_pl ad L).filter (fun q => !(q.1 == i) && !(q.1 + 1 == i && q.2.category == 2)))) : ts_lr nL ad (L.set i (some v)) ls' := by
  refine ⟨h.1, h.2.1, fun j w hw => ?_⟩
  by_cases hj : j = i
  · subst hj
    rw [List.getElem?_set] at hw
    simp only [if_true] at hw
    split at hw
    · cases hw
      exact h.2.2 _ List.mem_cons_self
    · cases hw
  · rw [List.getElem?_set_ne (fun e => hj e.symm)] at hw
    refine h.2.2 (j, ts_cv ad w) (List.mem_cons_of_mem _ (List.mem_filter.mpr ⟨ts_pl_mem.mpr ⟨w, hw, rfl⟩, ?_⟩))
    have h1 : (j == i) = false := by simp [hj]
    simp only [h1, Bool.not_false, Bool.true_and]
    by_cases h2 : j + 1 = i
    · subst h2
      rw [ts_ok2_cat (ad := ad) hok hw]
      simp
    · have h3 : (j + 1 == i) = false := by simp [h2]
      rw [h3]
      rfl
theorem ts_lr_set2 {nL i : Nat} {ad : ts_I → Nat} {L : List (Option ts_AV)} {v : ts_AV} {ls' : Array Slot} (hok : ts_ok2 L i = true)
    (h : lv_has ls' nL ((i, ts_cv ad v) :: (ts_pl ad L).filter (fun q => !(q.1 == i) && (!(q.1 == i + 1) && !(q.1 + 1 == i && q.2.category == 2))))) : ts_lr nL ad ((L.set i (some v)).set (i + 1) none) ls' := by
  refine ⟨h.1, h.2.1, fun j w hw => ?_⟩
  by_cases hj1 : j = i + 1
  · subst hj1
    rw [List.getElem?_set] at hw
    simp only [if_true] at hw
    split at hw
    · cases hw
    · cases hw
  rw [List.getElem?_set_ne (fun e => hj1 e.symm)] at hw
  by_cases hj : j = i
  · subst hj
    rw [List.getElem?_set] at hw
    simp only [if_true] at hw
    split at hw
    · cases hw
      exact h.2.2 _ List.mem_cons_self
    · cases hw
  · rw [List.getElem?_set_ne (fun e => hj e.symm)] at hw
    refine h.2.2 (j, ts_cv ad w) (List.mem_cons_of_mem _ (List.mem_filter.mpr ⟨ts_pl_mem.mpr ⟨w, hw, rfl⟩, ?_⟩))
    have h1 : (j == i) = false := by simp [hj]
    have h4 : (j == i + 1) = false := by simp [hj1]
    simp only [h1, h4, Bool.not_false, Bool.true_and]
    by_cases h2 : j + 1 = i
    · subst h2
      rw [ts_ok2_cat (ad := ad) hok hw]
      simp
    · have h3 : (j + 1 == i) = false := by simp [h2]
      rw [h3]
      rfl
theorem ts_ifp {α : Type} {c : Prop} {A B r : α} [i : Decidable c] (h : (if c then A else B) = r) (hc : c) : A = r := by rwa [if_pos hc] at h
theorem ts_ifn {α : Type} {c : Prop} {A B r : α} [i : Decidable c] (h : (if c then A else B) = r) (hc : ¬ c) : B = r := by rwa [if_neg hc] at h
theorem ts_gd {α : Type} {c : Prop} {A : Option α} {r : α} [i : Decidable c] (h : (if c then A else none) = some r) : c ∧ A = some r := by
  by_cases hc : c
  · exact ⟨hc, by rwa [if_pos hc] at h⟩
  · rw [if_neg hc] at h; cases h
theorem ts_bd {α β : Type} {a : Option α} {f : α → Option β} {r : β} (h : a.bind f = some r) : ∃ x, a = some x ∧ f x = some r := by
  cases a with
  | none => cases h
  | some x => exact ⟨x, rfl, h⟩
section TV
variable {D : va_G} {dT : Nat → ClassId} {sz : Nat} {p : Program} {l : Launch} {e : Env} {R : Room} {s : State} {m : MethodId} {args : Array Value} {below : List Frame} {meth : Method} {c : Code} {nL d : Nat} {Q : State → Prop} {own : String} {cc : ByteArray} {ret : Option FieldType}
variable {ad : ts_I → Nat} {lv : List ts_I} {rf : ts_I → Nat → Option ts_I} {pc : Nat} {L L' : List (Option ts_AV)} {S : List ts_AV} {u : ts_Mem} {k n : Nat}
theorem tv_iconst (C : ts_CX D dT sz p l R s m args meth c own cc nL ret d) {z : Int} {v : Int32} (hd : decode cc pc = .ok (.iconst z, 1)) (hv : Int32.ofInt z = v) (K : ts_V D dT sz p l e R s m args below meth c nL Q ad lv rf (pc + 1) L (.inl (.int v) :: S) u k n) : ts_V D dT sz p l e R s m args below meth c nL Q ad lv rf pc L S u k n := fun ls H locs hl hw hS => lv_iconst C.1 C.2.1 hd hv (K ls H locs hl hw hS)
theorem tv_bipush (C : ts_CX D dT sz p l R s m args meth c own cc nL ret d) {z : Int} {v : Int32} (hd : decode cc pc = .ok (.bipush z, 2)) (hv : (Int8.ofInt z).toInt32 = v) (K : ts_V D dT sz p l e R s m args below meth c nL Q ad lv rf (pc + 2) L (.inl (.int v) :: S) u k n) : ts_V D dT sz p l e R s m args below meth c nL Q ad lv rf pc L S u k n := fun ls H locs hl hw hS => lv_bipush C.1 C.2.1 hd hv (K ls H locs hl hw hS)
theorem tv_sipush (C : ts_CX D dT sz p l R s m args meth c own cc nL ret d) {z : Int} {v : Int32} (hd : decode cc pc = .ok (.sipush z, 3)) (hv : (Int16.ofInt z).toInt32 = v) (K : ts_V D dT sz p l e R s m args below meth c nL Q ad lv rf (pc + 3) L (.inl (.int v) :: S) u k n) : ts_V D dT sz p l e R s m args below meth c nL Q ad lv rf pc L S u k n := fun ls H locs hl hw hS => lv_sipush C.1 C.2.1 hd hv (K ls H locs hl hw hS)
theorem tv_ldc (C : ts_CX D dT sz p l R s m args meth c own cc nL ret d) {ix : Nat} {v : Int32} (hd : decode cc pc = .ok (.ldc ix, 2)) (hv : Cond.constant own ix v ∈ ts_ws) (K : ts_V D dT sz p l e R s m args below meth c nL Q ad lv rf (pc + 2) L (.inl (.int v) :: S) u k n) : ts_V D dT sz p l e R s m args below meth c nL Q ad lv rf pc L S u k n := fun ls H locs hl hw hS => lv_ldc C.1 C.2.1 C.2.2.2.1 (C.2.2.2.2.1 _ hv) hd (K ls H locs hl hw hS)
theorem tv_iload (C : ts_CX D dT sz p l R s m args meth c own cc nL ret d) {i : Nat} {x : Int32} (hd : decode cc pc = .ok (.iload i, 2)) (hL : L[i]? = some (some (.inl (.int x)))) (K : ts_V D dT sz p l e R s m args below meth c nL Q ad lv rf (pc + 2) L (.inl (.int x) :: S) u k n) : ts_V D dT sz p l e R s m args below meth c nL Q ad lv rf pc L S u k n := fun ls H locs hl hw hS => lv_iload C.1 C.2.1 hd (hl.2.2 i _ hL) (K ls H locs hl hw hS)
theorem tv_iload_n (C : ts_CX D dT sz p l R s m args meth c own cc nL ret d) {j : Fin 4} {i : Nat} {x : Int32} (hd : decode cc pc = .ok (.iload_n j, 1)) (hi : (j : Nat) = i) (hL : L[i]? = some (some (.inl (.int x)))) (K : ts_V D dT sz p l e R s m args below meth c nL Q ad lv rf (pc + 1) L (.inl (.int x) :: S) u k n) : ts_V D dT sz p l e R s m args below meth c nL Q ad lv rf pc L S u k n := fun ls H locs hl hw hS => lv_iload_n C.1 C.2.1 hd hi (hl.2.2 i _ hL) (K ls H locs hl hw hS)
theorem tv_fload (C : ts_CX D dT sz p l R s m args meth c own cc nL ret d) {i : Nat} {x : UInt32} (hd : decode cc pc = .ok (.fload i, 2)) (hL : L[i]? = some (some (.inl (.float x)))) (K : ts_V D dT sz p l e R s m args below meth c nL Q ad lv rf (pc + 2) L (.inl (.float x) :: S) u k n) : ts_V D dT sz p l e R s m args below meth c nL Q ad lv rf pc L S u k n := fun ls H locs hl hw hS => lv_fload C.1 C.2.1 hd (hl.2.2 i _ hL) (K ls H locs hl hw hS)
theorem tv_fload_n (C : ts_CX D dT sz p l R s m args meth c own cc nL ret d) {j : Fin 4} {i : Nat} {x : UInt32} (hd : decode cc pc = .ok (.fload_n j, 1)) (hi : (j : Nat) = i) (hL : L[i]? = some (some (.inl (.float x)))) (K : ts_V D dT sz p l e R s m args below meth c nL Q ad lv rf (pc + 1) L (.inl (.float x) :: S) u k n) : ts_V D dT sz p l e R s m args below meth c nL Q ad lv rf pc L S u k n := fun ls H locs hl hw hS => lv_fload_n C.1 C.2.1 hd hi (hl.2.2 i _ hL) (K ls H locs hl hw hS)
theorem tv_dload (C : ts_CX D dT sz p l R s m args meth c own cc nL ret d) {i : Nat} {x : UInt64} (hd : decode cc pc = .ok (.dload i, 2)) (hL : L[i]? = some (some (.inl (.double x)))) (K : ts_V D dT sz p l e R s m args below meth c nL Q ad lv rf (pc + 2) L (.inl (.double x) :: S) u k n) : ts_V D dT sz p l e R s m args below meth c nL Q ad lv rf pc L S u k n := fun ls H locs hl hw hS => lv_dload C.1 C.2.1 hd (hl.2.2 i _ hL) (K ls H locs hl hw hS)
theorem tv_aload (C : ts_CX D dT sz p l R s m args meth c own cc nL ret d) {i : Nat} {x : ts_I} (hd : decode cc pc = .ok (.aload i, 2)) (hL : L[i]? = some (some (.inr x))) (K : ts_V D dT sz p l e R s m args below meth c nL Q ad lv rf (pc + 2) L (.inr x :: S) u k n) : ts_V D dT sz p l e R s m args below meth c nL Q ad lv rf pc L S u k n := fun ls H locs hl hw hS => lv_aload C.1 C.2.1 hd (hl.2.2 i _ hL) (K ls H locs hl hw hS)
theorem tv_aload_n (C : ts_CX D dT sz p l R s m args meth c own cc nL ret d) {j : Fin 4} {i : Nat} {x : ts_I} (hd : decode cc pc = .ok (.aload_n j, 1)) (hi : (j : Nat) = i) (hL : L[i]? = some (some (.inr x))) (K : ts_V D dT sz p l e R s m args below meth c nL Q ad lv rf (pc + 1) L (.inr x :: S) u k n) : ts_V D dT sz p l e R s m args below meth c nL Q ad lv rf pc L S u k n := fun ls H locs hl hw hS => lv_aload_n C.1 C.2.1 hd hi (hl.2.2 i _ hL) (K ls H locs hl hw hS)
theorem tv_istore (C : ts_CX D dT sz p l R s m args meth c own cc nL ret d) {i : Nat} {x : Int32} (hd : decode cc pc = .ok (.istore i, 2)) (hn : i < nL) (hok : ts_ok2 L i = true) (hL : L.set i (some (.inl (.int x))) = L') (K : ts_V D dT sz p l e R s m args below meth c nL Q ad lv rf (pc + 2) L' S u k n) : ts_V D dT sz p l e R s m args below meth c nL Q ad lv rf pc L (.inl (.int x) :: S) u k n := fun ls H locs hl hw hS => lv_istore C.1 C.2.1 hd (ts_lr_has hl) hn rfl (fun ls2 hl2 => K ls2 H locs (hL ▸ ts_lr_set1 (v := .inl (.int x)) hok hl2) hw hS)
theorem tv_istore_n (C : ts_CX D dT sz p l R s m args meth c own cc nL ret d) {j : Fin 4} {i : Nat} {x : Int32} (hd : decode cc pc = .ok (.istore_n j, 1)) (hi : (j : Nat) = i) (hn : i < nL) (hok : ts_ok2 L i = true) (hL : L.set i (some (.inl (.int x))) = L') (K : ts_V D dT sz p l e R s m args below meth c nL Q ad lv rf (pc + 1) L' S u k n) : ts_V D dT sz p l e R s m args below meth c nL Q ad lv rf pc L (.inl (.int x) :: S) u k n := fun ls H locs hl hw hS => lv_istore_n C.1 C.2.1 hd hi (ts_lr_has hl) hn rfl (fun ls2 hl2 => K ls2 H locs (hL ▸ ts_lr_set1 (v := .inl (.int x)) hok hl2) hw hS)
theorem tv_fstore (C : ts_CX D dT sz p l R s m args meth c own cc nL ret d) {i : Nat} {x : UInt32} (hd : decode cc pc = .ok (.fstore i, 2)) (hn : i < nL) (hok : ts_ok2 L i = true) (hL : L.set i (some (.inl (.float x))) = L') (K : ts_V D dT sz p l e R s m args below meth c nL Q ad lv rf (pc + 2) L' S u k n) : ts_V D dT sz p l e R s m args below meth c nL Q ad lv rf pc L (.inl (.float x) :: S) u k n := fun ls H locs hl hw hS => lv_fstore C.1 C.2.1 hd (ts_lr_has hl) hn rfl (fun ls2 hl2 => K ls2 H locs (hL ▸ ts_lr_set1 (v := .inl (.float x)) hok hl2) hw hS)
theorem tv_astore (C : ts_CX D dT sz p l R s m args meth c own cc nL ret d) {i : Nat} {x : ts_I} (hd : decode cc pc = .ok (.astore i, 2)) (hn : i < nL) (hok : ts_ok2 L i = true) (hL : L.set i (some (.inr x)) = L') (K : ts_V D dT sz p l e R s m args below meth c nL Q ad lv rf (pc + 2) L' S u k n) : ts_V D dT sz p l e R s m args below meth c nL Q ad lv rf pc L (.inr x :: S) u k n := fun ls H locs hl hw hS => lv_astore C.1 C.2.1 hd (ts_lr_has hl) hn rfl (fun ls2 hl2 => K ls2 H locs (hL ▸ ts_lr_set1 (v := .inr x) hok hl2) hw hS)
theorem tv_astore_n (C : ts_CX D dT sz p l R s m args meth c own cc nL ret d) {j : Fin 4} {i : Nat} {x : ts_I} (hd : decode cc pc = .ok (.astore_n j, 1)) (hi : (j : Nat) = i) (hn : i < nL) (hok : ts_ok2 L i = true) (hL : L.set i (some (.inr x)) = L') (K : ts_V D dT sz p l e R s m args below meth c nL Q ad lv rf (pc + 1) L' S u k n) : ts_V D dT sz p l e R s m args below meth c nL Q ad lv rf pc L (.inr x :: S) u k n := fun ls H locs hl hw hS => lv_astore_n C.1 C.2.1 hd hi (ts_lr_has hl) hn rfl (fun ls2 hl2 => K ls2 H locs (hL ▸ ts_lr_set1 (v := .inr x) hok hl2) hw hS)
theorem tv_dstore (C : ts_CX D dT sz p l R s m args meth c own cc nL ret d) {i : Nat} {x : UInt64} (hd : decode cc pc = .ok (.dstore i, 2)) (hn : i + 1 < nL) (hok : ts_ok2 L i = true) (hL : (L.set i (some (.inl (.double x)))).set (i + 1) none = L') (K : ts_V D dT sz p l e R s m args below meth c nL Q ad lv rf (pc + 2) L' S u k n) : ts_V D dT sz p l e R s m args below meth c nL Q ad lv rf pc L (.inl (.double x) :: S) u k n := fun ls H locs hl hw hS => lv_dstore C.1 C.2.1 hd (ts_lr_has hl) hn rfl (fun ls2 hl2 => K ls2 H locs (hL ▸ ts_lr_set2 (v := .inl (.double x)) hok hl2) hw hS)
theorem tv_iinc (C : ts_CX D dT sz p l R s m args meth c own cc nL ret d) {i : Nat} {z : Int} {x v : Int32} (hd : decode cc pc = .ok (.iinc i z, 3)) (hx : L[i]? = some (some (.inl (.int x)))) (hv : x + Int32.ofInt z = v) (hn : i < nL) (hok : ts_ok2 L i = true) (hL : L.set i (some (.inl (.int v))) = L') (K : ts_V D dT sz p l e R s m args below meth c nL Q ad lv rf (pc + 3) L' S u k n) : ts_V D dT sz p l e R s m args below meth c nL Q ad lv rf pc L S u k n := by
  intro ls H locs hl hw hS
  obtain ⟨q, hq⟩ := List.getElem?_of_mem (ts_pl_mem.mpr ⟨_, hx, rfl⟩ : ((i, Value.int x) : Nat × Value) ∈ ts_pl ad L)
  exact lv_iinc C.1 C.2.1 hd (ts_lr_has hl) hq hv hn rfl (fun ls2 hl2 => K ls2 H locs (hL ▸ ts_lr_set1 (v := .inl (.int v)) hok hl2) hw hS)
theorem tv_iadd (C : ts_CX D dT sz p l R s m args meth c own cc nL ret d) {x y : Int32} (hd : decode cc pc = .ok (.iadd, 1)) (K : ts_V D dT sz p l e R s m args below meth c nL Q ad lv rf (pc + 1) L (.inl (.int (x + y)) :: S) u k n) : ts_V D dT sz p l e R s m args below meth c nL Q ad lv rf pc L (.inl (.int y) :: .inl (.int x) :: S) u k n := fun ls H locs hl hw hS => lv_iadd C.1 C.2.1 hd (K ls H locs hl hw hS)
theorem tv_isub (C : ts_CX D dT sz p l R s m args meth c own cc nL ret d) {x y : Int32} (hd : decode cc pc = .ok (.isub, 1)) (K : ts_V D dT sz p l e R s m args below meth c nL Q ad lv rf (pc + 1) L (.inl (.int (x - y)) :: S) u k n) : ts_V D dT sz p l e R s m args below meth c nL Q ad lv rf pc L (.inl (.int y) :: .inl (.int x) :: S) u k n := fun ls H locs hl hw hS => lv_isub C.1 C.2.1 hd (K ls H locs hl hw hS)
theorem tv_imul (C : ts_CX D dT sz p l R s m args meth c own cc nL ret d) {x y : Int32} (hd : decode cc pc = .ok (.imul, 1)) (K : ts_V D dT sz p l e R s m args below meth c nL Q ad lv rf (pc + 1) L (.inl (.int (x * y)) :: S) u k n) : ts_V D dT sz p l e R s m args below meth c nL Q ad lv rf pc L (.inl (.int y) :: .inl (.int x) :: S) u k n := fun ls H locs hl hw hS => lv_imul C.1 C.2.1 hd (K ls H locs hl hw hS)
theorem tv_iand (C : ts_CX D dT sz p l R s m args meth c own cc nL ret d) {x y : Int32} (hd : decode cc pc = .ok (.iand, 1)) (K : ts_V D dT sz p l e R s m args below meth c nL Q ad lv rf (pc + 1) L (.inl (.int (x &&& y)) :: S) u k n) : ts_V D dT sz p l e R s m args below meth c nL Q ad lv rf pc L (.inl (.int y) :: .inl (.int x) :: S) u k n := fun ls H locs hl hw hS => lv_iand C.1 C.2.1 hd (K ls H locs hl hw hS)
theorem tv_ior (C : ts_CX D dT sz p l R s m args meth c own cc nL ret d) {x y : Int32} (hd : decode cc pc = .ok (.ior, 1)) (K : ts_V D dT sz p l e R s m args below meth c nL Q ad lv rf (pc + 1) L (.inl (.int (x ||| y)) :: S) u k n) : ts_V D dT sz p l e R s m args below meth c nL Q ad lv rf pc L (.inl (.int y) :: .inl (.int x) :: S) u k n := fun ls H locs hl hw hS => lv_ior C.1 C.2.1 hd (K ls H locs hl hw hS)
theorem tv_ixor (C : ts_CX D dT sz p l R s m args meth c own cc nL ret d) {x y : Int32} (hd : decode cc pc = .ok (.ixor, 1)) (K : ts_V D dT sz p l e R s m args below meth c nL Q ad lv rf (pc + 1) L (.inl (.int (x ^^^ y)) :: S) u k n) : ts_V D dT sz p l e R s m args below meth c nL Q ad lv rf pc L (.inl (.int y) :: .inl (.int x) :: S) u k n := fun ls H locs hl hw hS => lv_ixor C.1 C.2.1 hd (K ls H locs hl hw hS)
theorem tv_ishl (C : ts_CX D dT sz p l R s m args meth c own cc nL ret d) {x y : Int32} (hd : decode cc pc = .ok (.ishl, 1)) (K : ts_V D dT sz p l e R s m args below meth c nL Q ad lv rf (pc + 1) L (.inl (.int (x <<< (y &&& 31))) :: S) u k n) : ts_V D dT sz p l e R s m args below meth c nL Q ad lv rf pc L (.inl (.int y) :: .inl (.int x) :: S) u k n := fun ls H locs hl hw hS => lv_ishl C.1 C.2.1 hd (K ls H locs hl hw hS)
theorem tv_ishr (C : ts_CX D dT sz p l R s m args meth c own cc nL ret d) {x y : Int32} (hd : decode cc pc = .ok (.ishr, 1)) (K : ts_V D dT sz p l e R s m args below meth c nL Q ad lv rf (pc + 1) L (.inl (.int (x >>> (y &&& 31))) :: S) u k n) : ts_V D dT sz p l e R s m args below meth c nL Q ad lv rf pc L (.inl (.int y) :: .inl (.int x) :: S) u k n := fun ls H locs hl hw hS => lv_ishr C.1 C.2.1 hd (K ls H locs hl hw hS)
theorem tv_idiv (C : ts_CX D dT sz p l R s m args meth c own cc nL ret d) {x y : Int32} (hd : decode cc pc = .ok (.idiv, 1)) (hy : ¬ y = 0) (K : ts_V D dT sz p l e R s m args below meth c nL Q ad lv rf (pc + 1) L (.inl (.int (x / y)) :: S) u k n) : ts_V D dT sz p l e R s m args below meth c nL Q ad lv rf pc L (.inl (.int y) :: .inl (.int x) :: S) u k n := fun ls H locs hl hw hS => lv_idiv C.1 C.2.1 hd hy (K ls H locs hl hw hS)
theorem tv_irem (C : ts_CX D dT sz p l R s m args meth c own cc nL ret d) {x y : Int32} (hd : decode cc pc = .ok (.irem, 1)) (hy : ¬ y = 0) (K : ts_V D dT sz p l e R s m args below meth c nL Q ad lv rf (pc + 1) L (.inl (.int (x - x / y * y)) :: S) u k n) : ts_V D dT sz p l e R s m args below meth c nL Q ad lv rf pc L (.inl (.int y) :: .inl (.int x) :: S) u k n := fun ls H locs hl hw hS => lv_irem C.1 C.2.1 hd hy (K ls H locs hl hw hS)
theorem tv_ineg (C : ts_CX D dT sz p l R s m args meth c own cc nL ret d) {x : Int32} (hd : decode cc pc = .ok (.ineg, 1)) (K : ts_V D dT sz p l e R s m args below meth c nL Q ad lv rf (pc + 1) L (.inl (.int (-x)) :: S) u k n) : ts_V D dT sz p l e R s m args below meth c nL Q ad lv rf pc L (.inl (.int x) :: S) u k n := fun ls H locs hl hw hS => lv_ineg C.1 C.2.1 hd (K ls H locs hl hw hS)
theorem tv_i2l (C : ts_CX D dT sz p l R s m args meth c own cc nL ret d) {x : Int32} (hd : decode cc pc = .ok (.i2l, 1)) (K : ts_V D dT sz p l e R s m args below meth c nL Q ad lv rf (pc + 1) L (.inl (.long x.toInt64) :: S) u k n) : ts_V D dT sz p l e R s m args below meth c nL Q ad lv rf pc L (.inl (.int x) :: S) u k n := fun ls H locs hl hw hS => lv_i2l C.1 C.2.1 hd rfl (K ls H locs hl hw hS)
theorem tv_i2c (C : ts_CX D dT sz p l R s m args meth c own cc nL ret d) {x : Int32} (hd : decode cc pc = .ok (.i2c, 1)) (K : ts_V D dT sz p l e R s m args below meth c nL Q ad lv rf (pc + 1) L (.inl (.int (x.toUInt32 % 65536).toInt32) :: S) u k n) : ts_V D dT sz p l e R s m args below meth c nL Q ad lv rf pc L (.inl (.int x) :: S) u k n := fun ls H locs hl hw hS => lv_i2c C.1 C.2.1 hd rfl (K ls H locs hl hw hS)
theorem tv_i2f (C : ts_CX D dT sz p l R s m args meth c own cc nL ret d) {x : Int32} (hd : decode cc pc = .ok (.i2f, 1)) (K : ts_V D dT sz p l e R s m args below meth c nL Q ad lv rf (pc + 1) L (.inl (.float (FP.i2f x)) :: S) u k n) : ts_V D dT sz p l e R s m args below meth c nL Q ad lv rf pc L (.inl (.int x) :: S) u k n := fun ls H locs hl hw hS => lv_i2f C.1 C.2.1 hd (K ls H locs hl hw hS)
theorem tv_i2d (C : ts_CX D dT sz p l R s m args meth c own cc nL ret d) {x : Int32} (hd : decode cc pc = .ok (.i2d, 1)) (K : ts_V D dT sz p l e R s m args below meth c nL Q ad lv rf (pc + 1) L (.inl (.double (FP.i2d x)) :: S) u k n) : ts_V D dT sz p l e R s m args below meth c nL Q ad lv rf pc L (.inl (.int x) :: S) u k n := fun ls H locs hl hw hS => lv_i2d C.1 C.2.1 hd (K ls H locs hl hw hS)
theorem tv_f2d (C : ts_CX D dT sz p l R s m args meth c own cc nL ret d) {x : UInt32} (hd : decode cc pc = .ok (.f2d, 1)) (hne : vf_n64 (FP.f2d x)) (K : ts_V D dT sz p l e R s m args below meth c nL Q ad lv rf (pc + 1) L (.inl (.double (FP.f2d x)) :: S) u k n) : ts_V D dT sz p l e R s m args below meth c nL Q ad lv rf pc L (.inl (.float x) :: S) u k n := fun ls H locs hl hw hS => lv_f2d C.1 C.2.1 hd hne (K ls H locs hl hw hS)
theorem tv_fdiv (C : ts_CX D dT sz p l R s m args meth c own cc nL ret d) {x y : UInt32} (hd : decode cc pc = .ok (.fdiv, 1)) (hne : vf_n32 (FP.fdiv x y)) (K : ts_V D dT sz p l e R s m args below meth c nL Q ad lv rf (pc + 1) L (.inl (.float (FP.fdiv x y)) :: S) u k n) : ts_V D dT sz p l e R s m args below meth c nL Q ad lv rf pc L (.inl (.float y) :: .inl (.float x) :: S) u k n := fun ls H locs hl hw hS => lv_fdiv C.1 C.2.1 hd hne (K ls H locs hl hw hS)
theorem tv_ddiv (C : ts_CX D dT sz p l R s m args meth c own cc nL ret d) {x y : UInt64} (hd : decode cc pc = .ok (.ddiv, 1)) (hne : vf_n64 (FP.ddiv x y)) (K : ts_V D dT sz p l e R s m args below meth c nL Q ad lv rf (pc + 1) L (.inl (.double (FP.ddiv x y)) :: S) u k n) : ts_V D dT sz p l e R s m args below meth c nL Q ad lv rf pc L (.inl (.double y) :: .inl (.double x) :: S) u k n := fun ls H locs hl hw hS => lv_ddiv C.1 C.2.1 hd hne (K ls H locs hl hw hS)
theorem tv_dcmp (C : ts_CX D dT sz p l R s m args meth c own cc nL ret d) {x y : UInt64} {op : CmpOp} (hd : decode cc pc = .ok (.dcmp op, 1)) (K : ts_V D dT sz p l e R s m args below meth c nL Q ad lv rf (pc + 1) L (.inl (.int (Op.cmpValue (FP.dcmp x y) op)) :: S) u k n) : ts_V D dT sz p l e R s m args below meth c nL Q ad lv rf pc L (.inl (.double y) :: .inl (.double x) :: S) u k n := fun ls H locs hl hw hS => lv_dcmp C.1 C.2.1 hd (K ls H locs hl hw hS)
theorem tv_fcmp (C : ts_CX D dT sz p l R s m args meth c own cc nL ret d) {x y : UInt32} {op : CmpOp} (hd : decode cc pc = .ok (.fcmp op, 1)) (K : ts_V D dT sz p l e R s m args below meth c nL Q ad lv rf (pc + 1) L (.inl (.int (Op.cmpValue (FP.fcmp x y) op)) :: S) u k n) : ts_V D dT sz p l e R s m args below meth c nL Q ad lv rf pc L (.inl (.float y) :: .inl (.float x) :: S) u k n := fun ls H locs hl hw hS => lv_fcmp C.1 C.2.1 hd (K ls H locs hl hw hS)
theorem tv_dup (C : ts_CX D dT sz p l R s m args meth c own cc nL ret d) {v : ts_AV} (hd : decode cc pc = .ok (.dup, 1)) (hc : ∀ ad, (ts_cv ad v).category = 1) (K : ts_V D dT sz p l e R s m args below meth c nL Q ad lv rf (pc + 1) L (v :: v :: S) u k n) : ts_V D dT sz p l e R s m args below meth c nL Q ad lv rf pc L (v :: S) u k n := fun ls H locs hl hw hS => lv_dup C.1 C.2.1 hd (hc ad) (K ls H locs hl hw hS)
theorem tv_pop (C : ts_CX D dT sz p l R s m args meth c own cc nL ret d) {v : ts_AV} (hd : decode cc pc = .ok (.pop, 1)) (hc : ∀ ad, (ts_cv ad v).category = 1) (K : ts_V D dT sz p l e R s m args below meth c nL Q ad lv rf (pc + 1) L S u k n) : ts_V D dT sz p l e R s m args below meth c nL Q ad lv rf pc L (v :: S) u k n := fun ls H locs hl hw hS => lv_pop C.1 C.2.1 hd (hc ad) (K ls H locs hl hw hS)
theorem tv_goto (C : ts_CX D dT sz p l R s m args meth c own cc nL ret d) {off : Int} (tgt : Nat) (hd : decode cc pc = .ok (.goto off, 3)) (ht : (pc : Int) + off = (tgt : Int)) (K : ts_V D dT sz p l e R s m args below meth c nL Q ad lv rf tgt L S u k n) : ts_V D dT sz p l e R s m args below meth c nL Q ad lv rf pc L S u k n := fun ls H locs hl hw hS => lv_goto C.1 C.2.1 hd ht (K ls H locs hl hw hS)
theorem tv_if_eq (C : ts_CX D dT sz p l R s m args meth c own cc nL ret d) {x : Int32} {off : Int} (tgt : Nat) (hd : decode cc pc = .ok (.ifCond .eq off, 3)) (ht : (pc : Int) + off = (tgt : Int)) (K1 : x = 0 → ts_V D dT sz p l e R s m args below meth c nL Q ad lv rf tgt L S u k n) (K2 : ¬ x = 0 → ts_V D dT sz p l e R s m args below meth c nL Q ad lv rf (pc + 3) L S u k n) : ts_V D dT sz p l e R s m args below meth c nL Q ad lv rf pc L (.inl (.int x) :: S) u k n := fun ls H locs hl hw hS => lv_if_eq C.1 C.2.1 hd ht (fun h => K1 h ls H locs hl hw hS) (fun h => K2 h ls H locs hl hw hS)
theorem tv_icmp_eq (C : ts_CX D dT sz p l R s m args meth c own cc nL ret d) {x y : Int32} {off : Int} (tgt : Nat) (hd : decode cc pc = .ok (.if_icmp .eq off, 3)) (ht : (pc : Int) + off = (tgt : Int)) (K1 : x = y → ts_V D dT sz p l e R s m args below meth c nL Q ad lv rf tgt L S u k n) (K2 : ¬ x = y → ts_V D dT sz p l e R s m args below meth c nL Q ad lv rf (pc + 3) L S u k n) : ts_V D dT sz p l e R s m args below meth c nL Q ad lv rf pc L (.inl (.int y) :: .inl (.int x) :: S) u k n := fun ls H locs hl hw hS => lv_icmp_eq C.1 C.2.1 hd ht (fun h => K1 h ls H locs hl hw hS) (fun h => K2 h ls H locs hl hw hS)
theorem tv_if_ne (C : ts_CX D dT sz p l R s m args meth c own cc nL ret d) {x : Int32} {off : Int} (tgt : Nat) (hd : decode cc pc = .ok (.ifCond .ne off, 3)) (ht : (pc : Int) + off = (tgt : Int)) (K1 : ¬ x = 0 → ts_V D dT sz p l e R s m args below meth c nL Q ad lv rf tgt L S u k n) (K2 : x = 0 → ts_V D dT sz p l e R s m args below meth c nL Q ad lv rf (pc + 3) L S u k n) : ts_V D dT sz p l e R s m args below meth c nL Q ad lv rf pc L (.inl (.int x) :: S) u k n := fun ls H locs hl hw hS => lv_if_ne C.1 C.2.1 hd ht (fun h => K1 h ls H locs hl hw hS) (fun h => K2 h ls H locs hl hw hS)
theorem tv_icmp_ne (C : ts_CX D dT sz p l R s m args meth c own cc nL ret d) {x y : Int32} {off : Int} (tgt : Nat) (hd : decode cc pc = .ok (.if_icmp .ne off, 3)) (ht : (pc : Int) + off = (tgt : Int)) (K1 : ¬ x = y → ts_V D dT sz p l e R s m args below meth c nL Q ad lv rf tgt L S u k n) (K2 : x = y → ts_V D dT sz p l e R s m args below meth c nL Q ad lv rf (pc + 3) L S u k n) : ts_V D dT sz p l e R s m args below meth c nL Q ad lv rf pc L (.inl (.int y) :: .inl (.int x) :: S) u k n := fun ls H locs hl hw hS => lv_icmp_ne C.1 C.2.1 hd ht (fun h => K1 h ls H locs hl hw hS) (fun h => K2 h ls H locs hl hw hS)
theorem tv_if_lt (C : ts_CX D dT sz p l R s m args meth c own cc nL ret d) {x : Int32} {off : Int} (tgt : Nat) (hd : decode cc pc = .ok (.ifCond .lt off, 3)) (ht : (pc : Int) + off = (tgt : Int)) (K1 : x < 0 → ts_V D dT sz p l e R s m args below meth c nL Q ad lv rf tgt L S u k n) (K2 : ¬ x < 0 → ts_V D dT sz p l e R s m args below meth c nL Q ad lv rf (pc + 3) L S u k n) : ts_V D dT sz p l e R s m args below meth c nL Q ad lv rf pc L (.inl (.int x) :: S) u k n := fun ls H locs hl hw hS => lv_if_lt C.1 C.2.1 hd ht (fun h => K1 h ls H locs hl hw hS) (fun h => K2 h ls H locs hl hw hS)
theorem tv_icmp_lt (C : ts_CX D dT sz p l R s m args meth c own cc nL ret d) {x y : Int32} {off : Int} (tgt : Nat) (hd : decode cc pc = .ok (.if_icmp .lt off, 3)) (ht : (pc : Int) + off = (tgt : Int)) (K1 : x < y → ts_V D dT sz p l e R s m args below meth c nL Q ad lv rf tgt L S u k n) (K2 : ¬ x < y → ts_V D dT sz p l e R s m args below meth c nL Q ad lv rf (pc + 3) L S u k n) : ts_V D dT sz p l e R s m args below meth c nL Q ad lv rf pc L (.inl (.int y) :: .inl (.int x) :: S) u k n := fun ls H locs hl hw hS => lv_icmp_lt C.1 C.2.1 hd ht (fun h => K1 h ls H locs hl hw hS) (fun h => K2 h ls H locs hl hw hS)
theorem tv_if_ge (C : ts_CX D dT sz p l R s m args meth c own cc nL ret d) {x : Int32} {off : Int} (tgt : Nat) (hd : decode cc pc = .ok (.ifCond .ge off, 3)) (ht : (pc : Int) + off = (tgt : Int)) (K1 : 0 ≤ x → ts_V D dT sz p l e R s m args below meth c nL Q ad lv rf tgt L S u k n) (K2 : ¬ 0 ≤ x → ts_V D dT sz p l e R s m args below meth c nL Q ad lv rf (pc + 3) L S u k n) : ts_V D dT sz p l e R s m args below meth c nL Q ad lv rf pc L (.inl (.int x) :: S) u k n := fun ls H locs hl hw hS => lv_if_ge C.1 C.2.1 hd ht (fun h => K1 h ls H locs hl hw hS) (fun h => K2 h ls H locs hl hw hS)
theorem tv_icmp_ge (C : ts_CX D dT sz p l R s m args meth c own cc nL ret d) {x y : Int32} {off : Int} (tgt : Nat) (hd : decode cc pc = .ok (.if_icmp .ge off, 3)) (ht : (pc : Int) + off = (tgt : Int)) (K1 : y ≤ x → ts_V D dT sz p l e R s m args below meth c nL Q ad lv rf tgt L S u k n) (K2 : ¬ y ≤ x → ts_V D dT sz p l e R s m args below meth c nL Q ad lv rf (pc + 3) L S u k n) : ts_V D dT sz p l e R s m args below meth c nL Q ad lv rf pc L (.inl (.int y) :: .inl (.int x) :: S) u k n := fun ls H locs hl hw hS => lv_icmp_ge C.1 C.2.1 hd ht (fun h => K1 h ls H locs hl hw hS) (fun h => K2 h ls H locs hl hw hS)
theorem tv_if_gt (C : ts_CX D dT sz p l R s m args meth c own cc nL ret d) {x : Int32} {off : Int} (tgt : Nat) (hd : decode cc pc = .ok (.ifCond .gt off, 3)) (ht : (pc : Int) + off = (tgt : Int)) (K1 : 0 < x → ts_V D dT sz p l e R s m args below meth c nL Q ad lv rf tgt L S u k n) (K2 : ¬ 0 < x → ts_V D dT sz p l e R s m args below meth c nL Q ad lv rf (pc + 3) L S u k n) : ts_V D dT sz p l e R s m args below meth c nL Q ad lv rf pc L (.inl (.int x) :: S) u k n := fun ls H locs hl hw hS => lv_if_gt C.1 C.2.1 hd ht (fun h => K1 h ls H locs hl hw hS) (fun h => K2 h ls H locs hl hw hS)
theorem tv_icmp_gt (C : ts_CX D dT sz p l R s m args meth c own cc nL ret d) {x y : Int32} {off : Int} (tgt : Nat) (hd : decode cc pc = .ok (.if_icmp .gt off, 3)) (ht : (pc : Int) + off = (tgt : Int)) (K1 : y < x → ts_V D dT sz p l e R s m args below meth c nL Q ad lv rf tgt L S u k n) (K2 : ¬ y < x → ts_V D dT sz p l e R s m args below meth c nL Q ad lv rf (pc + 3) L S u k n) : ts_V D dT sz p l e R s m args below meth c nL Q ad lv rf pc L (.inl (.int y) :: .inl (.int x) :: S) u k n := fun ls H locs hl hw hS => lv_icmp_gt C.1 C.2.1 hd ht (fun h => K1 h ls H locs hl hw hS) (fun h => K2 h ls H locs hl hw hS)
theorem tv_if_le (C : ts_CX D dT sz p l R s m args meth c own cc nL ret d) {x : Int32} {off : Int} (tgt : Nat) (hd : decode cc pc = .ok (.ifCond .le off, 3)) (ht : (pc : Int) + off = (tgt : Int)) (K1 : x ≤ 0 → ts_V D dT sz p l e R s m args below meth c nL Q ad lv rf tgt L S u k n) (K2 : ¬ x ≤ 0 → ts_V D dT sz p l e R s m args below meth c nL Q ad lv rf (pc + 3) L S u k n) : ts_V D dT sz p l e R s m args below meth c nL Q ad lv rf pc L (.inl (.int x) :: S) u k n := fun ls H locs hl hw hS => lv_if_le C.1 C.2.1 hd ht (fun h => K1 h ls H locs hl hw hS) (fun h => K2 h ls H locs hl hw hS)
theorem tv_icmp_le (C : ts_CX D dT sz p l R s m args meth c own cc nL ret d) {x y : Int32} {off : Int} (tgt : Nat) (hd : decode cc pc = .ok (.if_icmp .le off, 3)) (ht : (pc : Int) + off = (tgt : Int)) (K1 : x ≤ y → ts_V D dT sz p l e R s m args below meth c nL Q ad lv rf tgt L S u k n) (K2 : ¬ x ≤ y → ts_V D dT sz p l e R s m args below meth c nL Q ad lv rf (pc + 3) L S u k n) : ts_V D dT sz p l e R s m args below meth c nL Q ad lv rf pc L (.inl (.int y) :: .inl (.int x) :: S) u k n := fun ls H locs hl hw hS => lv_icmp_le C.1 C.2.1 hd ht (fun h => K1 h ls H locs hl hw hS) (fun h => K2 h ls H locs hl hw hS)
end TV
