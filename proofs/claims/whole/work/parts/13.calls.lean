/-! contracts, calls, returns, throws -/
def ts_rm (d mc ms : Nat) : Room := { frames := d + 12, cells := mc, slots := ms, locals := 40 * d + 150 }
def ts_Pc (D : va_G) (dT : Nat → ClassId) (sz : Nat) (ad : ts_I → Nat) (lv : List ts_I) (rf : ts_I → Nat → Option ts_I) (A : List ts_AV) (u : ts_Mem) : Array Value → State → Prop := fun v U => v = (A.map (ts_cv ad)).toArray ∧ ts_KS D dT sz U ∧ ts_HW D dT sz ad (lv, rf, u) U.heap
def ts_Qc (D : va_G) (dT : Nat → ClassId) (sz : Nat) (ad : ts_I → Nat) (lv : List ts_I) (rf : ts_I → Nat → Option ts_I) (out : Option Value ⊕ String) (u : ts_Mem) : Array Value → State → Outcome → State → Prop := fun _ st o t => ∃ v, out = .inl v ∧ o = .returned v ∧ ts_HW D dT sz ad (lv, rf, u) t.heap ∧ va_F (fun q => sz ≤ q) st t
def ts_XC (D : va_G) (dT : Nat → ClassId) (sz : Nat) (ad : ts_I → Nat) (lv : List ts_I) (rf : ts_I → Nat → Option ts_I) (out : Option Value ⊕ String) (u : ts_Mem) : String → State → State → Prop := fun E st t => out = .inr E ∧ ts_HW D dT sz ad (lv, rf, u) t.heap ∧ va_F (fun q => sz ≤ q) st t
def ts_M (l : Launch) (D : va_G) (dT : Nat → ClassId) (sz : Nat) (y : MethodName) (w0 : Cond) (d mc ms : Nat) (ad : ts_I → Nat) (lv : List ts_I) (rf : ts_I → Nat → Option ts_I) (A : List ts_AV) (u : ts_Mem) (out : Option Value ⊕ String) (u' : ts_Mem) : Prop :=
  vx_Met l y (w0 :: ts_ws) (ts_rm d mc ms) (ts_Pc D dT sz ad lv rf A u) (ts_Qc D dT sz ad lv rf out u') (ts_XC D dT sz ad lv rf out u') mc ms (fun q => sz ≤ q)
def ts_Q (below : List Frame) (D : va_G) (dT : Nat → ClassId) (sz : Nat) (ad : ts_I → Nat) (lv : List ts_I) (rf : ts_I → Nat → Option ts_I) (out : Option Value ⊕ String) (u : ts_Mem) (args : Array Value) (s : State) (mc ms : Nat) : State → Prop :=
  vx_MQ below (ts_Qc D dT sz ad lv rf out u) (ts_XC D dT sz ad lv rf out u) args s mc ms (fun q => sz ≤ q)
theorem ts_blind {D : va_G} {dT : Nat → ClassId} {sz : Nat} {ad : ts_I → Nat} {lv : List ts_I} {rf : ts_I → Nat → Option ts_I} {A : List ts_AV} {u : ts_Mem} : FrameBlind (ts_Pc D dT sz ad lv rf A u) := fun a U g mk h => ⟨h.1, ts_KS_same h.2.1 rfl (State.WarmedH.refl U), h.2.2⟩
/-- a method by its name, its code, how an entry of a pool names it -/
def ts_YB (own : String) (ix : Nat) (y : MethodName) (w0 : Cond) (bytes : ByteArray) (maxL : Nat) (rt : Option FieldType) (na : Nat) : Prop :=
  w0 = Cond.code y bytes maxL rt ∧ w0 ∈ ts_ws ∧ Cond.initialized y.cls ∈ ts_ws ∧ Cond.methodLink own ix y ∈ ts_ws ∧ (y.cls ≠ "java/lang/invoke/MethodHandle" ∧ y.cls ≠ "java/lang/invoke/VarHandle" ∧ (parseMethodDescriptor y.desc).map (fun d => d.parameters.length) = some na) ∧ maxL ≤ 20
def ts_YV (own : String) (ix : Nat) (C : String) (y : MethodName) (w0 : Cond) (bytes : ByteArray) (maxL : Nat) (rt : Option FieldType) (na : Nat) : Prop :=
  ts_YB own ix y w0 bytes maxL rt na ∧ Cond.instanceMethod y ∈ ts_ws ∧ Cond.selects C y y ∈ ts_ws
def ts_YS (own : String) (ix : Nat) (y : MethodName) (w0 : Cond) (bytes : ByteArray) (maxL : Nat) (rt : Option FieldType) (na : Nat) : Prop :=
  ts_YB own ix y w0 bytes maxL rt na ∧ Cond.static y ∈ ts_ws
/-- .. with a table of handlers -/
def ts_YX (own : String) (ix : Nat) (y : MethodName) (w0 : Cond) (bytes : ByteArray) (maxL : Nat) (rt : Option FieldType) (hh : List (Nat × Nat × Nat × Nat)) (na : Nat) : Prop :=
  w0 = Cond.codeWith y bytes maxL rt hh ∧ w0 ∈ ts_ws ∧ Cond.initialized y.cls ∈ ts_ws ∧ Cond.methodLink own ix y ∈ ts_ws ∧ (y.cls ≠ "java/lang/invoke/MethodHandle" ∧ y.cls ≠ "java/lang/invoke/VarHandle" ∧ (parseMethodDescriptor y.desc).map (fun d => d.parameters.length) = some na) ∧ maxL ≤ 20 ∧ Cond.static y ∈ ts_ws
section TC
variable {D : va_G} {dT : Nat → ClassId} {sz : Nat} {p : Program} {l : Launch} {e : Env} {R : Room} {s : State} {m : MethodId} {args : Array Value} {below : List Frame} {meth : Method} {c : Code} {nL d : Nat} {Q : State → Prop} {own : String} {cc : ByteArray} {ret : Option FieldType}
variable {ad : ts_I → Nat} {lv : List ts_I} {rf : ts_I → Nat → Option ts_I} {pc : Nat} {L L' : List (Option ts_AV)} {S S0 : List ts_AV} {u u' : ts_Mem} {k n mc ms : Nat}
theorem ts_afterR {H : Heap} {locs : List Loc} {ls : Array Slot} {st0 rest : List Value} {v : Option Value} {a : Array Value}
    (hr : vx_Run p l e R s m args below meth c H locs k n mc ms (F0 m pc ls st0) rest (ts_Qc D dT sz ad lv rf (.inl v) u' a) (ts_XC D dT sz ad lv rf (.inl v) u') (fun q => sz ≤ q)) (hS : va_S (fun q => sz ≤ q) s.heap H locs)
    (kk : ∀ (H1 : Heap) (locs1 : List Loc), ts_HW D dT sz ad (lv, rf, u') H1 → va_S (fun q => sz ≤ q) s.heap H1 locs1 → W p l e R s m args below meth c H1 locs1 (k + mc) (n + ms) Q (F0 m (pc + 3) ls (v.toList ++ rest))) : W p l e R s m args below meth c H locs k n Q (F0 m pc ls st0) := by
  intro T hT X
  rcases hr T hT X with ⟨v', st₀, t, T', L1, h0, X', hL, e1, e2, ⟨w, hw1, hw2, hHW, hF⟩, st⟩ | ⟨q, st₀, t, T', L1, E, ce, h0, X', hL, e1, e2, ⟨hx, -⟩, -⟩
  · cases hw1
    cases hw2
    obtain ⟨k1, k2, k3⟩ := vx_keep (A1 := fun q => sz ≤ q) h0 e1 hS (fun q _ h => h) (fun q h => h) hL hF
    obtain ⟨t2, a1, b1⟩ := kk T'.heap (locs ++ L1) (by rw [e1]; exact hHW) k3 T' rfl X'
    exact ⟨t2, st t2 a1, b1⟩
  · cases hx
theorem ts_afterX {H : Heap} {locs : List Loc} {ls : Array Slot} {st0 rest : List Value} {E : String} {a : Array Value}
    (hr : vx_Run p l e R s m args below meth c H locs k n mc ms (F0 m pc ls st0) rest (ts_Qc D dT sz ad lv rf (.inr E) u' a) (ts_XC D dT sz ad lv rf (.inr E) u') (fun q => sz ≤ q)) (hS : va_S (fun q => sz ≤ q) s.heap H locs)
    (kx : ∀ (ce : Cell) (q9 : Addr) (H1 : Heap) (locs1 : List Loc), ts_HW D dT sz ad (lv, rf, u') H1 → va_S (fun q => sz ≤ q) s.heap H1 locs1 → H1[q9]? = some ce → ce.vm = .none → s.vm.findClass E = some ce.cls → vx_W p l e R s m args below meth c H1 locs1 (k + mc) (n + ms) Q (F0 m pc ls rest) q9) : W p l e R s m args below meth c H locs k n Q (F0 m pc ls st0) := by
  intro T hT X
  rcases hr T hT X with ⟨v', st₀, t, T', L1, h0, X', hL, e1, e2, ⟨w, hw1, -⟩, st⟩ | ⟨q, st₀, t, T', L1, E2, ce, h0, X', hL, e1, e2, ⟨hx, hHW, hF⟩, hce, hcv, hcl, st⟩
  · cases hw1
  · cases hx
    obtain ⟨k1, k2, k3⟩ := vx_keep (A1 := fun q => sz ≤ q) h0 e1 hS (fun q _ h => h) (fun q h => h) hL hF
    obtain ⟨t2, a1, b1⟩ := kx ce q T'.heap (locs ++ L1) (by rw [e1]; exact hHW) k3 (by rw [e1]; exact hce) hcv hcl T' rfl X'
    exact ⟨t2, st.trans a1, b1⟩
theorem ts_cb {ix na d' maxL : Nat} {y : MethodName} {w0 : Cond} {bytes : ByteArray} {rt : Option FieldType} (C : ts_CX D dT sz p l R s m args meth c own cc nL ret d) (Y : ts_YB own ix y w0 bytes maxL rt na) (hdd : d' + 1 ≤ d) : CallB R s args own ix y bytes maxL rt (w0 :: ts_ws) (ts_rm d' mc ms) mc ms na := by
  obtain ⟨y0, y1, y2, y3, y4, y5⟩ := Y
  have h1 := C.2.2.2.2.2.2.2.2.1
  have h2 := C.2.2.2.2.2.2.2.2.2.1
  refine callB_of na C.2.2.2.2.1 (ts_good y1) (by rw [y0]) rfl rfl (C.2.2.2.2.1 _ y2) (C.2.2.2.2.1 _ y3) y4 ⟨?_, ?_⟩
  · show d' + 12 + 1 ≤ R.frames
    omega
  · show 8 + (maxL + 11) + (40 * d' + 150) ≤ R.locals
    omega
theorem ts_runV {ix na d' maxL ci : Nat} {y : MethodName} {w0 : Cond} {bytes : ByteArray} {rt : Option FieldType} {i : ts_I} {As : List ts_AV} {q : vw_C} {out : Option Value ⊕ String} {ls : Array Slot} {H : Heap} {locs : List Loc} (C : ts_CX D dT sz p l R s m args meth c own cc nL ret d) (hd : decode cc pc = .ok (.invokevirtual ix, 3)) (hcl : ts_cl[ci]? = some q) (Y : ts_YV own ix q.1 y w0 bytes maxL rt na)
    (M : ts_M l D dT sz y w0 d' mc ms ad lv rf (.inr i :: As) u out u') (hi : i ∈ lv) (hs : ts_shp i = .inl ci) (hdd : d' + 1 ≤ d) (hna : As.length = na) (hk : k + mc ≤ R.cells ∧ n + ms ≤ R.slots) (hrest : (S.map fun v => (ts_cv ad v).category).sum ≤ 8) (hst : S0 = As.reverse ++ .inr i :: S)
    (hl : ts_lr nL ad L ls) (hw : ts_HW D dT sz ad (lv, rf, u) H) (hS : va_S (fun q => sz ≤ q) s.heap H locs) :
    vx_Run p l e R s m args below meth c H locs k n mc ms (F0 m pc ls (S0.map (ts_cv ad))) (S.map (ts_cv ad)) (ts_Qc D dT sz ad lv rf out u' (((.inr i :: As).map (ts_cv ad)).toArray)) (ts_XC D dT sz ad lv rf out u') (fun q => sz ≤ q) := by
  obtain ⟨q0, hq, hqw⟩ := ts_at_o (dT := dT) (ad := ad) (rf := rf) (u := u) hi hs
  exact vx_runV (b := ad i) (As := As.map (ts_cv ad)) ⟨C.1, C.2.1, C.2.2.1, C.2.2.2.1, C.2.2.2.2.1⟩ M ⟨ts_cb C Y.1 hdd, C.2.2.2.2.1 _ Y.2.1, C.2.2.2.2.1 _ Y.2.2⟩
    ⟨ts_blind, va_recv C.2.2.2.2.2.2.2.1.1 hw.1 hcl hqw, fun U hU hW => ⟨rfl, ts_KS_call C.2.2.2.2.2.2.2.1 hS hU hW, by rw [hU]; exact hw⟩⟩ rfl (by rw [List.length_map]; exact hna) hl.1 (by rw [hst]; simp [List.map_append, List.map_reverse]; rfl) (lv_room (ts_rest hrest)) hd hk
theorem ts_runS {ix na d' maxL : Nat} {y : MethodName} {w0 : Cond} {bytes : ByteArray} {rt : Option FieldType} {As : List ts_AV} {out : Option Value ⊕ String} {ls : Array Slot} {H : Heap} {locs : List Loc} (C : ts_CX D dT sz p l R s m args meth c own cc nL ret d) (hd : decode cc pc = .ok (.invokestatic ix, 3)) (Y : ts_YS own ix y w0 bytes maxL rt na)
    (M : ts_M l D dT sz y w0 d' mc ms ad lv rf As u out u') (hdd : d' + 1 ≤ d) (hna : As.length = na) (hk : k + mc ≤ R.cells ∧ n + ms ≤ R.slots) (hrest : (S.map fun v => (ts_cv ad v).category).sum ≤ 8) (hst : S0 = As.reverse ++ S)
    (hl : ts_lr nL ad L ls) (hw : ts_HW D dT sz ad (lv, rf, u) H) (hS : va_S (fun q => sz ≤ q) s.heap H locs) :
    vx_Run p l e R s m args below meth c H locs k n mc ms (F0 m pc ls (S0.map (ts_cv ad))) (S.map (ts_cv ad)) (ts_Qc D dT sz ad lv rf out u' ((As.map (ts_cv ad)).toArray)) (ts_XC D dT sz ad lv rf out u') (fun q => sz ≤ q) := by
  exact vx_runS (As := As.map (ts_cv ad)) ⟨C.1, C.2.1, C.2.2.1, C.2.2.2.1, C.2.2.2.2.1⟩ M ⟨ts_cb C Y.1 hdd, C.2.2.2.2.1 _ Y.2⟩
    ⟨ts_blind, fun U hU hW => ⟨rfl, ts_KS_call C.2.2.2.2.2.2.2.1 hS hU hW, by rw [hU]; exact hw⟩⟩ rfl (by rw [List.length_map]; exact hna) hl.1 (by rw [hst]; simp [List.map_append, List.map_reverse]) (lv_room (ts_rest hrest)) hd hk
theorem ts_runX {ix na d' maxL : Nat} {y : MethodName} {w0 : Cond} {bytes : ByteArray} {rt : Option FieldType} {hh : List (Nat × Nat × Nat × Nat)} {As : List ts_AV} {out : Option Value ⊕ String} {ls : Array Slot} {H : Heap} {locs : List Loc} (C : ts_CX D dT sz p l R s m args meth c own cc nL ret d) (hd : decode cc pc = .ok (.invokestatic ix, 3)) (Y : ts_YX own ix y w0 bytes maxL rt hh na)
    (M : ts_M l D dT sz y w0 d' mc ms ad lv rf As u out u') (hdd : d' + 1 ≤ d) (hna : As.length = na) (hk : k + mc ≤ R.cells ∧ n + ms ≤ R.slots) (hrest : (S.map fun v => (ts_cv ad v).category).sum ≤ 8) (hst : S0 = As.reverse ++ S)
    (hl : ts_lr nL ad L ls) (hw : ts_HW D dT sz ad (lv, rf, u) H) (hS : va_S (fun q => sz ≤ q) s.heap H locs) :
    vx_Run p l e R s m args below meth c H locs k n mc ms (F0 m pc ls (S0.map (ts_cv ad))) (S.map (ts_cv ad)) (ts_Qc D dT sz ad lv rf out u' ((As.map (ts_cv ad)).toArray)) (ts_XC D dT sz ad lv rf out u') (fun q => sz ≤ q) := by
  obtain ⟨y0, y1, y2, y3, y4, y5, y6⟩ := Y
  have h1 := C.2.2.2.2.2.2.2.2.1
  have h2 := C.2.2.2.2.2.2.2.2.2.1
  have hf : (ts_rm d' mc ms).frames + 1 ≤ R.frames := by
    show d' + 12 + 1 ≤ R.frames
    omega
  have hlo : 8 + (maxL + 11) + (ts_rm d' mc ms).locals ≤ R.locals := by
    show 8 + (maxL + 11) + (40 * d' + 150) ≤ R.locals
    omega
  exact vx_runSX (hh := hh) (bytes := bytes) (maxL := maxL) (ret := rt) (n := na) (As := As.map (ts_cv ad)) ⟨C.1, C.2.1, C.2.2.1, C.2.2.2.1, C.2.2.2.2.1⟩ M
    ⟨⟨rfl, rfl, hf, hlo, pay_in C.2.2.2.2.1 (ts_good y1), by rw [← y0]; exact List.mem_cons_self⟩, by rw [← y0]; exact C.2.2.2.2.1 _ y1, C.2.2.2.2.1 _ y2, ⟨y4.1, y4.2.1⟩, fun sig h => by have h3 := y4.2.2; rw [h] at h3; exact (Option.some.inj h3).symm, C.2.2.2.2.1 _ y3, C.2.2.2.2.1 _ y6⟩
    ⟨ts_blind, fun U hU hW => ⟨rfl, ts_KS_call C.2.2.2.2.2.2.2.1 hS hU hW, by rw [hU]; exact hw⟩⟩ rfl (by rw [List.length_map]; exact hna) hl.1 (by rw [hst]; simp [List.map_append, List.map_reverse]) (lv_room (ts_rest hrest)) hd hk
theorem tv_callV (C : ts_CX D dT sz p l R s m args meth c own cc nL ret d) {ix na d' maxL ci : Nat} {y : MethodName} {w0 : Cond} {bytes : ByteArray} {rt : Option FieldType} {i : ts_I} {As : List ts_AV} {q : vw_C} {v : Option Value} (hd : decode cc pc = .ok (.invokevirtual ix, 3)) (hcl : ts_cl[ci]? = some q) (Y : ts_YV own ix q.1 y w0 bytes maxL rt na) (M : ts_M l D dT sz y w0 d' mc ms ad lv rf (.inr i :: As) u (.inl v) u') (hi : i ∈ lv) (hs : ts_shp i = .inl ci) (hdd : d' + 1 ≤ d) (hna : As.length = na) (hk : k + mc ≤ R.cells ∧ n + ms ≤ R.slots) (hrest : ∀ ad : ts_I → Nat, (S.map fun v => (ts_cv ad v).category).sum ≤ 8) (hst : S0 = As.reverse ++ .inr i :: S)
    (K : ts_V D dT sz p l e R s m args below meth c nL Q ad lv rf (pc + 3) L (v.toList.map Sum.inl ++ S) u' (k + mc) (n + ms)) : ts_V D dT sz p l e R s m args below meth c nL Q ad lv rf pc L S0 u k n := by
  intro ls H locs hl hw hS
  refine ts_afterR (ts_runV C hd hcl Y M hi hs hdd hna hk (hrest ad) hst hl hw hS) hS (fun H1 locs1 hw1 hS1 => ?_)
  have h := K ls H1 locs1 hl hw1 hS1
  rw [List.map_append, List.map_map] at h
  cases v with
  | none => exact h
  | some v => exact h
theorem tv_callV_thr (C : ts_CX D dT sz p l R s m args meth c own cc nL ret d) {ix na d' maxL ci : Nat} {y : MethodName} {w0 : Cond} {bytes : ByteArray} {rt : Option FieldType} {i : ts_I} {As : List ts_AV} {q : vw_C} {E : String} {mc2 ms2 : Nat} (hX : ∀ x ∈ c.exceptionTable.toList, False) (hd : decode cc pc = .ok (.invokevirtual ix, 3)) (hcl : ts_cl[ci]? = some q) (Y : ts_YV own ix q.1 y w0 bytes maxL rt na) (M : ts_M l D dT sz y w0 d' mc ms ad lv rf (.inr i :: As) u (.inr E) u') (hi : i ∈ lv) (hs : ts_shp i = .inl ci) (hdd : d' + 1 ≤ d) (hna : As.length = na) (hk : k + mc ≤ R.cells ∧ n + ms ≤ R.slots) (hrest : ∀ ad : ts_I → Nat, (S.map fun v => (ts_cv ad v).category).sum ≤ 8) (hst : S0 = As.reverse ++ .inr i :: S) (hc2 : k + mc ≤ mc2 ∧ n + ms ≤ ms2)
    : ts_V D dT sz p l e R s m args below meth c nL (ts_Q below D dT sz ad lv rf (.inr E) u' args s mc2 ms2) ad lv rf pc L S0 u k n := by
  intro ls H locs hl hw hS
  refine ts_afterX (ts_runV C hd hcl Y M hi hs hdd hna hk (hrest ad) hst hl hw hS) hS (fun ce q9 H1 locs1 hw1 hS1 hce hcv hcl => ?_)
  exact vx_out (fun x hx => (hX x hx).elim) C.2.2.2.2.2.1 hce hcv hcl (fun t ht _ => ⟨rfl, by rw [ht]; exact hw1, hS1.F ht⟩) hS1.2.2 hc2.1 hc2.2
/-- thrown by the callee, caught here -/
theorem tv_callV_cat (C : ts_CX D dT sz p l R s m args meth c own cc nL ret d) {ix na d' maxL ci : Nat} {y : MethodName} {w0 : Cond} {bytes : ByteArray} {rt : Option FieldType} {i : ts_I} {As : List ts_AV} {q : vw_C} {E name : String} (pre : List ExceptionTableEntry) (x : ExceptionTableEntry) (suf : List ExceptionTableEntry) (hsp : c.exceptionTable.toList = pre ++ x :: suf) (hps : ∀ z ∈ pre, z.catchType ≠ 0 ∧ ∃ nm ∈ ts_xs, E ≠ nm ∧ Cond.classLink own z.catchType nm ∈ ts_ws) (hcv : covers x pc = true) (h0 : x.catchType ≠ 0) (hE : E ∈ ts_xs) (hlk : Cond.classLink own x.catchType E ∈ ts_ws) (hca : Cond.castable E E ∈ lw_tbl) (hd : decode cc pc = .ok (.invokevirtual ix, 3)) (hcl : ts_cl[ci]? = some q) (Y : ts_YV own ix q.1 y w0 bytes maxL rt na) (M : ts_M l D dT sz y w0 d' mc ms ad lv rf (.inr i :: As) u (.inr E) u') (hi : i ∈ lv) (hs : ts_shp i = .inl ci) (hdd : d' + 1 ≤ d) (hna : As.length = na) (hk : k + mc ≤ R.cells ∧ n + ms ≤ R.slots) (hrest : ∀ ad : ts_I → Nat, (S.map fun v => (ts_cv ad v).category).sum ≤ 8) (hst : S0 = As.reverse ++ .inr i :: S)
    (K : ∀ a : Nat, ts_V D dT sz p l e R s m args below meth c nL Q ad lv rf x.handlerPc L [.inl (.ref a)] u' (k + mc) (n + ms)) : ts_V D dT sz p l e R s m args below meth c nL Q ad lv rf pc L S0 u k n := by
  intro ls H locs hl hw hS
  refine ts_afterX (ts_runV C hd hcl Y M hi hs hdd hna hk (hrest ad) hst hl hw hS) hS (fun ce q9 H1 locs1 hw1 hS1 hce hcv2 hcl => ?_)
  refine vx_catch C.2.2.2.1 pre x suf hsp (fun z hz => ?_) hcv h0 (C.2.2.2.2.1 _ hlk) (va_Nw.use rfl (C.2.2.2.2.2.2.2.1.2.2.2.2.2.2 _ hca rfl)) hce hcv2 hcl (K q9 ls H1 locs1 hl hw1 hS1)
  obtain ⟨hz0, nm, hnm, hne, hlk2⟩ := hps z hz
  exact Or.inr ⟨hz0, nm, C.2.2.2.2.1 _ hlk2, C.2.2.2.2.2.2.2.1.2.2.2.2.2.1 _ hE _ hnm hne⟩
theorem tv_callS (C : ts_CX D dT sz p l R s m args meth c own cc nL ret d) {ix na d' maxL : Nat} {y : MethodName} {w0 : Cond} {bytes : ByteArray} {rt : Option FieldType} {As : List ts_AV} {v : Option Value} (hd : decode cc pc = .ok (.invokestatic ix, 3)) (Y : ts_YS own ix y w0 bytes maxL rt na) (M : ts_M l D dT sz y w0 d' mc ms ad lv rf (As) u (.inl v) u') (hdd : d' + 1 ≤ d) (hna : As.length = na) (hk : k + mc ≤ R.cells ∧ n + ms ≤ R.slots) (hrest : ∀ ad : ts_I → Nat, (S.map fun v => (ts_cv ad v).category).sum ≤ 8) (hst : S0 = As.reverse ++ S)
    (K : ts_V D dT sz p l e R s m args below meth c nL Q ad lv rf (pc + 3) L (v.toList.map Sum.inl ++ S) u' (k + mc) (n + ms)) : ts_V D dT sz p l e R s m args below meth c nL Q ad lv rf pc L S0 u k n := by
  intro ls H locs hl hw hS
  refine ts_afterR (ts_runS C hd Y M hdd hna hk (hrest ad) hst hl hw hS) hS (fun H1 locs1 hw1 hS1 => ?_)
  have h := K ls H1 locs1 hl hw1 hS1
  rw [List.map_append, List.map_map] at h
  cases v with
  | none => exact h
  | some v => exact h
theorem tv_callS_thr (C : ts_CX D dT sz p l R s m args meth c own cc nL ret d) {ix na d' maxL : Nat} {y : MethodName} {w0 : Cond} {bytes : ByteArray} {rt : Option FieldType} {As : List ts_AV} {E : String} {mc2 ms2 : Nat} (hX : ∀ x ∈ c.exceptionTable.toList, False) (hd : decode cc pc = .ok (.invokestatic ix, 3)) (Y : ts_YS own ix y w0 bytes maxL rt na) (M : ts_M l D dT sz y w0 d' mc ms ad lv rf (As) u (.inr E) u') (hdd : d' + 1 ≤ d) (hna : As.length = na) (hk : k + mc ≤ R.cells ∧ n + ms ≤ R.slots) (hrest : ∀ ad : ts_I → Nat, (S.map fun v => (ts_cv ad v).category).sum ≤ 8) (hst : S0 = As.reverse ++ S) (hc2 : k + mc ≤ mc2 ∧ n + ms ≤ ms2)
    : ts_V D dT sz p l e R s m args below meth c nL (ts_Q below D dT sz ad lv rf (.inr E) u' args s mc2 ms2) ad lv rf pc L S0 u k n := by
  intro ls H locs hl hw hS
  refine ts_afterX (ts_runS C hd Y M hdd hna hk (hrest ad) hst hl hw hS) hS (fun ce q9 H1 locs1 hw1 hS1 hce hcv hcl => ?_)
  exact vx_out (fun x hx => (hX x hx).elim) C.2.2.2.2.2.1 hce hcv hcl (fun t ht _ => ⟨rfl, by rw [ht]; exact hw1, hS1.F ht⟩) hS1.2.2 hc2.1 hc2.2
theorem tv_callX (C : ts_CX D dT sz p l R s m args meth c own cc nL ret d) {ix na d' maxL : Nat} {y : MethodName} {w0 : Cond} {bytes : ByteArray} {rt : Option FieldType} {hh : List (Nat × Nat × Nat × Nat)} {As : List ts_AV} {v : Option Value} (hd : decode cc pc = .ok (.invokestatic ix, 3)) (Y : ts_YX own ix y w0 bytes maxL rt hh na) (M : ts_M l D dT sz y w0 d' mc ms ad lv rf (As) u (.inl v) u') (hdd : d' + 1 ≤ d) (hna : As.length = na) (hk : k + mc ≤ R.cells ∧ n + ms ≤ R.slots) (hrest : ∀ ad : ts_I → Nat, (S.map fun v => (ts_cv ad v).category).sum ≤ 8) (hst : S0 = As.reverse ++ S)
    (K : ts_V D dT sz p l e R s m args below meth c nL Q ad lv rf (pc + 3) L (v.toList.map Sum.inl ++ S) u' (k + mc) (n + ms)) : ts_V D dT sz p l e R s m args below meth c nL Q ad lv rf pc L S0 u k n := by
  intro ls H locs hl hw hS
  refine ts_afterR (ts_runX C hd Y M hdd hna hk (hrest ad) hst hl hw hS) hS (fun H1 locs1 hw1 hS1 => ?_)
  have h := K ls H1 locs1 hl hw1 hS1
  rw [List.map_append, List.map_map] at h
  cases v with
  | none => exact h
  | some v => exact h
theorem tv_callX_thr (C : ts_CX D dT sz p l R s m args meth c own cc nL ret d) {ix na d' maxL : Nat} {y : MethodName} {w0 : Cond} {bytes : ByteArray} {rt : Option FieldType} {hh : List (Nat × Nat × Nat × Nat)} {As : List ts_AV} {E : String} {mc2 ms2 : Nat} (hX : ∀ x ∈ c.exceptionTable.toList, False) (hd : decode cc pc = .ok (.invokestatic ix, 3)) (Y : ts_YX own ix y w0 bytes maxL rt hh na) (M : ts_M l D dT sz y w0 d' mc ms ad lv rf (As) u (.inr E) u') (hdd : d' + 1 ≤ d) (hna : As.length = na) (hk : k + mc ≤ R.cells ∧ n + ms ≤ R.slots) (hrest : ∀ ad : ts_I → Nat, (S.map fun v => (ts_cv ad v).category).sum ≤ 8) (hst : S0 = As.reverse ++ S) (hc2 : k + mc ≤ mc2 ∧ n + ms ≤ ms2)
    : ts_V D dT sz p l e R s m args below meth c nL (ts_Q below D dT sz ad lv rf (.inr E) u' args s mc2 ms2) ad lv rf pc L S0 u k n := by
  intro ls H locs hl hw hS
  refine ts_afterX (ts_runX C hd Y M hdd hna hk (hrest ad) hst hl hw hS) hS (fun ce q9 H1 locs1 hw1 hS1 hce hcv hcl => ?_)
  exact vx_out (fun x hx => (hX x hx).elim) C.2.2.2.2.2.1 hce hcv hcl (fun t ht _ => ⟨rfl, by rw [ht]; exact hw1, hS1.F ht⟩) hS1.2.2 hc2.1 hc2.2
theorem tv_iret (C : ts_CX D dT sz p l R s m args meth c own cc nL ret d) {v : Int32} {mc2 ms2 : Nat} (hr : ret = some .int) (hd : decode cc pc = .ok (.ireturn, 1)) (hc2 : k ≤ mc2 ∧ n ≤ ms2) : ts_V D dT sz p l e R s m args below meth c nL (ts_Q below D dT sz ad lv rf (.inl (some (.int v))) u args s mc2 ms2) ad lv rf pc L [.inl (.int v)] u k n := by
  intro ls H locs hl hw hS
  have hlk := C.2.2.2.2.2.1
  exact W.widen hc2.1 hc2.2 (vx_ret (W.iret C.1 C.2.1 (C.2.2.2.2.2.2.2.2.2.2.trans hr) (fun t ht _ => ⟨_, rfl, rfl, by rw [ht]; exact hw, hS.F ht⟩) hS.2.2 hd))
theorem tv_fret (C : ts_CX D dT sz p l R s m args meth c own cc nL ret d) {v : UInt32} {mc2 ms2 : Nat} (hr : ret = some .float) (hd : decode cc pc = .ok (.freturn, 1)) (hc2 : k ≤ mc2 ∧ n ≤ ms2) : ts_V D dT sz p l e R s m args below meth c nL (ts_Q below D dT sz ad lv rf (.inl (some (.float v))) u args s mc2 ms2) ad lv rf pc L [.inl (.float v)] u k n := by
  intro ls H locs hl hw hS
  have hlk := C.2.2.2.2.2.1
  exact W.widen hc2.1 hc2.2 (vx_ret (W.fret C.1 C.2.1 (C.2.2.2.2.2.2.2.2.2.2.trans hr) (fun t ht _ => ⟨_, rfl, rfl, by rw [ht]; exact hw, hS.F ht⟩) hS.2.2 hd))
theorem tv_dret (C : ts_CX D dT sz p l R s m args meth c own cc nL ret d) {v : UInt64} {mc2 ms2 : Nat} (hr : ret = some .double) (hd : decode cc pc = .ok (.dreturn, 1)) (hc2 : k ≤ mc2 ∧ n ≤ ms2) : ts_V D dT sz p l e R s m args below meth c nL (ts_Q below D dT sz ad lv rf (.inl (some (.double v))) u args s mc2 ms2) ad lv rf pc L [.inl (.double v)] u k n := by
  intro ls H locs hl hw hS
  have hlk := C.2.2.2.2.2.1
  exact W.widen hc2.1 hc2.2 (vx_ret (W.dret C.1 C.2.1 (C.2.2.2.2.2.2.2.2.2.2.trans hr) (fun t ht _ => ⟨_, rfl, rfl, by rw [ht]; exact hw, hS.F ht⟩) hS.2.2 hd))
theorem tv_zret (C : ts_CX D dT sz p l R s m args meth c own cc nL ret d) {v : Int32} {mc2 ms2 : Nat} (hr : ret = some .boolean) (hn : narrow .boolean (.int v) = .int v) (hd : decode cc pc = .ok (.ireturn, 1)) (hc2 : k ≤ mc2 ∧ n ≤ ms2) : ts_V D dT sz p l e R s m args below meth c nL (ts_Q below D dT sz ad lv rf (.inl (some (.int v))) u args s mc2 ms2) ad lv rf pc L [.inl (.int v)] u k n := by
  intro ls H locs hl hw hS
  have hlk := C.2.2.2.2.2.1
  exact W.widen hc2.1 hc2.2 (vx_ret (W.zret C.1 C.2.1 (C.2.2.2.2.2.2.2.2.2.2.trans hr) hn (fun t ht _ => ⟨_, rfl, rfl, by rw [ht]; exact hw, hS.F ht⟩) hS.2.2 hd))
theorem tv_vret (C : ts_CX D dT sz p l R s m args meth c own cc nL ret d) {mc2 ms2 : Nat} (hr : ret = none) (hd : decode cc pc = .ok (.return_, 1)) (hc2 : k ≤ mc2 ∧ n ≤ ms2) : ts_V D dT sz p l e R s m args below meth c nL (ts_Q below D dT sz ad lv rf (.inl none) u args s mc2 ms2) ad lv rf pc L [] u k n := by
  intro ls H locs hl hw hS
  have hlk := C.2.2.2.2.2.1
  exact W.widen hc2.1 hc2.2 (vx_ret (W.vret C.1 C.2.1 (C.2.2.2.2.2.2.2.2.2.2.trans hr) (fun t ht _ => ⟨_, rfl, rfl, by rw [ht]; exact hw, hS.F ht⟩) hS.2.2 hd))
/-- what a place 'throw new E(text)' needs of the tables -/
def ts_TH (own : String) (ik is ic : Nat) (cls text : String) (names : List String) : Prop :=
  Bundle.fit cls = true ∧ (∀ z ∈ names, Bundle.fit z = true) ∧ Cond.classLink own ik cls ∈ ts_ws ∧ Cond.initialized cls ∈ ts_ws ∧ (own, is, text) ∈ ts_strs ∧ (∀ w ∈ vx_atS own ic cls names, w ∈ lw_tbl ∧ (goodWord w = true ∨ (ts_isc w = true ∧ w.onTables = true))) ∧ (∀ w ∈ Cond.classLink own ik cls :: Cond.initialized cls :: vx_atS own ic cls names, vx_ot w = true) ∧ names.length ≤ 3
theorem tv_throw (C : ts_CX D dT sz p l R s m args meth c own cc nL ret d) {ik is ic mc2 ms2 : Nat} {cls text : String} {names : List String} (hX : ∀ x ∈ c.exceptionTable.toList, False) (F : ts_TH own ik is ic cls text names)
    (d0 : decode cc pc = .ok (.new ik, 3)) (d3 : decode cc (pc + 3) = .ok (.dup, 1)) (d4 : decode cc (pc + 4) = .ok (.ldc is, 2)) (d6 : decode cc (pc + 6) = .ok (.invokespecial ic, 3)) (d9 : decode cc (pc + 9) = .ok (.athrow, 1))
    (hk : k + 1 ≤ R.cells ∧ n + 6 ≤ R.slots) (hrest : ∀ ad : ts_I → Nat, (S.map fun v => (ts_cv ad v).category).sum ≤ 8) (hc2 : k + 1 ≤ mc2 ∧ n + 6 ≤ ms2) : ts_V D dT sz p l e R s m args below meth c nL (ts_Q below D dT sz ad lv rf (.inr cls) u args s mc2 ms2) ad lv rf pc L S u k n := by
  intro ls H locs hl hw hS
  obtain ⟨f1, f2, f3, f4, f5, f6, f7, f8⟩ := F
  obtain ⟨sa, hsa⟩ := C.2.2.2.2.2.2.2.1.2.2.2.2.1 _ f5
  have h1 := C.2.2.2.2.2.2.2.2.1
  have h2 := C.2.2.2.2.2.2.2.2.2.1
  have h3 := ts_rest (hrest ad)
  have hat : ∀ w ∈ vx_atS own ic cls names, w.before args s = true := by
    intro w hw2
    obtain ⟨g1, g2 | g2⟩ := f6 w hw2
    · exact C.2.2.2.2.1 w (List.mem_filter.mpr ⟨g1, g2⟩)
    · exact va_Nw.use g2.2 (C.2.2.2.2.2.2.2.1.2.2.2.2.2.2 _ g1 g2.1)
  refine vx_throwS C.1 C.2.1 C.2.2.2.2.2.2.1 C.2.2.2.1 f1 f2 (C.2.2.2.2.1 _ f3) (C.2.2.2.2.1 _ f4) hsa hat f7 C.2.2.2.2.2.2.2.1.2.2.1 C.2.2.2.2.2.2.2.1.2.2.2.1 hS (hl.1.trans C.2.2.1.symm) d0 d3 d4 d6 d9 (fun x hx => (hX x hx).elim) (by omega) (by omega) hk.1 hk.2 C.2.2.2.2.2.1 (fun t hv hz hq => ⟨rfl, ?_, ?_⟩) hS.2.2 hc2.1 hc2.2
  · exact ⟨hw.1.kept (fun j x hx => hq x.1 (vx_lt hw.1 hx)), hw.2⟩
  · exact ⟨Nat.le_trans hS.1 hz, fun q g1 g2 => (hq q (Nat.lt_of_lt_of_le g1 hS.1)).trans (hS.2.1 q g1 g2)⟩
end TC
