/-! THE CLAIM OUT OF ONE WALK OF THE LAW'S BODY. Your part is whole_start (and what it stands on); all else here is the same for every law, but numbers. -/
def R_law : String := "TimestampSchedulerLaw"
def lw_P (b : Addr) (xs : List Int32) (args : Array Value) (s : State) : Prop := args = #[.ref b] ∧ s.IntsAt b xs ∧ xs.length ≤ 2048 ∧ (Jvm.Cond.and given_1 narrow_1).before args s = true
/-- what a walk over the start with the record d0 says of its end, said of the start itself -/
theorem lw_closed {s t : State} {o : Outcome} {d0 : Drawn} {L : List Loc} {k n : Nat} (hd0 : s.drawn.sameBut d0 lw_cs) (hv : ∃ v, o = .returned v) (hW : (s.setDrawn d0).WarmedH t.vm) (hs : (s.setDrawn d0).sameButNew ({ t with vm := s.vm } : State) L k n) : State.butDraws s t lw_cs (fun t1 => Framed s o t1 L k n) := by
  have h2 : t.drawn = d0 := congrArg State.drawn hs.1
  refine ⟨⟨hv, hW, State.sameButNew.setDrawn hs s.drawn⟩, ?_, by decide⟩
  rw [h2]
  exact hd0
def lw_Q (_ : Array Value) (s : State) (o : Outcome) (t : State) : Prop := o = .returned (some (.int 1)) ∧ State.butDraws s t lw_cs (fun t1 => Framed s o t1 [] 603072 7166058)
def lw_Z (below : List Frame) (a : Array Value) (s : State) : State → Prop := fun t => ∃ o, t.status = .running ∧ Ended t below o ∧ lw_Q a s o t
/-- the law's own end, with 1 on the stack, nothing written that was there before, its room as the claim has it; d0: the record of draws at this point (at the entry s.drawn: begin with 'refine W.base ?_' and 'have hd0 := Drawn.sameBut.refl s.drawn lw_cs') -/
theorem lw_ret {p : Program} {l : Launch} {e : Env} {s : State} {m : MethodId} {below : List Frame} {meth : Method} {c : Code} {b : Nat} {d0 : Drawn} (hd0 : s.drawn.sameBut d0 lw_cs) (hx : p.tables.exec = Jvm.exec) (hb : c.code = code) (hr : meth.sig.returnType = ret) (hlocks : meth.locks = false) {pc : Nat} {H : Heap} {ls : Array Slot} (hdg : decode code pc = .ok (.ireturn, 1)) : W p l e room_1 (s.setDrawn d0) m #[Value.ref b] below meth c H [] 603072 7166058 (lw_Z below #[Value.ref b] s) (F0 m pc ls [.int 1]) := by
  intro T hT X
  obtain ⟨fs, hret, hrun, hended, hW, hframe⟩ := X.leave (v := some (.int 1)) (hlocks := hlocks) (fun h => by rw [hr] at h; cases h)
  have hmeth' : T.vm.method? m = some meth := X.method'
  refine ⟨T.setFrames fs, ?_, .returned (some (.int 1)), hrun, hended, rfl, lw_closed hd0 ⟨_, rfl⟩ hW hframe⟩
  jvm_step X.here [X.here.top, hx, hb, hdg, hmeth', hr, ret, narrow_b1]
  (try refine ⟨rfl, ?_⟩); (try refine ⟨rfl, ?_⟩)
  first | (intro acts; rw [hret _ acts rfl rfl rfl]) | rw [hret _ _ rfl rfl rfl]
  exact Steps.refl _
/-- what holds at the law's entry: the machine, the code, the tables' words (any of lw_tbl by 'hts w (by decide +kernel)'), the script of L ints xs at the cell b, what the Statement gives of the start (any of its parts by flat_of_before) -/
def lw_At (p : Program) (s : State) (m : MethodId) (meth : Method) (c : Code) (b L : Nat) (xs : Nat → Int32) : Prop :=
  p.tables.exec = Jvm.exec ∧ c.code = code ∧ meth.sig.returnType = ret ∧ c.maxLocals = 9 ∧ s.vm.findClass R_law = some m.cls ∧ (∀ w ∈ lw_tbl, w.before #[Value.ref b] s = true) ∧ va_X b L xs s s.heap ∧ b < s.heap.size ∧ meth.locks = false ∧ (Jvm.Cond.and given_1 narrow_1).before #[Value.ref b] s = true
theorem ts_sub {w : Cond} (h : w ∈ ts_ws) : w ∈ lw_tbl := (List.mem_filter.mp h).1
theorem ts_nc_all : ∀ a ∈ ts_xs, ∀ b ∈ ts_xs, a ≠ b → Cond.not (.castable a b) ∈ flatC (Jvm.Cond.and given_1 narrow_1) := by decide +kernel
theorem ts_st_all : ∀ q ∈ ts_strs, Cond.stringRef q.1 q.2.1 q.2.2 ∈ lw_tbl ∧ Cond.exactly (.string q.1 q.2.1) "java/lang/String" ∈ flatC (Jvm.Cond.and given_1 narrow_1) := by decide +kernel
theorem ts_is_all : (Cond.isRef (.static Bundle.tN "UNASSIGNED_STACK" Bundle.steD) ∈ flatC (Jvm.Cond.and given_1 narrow_1) ∧ Cond.isRef (.static Bundle.tN "SUPPRESSED_SENTINEL" Bundle.listD) ∈ flatC (Jvm.Cond.and given_1 narrow_1)) ∧ (Cond.laysStatic Bundle.tN "UNASSIGNED_STACK" Bundle.steD ∈ lw_tbl ∧ Cond.laysStatic Bundle.tN "SUPPRESSED_SENTINEL" Bundle.listD ∈ lw_tbl ∧ Cond.initialized Bundle.tN ∈ lw_tbl) := by decide +kernel
theorem ts_ins_all : Cond.instantiable RX0 8 ∈ lw_tbl ∧ Cond.instantiable RX1 5 ∈ lw_tbl ∧ Cond.instantiable RX2 6 ∈ lw_tbl ∧ Cond.instantiable RX3 8 ∈ lw_tbl ∧ Cond.instantiable RX4 4 ∈ lw_tbl ∧ Cond.instantiable RX5 10 ∈ lw_tbl ∧ Cond.instantiable RX6 6 ∈ lw_tbl ∧ Cond.instantiable RX7 37 ∈ lw_tbl := by decide +kernel
theorem ts_arr_all : (Cond.arrayClass .int ∈ lw_tbl ∧ Cond.arrayClass .char ∈ lw_tbl ∧ Cond.arrayClass .float ∈ lw_tbl ∧ Cond.arrayClass .long ∈ lw_tbl ∧ Cond.arrayClass .double ∈ lw_tbl) ∧ (Cond.arrayOver (.object RX5) ∈ lw_tbl ∧ Cond.arrayOver (.object RX1) ∈ lw_tbl ∧ Cond.arrayOver (.object RX4) ∈ lw_tbl) := by decide +kernel
theorem ts_arrP {s : State} {args : Array Value} {ty : FieldType} (h : (Cond.arrayClass ty).before args s = true) (hn : ∀ C, ty ≠ .object C) : ∃ c : ClassId, ArrOfT s c ty ∧ va_RA s c ty := by
  obtain ⟨c, k, comp, h1, h2, h3⟩ := Cond.arrayClass_spec h
  refine ⟨c, fun n z => ⟨fun k h => (by cases h), k, h2, comp, h3⟩, ?_⟩
  cases ty <;> first | exact absurd rfl (hn _) | exact h1
theorem ts_arrO {s : State} {args : Array Value} {C : String} (h : (Cond.arrayOver (.object C)).before args s = true) : ∃ c : ClassId, ArrOfT s c (.object C) ∧ va_RA s c (.object C) := by
  obtain ⟨comp, c, k, h1, -, h2, h3, h4⟩ := Cond.arrayOver_spec h
  exact ⟨c, fun n z => ⟨fun k h => (by cases h), k, h2, comp, h3⟩, k, comp, h2, h3, h1, h4⟩
/-- what the start gives -/
theorem ts_start {s : State} {b : Nat} (hts : ∀ w ∈ lw_tbl, w.before #[Value.ref b] s = true) (hgv : (Jvm.Cond.and given_1 narrow_1).before #[Value.ref b] s = true) : ∃ (D : va_G) (dT : Nat → ClassId), ts_KS D dT s.heap.size s ∧ ts_KA s := by
  have hs := flat_of_before _ hgv
  obtain ⟨i0, i1, i2, i3, i4, i5, i6, i7⟩ := ts_ins_all
  obtain ⟨c0, iS0, hK0⟩ := u_known (C := RX0) (T := TX0) (N := 8) (n := 8) hts (fun w h => ts_sub (ts_in0 w h)) (hts _ i0)
  obtain ⟨c1, iS1, hK1⟩ := u_known (C := RX1) (T := TX1) (N := 5) (n := 5) hts (fun w h => ts_sub (ts_in1 w h)) (hts _ i1)
  obtain ⟨c2, iS2, hK2⟩ := u_known (C := RX2) (T := TX2) (N := 6) (n := 6) hts (fun w h => ts_sub (ts_in2 w h)) (hts _ i2)
  obtain ⟨c3, iS3, hK3⟩ := u_known (C := RX3) (T := TX3) (N := 8) (n := 8) hts (fun w h => ts_sub (ts_in3 w h)) (hts _ i3)
  obtain ⟨c4, iS4, hK4⟩ := u_known (C := RX4) (T := TX4) (N := 4) (n := 4) hts (fun w h => ts_sub (ts_in4 w h)) (hts _ i4)
  obtain ⟨c5, iS5, hK5⟩ := u_known (C := RX5) (T := TX5) (N := 10) (n := 10) hts (fun w h => ts_sub (ts_in5 w h)) (hts _ i5)
  obtain ⟨c6, iS6, hK6⟩ := u_known (C := RX6) (T := TX6) (N := 6) (n := 6) hts (fun w h => ts_sub (ts_in6 w h)) (hts _ i6)
  obtain ⟨c7, iS7, hK7⟩ := u_known (C := RX7) (T := TX7) (N := 37) (n := 37) hts (fun w h => ts_sub (ts_in7 w h)) (hts _ i7)
  obtain ⟨⟨a0, a1, a2, a3, a4⟩, a5, a6, a7⟩ := ts_arr_all
  obtain ⟨t0, hT0⟩ := ts_arrP (hts _ a0) (fun C h => by cases h)
  obtain ⟨t1, hT1⟩ := ts_arrP (hts _ a1) (fun C h => by cases h)
  obtain ⟨t2, hT2⟩ := ts_arrP (hts _ a2) (fun C h => by cases h)
  obtain ⟨t3, hT3⟩ := ts_arrP (hts _ a3) (fun C h => by cases h)
  obtain ⟨t4, hT4⟩ := ts_arrP (hts _ a4) (fun C h => by cases h)
  obtain ⟨t5, hT5⟩ := ts_arrO (hts _ a5)
  obtain ⟨t6, hT6⟩ := ts_arrO (hts _ a6)
  obtain ⟨t7, hT7⟩ := ts_arrO (hts _ a7)
  obtain ⟨D, hD⟩ : ∃ D : va_G, ∀ (k : Nat) (q : vw_C), ts_cl[k]? = some q → u_Kn s q.1 q.2.1 q.2.2 (D.1 k) (D.2 k) := by
    refine ⟨(fun k => [c0, c1, c2, c3, c4, c5, c6, c7].getD k 0, fun k => [iS0, iS1, iS2, iS3, iS4, iS5, iS6, iS7].getD k iS0), ?_⟩
    intro k q hq
    match k, hq with
    | 0, hq => cases hq; exact hK0
    | 1, hq => cases hq; exact hK1
    | 2, hq => cases hq; exact hK2
    | 3, hq => cases hq; exact hK3
    | 4, hq => cases hq; exact hK4
    | 5, hq => cases hq; exact hK5
    | 6, hq => cases hq; exact hK6
    | 7, hq => cases hq; exact hK7
    | n + 8, hq => simp [ts_cl] at hq
  refine ⟨D, fun t => [t0, t1, t2, t3, t4, t5, t6, t7].getD t 0, ⟨⟨hD, ?_⟩, Nat.le_refl _, ?_, ?_, ?_, ?_, ?_⟩, va_AO.of (hts _ a5), va_AO.of (hts _ a6), va_AO.of (hts _ a7)⟩
  · intro k q hq
    match k, hq with
    | 0, hq => cases hq; exact hT0
    | 1, hq => cases hq; exact hT1
    | 2, hq => cases hq; exact hT2
    | 3, hq => cases hq; exact hT3
    | 4, hq => cases hq; exact hT4
    | 5, hq => cases hq; exact hT5
    | 6, hq => cases hq; exact hT6
    | 7, hq => cases hq; exact hT7
    | n + 8, hq => simp [ts_tys] at hq
  · exact vx_Zqof (hts _ ts_is_all.2.1) (hts _ ts_is_all.2.2.2) (hs _ ts_is_all.1.1) (fun a h => Nat.not_le.mpr h)
  · exact vx_Zqof (hts _ ts_is_all.2.2.1) (hts _ ts_is_all.2.2.2) (hs _ ts_is_all.1.2) (fun a h => Nat.not_le.mpr h)
  · intro q hq
    obtain ⟨g1, g2⟩ := ts_st_all q hq
    obtain ⟨a, _, _, _, g3, -⟩ := Cond.exactly_spec (hs _ g2)
    exact ⟨a, vk_R.of (hts _ g1) g3⟩
  · intro a ha b hb hne
    exact va_Nc.of (hs _ (ts_nc_all a ha b hb hne))
  · intro w hw hc
    have hon : w.onTables = true := by cases w <;> first | rfl | exact absurd hc (by simp [ts_isc])
    exact va_Nw.of hon (hts w hw)
/-- which of its references a thing has -/
def ts_bd2 (i : ts_I) : Nat := match ts_shp i with
  | .inl ci => (ts_fk ci).length
  | .inr (t, N) => if 5 ≤ t then N else 0
theorem ts_conv_all : ts_lv.all (fun i => decide (i ∈ ts_ORD) && (List.range (ts_bd2 i)).all (fun k => ts_rft 294 i k == ts_R0 i k)) = true := by decide +kernel
theorem ts_lv_nd : ts_lv.Nodup := by decide +kernel
theorem ts_fs_eq {ad : ts_I → Nat} {rf rf' : ts_I → Nat → Option ts_I} {u : ts_Mem} {i : ts_I} {ks : List Nat} (h : ∀ k, k < ks.length → rf i k = rf' i k) : ts_fs ad rf u i ks = ts_fs ad rf' u i ks := by
  apply List.ext_getElem?
  intro j
  cases hx : ks[j]? with
  | none => simp [ts_fs, List.getElem?_map, List.getElem?_zipIdx, hx]
  | some c2 =>
    rw [ts_fs_at hx, ts_fs_at hx, h j (List.getElem?_eq_some_iff.mp hx).1]
theorem ts_arrV_eq {cA : ClassId} {N : Nat} {f g : Nat → Value} (h : ∀ j, j < N → f j = g j) : arrV cA N f = arrV cA N g := by
  simp only [arrV]
  congr 1
  apply Array.ext
  · simp
  · intro a h1 h2
    simp at h1
    simp [h a h1]
theorem ts_at_conv {D : va_G} {dT : Nat → ClassId} {ad : ts_I → Nat} {rf rf' : ts_I → Nat → Option ts_I} {u : ts_Mem} {i : ts_I} {a : Nat} {H : Heap} (h : ∀ k, k < ts_bd2 i → rf i k = rf' i k) (hat : va_at D ts_cl (a, ts_cell dT ad rf u i) H) : va_at D ts_cl (a, ts_cell dT ad rf' u i) H := by
  unfold ts_bd2 at h
  cases hs : ts_shp i with
  | inl ci =>
    rw [ts_cell_o hs] at hat ⊢
    rw [hs] at h
    rw [← ts_fs_eq h]
    exact hat
  | inr tn =>
    obtain ⟨t, N⟩ := tn
    rw [ts_cell_a hs] at hat ⊢
    rw [hs] at h
    have hat2 : H[a]? = some (vp_cell (dT t) (N, ts_arr ad rf u i t)) := hat
    show H[a]? = some (vp_cell (dT t) (N, ts_arr ad rf' u i t))
    rw [hat2]
    congr 1
    match t, h with
    | 0, _ => rfl
    | 1, _ => rfl
    | 2, _ => rfl
    | 3, _ => rfl
    | 4, _ => rfl
    | t + 5, h =>
      simp only [ts_arr, vp_cell]
      refine ts_arrV_eq (fun j hj => ?_)
      rw [h j (by simp; exact hj)]
theorem ts_static {D : va_G} {dT : Nat → ClassId} {sz : Nat} {u : ts_Mem} {H : Heap} (hw : ts_HW D dT sz (ts_ad sz) (ts_lvt 298, ts_rft 294, u) H) : ts_HW D dT sz (ts_ad sz) (ts_lv, ts_R0, u) H := by
  have hall : ∀ i ∈ ts_lv, i ∈ ts_lvt 298 ∧ ∀ k, k < ts_bd2 i → ts_rft 294 i k = ts_R0 i k := by
    intro i hi
    have h1 := List.all_eq_true.mp ts_conv_all i hi
    simp only [Bool.and_eq_true, decide_eq_true_eq] at h1
    refine ⟨?_, fun k hk => ?_⟩
    · rw [ts_lvt, List.take_of_length_le (by rw [ts_ord_len]; exact Nat.le_refl _)]
      exact h1.1
    · have := List.all_eq_true.mp h1.2 k (List.mem_range.mpr hk)
      simpa using this
  refine ⟨fun k q hq => ?_, fun i j p q hp hq hpq => ?_, fun k q hq => ?_⟩
  · simp only [ts_wl, List.getElem?_map, Option.map_eq_some_iff] at hq
    obtain ⟨i, hi, rfl⟩ := hq
    obtain ⟨h1, h2⟩ := hall i (List.mem_of_getElem? hi)
    obtain ⟨q2, hq2, hqw⟩ := ts_wl_at (dT := dT) (ad := ts_ad sz) (hp := (ts_lvt 298, ts_rft 294, u)) h1
    exact ts_at_conv h2 (hw.1 q2 _ hqw)
  · simp only [ts_wl, List.getElem?_map, Option.map_eq_some_iff] at hp hq
    obtain ⟨i1, hi1, rfl⟩ := hp
    obtain ⟨i2, hi2, rfl⟩ := hq
    have h1 := (hall i1 (List.mem_of_getElem? hi1)).1
    have h2 := (hall i2 (List.mem_of_getElem? hi2)).1
    obtain ⟨q1, hq1, hqw1⟩ := ts_wl_at (dT := dT) (ad := ts_ad sz) (hp := (ts_lvt 298, ts_rft 294, u)) h1
    obtain ⟨q2, hq2, hqw2⟩ := ts_wl_at (dT := dT) (ad := ts_ad sz) (hp := (ts_lvt 298, ts_rft 294, u)) h2
    have h3 := hw.2.1 q1 q2 _ _ hqw1 hqw2 hpq
    subst h3
    have h4 : i1 = i2 := Option.some.inj (hq1.symm.trans hq2)
    subst h4
    exact (List.getElem?_inj (List.getElem?_eq_some_iff.mp hi1).1 ts_lv_nd).mp (hi1.trans hi2.symm)
  · simp only [ts_wl, List.getElem?_map, Option.map_eq_some_iff] at hq
    obtain ⟨i, hi, rfl⟩ := hq
    exact Nat.le_add_right _ _
def ts_u0 : ts_Mem := (fun _ _ => 0, fun _ _ => 0, fun _ _ => 0, fun _ _ => 0)
theorem ts_ra_0_0 : ts_RA 0 0 := ts_ra_of (by decide +kernel)
theorem ts_ra_276_275 : ts_RA 276 275 := ts_ra_of (by decide +kernel)
theorem ts_ra_296_294 : ts_RA 296 294 := ts_ra_of (by decide +kernel)
theorem ts_zf {uF u : ts_Mem} {j : Nat} (h : ∀ i, i ∉ ts_lvt j → ts_Z u i → ts_Z uF i) (hz : ts_ZA j u) : ts_ZA j uF := fun i hi => h i hi (hz i hi)
theorem nwL_8 : ts_NW RL 8 6 := ⟨_, rfl, ts_wm (i := 81) (by decide +kernel) rfl, ts_wm (i := 82) (by decide +kernel) rfl, ts_wm (i := 60) (by decide +kernel) rfl⟩
theorem nwL_112 : ts_NW RL 112 7 := ⟨_, rfl, ts_wm (i := 1010) (by decide +kernel) rfl, ts_wm (i := 1011) (by decide +kernel) rfl, ts_wm (i := 67) (by decide +kernel) rfl⟩
theorem yiL_111 : ts_YB RL 111 yX6_init wqX6_init cX6_init 2 none 0 ∧ (yX6_init.name = "<init>" ∧ Cond.instanceMethod yX6_init ∈ ts_ws) := ⟨⟨rfl, ts_wm (i := 85) (by decide +kernel) rfl, ts_wm (i := 60) (by decide +kernel) rfl, ts_wm (i := 83) (by decide +kernel) rfl, by decide +kernel, by decide⟩, rfl, ts_wm (i := 84) (by decide +kernel) rfl⟩
theorem yiL_114 : ts_YB RL 114 yX7_init wqX7_init cX7_init 1 none 0 ∧ (yX7_init.name = "<init>" ∧ Cond.instanceMethod yX7_init ∈ ts_ws) := ⟨⟨rfl, ts_wm (i := 1014) (by decide +kernel) rfl, ts_wm (i := 67) (by decide +kernel) rfl, ts_wm (i := 1012) (by decide +kernel) rfl, by decide +kernel, by decide⟩, rfl, ts_wm (i := 1013) (by decide +kernel) rfl⟩
theorem acL_long : Cond.arrayClass (ts_ty 3) ∈ ts_ws := ts_wm (i := 1426) (by decide +kernel) rfl
theorem acL_double : Cond.arrayClass (ts_ty 4) ∈ ts_ws := ts_wm (i := 1427) (by decide +kernel) rfl
set_option maxRecDepth 100000 in
set_option maxHeartbeats 4000000 in
/-- the law from its entry, out of the pure facts: what clearItems makes of the memory, and that the law's loop as a function of memory comes to an end for every script -/
theorem whole_start_open (uF : ts_Mem) (hc : f_X7_clearItems (ku_X7_init (ku_X6_init ts_u0)) = some uF) (hcz : ts_ZA 296 uF) (hmain : ∀ (xs : Nat → Int32) (N : Nat), N ≤ 2048 → ∃ u2, lpL xs N 513 0 uF = some u2)
    {p : Program} {e : Env} {s : State} {m : MethodId} {below : List Frame} {meth : Method} {c : Code} (l : Launch) (hflags : l.flags = flags0) {b L : Nat} {xs : Nat → Int32} (hL : L ≤ 2048) (C0 : lw_At p s m meth c b L xs) : W p l e room_1 s m #[Value.ref b] below meth c s.heap [] 0 0 (lw_Z below #[Value.ref b] s) (entryFrame m ([Value.ref b] : List Value).toArray 9) := by
  obtain ⟨hx, hb, hr0, hml, hown, hts, hXs, hbl, hlocks, hgv⟩ := id C0
  obtain ⟨D, dT, hKS, KA⟩ := ts_start hts hgv
  have hl : l.stackTraces = false := by unfold Launch.stackTraces; rw [hflags]; decide
  have C : ts_CX D dT s.heap.size p l room_1 s m #[Value.ref b] meth c RL cL_law 9 (some .boolean) 100 := ⟨hx, hb, hml, hown, fun w h => hts w (ts_sub h), hlocks, hl, hKS, by decide, by decide, hr0⟩
  have hbA : ¬ s.heap.size ≤ b := Nat.not_le.mpr hbl
  have h0 : s.heap.size ≤ s.heap.size := Nat.le_refl _
  obtain ⟨u2, hu2⟩ := hmain xs L hL
  rw [lg_entry_eq]
  have hz : ts_ZA 0 ts_u0 := fun i _ k => ⟨rfl, rfl, rfl, rfl⟩
  have hr := ts_ra_0_0
  have hHW : ts_HW D dT s.heap.size (ts_ad s.heap.size) (ts_lvt 0, ts_rft 0, ts_u0) s.heap := ⟨fun k q h => by simp [ts_wl, ts_lvt] at h, fun i j p q h => by simp [ts_wl, ts_lvt] at h, fun k q h => by simp [ts_wl, ts_lvt] at h⟩
  refine (show ts_V D dT s.heap.size p l e room_1 s m #[Value.ref b] below meth c 9 (lw_Z below #[Value.ref b] s) (ts_ad s.heap.size) (ts_lvt 0) (ts_rft 0) 0 [some (.inl (.ref b)), none, none, none, none, none, none, none, none] [] ts_u0 0 0 from ?_) _ s.heap [] (ts_lr_entry [.inl (.ref b)] rfl (Nat.le_of_ble_eq_true rfl)) hHW va_S.rf
  refine tv_new C (pc := 0) dL_law_0 (j := 0) nwL_8 (N := 6) rfl rfl (i := (0, 0, 0)) rfl h0 (by omega) hz hr ⟨Nat.le_of_ble_eq_true rfl, Nat.le_of_ble_eq_true rfl⟩ ?_
  have hz := ts_ZA_m hz (Nat.le_succ _)
  have hr := ts_RA_m hr (Nat.le_succ _)
  refine tv_dup C (pc := 3) dL_law_3 (fun _ => rfl) ?_
  refine tv_callI C KA (pc := 4) dL_law_4 yiL_111.1 yiL_111.2 (k_X6_init (D := D) (dT := dT) hl ts_u0 hz hr) (Nat.le_of_ble_eq_true rfl) h0 (by omega) (by decide) ⟨Nat.le_of_ble_eq_true rfl, Nat.le_of_ble_eq_true rfl⟩ (fun _ => Nat.le_of_ble_eq_true rfl) ?_
  have hz := kz_X6_init _ hz
  have hr := ts_ra_276_275
  refine tv_astore_n C (pc := 7) dL_law_7 (L' := [some (.inl (.ref b)), some (.inr (0, 0, 0)), none, none, none, none, none, none, none]) rfl (by decide) rfl rfl ?_
  refine tv_new C (pc := 8) dL_law_8 (j := 276) nwL_112 (N := 37) rfl rfl (i := (30, 0, 0)) rfl h0 (by omega) hz hr ⟨Nat.le_of_ble_eq_true rfl, Nat.le_of_ble_eq_true rfl⟩ ?_
  have hz := ts_ZA_m hz (Nat.le_succ _)
  have hr := ts_RA_m hr (Nat.le_succ _)
  refine tv_dup C (pc := 11) dL_law_11 (fun _ => rfl) ?_
  refine tv_callI C KA (pc := 12) dL_law_12 yiL_114.1 yiL_114.2 (k_X7_init (D := D) (dT := dT) hl _ uF hc hz hr) (Nat.le_of_ble_eq_true rfl) h0 (by omega) (by decide) ⟨Nat.le_of_ble_eq_true rfl, Nat.le_of_ble_eq_true rfl⟩ (fun _ => Nat.le_of_ble_eq_true rfl) ?_
  have hz := hcz
  have hr := ts_ra_296_294
  refine tv_astore_n C (pc := 15) dL_law_15 (L' := [some (.inl (.ref b)), some (.inr (0, 0, 0)), some (.inr (30, 0, 0)), none, none, none, none, none, none]) rfl (by decide) rfl rfl ?_
  refine tv_iconst C (pc := 16) dL_law_16 (v := (1 : Int32)) rfl ?_
  refine tv_newa3 C (pc := 17) dL_law_17 (j := 296) acL_long (N := 1) (by decide) (by decide) (by decide) rfl (i := (50, 0, 0)) rfl h0 (by omega) hz ⟨Nat.le_of_ble_eq_true rfl, Nat.le_of_ble_eq_true rfl⟩ ?_
  have hz := ts_ZA_m hz (Nat.le_succ _)
  refine tv_astore_n C (pc := 19) dL_law_19 (L' := [some (.inl (.ref b)), some (.inr (0, 0, 0)), some (.inr (30, 0, 0)), some (.inr (50, 0, 0)), none, none, none, none, none]) rfl (by decide) rfl rfl ?_
  refine tv_iconst C (pc := 20) dL_law_20 (v := (1 : Int32)) rfl ?_
  refine tv_newa4 C (pc := 21) dL_law_21 (j := 297) acL_double (N := 1) (by decide) (by decide) (by decide) rfl (i := (51, 0, 0)) rfl h0 (by omega) hz ⟨Nat.le_of_ble_eq_true rfl, Nat.le_of_ble_eq_true rfl⟩ ?_
  refine tv_astore C (pc := 23) dL_law_23 (L' := [some (.inl (.ref b)), some (.inr (0, 0, 0)), some (.inr (30, 0, 0)), some (.inr (50, 0, 0)), some (.inr (51, 0, 0)), none, none, none, none]) (by decide) rfl rfl ?_
  refine tv_iconst C (pc := 25) dL_law_25 (v := (0 : Int32)) rfl ?_
  refine tv_istore C (pc := 26) dL_law_26 (L' := [some (.inl (.ref b)), some (.inr (0, 0, 0)), some (.inr (30, 0, 0)), some (.inr (50, 0, 0)), some (.inr (51, 0, 0)), some (.inl (.int (0 : Int32))), none, none, none]) (by decide) rfl rfl ?_
  intro ls H locs hlr hw hS
  refine ltL hl C (Nat.le_of_ble_eq_true rfl) hXs hbl hbA 513 0 uF u2 _ _ ⟨Nat.le_of_ble_eq_true rfl, Nat.le_of_ble_eq_true rfl⟩ hu2 (fun v k2 n2 hk2 hn2 => ?_) ls H locs hlr (ts_static hw) hS
  refine tv_iconst C (pc := 2000) dL_law_2000 (v := (1 : Int32)) rfl ?_
  intro ls H locs hlr hw hS
  refine va_forget (fun q hq => hS.2.2 q hq) (W.widen (k := 603072) (n := 7166058) (Nat.le_trans hk2 (Nat.le_of_ble_eq_true rfl)) (Nat.le_trans hn2 (Nat.le_of_ble_eq_true rfl)) ?_)
  exact lw_ret (d0 := s.drawn) (Drawn.sameBut.refl s.drawn lw_cs) hx hb hr0 hlocks dL_law_2001
