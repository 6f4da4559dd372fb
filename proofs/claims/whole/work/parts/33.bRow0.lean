set_option maxRecDepth 100000 in
set_option maxHeartbeats 4000000 in
theorem m_X4_isUsed {l : Launch} {D : va_G} {dT : Nat → ClassId} {sz : Nat} {ad : ts_I → Nat} (hl : l.stackTraces = false) (i0 : Nat) (hi0 : i0 < 3) (u : ts_Mem) (r : Int32) (h : f_X4_isUsed i0 u = some r) : ts_M l D dT sz yX4_isUsed wX4_isUsed 0 0 0 ad ts_lv ts_R0 [.inr (27, 0, i0)] u (.inl (some (.int r))) u := by
    unfold f_X4_isUsed at h
    refine ts_enter hl (by decide) rfl rfl (Nat.le_of_ble_eq_true rfl) ?_
    intro p e s m args below meth c C hX hnm
    have C : ts_CX D dT sz p l (ts_rm 0 0 0) s m args meth c RX4 cX4_isUsed 1 (some .boolean) 0 := C
    have hdd : 0 ≤ 0 := Nat.le_refl _
    refine tv_aload_n C (pc := 0) dX4_isUsed_0 rfl rfl ?_
    refine tv_getI C (pc := 1) dX4_isUsed_1 fl_X4_9 (ts_live (k := 27) (by decide) (by decide) hi0) rfl (cd := 0) rfl (by decide) ?_
    refine tv_iconst C (pc := 4) dX4_isUsed_4 (v := (-1 : Int32)) rfl ?_
    refine tv_icmp_eq C (pc := 5) 12 dX4_isUsed_5 (by decide) (fun hc => ?_) (fun hc => ?_)
    · have h := ts_ifp h hc
      refine tv_iconst C (pc := 12) dX4_isUsed_12 (v := (0 : Int32)) rfl ?_
      cases h
      exact tv_zret C (pc := 13) (v := (0 : Int32)) rfl ts_nz0 dX4_isUsed_13 ⟨Nat.le_of_ble_eq_true rfl, Nat.le_of_ble_eq_true rfl⟩
    · have h := ts_ifn h hc
      refine tv_iconst C (pc := 8) dX4_isUsed_8 (v := (1 : Int32)) rfl ?_
      refine tv_goto C (pc := 9) 13 dX4_isUsed_9 (by decide) ?_
      cases h
      exact tv_zret C (pc := 13) (v := (1 : Int32)) rfl ts_nz1 dX4_isUsed_13 ⟨Nat.le_of_ble_eq_true rfl, Nat.le_of_ble_eq_true rfl⟩
set_option maxRecDepth 100000 in
set_option maxHeartbeats 4000000 in
theorem lt_X4_makeNew_12 {D : va_G} {dT : Nat → ClassId} {sz : Nat} {p : Program} {l : Launch} {e : Env} {R : Room} {s : State} {m : MethodId} {args : Array Value} {below : List Frame} {meth : Method} {c : Code} {d : Nat} {ad : ts_I → Nat} {kk nn : Nat} {Q : State → Prop} (hl : l.stackTraces = false) (C : ts_CX D dT sz p l R s m args meth c RX4 cX4_makeNew 4 none d) (hdd : 0 ≤ d) (i0 : Nat) (hi0 : i0 < 3) (c1 : Int32) (c2 : Int32) (hkn : kk ≤ R.cells ∧ nn ≤ R.slots) : ∀ (n : Nat) (v3 : Int32) (u : ts_Mem) (q : (Int32 × ts_Mem)) (h : lp_X4_makeNew_12 i0 c1 c2 n v3 u = some q) (K : ts_V D dT sz p l e R s m args below meth c 4 Q ad ts_lv ts_R0 38 [some (.inr (27, 0, i0)), some (.inl (.int c1)), some (.inl (.int c2)), some (.inl (.int q.1))] [] q.2 kk nn), ts_V D dT sz p l e R s m args below meth c 4 Q ad ts_lv ts_R0 12 [some (.inr (27, 0, i0)), some (.inl (.int c1)), some (.inl (.int c2)), some (.inl (.int v3))] [] u kk nn
  | 0, _, _, _, h, _ => by cases h
  | n + 1, v3, u, q, h, K => by
      rw [lp_X4_makeNew_12] at h
      refine tv_iload_n C (pc := 12) dX4_makeNew_12 rfl rfl ?_
      refine tv_bipush C (pc := 13) dX4_makeNew_13 (v := (30 : Int32)) rfl ?_
      refine tv_icmp_ge C (pc := 15) 38 dX4_makeNew_15 (by decide) (fun hc => ?_) (fun hc => ?_)
      · have h := ts_ifp h hc
        cases h
        exact K
      · have h := ts_ifn h hc
        refine tv_aload_n C (pc := 18) dX4_makeNew_18 rfl rfl ?_
        refine tv_getR C (pc := 19) dX4_makeNew_19 fl_X4_15 (ts_live (k := 27) (by decide) (by decide) hi0) rfl rfl (i2 := (28, 0, i0)) rfl ?_
        refine tv_iload_n C (pc := 22) dX4_makeNew_22 rfl rfl ?_
        refine tv_fconst0 C (pc := 23) dX4_makeNew_23 ?_
        obtain ⟨hr3, h⟩ := ts_gd h
        refine tv_fastore C (pc := 24) dX4_makeNew_24 (ts_live (k := 28) (by decide) (by decide) hi0) rfl hr3 (j := v3.toNatClampNeg) rfl ?_
        refine tv_nu (fun u4 hu4 => ?_)
        have h := ts_lt h hu4
        refine tv_aload_n C (pc := 25) dX4_makeNew_25 rfl rfl ?_
        refine tv_getR C (pc := 26) dX4_makeNew_26 fl_X4_19 (ts_live (k := 27) (by decide) (by decide) hi0) rfl rfl (i2 := (29, 0, i0)) rfl ?_
        refine tv_iload_n C (pc := 29) dX4_makeNew_29 rfl rfl ?_
        refine tv_iconst C (pc := 30) dX4_makeNew_30 (v := (0 : Int32)) rfl ?_
        obtain ⟨hr5, h⟩ := ts_gd h
        refine tv_iastore C (pc := 31) dX4_makeNew_31 (ts_live (k := 29) (by decide) (by decide) hi0) rfl hr5 (j := v3.toNatClampNeg) rfl ?_
        refine tv_nu (fun u6 hu6 => ?_)
        have h := ts_lt h hu6
        refine tv_iinc C (pc := 32) dX4_makeNew_32 (v := (v3 + (1 : Int32))) (L' := [some (.inr (27, 0, i0)), some (.inl (.int c1)), some (.inl (.int c2)), some (.inl (.int (v3 + (1 : Int32))))]) rfl rfl (by decide) rfl rfl ?_
        refine tv_goto C (pc := 35) 12 dX4_makeNew_35 (by decide) ?_
        exact lt_X4_makeNew_12 hl C hdd i0 hi0 c1 c2 hkn n (v3 + (1 : Int32)) u6 q h K
set_option maxRecDepth 100000 in
set_option maxHeartbeats 4000000 in
theorem m_X4_makeNew {l : Launch} {D : va_G} {dT : Nat → ClassId} {sz : Nat} {ad : ts_I → Nat} (hl : l.stackTraces = false) (i0 : Nat) (hi0 : i0 < 3) (p1 : Int32) (p2 : Int32) (u : ts_Mem) (r : ts_Mem) (h : f_X4_makeNew i0 p1 p2 u = some r) : ts_M l D dT sz yX4_makeNew wX4_makeNew 0 0 0 ad ts_lv ts_R0 [.inr (27, 0, i0), .inl (.int p1), .inl (.int p2)] u (.inl none) r := by
    unfold f_X4_makeNew at h
    refine ts_enter hl (by decide) rfl rfl (Nat.le_of_ble_eq_true rfl) ?_
    intro p e s m args below meth c C hX hnm
    have C : ts_CX D dT sz p l (ts_rm 0 0 0) s m args meth c RX4 cX4_makeNew 4 none 0 := C
    have hdd : 0 ≤ 0 := Nat.le_refl _
    refine tv_aload_n C (pc := 0) dX4_makeNew_0 rfl rfl ?_
    refine tv_iload_n C (pc := 1) dX4_makeNew_1 rfl rfl ?_
    refine tv_putI C (pc := 2) dX4_makeNew_2 fp_X4_9 (ts_live (k := 27) (by decide) (by decide) hi0) rfl (cd := 0) rfl (by decide) rfl rfl ?_
    refine tv_nu (fun u1 hu1 => ?_)
    have h := ts_lt h hu1
    refine tv_aload_n C (pc := 5) dX4_makeNew_5 rfl rfl ?_
    refine tv_iload_n C (pc := 6) dX4_makeNew_6 rfl rfl ?_
    refine tv_putI C (pc := 7) dX4_makeNew_7 fp_X4_23 (ts_live (k := 27) (by decide) (by decide) hi0) rfl (cd := 0) rfl (by decide) rfl rfl ?_
    refine tv_nu (fun u2 hu2 => ?_)
    have h := ts_lt h hu2
    refine tv_iconst C (pc := 10) dX4_makeNew_10 (v := (0 : Int32)) rfl ?_
    refine tv_istore_n C (pc := 11) dX4_makeNew_11 (L' := [some (.inr (27, 0, i0)), some (.inl (.int p1)), some (.inl (.int p2)), some (.inl (.int (0 : Int32)))]) rfl (by decide) rfl rfl ?_
    obtain ⟨q7, hq7, h⟩ := ts_bd h
    refine lt_X4_makeNew_12 hl C hdd i0 hi0 p1 p2 ⟨Nat.le_of_ble_eq_true rfl, Nat.le_of_ble_eq_true rfl⟩ ts_fu (0 : Int32) u2 q7 hq7 ?_
    cases h
    exact tv_vret C (pc := 38) rfl dX4_makeNew_38 ⟨Nat.le_of_ble_eq_true rfl, Nat.le_of_ble_eq_true rfl⟩
set_option maxRecDepth 100000 in
set_option maxHeartbeats 4000000 in
theorem lt_X4_takeValues_2 {D : va_G} {dT : Nat → ClassId} {sz : Nat} {p : Program} {l : Launch} {e : Env} {R : Room} {s : State} {m : MethodId} {args : Array Value} {below : List Frame} {meth : Method} {c : Code} {d : Nat} {ad : ts_I → Nat} {kk nn : Nat} {Q : State → Prop} (hl : l.stackTraces = false) (C : ts_CX D dT sz p l R s m args meth c RX4 cX4_takeValues 3 none d) (hdd : 0 ≤ d) (i0 : Nat) (hi0 : i0 < 3) (b1 : Nat) (hb1 : b1 < 2) (i1 : Nat) (hi1 : i1 < 8) (hkn : kk ≤ R.cells ∧ nn ≤ R.slots) : ∀ (n : Nat) (v2 : Int32) (u : ts_Mem) (q : (Int32 × ts_Mem)) (h : lp_X4_takeValues_2 i0 b1 i1 n v2 u = some q) (K : ts_V D dT sz p l e R s m args below meth c 3 Q ad ts_lv ts_R0 49 [some (.inr (27, 0, i0)), some (.inr (16, b1, i1)), some (.inl (.int q.1))] [] q.2 kk nn), ts_V D dT sz p l e R s m args below meth c 3 Q ad ts_lv ts_R0 2 [some (.inr (27, 0, i0)), some (.inr (16, b1, i1)), some (.inl (.int v2))] [] u kk nn
  | 0, _, _, _, h, _ => by cases h
  | n + 1, v2, u, q, h, K => by
      rw [lp_X4_takeValues_2] at h
      refine tv_iload_n C (pc := 2) dX4_takeValues_2 rfl rfl ?_
      refine tv_aload_n C (pc := 3) dX4_takeValues_3 rfl rfl ?_
      refine tv_getI C (pc := 4) dX4_takeValues_4 fl_X4_23 (ts_live (k := 27) (by decide) (by decide) hi0) rfl (cd := 0) rfl (by decide) ?_
      refine tv_icmp_ge C (pc := 7) 49 dX4_takeValues_7 (by decide) (fun hc => ?_) (fun hc => ?_)
      · have h := ts_ifp h hc
        cases h
        exact K
      · have h := ts_ifn h hc
        refine tv_iload_n C (pc := 10) dX4_takeValues_10 rfl rfl ?_
        refine tv_aload_n C (pc := 11) dX4_takeValues_11 rfl rfl ?_
        refine tv_getI C (pc := 12) dX4_takeValues_12 fl_X4_26 (ts_live (k := 16) (by decide) hb1 hi1) rfl (cd := 0) rfl (by decide) ?_
        refine tv_icmp_ge C (pc := 15) 49 dX4_takeValues_15 (by decide) (fun hc => ?_) (fun hc => ?_)
        · have h := ts_ifp h hc
          cases h
          exact K
        · have h := ts_ifn h hc
          refine tv_aload_n C (pc := 18) dX4_takeValues_18 rfl rfl ?_
          refine tv_getR C (pc := 19) dX4_takeValues_19 fl_X4_15 (ts_live (k := 27) (by decide) (by decide) hi0) rfl rfl (i2 := (28, 0, i0)) rfl ?_
          refine tv_iload_n C (pc := 22) dX4_takeValues_22 rfl rfl ?_
          refine tv_aload_n C (pc := 23) dX4_takeValues_23 rfl rfl ?_
          refine tv_getR C (pc := 24) dX4_takeValues_24 fl_X4_31 (ts_live (k := 16) (by decide) hb1 hi1) rfl rfl (i2 := (19, b1, i1)) rfl ?_
          refine tv_iload_n C (pc := 27) dX4_takeValues_27 rfl rfl ?_
          obtain ⟨hr1, h⟩ := ts_gd h
          refine tv_iaload C (pc := 28) dX4_takeValues_28 (ts_live (k := 19) (by decide) hb1 hi1) rfl hr1 (j := v2.toNatClampNeg) rfl ?_
          refine tv_i2f C (pc := 29) dX4_takeValues_29 ?_
          obtain ⟨hr2, h⟩ := ts_gd h
          refine tv_fastore C (pc := 30) dX4_takeValues_30 (ts_live (k := 28) (by decide) (by decide) hi0) rfl hr2 (j := v2.toNatClampNeg) rfl ?_
          refine tv_nu (fun u3 hu3 => ?_)
          have h := ts_lt h hu3
          refine tv_aload_n C (pc := 31) dX4_takeValues_31 rfl rfl ?_
          refine tv_getR C (pc := 32) dX4_takeValues_32 fl_X4_19 (ts_live (k := 27) (by decide) (by decide) hi0) rfl rfl (i2 := (29, 0, i0)) rfl ?_
          refine tv_iload_n C (pc := 35) dX4_takeValues_35 rfl rfl ?_
          refine tv_aload_n C (pc := 36) dX4_takeValues_36 rfl rfl ?_
          refine tv_getR C (pc := 37) dX4_takeValues_37 fl_X4_31 (ts_live (k := 16) (by decide) hb1 hi1) rfl rfl (i2 := (19, b1, i1)) rfl ?_
          refine tv_iload_n C (pc := 40) dX4_takeValues_40 rfl rfl ?_
          obtain ⟨hr4, h⟩ := ts_gd h
          refine tv_iaload C (pc := 41) dX4_takeValues_41 (ts_live (k := 19) (by decide) hb1 hi1) rfl hr4 (j := v2.toNatClampNeg) rfl ?_
          obtain ⟨hr5, h⟩ := ts_gd h
          refine tv_iastore C (pc := 42) dX4_takeValues_42 (ts_live (k := 29) (by decide) (by decide) hi0) rfl hr5 (j := v2.toNatClampNeg) rfl ?_
          refine tv_nu (fun u6 hu6 => ?_)
          have h := ts_lt h hu6
          refine tv_iinc C (pc := 43) dX4_takeValues_43 (v := (v2 + (1 : Int32))) (L' := [some (.inr (27, 0, i0)), some (.inr (16, b1, i1)), some (.inl (.int (v2 + (1 : Int32))))]) rfl rfl (by decide) rfl rfl ?_
          refine tv_goto C (pc := 46) 2 dX4_takeValues_46 (by decide) ?_
          exact lt_X4_takeValues_2 hl C hdd i0 hi0 b1 hb1 i1 hi1 hkn n (v2 + (1 : Int32)) u6 q h K
set_option maxRecDepth 100000 in
set_option maxHeartbeats 4000000 in
theorem m_X4_takeValues {l : Launch} {D : va_G} {dT : Nat → ClassId} {sz : Nat} {ad : ts_I → Nat} (hl : l.stackTraces = false) (i0 : Nat) (hi0 : i0 < 3) (b1 : Nat) (hb1 : b1 < 2) (i1 : Nat) (hi1 : i1 < 8) (u : ts_Mem) (r : ts_Mem) (h : f_X4_takeValues i0 b1 i1 u = some r) : ts_M l D dT sz yX4_takeValues wX4_takeValues 0 0 0 ad ts_lv ts_R0 [.inr (27, 0, i0), .inr (16, b1, i1)] u (.inl none) r := by
    unfold f_X4_takeValues at h
    refine ts_enter hl (by decide) rfl rfl (Nat.le_of_ble_eq_true rfl) ?_
    intro p e s m args below meth c C hX hnm
    have C : ts_CX D dT sz p l (ts_rm 0 0 0) s m args meth c RX4 cX4_takeValues 3 none 0 := C
    have hdd : 0 ≤ 0 := Nat.le_refl _
    refine tv_iconst C (pc := 0) dX4_takeValues_0 (v := (0 : Int32)) rfl ?_
    refine tv_istore_n C (pc := 1) dX4_takeValues_1 (L' := [some (.inr (27, 0, i0)), some (.inr (16, b1, i1)), some (.inl (.int (0 : Int32)))]) rfl (by decide) rfl rfl ?_
    obtain ⟨q7, hq7, h⟩ := ts_bd h
    refine lt_X4_takeValues_2 hl C hdd i0 hi0 b1 hb1 i1 hi1 ⟨Nat.le_of_ble_eq_true rfl, Nat.le_of_ble_eq_true rfl⟩ ts_fu (0 : Int32) u q7 hq7 ?_
    cases h
    exact tv_vret C (pc := 49) rfl dX4_takeValues_49 ⟨Nat.le_of_ble_eq_true rfl, Nat.le_of_ble_eq_true rfl⟩
set_option maxRecDepth 100000 in
set_option maxHeartbeats 4000000 in
theorem m_X4_quotient {l : Launch} {D : va_G} {dT : Nat → ClassId} {sz : Nat} {ad : ts_I → Nat} (hl : l.stackTraces = false) (i0 : Nat) (hi0 : i0 < 3) (p1 : Int32) (p2 : Int32) (u : ts_Mem) (r : (UInt32 × ts_Mem)) (h : f_X4_quotient i0 p1 p2 u = some r) : ts_M l D dT sz yX4_quotient wX4_quotient 0 0 0 ad ts_lv ts_R0 [.inr (27, 0, i0), .inl (.int p1), .inl (.int p2)] u (.inl (some (.float r.1))) r.2 := by
    unfold f_X4_quotient at h
    refine ts_enter hl (by decide) rfl rfl (Nat.le_of_ble_eq_true rfl) ?_
    intro p e s m args below meth c C hX hnm
    have C : ts_CX D dT sz p l (ts_rm 0 0 0) s m args meth c RX4 cX4_quotient 3 (some .float) 0 := C
    have hdd : 0 ≤ 0 := Nat.le_refl _
    refine tv_aload_n C (pc := 0) dX4_quotient_0 rfl rfl ?_
    refine tv_getI C (pc := 1) dX4_quotient_1 fl_X4_9 (ts_live (k := 27) (by decide) (by decide) hi0) rfl (cd := 0) rfl (by decide) ?_
    refine tv_if_ne C (pc := 4) 29 dX4_quotient_4 (by decide) (fun hc => ?_) (fun hc => ?_)
    · have h := ts_ifn h hc
      refine tv_aload_n C (pc := 29) dX4_quotient_29 rfl rfl ?_
      refine tv_getR C (pc := 30) dX4_quotient_30 fl_X4_19 (ts_live (k := 27) (by decide) (by decide) hi0) rfl rfl (i2 := (29, 0, i0)) rfl ?_
      refine tv_iload_n C (pc := 33) dX4_quotient_33 rfl rfl ?_
      refine tv_aload_n C (pc := 34) dX4_quotient_34 rfl rfl ?_
      refine tv_getR C (pc := 35) dX4_quotient_35 fl_X4_19 (ts_live (k := 27) (by decide) (by decide) hi0) rfl rfl (i2 := (29, 0, i0)) rfl ?_
      refine tv_iload_n C (pc := 38) dX4_quotient_38 rfl rfl ?_
      obtain ⟨hr1, h⟩ := ts_gd h
      refine tv_iaload C (pc := 39) dX4_quotient_39 (ts_live (k := 29) (by decide) (by decide) hi0) rfl hr1 (j := p1.toNatClampNeg) rfl ?_
      refine tv_iload_n C (pc := 40) dX4_quotient_40 rfl rfl ?_
      obtain ⟨hg2, h⟩ := ts_gd h
      refine tv_idiv C (pc := 41) dX4_quotient_41 hg2 ?_
      obtain ⟨hr3, h⟩ := ts_gd h
      refine tv_iastore C (pc := 42) dX4_quotient_42 (ts_live (k := 29) (by decide) (by decide) hi0) rfl hr3 (j := p1.toNatClampNeg) rfl ?_
      refine tv_nu (fun u4 hu4 => ?_)
      have h := ts_lt h hu4
      refine tv_aload_n C (pc := 43) dX4_quotient_43 rfl rfl ?_
      refine tv_getR C (pc := 44) dX4_quotient_44 fl_X4_19 (ts_live (k := 27) (by decide) (by decide) hi0) rfl rfl (i2 := (29, 0, i0)) rfl ?_
      refine tv_iload_n C (pc := 47) dX4_quotient_47 rfl rfl ?_
      obtain ⟨hr5, h⟩ := ts_gd h
      refine tv_iaload C (pc := 48) dX4_quotient_48 (ts_live (k := 29) (by decide) (by decide) hi0) rfl hr5 (j := p1.toNatClampNeg) rfl ?_
      refine tv_i2f C (pc := 49) dX4_quotient_49 ?_
      cases h
      exact tv_fret C (pc := 50) rfl dX4_quotient_50 ⟨Nat.le_of_ble_eq_true rfl, Nat.le_of_ble_eq_true rfl⟩
    · have h := ts_ifp h hc
      refine tv_aload_n C (pc := 7) dX4_quotient_7 rfl rfl ?_
      refine tv_getR C (pc := 8) dX4_quotient_8 fl_X4_15 (ts_live (k := 27) (by decide) (by decide) hi0) rfl rfl (i2 := (28, 0, i0)) rfl ?_
      refine tv_iload_n C (pc := 11) dX4_quotient_11 rfl rfl ?_
      refine tv_aload_n C (pc := 12) dX4_quotient_12 rfl rfl ?_
      refine tv_getR C (pc := 13) dX4_quotient_13 fl_X4_15 (ts_live (k := 27) (by decide) (by decide) hi0) rfl rfl (i2 := (28, 0, i0)) rfl ?_
      refine tv_iload_n C (pc := 16) dX4_quotient_16 rfl rfl ?_
      obtain ⟨hr6, h⟩ := ts_gd h
      refine tv_faload C (pc := 17) dX4_quotient_17 (ts_live (k := 28) (by decide) (by decide) hi0) rfl hr6 (j := p1.toNatClampNeg) rfl ?_
      refine tv_iload_n C (pc := 18) dX4_quotient_18 rfl rfl ?_
      refine tv_i2f C (pc := 19) dX4_quotient_19 ?_
      obtain ⟨hg7, h⟩ := ts_gd h
      refine tv_fdiv C (pc := 20) dX4_quotient_20 hg7 ?_
      obtain ⟨hr8, h⟩ := ts_gd h
      refine tv_fastore C (pc := 21) dX4_quotient_21 (ts_live (k := 28) (by decide) (by decide) hi0) rfl hr8 (j := p1.toNatClampNeg) rfl ?_
      refine tv_nu (fun u9 hu9 => ?_)
      have h := ts_lt h hu9
      refine tv_aload_n C (pc := 22) dX4_quotient_22 rfl rfl ?_
      refine tv_getR C (pc := 23) dX4_quotient_23 fl_X4_15 (ts_live (k := 27) (by decide) (by decide) hi0) rfl rfl (i2 := (28, 0, i0)) rfl ?_
      refine tv_iload_n C (pc := 26) dX4_quotient_26 rfl rfl ?_
      obtain ⟨hr10, h⟩ := ts_gd h
      refine tv_faload C (pc := 27) dX4_quotient_27 (ts_live (k := 28) (by decide) (by decide) hi0) rfl hr10 (j := p1.toNatClampNeg) rfl ?_
      cases h
      exact tv_fret C (pc := 28) rfl dX4_quotient_28 ⟨Nat.le_of_ble_eq_true rfl, Nat.le_of_ble_eq_true rfl⟩
set_option maxRecDepth 100000 in
set_option maxHeartbeats 4000000 in
theorem m_X4_takeElements {l : Launch} {D : va_G} {dT : Nat → ClassId} {sz : Nat} {ad : ts_I → Nat} (hl : l.stackTraces = false) (i0 : Nat) (hi0 : i0 < 3) (i1 : Nat) (hi1 : i1 < 3) (u : ts_Mem) (r : ts_Mem) (h : f_X4_takeElements i0 i1 u = some r) : ts_M l D dT sz yX4_takeElements wX4_takeElements 0 0 0 ad ts_lv ts_R0 [.inr (27, 0, i0), .inr (27, 0, i1)] u (.inl none) r := by
    unfold f_X4_takeElements at h
    refine ts_enter hl (by decide) rfl rfl (Nat.le_of_ble_eq_true rfl) ?_
    intro p e s m args below meth c C hX hnm
    have C : ts_CX D dT sz p l (ts_rm 0 0 0) s m args meth c RX4 cX4_takeElements 2 none 0 := C
    have hdd : 0 ≤ 0 := Nat.le_refl _
    refine tv_aload_n C (pc := 0) dX4_takeElements_0 rfl rfl ?_
    refine tv_getR C (pc := 1) dX4_takeElements_1 fl_X4_15 (ts_live (k := 27) (by decide) (by decide) hi1) rfl rfl (i2 := (28, 0, i1)) rfl ?_
    refine tv_iconst C (pc := 4) dX4_takeElements_4 (v := (0 : Int32)) rfl ?_
    refine tv_aload_n C (pc := 5) dX4_takeElements_5 rfl rfl ?_
    refine tv_getR C (pc := 6) dX4_takeElements_6 fl_X4_15 (ts_live (k := 27) (by decide) (by decide) hi0) rfl rfl (i2 := (28, 0, i0)) rfl ?_
    refine tv_iconst C (pc := 9) dX4_takeElements_9 (v := (0 : Int32)) rfl ?_
    refine tv_aload_n C (pc := 10) dX4_takeElements_10 rfl rfl ?_
    refine tv_getI C (pc := 11) dX4_takeElements_11 fl_X4_23 (ts_live (k := 27) (by decide) (by decide) hi1) rfl (cd := 0) rfl (by decide) ?_
    obtain ⟨ho2, h⟩ := ts_gd h
    refine tv_copyf C (pc := 14) dX4_takeElements_14 ml_X4_38 ts_ac (ts_live (k := 28) (by decide) (by decide) hi1) rfl (ts_live (k := 28) (by decide) (by decide) hi0) rfl ho2 (fun _ => Nat.le_of_ble_eq_true rfl) ?_
    refine tv_nu (fun u1 hu1 => ?_)
    have h := ts_lt h hu1
    refine tv_aload_n C (pc := 17) dX4_takeElements_17 rfl rfl ?_
    refine tv_getR C (pc := 18) dX4_takeElements_18 fl_X4_19 (ts_live (k := 27) (by decide) (by decide) hi1) rfl rfl (i2 := (29, 0, i1)) rfl ?_
    refine tv_iconst C (pc := 21) dX4_takeElements_21 (v := (0 : Int32)) rfl ?_
    refine tv_aload_n C (pc := 22) dX4_takeElements_22 rfl rfl ?_
    refine tv_getR C (pc := 23) dX4_takeElements_23 fl_X4_19 (ts_live (k := 27) (by decide) (by decide) hi0) rfl rfl (i2 := (29, 0, i0)) rfl ?_
    refine tv_iconst C (pc := 26) dX4_takeElements_26 (v := (0 : Int32)) rfl ?_
    refine tv_aload_n C (pc := 27) dX4_takeElements_27 rfl rfl ?_
    refine tv_getI C (pc := 28) dX4_takeElements_28 fl_X4_23 (ts_live (k := 27) (by decide) (by decide) hi1) rfl (cd := 0) rfl (by decide) ?_
    obtain ⟨ho4, h⟩ := ts_gd h
    refine tv_copyi C (pc := 31) dX4_takeElements_31 ml_X4_38 ts_ac (ts_live (k := 29) (by decide) (by decide) hi1) rfl (ts_live (k := 29) (by decide) (by decide) hi0) rfl ho4 (fun _ => Nat.le_of_ble_eq_true rfl) ?_
    refine tv_nu (fun u3 hu3 => ?_)
    have h := ts_lt h hu3
    cases h
    exact tv_vret C (pc := 34) rfl dX4_takeElements_34 ⟨Nat.le_of_ble_eq_true rfl, Nat.le_of_ble_eq_true rfl⟩
set_option maxRecDepth 100000 in
set_option maxHeartbeats 4000000 in
theorem m_X4_becomeCopyOf {l : Launch} {D : va_G} {dT : Nat → ClassId} {sz : Nat} {ad : ts_I → Nat} (hl : l.stackTraces = false) (i0 : Nat) (hi0 : i0 < 3) (i1 : Nat) (hi1 : i1 < 3) (u : ts_Mem) (r : ts_Mem) (h : f_X4_becomeCopyOf i0 i1 u = some r) : ts_M l D dT sz yX4_becomeCopyOf wX4_becomeCopyOf 1 0 0 ad ts_lv ts_R0 [.inr (27, 0, i0), .inr (27, 0, i1)] u (.inl none) r := by
    unfold f_X4_becomeCopyOf at h
    refine ts_enter hl (by decide) rfl rfl (Nat.le_of_ble_eq_true rfl) ?_
    intro p e s m args below meth c C hX hnm
    have C : ts_CX D dT sz p l (ts_rm 1 0 0) s m args meth c RX4 cX4_becomeCopyOf 2 none 1 := C
    have hdd : 1 ≤ 1 := Nat.le_refl _
    refine tv_aload_n C (pc := 0) dX4_becomeCopyOf_0 rfl rfl ?_
    refine tv_aload_n C (pc := 1) dX4_becomeCopyOf_1 rfl rfl ?_
    refine tv_getI C (pc := 2) dX4_becomeCopyOf_2 fl_X4_9 (ts_live (k := 27) (by decide) (by decide) hi1) rfl (cd := 0) rfl (by decide) ?_
    refine tv_putI C (pc := 5) dX4_becomeCopyOf_5 fp_X4_9 (ts_live (k := 27) (by decide) (by decide) hi0) rfl (cd := 0) rfl (by decide) rfl rfl ?_
    refine tv_nu (fun u1 hu1 => ?_)
    have h := ts_lt h hu1
    refine tv_aload_n C (pc := 8) dX4_becomeCopyOf_8 rfl rfl ?_
    refine tv_aload_n C (pc := 9) dX4_becomeCopyOf_9 rfl rfl ?_
    refine tv_getI C (pc := 10) dX4_becomeCopyOf_10 fl_X4_23 (ts_live (k := 27) (by decide) (by decide) hi1) rfl (cd := 0) rfl (by decide) ?_
    refine tv_putI C (pc := 13) dX4_becomeCopyOf_13 fp_X4_23 (ts_live (k := 27) (by decide) (by decide) hi0) rfl (cd := 0) rfl (by decide) rfl rfl ?_
    refine tv_nu (fun u2 hu2 => ?_)
    have h := ts_lt h hu2
    refine tv_aload_n C (pc := 16) dX4_becomeCopyOf_16 rfl rfl ?_
    refine tv_aload_n C (pc := 17) dX4_becomeCopyOf_17 rfl rfl ?_
    obtain ⟨q3, hq3, h⟩ := ts_bd h
    refine tv_callV C (pc := 18) dX4_becomeCopyOf_18 (ci := 4) (q := (RX4, TX4, 4)) rfl yl_X4_34 (m_X4_takeElements (D := D) (dT := dT) (sz := sz) (ad := ad) hl i0 hi0 i1 hi1 u2 q3 hq3) (ts_live (k := 27) (by decide) (by decide) hi0) rfl (Nat.le_trans (Nat.le_of_ble_eq_true rfl) hdd) (As := [.inr (27, 0, i1)]) rfl ⟨Nat.le_of_ble_eq_true rfl, Nat.le_of_ble_eq_true rfl⟩ (fun _ => Nat.le_of_ble_eq_true rfl) rfl ?_
    cases h
    exact tv_vret C (pc := 21) rfl dX4_becomeCopyOf_21 ⟨Nat.le_of_ble_eq_true rfl, Nat.le_of_ble_eq_true rfl⟩
