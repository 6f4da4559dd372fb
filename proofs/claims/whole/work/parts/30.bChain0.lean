set_option maxRecDepth 100000 in
set_option maxHeartbeats 4000000 in
theorem m_X1_keepFirstVersionOnly {l : Launch} {D : va_G} {dT : Nat → ClassId} {sz : Nat} {ad : ts_I → Nat} (hl : l.stackTraces = false) (b0 : Nat) (hb0 : b0 < 2) (i0 : Nat) (hi0 : i0 < 8) (u : ts_Mem) (r : ts_Mem) (h : f_X1_keepFirstVersionOnly b0 i0 u = some r) : ts_M l D dT sz yX1_keepFirstVersionOnly wX1_keepFirstVersionOnly 0 0 0 ad ts_lv ts_R0 [.inr (16, b0, i0)] u (.inl none) r := by
    unfold f_X1_keepFirstVersionOnly at h
    refine ts_enter hl (by decide) rfl rfl (Nat.le_of_ble_eq_true rfl) ?_
    intro p e s m args below meth c C hX hnm
    have C : ts_CX D dT sz p l (ts_rm 0 0 0) s m args meth c RX1 cX1_keepFirstVersionOnly 1 none 0 := C
    have hdd : 0 ≤ 0 := Nat.le_refl _
    refine tv_aload_n C (pc := 0) dX1_keepFirstVersionOnly_0 rfl rfl ?_
    refine tv_iconst C (pc := 1) dX1_keepFirstVersionOnly_1 (v := (1 : Int32)) rfl ?_
    refine tv_putI C (pc := 2) dX1_keepFirstVersionOnly_2 fp_X1_24 (ts_live (k := 16) (by decide) hb0 hi0) rfl (cd := 0) rfl (by decide) rfl rfl ?_
    refine tv_nu (fun u1 hu1 => ?_)
    have h := ts_lt h hu1
    refine tv_aload_n C (pc := 5) dX1_keepFirstVersionOnly_5 rfl rfl ?_
    refine tv_getR C (pc := 6) dX1_keepFirstVersionOnly_6 fl_X1_9 (ts_live (k := 16) (by decide) hb0 hi0) rfl rfl (i2 := (17, b0, i0)) rfl ?_
    refine tv_iconst C (pc := 9) dX1_keepFirstVersionOnly_9 (v := (0 : Int32)) rfl ?_
    refine tv_iconst C (pc := 10) dX1_keepFirstVersionOnly_10 (v := (0 : Int32)) rfl ?_
    refine tv_iastore C (pc := 11) dX1_keepFirstVersionOnly_11 (ts_live (k := 17) (by decide) hb0 hi0) rfl (by decide) (j := 0) (by decide) ?_
    refine tv_nu (fun u2 hu2 => ?_)
    have h := ts_lt h hu2
    refine tv_aload_n C (pc := 12) dX1_keepFirstVersionOnly_12 rfl rfl ?_
    refine tv_getR C (pc := 13) dX1_keepFirstVersionOnly_13 fl_X1_15 (ts_live (k := 16) (by decide) hb0 hi0) rfl rfl (i2 := (18, b0, i0)) rfl ?_
    refine tv_iconst C (pc := 16) dX1_keepFirstVersionOnly_16 (v := (0 : Int32)) rfl ?_
    refine tv_iconst C (pc := 17) dX1_keepFirstVersionOnly_17 (v := (0 : Int32)) rfl ?_
    refine tv_iastore C (pc := 18) dX1_keepFirstVersionOnly_18 (ts_live (k := 18) (by decide) hb0 hi0) rfl (by decide) (j := 0) (by decide) ?_
    refine tv_nu (fun u3 hu3 => ?_)
    have h := ts_lt h hu3
    refine tv_aload_n C (pc := 19) dX1_keepFirstVersionOnly_19 rfl rfl ?_
    refine tv_getR C (pc := 20) dX1_keepFirstVersionOnly_20 fl_X1_18 (ts_live (k := 16) (by decide) hb0 hi0) rfl rfl (i2 := (19, b0, i0)) rfl ?_
    refine tv_iconst C (pc := 23) dX1_keepFirstVersionOnly_23 (v := (0 : Int32)) rfl ?_
    refine tv_iconst C (pc := 24) dX1_keepFirstVersionOnly_24 (v := (0 : Int32)) rfl ?_
    refine tv_iastore C (pc := 25) dX1_keepFirstVersionOnly_25 (ts_live (k := 19) (by decide) hb0 hi0) rfl (by decide) (j := 0) (by decide) ?_
    refine tv_nu (fun u4 hu4 => ?_)
    have h := ts_lt h hu4
    refine tv_aload_n C (pc := 26) dX1_keepFirstVersionOnly_26 rfl rfl ?_
    refine tv_getR C (pc := 27) dX1_keepFirstVersionOnly_27 fl_X1_21 (ts_live (k := 16) (by decide) hb0 hi0) rfl rfl (i2 := (20, b0, i0)) rfl ?_
    refine tv_iconst C (pc := 30) dX1_keepFirstVersionOnly_30 (v := (0 : Int32)) rfl ?_
    refine tv_iconst C (pc := 31) dX1_keepFirstVersionOnly_31 (v := (-1 : Int32)) rfl ?_
    refine tv_iastore C (pc := 32) dX1_keepFirstVersionOnly_32 (ts_live (k := 20) (by decide) hb0 hi0) rfl (by decide) (j := 0) (by decide) ?_
    refine tv_nu (fun u5 hu5 => ?_)
    have h := ts_lt h hu5
    cases h
    exact tv_vret C (pc := 33) rfl dX1_keepFirstVersionOnly_33 ⟨Nat.le_of_ble_eq_true rfl, Nat.le_of_ble_eq_true rfl⟩
set_option maxRecDepth 100000 in
set_option maxHeartbeats 4000000 in
theorem m_X1_copyFrom {l : Launch} {D : va_G} {dT : Nat → ClassId} {sz : Nat} {ad : ts_I → Nat} (hl : l.stackTraces = false) (b0 : Nat) (hb0 : b0 < 2) (i0 : Nat) (hi0 : i0 < 8) (b1 : Nat) (hb1 : b1 < 2) (i1 : Nat) (hi1 : i1 < 8) (u : ts_Mem) (r : ts_Mem) (h : f_X1_copyFrom b0 i0 b1 i1 u = some r) : ts_M l D dT sz yX1_copyFrom wX1_copyFrom 0 0 0 ad ts_lv ts_R0 [.inr (16, b0, i0), .inr (16, b1, i1)] u (.inl none) r := by
    unfold f_X1_copyFrom at h
    refine ts_enter hl (by decide) rfl rfl (Nat.le_of_ble_eq_true rfl) ?_
    intro p e s m args below meth c C hX hnm
    have C : ts_CX D dT sz p l (ts_rm 0 0 0) s m args meth c RX1 cX1_copyFrom 2 none 0 := C
    have hdd : 0 ≤ 0 := Nat.le_refl _
    refine tv_aload_n C (pc := 0) dX1_copyFrom_0 rfl rfl ?_
    refine tv_aload_n C (pc := 1) dX1_copyFrom_1 rfl rfl ?_
    refine tv_getI C (pc := 2) dX1_copyFrom_2 fl_X1_24 (ts_live (k := 16) (by decide) hb1 hi1) rfl (cd := 0) rfl (by decide) ?_
    refine tv_putI C (pc := 5) dX1_copyFrom_5 fp_X1_24 (ts_live (k := 16) (by decide) hb0 hi0) rfl (cd := 0) rfl (by decide) rfl rfl ?_
    refine tv_nu (fun u1 hu1 => ?_)
    have h := ts_lt h hu1
    refine tv_aload_n C (pc := 8) dX1_copyFrom_8 rfl rfl ?_
    refine tv_getR C (pc := 9) dX1_copyFrom_9 fl_X1_9 (ts_live (k := 16) (by decide) hb1 hi1) rfl rfl (i2 := (17, b1, i1)) rfl ?_
    refine tv_iconst C (pc := 12) dX1_copyFrom_12 (v := (0 : Int32)) rfl ?_
    refine tv_aload_n C (pc := 13) dX1_copyFrom_13 rfl rfl ?_
    refine tv_getR C (pc := 14) dX1_copyFrom_14 fl_X1_9 (ts_live (k := 16) (by decide) hb0 hi0) rfl rfl (i2 := (17, b0, i0)) rfl ?_
    refine tv_iconst C (pc := 17) dX1_copyFrom_17 (v := (0 : Int32)) rfl ?_
    refine tv_bipush C (pc := 18) dX1_copyFrom_18 (v := (17 : Int32)) rfl ?_
    refine tv_copyi C (pc := 20) dX1_copyFrom_20 ml_X1_28 ts_ac (ts_live (k := 17) (by decide) hb1 hi1) rfl (ts_live (k := 17) (by decide) hb0 hi0) rfl (by decide) (fun _ => Nat.le_of_ble_eq_true rfl) ?_
    refine tv_nu (fun u2 hu2 => ?_)
    have h := ts_lt h hu2
    refine tv_aload_n C (pc := 23) dX1_copyFrom_23 rfl rfl ?_
    refine tv_getR C (pc := 24) dX1_copyFrom_24 fl_X1_15 (ts_live (k := 16) (by decide) hb1 hi1) rfl rfl (i2 := (18, b1, i1)) rfl ?_
    refine tv_iconst C (pc := 27) dX1_copyFrom_27 (v := (0 : Int32)) rfl ?_
    refine tv_aload_n C (pc := 28) dX1_copyFrom_28 rfl rfl ?_
    refine tv_getR C (pc := 29) dX1_copyFrom_29 fl_X1_15 (ts_live (k := 16) (by decide) hb0 hi0) rfl rfl (i2 := (18, b0, i0)) rfl ?_
    refine tv_iconst C (pc := 32) dX1_copyFrom_32 (v := (0 : Int32)) rfl ?_
    refine tv_bipush C (pc := 33) dX1_copyFrom_33 (v := (17 : Int32)) rfl ?_
    refine tv_copyi C (pc := 35) dX1_copyFrom_35 ml_X1_28 ts_ac (ts_live (k := 18) (by decide) hb1 hi1) rfl (ts_live (k := 18) (by decide) hb0 hi0) rfl (by decide) (fun _ => Nat.le_of_ble_eq_true rfl) ?_
    refine tv_nu (fun u3 hu3 => ?_)
    have h := ts_lt h hu3
    refine tv_aload_n C (pc := 38) dX1_copyFrom_38 rfl rfl ?_
    refine tv_getR C (pc := 39) dX1_copyFrom_39 fl_X1_18 (ts_live (k := 16) (by decide) hb1 hi1) rfl rfl (i2 := (19, b1, i1)) rfl ?_
    refine tv_iconst C (pc := 42) dX1_copyFrom_42 (v := (0 : Int32)) rfl ?_
    refine tv_aload_n C (pc := 43) dX1_copyFrom_43 rfl rfl ?_
    refine tv_getR C (pc := 44) dX1_copyFrom_44 fl_X1_18 (ts_live (k := 16) (by decide) hb0 hi0) rfl rfl (i2 := (19, b0, i0)) rfl ?_
    refine tv_iconst C (pc := 47) dX1_copyFrom_47 (v := (0 : Int32)) rfl ?_
    refine tv_bipush C (pc := 48) dX1_copyFrom_48 (v := (17 : Int32)) rfl ?_
    refine tv_copyi C (pc := 50) dX1_copyFrom_50 ml_X1_28 ts_ac (ts_live (k := 19) (by decide) hb1 hi1) rfl (ts_live (k := 19) (by decide) hb0 hi0) rfl (by decide) (fun _ => Nat.le_of_ble_eq_true rfl) ?_
    refine tv_nu (fun u4 hu4 => ?_)
    have h := ts_lt h hu4
    refine tv_aload_n C (pc := 53) dX1_copyFrom_53 rfl rfl ?_
    refine tv_getR C (pc := 54) dX1_copyFrom_54 fl_X1_21 (ts_live (k := 16) (by decide) hb1 hi1) rfl rfl (i2 := (20, b1, i1)) rfl ?_
    refine tv_iconst C (pc := 57) dX1_copyFrom_57 (v := (0 : Int32)) rfl ?_
    refine tv_aload_n C (pc := 58) dX1_copyFrom_58 rfl rfl ?_
    refine tv_getR C (pc := 59) dX1_copyFrom_59 fl_X1_21 (ts_live (k := 16) (by decide) hb0 hi0) rfl rfl (i2 := (20, b0, i0)) rfl ?_
    refine tv_iconst C (pc := 62) dX1_copyFrom_62 (v := (0 : Int32)) rfl ?_
    refine tv_bipush C (pc := 63) dX1_copyFrom_63 (v := (17 : Int32)) rfl ?_
    refine tv_copyi C (pc := 65) dX1_copyFrom_65 ml_X1_28 ts_ac (ts_live (k := 20) (by decide) hb1 hi1) rfl (ts_live (k := 20) (by decide) hb0 hi0) rfl (by decide) (fun _ => Nat.le_of_ble_eq_true rfl) ?_
    refine tv_nu (fun u5 hu5 => ?_)
    have h := ts_lt h hu5
    cases h
    exact tv_vret C (pc := 68) rfl dX1_copyFrom_68 ⟨Nat.le_of_ble_eq_true rfl, Nat.le_of_ble_eq_true rfl⟩
set_option maxRecDepth 100000 in
set_option maxHeartbeats 4000000 in
theorem lt_X1_lastAtMost_7 {D : va_G} {dT : Nat → ClassId} {sz : Nat} {p : Program} {l : Launch} {e : Env} {R : Room} {s : State} {m : MethodId} {args : Array Value} {below : List Frame} {meth : Method} {c : Code} {d : Nat} {ad : ts_I → Nat} {kk nn : Nat} {Q : State → Prop} (hl : l.stackTraces = false) (C : ts_CX D dT sz p l R s m args meth c RX1 cX1_lastAtMost 3 (some .int) d) (hdd : 0 ≤ d) (b0 : Nat) (hb0 : b0 < 2) (i0 : Nat) (hi0 : i0 < 8) (c1 : Int32) (u : ts_Mem) (hkn : kk ≤ R.cells ∧ nn ≤ R.slots) : ∀ (n : Nat) (v2 : Int32) (q : Int32) (h : lp_X1_lastAtMost_7 b0 i0 c1 u n v2 = some q) (K : ts_V D dT sz p l e R s m args below meth c 3 Q ad ts_lv ts_R0 27 [some (.inr (16, b0, i0)), some (.inl (.int c1)), some (.inl (.int q))] [] u kk nn), ts_V D dT sz p l e R s m args below meth c 3 Q ad ts_lv ts_R0 7 [some (.inr (16, b0, i0)), some (.inl (.int c1)), some (.inl (.int v2))] [] u kk nn
  | 0, _, _, h, _ => by cases h
  | n + 1, v2, q, h, K => by
      rw [lp_X1_lastAtMost_7] at h
      refine tv_iload_n C (pc := 7) dX1_lastAtMost_7 rfl rfl ?_
      refine tv_if_lt C (pc := 8) 27 dX1_lastAtMost_8 (by decide) (fun hc => ?_) (fun hc => ?_)
      · have h := ts_ifp h hc
        cases h
        exact K
      · have h := ts_ifn h hc
        refine tv_aload_n C (pc := 11) dX1_lastAtMost_11 rfl rfl ?_
        refine tv_getR C (pc := 12) dX1_lastAtMost_12 fl_X1_9 (ts_live (k := 16) (by decide) hb0 hi0) rfl rfl (i2 := (17, b0, i0)) rfl ?_
        refine tv_iload_n C (pc := 15) dX1_lastAtMost_15 rfl rfl ?_
        obtain ⟨hr2, h⟩ := ts_gd h
        refine tv_iaload C (pc := 16) dX1_lastAtMost_16 (ts_live (k := 17) (by decide) hb0 hi0) rfl hr2 (j := v2.toNatClampNeg) rfl ?_
        refine tv_iload_n C (pc := 17) dX1_lastAtMost_17 rfl rfl ?_
        refine tv_icmp_le C (pc := 18) 27 dX1_lastAtMost_18 (by decide) (fun hc => ?_) (fun hc => ?_)
        · have h := ts_ifp h hc
          cases h
          exact K
        · have h := ts_ifn h hc
          refine tv_iinc C (pc := 21) dX1_lastAtMost_21 (v := (v2 + (-1 : Int32))) (L' := [some (.inr (16, b0, i0)), some (.inl (.int c1)), some (.inl (.int (v2 + (-1 : Int32))))]) rfl rfl (by decide) rfl rfl ?_
          refine tv_goto C (pc := 24) 7 dX1_lastAtMost_24 (by decide) ?_
          exact lt_X1_lastAtMost_7 hl C hdd b0 hb0 i0 hi0 c1 u hkn n (v2 + (-1 : Int32)) q h K
set_option maxRecDepth 100000 in
set_option maxHeartbeats 4000000 in
theorem m_X1_lastAtMost {l : Launch} {D : va_G} {dT : Nat → ClassId} {sz : Nat} {ad : ts_I → Nat} (hl : l.stackTraces = false) (b0 : Nat) (hb0 : b0 < 2) (i0 : Nat) (hi0 : i0 < 8) (p1 : Int32) (u : ts_Mem) (r : Int32) (h : f_X1_lastAtMost b0 i0 p1 u = some r) : ts_M l D dT sz yX1_lastAtMost wX1_lastAtMost 0 0 0 ad ts_lv ts_R0 [.inr (16, b0, i0), .inl (.int p1)] u (.inl (some (.int r))) u := by
    unfold f_X1_lastAtMost at h
    refine ts_enter hl (by decide) rfl rfl (Nat.le_of_ble_eq_true rfl) ?_
    intro p e s m args below meth c C hX hnm
    have C : ts_CX D dT sz p l (ts_rm 0 0 0) s m args meth c RX1 cX1_lastAtMost 3 (some .int) 0 := C
    have hdd : 0 ≤ 0 := Nat.le_refl _
    refine tv_aload_n C (pc := 0) dX1_lastAtMost_0 rfl rfl ?_
    refine tv_getI C (pc := 1) dX1_lastAtMost_1 fl_X1_24 (ts_live (k := 16) (by decide) hb0 hi0) rfl (cd := 0) rfl (by decide) ?_
    refine tv_iconst C (pc := 4) dX1_lastAtMost_4 (v := (1 : Int32)) rfl ?_
    refine tv_isub C (pc := 5) dX1_lastAtMost_5 ?_
    refine tv_nmI (fun x1 hx1 => ?_)
    have h := ts_lt h hx1
    refine tv_istore_n C (pc := 6) dX1_lastAtMost_6 (L' := [some (.inr (16, b0, i0)), some (.inl (.int p1)), some (.inl (.int x1))]) rfl (by decide) rfl rfl ?_
    obtain ⟨q3, hq3, h⟩ := ts_bd h
    refine lt_X1_lastAtMost_7 hl C hdd b0 hb0 i0 hi0 p1 u ⟨Nat.le_of_ble_eq_true rfl, Nat.le_of_ble_eq_true rfl⟩ ts_fu x1 q3 hq3 ?_
    refine tv_iload_n C (pc := 27) dX1_lastAtMost_27 rfl rfl ?_
    cases h
    exact tv_iret C (pc := 28) rfl dX1_lastAtMost_28 ⟨Nat.le_of_ble_eq_true rfl, Nat.le_of_ble_eq_true rfl⟩
set_option maxRecDepth 100000 in
set_option maxHeartbeats 4000000 in
theorem m_X1_raiseReadTime {l : Launch} {D : va_G} {dT : Nat → ClassId} {sz : Nat} {ad : ts_I → Nat} (hl : l.stackTraces = false) (b0 : Nat) (hb0 : b0 < 2) (i0 : Nat) (hi0 : i0 < 8) (p1 : Int32) (p2 : Int32) (u : ts_Mem) (r : ts_Mem) (h : f_X1_raiseReadTime b0 i0 p1 p2 u = some r) : ts_M l D dT sz yX1_raiseReadTime wX1_raiseReadTime 0 0 0 ad ts_lv ts_R0 [.inr (16, b0, i0), .inl (.int p1), .inl (.int p2)] u (.inl none) r := by
    unfold f_X1_raiseReadTime at h
    refine ts_enter hl (by decide) rfl rfl (Nat.le_of_ble_eq_true rfl) ?_
    intro p e s m args below meth c C hX hnm
    have C : ts_CX D dT sz p l (ts_rm 0 0 0) s m args meth c RX1 cX1_raiseReadTime 3 none 0 := C
    have hdd : 0 ≤ 0 := Nat.le_refl _
    refine tv_aload_n C (pc := 0) dX1_raiseReadTime_0 rfl rfl ?_
    refine tv_getR C (pc := 1) dX1_raiseReadTime_1 fl_X1_15 (ts_live (k := 16) (by decide) hb0 hi0) rfl rfl (i2 := (18, b0, i0)) rfl ?_
    refine tv_iload_n C (pc := 4) dX1_raiseReadTime_4 rfl rfl ?_
    obtain ⟨hr1, h⟩ := ts_gd h
    refine tv_iaload C (pc := 5) dX1_raiseReadTime_5 (ts_live (k := 18) (by decide) hb0 hi0) rfl hr1 (j := p1.toNatClampNeg) rfl ?_
    refine tv_iload_n C (pc := 6) dX1_raiseReadTime_6 rfl rfl ?_
    refine tv_icmp_ge C (pc := 7) 17 dX1_raiseReadTime_7 (by decide) (fun hc => ?_) (fun hc => ?_)
    · have h := ts_ifp h hc
      cases h
      exact tv_vret C (pc := 17) rfl dX1_raiseReadTime_17 ⟨Nat.le_of_ble_eq_true rfl, Nat.le_of_ble_eq_true rfl⟩
    · have h := ts_ifn h hc
      refine tv_aload_n C (pc := 10) dX1_raiseReadTime_10 rfl rfl ?_
      refine tv_getR C (pc := 11) dX1_raiseReadTime_11 fl_X1_15 (ts_live (k := 16) (by decide) hb0 hi0) rfl rfl (i2 := (18, b0, i0)) rfl ?_
      refine tv_iload_n C (pc := 14) dX1_raiseReadTime_14 rfl rfl ?_
      refine tv_iload_n C (pc := 15) dX1_raiseReadTime_15 rfl rfl ?_
      obtain ⟨hr2, h⟩ := ts_gd h
      refine tv_iastore C (pc := 16) dX1_raiseReadTime_16 (ts_live (k := 18) (by decide) hb0 hi0) rfl hr2 (j := p1.toNatClampNeg) rfl ?_
      refine tv_nu (fun u3 hu3 => ?_)
      have h := ts_lt h hu3
      cases h
      exact tv_vret C (pc := 17) rfl dX1_raiseReadTime_17 ⟨Nat.le_of_ble_eq_true rfl, Nat.le_of_ble_eq_true rfl⟩
set_option maxRecDepth 100000 in
set_option maxHeartbeats 4000000 in
theorem m_X1_shift {l : Launch} {D : va_G} {dT : Nat → ClassId} {sz : Nat} {ad : ts_I → Nat} (hl : l.stackTraces = false) (b0 : Nat) (hb0 : b0 < 2) (i0 : Nat) (hi0 : i0 < 8) (p1 : Int32) (p2 : Int32) (u : ts_Mem) (r : ts_Mem) (h : f_X1_shift b0 i0 p1 p2 u = some r) : ts_M l D dT sz yX1_shift wX1_shift 0 0 0 ad ts_lv ts_R0 [.inr (16, b0, i0), .inl (.int p1), .inl (.int p2)] u (.inl none) r := by
    unfold f_X1_shift at h
    refine ts_enter hl (by decide) rfl rfl (Nat.le_of_ble_eq_true rfl) ?_
    intro p e s m args below meth c C hX hnm
    have C : ts_CX D dT sz p l (ts_rm 0 0 0) s m args meth c RX1 cX1_shift 4 none 0 := C
    have hdd : 0 ≤ 0 := Nat.le_refl _
    refine tv_aload_n C (pc := 0) dX1_shift_0 rfl rfl ?_
    refine tv_getI C (pc := 1) dX1_shift_1 fl_X1_24 (ts_live (k := 16) (by decide) hb0 hi0) rfl (cd := 0) rfl (by decide) ?_
    refine tv_iload_n C (pc := 4) dX1_shift_4 rfl rfl ?_
    refine tv_isub C (pc := 5) dX1_shift_5 ?_
    refine tv_nmI (fun x1 hx1 => ?_)
    have h := ts_lt h hx1
    refine tv_istore_n C (pc := 6) dX1_shift_6 (L' := [some (.inr (16, b0, i0)), some (.inl (.int p1)), some (.inl (.int p2)), some (.inl (.int x1))]) rfl (by decide) rfl rfl ?_
    refine tv_aload_n C (pc := 7) dX1_shift_7 rfl rfl ?_
    refine tv_getR C (pc := 8) dX1_shift_8 fl_X1_9 (ts_live (k := 16) (by decide) hb0 hi0) rfl rfl (i2 := (17, b0, i0)) rfl ?_
    refine tv_iload_n C (pc := 11) dX1_shift_11 rfl rfl ?_
    refine tv_aload_n C (pc := 12) dX1_shift_12 rfl rfl ?_
    refine tv_getR C (pc := 13) dX1_shift_13 fl_X1_9 (ts_live (k := 16) (by decide) hb0 hi0) rfl rfl (i2 := (17, b0, i0)) rfl ?_
    refine tv_iload_n C (pc := 16) dX1_shift_16 rfl rfl ?_
    refine tv_iload_n C (pc := 17) dX1_shift_17 rfl rfl ?_
    obtain ⟨ho3, h⟩ := ts_gd h
    refine tv_copyi C (pc := 18) dX1_shift_18 ml_X1_28 ts_ac (ts_live (k := 17) (by decide) hb0 hi0) rfl (ts_live (k := 17) (by decide) hb0 hi0) rfl ho3 (fun _ => Nat.le_of_ble_eq_true rfl) ?_
    refine tv_nu (fun u2 hu2 => ?_)
    have h := ts_lt h hu2
    refine tv_aload_n C (pc := 21) dX1_shift_21 rfl rfl ?_
    refine tv_getR C (pc := 22) dX1_shift_22 fl_X1_15 (ts_live (k := 16) (by decide) hb0 hi0) rfl rfl (i2 := (18, b0, i0)) rfl ?_
    refine tv_iload_n C (pc := 25) dX1_shift_25 rfl rfl ?_
    refine tv_aload_n C (pc := 26) dX1_shift_26 rfl rfl ?_
    refine tv_getR C (pc := 27) dX1_shift_27 fl_X1_15 (ts_live (k := 16) (by decide) hb0 hi0) rfl rfl (i2 := (18, b0, i0)) rfl ?_
    refine tv_iload_n C (pc := 30) dX1_shift_30 rfl rfl ?_
    refine tv_iload_n C (pc := 31) dX1_shift_31 rfl rfl ?_
    obtain ⟨ho5, h⟩ := ts_gd h
    refine tv_copyi C (pc := 32) dX1_shift_32 ml_X1_28 ts_ac (ts_live (k := 18) (by decide) hb0 hi0) rfl (ts_live (k := 18) (by decide) hb0 hi0) rfl ho5 (fun _ => Nat.le_of_ble_eq_true rfl) ?_
    refine tv_nu (fun u4 hu4 => ?_)
    have h := ts_lt h hu4
    refine tv_aload_n C (pc := 35) dX1_shift_35 rfl rfl ?_
    refine tv_getR C (pc := 36) dX1_shift_36 fl_X1_18 (ts_live (k := 16) (by decide) hb0 hi0) rfl rfl (i2 := (19, b0, i0)) rfl ?_
    refine tv_iload_n C (pc := 39) dX1_shift_39 rfl rfl ?_
    refine tv_aload_n C (pc := 40) dX1_shift_40 rfl rfl ?_
    refine tv_getR C (pc := 41) dX1_shift_41 fl_X1_18 (ts_live (k := 16) (by decide) hb0 hi0) rfl rfl (i2 := (19, b0, i0)) rfl ?_
    refine tv_iload_n C (pc := 44) dX1_shift_44 rfl rfl ?_
    refine tv_iload_n C (pc := 45) dX1_shift_45 rfl rfl ?_
    obtain ⟨ho7, h⟩ := ts_gd h
    refine tv_copyi C (pc := 46) dX1_shift_46 ml_X1_28 ts_ac (ts_live (k := 19) (by decide) hb0 hi0) rfl (ts_live (k := 19) (by decide) hb0 hi0) rfl ho7 (fun _ => Nat.le_of_ble_eq_true rfl) ?_
    refine tv_nu (fun u6 hu6 => ?_)
    have h := ts_lt h hu6
    refine tv_aload_n C (pc := 49) dX1_shift_49 rfl rfl ?_
    refine tv_getR C (pc := 50) dX1_shift_50 fl_X1_21 (ts_live (k := 16) (by decide) hb0 hi0) rfl rfl (i2 := (20, b0, i0)) rfl ?_
    refine tv_iload_n C (pc := 53) dX1_shift_53 rfl rfl ?_
    refine tv_aload_n C (pc := 54) dX1_shift_54 rfl rfl ?_
    refine tv_getR C (pc := 55) dX1_shift_55 fl_X1_21 (ts_live (k := 16) (by decide) hb0 hi0) rfl rfl (i2 := (20, b0, i0)) rfl ?_
    refine tv_iload_n C (pc := 58) dX1_shift_58 rfl rfl ?_
    refine tv_iload_n C (pc := 59) dX1_shift_59 rfl rfl ?_
    obtain ⟨ho9, h⟩ := ts_gd h
    refine tv_copyi C (pc := 60) dX1_shift_60 ml_X1_28 ts_ac (ts_live (k := 20) (by decide) hb0 hi0) rfl (ts_live (k := 20) (by decide) hb0 hi0) rfl ho9 (fun _ => Nat.le_of_ble_eq_true rfl) ?_
    refine tv_nu (fun u8 hu8 => ?_)
    have h := ts_lt h hu8
    refine tv_aload_n C (pc := 63) dX1_shift_63 rfl rfl ?_
    refine tv_iload_n C (pc := 64) dX1_shift_64 rfl rfl ?_
    refine tv_iload_n C (pc := 65) dX1_shift_65 rfl rfl ?_
    refine tv_iadd C (pc := 66) dX1_shift_66 ?_
    refine tv_putI C (pc := 67) dX1_shift_67 fp_X1_24 (ts_live (k := 16) (by decide) hb0 hi0) rfl (cd := 0) rfl (by decide) rfl rfl ?_
    refine tv_nu (fun u10 hu10 => ?_)
    have h := ts_lt h hu10
    cases h
    exact tv_vret C (pc := 70) rfl dX1_shift_70 ⟨Nat.le_of_ble_eq_true rfl, Nat.le_of_ble_eq_true rfl⟩
set_option maxRecDepth 100000 in
set_option maxHeartbeats 4000000 in
theorem m_X1_removeVersionOf {l : Launch} {D : va_G} {dT : Nat → ClassId} {sz : Nat} {ad : ts_I → Nat} (hl : l.stackTraces = false) (b0 : Nat) (hb0 : b0 < 2) (i0 : Nat) (hi0 : i0 < 8) (p1 : Int32) (p2 : Int32) (u : ts_Mem) (r : ts_Mem) (h : f_X1_removeVersionOf b0 i0 p1 p2 u = some r) : ts_M l D dT sz yX1_removeVersionOf wX1_removeVersionOf 1 0 0 ad ts_lv ts_R0 [.inr (16, b0, i0), .inl (.int p1), .inl (.int p2)] u (.inl none) r := by
    unfold f_X1_removeVersionOf at h
    refine ts_enter hl (by decide) rfl rfl (Nat.le_of_ble_eq_true rfl) ?_
    intro p e s m args below meth c C hX hnm
    have C : ts_CX D dT sz p l (ts_rm 1 0 0) s m args meth c RX1 cX1_removeVersionOf 4 none 1 := C
    have hdd : 1 ≤ 1 := Nat.le_refl _
    refine tv_aload_n C (pc := 0) dX1_removeVersionOf_0 rfl rfl ?_
    refine tv_iload_n C (pc := 1) dX1_removeVersionOf_1 rfl rfl ?_
    obtain ⟨q1, hq1, h⟩ := ts_bd h
    refine tv_callV C (pc := 2) dX1_removeVersionOf_2 (ci := 1) (q := (RX1, TX1, 5)) rfl yl_X1_34 (m_X1_lastAtMost (D := D) (dT := dT) (sz := sz) (ad := ad) hl b0 hb0 i0 hi0 p2 u q1 hq1) (ts_live (k := 16) (by decide) hb0 hi0) rfl (Nat.le_trans (Nat.le_of_ble_eq_true rfl) hdd) (As := [.inl (.int p2)]) rfl ⟨Nat.le_of_ble_eq_true rfl, Nat.le_of_ble_eq_true rfl⟩ (fun _ => Nat.le_of_ble_eq_true rfl) rfl ?_
    refine tv_istore_n C (pc := 5) dX1_removeVersionOf_5 (L' := [some (.inr (16, b0, i0)), some (.inl (.int p1)), some (.inl (.int p2)), some (.inl (.int q1))]) rfl (by decide) rfl rfl ?_
    refine tv_iload_n C (pc := 6) dX1_removeVersionOf_6 rfl rfl ?_
    refine tv_if_lt C (pc := 7) 28 dX1_removeVersionOf_7 (by decide) (fun hc => ?_) (fun hc => ?_)
    · have h := ts_ifp h hc
      cases h
      exact tv_vret C (pc := 28) rfl dX1_removeVersionOf_28 ⟨Nat.le_of_ble_eq_true rfl, Nat.le_of_ble_eq_true rfl⟩
    · have h := ts_ifn h hc
      refine tv_aload_n C (pc := 10) dX1_removeVersionOf_10 rfl rfl ?_
      refine tv_getR C (pc := 11) dX1_removeVersionOf_11 fl_X1_21 (ts_live (k := 16) (by decide) hb0 hi0) rfl rfl (i2 := (20, b0, i0)) rfl ?_
      refine tv_iload_n C (pc := 14) dX1_removeVersionOf_14 rfl rfl ?_
      obtain ⟨hr2, h⟩ := ts_gd h
      refine tv_iaload C (pc := 15) dX1_removeVersionOf_15 (ts_live (k := 20) (by decide) hb0 hi0) rfl hr2 (j := q1.toNatClampNeg) rfl ?_
      refine tv_iload_n C (pc := 16) dX1_removeVersionOf_16 rfl rfl ?_
      refine tv_icmp_ne C (pc := 17) 28 dX1_removeVersionOf_17 (by decide) (fun hc => ?_) (fun hc => ?_)
      · have h := ts_ifn h hc
        cases h
        exact tv_vret C (pc := 28) rfl dX1_removeVersionOf_28 ⟨Nat.le_of_ble_eq_true rfl, Nat.le_of_ble_eq_true rfl⟩
      · have h := ts_ifp h hc
        refine tv_aload_n C (pc := 20) dX1_removeVersionOf_20 rfl rfl ?_
        refine tv_iload_n C (pc := 21) dX1_removeVersionOf_21 rfl rfl ?_
        refine tv_iconst C (pc := 22) dX1_removeVersionOf_22 (v := (1 : Int32)) rfl ?_
        refine tv_iadd C (pc := 23) dX1_removeVersionOf_23 ?_
        refine tv_iload_n C (pc := 24) dX1_removeVersionOf_24 rfl rfl ?_
        obtain ⟨q3, hq3, h⟩ := ts_bd h
        refine tv_callV C (pc := 25) dX1_removeVersionOf_25 (ci := 1) (q := (RX1, TX1, 5)) rfl yl_X1_38 (m_X1_shift (D := D) (dT := dT) (sz := sz) (ad := ad) hl b0 hb0 i0 hi0 (q1 + (1 : Int32)) q1 u q3 hq3) (ts_live (k := 16) (by decide) hb0 hi0) rfl (Nat.le_trans (Nat.le_of_ble_eq_true rfl) hdd) (As := [.inl (.int (q1 + (1 : Int32))), .inl (.int q1)]) rfl ⟨Nat.le_of_ble_eq_true rfl, Nat.le_of_ble_eq_true rfl⟩ (fun _ => Nat.le_of_ble_eq_true rfl) rfl ?_
        cases h
        exact tv_vret C (pc := 28) rfl dX1_removeVersionOf_28 ⟨Nat.le_of_ble_eq_true rfl, Nat.le_of_ble_eq_true rfl⟩
set_option maxRecDepth 100000 in
set_option maxHeartbeats 4000000 in
theorem lt_X1_isAnyReadAfter_2 {D : va_G} {dT : Nat → ClassId} {sz : Nat} {p : Program} {l : Launch} {e : Env} {R : Room} {s : State} {m : MethodId} {args : Array Value} {below : List Frame} {meth : Method} {c : Code} {d : Nat} {ad : ts_I → Nat} {kk nn : Nat} {Q : State → Prop} (hl : l.stackTraces = false) (C : ts_CX D dT sz p l R s m args meth c RX1 cX1_isAnyReadAfter 3 (some .boolean) d) (hdd : 0 ≤ d) (b0 : Nat) (hb0 : b0 < 2) (i0 : Nat) (hi0 : i0 < 8) (c1 : Int32) (u : ts_Mem) (hkn : kk ≤ R.cells ∧ nn ≤ R.slots) : ∀ (n : Nat) (v2 : Int32) (q : Int32) (h : lp_X1_isAnyReadAfter_2 b0 i0 c1 u n v2 = some (.inl q)) (K : ts_V D dT sz p l e R s m args below meth c 3 Q ad ts_lv ts_R0 28 [some (.inr (16, b0, i0)), some (.inl (.int c1)), some (.inl (.int q))] [] u kk nn), ts_V D dT sz p l e R s m args below meth c 3 Q ad ts_lv ts_R0 2 [some (.inr (16, b0, i0)), some (.inl (.int c1)), some (.inl (.int v2))] [] u kk nn
  | 0, _, _, h, _ => by cases h
  | n + 1, v2, q, h, K => by
      rw [lp_X1_isAnyReadAfter_2] at h
      refine tv_iload_n C (pc := 2) dX1_isAnyReadAfter_2 rfl rfl ?_
      refine tv_aload_n C (pc := 3) dX1_isAnyReadAfter_3 rfl rfl ?_
      refine tv_getI C (pc := 4) dX1_isAnyReadAfter_4 fl_X1_24 (ts_live (k := 16) (by decide) hb0 hi0) rfl (cd := 0) rfl (by decide) ?_
      refine tv_icmp_ge C (pc := 7) 28 dX1_isAnyReadAfter_7 (by decide) (fun hc => ?_) (fun hc => ?_)
      · have h := ts_ifp h hc
        cases h
        exact K
      · have h := ts_ifn h hc
        refine tv_aload_n C (pc := 10) dX1_isAnyReadAfter_10 rfl rfl ?_
        refine tv_getR C (pc := 11) dX1_isAnyReadAfter_11 fl_X1_15 (ts_live (k := 16) (by decide) hb0 hi0) rfl rfl (i2 := (18, b0, i0)) rfl ?_
        refine tv_iload_n C (pc := 14) dX1_isAnyReadAfter_14 rfl rfl ?_
        obtain ⟨hr1, h⟩ := ts_gd h
        refine tv_iaload C (pc := 15) dX1_isAnyReadAfter_15 (ts_live (k := 18) (by decide) hb0 hi0) rfl hr1 (j := v2.toNatClampNeg) rfl ?_
        refine tv_iload_n C (pc := 16) dX1_isAnyReadAfter_16 rfl rfl ?_
        refine tv_icmp_le C (pc := 17) 22 dX1_isAnyReadAfter_17 (by decide) (fun hc => ?_) (fun hc => ?_)
        · have h := ts_ifp h hc
          refine tv_iinc C (pc := 22) dX1_isAnyReadAfter_22 (v := (v2 + (1 : Int32))) (L' := [some (.inr (16, b0, i0)), some (.inl (.int c1)), some (.inl (.int (v2 + (1 : Int32))))]) rfl rfl (by decide) rfl rfl ?_
          refine tv_goto C (pc := 25) 2 dX1_isAnyReadAfter_25 (by decide) ?_
          exact lt_X1_isAnyReadAfter_2 hl C hdd b0 hb0 i0 hi0 c1 u hkn n (v2 + (1 : Int32)) q h K
        · have h := ts_ifn h hc
          refine tv_iconst C (pc := 20) dX1_isAnyReadAfter_20 (v := (1 : Int32)) rfl ?_
          cases h
set_option maxRecDepth 100000 in
set_option maxHeartbeats 4000000 in
theorem lt_X1_isAnyReadAfter_2r {D : va_G} {dT : Nat → ClassId} {sz : Nat} {p : Program} {l : Launch} {e : Env} {R : Room} {s : State} {m : MethodId} {args : Array Value} {below : List Frame} {meth : Method} {c : Code} {d : Nat} {ad : ts_I → Nat} {kk nn : Nat} {mm nm : Nat} (hl : l.stackTraces = false) (C : ts_CX D dT sz p l R s m args meth c RX1 cX1_isAnyReadAfter 3 (some .boolean) d) (hdd : 0 ≤ d) (b0 : Nat) (hb0 : b0 < 2) (i0 : Nat) (hi0 : i0 < 8) (c1 : Int32) (u : ts_Mem) (hkn : kk ≤ R.cells ∧ nn ≤ R.slots) (hmm : kk ≤ mm ∧ nn ≤ nm) : ∀ (n : Nat) (v2 : Int32) (q : Int32) (h : lp_X1_isAnyReadAfter_2 b0 i0 c1 u n v2 = some (.inr q)) (K : True), ts_V D dT sz p l e R s m args below meth c 3 (ts_Q below D dT sz ad ts_lv ts_R0 (.inl (some (.int q))) u args s mm nm) ad ts_lv ts_R0 2 [some (.inr (16, b0, i0)), some (.inl (.int c1)), some (.inl (.int v2))] [] u kk nn
  | 0, _, _, h, _ => by cases h
  | n + 1, v2, q, h, K => by
      rw [lp_X1_isAnyReadAfter_2] at h
      refine tv_iload_n C (pc := 2) dX1_isAnyReadAfter_2 rfl rfl ?_
      refine tv_aload_n C (pc := 3) dX1_isAnyReadAfter_3 rfl rfl ?_
      refine tv_getI C (pc := 4) dX1_isAnyReadAfter_4 fl_X1_24 (ts_live (k := 16) (by decide) hb0 hi0) rfl (cd := 0) rfl (by decide) ?_
      refine tv_icmp_ge C (pc := 7) 28 dX1_isAnyReadAfter_7 (by decide) (fun hc => ?_) (fun hc => ?_)
      · have h := ts_ifp h hc
        cases h
      · have h := ts_ifn h hc
        refine tv_aload_n C (pc := 10) dX1_isAnyReadAfter_10 rfl rfl ?_
        refine tv_getR C (pc := 11) dX1_isAnyReadAfter_11 fl_X1_15 (ts_live (k := 16) (by decide) hb0 hi0) rfl rfl (i2 := (18, b0, i0)) rfl ?_
        refine tv_iload_n C (pc := 14) dX1_isAnyReadAfter_14 rfl rfl ?_
        obtain ⟨hr1, h⟩ := ts_gd h
        refine tv_iaload C (pc := 15) dX1_isAnyReadAfter_15 (ts_live (k := 18) (by decide) hb0 hi0) rfl hr1 (j := v2.toNatClampNeg) rfl ?_
        refine tv_iload_n C (pc := 16) dX1_isAnyReadAfter_16 rfl rfl ?_
        refine tv_icmp_le C (pc := 17) 22 dX1_isAnyReadAfter_17 (by decide) (fun hc => ?_) (fun hc => ?_)
        · have h := ts_ifp h hc
          refine tv_iinc C (pc := 22) dX1_isAnyReadAfter_22 (v := (v2 + (1 : Int32))) (L' := [some (.inr (16, b0, i0)), some (.inl (.int c1)), some (.inl (.int (v2 + (1 : Int32))))]) rfl rfl (by decide) rfl rfl ?_
          refine tv_goto C (pc := 25) 2 dX1_isAnyReadAfter_25 (by decide) ?_
          exact lt_X1_isAnyReadAfter_2r hl C hdd b0 hb0 i0 hi0 c1 u hkn hmm n (v2 + (1 : Int32)) q h K
        · have h := ts_ifn h hc
          refine tv_iconst C (pc := 20) dX1_isAnyReadAfter_20 (v := (1 : Int32)) rfl ?_
          cases h
          exact tv_zret C (pc := 21) (v := (1 : Int32)) rfl ts_nz1 dX1_isAnyReadAfter_21 ⟨hmm.1, hmm.2⟩
set_option maxRecDepth 100000 in
set_option maxHeartbeats 4000000 in
theorem m_X1_isAnyReadAfter {l : Launch} {D : va_G} {dT : Nat → ClassId} {sz : Nat} {ad : ts_I → Nat} (hl : l.stackTraces = false) (b0 : Nat) (hb0 : b0 < 2) (i0 : Nat) (hi0 : i0 < 8) (p1 : Int32) (u : ts_Mem) (r : Int32) (h : f_X1_isAnyReadAfter b0 i0 p1 u = some r) : ts_M l D dT sz yX1_isAnyReadAfter wX1_isAnyReadAfter 0 0 0 ad ts_lv ts_R0 [.inr (16, b0, i0), .inl (.int p1)] u (.inl (some (.int r))) u := by
    unfold f_X1_isAnyReadAfter at h
    refine ts_enter hl (by decide) rfl rfl (Nat.le_of_ble_eq_true rfl) ?_
    intro p e s m args below meth c C hX hnm
    have C : ts_CX D dT sz p l (ts_rm 0 0 0) s m args meth c RX1 cX1_isAnyReadAfter 3 (some .boolean) 0 := C
    have hdd : 0 ≤ 0 := Nat.le_refl _
    refine tv_iconst C (pc := 0) dX1_isAnyReadAfter_0 (v := (0 : Int32)) rfl ?_
    refine tv_istore_n C (pc := 1) dX1_isAnyReadAfter_1 (L' := [some (.inr (16, b0, i0)), some (.inl (.int p1)), some (.inl (.int (0 : Int32)))]) rfl (by decide) rfl rfl ?_
    obtain ⟨q2, hq2, h⟩ := ts_bd h
    rcases q2 with w3 | r4
    · have h := ts_eL h
      refine lt_X1_isAnyReadAfter_2 hl C hdd b0 hb0 i0 hi0 p1 u ⟨Nat.le_of_ble_eq_true rfl, Nat.le_of_ble_eq_true rfl⟩ ts_fu (0 : Int32) w3 hq2 ?_
      refine tv_iconst C (pc := 28) dX1_isAnyReadAfter_28 (v := (0 : Int32)) rfl ?_
      cases h
      exact tv_zret C (pc := 29) (v := (0 : Int32)) rfl ts_nz0 dX1_isAnyReadAfter_29 ⟨Nat.le_of_ble_eq_true rfl, Nat.le_of_ble_eq_true rfl⟩
    · have h := ts_eR h
      cases h
      exact lt_X1_isAnyReadAfter_2r hl C hdd b0 hb0 i0 hi0 p1 u ⟨Nat.le_of_ble_eq_true rfl, Nat.le_of_ble_eq_true rfl⟩ ⟨Nat.le_of_ble_eq_true rfl, Nat.le_of_ble_eq_true rfl⟩ ts_fu (0 : Int32) _ hq2 trivial
set_option maxRecDepth 100000 in
set_option maxHeartbeats 4000000 in
theorem m_X1_putValue {l : Launch} {D : va_G} {dT : Nat → ClassId} {sz : Nat} {ad : ts_I → Nat} (hl : l.stackTraces = false) (b0 : Nat) (hb0 : b0 < 2) (i0 : Nat) (hi0 : i0 < 8) (p1 : Int32) (p2 : Int32) (p3 : Int32) (u : ts_Mem) (r : ts_Mem) (h : f_X1_putValue b0 i0 p1 p2 p3 u = some r) : ts_M l D dT sz yX1_putValue wX1_putValue 1 0 0 ad ts_lv ts_R0 [.inr (16, b0, i0), .inl (.int p1), .inl (.int p2), .inl (.int p3)] u (.inl none) r := by
    unfold f_X1_putValue at h
    refine ts_enter hl (by decide) rfl rfl (Nat.le_of_ble_eq_true rfl) ?_
    intro p e s m args below meth c C hX hnm
    have C : ts_CX D dT sz p l (ts_rm 1 0 0) s m args meth c RX1 cX1_putValue 5 none 1 := C
    have hdd : 1 ≤ 1 := Nat.le_refl _
    refine tv_aload_n C (pc := 0) dX1_putValue_0 rfl rfl ?_
    refine tv_iload_n C (pc := 1) dX1_putValue_1 rfl rfl ?_
    obtain ⟨q1, hq1, h⟩ := ts_bd h
    refine tv_callV C (pc := 2) dX1_putValue_2 (ci := 1) (q := (RX1, TX1, 5)) rfl yl_X1_34 (m_X1_lastAtMost (D := D) (dT := dT) (sz := sz) (ad := ad) hl b0 hb0 i0 hi0 p1 u q1 hq1) (ts_live (k := 16) (by decide) hb0 hi0) rfl (Nat.le_trans (Nat.le_of_ble_eq_true rfl) hdd) (As := [.inl (.int p1)]) rfl ⟨Nat.le_of_ble_eq_true rfl, Nat.le_of_ble_eq_true rfl⟩ (fun _ => Nat.le_of_ble_eq_true rfl) rfl ?_
    refine tv_istore C (pc := 5) dX1_putValue_5 (L' := [some (.inr (16, b0, i0)), some (.inl (.int p1)), some (.inl (.int p2)), some (.inl (.int p3)), some (.inl (.int q1))]) (by decide) rfl rfl ?_
    refine tv_iload C (pc := 7) dX1_putValue_7 rfl ?_
    refine tv_if_lt C (pc := 9) 34 dX1_putValue_9 (by decide) (fun hc => ?_) (fun hc => ?_)
    · have h := ts_ifp h hc
      refine tv_aload_n C (pc := 34) dX1_putValue_34 rfl rfl ?_
      refine tv_getI C (pc := 35) dX1_putValue_35 fl_X1_24 (ts_live (k := 16) (by decide) hb0 hi0) rfl (cd := 0) rfl (by decide) ?_
      refine tv_bipush C (pc := 38) dX1_putValue_38 (v := (17 : Int32)) rfl ?_
      refine tv_icmp_ge C (pc := 40) 95 dX1_putValue_40 (by decide) (fun hc => ?_) (fun hc => ?_)
      · have h := ts_ifp h hc
        cases h
        exact tv_vret C (pc := 95) rfl dX1_putValue_95 ⟨Nat.le_of_ble_eq_true rfl, Nat.le_of_ble_eq_true rfl⟩
      · have h := ts_ifn h hc
        refine tv_aload_n C (pc := 43) dX1_putValue_43 rfl rfl ?_
        refine tv_iload C (pc := 44) dX1_putValue_44 rfl ?_
        refine tv_iconst C (pc := 46) dX1_putValue_46 (v := (1 : Int32)) rfl ?_
        refine tv_iadd C (pc := 47) dX1_putValue_47 ?_
        refine tv_iload C (pc := 48) dX1_putValue_48 rfl ?_
        refine tv_iconst C (pc := 50) dX1_putValue_50 (v := (2 : Int32)) rfl ?_
        refine tv_iadd C (pc := 51) dX1_putValue_51 ?_
        obtain ⟨q2, hq2, h⟩ := ts_bd h
        refine tv_callV C (pc := 52) dX1_putValue_52 (ci := 1) (q := (RX1, TX1, 5)) rfl yl_X1_38 (m_X1_shift (D := D) (dT := dT) (sz := sz) (ad := ad) hl b0 hb0 i0 hi0 (q1 + (1 : Int32)) (q1 + (2 : Int32)) u q2 hq2) (ts_live (k := 16) (by decide) hb0 hi0) rfl (Nat.le_trans (Nat.le_of_ble_eq_true rfl) hdd) (As := [.inl (.int (q1 + (1 : Int32))), .inl (.int (q1 + (2 : Int32)))]) rfl ⟨Nat.le_of_ble_eq_true rfl, Nat.le_of_ble_eq_true rfl⟩ (fun _ => Nat.le_of_ble_eq_true rfl) rfl ?_
        refine tv_aload_n C (pc := 55) dX1_putValue_55 rfl rfl ?_
        refine tv_getR C (pc := 56) dX1_putValue_56 fl_X1_9 (ts_live (k := 16) (by decide) hb0 hi0) rfl rfl (i2 := (17, b0, i0)) rfl ?_
        refine tv_iload C (pc := 59) dX1_putValue_59 rfl ?_
        refine tv_iconst C (pc := 61) dX1_putValue_61 (v := (1 : Int32)) rfl ?_
        refine tv_iadd C (pc := 62) dX1_putValue_62 ?_
        refine tv_iload_n C (pc := 63) dX1_putValue_63 rfl rfl ?_
        obtain ⟨hr3, h⟩ := ts_gd h
        refine tv_iastore C (pc := 64) dX1_putValue_64 (ts_live (k := 17) (by decide) hb0 hi0) rfl hr3 (j := ((q1 + (1 : Int32))).toNatClampNeg) rfl ?_
        refine tv_nu (fun u4 hu4 => ?_)
        have h := ts_lt h hu4
        refine tv_aload_n C (pc := 65) dX1_putValue_65 rfl rfl ?_
        refine tv_getR C (pc := 66) dX1_putValue_66 fl_X1_15 (ts_live (k := 16) (by decide) hb0 hi0) rfl rfl (i2 := (18, b0, i0)) rfl ?_
        refine tv_iload C (pc := 69) dX1_putValue_69 rfl ?_
        refine tv_iconst C (pc := 71) dX1_putValue_71 (v := (1 : Int32)) rfl ?_
        refine tv_iadd C (pc := 72) dX1_putValue_72 ?_
        refine tv_iconst C (pc := 73) dX1_putValue_73 (v := (0 : Int32)) rfl ?_
        obtain ⟨hr5, h⟩ := ts_gd h
        refine tv_iastore C (pc := 74) dX1_putValue_74 (ts_live (k := 18) (by decide) hb0 hi0) rfl hr5 (j := ((q1 + (1 : Int32))).toNatClampNeg) rfl ?_
        refine tv_nu (fun u6 hu6 => ?_)
        have h := ts_lt h hu6
        refine tv_aload_n C (pc := 75) dX1_putValue_75 rfl rfl ?_
        refine tv_getR C (pc := 76) dX1_putValue_76 fl_X1_18 (ts_live (k := 16) (by decide) hb0 hi0) rfl rfl (i2 := (19, b0, i0)) rfl ?_
        refine tv_iload C (pc := 79) dX1_putValue_79 rfl ?_
        refine tv_iconst C (pc := 81) dX1_putValue_81 (v := (1 : Int32)) rfl ?_
        refine tv_iadd C (pc := 82) dX1_putValue_82 ?_
        refine tv_iload_n C (pc := 83) dX1_putValue_83 rfl rfl ?_
        obtain ⟨hr7, h⟩ := ts_gd h
        refine tv_iastore C (pc := 84) dX1_putValue_84 (ts_live (k := 19) (by decide) hb0 hi0) rfl hr7 (j := ((q1 + (1 : Int32))).toNatClampNeg) rfl ?_
        refine tv_nu (fun u8 hu8 => ?_)
        have h := ts_lt h hu8
        refine tv_aload_n C (pc := 85) dX1_putValue_85 rfl rfl ?_
        refine tv_getR C (pc := 86) dX1_putValue_86 fl_X1_21 (ts_live (k := 16) (by decide) hb0 hi0) rfl rfl (i2 := (20, b0, i0)) rfl ?_
        refine tv_iload C (pc := 89) dX1_putValue_89 rfl ?_
        refine tv_iconst C (pc := 91) dX1_putValue_91 (v := (1 : Int32)) rfl ?_
        refine tv_iadd C (pc := 92) dX1_putValue_92 ?_
        refine tv_iload_n C (pc := 93) dX1_putValue_93 rfl rfl ?_
        obtain ⟨hr9, h⟩ := ts_gd h
        refine tv_iastore C (pc := 94) dX1_putValue_94 (ts_live (k := 20) (by decide) hb0 hi0) rfl hr9 (j := ((q1 + (1 : Int32))).toNatClampNeg) rfl ?_
        refine tv_nu (fun u10 hu10 => ?_)
        have h := ts_lt h hu10
        cases h
        exact tv_vret C (pc := 95) rfl dX1_putValue_95 ⟨Nat.le_of_ble_eq_true rfl, Nat.le_of_ble_eq_true rfl⟩
    · have h := ts_ifn h hc
      refine tv_aload_n C (pc := 12) dX1_putValue_12 rfl rfl ?_
      refine tv_getR C (pc := 13) dX1_putValue_13 fl_X1_9 (ts_live (k := 16) (by decide) hb0 hi0) rfl rfl (i2 := (17, b0, i0)) rfl ?_
      refine tv_iload C (pc := 16) dX1_putValue_16 rfl ?_
      obtain ⟨hr11, h⟩ := ts_gd h
      refine tv_iaload C (pc := 18) dX1_putValue_18 (ts_live (k := 17) (by decide) hb0 hi0) rfl hr11 (j := q1.toNatClampNeg) rfl ?_
      refine tv_iload_n C (pc := 19) dX1_putValue_19 rfl rfl ?_
      refine tv_icmp_ne C (pc := 20) 34 dX1_putValue_20 (by decide) (fun hc => ?_) (fun hc => ?_)
      · have h := ts_ifn h hc
        refine tv_aload_n C (pc := 34) dX1_putValue_34 rfl rfl ?_
        refine tv_getI C (pc := 35) dX1_putValue_35 fl_X1_24 (ts_live (k := 16) (by decide) hb0 hi0) rfl (cd := 0) rfl (by decide) ?_
        refine tv_bipush C (pc := 38) dX1_putValue_38 (v := (17 : Int32)) rfl ?_
        refine tv_icmp_ge C (pc := 40) 95 dX1_putValue_40 (by decide) (fun hc => ?_) (fun hc => ?_)
        · have h := ts_ifp h hc
          cases h
          exact tv_vret C (pc := 95) rfl dX1_putValue_95 ⟨Nat.le_of_ble_eq_true rfl, Nat.le_of_ble_eq_true rfl⟩
        · have h := ts_ifn h hc
          refine tv_aload_n C (pc := 43) dX1_putValue_43 rfl rfl ?_
          refine tv_iload C (pc := 44) dX1_putValue_44 rfl ?_
          refine tv_iconst C (pc := 46) dX1_putValue_46 (v := (1 : Int32)) rfl ?_
          refine tv_iadd C (pc := 47) dX1_putValue_47 ?_
          refine tv_iload C (pc := 48) dX1_putValue_48 rfl ?_
          refine tv_iconst C (pc := 50) dX1_putValue_50 (v := (2 : Int32)) rfl ?_
          refine tv_iadd C (pc := 51) dX1_putValue_51 ?_
          obtain ⟨q12, hq12, h⟩ := ts_bd h
          refine tv_callV C (pc := 52) dX1_putValue_52 (ci := 1) (q := (RX1, TX1, 5)) rfl yl_X1_38 (m_X1_shift (D := D) (dT := dT) (sz := sz) (ad := ad) hl b0 hb0 i0 hi0 (q1 + (1 : Int32)) (q1 + (2 : Int32)) u q12 hq12) (ts_live (k := 16) (by decide) hb0 hi0) rfl (Nat.le_trans (Nat.le_of_ble_eq_true rfl) hdd) (As := [.inl (.int (q1 + (1 : Int32))), .inl (.int (q1 + (2 : Int32)))]) rfl ⟨Nat.le_of_ble_eq_true rfl, Nat.le_of_ble_eq_true rfl⟩ (fun _ => Nat.le_of_ble_eq_true rfl) rfl ?_
          refine tv_aload_n C (pc := 55) dX1_putValue_55 rfl rfl ?_
          refine tv_getR C (pc := 56) dX1_putValue_56 fl_X1_9 (ts_live (k := 16) (by decide) hb0 hi0) rfl rfl (i2 := (17, b0, i0)) rfl ?_
          refine tv_iload C (pc := 59) dX1_putValue_59 rfl ?_
          refine tv_iconst C (pc := 61) dX1_putValue_61 (v := (1 : Int32)) rfl ?_
          refine tv_iadd C (pc := 62) dX1_putValue_62 ?_
          refine tv_iload_n C (pc := 63) dX1_putValue_63 rfl rfl ?_
          obtain ⟨hr13, h⟩ := ts_gd h
          refine tv_iastore C (pc := 64) dX1_putValue_64 (ts_live (k := 17) (by decide) hb0 hi0) rfl hr13 (j := ((q1 + (1 : Int32))).toNatClampNeg) rfl ?_
          refine tv_nu (fun u14 hu14 => ?_)
          have h := ts_lt h hu14
          refine tv_aload_n C (pc := 65) dX1_putValue_65 rfl rfl ?_
          refine tv_getR C (pc := 66) dX1_putValue_66 fl_X1_15 (ts_live (k := 16) (by decide) hb0 hi0) rfl rfl (i2 := (18, b0, i0)) rfl ?_
          refine tv_iload C (pc := 69) dX1_putValue_69 rfl ?_
          refine tv_iconst C (pc := 71) dX1_putValue_71 (v := (1 : Int32)) rfl ?_
          refine tv_iadd C (pc := 72) dX1_putValue_72 ?_
          refine tv_iconst C (pc := 73) dX1_putValue_73 (v := (0 : Int32)) rfl ?_
          obtain ⟨hr15, h⟩ := ts_gd h
          refine tv_iastore C (pc := 74) dX1_putValue_74 (ts_live (k := 18) (by decide) hb0 hi0) rfl hr15 (j := ((q1 + (1 : Int32))).toNatClampNeg) rfl ?_
          refine tv_nu (fun u16 hu16 => ?_)
          have h := ts_lt h hu16
          refine tv_aload_n C (pc := 75) dX1_putValue_75 rfl rfl ?_
          refine tv_getR C (pc := 76) dX1_putValue_76 fl_X1_18 (ts_live (k := 16) (by decide) hb0 hi0) rfl rfl (i2 := (19, b0, i0)) rfl ?_
          refine tv_iload C (pc := 79) dX1_putValue_79 rfl ?_
          refine tv_iconst C (pc := 81) dX1_putValue_81 (v := (1 : Int32)) rfl ?_
          refine tv_iadd C (pc := 82) dX1_putValue_82 ?_
          refine tv_iload_n C (pc := 83) dX1_putValue_83 rfl rfl ?_
          obtain ⟨hr17, h⟩ := ts_gd h
          refine tv_iastore C (pc := 84) dX1_putValue_84 (ts_live (k := 19) (by decide) hb0 hi0) rfl hr17 (j := ((q1 + (1 : Int32))).toNatClampNeg) rfl ?_
          refine tv_nu (fun u18 hu18 => ?_)
          have h := ts_lt h hu18
          refine tv_aload_n C (pc := 85) dX1_putValue_85 rfl rfl ?_
          refine tv_getR C (pc := 86) dX1_putValue_86 fl_X1_21 (ts_live (k := 16) (by decide) hb0 hi0) rfl rfl (i2 := (20, b0, i0)) rfl ?_
          refine tv_iload C (pc := 89) dX1_putValue_89 rfl ?_
          refine tv_iconst C (pc := 91) dX1_putValue_91 (v := (1 : Int32)) rfl ?_
          refine tv_iadd C (pc := 92) dX1_putValue_92 ?_
          refine tv_iload_n C (pc := 93) dX1_putValue_93 rfl rfl ?_
          obtain ⟨hr19, h⟩ := ts_gd h
          refine tv_iastore C (pc := 94) dX1_putValue_94 (ts_live (k := 20) (by decide) hb0 hi0) rfl hr19 (j := ((q1 + (1 : Int32))).toNatClampNeg) rfl ?_
          refine tv_nu (fun u20 hu20 => ?_)
          have h := ts_lt h hu20
          cases h
          exact tv_vret C (pc := 95) rfl dX1_putValue_95 ⟨Nat.le_of_ble_eq_true rfl, Nat.le_of_ble_eq_true rfl⟩
      · have h := ts_ifp h hc
        refine tv_aload_n C (pc := 23) dX1_putValue_23 rfl rfl ?_
        refine tv_getR C (pc := 24) dX1_putValue_24 fl_X1_18 (ts_live (k := 16) (by decide) hb0 hi0) rfl rfl (i2 := (19, b0, i0)) rfl ?_
        refine tv_iload C (pc := 27) dX1_putValue_27 rfl ?_
        refine tv_iload_n C (pc := 29) dX1_putValue_29 rfl rfl ?_
        obtain ⟨hr21, h⟩ := ts_gd h
        refine tv_iastore C (pc := 30) dX1_putValue_30 (ts_live (k := 19) (by decide) hb0 hi0) rfl hr21 (j := q1.toNatClampNeg) rfl ?_
        refine tv_nu (fun u22 hu22 => ?_)
        have h := ts_lt h hu22
        refine tv_goto C (pc := 31) 95 dX1_putValue_31 (by decide) ?_
        cases h
        exact tv_vret C (pc := 95) rfl dX1_putValue_95 ⟨Nat.le_of_ble_eq_true rfl, Nat.le_of_ble_eq_true rfl⟩
set_option maxRecDepth 100000 in
set_option maxHeartbeats 4000000 in
theorem m_X1_removeFirst {l : Launch} {D : va_G} {dT : Nat → ClassId} {sz : Nat} {ad : ts_I → Nat} (hl : l.stackTraces = false) (b0 : Nat) (hb0 : b0 < 2) (i0 : Nat) (hi0 : i0 < 8) (p1 : Int32) (u : ts_Mem) (r : ts_Mem) (h : f_X1_removeFirst b0 i0 p1 u = some r) : ts_M l D dT sz yX1_removeFirst wX1_removeFirst 1 0 0 ad ts_lv ts_R0 [.inr (16, b0, i0), .inl (.int p1)] u (.inl none) r := by
    unfold f_X1_removeFirst at h
    refine ts_enter hl (by decide) rfl rfl (Nat.le_of_ble_eq_true rfl) ?_
    intro p e s m args below meth c C hX hnm
    have C : ts_CX D dT sz p l (ts_rm 1 0 0) s m args meth c RX1 cX1_removeFirst 2 none 1 := C
    have hdd : 1 ≤ 1 := Nat.le_refl _
    refine tv_aload_n C (pc := 0) dX1_removeFirst_0 rfl rfl ?_
    refine tv_iload_n C (pc := 1) dX1_removeFirst_1 rfl rfl ?_
    refine tv_iconst C (pc := 2) dX1_removeFirst_2 (v := (0 : Int32)) rfl ?_
    obtain ⟨q1, hq1, h⟩ := ts_bd h
    refine tv_callV C (pc := 3) dX1_removeFirst_3 (ci := 1) (q := (RX1, TX1, 5)) rfl yl_X1_38 (m_X1_shift (D := D) (dT := dT) (sz := sz) (ad := ad) hl b0 hb0 i0 hi0 p1 (0 : Int32) u q1 hq1) (ts_live (k := 16) (by decide) hb0 hi0) rfl (Nat.le_trans (Nat.le_of_ble_eq_true rfl) hdd) (As := [.inl (.int p1), .inl (.int (0 : Int32))]) rfl ⟨Nat.le_of_ble_eq_true rfl, Nat.le_of_ble_eq_true rfl⟩ (fun _ => Nat.le_of_ble_eq_true rfl) rfl ?_
    cases h
    exact tv_vret C (pc := 6) rfl dX1_removeFirst_6 ⟨Nat.le_of_ble_eq_true rfl, Nat.le_of_ble_eq_true rfl⟩
set_option maxRecDepth 100000 in
set_option maxHeartbeats 4000000 in
theorem m_X1_versionNumber {l : Launch} {D : va_G} {dT : Nat → ClassId} {sz : Nat} {ad : ts_I → Nat} (hl : l.stackTraces = false) (b0 : Nat) (hb0 : b0 < 2) (i0 : Nat) (hi0 : i0 < 8) (p1 : Int32) (p2 : Int32) (u : ts_Mem) (r : Int32) (h : f_X1_versionNumber b0 i0 p1 p2 u = some r) : ts_M l D dT sz yX1_versionNumber wX1_versionNumber 0 0 0 ad ts_lv ts_R0 [.inr (16, b0, i0), .inl (.int p1), .inl (.int p2)] u (.inl (some (.int r))) u := by
    unfold f_X1_versionNumber at h
    refine ts_enter hl (by decide) rfl rfl (Nat.le_of_ble_eq_true rfl) ?_
    intro p e s m args below meth c C hX hnm
    have C : ts_CX D dT sz p l (ts_rm 0 0 0) s m args meth c RX1 cX1_versionNumber 3 (some .int) 0 := C
    have hdd : 0 ≤ 0 := Nat.le_refl _
    refine tv_iload_n C (pc := 0) dX1_versionNumber_0 rfl rfl ?_
    by_cases hs1_0 : p2 = 0
    · have h := ts_ifp h hs1_0
      refine tv_tabIn C (pc := 1) 28 dX1_versionNumber_1 (by rw [hs1_0]; decide) (by rw [hs1_0]; decide) (off := 27) (by rw [hs1_0]; decide) (by decide) ?_
      refine tv_aload_n C (pc := 28) dX1_versionNumber_28 rfl rfl ?_
      refine tv_getR C (pc := 29) dX1_versionNumber_29 fl_X1_9 (ts_live (k := 16) (by decide) hb0 hi0) rfl rfl (i2 := (17, b0, i0)) rfl ?_
      refine tv_iload_n C (pc := 32) dX1_versionNumber_32 rfl rfl ?_
      obtain ⟨hr1, h⟩ := ts_gd h
      refine tv_iaload C (pc := 33) dX1_versionNumber_33 (ts_live (k := 17) (by decide) hb0 hi0) rfl hr1 (j := p1.toNatClampNeg) rfl ?_
      cases h
      exact tv_iret C (pc := 34) rfl dX1_versionNumber_34 ⟨Nat.le_of_ble_eq_true rfl, Nat.le_of_ble_eq_true rfl⟩
    have h := ts_ifn h hs1_0
    by_cases hs1_1 : p2 = 1
    · have h := ts_ifp h hs1_1
      refine tv_tabIn C (pc := 1) 35 dX1_versionNumber_1 (by rw [hs1_1]; decide) (by rw [hs1_1]; decide) (off := 34) (by rw [hs1_1]; decide) (by decide) ?_
      refine tv_aload_n C (pc := 35) dX1_versionNumber_35 rfl rfl ?_
      refine tv_getR C (pc := 36) dX1_versionNumber_36 fl_X1_15 (ts_live (k := 16) (by decide) hb0 hi0) rfl rfl (i2 := (18, b0, i0)) rfl ?_
      refine tv_iload_n C (pc := 39) dX1_versionNumber_39 rfl rfl ?_
      obtain ⟨hr2, h⟩ := ts_gd h
      refine tv_iaload C (pc := 40) dX1_versionNumber_40 (ts_live (k := 18) (by decide) hb0 hi0) rfl hr2 (j := p1.toNatClampNeg) rfl ?_
      cases h
      exact tv_iret C (pc := 41) rfl dX1_versionNumber_41 ⟨Nat.le_of_ble_eq_true rfl, Nat.le_of_ble_eq_true rfl⟩
    have h := ts_ifn h hs1_1
    by_cases hs1_2 : p2 = 2
    · have h := ts_ifp h hs1_2
      refine tv_tabIn C (pc := 1) 42 dX1_versionNumber_1 (by rw [hs1_2]; decide) (by rw [hs1_2]; decide) (off := 41) (by rw [hs1_2]; decide) (by decide) ?_
      refine tv_aload_n C (pc := 42) dX1_versionNumber_42 rfl rfl ?_
      refine tv_getR C (pc := 43) dX1_versionNumber_43 fl_X1_18 (ts_live (k := 16) (by decide) hb0 hi0) rfl rfl (i2 := (19, b0, i0)) rfl ?_
      refine tv_iload_n C (pc := 46) dX1_versionNumber_46 rfl rfl ?_
      obtain ⟨hr3, h⟩ := ts_gd h
      refine tv_iaload C (pc := 47) dX1_versionNumber_47 (ts_live (k := 19) (by decide) hb0 hi0) rfl hr3 (j := p1.toNatClampNeg) rfl ?_
      cases h
      exact tv_iret C (pc := 48) rfl dX1_versionNumber_48 ⟨Nat.le_of_ble_eq_true rfl, Nat.le_of_ble_eq_true rfl⟩
    have h := ts_ifn h hs1_2
    refine tv_tabOut C (pc := 1) 49 dX1_versionNumber_1 (ts_tab 3 (by decide) (fun j hj => match j, hj with | 0, _ => hs1_0 | 1, _ => hs1_1 | 2, _ => hs1_2 | j + 3, hj => absurd hj (by omega)) (by decide)) (by decide) ?_
    refine tv_aload_n C (pc := 49) dX1_versionNumber_49 rfl rfl ?_
    refine tv_getR C (pc := 50) dX1_versionNumber_50 fl_X1_21 (ts_live (k := 16) (by decide) hb0 hi0) rfl rfl (i2 := (20, b0, i0)) rfl ?_
    refine tv_iload_n C (pc := 53) dX1_versionNumber_53 rfl rfl ?_
    obtain ⟨hr4, h⟩ := ts_gd h
    refine tv_iaload C (pc := 54) dX1_versionNumber_54 (ts_live (k := 20) (by decide) hb0 hi0) rfl hr4 (j := p1.toNatClampNeg) rfl ?_
    cases h
    exact tv_iret C (pc := 55) rfl dX1_versionNumber_55 ⟨Nat.le_of_ble_eq_true rfl, Nat.le_of_ble_eq_true rfl⟩
