set_option maxRecDepth 100000 in
set_option maxHeartbeats 4000000 in
theorem m_X5_copyFrom {l : Launch} {D : va_G} {dT : Nat → ClassId} {sz : Nat} {ad : ts_I → Nat} (hl : l.stackTraces = false) (b0 : Nat) (hb0 : b0 < 2) (i0 : Nat) (hi0 : i0 < 16) (b1 : Nat) (hb1 : b1 < 2) (i1 : Nat) (hi1 : i1 < 16) (u : ts_Mem) (r : ts_Mem) (h : f_X5_copyFrom b0 i0 b1 i1 u = some r) : ts_M l D dT sz yX5_copyFrom wX5_copyFrom 0 0 0 ad ts_lv ts_R0 [.inr (11, b0, i0), .inr (11, b1, i1)] u (.inl none) r := by
    unfold f_X5_copyFrom at h
    refine ts_enter hl (by decide) rfl rfl (Nat.le_of_ble_eq_true rfl) ?_
    intro p e s m args below meth c C hX hnm
    have C : ts_CX D dT sz p l (ts_rm 0 0 0) s m args meth c RX5 cX5_copyFrom 2 none 0 := C
    have hdd : 0 ≤ 0 := Nat.le_refl _
    refine tv_aload_n C (pc := 0) dX5_copyFrom_0 rfl rfl ?_
    refine tv_aload_n C (pc := 1) dX5_copyFrom_1 rfl rfl ?_
    refine tv_getI C (pc := 2) dX5_copyFrom_2 fl_X5_24 (ts_live (k := 11) (by decide) hb1 hi1) rfl (cd := 0) rfl (by decide) ?_
    refine tv_putI C (pc := 5) dX5_copyFrom_5 fp_X5_24 (ts_live (k := 11) (by decide) hb0 hi0) rfl (cd := 0) rfl (by decide) rfl rfl ?_
    refine tv_nu (fun u1 hu1 => ?_)
    have h := ts_lt h hu1
    refine tv_aload_n C (pc := 8) dX5_copyFrom_8 rfl rfl ?_
    refine tv_aload_n C (pc := 9) dX5_copyFrom_9 rfl rfl ?_
    refine tv_getI C (pc := 10) dX5_copyFrom_10 fl_X5_28 (ts_live (k := 11) (by decide) hb1 hi1) rfl (cd := 0) rfl (by decide) ?_
    refine tv_putI C (pc := 13) dX5_copyFrom_13 fp_X5_28 (ts_live (k := 11) (by decide) hb0 hi0) rfl (cd := 0) rfl (by decide) rfl rfl ?_
    refine tv_nu (fun u2 hu2 => ?_)
    have h := ts_lt h hu2
    refine tv_aload_n C (pc := 16) dX5_copyFrom_16 rfl rfl ?_
    refine tv_aload_n C (pc := 17) dX5_copyFrom_17 rfl rfl ?_
    refine tv_getI C (pc := 18) dX5_copyFrom_18 fl_X5_31 (ts_live (k := 11) (by decide) hb1 hi1) rfl (cd := 0) rfl (by decide) ?_
    refine tv_putI C (pc := 21) dX5_copyFrom_21 fp_X5_31 (ts_live (k := 11) (by decide) hb0 hi0) rfl (cd := 0) rfl (by decide) rfl rfl ?_
    refine tv_nu (fun u3 hu3 => ?_)
    have h := ts_lt h hu3
    refine tv_aload_n C (pc := 24) dX5_copyFrom_24 rfl rfl ?_
    refine tv_aload_n C (pc := 25) dX5_copyFrom_25 rfl rfl ?_
    refine tv_getI C (pc := 26) dX5_copyFrom_26 fl_X5_34 (ts_live (k := 11) (by decide) hb1 hi1) rfl (cd := 0) rfl (by decide) ?_
    refine tv_putI C (pc := 29) dX5_copyFrom_29 fp_X5_34 (ts_live (k := 11) (by decide) hb0 hi0) rfl (cd := 0) rfl (by decide) rfl rfl ?_
    refine tv_nu (fun u4 hu4 => ?_)
    have h := ts_lt h hu4
    refine tv_aload_n C (pc := 32) dX5_copyFrom_32 rfl rfl ?_
    refine tv_aload_n C (pc := 33) dX5_copyFrom_33 rfl rfl ?_
    refine tv_getI C (pc := 34) dX5_copyFrom_34 fl_X5_37 (ts_live (k := 11) (by decide) hb1 hi1) rfl (cd := 0) rfl (by decide) ?_
    refine tv_putI C (pc := 37) dX5_copyFrom_37 fp_X5_37 (ts_live (k := 11) (by decide) hb0 hi0) rfl (cd := 0) rfl (by decide) rfl rfl ?_
    refine tv_nu (fun u5 hu5 => ?_)
    have h := ts_lt h hu5
    refine tv_aload_n C (pc := 40) dX5_copyFrom_40 rfl rfl ?_
    refine tv_aload_n C (pc := 41) dX5_copyFrom_41 rfl rfl ?_
    refine tv_getI C (pc := 42) dX5_copyFrom_42 fl_X5_40 (ts_live (k := 11) (by decide) hb1 hi1) rfl (cd := 0) rfl (by decide) ?_
    refine tv_putI C (pc := 45) dX5_copyFrom_45 fp_X5_40 (ts_live (k := 11) (by decide) hb0 hi0) rfl (cd := 0) rfl (by decide) rfl rfl ?_
    refine tv_nu (fun u6 hu6 => ?_)
    have h := ts_lt h hu6
    refine tv_aload_n C (pc := 48) dX5_copyFrom_48 rfl rfl ?_
    refine tv_getR C (pc := 49) dX5_copyFrom_49 fl_X5_9 (ts_live (k := 11) (by decide) hb1 hi1) rfl rfl (i2 := (12, b1, i1)) rfl ?_
    refine tv_iconst C (pc := 52) dX5_copyFrom_52 (v := (0 : Int32)) rfl ?_
    refine tv_aload_n C (pc := 53) dX5_copyFrom_53 rfl rfl ?_
    refine tv_getR C (pc := 54) dX5_copyFrom_54 fl_X5_9 (ts_live (k := 11) (by decide) hb0 hi0) rfl rfl (i2 := (12, b0, i0)) rfl ?_
    refine tv_iconst C (pc := 57) dX5_copyFrom_57 (v := (0 : Int32)) rfl ?_
    refine tv_bipush C (pc := 58) dX5_copyFrom_58 (v := (20 : Int32)) rfl ?_
    refine tv_copyi C (pc := 60) dX5_copyFrom_60 ml_X5_43 ts_ac (ts_live (k := 12) (by decide) hb1 hi1) rfl (ts_live (k := 12) (by decide) hb0 hi0) rfl (by decide) (fun _ => Nat.le_of_ble_eq_true rfl) ?_
    refine tv_nu (fun u7 hu7 => ?_)
    have h := ts_lt h hu7
    refine tv_aload_n C (pc := 63) dX5_copyFrom_63 rfl rfl ?_
    refine tv_getR C (pc := 64) dX5_copyFrom_64 fl_X5_15 (ts_live (k := 11) (by decide) hb1 hi1) rfl rfl (i2 := (13, b1, i1)) rfl ?_
    refine tv_iconst C (pc := 67) dX5_copyFrom_67 (v := (0 : Int32)) rfl ?_
    refine tv_aload_n C (pc := 68) dX5_copyFrom_68 rfl rfl ?_
    refine tv_getR C (pc := 69) dX5_copyFrom_69 fl_X5_15 (ts_live (k := 11) (by decide) hb0 hi0) rfl rfl (i2 := (13, b0, i0)) rfl ?_
    refine tv_iconst C (pc := 72) dX5_copyFrom_72 (v := (0 : Int32)) rfl ?_
    refine tv_bipush C (pc := 73) dX5_copyFrom_73 (v := (20 : Int32)) rfl ?_
    refine tv_copyi C (pc := 75) dX5_copyFrom_75 ml_X5_43 ts_ac (ts_live (k := 13) (by decide) hb1 hi1) rfl (ts_live (k := 13) (by decide) hb0 hi0) rfl (by decide) (fun _ => Nat.le_of_ble_eq_true rfl) ?_
    refine tv_nu (fun u8 hu8 => ?_)
    have h := ts_lt h hu8
    refine tv_aload_n C (pc := 78) dX5_copyFrom_78 rfl rfl ?_
    refine tv_getR C (pc := 79) dX5_copyFrom_79 fl_X5_18 (ts_live (k := 11) (by decide) hb1 hi1) rfl rfl (i2 := (14, b1, i1)) rfl ?_
    refine tv_iconst C (pc := 82) dX5_copyFrom_82 (v := (0 : Int32)) rfl ?_
    refine tv_aload_n C (pc := 83) dX5_copyFrom_83 rfl rfl ?_
    refine tv_getR C (pc := 84) dX5_copyFrom_84 fl_X5_18 (ts_live (k := 11) (by decide) hb0 hi0) rfl rfl (i2 := (14, b0, i0)) rfl ?_
    refine tv_iconst C (pc := 87) dX5_copyFrom_87 (v := (0 : Int32)) rfl ?_
    refine tv_bipush C (pc := 88) dX5_copyFrom_88 (v := (20 : Int32)) rfl ?_
    refine tv_copyi C (pc := 90) dX5_copyFrom_90 ml_X5_43 ts_ac (ts_live (k := 14) (by decide) hb1 hi1) rfl (ts_live (k := 14) (by decide) hb0 hi0) rfl (by decide) (fun _ => Nat.le_of_ble_eq_true rfl) ?_
    refine tv_nu (fun u9 hu9 => ?_)
    have h := ts_lt h hu9
    refine tv_aload_n C (pc := 93) dX5_copyFrom_93 rfl rfl ?_
    refine tv_getR C (pc := 94) dX5_copyFrom_94 fl_X5_21 (ts_live (k := 11) (by decide) hb1 hi1) rfl rfl (i2 := (15, b1, i1)) rfl ?_
    refine tv_iconst C (pc := 97) dX5_copyFrom_97 (v := (0 : Int32)) rfl ?_
    refine tv_aload_n C (pc := 98) dX5_copyFrom_98 rfl rfl ?_
    refine tv_getR C (pc := 99) dX5_copyFrom_99 fl_X5_21 (ts_live (k := 11) (by decide) hb0 hi0) rfl rfl (i2 := (15, b0, i0)) rfl ?_
    refine tv_iconst C (pc := 102) dX5_copyFrom_102 (v := (0 : Int32)) rfl ?_
    refine tv_bipush C (pc := 103) dX5_copyFrom_103 (v := (20 : Int32)) rfl ?_
    refine tv_copyi C (pc := 105) dX5_copyFrom_105 ml_X5_43 ts_ac (ts_live (k := 15) (by decide) hb1 hi1) rfl (ts_live (k := 15) (by decide) hb0 hi0) rfl (by decide) (fun _ => Nat.le_of_ble_eq_true rfl) ?_
    refine tv_nu (fun u10 hu10 => ?_)
    have h := ts_lt h hu10
    cases h
    exact tv_vret C (pc := 108) rfl dX5_copyFrom_108 ⟨Nat.le_of_ble_eq_true rfl, Nat.le_of_ble_eq_true rfl⟩
set_option maxRecDepth 100000 in
set_option maxHeartbeats 4000000 in
theorem m_X5_start {l : Launch} {D : va_G} {dT : Nat → ClassId} {sz : Nat} {ad : ts_I → Nat} (hl : l.stackTraces = false) (b0 : Nat) (hb0 : b0 < 2) (i0 : Nat) (hi0 : i0 < 16) (p1 : Int32) (p2 : Int32) (u : ts_Mem) (r : ts_Mem) (h : f_X5_start b0 i0 p1 p2 u = some r) : ts_M l D dT sz yX5_start wX5_start 0 0 0 ad ts_lv ts_R0 [.inr (11, b0, i0), .inl (.int p1), .inl (.int p2)] u (.inl none) r := by
    unfold f_X5_start at h
    refine ts_enter hl (by decide) rfl rfl (Nat.le_of_ble_eq_true rfl) ?_
    intro p e s m args below meth c C hX hnm
    have C : ts_CX D dT sz p l (ts_rm 0 0 0) s m args meth c RX5 cX5_start 3 none 0 := C
    have hdd : 0 ≤ 0 := Nat.le_refl _
    refine tv_aload_n C (pc := 0) dX5_start_0 rfl rfl ?_
    refine tv_iconst C (pc := 1) dX5_start_1 (v := (0 : Int32)) rfl ?_
    refine tv_putI C (pc := 2) dX5_start_2 fp_X5_24 (ts_live (k := 11) (by decide) hb0 hi0) rfl (cd := 0) rfl (by decide) rfl rfl ?_
    refine tv_nu (fun u1 hu1 => ?_)
    have h := ts_lt h hu1
    refine tv_aload_n C (pc := 5) dX5_start_5 rfl rfl ?_
    refine tv_iload_n C (pc := 6) dX5_start_6 rfl rfl ?_
    refine tv_putI C (pc := 7) dX5_start_7 fp_X5_28 (ts_live (k := 11) (by decide) hb0 hi0) rfl (cd := 0) rfl (by decide) rfl rfl ?_
    refine tv_nu (fun u2 hu2 => ?_)
    have h := ts_lt h hu2
    refine tv_aload_n C (pc := 10) dX5_start_10 rfl rfl ?_
    refine tv_iload_n C (pc := 11) dX5_start_11 rfl rfl ?_
    refine tv_putI C (pc := 12) dX5_start_12 fp_X5_31 (ts_live (k := 11) (by decide) hb0 hi0) rfl (cd := 0) rfl (by decide) rfl rfl ?_
    refine tv_nu (fun u3 hu3 => ?_)
    have h := ts_lt h hu3
    refine tv_aload_n C (pc := 15) dX5_start_15 rfl rfl ?_
    refine tv_iconst C (pc := 16) dX5_start_16 (v := (0 : Int32)) rfl ?_
    refine tv_putI C (pc := 17) dX5_start_17 fp_X5_34 (ts_live (k := 11) (by decide) hb0 hi0) rfl (cd := 0) rfl (by decide) rfl rfl ?_
    refine tv_nu (fun u4 hu4 => ?_)
    have h := ts_lt h hu4
    refine tv_aload_n C (pc := 20) dX5_start_20 rfl rfl ?_
    refine tv_iconst C (pc := 21) dX5_start_21 (v := (0 : Int32)) rfl ?_
    refine tv_putI C (pc := 22) dX5_start_22 fp_X5_37 (ts_live (k := 11) (by decide) hb0 hi0) rfl (cd := 0) rfl (by decide) rfl rfl ?_
    refine tv_nu (fun u5 hu5 => ?_)
    have h := ts_lt h hu5
    refine tv_aload_n C (pc := 25) dX5_start_25 rfl rfl ?_
    refine tv_iconst C (pc := 26) dX5_start_26 (v := (0 : Int32)) rfl ?_
    refine tv_putI C (pc := 27) dX5_start_27 fp_X5_40 (ts_live (k := 11) (by decide) hb0 hi0) rfl (cd := 0) rfl (by decide) rfl rfl ?_
    refine tv_nu (fun u6 hu6 => ?_)
    have h := ts_lt h hu6
    cases h
    exact tv_vret C (pc := 30) rfl dX5_start_30 ⟨Nat.le_of_ble_eq_true rfl, Nat.le_of_ble_eq_true rfl⟩
set_option maxRecDepth 100000 in
set_option maxHeartbeats 4000000 in
theorem m_X5_appendOperation {l : Launch} {D : va_G} {dT : Nat → ClassId} {sz : Nat} {ad : ts_I → Nat} (hl : l.stackTraces = false) (b0 : Nat) (hb0 : b0 < 2) (i0 : Nat) (hi0 : i0 < 16) (p1 : Int32) (p2 : Int32) (p3 : Int32) (u : ts_Mem) (r : (Int32 × ts_Mem)) (h : f_X5_appendOperation b0 i0 p1 p2 p3 u = some r) : ts_M l D dT sz yX5_appendOperation wX5_appendOperation 0 0 0 ad ts_lv ts_R0 [.inr (11, b0, i0), .inl (.int p1), .inl (.int p2), .inl (.int p3)] u (.inl (some (.int r.1))) r.2 := by
    unfold f_X5_appendOperation at h
    refine ts_enter hl (by decide) rfl rfl (Nat.le_of_ble_eq_true rfl) ?_
    intro p e s m args below meth c C hX hnm
    have C : ts_CX D dT sz p l (ts_rm 0 0 0) s m args meth c RX5 cX5_appendOperation 5 (some .int) 0 := C
    have hdd : 0 ≤ 0 := Nat.le_refl _
    refine tv_aload_n C (pc := 0) dX5_appendOperation_0 rfl rfl ?_
    refine tv_getI C (pc := 1) dX5_appendOperation_1 fl_X5_40 (ts_live (k := 11) (by decide) hb0 hi0) rfl (cd := 0) rfl (by decide) ?_
    refine tv_nmI (fun x1 hx1 => ?_)
    have h := ts_lt h hx1
    refine tv_istore C (pc := 4) dX5_appendOperation_4 (L' := [some (.inr (11, b0, i0)), some (.inl (.int p1)), some (.inl (.int p2)), some (.inl (.int p3)), some (.inl (.int x1))]) (by decide) rfl rfl ?_
    refine tv_aload_n C (pc := 6) dX5_appendOperation_6 rfl rfl ?_
    refine tv_getR C (pc := 7) dX5_appendOperation_7 fl_X5_9 (ts_live (k := 11) (by decide) hb0 hi0) rfl rfl (i2 := (12, b0, i0)) rfl ?_
    refine tv_iload C (pc := 10) dX5_appendOperation_10 rfl ?_
    refine tv_iload_n C (pc := 12) dX5_appendOperation_12 rfl rfl ?_
    obtain ⟨hr2, h⟩ := ts_gd h
    refine tv_iastore C (pc := 13) dX5_appendOperation_13 (ts_live (k := 12) (by decide) hb0 hi0) rfl hr2 (j := x1.toNatClampNeg) rfl ?_
    refine tv_nu (fun u3 hu3 => ?_)
    have h := ts_lt h hu3
    refine tv_aload_n C (pc := 14) dX5_appendOperation_14 rfl rfl ?_
    refine tv_getR C (pc := 15) dX5_appendOperation_15 fl_X5_15 (ts_live (k := 11) (by decide) hb0 hi0) rfl rfl (i2 := (13, b0, i0)) rfl ?_
    refine tv_iload C (pc := 18) dX5_appendOperation_18 rfl ?_
    refine tv_iload_n C (pc := 20) dX5_appendOperation_20 rfl rfl ?_
    obtain ⟨hr4, h⟩ := ts_gd h
    refine tv_iastore C (pc := 21) dX5_appendOperation_21 (ts_live (k := 13) (by decide) hb0 hi0) rfl hr4 (j := x1.toNatClampNeg) rfl ?_
    refine tv_nu (fun u5 hu5 => ?_)
    have h := ts_lt h hu5
    refine tv_aload_n C (pc := 22) dX5_appendOperation_22 rfl rfl ?_
    refine tv_getR C (pc := 23) dX5_appendOperation_23 fl_X5_18 (ts_live (k := 11) (by decide) hb0 hi0) rfl rfl (i2 := (14, b0, i0)) rfl ?_
    refine tv_iload C (pc := 26) dX5_appendOperation_26 rfl ?_
    refine tv_iload_n C (pc := 28) dX5_appendOperation_28 rfl rfl ?_
    obtain ⟨hr6, h⟩ := ts_gd h
    refine tv_iastore C (pc := 29) dX5_appendOperation_29 (ts_live (k := 14) (by decide) hb0 hi0) rfl hr6 (j := x1.toNatClampNeg) rfl ?_
    refine tv_nu (fun u7 hu7 => ?_)
    have h := ts_lt h hu7
    refine tv_aload_n C (pc := 30) dX5_appendOperation_30 rfl rfl ?_
    refine tv_getR C (pc := 31) dX5_appendOperation_31 fl_X5_21 (ts_live (k := 11) (by decide) hb0 hi0) rfl rfl (i2 := (15, b0, i0)) rfl ?_
    refine tv_iload C (pc := 34) dX5_appendOperation_34 rfl ?_
    refine tv_iconst C (pc := 36) dX5_appendOperation_36 (v := (0 : Int32)) rfl ?_
    obtain ⟨hr8, h⟩ := ts_gd h
    refine tv_iastore C (pc := 37) dX5_appendOperation_37 (ts_live (k := 15) (by decide) hb0 hi0) rfl hr8 (j := x1.toNatClampNeg) rfl ?_
    refine tv_nu (fun u9 hu9 => ?_)
    have h := ts_lt h hu9
    refine tv_aload_n C (pc := 38) dX5_appendOperation_38 rfl rfl ?_
    refine tv_dup C (pc := 39) dX5_appendOperation_39 (fun _ => rfl) ?_
    refine tv_getI C (pc := 40) dX5_appendOperation_40 fl_X5_40 (ts_live (k := 11) (by decide) hb0 hi0) rfl (cd := 0) rfl (by decide) ?_
    refine tv_iconst C (pc := 43) dX5_appendOperation_43 (v := (1 : Int32)) rfl ?_
    refine tv_iadd C (pc := 44) dX5_appendOperation_44 ?_
    refine tv_putI C (pc := 45) dX5_appendOperation_45 fp_X5_40 (ts_live (k := 11) (by decide) hb0 hi0) rfl (cd := 0) rfl (by decide) rfl rfl ?_
    refine tv_nu (fun u10 hu10 => ?_)
    have h := ts_lt h hu10
    refine tv_iload C (pc := 48) dX5_appendOperation_48 rfl ?_
    cases h
    exact tv_iret C (pc := 50) rfl dX5_appendOperation_50 ⟨Nat.le_of_ble_eq_true rfl, Nat.le_of_ble_eq_true rfl⟩
set_option maxRecDepth 100000 in
set_option maxHeartbeats 4000000 in
theorem m_X5_isUncommitted {l : Launch} {D : va_G} {dT : Nat → ClassId} {sz : Nat} {ad : ts_I → Nat} (hl : l.stackTraces = false) (b0 : Nat) (hb0 : b0 < 2) (i0 : Nat) (hi0 : i0 < 16) (u : ts_Mem) (r : Int32) (h : f_X5_isUncommitted b0 i0 u = some r) : ts_M l D dT sz yX5_isUncommitted wX5_isUncommitted 0 0 0 ad ts_lv ts_R0 [.inr (11, b0, i0)] u (.inl (some (.int r))) u := by
    unfold f_X5_isUncommitted at h
    refine ts_enter hl (by decide) rfl rfl (Nat.le_of_ble_eq_true rfl) ?_
    intro p e s m args below meth c C hX hnm
    have C : ts_CX D dT sz p l (ts_rm 0 0 0) s m args meth c RX5 cX5_isUncommitted 1 (some .boolean) 0 := C
    have hdd : 0 ≤ 0 := Nat.le_refl _
    refine tv_aload_n C (pc := 0) dX5_isUncommitted_0 rfl rfl ?_
    refine tv_getI C (pc := 1) dX5_isUncommitted_1 fl_X5_24 (ts_live (k := 11) (by decide) hb0 hi0) rfl (cd := 0) rfl (by decide) ?_
    refine tv_if_eq C (pc := 4) 15 dX5_isUncommitted_4 (by decide) (fun hc => ?_) (fun hc => ?_)
    · have h := ts_ifp h hc
      refine tv_iconst C (pc := 15) dX5_isUncommitted_15 (v := (1 : Int32)) rfl ?_
      refine tv_goto C (pc := 16) 20 dX5_isUncommitted_16 (by decide) ?_
      cases h
      exact tv_zret C (pc := 20) (v := (1 : Int32)) rfl ts_nz1 dX5_isUncommitted_20 ⟨Nat.le_of_ble_eq_true rfl, Nat.le_of_ble_eq_true rfl⟩
    · have h := ts_ifn h hc
      refine tv_aload_n C (pc := 7) dX5_isUncommitted_7 rfl rfl ?_
      refine tv_getI C (pc := 8) dX5_isUncommitted_8 fl_X5_24 (ts_live (k := 11) (by decide) hb0 hi0) rfl (cd := 0) rfl (by decide) ?_
      refine tv_iconst C (pc := 11) dX5_isUncommitted_11 (v := (1 : Int32)) rfl ?_
      refine tv_icmp_ne C (pc := 12) 19 dX5_isUncommitted_12 (by decide) (fun hc => ?_) (fun hc => ?_)
      · have h := ts_ifn h hc
        refine tv_iconst C (pc := 19) dX5_isUncommitted_19 (v := (0 : Int32)) rfl ?_
        cases h
        exact tv_zret C (pc := 20) (v := (0 : Int32)) rfl ts_nz0 dX5_isUncommitted_20 ⟨Nat.le_of_ble_eq_true rfl, Nat.le_of_ble_eq_true rfl⟩
      · have h := ts_ifp h hc
        refine tv_iconst C (pc := 15) dX5_isUncommitted_15 (v := (1 : Int32)) rfl ?_
        refine tv_goto C (pc := 16) 20 dX5_isUncommitted_16 (by decide) ?_
        cases h
        exact tv_zret C (pc := 20) (v := (1 : Int32)) rfl ts_nz1 dX5_isUncommitted_20 ⟨Nat.le_of_ble_eq_true rfl, Nat.le_of_ble_eq_true rfl⟩
set_option maxRecDepth 100000 in
set_option maxHeartbeats 4000000 in
theorem m_X5_endByAbort {l : Launch} {D : va_G} {dT : Nat → ClassId} {sz : Nat} {ad : ts_I → Nat} (hl : l.stackTraces = false) (b0 : Nat) (hb0 : b0 < 2) (i0 : Nat) (hi0 : i0 < 16) (u : ts_Mem) (r : ts_Mem) (h : f_X5_endByAbort b0 i0 u = some r) : ts_M l D dT sz yX5_endByAbort wX5_endByAbort 0 0 0 ad ts_lv ts_R0 [.inr (11, b0, i0)] u (.inl none) r := by
    unfold f_X5_endByAbort at h
    refine ts_enter hl (by decide) rfl rfl (Nat.le_of_ble_eq_true rfl) ?_
    intro p e s m args below meth c C hX hnm
    have C : ts_CX D dT sz p l (ts_rm 0 0 0) s m args meth c RX5 cX5_endByAbort 1 none 0 := C
    have hdd : 0 ≤ 0 := Nat.le_refl _
    refine tv_aload_n C (pc := 0) dX5_endByAbort_0 rfl rfl ?_
    refine tv_iconst C (pc := 1) dX5_endByAbort_1 (v := (3 : Int32)) rfl ?_
    refine tv_putI C (pc := 2) dX5_endByAbort_2 fp_X5_24 (ts_live (k := 11) (by decide) hb0 hi0) rfl (cd := 0) rfl (by decide) rfl rfl ?_
    refine tv_nu (fun u1 hu1 => ?_)
    have h := ts_lt h hu1
    refine tv_aload_n C (pc := 5) dX5_endByAbort_5 rfl rfl ?_
    refine tv_iconst C (pc := 6) dX5_endByAbort_6 (v := (0 : Int32)) rfl ?_
    refine tv_putI C (pc := 7) dX5_endByAbort_7 fp_X5_37 (ts_live (k := 11) (by decide) hb0 hi0) rfl (cd := 0) rfl (by decide) rfl rfl ?_
    refine tv_nu (fun u2 hu2 => ?_)
    have h := ts_lt h hu2
    refine tv_aload_n C (pc := 10) dX5_endByAbort_10 rfl rfl ?_
    refine tv_dup C (pc := 11) dX5_endByAbort_11 (fun _ => rfl) ?_
    refine tv_getI C (pc := 12) dX5_endByAbort_12 fl_X5_34 (ts_live (k := 11) (by decide) hb0 hi0) rfl (cd := 0) rfl (by decide) ?_
    refine tv_iconst C (pc := 15) dX5_endByAbort_15 (v := (1 : Int32)) rfl ?_
    refine tv_iadd C (pc := 16) dX5_endByAbort_16 ?_
    refine tv_putI C (pc := 17) dX5_endByAbort_17 fp_X5_34 (ts_live (k := 11) (by decide) hb0 hi0) rfl (cd := 0) rfl (by decide) rfl rfl ?_
    refine tv_nu (fun u3 hu3 => ?_)
    have h := ts_lt h hu3
    cases h
    exact tv_vret C (pc := 20) rfl dX5_endByAbort_20 ⟨Nat.le_of_ble_eq_true rfl, Nat.le_of_ble_eq_true rfl⟩
set_option maxRecDepth 100000 in
set_option maxHeartbeats 4000000 in
theorem m_X5_goesBefore {l : Launch} {D : va_G} {dT : Nat → ClassId} {sz : Nat} {ad : ts_I → Nat} (hl : l.stackTraces = false) (b0 : Nat) (hb0 : b0 < 2) (i0 : Nat) (hi0 : i0 < 16) (b1 : Nat) (hb1 : b1 < 2) (i1 : Nat) (hi1 : i1 < 16) (u : ts_Mem) (r : Int32) (h : f_X5_goesBefore b0 i0 b1 i1 u = some r) : ts_M l D dT sz yX5_goesBefore wX5_goesBefore 0 0 0 ad ts_lv ts_R0 [.inr (11, b0, i0), .inr (11, b1, i1)] u (.inl (some (.int r))) u := by
    unfold f_X5_goesBefore at h
    refine ts_enter hl (by decide) rfl rfl (Nat.le_of_ble_eq_true rfl) ?_
    intro p e s m args below meth c C hX hnm
    have C : ts_CX D dT sz p l (ts_rm 0 0 0) s m args meth c RX5 cX5_goesBefore 2 (some .boolean) 0 := C
    have hdd : 0 ≤ 0 := Nat.le_refl _
    refine tv_aload_n C (pc := 0) dX5_goesBefore_0 rfl rfl ?_
    refine tv_getI C (pc := 1) dX5_goesBefore_1 fl_X5_31 (ts_live (k := 11) (by decide) hb0 hi0) rfl (cd := 0) rfl (by decide) ?_
    refine tv_aload_n C (pc := 4) dX5_goesBefore_4 rfl rfl ?_
    refine tv_getI C (pc := 5) dX5_goesBefore_5 fl_X5_31 (ts_live (k := 11) (by decide) hb1 hi1) rfl (cd := 0) rfl (by decide) ?_
    refine tv_icmp_eq C (pc := 8) 28 dX5_goesBefore_8 (by decide) (fun hc => ?_) (fun hc => ?_)
    · have h := ts_ifp h hc
      refine tv_aload_n C (pc := 28) dX5_goesBefore_28 rfl rfl ?_
      refine tv_getI C (pc := 29) dX5_goesBefore_29 fl_X5_34 (ts_live (k := 11) (by decide) hb0 hi0) rfl (cd := 0) rfl (by decide) ?_
      refine tv_aload_n C (pc := 32) dX5_goesBefore_32 rfl rfl ?_
      refine tv_getI C (pc := 33) dX5_goesBefore_33 fl_X5_34 (ts_live (k := 11) (by decide) hb1 hi1) rfl (cd := 0) rfl (by decide) ?_
      refine tv_icmp_le C (pc := 36) 43 dX5_goesBefore_36 (by decide) (fun hc => ?_) (fun hc => ?_)
      · have h := ts_ifp h hc
        refine tv_iconst C (pc := 43) dX5_goesBefore_43 (v := (0 : Int32)) rfl ?_
        cases h
        exact tv_zret C (pc := 44) (v := (0 : Int32)) rfl ts_nz0 dX5_goesBefore_44 ⟨Nat.le_of_ble_eq_true rfl, Nat.le_of_ble_eq_true rfl⟩
      · have h := ts_ifn h hc
        refine tv_iconst C (pc := 39) dX5_goesBefore_39 (v := (1 : Int32)) rfl ?_
        refine tv_goto C (pc := 40) 44 dX5_goesBefore_40 (by decide) ?_
        cases h
        exact tv_zret C (pc := 44) (v := (1 : Int32)) rfl ts_nz1 dX5_goesBefore_44 ⟨Nat.le_of_ble_eq_true rfl, Nat.le_of_ble_eq_true rfl⟩
    · have h := ts_ifn h hc
      refine tv_aload_n C (pc := 11) dX5_goesBefore_11 rfl rfl ?_
      refine tv_getI C (pc := 12) dX5_goesBefore_12 fl_X5_31 (ts_live (k := 11) (by decide) hb0 hi0) rfl (cd := 0) rfl (by decide) ?_
      refine tv_aload_n C (pc := 15) dX5_goesBefore_15 rfl rfl ?_
      refine tv_getI C (pc := 16) dX5_goesBefore_16 fl_X5_31 (ts_live (k := 11) (by decide) hb1 hi1) rfl (cd := 0) rfl (by decide) ?_
      refine tv_icmp_le C (pc := 19) 26 dX5_goesBefore_19 (by decide) (fun hc => ?_) (fun hc => ?_)
      · have h := ts_ifp h hc
        refine tv_iconst C (pc := 26) dX5_goesBefore_26 (v := (0 : Int32)) rfl ?_
        cases h
        exact tv_zret C (pc := 27) (v := (0 : Int32)) rfl ts_nz0 dX5_goesBefore_27 ⟨Nat.le_of_ble_eq_true rfl, Nat.le_of_ble_eq_true rfl⟩
      · have h := ts_ifn h hc
        refine tv_iconst C (pc := 22) dX5_goesBefore_22 (v := (1 : Int32)) rfl ?_
        refine tv_goto C (pc := 23) 27 dX5_goesBefore_23 (by decide) ?_
        cases h
        exact tv_zret C (pc := 27) (v := (1 : Int32)) rfl ts_nz1 dX5_goesBefore_27 ⟨Nat.le_of_ble_eq_true rfl, Nat.le_of_ble_eq_true rfl⟩
set_option maxRecDepth 100000 in
set_option maxHeartbeats 4000000 in
theorem lt_X5_executeSerially_4 {D : va_G} {dT : Nat → ClassId} {sz : Nat} {p : Program} {l : Launch} {e : Env} {R : Room} {s : State} {m : MethodId} {args : Array Value} {below : List Frame} {meth : Method} {c : Code} {d : Nat} {ad : ts_I → Nat} {kk nn : Nat} {Q : State → Prop} (hl : l.stackTraces = false) (C : ts_CX D dT sz p l R s m args meth c RX5 cX5_executeSerially 5 (some .int) d) (hdd : 0 ≤ d) (b0 : Nat) (hb0 : b0 < 2) (i0 : Nat) (hi0 : i0 < 16) (b1 : Nat) (hb1 : b1 < 2) (hkn : kk ≤ R.cells ∧ nn ≤ R.slots) : ∀ (n : Nat) (v2 : Int32) (v3 : Int32) (u : ts_Mem) (q : (Int32 × Int32 × ts_Mem)) (h : lp_X5_executeSerially_4 b0 i0 b1 n v2 v3 u = some q) (K : ts_V D dT sz p l e R s m args below meth c 5 Q ad ts_lv ts_R0 98 [some (.inr (11, b0, i0)), some (.inr (5, b1, 0)), some (.inl (.int q.1)), some (.inl (.int q.2.1)), none] [] q.2.2 kk nn), ts_V D dT sz p l e R s m args below meth c 5 Q ad ts_lv ts_R0 4 [some (.inr (11, b0, i0)), some (.inr (5, b1, 0)), some (.inl (.int v2)), some (.inl (.int v3)), none] [] u kk nn
  | 0, _, _, _, _, h, _ => by cases h
  | n + 1, v2, v3, u, q, h, K => by
      rw [lp_X5_executeSerially_4] at h
      refine tv_iload_n C (pc := 4) dX5_executeSerially_4 rfl rfl ?_
      refine tv_aload_n C (pc := 5) dX5_executeSerially_5 rfl rfl ?_
      refine tv_getI C (pc := 6) dX5_executeSerially_6 fl_X5_40 (ts_live (k := 11) (by decide) hb0 hi0) rfl (cd := 0) rfl (by decide) ?_
      refine tv_icmp_ge C (pc := 9) 98 dX5_executeSerially_9 (by decide) (fun hc => ?_) (fun hc => ?_)
      · have h := ts_ifp h hc
        cases h
        exact K
      · have h := ts_ifn h hc
        refine tv_aload_n C (pc := 12) dX5_executeSerially_12 rfl rfl ?_
        refine tv_getR C (pc := 13) dX5_executeSerially_13 fl_X5_15 (ts_live (k := 11) (by decide) hb0 hi0) rfl rfl (i2 := (13, b0, i0)) rfl ?_
        refine tv_iload_n C (pc := 16) dX5_executeSerially_16 rfl rfl ?_
        obtain ⟨hr1, h⟩ := ts_gd h
        refine tv_iaload C (pc := 17) dX5_executeSerially_17 (ts_live (k := 13) (by decide) hb0 hi0) rfl hr1 (j := v3.toNatClampNeg) rfl ?_
        refine tv_nmI (fun x2 hx2 => ?_)
        have h := ts_lt h hx2
        refine tv_istore C (pc := 18) dX5_executeSerially_18 (L' := [some (.inr (11, b0, i0)), some (.inr (5, b1, 0)), some (.inl (.int v2)), some (.inl (.int v3)), some (.inl (.int x2))]) (by decide) rfl rfl ?_
        refine tv_aload_n C (pc := 20) dX5_executeSerially_20 rfl rfl ?_
        refine tv_getR C (pc := 21) dX5_executeSerially_21 fl_X5_9 (ts_live (k := 11) (by decide) hb0 hi0) rfl rfl (i2 := (12, b0, i0)) rfl ?_
        refine tv_iload_n C (pc := 24) dX5_executeSerially_24 rfl rfl ?_
        obtain ⟨hr3, h⟩ := ts_gd h
        refine tv_iaload C (pc := 25) dX5_executeSerially_25 (ts_live (k := 12) (by decide) hb0 hi0) rfl hr3 (j := v3.toNatClampNeg) rfl ?_
        refine tv_iconst C (pc := 26) dX5_executeSerially_26 (v := (1 : Int32)) rfl ?_
        refine tv_icmp_eq C (pc := 27) 46 dX5_executeSerially_27 (by decide) (fun hc => ?_) (fun hc => ?_)
        · have h := ts_ifp h hc
          refine tv_aload_n C (pc := 46) dX5_executeSerially_46 rfl rfl ?_
          refine tv_getR C (pc := 47) dX5_executeSerially_47 fl_X5_9 (ts_live (k := 11) (by decide) hb0 hi0) rfl rfl (i2 := (12, b0, i0)) rfl ?_
          refine tv_iload_n C (pc := 50) dX5_executeSerially_50 rfl rfl ?_
          obtain ⟨hr4, h⟩ := ts_gd h
          refine tv_iaload C (pc := 51) dX5_executeSerially_51 (ts_live (k := 12) (by decide) hb0 hi0) rfl hr4 (j := v3.toNatClampNeg) rfl ?_
          refine tv_iconst C (pc := 52) dX5_executeSerially_52 (v := (1 : Int32)) rfl ?_
          refine tv_icmp_ne C (pc := 53) 69 dX5_executeSerially_53 (by decide) (fun hc => ?_) (fun hc => ?_)
          · have h := ts_ifn h hc
            refine tv_aload_n C (pc := 69) dX5_executeSerially_69 rfl rfl ?_
            refine tv_getR C (pc := 70) dX5_executeSerially_70 fl_X5_9 (ts_live (k := 11) (by decide) hb0 hi0) rfl rfl (i2 := (12, b0, i0)) rfl ?_
            refine tv_iload_n C (pc := 73) dX5_executeSerially_73 rfl rfl ?_
            obtain ⟨hr5, h⟩ := ts_gd h
            refine tv_iaload C (pc := 74) dX5_executeSerially_74 (ts_live (k := 12) (by decide) hb0 hi0) rfl hr5 (j := v3.toNatClampNeg) rfl ?_
            refine tv_iconst C (pc := 75) dX5_executeSerially_75 (v := (2 : Int32)) rfl ?_
            refine tv_icmp_ne C (pc := 76) 92 dX5_executeSerially_76 (by decide) (fun hc => ?_) (fun hc => ?_)
            · have h := ts_ifn h hc
              refine tv_iinc C (pc := 92) dX5_executeSerially_92 (v := (v3 + (1 : Int32))) (L' := [some (.inr (11, b0, i0)), some (.inr (5, b1, 0)), some (.inl (.int v2)), some (.inl (.int (v3 + (1 : Int32)))), some (.inl (.int x2))]) rfl rfl (by decide) rfl rfl ?_
              refine tv_goto C (pc := 95) 4 dX5_executeSerially_95 (by decide) ?_
              refine tv_drop 4 (L' := [some (.inr (11, b0, i0)), some (.inr (5, b1, 0)), some (.inl (.int v2)), some (.inl (.int (v3 + (1 : Int32)))), none]) rfl ?_
              exact lt_X5_executeSerially_4 hl C hdd b0 hb0 i0 hi0 b1 hb1 hkn n v2 (v3 + (1 : Int32)) u q h K
            · have h := ts_ifp h hc
              refine tv_aload_n C (pc := 79) dX5_executeSerially_79 rfl rfl ?_
              refine tv_iload C (pc := 80) dX5_executeSerially_80 rfl ?_
              refine tv_dup2 C (pc := 82) dX5_executeSerially_82 (fun _ => ⟨rfl, rfl⟩) ?_
              obtain ⟨hr6, h⟩ := ts_gd h
              refine tv_iaload C (pc := 83) dX5_executeSerially_83 (ts_live (k := 5) (by decide) hb1 (by decide)) rfl hr6 (j := x2.toNatClampNeg) rfl ?_
              refine tv_aload_n C (pc := 84) dX5_executeSerially_84 rfl rfl ?_
              refine tv_getR C (pc := 85) dX5_executeSerially_85 fl_X5_18 (ts_live (k := 11) (by decide) hb0 hi0) rfl rfl (i2 := (14, b0, i0)) rfl ?_
              refine tv_iload_n C (pc := 88) dX5_executeSerially_88 rfl rfl ?_
              obtain ⟨hr7, h⟩ := ts_gd h
              refine tv_iaload C (pc := 89) dX5_executeSerially_89 (ts_live (k := 14) (by decide) hb0 hi0) rfl hr7 (j := v3.toNatClampNeg) rfl ?_
              refine tv_iadd C (pc := 90) dX5_executeSerially_90 ?_
              obtain ⟨hr8, h⟩ := ts_gd h
              refine tv_iastore C (pc := 91) dX5_executeSerially_91 (ts_live (k := 5) (by decide) hb1 (by decide)) rfl hr8 (j := x2.toNatClampNeg) rfl ?_
              refine tv_nu (fun u9 hu9 => ?_)
              have h := ts_lt h hu9
              refine tv_iinc C (pc := 92) dX5_executeSerially_92 (v := (v3 + (1 : Int32))) (L' := [some (.inr (11, b0, i0)), some (.inr (5, b1, 0)), some (.inl (.int v2)), some (.inl (.int (v3 + (1 : Int32)))), some (.inl (.int x2))]) rfl rfl (by decide) rfl rfl ?_
              refine tv_goto C (pc := 95) 4 dX5_executeSerially_95 (by decide) ?_
              refine tv_drop 4 (L' := [some (.inr (11, b0, i0)), some (.inr (5, b1, 0)), some (.inl (.int v2)), some (.inl (.int (v3 + (1 : Int32)))), none]) rfl ?_
              exact lt_X5_executeSerially_4 hl C hdd b0 hb0 i0 hi0 b1 hb1 hkn n v2 (v3 + (1 : Int32)) u9 q h K
          · have h := ts_ifp h hc
            refine tv_aload_n C (pc := 56) dX5_executeSerially_56 rfl rfl ?_
            refine tv_iload C (pc := 57) dX5_executeSerially_57 rfl ?_
            refine tv_aload_n C (pc := 59) dX5_executeSerially_59 rfl rfl ?_
            refine tv_getR C (pc := 60) dX5_executeSerially_60 fl_X5_18 (ts_live (k := 11) (by decide) hb0 hi0) rfl rfl (i2 := (14, b0, i0)) rfl ?_
            refine tv_iload_n C (pc := 63) dX5_executeSerially_63 rfl rfl ?_
            obtain ⟨hr10, h⟩ := ts_gd h
            refine tv_iaload C (pc := 64) dX5_executeSerially_64 (ts_live (k := 14) (by decide) hb0 hi0) rfl hr10 (j := v3.toNatClampNeg) rfl ?_
            obtain ⟨hr11, h⟩ := ts_gd h
            refine tv_iastore C (pc := 65) dX5_executeSerially_65 (ts_live (k := 5) (by decide) hb1 (by decide)) rfl hr11 (j := x2.toNatClampNeg) rfl ?_
            refine tv_nu (fun u12 hu12 => ?_)
            have h := ts_lt h hu12
            refine tv_goto C (pc := 66) 92 dX5_executeSerially_66 (by decide) ?_
            refine tv_iinc C (pc := 92) dX5_executeSerially_92 (v := (v3 + (1 : Int32))) (L' := [some (.inr (11, b0, i0)), some (.inr (5, b1, 0)), some (.inl (.int v2)), some (.inl (.int (v3 + (1 : Int32)))), some (.inl (.int x2))]) rfl rfl (by decide) rfl rfl ?_
            refine tv_goto C (pc := 95) 4 dX5_executeSerially_95 (by decide) ?_
            refine tv_drop 4 (L' := [some (.inr (11, b0, i0)), some (.inr (5, b1, 0)), some (.inl (.int v2)), some (.inl (.int (v3 + (1 : Int32)))), none]) rfl ?_
            exact lt_X5_executeSerially_4 hl C hdd b0 hb0 i0 hi0 b1 hb1 hkn n v2 (v3 + (1 : Int32)) u12 q h K
        · have h := ts_ifn h hc
          refine tv_aload_n C (pc := 30) dX5_executeSerially_30 rfl rfl ?_
          refine tv_getR C (pc := 31) dX5_executeSerially_31 fl_X5_21 (ts_live (k := 11) (by decide) hb0 hi0) rfl rfl (i2 := (15, b0, i0)) rfl ?_
          refine tv_iload_n C (pc := 34) dX5_executeSerially_34 rfl rfl ?_
          obtain ⟨hr13, h⟩ := ts_gd h
          refine tv_iaload C (pc := 35) dX5_executeSerially_35 (ts_live (k := 15) (by decide) hb0 hi0) rfl hr13 (j := v3.toNatClampNeg) rfl ?_
          refine tv_aload_n C (pc := 36) dX5_executeSerially_36 rfl rfl ?_
          refine tv_iload C (pc := 37) dX5_executeSerially_37 rfl ?_
          obtain ⟨hr14, h⟩ := ts_gd h
          refine tv_iaload C (pc := 39) dX5_executeSerially_39 (ts_live (k := 5) (by decide) hb1 (by decide)) rfl hr14 (j := x2.toNatClampNeg) rfl ?_
          refine tv_icmp_eq C (pc := 40) 46 dX5_executeSerially_40 (by decide) (fun hc => ?_) (fun hc => ?_)
          · have h := ts_ifp h hc
            refine tv_aload_n C (pc := 46) dX5_executeSerially_46 rfl rfl ?_
            refine tv_getR C (pc := 47) dX5_executeSerially_47 fl_X5_9 (ts_live (k := 11) (by decide) hb0 hi0) rfl rfl (i2 := (12, b0, i0)) rfl ?_
            refine tv_iload_n C (pc := 50) dX5_executeSerially_50 rfl rfl ?_
            obtain ⟨hr15, h⟩ := ts_gd h
            refine tv_iaload C (pc := 51) dX5_executeSerially_51 (ts_live (k := 12) (by decide) hb0 hi0) rfl hr15 (j := v3.toNatClampNeg) rfl ?_
            refine tv_iconst C (pc := 52) dX5_executeSerially_52 (v := (1 : Int32)) rfl ?_
            refine tv_icmp_ne C (pc := 53) 69 dX5_executeSerially_53 (by decide) (fun hc => ?_) (fun hc => ?_)
            · have h := ts_ifn h hc
              refine tv_aload_n C (pc := 69) dX5_executeSerially_69 rfl rfl ?_
              refine tv_getR C (pc := 70) dX5_executeSerially_70 fl_X5_9 (ts_live (k := 11) (by decide) hb0 hi0) rfl rfl (i2 := (12, b0, i0)) rfl ?_
              refine tv_iload_n C (pc := 73) dX5_executeSerially_73 rfl rfl ?_
              obtain ⟨hr16, h⟩ := ts_gd h
              refine tv_iaload C (pc := 74) dX5_executeSerially_74 (ts_live (k := 12) (by decide) hb0 hi0) rfl hr16 (j := v3.toNatClampNeg) rfl ?_
              refine tv_iconst C (pc := 75) dX5_executeSerially_75 (v := (2 : Int32)) rfl ?_
              refine tv_icmp_ne C (pc := 76) 92 dX5_executeSerially_76 (by decide) (fun hc => ?_) (fun hc => ?_)
              · have h := ts_ifn h hc
                refine tv_iinc C (pc := 92) dX5_executeSerially_92 (v := (v3 + (1 : Int32))) (L' := [some (.inr (11, b0, i0)), some (.inr (5, b1, 0)), some (.inl (.int v2)), some (.inl (.int (v3 + (1 : Int32)))), some (.inl (.int x2))]) rfl rfl (by decide) rfl rfl ?_
                refine tv_goto C (pc := 95) 4 dX5_executeSerially_95 (by decide) ?_
                refine tv_drop 4 (L' := [some (.inr (11, b0, i0)), some (.inr (5, b1, 0)), some (.inl (.int v2)), some (.inl (.int (v3 + (1 : Int32)))), none]) rfl ?_
                exact lt_X5_executeSerially_4 hl C hdd b0 hb0 i0 hi0 b1 hb1 hkn n v2 (v3 + (1 : Int32)) u q h K
              · have h := ts_ifp h hc
                refine tv_aload_n C (pc := 79) dX5_executeSerially_79 rfl rfl ?_
                refine tv_iload C (pc := 80) dX5_executeSerially_80 rfl ?_
                refine tv_dup2 C (pc := 82) dX5_executeSerially_82 (fun _ => ⟨rfl, rfl⟩) ?_
                obtain ⟨hr17, h⟩ := ts_gd h
                refine tv_iaload C (pc := 83) dX5_executeSerially_83 (ts_live (k := 5) (by decide) hb1 (by decide)) rfl hr17 (j := x2.toNatClampNeg) rfl ?_
                refine tv_aload_n C (pc := 84) dX5_executeSerially_84 rfl rfl ?_
                refine tv_getR C (pc := 85) dX5_executeSerially_85 fl_X5_18 (ts_live (k := 11) (by decide) hb0 hi0) rfl rfl (i2 := (14, b0, i0)) rfl ?_
                refine tv_iload_n C (pc := 88) dX5_executeSerially_88 rfl rfl ?_
                obtain ⟨hr18, h⟩ := ts_gd h
                refine tv_iaload C (pc := 89) dX5_executeSerially_89 (ts_live (k := 14) (by decide) hb0 hi0) rfl hr18 (j := v3.toNatClampNeg) rfl ?_
                refine tv_iadd C (pc := 90) dX5_executeSerially_90 ?_
                obtain ⟨hr19, h⟩ := ts_gd h
                refine tv_iastore C (pc := 91) dX5_executeSerially_91 (ts_live (k := 5) (by decide) hb1 (by decide)) rfl hr19 (j := x2.toNatClampNeg) rfl ?_
                refine tv_nu (fun u20 hu20 => ?_)
                have h := ts_lt h hu20
                refine tv_iinc C (pc := 92) dX5_executeSerially_92 (v := (v3 + (1 : Int32))) (L' := [some (.inr (11, b0, i0)), some (.inr (5, b1, 0)), some (.inl (.int v2)), some (.inl (.int (v3 + (1 : Int32)))), some (.inl (.int x2))]) rfl rfl (by decide) rfl rfl ?_
                refine tv_goto C (pc := 95) 4 dX5_executeSerially_95 (by decide) ?_
                refine tv_drop 4 (L' := [some (.inr (11, b0, i0)), some (.inr (5, b1, 0)), some (.inl (.int v2)), some (.inl (.int (v3 + (1 : Int32)))), none]) rfl ?_
                exact lt_X5_executeSerially_4 hl C hdd b0 hb0 i0 hi0 b1 hb1 hkn n v2 (v3 + (1 : Int32)) u20 q h K
            · have h := ts_ifp h hc
              refine tv_aload_n C (pc := 56) dX5_executeSerially_56 rfl rfl ?_
              refine tv_iload C (pc := 57) dX5_executeSerially_57 rfl ?_
              refine tv_aload_n C (pc := 59) dX5_executeSerially_59 rfl rfl ?_
              refine tv_getR C (pc := 60) dX5_executeSerially_60 fl_X5_18 (ts_live (k := 11) (by decide) hb0 hi0) rfl rfl (i2 := (14, b0, i0)) rfl ?_
              refine tv_iload_n C (pc := 63) dX5_executeSerially_63 rfl rfl ?_
              obtain ⟨hr21, h⟩ := ts_gd h
              refine tv_iaload C (pc := 64) dX5_executeSerially_64 (ts_live (k := 14) (by decide) hb0 hi0) rfl hr21 (j := v3.toNatClampNeg) rfl ?_
              obtain ⟨hr22, h⟩ := ts_gd h
              refine tv_iastore C (pc := 65) dX5_executeSerially_65 (ts_live (k := 5) (by decide) hb1 (by decide)) rfl hr22 (j := x2.toNatClampNeg) rfl ?_
              refine tv_nu (fun u23 hu23 => ?_)
              have h := ts_lt h hu23
              refine tv_goto C (pc := 66) 92 dX5_executeSerially_66 (by decide) ?_
              refine tv_iinc C (pc := 92) dX5_executeSerially_92 (v := (v3 + (1 : Int32))) (L' := [some (.inr (11, b0, i0)), some (.inr (5, b1, 0)), some (.inl (.int v2)), some (.inl (.int (v3 + (1 : Int32)))), some (.inl (.int x2))]) rfl rfl (by decide) rfl rfl ?_
              refine tv_goto C (pc := 95) 4 dX5_executeSerially_95 (by decide) ?_
              refine tv_drop 4 (L' := [some (.inr (11, b0, i0)), some (.inr (5, b1, 0)), some (.inl (.int v2)), some (.inl (.int (v3 + (1 : Int32)))), none]) rfl ?_
              exact lt_X5_executeSerially_4 hl C hdd b0 hb0 i0 hi0 b1 hb1 hkn n v2 (v3 + (1 : Int32)) u23 q h K
          · have h := ts_ifn h hc
            refine tv_iinc C (pc := 43) dX5_executeSerially_43 (v := (v2 + (1 : Int32))) (L' := [some (.inr (11, b0, i0)), some (.inr (5, b1, 0)), some (.inl (.int (v2 + (1 : Int32)))), some (.inl (.int v3)), some (.inl (.int x2))]) rfl rfl (by decide) rfl rfl ?_
            refine tv_aload_n C (pc := 46) dX5_executeSerially_46 rfl rfl ?_
            refine tv_getR C (pc := 47) dX5_executeSerially_47 fl_X5_9 (ts_live (k := 11) (by decide) hb0 hi0) rfl rfl (i2 := (12, b0, i0)) rfl ?_
            refine tv_iload_n C (pc := 50) dX5_executeSerially_50 rfl rfl ?_
            obtain ⟨hr24, h⟩ := ts_gd h
            refine tv_iaload C (pc := 51) dX5_executeSerially_51 (ts_live (k := 12) (by decide) hb0 hi0) rfl hr24 (j := v3.toNatClampNeg) rfl ?_
            refine tv_iconst C (pc := 52) dX5_executeSerially_52 (v := (1 : Int32)) rfl ?_
            refine tv_icmp_ne C (pc := 53) 69 dX5_executeSerially_53 (by decide) (fun hc => ?_) (fun hc => ?_)
            · have h := ts_ifn h hc
              refine tv_aload_n C (pc := 69) dX5_executeSerially_69 rfl rfl ?_
              refine tv_getR C (pc := 70) dX5_executeSerially_70 fl_X5_9 (ts_live (k := 11) (by decide) hb0 hi0) rfl rfl (i2 := (12, b0, i0)) rfl ?_
              refine tv_iload_n C (pc := 73) dX5_executeSerially_73 rfl rfl ?_
              obtain ⟨hr25, h⟩ := ts_gd h
              refine tv_iaload C (pc := 74) dX5_executeSerially_74 (ts_live (k := 12) (by decide) hb0 hi0) rfl hr25 (j := v3.toNatClampNeg) rfl ?_
              refine tv_iconst C (pc := 75) dX5_executeSerially_75 (v := (2 : Int32)) rfl ?_
              refine tv_icmp_ne C (pc := 76) 92 dX5_executeSerially_76 (by decide) (fun hc => ?_) (fun hc => ?_)
              · have h := ts_ifn h hc
                refine tv_iinc C (pc := 92) dX5_executeSerially_92 (v := (v3 + (1 : Int32))) (L' := [some (.inr (11, b0, i0)), some (.inr (5, b1, 0)), some (.inl (.int (v2 + (1 : Int32)))), some (.inl (.int (v3 + (1 : Int32)))), some (.inl (.int x2))]) rfl rfl (by decide) rfl rfl ?_
                refine tv_goto C (pc := 95) 4 dX5_executeSerially_95 (by decide) ?_
                refine tv_drop 4 (L' := [some (.inr (11, b0, i0)), some (.inr (5, b1, 0)), some (.inl (.int (v2 + (1 : Int32)))), some (.inl (.int (v3 + (1 : Int32)))), none]) rfl ?_
                exact lt_X5_executeSerially_4 hl C hdd b0 hb0 i0 hi0 b1 hb1 hkn n (v2 + (1 : Int32)) (v3 + (1 : Int32)) u q h K
              · have h := ts_ifp h hc
                refine tv_aload_n C (pc := 79) dX5_executeSerially_79 rfl rfl ?_
                refine tv_iload C (pc := 80) dX5_executeSerially_80 rfl ?_
                refine tv_dup2 C (pc := 82) dX5_executeSerially_82 (fun _ => ⟨rfl, rfl⟩) ?_
                obtain ⟨hr26, h⟩ := ts_gd h
                refine tv_iaload C (pc := 83) dX5_executeSerially_83 (ts_live (k := 5) (by decide) hb1 (by decide)) rfl hr26 (j := x2.toNatClampNeg) rfl ?_
                refine tv_aload_n C (pc := 84) dX5_executeSerially_84 rfl rfl ?_
                refine tv_getR C (pc := 85) dX5_executeSerially_85 fl_X5_18 (ts_live (k := 11) (by decide) hb0 hi0) rfl rfl (i2 := (14, b0, i0)) rfl ?_
                refine tv_iload_n C (pc := 88) dX5_executeSerially_88 rfl rfl ?_
                obtain ⟨hr27, h⟩ := ts_gd h
                refine tv_iaload C (pc := 89) dX5_executeSerially_89 (ts_live (k := 14) (by decide) hb0 hi0) rfl hr27 (j := v3.toNatClampNeg) rfl ?_
                refine tv_iadd C (pc := 90) dX5_executeSerially_90 ?_
                obtain ⟨hr28, h⟩ := ts_gd h
                refine tv_iastore C (pc := 91) dX5_executeSerially_91 (ts_live (k := 5) (by decide) hb1 (by decide)) rfl hr28 (j := x2.toNatClampNeg) rfl ?_
                refine tv_nu (fun u29 hu29 => ?_)
                have h := ts_lt h hu29
                refine tv_iinc C (pc := 92) dX5_executeSerially_92 (v := (v3 + (1 : Int32))) (L' := [some (.inr (11, b0, i0)), some (.inr (5, b1, 0)), some (.inl (.int (v2 + (1 : Int32)))), some (.inl (.int (v3 + (1 : Int32)))), some (.inl (.int x2))]) rfl rfl (by decide) rfl rfl ?_
                refine tv_goto C (pc := 95) 4 dX5_executeSerially_95 (by decide) ?_
                refine tv_drop 4 (L' := [some (.inr (11, b0, i0)), some (.inr (5, b1, 0)), some (.inl (.int (v2 + (1 : Int32)))), some (.inl (.int (v3 + (1 : Int32)))), none]) rfl ?_
                exact lt_X5_executeSerially_4 hl C hdd b0 hb0 i0 hi0 b1 hb1 hkn n (v2 + (1 : Int32)) (v3 + (1 : Int32)) u29 q h K
            · have h := ts_ifp h hc
              refine tv_aload_n C (pc := 56) dX5_executeSerially_56 rfl rfl ?_
              refine tv_iload C (pc := 57) dX5_executeSerially_57 rfl ?_
              refine tv_aload_n C (pc := 59) dX5_executeSerially_59 rfl rfl ?_
              refine tv_getR C (pc := 60) dX5_executeSerially_60 fl_X5_18 (ts_live (k := 11) (by decide) hb0 hi0) rfl rfl (i2 := (14, b0, i0)) rfl ?_
              refine tv_iload_n C (pc := 63) dX5_executeSerially_63 rfl rfl ?_
              obtain ⟨hr30, h⟩ := ts_gd h
              refine tv_iaload C (pc := 64) dX5_executeSerially_64 (ts_live (k := 14) (by decide) hb0 hi0) rfl hr30 (j := v3.toNatClampNeg) rfl ?_
              obtain ⟨hr31, h⟩ := ts_gd h
              refine tv_iastore C (pc := 65) dX5_executeSerially_65 (ts_live (k := 5) (by decide) hb1 (by decide)) rfl hr31 (j := x2.toNatClampNeg) rfl ?_
              refine tv_nu (fun u32 hu32 => ?_)
              have h := ts_lt h hu32
              refine tv_goto C (pc := 66) 92 dX5_executeSerially_66 (by decide) ?_
              refine tv_iinc C (pc := 92) dX5_executeSerially_92 (v := (v3 + (1 : Int32))) (L' := [some (.inr (11, b0, i0)), some (.inr (5, b1, 0)), some (.inl (.int (v2 + (1 : Int32)))), some (.inl (.int (v3 + (1 : Int32)))), some (.inl (.int x2))]) rfl rfl (by decide) rfl rfl ?_
              refine tv_goto C (pc := 95) 4 dX5_executeSerially_95 (by decide) ?_
              refine tv_drop 4 (L' := [some (.inr (11, b0, i0)), some (.inr (5, b1, 0)), some (.inl (.int (v2 + (1 : Int32)))), some (.inl (.int (v3 + (1 : Int32)))), none]) rfl ?_
              exact lt_X5_executeSerially_4 hl C hdd b0 hb0 i0 hi0 b1 hb1 hkn n (v2 + (1 : Int32)) (v3 + (1 : Int32)) u32 q h K
set_option maxRecDepth 100000 in
set_option maxHeartbeats 4000000 in
theorem m_X5_executeSerially {l : Launch} {D : va_G} {dT : Nat → ClassId} {sz : Nat} {ad : ts_I → Nat} (hl : l.stackTraces = false) (b0 : Nat) (hb0 : b0 < 2) (i0 : Nat) (hi0 : i0 < 16) (b1 : Nat) (hb1 : b1 < 2) (u : ts_Mem) (r : (Int32 × ts_Mem)) (h : f_X5_executeSerially b0 i0 b1 u = some r) : ts_M l D dT sz yX5_executeSerially wX5_executeSerially 0 0 0 ad ts_lv ts_R0 [.inr (11, b0, i0), .inr (5, b1, 0)] u (.inl (some (.int r.1))) r.2 := by
    unfold f_X5_executeSerially at h
    refine ts_enter hl (by decide) rfl rfl (Nat.le_of_ble_eq_true rfl) ?_
    intro p e s m args below meth c C hX hnm
    have C : ts_CX D dT sz p l (ts_rm 0 0 0) s m args meth c RX5 cX5_executeSerially 5 (some .int) 0 := C
    have hdd : 0 ≤ 0 := Nat.le_refl _
    refine tv_iconst C (pc := 0) dX5_executeSerially_0 (v := (0 : Int32)) rfl ?_
    refine tv_istore_n C (pc := 1) dX5_executeSerially_1 (L' := [some (.inr (11, b0, i0)), some (.inr (5, b1, 0)), some (.inl (.int (0 : Int32))), none, none]) rfl (by decide) rfl rfl ?_
    refine tv_iconst C (pc := 2) dX5_executeSerially_2 (v := (0 : Int32)) rfl ?_
    refine tv_istore_n C (pc := 3) dX5_executeSerially_3 (L' := [some (.inr (11, b0, i0)), some (.inr (5, b1, 0)), some (.inl (.int (0 : Int32))), some (.inl (.int (0 : Int32))), none]) rfl (by decide) rfl rfl ?_
    obtain ⟨q33, hq33, h⟩ := ts_bd h
    refine lt_X5_executeSerially_4 hl C hdd b0 hb0 i0 hi0 b1 hb1 ⟨Nat.le_of_ble_eq_true rfl, Nat.le_of_ble_eq_true rfl⟩ ts_fu (0 : Int32) (0 : Int32) u q33 hq33 ?_
    refine tv_iload_n C (pc := 98) dX5_executeSerially_98 rfl rfl ?_
    cases h
    exact tv_iret C (pc := 99) rfl dX5_executeSerially_99 ⟨Nat.le_of_ble_eq_true rfl, Nat.le_of_ble_eq_true rfl⟩
set_option maxRecDepth 100000 in
set_option maxHeartbeats 4000000 in
theorem m_X5_property {l : Launch} {D : va_G} {dT : Nat → ClassId} {sz : Nat} {ad : ts_I → Nat} (hl : l.stackTraces = false) (b0 : Nat) (hb0 : b0 < 2) (i0 : Nat) (hi0 : i0 < 16) (p1 : Int32) (u : ts_Mem) (r : Int32) (h : f_X5_property b0 i0 p1 u = some r) : ts_M l D dT sz yX5_property wX5_property 0 0 0 ad ts_lv ts_R0 [.inr (11, b0, i0), .inl (.int p1)] u (.inl (some (.int r))) u := by
    unfold f_X5_property at h
    refine ts_enter hl (by decide) rfl rfl (Nat.le_of_ble_eq_true rfl) ?_
    intro p e s m args below meth c C hX hnm
    have C : ts_CX D dT sz p l (ts_rm 0 0 0) s m args meth c RX5 cX5_property 2 (some .int) 0 := C
    have hdd : 0 ≤ 0 := Nat.le_refl _
    refine tv_iload_n C (pc := 0) dX5_property_0 rfl rfl ?_
    by_cases hs1_0 : p1 = 0
    · have h := ts_ifp h hs1_0
      refine tv_tabIn C (pc := 1) 32 dX5_property_1 (by rw [hs1_0]; decide) (by rw [hs1_0]; decide) (off := 31) (by rw [hs1_0]; decide) (by decide) ?_
      refine tv_aload_n C (pc := 32) dX5_property_32 rfl rfl ?_
      refine tv_getI C (pc := 33) dX5_property_33 fl_X5_24 (ts_live (k := 11) (by decide) hb0 hi0) rfl (cd := 0) rfl (by decide) ?_
      cases h
      exact tv_iret C (pc := 36) rfl dX5_property_36 ⟨Nat.le_of_ble_eq_true rfl, Nat.le_of_ble_eq_true rfl⟩
    have h := ts_ifn h hs1_0
    by_cases hs1_1 : p1 = 1
    · have h := ts_ifp h hs1_1
      refine tv_tabIn C (pc := 1) 37 dX5_property_1 (by rw [hs1_1]; decide) (by rw [hs1_1]; decide) (off := 36) (by rw [hs1_1]; decide) (by decide) ?_
      refine tv_aload_n C (pc := 37) dX5_property_37 rfl rfl ?_
      refine tv_getI C (pc := 38) dX5_property_38 fl_X5_28 (ts_live (k := 11) (by decide) hb0 hi0) rfl (cd := 0) rfl (by decide) ?_
      cases h
      exact tv_iret C (pc := 41) rfl dX5_property_41 ⟨Nat.le_of_ble_eq_true rfl, Nat.le_of_ble_eq_true rfl⟩
    have h := ts_ifn h hs1_1
    by_cases hs1_2 : p1 = 2
    · have h := ts_ifp h hs1_2
      refine tv_tabIn C (pc := 1) 42 dX5_property_1 (by rw [hs1_2]; decide) (by rw [hs1_2]; decide) (off := 41) (by rw [hs1_2]; decide) (by decide) ?_
      refine tv_aload_n C (pc := 42) dX5_property_42 rfl rfl ?_
      refine tv_getI C (pc := 43) dX5_property_43 fl_X5_31 (ts_live (k := 11) (by decide) hb0 hi0) rfl (cd := 0) rfl (by decide) ?_
      cases h
      exact tv_iret C (pc := 46) rfl dX5_property_46 ⟨Nat.le_of_ble_eq_true rfl, Nat.le_of_ble_eq_true rfl⟩
    have h := ts_ifn h hs1_2
    by_cases hs1_3 : p1 = 3
    · have h := ts_ifp h hs1_3
      refine tv_tabIn C (pc := 1) 47 dX5_property_1 (by rw [hs1_3]; decide) (by rw [hs1_3]; decide) (off := 46) (by rw [hs1_3]; decide) (by decide) ?_
      refine tv_aload_n C (pc := 47) dX5_property_47 rfl rfl ?_
      refine tv_getI C (pc := 48) dX5_property_48 fl_X5_34 (ts_live (k := 11) (by decide) hb0 hi0) rfl (cd := 0) rfl (by decide) ?_
      cases h
      exact tv_iret C (pc := 51) rfl dX5_property_51 ⟨Nat.le_of_ble_eq_true rfl, Nat.le_of_ble_eq_true rfl⟩
    have h := ts_ifn h hs1_3
    refine tv_tabOut C (pc := 1) 52 dX5_property_1 (ts_tab 4 (by decide) (fun j hj => match j, hj with | 0, _ => hs1_0 | 1, _ => hs1_1 | 2, _ => hs1_2 | 3, _ => hs1_3 | j + 4, hj => absurd hj (by omega)) (by decide)) (by decide) ?_
    refine tv_aload_n C (pc := 52) dX5_property_52 rfl rfl ?_
    refine tv_getI C (pc := 53) dX5_property_53 fl_X5_40 (ts_live (k := 11) (by decide) hb0 hi0) rfl (cd := 0) rfl (by decide) ?_
    cases h
    exact tv_iret C (pc := 56) rfl dX5_property_56 ⟨Nat.le_of_ble_eq_true rfl, Nat.le_of_ble_eq_true rfl⟩
set_option maxRecDepth 100000 in
set_option maxHeartbeats 4000000 in
theorem m_X5_operationNumber {l : Launch} {D : va_G} {dT : Nat → ClassId} {sz : Nat} {ad : ts_I → Nat} (hl : l.stackTraces = false) (b0 : Nat) (hb0 : b0 < 2) (i0 : Nat) (hi0 : i0 < 16) (p1 : Int32) (p2 : Int32) (u : ts_Mem) (r : Int32) (h : f_X5_operationNumber b0 i0 p1 p2 u = some r) : ts_M l D dT sz yX5_operationNumber wX5_operationNumber 0 0 0 ad ts_lv ts_R0 [.inr (11, b0, i0), .inl (.int p1), .inl (.int p2)] u (.inl (some (.int r))) u := by
    unfold f_X5_operationNumber at h
    refine ts_enter hl (by decide) rfl rfl (Nat.le_of_ble_eq_true rfl) ?_
    intro p e s m args below meth c C hX hnm
    have C : ts_CX D dT sz p l (ts_rm 0 0 0) s m args meth c RX5 cX5_operationNumber 3 (some .int) 0 := C
    have hdd : 0 ≤ 0 := Nat.le_refl _
    refine tv_iload_n C (pc := 0) dX5_operationNumber_0 rfl rfl ?_
    by_cases hs1_0 : p2 = 0
    · have h := ts_ifp h hs1_0
      refine tv_tabIn C (pc := 1) 28 dX5_operationNumber_1 (by rw [hs1_0]; decide) (by rw [hs1_0]; decide) (off := 27) (by rw [hs1_0]; decide) (by decide) ?_
      refine tv_aload_n C (pc := 28) dX5_operationNumber_28 rfl rfl ?_
      refine tv_getR C (pc := 29) dX5_operationNumber_29 fl_X5_9 (ts_live (k := 11) (by decide) hb0 hi0) rfl rfl (i2 := (12, b0, i0)) rfl ?_
      refine tv_iload_n C (pc := 32) dX5_operationNumber_32 rfl rfl ?_
      obtain ⟨hr1, h⟩ := ts_gd h
      refine tv_iaload C (pc := 33) dX5_operationNumber_33 (ts_live (k := 12) (by decide) hb0 hi0) rfl hr1 (j := p1.toNatClampNeg) rfl ?_
      cases h
      exact tv_iret C (pc := 34) rfl dX5_operationNumber_34 ⟨Nat.le_of_ble_eq_true rfl, Nat.le_of_ble_eq_true rfl⟩
    have h := ts_ifn h hs1_0
    by_cases hs1_1 : p2 = 1
    · have h := ts_ifp h hs1_1
      refine tv_tabIn C (pc := 1) 35 dX5_operationNumber_1 (by rw [hs1_1]; decide) (by rw [hs1_1]; decide) (off := 34) (by rw [hs1_1]; decide) (by decide) ?_
      refine tv_aload_n C (pc := 35) dX5_operationNumber_35 rfl rfl ?_
      refine tv_getR C (pc := 36) dX5_operationNumber_36 fl_X5_15 (ts_live (k := 11) (by decide) hb0 hi0) rfl rfl (i2 := (13, b0, i0)) rfl ?_
      refine tv_iload_n C (pc := 39) dX5_operationNumber_39 rfl rfl ?_
      obtain ⟨hr2, h⟩ := ts_gd h
      refine tv_iaload C (pc := 40) dX5_operationNumber_40 (ts_live (k := 13) (by decide) hb0 hi0) rfl hr2 (j := p1.toNatClampNeg) rfl ?_
      cases h
      exact tv_iret C (pc := 41) rfl dX5_operationNumber_41 ⟨Nat.le_of_ble_eq_true rfl, Nat.le_of_ble_eq_true rfl⟩
    have h := ts_ifn h hs1_1
    by_cases hs1_2 : p2 = 2
    · have h := ts_ifp h hs1_2
      refine tv_tabIn C (pc := 1) 42 dX5_operationNumber_1 (by rw [hs1_2]; decide) (by rw [hs1_2]; decide) (off := 41) (by rw [hs1_2]; decide) (by decide) ?_
      refine tv_aload_n C (pc := 42) dX5_operationNumber_42 rfl rfl ?_
      refine tv_getR C (pc := 43) dX5_operationNumber_43 fl_X5_18 (ts_live (k := 11) (by decide) hb0 hi0) rfl rfl (i2 := (14, b0, i0)) rfl ?_
      refine tv_iload_n C (pc := 46) dX5_operationNumber_46 rfl rfl ?_
      obtain ⟨hr3, h⟩ := ts_gd h
      refine tv_iaload C (pc := 47) dX5_operationNumber_47 (ts_live (k := 14) (by decide) hb0 hi0) rfl hr3 (j := p1.toNatClampNeg) rfl ?_
      cases h
      exact tv_iret C (pc := 48) rfl dX5_operationNumber_48 ⟨Nat.le_of_ble_eq_true rfl, Nat.le_of_ble_eq_true rfl⟩
    have h := ts_ifn h hs1_2
    refine tv_tabOut C (pc := 1) 49 dX5_operationNumber_1 (ts_tab 3 (by decide) (fun j hj => match j, hj with | 0, _ => hs1_0 | 1, _ => hs1_1 | 2, _ => hs1_2 | j + 3, hj => absurd hj (by omega)) (by decide)) (by decide) ?_
    refine tv_aload_n C (pc := 49) dX5_operationNumber_49 rfl rfl ?_
    refine tv_getR C (pc := 50) dX5_operationNumber_50 fl_X5_21 (ts_live (k := 11) (by decide) hb0 hi0) rfl rfl (i2 := (15, b0, i0)) rfl ?_
    refine tv_iload_n C (pc := 53) dX5_operationNumber_53 rfl rfl ?_
    obtain ⟨hr4, h⟩ := ts_gd h
    refine tv_iaload C (pc := 54) dX5_operationNumber_54 (ts_live (k := 15) (by decide) hb0 hi0) rfl hr4 (j := p1.toNatClampNeg) rfl ?_
    cases h
    exact tv_iret C (pc := 55) rfl dX5_operationNumber_55 ⟨Nat.le_of_ble_eq_true rfl, Nat.le_of_ble_eq_true rfl⟩
