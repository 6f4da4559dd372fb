set_option maxRecDepth 100000 in
set_option maxHeartbeats 4000000 in
theorem lt_X2_forgetAll_12 {D : va_G} {dT : Nat → ClassId} {sz : Nat} {p : Program} {l : Launch} {e : Env} {R : Room} {s : State} {m : MethodId} {args : Array Value} {below : List Frame} {meth : Method} {c : Code} {d : Nat} {ad : ts_I → Nat} {kk nn : Nat} {Q : State → Prop} (hl : l.stackTraces = false) (C : ts_CX D dT sz p l R s m args meth c RX2 cX2_forgetAll 2 none d) (hdd : 0 ≤ d) (b0 : Nat) (hb0 : b0 < 2) (hkn : kk ≤ R.cells ∧ nn ≤ R.slots) : ∀ (n : Nat) (v1 : Int32) (u : ts_Mem) (q : (Int32 × ts_Mem)) (h : lp_X2_forgetAll_12 b0 n v1 u = some q) (K : ts_V D dT sz p l e R s m args below meth c 2 Q ad ts_lv ts_R0 31 [some (.inr (4, b0, 0)), some (.inl (.int q.1))] [] q.2 kk nn), ts_V D dT sz p l e R s m args below meth c 2 Q ad ts_lv ts_R0 12 [some (.inr (4, b0, 0)), some (.inl (.int v1))] [] u kk nn
  | 0, _, _, _, h, _ => by cases h
  | n + 1, v1, u, q, h, K => by
      rw [lp_X2_forgetAll_12] at h
      refine tv_iload_n C (pc := 12) dX2_forgetAll_12 rfl rfl ?_
      refine tv_bipush C (pc := 13) dX2_forgetAll_13 (v := (9 : Int32)) rfl ?_
      refine tv_icmp_ge C (pc := 15) 31 dX2_forgetAll_15 (by decide) (fun hc => ?_) (fun hc => ?_)
      · have h := ts_ifp h hc
        cases h
        exact K
      · have h := ts_ifn h hc
        refine tv_aload_n C (pc := 18) dX2_forgetAll_18 rfl rfl ?_
        refine tv_getR C (pc := 19) dX2_forgetAll_19 fl_X2_21 (ts_live (k := 4) (by decide) hb0 (by decide)) rfl rfl (i2 := (10, b0, 0)) rfl ?_
        refine tv_iload_n C (pc := 22) dX2_forgetAll_22 rfl rfl ?_
        refine tv_iconst C (pc := 23) dX2_forgetAll_23 (v := (0 : Int32)) rfl ?_
        obtain ⟨hr3, h⟩ := ts_gd h
        refine tv_iastore C (pc := 24) dX2_forgetAll_24 (ts_live (k := 10) (by decide) hb0 (by decide)) rfl hr3 (j := v1.toNatClampNeg) rfl ?_
        refine tv_nu (fun u4 hu4 => ?_)
        have h := ts_lt h hu4
        refine tv_iinc C (pc := 25) dX2_forgetAll_25 (v := (v1 + (1 : Int32))) (L' := [some (.inr (4, b0, 0)), some (.inl (.int (v1 + (1 : Int32))))]) rfl rfl (by decide) rfl rfl ?_
        refine tv_goto C (pc := 28) 12 dX2_forgetAll_28 (by decide) ?_
        exact lt_X2_forgetAll_12 hl C hdd b0 hb0 hkn n (v1 + (1 : Int32)) u4 q h K
set_option maxRecDepth 100000 in
set_option maxHeartbeats 4000000 in
theorem m_X2_forgetAll {l : Launch} {D : va_G} {dT : Nat → ClassId} {sz : Nat} {ad : ts_I → Nat} (hl : l.stackTraces = false) (b0 : Nat) (hb0 : b0 < 2) (u : ts_Mem) (r : ts_Mem) (h : f_X2_forgetAll b0 u = some r) : ts_M l D dT sz yX2_forgetAll wX2_forgetAll 0 0 0 ad ts_lv ts_R0 [.inr (4, b0, 0)] u (.inl none) r := by
    unfold f_X2_forgetAll at h
    refine ts_enter hl (by decide) rfl rfl (Nat.le_of_ble_eq_true rfl) ?_
    intro p e s m args below meth c C hX hnm
    have C : ts_CX D dT sz p l (ts_rm 0 0 0) s m args meth c RX2 cX2_forgetAll 2 none 0 := C
    have hdd : 0 ≤ 0 := Nat.le_refl _
    refine tv_aload_n C (pc := 0) dX2_forgetAll_0 rfl rfl ?_
    refine tv_iconst C (pc := 1) dX2_forgetAll_1 (v := (0 : Int32)) rfl ?_
    refine tv_putI C (pc := 2) dX2_forgetAll_2 fp_X2_24 (ts_live (k := 4) (by decide) hb0 (by decide)) rfl (cd := 0) rfl (by decide) rfl rfl ?_
    refine tv_nu (fun u1 hu1 => ?_)
    have h := ts_lt h hu1
    refine tv_aload_n C (pc := 5) dX2_forgetAll_5 rfl rfl ?_
    refine tv_iconst C (pc := 6) dX2_forgetAll_6 (v := (0 : Int32)) rfl ?_
    refine tv_putI C (pc := 7) dX2_forgetAll_7 fp_X2_28 (ts_live (k := 4) (by decide) hb0 (by decide)) rfl (cd := 0) rfl (by decide) rfl rfl ?_
    refine tv_nu (fun u2 hu2 => ?_)
    have h := ts_lt h hu2
    refine tv_iconst C (pc := 10) dX2_forgetAll_10 (v := (0 : Int32)) rfl ?_
    refine tv_istore_n C (pc := 11) dX2_forgetAll_11 (L' := [some (.inr (4, b0, 0)), some (.inl (.int (0 : Int32)))]) rfl (by decide) rfl rfl ?_
    obtain ⟨q5, hq5, h⟩ := ts_bd h
    refine lt_X2_forgetAll_12 hl C hdd b0 hb0 ⟨Nat.le_of_ble_eq_true rfl, Nat.le_of_ble_eq_true rfl⟩ ts_fu (0 : Int32) u2 q5 hq5 ?_
    cases h
    exact tv_vret C (pc := 31) rfl dX2_forgetAll_31 ⟨Nat.le_of_ble_eq_true rfl, Nat.le_of_ble_eq_true rfl⟩
set_option maxRecDepth 100000 in
set_option maxHeartbeats 4000000 in
theorem m_X2_copyFrom {l : Launch} {D : va_G} {dT : Nat → ClassId} {sz : Nat} {ad : ts_I → Nat} (hl : l.stackTraces = false) (b0 : Nat) (hb0 : b0 < 2) (b1 : Nat) (hb1 : b1 < 2) (u : ts_Mem) (r : ts_Mem) (h : f_X2_copyFrom b0 b1 u = some r) : ts_M l D dT sz yX2_copyFrom wX2_copyFrom 0 0 0 ad ts_lv ts_R0 [.inr (4, b0, 0), .inr (4, b1, 0)] u (.inl none) r := by
    unfold f_X2_copyFrom at h
    refine ts_enter hl (by decide) rfl rfl (Nat.le_of_ble_eq_true rfl) ?_
    intro p e s m args below meth c C hX hnm
    have C : ts_CX D dT sz p l (ts_rm 0 0 0) s m args meth c RX2 cX2_copyFrom 2 none 0 := C
    have hdd : 0 ≤ 0 := Nat.le_refl _
    refine tv_aload_n C (pc := 0) dX2_copyFrom_0 rfl rfl ?_
    refine tv_aload_n C (pc := 1) dX2_copyFrom_1 rfl rfl ?_
    refine tv_getI C (pc := 2) dX2_copyFrom_2 fl_X2_24 (ts_live (k := 4) (by decide) hb1 (by decide)) rfl (cd := 0) rfl (by decide) ?_
    refine tv_putI C (pc := 5) dX2_copyFrom_5 fp_X2_24 (ts_live (k := 4) (by decide) hb0 (by decide)) rfl (cd := 0) rfl (by decide) rfl rfl ?_
    refine tv_nu (fun u1 hu1 => ?_)
    have h := ts_lt h hu1
    refine tv_aload_n C (pc := 8) dX2_copyFrom_8 rfl rfl ?_
    refine tv_aload_n C (pc := 9) dX2_copyFrom_9 rfl rfl ?_
    refine tv_getI C (pc := 10) dX2_copyFrom_10 fl_X2_28 (ts_live (k := 4) (by decide) hb1 (by decide)) rfl (cd := 0) rfl (by decide) ?_
    refine tv_putI C (pc := 13) dX2_copyFrom_13 fp_X2_28 (ts_live (k := 4) (by decide) hb0 (by decide)) rfl (cd := 0) rfl (by decide) rfl rfl ?_
    refine tv_nu (fun u2 hu2 => ?_)
    have h := ts_lt h hu2
    refine tv_aload_n C (pc := 16) dX2_copyFrom_16 rfl rfl ?_
    refine tv_getR C (pc := 17) dX2_copyFrom_17 fl_X2_9 (ts_live (k := 4) (by decide) hb1 (by decide)) rfl rfl (i2 := (7, b1, 0)) rfl ?_
    refine tv_iconst C (pc := 20) dX2_copyFrom_20 (v := (0 : Int32)) rfl ?_
    refine tv_aload_n C (pc := 21) dX2_copyFrom_21 rfl rfl ?_
    refine tv_getR C (pc := 22) dX2_copyFrom_22 fl_X2_9 (ts_live (k := 4) (by decide) hb0 (by decide)) rfl rfl (i2 := (7, b0, 0)) rfl ?_
    refine tv_iconst C (pc := 25) dX2_copyFrom_25 (v := (0 : Int32)) rfl ?_
    refine tv_bipush C (pc := 26) dX2_copyFrom_26 (v := (50 : Int32)) rfl ?_
    refine tv_copyi C (pc := 28) dX2_copyFrom_28 ml_X2_31 ts_ac (ts_live (k := 7) (by decide) hb1 (by decide)) rfl (ts_live (k := 7) (by decide) hb0 (by decide)) rfl (by decide) (fun _ => Nat.le_of_ble_eq_true rfl) ?_
    refine tv_nu (fun u3 hu3 => ?_)
    have h := ts_lt h hu3
    refine tv_aload_n C (pc := 31) dX2_copyFrom_31 rfl rfl ?_
    refine tv_getR C (pc := 32) dX2_copyFrom_32 fl_X2_15 (ts_live (k := 4) (by decide) hb1 (by decide)) rfl rfl (i2 := (8, b1, 0)) rfl ?_
    refine tv_iconst C (pc := 35) dX2_copyFrom_35 (v := (0 : Int32)) rfl ?_
    refine tv_aload_n C (pc := 36) dX2_copyFrom_36 rfl rfl ?_
    refine tv_getR C (pc := 37) dX2_copyFrom_37 fl_X2_15 (ts_live (k := 4) (by decide) hb0 (by decide)) rfl rfl (i2 := (8, b0, 0)) rfl ?_
    refine tv_iconst C (pc := 40) dX2_copyFrom_40 (v := (0 : Int32)) rfl ?_
    refine tv_bipush C (pc := 41) dX2_copyFrom_41 (v := (50 : Int32)) rfl ?_
    refine tv_copyi C (pc := 43) dX2_copyFrom_43 ml_X2_31 ts_ac (ts_live (k := 8) (by decide) hb1 (by decide)) rfl (ts_live (k := 8) (by decide) hb0 (by decide)) rfl (by decide) (fun _ => Nat.le_of_ble_eq_true rfl) ?_
    refine tv_nu (fun u4 hu4 => ?_)
    have h := ts_lt h hu4
    refine tv_aload_n C (pc := 46) dX2_copyFrom_46 rfl rfl ?_
    refine tv_getR C (pc := 47) dX2_copyFrom_47 fl_X2_18 (ts_live (k := 4) (by decide) hb1 (by decide)) rfl rfl (i2 := (9, b1, 0)) rfl ?_
    refine tv_iconst C (pc := 50) dX2_copyFrom_50 (v := (0 : Int32)) rfl ?_
    refine tv_aload_n C (pc := 51) dX2_copyFrom_51 rfl rfl ?_
    refine tv_getR C (pc := 52) dX2_copyFrom_52 fl_X2_18 (ts_live (k := 4) (by decide) hb0 (by decide)) rfl rfl (i2 := (9, b0, 0)) rfl ?_
    refine tv_iconst C (pc := 55) dX2_copyFrom_55 (v := (0 : Int32)) rfl ?_
    refine tv_bipush C (pc := 56) dX2_copyFrom_56 (v := (50 : Int32)) rfl ?_
    refine tv_copyi C (pc := 58) dX2_copyFrom_58 ml_X2_31 ts_ac (ts_live (k := 9) (by decide) hb1 (by decide)) rfl (ts_live (k := 9) (by decide) hb0 (by decide)) rfl (by decide) (fun _ => Nat.le_of_ble_eq_true rfl) ?_
    refine tv_nu (fun u5 hu5 => ?_)
    have h := ts_lt h hu5
    refine tv_aload_n C (pc := 61) dX2_copyFrom_61 rfl rfl ?_
    refine tv_getR C (pc := 62) dX2_copyFrom_62 fl_X2_21 (ts_live (k := 4) (by decide) hb1 (by decide)) rfl rfl (i2 := (10, b1, 0)) rfl ?_
    refine tv_iconst C (pc := 65) dX2_copyFrom_65 (v := (0 : Int32)) rfl ?_
    refine tv_aload_n C (pc := 66) dX2_copyFrom_66 rfl rfl ?_
    refine tv_getR C (pc := 67) dX2_copyFrom_67 fl_X2_21 (ts_live (k := 4) (by decide) hb0 (by decide)) rfl rfl (i2 := (10, b0, 0)) rfl ?_
    refine tv_iconst C (pc := 70) dX2_copyFrom_70 (v := (0 : Int32)) rfl ?_
    refine tv_bipush C (pc := 71) dX2_copyFrom_71 (v := (9 : Int32)) rfl ?_
    refine tv_copyi C (pc := 73) dX2_copyFrom_73 ml_X2_31 ts_ac (ts_live (k := 10) (by decide) hb1 (by decide)) rfl (ts_live (k := 10) (by decide) hb0 (by decide)) rfl (by decide) (fun _ => Nat.le_of_ble_eq_true rfl) ?_
    refine tv_nu (fun u6 hu6 => ?_)
    have h := ts_lt h hu6
    cases h
    exact tv_vret C (pc := 76) rfl dX2_copyFrom_76 ⟨Nat.le_of_ble_eq_true rfl, Nat.le_of_ble_eq_true rfl⟩
set_option maxRecDepth 100000 in
set_option maxHeartbeats 4000000 in
theorem m_X2_note {l : Launch} {D : va_G} {dT : Nat → ClassId} {sz : Nat} {ad : ts_I → Nat} (hl : l.stackTraces = false) (b0 : Nat) (hb0 : b0 < 2) (p1 : Int32) (p2 : Int32) (p3 : Int32) (u : ts_Mem) (r : ts_Mem) (h : f_X2_note b0 p1 p2 p3 u = some r) : ts_M l D dT sz yX2_note wX2_note 0 0 0 ad ts_lv ts_R0 [.inr (4, b0, 0), .inl (.int p1), .inl (.int p2), .inl (.int p3)] u (.inl none) r := by
    unfold f_X2_note at h
    refine ts_enter hl (by decide) rfl rfl (Nat.le_of_ble_eq_true rfl) ?_
    intro p e s m args below meth c C hX hnm
    have C : ts_CX D dT sz p l (ts_rm 0 0 0) s m args meth c RX2 cX2_note 5 none 0 := C
    have hdd : 0 ≤ 0 := Nat.le_refl _
    refine tv_aload_n C (pc := 0) dX2_note_0 rfl rfl ?_
    refine tv_getI C (pc := 1) dX2_note_1 fl_X2_24 (ts_live (k := 4) (by decide) hb0 (by decide)) rfl (cd := 0) rfl (by decide) ?_
    refine tv_aload_n C (pc := 4) dX2_note_4 rfl rfl ?_
    refine tv_getI C (pc := 5) dX2_note_5 fl_X2_28 (ts_live (k := 4) (by decide) hb0 (by decide)) rfl (cd := 0) rfl (by decide) ?_
    refine tv_iadd C (pc := 8) dX2_note_8 ?_
    refine tv_bipush C (pc := 9) dX2_note_9 (v := (50 : Int32)) rfl ?_
    refine tv_irem C (pc := 11) dX2_note_11 (by decide) ?_
    refine tv_nmI (fun x1 hx1 => ?_)
    have h := ts_lt h hx1
    refine tv_istore C (pc := 12) dX2_note_12 (L' := [some (.inr (4, b0, 0)), some (.inl (.int p1)), some (.inl (.int p2)), some (.inl (.int p3)), some (.inl (.int x1))]) (by decide) rfl rfl ?_
    refine tv_aload_n C (pc := 14) dX2_note_14 rfl rfl ?_
    refine tv_getR C (pc := 15) dX2_note_15 fl_X2_9 (ts_live (k := 4) (by decide) hb0 (by decide)) rfl rfl (i2 := (7, b0, 0)) rfl ?_
    refine tv_iload C (pc := 18) dX2_note_18 rfl ?_
    refine tv_iload_n C (pc := 20) dX2_note_20 rfl rfl ?_
    obtain ⟨hr2, h⟩ := ts_gd h
    refine tv_iastore C (pc := 21) dX2_note_21 (ts_live (k := 7) (by decide) hb0 (by decide)) rfl hr2 (j := x1.toNatClampNeg) rfl ?_
    refine tv_nu (fun u3 hu3 => ?_)
    have h := ts_lt h hu3
    refine tv_aload_n C (pc := 22) dX2_note_22 rfl rfl ?_
    refine tv_getR C (pc := 23) dX2_note_23 fl_X2_15 (ts_live (k := 4) (by decide) hb0 (by decide)) rfl rfl (i2 := (8, b0, 0)) rfl ?_
    refine tv_iload C (pc := 26) dX2_note_26 rfl ?_
    refine tv_iload_n C (pc := 28) dX2_note_28 rfl rfl ?_
    obtain ⟨hr4, h⟩ := ts_gd h
    refine tv_iastore C (pc := 29) dX2_note_29 (ts_live (k := 8) (by decide) hb0 (by decide)) rfl hr4 (j := x1.toNatClampNeg) rfl ?_
    refine tv_nu (fun u5 hu5 => ?_)
    have h := ts_lt h hu5
    refine tv_aload_n C (pc := 30) dX2_note_30 rfl rfl ?_
    refine tv_getR C (pc := 31) dX2_note_31 fl_X2_18 (ts_live (k := 4) (by decide) hb0 (by decide)) rfl rfl (i2 := (9, b0, 0)) rfl ?_
    refine tv_iload C (pc := 34) dX2_note_34 rfl ?_
    refine tv_iload_n C (pc := 36) dX2_note_36 rfl rfl ?_
    obtain ⟨hr6, h⟩ := ts_gd h
    refine tv_iastore C (pc := 37) dX2_note_37 (ts_live (k := 9) (by decide) hb0 (by decide)) rfl hr6 (j := x1.toNatClampNeg) rfl ?_
    refine tv_nu (fun u7 hu7 => ?_)
    have h := ts_lt h hu7
    refine tv_aload_n C (pc := 38) dX2_note_38 rfl rfl ?_
    refine tv_getR C (pc := 39) dX2_note_39 fl_X2_21 (ts_live (k := 4) (by decide) hb0 (by decide)) rfl rfl (i2 := (10, b0, 0)) rfl ?_
    refine tv_iload_n C (pc := 42) dX2_note_42 rfl rfl ?_
    refine tv_dup2 C (pc := 43) dX2_note_43 (fun _ => ⟨rfl, rfl⟩) ?_
    obtain ⟨hr8, h⟩ := ts_gd h
    refine tv_iaload C (pc := 44) dX2_note_44 (ts_live (k := 10) (by decide) hb0 (by decide)) rfl hr8 (j := p1.toNatClampNeg) rfl ?_
    refine tv_iconst C (pc := 45) dX2_note_45 (v := (1 : Int32)) rfl ?_
    refine tv_iadd C (pc := 46) dX2_note_46 ?_
    obtain ⟨hr9, h⟩ := ts_gd h
    refine tv_iastore C (pc := 47) dX2_note_47 (ts_live (k := 10) (by decide) hb0 (by decide)) rfl hr9 (j := p1.toNatClampNeg) rfl ?_
    refine tv_nu (fun u10 hu10 => ?_)
    have h := ts_lt h hu10
    refine tv_aload_n C (pc := 48) dX2_note_48 rfl rfl ?_
    refine tv_getI C (pc := 49) dX2_note_49 fl_X2_28 (ts_live (k := 4) (by decide) hb0 (by decide)) rfl (cd := 0) rfl (by decide) ?_
    refine tv_bipush C (pc := 52) dX2_note_52 (v := (50 : Int32)) rfl ?_
    refine tv_icmp_ge C (pc := 54) 70 dX2_note_54 (by decide) (fun hc => ?_) (fun hc => ?_)
    · have h := ts_ifp h hc
      refine tv_aload_n C (pc := 70) dX2_note_70 rfl rfl ?_
      refine tv_aload_n C (pc := 71) dX2_note_71 rfl rfl ?_
      refine tv_getI C (pc := 72) dX2_note_72 fl_X2_24 (ts_live (k := 4) (by decide) hb0 (by decide)) rfl (cd := 0) rfl (by decide) ?_
      refine tv_iconst C (pc := 75) dX2_note_75 (v := (1 : Int32)) rfl ?_
      refine tv_iadd C (pc := 76) dX2_note_76 ?_
      refine tv_bipush C (pc := 77) dX2_note_77 (v := (50 : Int32)) rfl ?_
      refine tv_irem C (pc := 79) dX2_note_79 (by decide) ?_
      refine tv_putI C (pc := 80) dX2_note_80 fp_X2_24 (ts_live (k := 4) (by decide) hb0 (by decide)) rfl (cd := 0) rfl (by decide) rfl rfl ?_
      refine tv_nu (fun u11 hu11 => ?_)
      have h := ts_lt h hu11
      cases h
      exact tv_vret C (pc := 83) rfl dX2_note_83 ⟨Nat.le_of_ble_eq_true rfl, Nat.le_of_ble_eq_true rfl⟩
    · have h := ts_ifn h hc
      refine tv_aload_n C (pc := 57) dX2_note_57 rfl rfl ?_
      refine tv_dup C (pc := 58) dX2_note_58 (fun _ => rfl) ?_
      refine tv_getI C (pc := 59) dX2_note_59 fl_X2_28 (ts_live (k := 4) (by decide) hb0 (by decide)) rfl (cd := 0) rfl (by decide) ?_
      refine tv_iconst C (pc := 62) dX2_note_62 (v := (1 : Int32)) rfl ?_
      refine tv_iadd C (pc := 63) dX2_note_63 ?_
      refine tv_putI C (pc := 64) dX2_note_64 fp_X2_28 (ts_live (k := 4) (by decide) hb0 (by decide)) rfl (cd := 0) rfl (by decide) rfl rfl ?_
      refine tv_nu (fun u12 hu12 => ?_)
      have h := ts_lt h hu12
      refine tv_goto C (pc := 67) 83 dX2_note_67 (by decide) ?_
      cases h
      exact tv_vret C (pc := 83) rfl dX2_note_83 ⟨Nat.le_of_ble_eq_true rfl, Nat.le_of_ble_eq_true rfl⟩
set_option maxRecDepth 100000 in
set_option maxHeartbeats 4000000 in
theorem m_X2_column {l : Launch} {D : va_G} {dT : Nat → ClassId} {sz : Nat} {ad : ts_I → Nat} (hl : l.stackTraces = false) (b0 : Nat) (hb0 : b0 < 2) (p1 : Int32) (p2 : Int32) (u : ts_Mem) (r : Int32) (h : f_X2_column b0 p1 p2 u = some r) : ts_M l D dT sz yX2_column wX2_column 0 0 0 ad ts_lv ts_R0 [.inr (4, b0, 0), .inl (.int p1), .inl (.int p2)] u (.inl (some (.int r))) u := by
    unfold f_X2_column at h
    refine ts_enter hl (by decide) rfl rfl (Nat.le_of_ble_eq_true rfl) ?_
    intro p e s m args below meth c C hX hnm
    have C : ts_CX D dT sz p l (ts_rm 0 0 0) s m args meth c RX2 cX2_column 4 (some .int) 0 := C
    have hdd : 0 ≤ 0 := Nat.le_refl _
    refine tv_aload_n C (pc := 0) dX2_column_0 rfl rfl ?_
    refine tv_getI C (pc := 1) dX2_column_1 fl_X2_24 (ts_live (k := 4) (by decide) hb0 (by decide)) rfl (cd := 0) rfl (by decide) ?_
    refine tv_iload_n C (pc := 4) dX2_column_4 rfl rfl ?_
    refine tv_iadd C (pc := 5) dX2_column_5 ?_
    refine tv_bipush C (pc := 6) dX2_column_6 (v := (50 : Int32)) rfl ?_
    refine tv_irem C (pc := 8) dX2_column_8 (by decide) ?_
    refine tv_nmI (fun x1 hx1 => ?_)
    have h := ts_lt h hx1
    refine tv_istore_n C (pc := 9) dX2_column_9 (L' := [some (.inr (4, b0, 0)), some (.inl (.int p1)), some (.inl (.int p2)), some (.inl (.int x1))]) rfl (by decide) rfl rfl ?_
    refine tv_iload_n C (pc := 10) dX2_column_10 rfl rfl ?_
    by_cases hs11_0 : p2 = 0
    · have h := ts_ifp h hs11_0
      refine tv_lookup C (pc := 11) 36 dX2_column_11 (by decide) (off := 25) (by rw [hs11_0]; decide) (by decide) ?_
      refine tv_aload_n C (pc := 36) dX2_column_36 rfl rfl ?_
      refine tv_getR C (pc := 37) dX2_column_37 fl_X2_9 (ts_live (k := 4) (by decide) hb0 (by decide)) rfl rfl (i2 := (7, b0, 0)) rfl ?_
      refine tv_iload_n C (pc := 40) dX2_column_40 rfl rfl ?_
      obtain ⟨hr2, h⟩ := ts_gd h
      refine tv_iaload C (pc := 41) dX2_column_41 (ts_live (k := 7) (by decide) hb0 (by decide)) rfl hr2 (j := x1.toNatClampNeg) rfl ?_
      cases h
      exact tv_iret C (pc := 42) rfl dX2_column_42 ⟨Nat.le_of_ble_eq_true rfl, Nat.le_of_ble_eq_true rfl⟩
    have h := ts_ifn h hs11_0
    by_cases hs11_1 : p2 = 1
    · have h := ts_ifp h hs11_1
      refine tv_lookup C (pc := 11) 43 dX2_column_11 (by decide) (off := 32) (by rw [hs11_1]; decide) (by decide) ?_
      refine tv_aload_n C (pc := 43) dX2_column_43 rfl rfl ?_
      refine tv_getR C (pc := 44) dX2_column_44 fl_X2_15 (ts_live (k := 4) (by decide) hb0 (by decide)) rfl rfl (i2 := (8, b0, 0)) rfl ?_
      refine tv_iload_n C (pc := 47) dX2_column_47 rfl rfl ?_
      obtain ⟨hr3, h⟩ := ts_gd h
      refine tv_iaload C (pc := 48) dX2_column_48 (ts_live (k := 8) (by decide) hb0 (by decide)) rfl hr3 (j := x1.toNatClampNeg) rfl ?_
      cases h
      exact tv_iret C (pc := 49) rfl dX2_column_49 ⟨Nat.le_of_ble_eq_true rfl, Nat.le_of_ble_eq_true rfl⟩
    have h := ts_ifn h hs11_1
    refine tv_lookup C (pc := 11) 50 dX2_column_11 (by decide) (off := 39) (ts_look2 hs11_0 hs11_1) (by decide) ?_
    refine tv_aload_n C (pc := 50) dX2_column_50 rfl rfl ?_
    refine tv_getR C (pc := 51) dX2_column_51 fl_X2_18 (ts_live (k := 4) (by decide) hb0 (by decide)) rfl rfl (i2 := (9, b0, 0)) rfl ?_
    refine tv_iload_n C (pc := 54) dX2_column_54 rfl rfl ?_
    obtain ⟨hr4, h⟩ := ts_gd h
    refine tv_iaload C (pc := 55) dX2_column_55 (ts_live (k := 9) (by decide) hb0 (by decide)) rfl hr4 (j := x1.toNatClampNeg) rfl ?_
    cases h
    exact tv_iret C (pc := 56) rfl dX2_column_56 ⟨Nat.le_of_ble_eq_true rfl, Nat.le_of_ble_eq_true rfl⟩
