set_option maxRecDepth 100000 in
set_option maxHeartbeats 4000000 in
theorem m_X6_requireArgument {l : Launch} {D : va_G} {dT : Nat → ClassId} {sz : Nat} {ad : ts_I → Nat} (hl : l.stackTraces = false) (p0 : Int32) (u : ts_Mem) (r : (Unit ⊕ String)) (h : f_X6_requireArgument p0 u = some r) : ts_M l D dT sz yX6_requireArgument wX6_requireArgument 0 1 6 ad ts_lv ts_R0 [.inl (.int p0)] u (ts_oU r) u := by
    unfold f_X6_requireArgument at h
    refine ts_enter hl (by decide) rfl rfl (Nat.le_of_ble_eq_true rfl) ?_
    intro p e s m args below meth c C hX hnm
    have C : ts_CX D dT sz p l (ts_rm 0 1 6) s m args meth c RX6 cX6_requireArgument 1 none 0 := C
    have hdd : 0 ≤ 0 := Nat.le_refl _
    refine tv_iload_n C (pc := 0) dX6_requireArgument_0 rfl rfl ?_
    refine tv_if_ne C (pc := 1) 14 dX6_requireArgument_1 (by decide) (fun hc => ?_) (fun hc => ?_)
    · have h := ts_ifn h hc
      cases h
      exact tv_vret C (pc := 14) rfl dX6_requireArgument_14 ⟨Nat.le_of_ble_eq_true rfl, Nat.le_of_ble_eq_true rfl⟩
    · have h := ts_ifp h hc
      cases h
      exact tv_throw C (pc := 4) hX th_X6_244_246 dX6_requireArgument_4 dX6_requireArgument_7 dX6_requireArgument_8 dX6_requireArgument_10 dX6_requireArgument_13 ⟨Nat.le_of_ble_eq_true rfl, Nat.le_of_ble_eq_true rfl⟩ (fun _ => Nat.le_of_ble_eq_true rfl) ⟨Nat.le_of_ble_eq_true rfl, Nat.le_of_ble_eq_true rfl⟩
set_option maxRecDepth 100000 in
set_option maxHeartbeats 4000000 in
theorem m_X6_reset {l : Launch} {D : va_G} {dT : Nat → ClassId} {sz : Nat} {ad : ts_I → Nat} (hl : l.stackTraces = false) (p1 : Int32) (u : ts_Mem) (r : ((Int32 ⊕ String) × ts_Mem)) (h : f_X6_reset p1 u = some r) : ts_M l D dT sz yX6_reset wX6_reset 2 1 6 ad ts_lv ts_R0 [.inr (0, 0, 0), .inl (.int p1)] u (ts_oI r.1) r.2 := by
    unfold f_X6_reset at h
    refine ts_enter hl (by decide) rfl rfl (Nat.le_of_ble_eq_true rfl) ?_
    intro p e s m args below meth c C hX hnm
    have C : ts_CX D dT sz p l (ts_rm 2 1 6) s m args meth c RX6 cX6_reset 3 (some .int) 2 := C
    have hdd : 2 ≤ 2 := Nat.le_refl _
    refine tv_iload_n C (pc := 0) dX6_reset_0 rfl rfl ?_
    refine tv_if_lt C (pc := 1) 13 dX6_reset_1 (by decide) (fun hc => ?_) (fun hc => ?_)
    · have h := ts_ifp h hc
      refine tv_iconst C (pc := 13) dX6_reset_13 (v := (0 : Int32)) rfl ?_
      obtain ⟨q1, hq1, h⟩ := ts_bd h
      have Mq1 := (m_X6_requireArgument (D := D) (dT := dT) (sz := sz) (ad := ad) hl (0 : Int32) u q1 hq1)
      rcases q1 with v2 | e3
      · have h := ts_eL h
        refine tv_callS C (pc := 14) dX6_reset_14 yl_X6_43 Mq1 (Nat.le_trans (Nat.le_of_ble_eq_true rfl) hdd) (As := [.inl (.int (0 : Int32))]) rfl ⟨Nat.le_of_ble_eq_true rfl, Nat.le_of_ble_eq_true rfl⟩ (fun _ => Nat.le_of_ble_eq_true rfl) rfl ?_
        refine tv_aload_n C (pc := 17) dX6_reset_17 rfl rfl ?_
        refine tv_getR C (pc := 18) dX6_reset_18 fl_X6_12 (ts_live (k := 0) (by decide) (by decide) (by decide)) rfl rfl (i2 := (1, 0, 0)) rfl ?_
        refine tv_getI C (pc := 21) dX6_reset_21 fl_X6_47 (ts_live (k := 1) (by decide) (by decide) (by decide)) rfl (cd := 0) rfl (by decide) ?_
        refine tv_nmI (fun x4 hx4 => ?_)
        have h := ts_lt h hx4
        refine tv_istore_n C (pc := 24) dX6_reset_24 (L' := [some (.inr (0, 0, 0)), some (.inl (.int p1)), some (.inl (.int x4))]) rfl (by decide) rfl rfl ?_
        refine tv_aload_n C (pc := 25) dX6_reset_25 rfl rfl ?_
        refine tv_getR C (pc := 26) dX6_reset_26 fl_X6_12 (ts_live (k := 0) (by decide) (by decide) (by decide)) rfl rfl (i2 := (1, 0, 0)) rfl ?_
        refine tv_iload_n C (pc := 29) dX6_reset_29 rfl rfl ?_
        obtain ⟨q5, hq5, h⟩ := ts_bd h
        refine tv_callV C (pc := 30) dX6_reset_30 (ci := 0) (q := (RX0, TX0, 8)) rfl yl_X6_50 (m_X0_startAnew (D := D) (dT := dT) (sz := sz) (ad := ad) hl 0 (by decide) p1 u q5 hq5) (ts_live (k := 1) (by decide) (by decide) (by decide)) rfl (Nat.le_trans (Nat.le_of_ble_eq_true rfl) hdd) (As := [.inl (.int p1)]) rfl ⟨Nat.le_of_ble_eq_true rfl, Nat.le_of_ble_eq_true rfl⟩ (fun _ => Nat.le_of_ble_eq_true rfl) rfl ?_
        refine tv_iload_n C (pc := 33) dX6_reset_33 rfl rfl ?_
        cases h
        exact tv_iret C (pc := 34) rfl dX6_reset_34 ⟨Nat.le_of_ble_eq_true rfl, Nat.le_of_ble_eq_true rfl⟩
      · have h := ts_eR h
        cases h
        exact tv_callS_thr C (pc := 14) hX dX6_reset_14 yl_X6_43 Mq1 (Nat.le_trans (Nat.le_of_ble_eq_true rfl) hdd) (As := [.inl (.int (0 : Int32))]) rfl ⟨Nat.le_of_ble_eq_true rfl, Nat.le_of_ble_eq_true rfl⟩ (fun _ => Nat.le_of_ble_eq_true rfl) rfl ⟨Nat.le_of_ble_eq_true rfl, Nat.le_of_ble_eq_true rfl⟩
    · have h := ts_ifn h hc
      refine tv_iload_n C (pc := 4) dX6_reset_4 rfl rfl ?_
      refine tv_iconst C (pc := 5) dX6_reset_5 (v := (2 : Int32)) rfl ?_
      refine tv_icmp_gt C (pc := 6) 13 dX6_reset_6 (by decide) (fun hc => ?_) (fun hc => ?_)
      · have h := ts_ifp h hc
        refine tv_iconst C (pc := 13) dX6_reset_13 (v := (0 : Int32)) rfl ?_
        obtain ⟨q6, hq6, h⟩ := ts_bd h
        have Mq6 := (m_X6_requireArgument (D := D) (dT := dT) (sz := sz) (ad := ad) hl (0 : Int32) u q6 hq6)
        rcases q6 with v7 | e8
        · have h := ts_eL h
          refine tv_callS C (pc := 14) dX6_reset_14 yl_X6_43 Mq6 (Nat.le_trans (Nat.le_of_ble_eq_true rfl) hdd) (As := [.inl (.int (0 : Int32))]) rfl ⟨Nat.le_of_ble_eq_true rfl, Nat.le_of_ble_eq_true rfl⟩ (fun _ => Nat.le_of_ble_eq_true rfl) rfl ?_
          refine tv_aload_n C (pc := 17) dX6_reset_17 rfl rfl ?_
          refine tv_getR C (pc := 18) dX6_reset_18 fl_X6_12 (ts_live (k := 0) (by decide) (by decide) (by decide)) rfl rfl (i2 := (1, 0, 0)) rfl ?_
          refine tv_getI C (pc := 21) dX6_reset_21 fl_X6_47 (ts_live (k := 1) (by decide) (by decide) (by decide)) rfl (cd := 0) rfl (by decide) ?_
          refine tv_nmI (fun x9 hx9 => ?_)
          have h := ts_lt h hx9
          refine tv_istore_n C (pc := 24) dX6_reset_24 (L' := [some (.inr (0, 0, 0)), some (.inl (.int p1)), some (.inl (.int x9))]) rfl (by decide) rfl rfl ?_
          refine tv_aload_n C (pc := 25) dX6_reset_25 rfl rfl ?_
          refine tv_getR C (pc := 26) dX6_reset_26 fl_X6_12 (ts_live (k := 0) (by decide) (by decide) (by decide)) rfl rfl (i2 := (1, 0, 0)) rfl ?_
          refine tv_iload_n C (pc := 29) dX6_reset_29 rfl rfl ?_
          obtain ⟨q10, hq10, h⟩ := ts_bd h
          refine tv_callV C (pc := 30) dX6_reset_30 (ci := 0) (q := (RX0, TX0, 8)) rfl yl_X6_50 (m_X0_startAnew (D := D) (dT := dT) (sz := sz) (ad := ad) hl 0 (by decide) p1 u q10 hq10) (ts_live (k := 1) (by decide) (by decide) (by decide)) rfl (Nat.le_trans (Nat.le_of_ble_eq_true rfl) hdd) (As := [.inl (.int p1)]) rfl ⟨Nat.le_of_ble_eq_true rfl, Nat.le_of_ble_eq_true rfl⟩ (fun _ => Nat.le_of_ble_eq_true rfl) rfl ?_
          refine tv_iload_n C (pc := 33) dX6_reset_33 rfl rfl ?_
          cases h
          exact tv_iret C (pc := 34) rfl dX6_reset_34 ⟨Nat.le_of_ble_eq_true rfl, Nat.le_of_ble_eq_true rfl⟩
        · have h := ts_eR h
          cases h
          exact tv_callS_thr C (pc := 14) hX dX6_reset_14 yl_X6_43 Mq6 (Nat.le_trans (Nat.le_of_ble_eq_true rfl) hdd) (As := [.inl (.int (0 : Int32))]) rfl ⟨Nat.le_of_ble_eq_true rfl, Nat.le_of_ble_eq_true rfl⟩ (fun _ => Nat.le_of_ble_eq_true rfl) rfl ⟨Nat.le_of_ble_eq_true rfl, Nat.le_of_ble_eq_true rfl⟩
      · have h := ts_ifn h hc
        refine tv_iconst C (pc := 9) dX6_reset_9 (v := (1 : Int32)) rfl ?_
        refine tv_goto C (pc := 10) 14 dX6_reset_10 (by decide) ?_
        obtain ⟨q11, hq11, h⟩ := ts_bd h
        have Mq11 := (m_X6_requireArgument (D := D) (dT := dT) (sz := sz) (ad := ad) hl (1 : Int32) u q11 hq11)
        rcases q11 with v12 | e13
        · have h := ts_eL h
          refine tv_callS C (pc := 14) dX6_reset_14 yl_X6_43 Mq11 (Nat.le_trans (Nat.le_of_ble_eq_true rfl) hdd) (As := [.inl (.int (1 : Int32))]) rfl ⟨Nat.le_of_ble_eq_true rfl, Nat.le_of_ble_eq_true rfl⟩ (fun _ => Nat.le_of_ble_eq_true rfl) rfl ?_
          refine tv_aload_n C (pc := 17) dX6_reset_17 rfl rfl ?_
          refine tv_getR C (pc := 18) dX6_reset_18 fl_X6_12 (ts_live (k := 0) (by decide) (by decide) (by decide)) rfl rfl (i2 := (1, 0, 0)) rfl ?_
          refine tv_getI C (pc := 21) dX6_reset_21 fl_X6_47 (ts_live (k := 1) (by decide) (by decide) (by decide)) rfl (cd := 0) rfl (by decide) ?_
          refine tv_nmI (fun x14 hx14 => ?_)
          have h := ts_lt h hx14
          refine tv_istore_n C (pc := 24) dX6_reset_24 (L' := [some (.inr (0, 0, 0)), some (.inl (.int p1)), some (.inl (.int x14))]) rfl (by decide) rfl rfl ?_
          refine tv_aload_n C (pc := 25) dX6_reset_25 rfl rfl ?_
          refine tv_getR C (pc := 26) dX6_reset_26 fl_X6_12 (ts_live (k := 0) (by decide) (by decide) (by decide)) rfl rfl (i2 := (1, 0, 0)) rfl ?_
          refine tv_iload_n C (pc := 29) dX6_reset_29 rfl rfl ?_
          obtain ⟨q15, hq15, h⟩ := ts_bd h
          refine tv_callV C (pc := 30) dX6_reset_30 (ci := 0) (q := (RX0, TX0, 8)) rfl yl_X6_50 (m_X0_startAnew (D := D) (dT := dT) (sz := sz) (ad := ad) hl 0 (by decide) p1 u q15 hq15) (ts_live (k := 1) (by decide) (by decide) (by decide)) rfl (Nat.le_trans (Nat.le_of_ble_eq_true rfl) hdd) (As := [.inl (.int p1)]) rfl ⟨Nat.le_of_ble_eq_true rfl, Nat.le_of_ble_eq_true rfl⟩ (fun _ => Nat.le_of_ble_eq_true rfl) rfl ?_
          refine tv_iload_n C (pc := 33) dX6_reset_33 rfl rfl ?_
          cases h
          exact tv_iret C (pc := 34) rfl dX6_reset_34 ⟨Nat.le_of_ble_eq_true rfl, Nat.le_of_ble_eq_true rfl⟩
        · have h := ts_eR h
          cases h
          exact tv_callS_thr C (pc := 14) hX dX6_reset_14 yl_X6_43 Mq11 (Nat.le_trans (Nat.le_of_ble_eq_true rfl) hdd) (As := [.inl (.int (1 : Int32))]) rfl ⟨Nat.le_of_ble_eq_true rfl, Nat.le_of_ble_eq_true rfl⟩ (fun _ => Nat.le_of_ble_eq_true rfl) rfl ⟨Nat.le_of_ble_eq_true rfl, Nat.le_of_ble_eq_true rfl⟩
set_option maxRecDepth 100000 in
set_option maxHeartbeats 4000000 in
theorem m_X6_requireState {l : Launch} {D : va_G} {dT : Nat → ClassId} {sz : Nat} {ad : ts_I → Nat} (hl : l.stackTraces = false) (p0 : Int32) (u : ts_Mem) (r : (Unit ⊕ String)) (h : f_X6_requireState p0 u = some r) : ts_M l D dT sz yX6_requireState wX6_requireState 0 1 6 ad ts_lv ts_R0 [.inl (.int p0)] u (ts_oU r) u := by
    unfold f_X6_requireState at h
    refine ts_enter hl (by decide) rfl rfl (Nat.le_of_ble_eq_true rfl) ?_
    intro p e s m args below meth c C hX hnm
    have C : ts_CX D dT sz p l (ts_rm 0 1 6) s m args meth c RX6 cX6_requireState 1 none 0 := C
    have hdd : 0 ≤ 0 := Nat.le_refl _
    refine tv_iload_n C (pc := 0) dX6_requireState_0 rfl rfl ?_
    refine tv_if_ne C (pc := 1) 14 dX6_requireState_1 (by decide) (fun hc => ?_) (fun hc => ?_)
    · have h := ts_ifn h hc
      cases h
      exact tv_vret C (pc := 14) rfl dX6_requireState_14 ⟨Nat.le_of_ble_eq_true rfl, Nat.le_of_ble_eq_true rfl⟩
    · have h := ts_ifp h hc
      cases h
      exact tv_throw C (pc := 4) hX th_X6_249_251 dX6_requireState_4 dX6_requireState_7 dX6_requireState_8 dX6_requireState_10 dX6_requireState_13 ⟨Nat.le_of_ble_eq_true rfl, Nat.le_of_ble_eq_true rfl⟩ (fun _ => Nat.le_of_ble_eq_true rfl) ⟨Nat.le_of_ble_eq_true rfl, Nat.le_of_ble_eq_true rfl⟩
set_option maxRecDepth 100000 in
set_option maxHeartbeats 4000000 in
theorem m_X6_begin {l : Launch} {D : va_G} {dT : Nat → ClassId} {sz : Nat} {ad : ts_I → Nat} (hl : l.stackTraces = false) (p1 : Int32) (u : ts_Mem) (r : ((Int32 ⊕ String) × ts_Mem)) (h : f_X6_begin p1 u = some r) : ts_M l D dT sz yX6_begin wX6_begin 2 2 12 ad ts_lv ts_R0 [.inr (0, 0, 0), .inl (.int p1)] u (ts_oI r.1) r.2 := by
    unfold f_X6_begin at h
    refine ts_enter hl (by decide) rfl rfl (Nat.le_of_ble_eq_true rfl) ?_
    intro p e s m args below meth c C hX hnm
    have C : ts_CX D dT sz p l (ts_rm 2 2 12) s m args meth c RX6 cX6_begin 2 (some .int) 2 := C
    have hdd : 2 ≤ 2 := Nat.le_refl _
    refine tv_iload_n C (pc := 0) dX6_begin_0 rfl rfl ?_
    refine tv_if_lt C (pc := 1) 14 dX6_begin_1 (by decide) (fun hc => ?_) (fun hc => ?_)
    · have h := ts_ifp h hc
      refine tv_iconst C (pc := 14) dX6_begin_14 (v := (0 : Int32)) rfl ?_
      obtain ⟨q1, hq1, h⟩ := ts_bd h
      have Mq1 := (m_X6_requireArgument (D := D) (dT := dT) (sz := sz) (ad := ad) hl (0 : Int32) u q1 hq1)
      rcases q1 with v2 | e3
      · have h := ts_eL h
        refine tv_callS C (pc := 15) dX6_begin_15 yl_X6_43 Mq1 (Nat.le_trans (Nat.le_of_ble_eq_true rfl) hdd) (As := [.inl (.int (0 : Int32))]) rfl ⟨Nat.le_of_ble_eq_true rfl, Nat.le_of_ble_eq_true rfl⟩ (fun _ => Nat.le_of_ble_eq_true rfl) rfl ?_
        refine tv_aload_n C (pc := 18) dX6_begin_18 rfl rfl ?_
        refine tv_getR C (pc := 19) dX6_begin_19 fl_X6_12 (ts_live (k := 0) (by decide) (by decide) (by decide)) rfl rfl (i2 := (1, 0, 0)) rfl ?_
        refine tv_getI C (pc := 22) dX6_begin_22 fl_X6_54 (ts_live (k := 1) (by decide) (by decide) (by decide)) rfl (cd := 0) rfl (by decide) ?_
        refine tv_bipush C (pc := 25) dX6_begin_25 (v := (16 : Int32)) rfl ?_
        refine tv_icmp_ge C (pc := 27) 34 dX6_begin_27 (by decide) (fun hc => ?_) (fun hc => ?_)
        · have h := ts_ifp h hc
          refine tv_iconst C (pc := 34) dX6_begin_34 (v := (0 : Int32)) rfl ?_
          obtain ⟨q4, hq4, h⟩ := ts_bd h
          have Mq4 := (m_X6_requireState (D := D) (dT := dT) (sz := sz) (ad := ad) hl (0 : Int32) u q4 hq4)
          rcases q4 with v5 | e6
          · have h := ts_eL h
            refine tv_callS C (pc := 35) dX6_begin_35 yl_X6_57 Mq4 (Nat.le_trans (Nat.le_of_ble_eq_true rfl) hdd) (As := [.inl (.int (0 : Int32))]) rfl ⟨Nat.le_of_ble_eq_true rfl, Nat.le_of_ble_eq_true rfl⟩ (fun _ => Nat.le_of_ble_eq_true rfl) rfl ?_
            refine tv_aload_n C (pc := 38) dX6_begin_38 rfl rfl ?_
            refine tv_getR C (pc := 39) dX6_begin_39 fl_X6_12 (ts_live (k := 0) (by decide) (by decide) (by decide)) rfl rfl (i2 := (1, 0, 0)) rfl ?_
            refine tv_iload_n C (pc := 42) dX6_begin_42 rfl rfl ?_
            obtain ⟨q7, hq7, h⟩ := ts_bd h
            refine tv_callV C (pc := 43) dX6_begin_43 (ci := 0) (q := (RX0, TX0, 8)) rfl yl_X6_60 (m_X0_newTransaction (D := D) (dT := dT) (sz := sz) (ad := ad) hl 0 (by decide) p1 u q7 hq7) (ts_live (k := 1) (by decide) (by decide) (by decide)) rfl (Nat.le_trans (Nat.le_of_ble_eq_true rfl) hdd) (As := [.inl (.int p1)]) rfl ⟨Nat.le_of_ble_eq_true rfl, Nat.le_of_ble_eq_true rfl⟩ (fun _ => Nat.le_of_ble_eq_true rfl) rfl ?_
            cases h
            exact tv_iret C (pc := 46) rfl dX6_begin_46 ⟨Nat.le_of_ble_eq_true rfl, Nat.le_of_ble_eq_true rfl⟩
          · have h := ts_eR h
            cases h
            exact tv_callS_thr C (pc := 35) hX dX6_begin_35 yl_X6_57 Mq4 (Nat.le_trans (Nat.le_of_ble_eq_true rfl) hdd) (As := [.inl (.int (0 : Int32))]) rfl ⟨Nat.le_of_ble_eq_true rfl, Nat.le_of_ble_eq_true rfl⟩ (fun _ => Nat.le_of_ble_eq_true rfl) rfl ⟨Nat.le_of_ble_eq_true rfl, Nat.le_of_ble_eq_true rfl⟩
        · have h := ts_ifn h hc
          refine tv_iconst C (pc := 30) dX6_begin_30 (v := (1 : Int32)) rfl ?_
          refine tv_goto C (pc := 31) 35 dX6_begin_31 (by decide) ?_
          obtain ⟨q8, hq8, h⟩ := ts_bd h
          have Mq8 := (m_X6_requireState (D := D) (dT := dT) (sz := sz) (ad := ad) hl (1 : Int32) u q8 hq8)
          rcases q8 with v9 | e10
          · have h := ts_eL h
            refine tv_callS C (pc := 35) dX6_begin_35 yl_X6_57 Mq8 (Nat.le_trans (Nat.le_of_ble_eq_true rfl) hdd) (As := [.inl (.int (1 : Int32))]) rfl ⟨Nat.le_of_ble_eq_true rfl, Nat.le_of_ble_eq_true rfl⟩ (fun _ => Nat.le_of_ble_eq_true rfl) rfl ?_
            refine tv_aload_n C (pc := 38) dX6_begin_38 rfl rfl ?_
            refine tv_getR C (pc := 39) dX6_begin_39 fl_X6_12 (ts_live (k := 0) (by decide) (by decide) (by decide)) rfl rfl (i2 := (1, 0, 0)) rfl ?_
            refine tv_iload_n C (pc := 42) dX6_begin_42 rfl rfl ?_
            obtain ⟨q11, hq11, h⟩ := ts_bd h
            refine tv_callV C (pc := 43) dX6_begin_43 (ci := 0) (q := (RX0, TX0, 8)) rfl yl_X6_60 (m_X0_newTransaction (D := D) (dT := dT) (sz := sz) (ad := ad) hl 0 (by decide) p1 u q11 hq11) (ts_live (k := 1) (by decide) (by decide) (by decide)) rfl (Nat.le_trans (Nat.le_of_ble_eq_true rfl) hdd) (As := [.inl (.int p1)]) rfl ⟨Nat.le_of_ble_eq_true rfl, Nat.le_of_ble_eq_true rfl⟩ (fun _ => Nat.le_of_ble_eq_true rfl) rfl ?_
            cases h
            exact tv_iret C (pc := 46) rfl dX6_begin_46 ⟨Nat.le_of_ble_eq_true rfl, Nat.le_of_ble_eq_true rfl⟩
          · have h := ts_eR h
            cases h
            exact tv_callS_thr C (pc := 35) hX dX6_begin_35 yl_X6_57 Mq8 (Nat.le_trans (Nat.le_of_ble_eq_true rfl) hdd) (As := [.inl (.int (1 : Int32))]) rfl ⟨Nat.le_of_ble_eq_true rfl, Nat.le_of_ble_eq_true rfl⟩ (fun _ => Nat.le_of_ble_eq_true rfl) rfl ⟨Nat.le_of_ble_eq_true rfl, Nat.le_of_ble_eq_true rfl⟩
      · have h := ts_eR h
        cases h
        exact tv_callS_thr C (pc := 15) hX dX6_begin_15 yl_X6_43 Mq1 (Nat.le_trans (Nat.le_of_ble_eq_true rfl) hdd) (As := [.inl (.int (0 : Int32))]) rfl ⟨Nat.le_of_ble_eq_true rfl, Nat.le_of_ble_eq_true rfl⟩ (fun _ => Nat.le_of_ble_eq_true rfl) rfl ⟨Nat.le_of_ble_eq_true rfl, Nat.le_of_ble_eq_true rfl⟩
    · have h := ts_ifn h hc
      refine tv_iload_n C (pc := 4) dX6_begin_4 rfl rfl ?_
      refine tv_bipush C (pc := 5) dX6_begin_5 (v := (9 : Int32)) rfl ?_
      refine tv_icmp_gt C (pc := 7) 14 dX6_begin_7 (by decide) (fun hc => ?_) (fun hc => ?_)
      · have h := ts_ifp h hc
        refine tv_iconst C (pc := 14) dX6_begin_14 (v := (0 : Int32)) rfl ?_
        obtain ⟨q12, hq12, h⟩ := ts_bd h
        have Mq12 := (m_X6_requireArgument (D := D) (dT := dT) (sz := sz) (ad := ad) hl (0 : Int32) u q12 hq12)
        rcases q12 with v13 | e14
        · have h := ts_eL h
          refine tv_callS C (pc := 15) dX6_begin_15 yl_X6_43 Mq12 (Nat.le_trans (Nat.le_of_ble_eq_true rfl) hdd) (As := [.inl (.int (0 : Int32))]) rfl ⟨Nat.le_of_ble_eq_true rfl, Nat.le_of_ble_eq_true rfl⟩ (fun _ => Nat.le_of_ble_eq_true rfl) rfl ?_
          refine tv_aload_n C (pc := 18) dX6_begin_18 rfl rfl ?_
          refine tv_getR C (pc := 19) dX6_begin_19 fl_X6_12 (ts_live (k := 0) (by decide) (by decide) (by decide)) rfl rfl (i2 := (1, 0, 0)) rfl ?_
          refine tv_getI C (pc := 22) dX6_begin_22 fl_X6_54 (ts_live (k := 1) (by decide) (by decide) (by decide)) rfl (cd := 0) rfl (by decide) ?_
          refine tv_bipush C (pc := 25) dX6_begin_25 (v := (16 : Int32)) rfl ?_
          refine tv_icmp_ge C (pc := 27) 34 dX6_begin_27 (by decide) (fun hc => ?_) (fun hc => ?_)
          · have h := ts_ifp h hc
            refine tv_iconst C (pc := 34) dX6_begin_34 (v := (0 : Int32)) rfl ?_
            obtain ⟨q15, hq15, h⟩ := ts_bd h
            have Mq15 := (m_X6_requireState (D := D) (dT := dT) (sz := sz) (ad := ad) hl (0 : Int32) u q15 hq15)
            rcases q15 with v16 | e17
            · have h := ts_eL h
              refine tv_callS C (pc := 35) dX6_begin_35 yl_X6_57 Mq15 (Nat.le_trans (Nat.le_of_ble_eq_true rfl) hdd) (As := [.inl (.int (0 : Int32))]) rfl ⟨Nat.le_of_ble_eq_true rfl, Nat.le_of_ble_eq_true rfl⟩ (fun _ => Nat.le_of_ble_eq_true rfl) rfl ?_
              refine tv_aload_n C (pc := 38) dX6_begin_38 rfl rfl ?_
              refine tv_getR C (pc := 39) dX6_begin_39 fl_X6_12 (ts_live (k := 0) (by decide) (by decide) (by decide)) rfl rfl (i2 := (1, 0, 0)) rfl ?_
              refine tv_iload_n C (pc := 42) dX6_begin_42 rfl rfl ?_
              obtain ⟨q18, hq18, h⟩ := ts_bd h
              refine tv_callV C (pc := 43) dX6_begin_43 (ci := 0) (q := (RX0, TX0, 8)) rfl yl_X6_60 (m_X0_newTransaction (D := D) (dT := dT) (sz := sz) (ad := ad) hl 0 (by decide) p1 u q18 hq18) (ts_live (k := 1) (by decide) (by decide) (by decide)) rfl (Nat.le_trans (Nat.le_of_ble_eq_true rfl) hdd) (As := [.inl (.int p1)]) rfl ⟨Nat.le_of_ble_eq_true rfl, Nat.le_of_ble_eq_true rfl⟩ (fun _ => Nat.le_of_ble_eq_true rfl) rfl ?_
              cases h
              exact tv_iret C (pc := 46) rfl dX6_begin_46 ⟨Nat.le_of_ble_eq_true rfl, Nat.le_of_ble_eq_true rfl⟩
            · have h := ts_eR h
              cases h
              exact tv_callS_thr C (pc := 35) hX dX6_begin_35 yl_X6_57 Mq15 (Nat.le_trans (Nat.le_of_ble_eq_true rfl) hdd) (As := [.inl (.int (0 : Int32))]) rfl ⟨Nat.le_of_ble_eq_true rfl, Nat.le_of_ble_eq_true rfl⟩ (fun _ => Nat.le_of_ble_eq_true rfl) rfl ⟨Nat.le_of_ble_eq_true rfl, Nat.le_of_ble_eq_true rfl⟩
          · have h := ts_ifn h hc
            refine tv_iconst C (pc := 30) dX6_begin_30 (v := (1 : Int32)) rfl ?_
            refine tv_goto C (pc := 31) 35 dX6_begin_31 (by decide) ?_
            obtain ⟨q19, hq19, h⟩ := ts_bd h
            have Mq19 := (m_X6_requireState (D := D) (dT := dT) (sz := sz) (ad := ad) hl (1 : Int32) u q19 hq19)
            rcases q19 with v20 | e21
            · have h := ts_eL h
              refine tv_callS C (pc := 35) dX6_begin_35 yl_X6_57 Mq19 (Nat.le_trans (Nat.le_of_ble_eq_true rfl) hdd) (As := [.inl (.int (1 : Int32))]) rfl ⟨Nat.le_of_ble_eq_true rfl, Nat.le_of_ble_eq_true rfl⟩ (fun _ => Nat.le_of_ble_eq_true rfl) rfl ?_
              refine tv_aload_n C (pc := 38) dX6_begin_38 rfl rfl ?_
              refine tv_getR C (pc := 39) dX6_begin_39 fl_X6_12 (ts_live (k := 0) (by decide) (by decide) (by decide)) rfl rfl (i2 := (1, 0, 0)) rfl ?_
              refine tv_iload_n C (pc := 42) dX6_begin_42 rfl rfl ?_
              obtain ⟨q22, hq22, h⟩ := ts_bd h
              refine tv_callV C (pc := 43) dX6_begin_43 (ci := 0) (q := (RX0, TX0, 8)) rfl yl_X6_60 (m_X0_newTransaction (D := D) (dT := dT) (sz := sz) (ad := ad) hl 0 (by decide) p1 u q22 hq22) (ts_live (k := 1) (by decide) (by decide) (by decide)) rfl (Nat.le_trans (Nat.le_of_ble_eq_true rfl) hdd) (As := [.inl (.int p1)]) rfl ⟨Nat.le_of_ble_eq_true rfl, Nat.le_of_ble_eq_true rfl⟩ (fun _ => Nat.le_of_ble_eq_true rfl) rfl ?_
              cases h
              exact tv_iret C (pc := 46) rfl dX6_begin_46 ⟨Nat.le_of_ble_eq_true rfl, Nat.le_of_ble_eq_true rfl⟩
            · have h := ts_eR h
              cases h
              exact tv_callS_thr C (pc := 35) hX dX6_begin_35 yl_X6_57 Mq19 (Nat.le_trans (Nat.le_of_ble_eq_true rfl) hdd) (As := [.inl (.int (1 : Int32))]) rfl ⟨Nat.le_of_ble_eq_true rfl, Nat.le_of_ble_eq_true rfl⟩ (fun _ => Nat.le_of_ble_eq_true rfl) rfl ⟨Nat.le_of_ble_eq_true rfl, Nat.le_of_ble_eq_true rfl⟩
        · have h := ts_eR h
          cases h
          exact tv_callS_thr C (pc := 15) hX dX6_begin_15 yl_X6_43 Mq12 (Nat.le_trans (Nat.le_of_ble_eq_true rfl) hdd) (As := [.inl (.int (0 : Int32))]) rfl ⟨Nat.le_of_ble_eq_true rfl, Nat.le_of_ble_eq_true rfl⟩ (fun _ => Nat.le_of_ble_eq_true rfl) rfl ⟨Nat.le_of_ble_eq_true rfl, Nat.le_of_ble_eq_true rfl⟩
      · have h := ts_ifn h hc
        refine tv_iconst C (pc := 10) dX6_begin_10 (v := (1 : Int32)) rfl ?_
        refine tv_goto C (pc := 11) 15 dX6_begin_11 (by decide) ?_
        obtain ⟨q23, hq23, h⟩ := ts_bd h
        have Mq23 := (m_X6_requireArgument (D := D) (dT := dT) (sz := sz) (ad := ad) hl (1 : Int32) u q23 hq23)
        rcases q23 with v24 | e25
        · have h := ts_eL h
          refine tv_callS C (pc := 15) dX6_begin_15 yl_X6_43 Mq23 (Nat.le_trans (Nat.le_of_ble_eq_true rfl) hdd) (As := [.inl (.int (1 : Int32))]) rfl ⟨Nat.le_of_ble_eq_true rfl, Nat.le_of_ble_eq_true rfl⟩ (fun _ => Nat.le_of_ble_eq_true rfl) rfl ?_
          refine tv_aload_n C (pc := 18) dX6_begin_18 rfl rfl ?_
          refine tv_getR C (pc := 19) dX6_begin_19 fl_X6_12 (ts_live (k := 0) (by decide) (by decide) (by decide)) rfl rfl (i2 := (1, 0, 0)) rfl ?_
          refine tv_getI C (pc := 22) dX6_begin_22 fl_X6_54 (ts_live (k := 1) (by decide) (by decide) (by decide)) rfl (cd := 0) rfl (by decide) ?_
          refine tv_bipush C (pc := 25) dX6_begin_25 (v := (16 : Int32)) rfl ?_
          refine tv_icmp_ge C (pc := 27) 34 dX6_begin_27 (by decide) (fun hc => ?_) (fun hc => ?_)
          · have h := ts_ifp h hc
            refine tv_iconst C (pc := 34) dX6_begin_34 (v := (0 : Int32)) rfl ?_
            obtain ⟨q26, hq26, h⟩ := ts_bd h
            have Mq26 := (m_X6_requireState (D := D) (dT := dT) (sz := sz) (ad := ad) hl (0 : Int32) u q26 hq26)
            rcases q26 with v27 | e28
            · have h := ts_eL h
              refine tv_callS C (pc := 35) dX6_begin_35 yl_X6_57 Mq26 (Nat.le_trans (Nat.le_of_ble_eq_true rfl) hdd) (As := [.inl (.int (0 : Int32))]) rfl ⟨Nat.le_of_ble_eq_true rfl, Nat.le_of_ble_eq_true rfl⟩ (fun _ => Nat.le_of_ble_eq_true rfl) rfl ?_
              refine tv_aload_n C (pc := 38) dX6_begin_38 rfl rfl ?_
              refine tv_getR C (pc := 39) dX6_begin_39 fl_X6_12 (ts_live (k := 0) (by decide) (by decide) (by decide)) rfl rfl (i2 := (1, 0, 0)) rfl ?_
              refine tv_iload_n C (pc := 42) dX6_begin_42 rfl rfl ?_
              obtain ⟨q29, hq29, h⟩ := ts_bd h
              refine tv_callV C (pc := 43) dX6_begin_43 (ci := 0) (q := (RX0, TX0, 8)) rfl yl_X6_60 (m_X0_newTransaction (D := D) (dT := dT) (sz := sz) (ad := ad) hl 0 (by decide) p1 u q29 hq29) (ts_live (k := 1) (by decide) (by decide) (by decide)) rfl (Nat.le_trans (Nat.le_of_ble_eq_true rfl) hdd) (As := [.inl (.int p1)]) rfl ⟨Nat.le_of_ble_eq_true rfl, Nat.le_of_ble_eq_true rfl⟩ (fun _ => Nat.le_of_ble_eq_true rfl) rfl ?_
              cases h
              exact tv_iret C (pc := 46) rfl dX6_begin_46 ⟨Nat.le_of_ble_eq_true rfl, Nat.le_of_ble_eq_true rfl⟩
            · have h := ts_eR h
              cases h
              exact tv_callS_thr C (pc := 35) hX dX6_begin_35 yl_X6_57 Mq26 (Nat.le_trans (Nat.le_of_ble_eq_true rfl) hdd) (As := [.inl (.int (0 : Int32))]) rfl ⟨Nat.le_of_ble_eq_true rfl, Nat.le_of_ble_eq_true rfl⟩ (fun _ => Nat.le_of_ble_eq_true rfl) rfl ⟨Nat.le_of_ble_eq_true rfl, Nat.le_of_ble_eq_true rfl⟩
          · have h := ts_ifn h hc
            refine tv_iconst C (pc := 30) dX6_begin_30 (v := (1 : Int32)) rfl ?_
            refine tv_goto C (pc := 31) 35 dX6_begin_31 (by decide) ?_
            obtain ⟨q30, hq30, h⟩ := ts_bd h
            have Mq30 := (m_X6_requireState (D := D) (dT := dT) (sz := sz) (ad := ad) hl (1 : Int32) u q30 hq30)
            rcases q30 with v31 | e32
            · have h := ts_eL h
              refine tv_callS C (pc := 35) dX6_begin_35 yl_X6_57 Mq30 (Nat.le_trans (Nat.le_of_ble_eq_true rfl) hdd) (As := [.inl (.int (1 : Int32))]) rfl ⟨Nat.le_of_ble_eq_true rfl, Nat.le_of_ble_eq_true rfl⟩ (fun _ => Nat.le_of_ble_eq_true rfl) rfl ?_
              refine tv_aload_n C (pc := 38) dX6_begin_38 rfl rfl ?_
              refine tv_getR C (pc := 39) dX6_begin_39 fl_X6_12 (ts_live (k := 0) (by decide) (by decide) (by decide)) rfl rfl (i2 := (1, 0, 0)) rfl ?_
              refine tv_iload_n C (pc := 42) dX6_begin_42 rfl rfl ?_
              obtain ⟨q33, hq33, h⟩ := ts_bd h
              refine tv_callV C (pc := 43) dX6_begin_43 (ci := 0) (q := (RX0, TX0, 8)) rfl yl_X6_60 (m_X0_newTransaction (D := D) (dT := dT) (sz := sz) (ad := ad) hl 0 (by decide) p1 u q33 hq33) (ts_live (k := 1) (by decide) (by decide) (by decide)) rfl (Nat.le_trans (Nat.le_of_ble_eq_true rfl) hdd) (As := [.inl (.int p1)]) rfl ⟨Nat.le_of_ble_eq_true rfl, Nat.le_of_ble_eq_true rfl⟩ (fun _ => Nat.le_of_ble_eq_true rfl) rfl ?_
              cases h
              exact tv_iret C (pc := 46) rfl dX6_begin_46 ⟨Nat.le_of_ble_eq_true rfl, Nat.le_of_ble_eq_true rfl⟩
            · have h := ts_eR h
              cases h
              exact tv_callS_thr C (pc := 35) hX dX6_begin_35 yl_X6_57 Mq30 (Nat.le_trans (Nat.le_of_ble_eq_true rfl) hdd) (As := [.inl (.int (1 : Int32))]) rfl ⟨Nat.le_of_ble_eq_true rfl, Nat.le_of_ble_eq_true rfl⟩ (fun _ => Nat.le_of_ble_eq_true rfl) rfl ⟨Nat.le_of_ble_eq_true rfl, Nat.le_of_ble_eq_true rfl⟩
        · have h := ts_eR h
          cases h
          exact tv_callS_thr C (pc := 15) hX dX6_begin_15 yl_X6_43 Mq23 (Nat.le_trans (Nat.le_of_ble_eq_true rfl) hdd) (As := [.inl (.int (1 : Int32))]) rfl ⟨Nat.le_of_ble_eq_true rfl, Nat.le_of_ble_eq_true rfl⟩ (fun _ => Nat.le_of_ble_eq_true rfl) rfl ⟨Nat.le_of_ble_eq_true rfl, Nat.le_of_ble_eq_true rfl⟩
set_option maxRecDepth 100000 in
set_option maxHeartbeats 4000000 in
theorem m_X6_isTransaction {l : Launch} {D : va_G} {dT : Nat → ClassId} {sz : Nat} {ad : ts_I → Nat} (hl : l.stackTraces = false) (p1 : Int32) (u : ts_Mem) (r : Int32) (h : f_X6_isTransaction p1 u = some r) : ts_M l D dT sz yX6_isTransaction wX6_isTransaction 0 0 0 ad ts_lv ts_R0 [.inr (0, 0, 0), .inl (.int p1)] u (.inl (some (.int r))) u := by
    unfold f_X6_isTransaction at h
    refine ts_enter hl (by decide) rfl rfl (Nat.le_of_ble_eq_true rfl) ?_
    intro p e s m args below meth c C hX hnm
    have C : ts_CX D dT sz p l (ts_rm 0 0 0) s m args meth c RX6 cX6_isTransaction 2 (some .boolean) 0 := C
    have hdd : 0 ≤ 0 := Nat.le_refl _
    refine tv_iload_n C (pc := 0) dX6_isTransaction_0 rfl rfl ?_
    refine tv_if_lt C (pc := 1) 19 dX6_isTransaction_1 (by decide) (fun hc => ?_) (fun hc => ?_)
    · have h := ts_ifp h hc
      refine tv_iconst C (pc := 19) dX6_isTransaction_19 (v := (0 : Int32)) rfl ?_
      cases h
      exact tv_zret C (pc := 20) (v := (0 : Int32)) rfl ts_nz0 dX6_isTransaction_20 ⟨Nat.le_of_ble_eq_true rfl, Nat.le_of_ble_eq_true rfl⟩
    · have h := ts_ifn h hc
      refine tv_iload_n C (pc := 4) dX6_isTransaction_4 rfl rfl ?_
      refine tv_aload_n C (pc := 5) dX6_isTransaction_5 rfl rfl ?_
      refine tv_getR C (pc := 6) dX6_isTransaction_6 fl_X6_12 (ts_live (k := 0) (by decide) (by decide) (by decide)) rfl rfl (i2 := (1, 0, 0)) rfl ?_
      refine tv_getI C (pc := 9) dX6_isTransaction_9 fl_X6_54 (ts_live (k := 1) (by decide) (by decide) (by decide)) rfl (cd := 0) rfl (by decide) ?_
      refine tv_icmp_ge C (pc := 12) 19 dX6_isTransaction_12 (by decide) (fun hc => ?_) (fun hc => ?_)
      · have h := ts_ifp h hc
        refine tv_iconst C (pc := 19) dX6_isTransaction_19 (v := (0 : Int32)) rfl ?_
        cases h
        exact tv_zret C (pc := 20) (v := (0 : Int32)) rfl ts_nz0 dX6_isTransaction_20 ⟨Nat.le_of_ble_eq_true rfl, Nat.le_of_ble_eq_true rfl⟩
      · have h := ts_ifn h hc
        refine tv_iconst C (pc := 15) dX6_isTransaction_15 (v := (1 : Int32)) rfl ?_
        refine tv_goto C (pc := 16) 20 dX6_isTransaction_16 (by decide) ?_
        cases h
        exact tv_zret C (pc := 20) (v := (1 : Int32)) rfl ts_nz1 dX6_isTransaction_20 ⟨Nat.le_of_ble_eq_true rfl, Nat.le_of_ble_eq_true rfl⟩
set_option maxRecDepth 100000 in
set_option maxHeartbeats 4000000 in
theorem m_X6_isItem {l : Launch} {D : va_G} {dT : Nat → ClassId} {sz : Nat} {ad : ts_I → Nat} (hl : l.stackTraces = false) (p0 : Int32) (u : ts_Mem) (r : Int32) (h : f_X6_isItem p0 u = some r) : ts_M l D dT sz yX6_isItem wX6_isItem 0 0 0 ad ts_lv ts_R0 [.inl (.int p0)] u (.inl (some (.int r))) u := by
    unfold f_X6_isItem at h
    refine ts_enter hl (by decide) rfl rfl (Nat.le_of_ble_eq_true rfl) ?_
    intro p e s m args below meth c C hX hnm
    have C : ts_CX D dT sz p l (ts_rm 0 0 0) s m args meth c RX6 cX6_isItem 1 (some .boolean) 0 := C
    have hdd : 0 ≤ 0 := Nat.le_refl _
    refine tv_iload_n C (pc := 0) dX6_isItem_0 rfl rfl ?_
    refine tv_if_lt C (pc := 1) 14 dX6_isItem_1 (by decide) (fun hc => ?_) (fun hc => ?_)
    · have h := ts_ifp h hc
      refine tv_iconst C (pc := 14) dX6_isItem_14 (v := (0 : Int32)) rfl ?_
      cases h
      exact tv_zret C (pc := 15) (v := (0 : Int32)) rfl ts_nz0 dX6_isItem_15 ⟨Nat.le_of_ble_eq_true rfl, Nat.le_of_ble_eq_true rfl⟩
    · have h := ts_ifn h hc
      refine tv_iload_n C (pc := 4) dX6_isItem_4 rfl rfl ?_
      refine tv_bipush C (pc := 5) dX6_isItem_5 (v := (8 : Int32)) rfl ?_
      refine tv_icmp_ge C (pc := 7) 14 dX6_isItem_7 (by decide) (fun hc => ?_) (fun hc => ?_)
      · have h := ts_ifp h hc
        refine tv_iconst C (pc := 14) dX6_isItem_14 (v := (0 : Int32)) rfl ?_
        cases h
        exact tv_zret C (pc := 15) (v := (0 : Int32)) rfl ts_nz0 dX6_isItem_15 ⟨Nat.le_of_ble_eq_true rfl, Nat.le_of_ble_eq_true rfl⟩
      · have h := ts_ifn h hc
        refine tv_iconst C (pc := 10) dX6_isItem_10 (v := (1 : Int32)) rfl ?_
        refine tv_goto C (pc := 11) 15 dX6_isItem_11 (by decide) ?_
        cases h
        exact tv_zret C (pc := 15) (v := (1 : Int32)) rfl ts_nz1 dX6_isItem_15 ⟨Nat.le_of_ble_eq_true rfl, Nat.le_of_ble_eq_true rfl⟩
set_option maxRecDepth 100000 in
set_option maxHeartbeats 4000000 in
theorem m_X6_requireIndex {l : Launch} {D : va_G} {dT : Nat → ClassId} {sz : Nat} {ad : ts_I → Nat} (hl : l.stackTraces = false) (p0 : Int32) (u : ts_Mem) (r : (Unit ⊕ String)) (h : f_X6_requireIndex p0 u = some r) : ts_M l D dT sz yX6_requireIndex wX6_requireIndex 0 1 6 ad ts_lv ts_R0 [.inl (.int p0)] u (ts_oU r) u := by
    unfold f_X6_requireIndex at h
    refine ts_enter hl (by decide) rfl rfl (Nat.le_of_ble_eq_true rfl) ?_
    intro p e s m args below meth c C hX hnm
    have C : ts_CX D dT sz p l (ts_rm 0 1 6) s m args meth c RX6 cX6_requireIndex 1 none 0 := C
    have hdd : 0 ≤ 0 := Nat.le_refl _
    refine tv_iload_n C (pc := 0) dX6_requireIndex_0 rfl rfl ?_
    refine tv_if_ne C (pc := 1) 14 dX6_requireIndex_1 (by decide) (fun hc => ?_) (fun hc => ?_)
    · have h := ts_ifn h hc
      cases h
      exact tv_vret C (pc := 14) rfl dX6_requireIndex_14 ⟨Nat.le_of_ble_eq_true rfl, Nat.le_of_ble_eq_true rfl⟩
    · have h := ts_ifp h hc
      cases h
      exact tv_throw C (pc := 4) hX th_X6_239_241 dX6_requireIndex_4 dX6_requireIndex_7 dX6_requireIndex_8 dX6_requireIndex_10 dX6_requireIndex_13 ⟨Nat.le_of_ble_eq_true rfl, Nat.le_of_ble_eq_true rfl⟩ (fun _ => Nat.le_of_ble_eq_true rfl) ⟨Nat.le_of_ble_eq_true rfl, Nat.le_of_ble_eq_true rfl⟩
set_option maxRecDepth 100000 in
set_option maxHeartbeats 4000000 in
theorem m_X6_requireActiveWithRoom {l : Launch} {D : va_G} {dT : Nat → ClassId} {sz : Nat} {ad : ts_I → Nat} (hl : l.stackTraces = false) (p1 : Int32) (p2 : Int32) (u : ts_Mem) (r : (Unit ⊕ String)) (h : f_X6_requireActiveWithRoom p1 p2 u = some r) : ts_M l D dT sz yX6_requireActiveWithRoom wX6_requireActiveWithRoom 1 2 12 ad ts_lv ts_R0 [.inr (0, 0, 0), .inl (.int p1), .inl (.int p2)] u (ts_oU r) u := by
    unfold f_X6_requireActiveWithRoom at h
    refine ts_enter hl (by decide) rfl rfl (Nat.le_of_ble_eq_true rfl) ?_
    intro p e s m args below meth c C hX hnm
    have C : ts_CX D dT sz p l (ts_rm 1 2 12) s m args meth c RX6 cX6_requireActiveWithRoom 3 none 1 := C
    have hdd : 1 ≤ 1 := Nat.le_refl _
    refine tv_aload_n C (pc := 0) dX6_requireActiveWithRoom_0 rfl rfl ?_
    refine tv_getR C (pc := 1) dX6_requireActiveWithRoom_1 fl_X6_12 (ts_live (k := 0) (by decide) (by decide) (by decide)) rfl rfl (i2 := (1, 0, 0)) rfl ?_
    refine tv_getR C (pc := 4) dX6_requireActiveWithRoom_4 fl_X6_82 (ts_live (k := 1) (by decide) (by decide) (by decide)) rfl rfl (i2 := (2, 0, 0)) rfl ?_
    refine tv_iload_n C (pc := 7) dX6_requireActiveWithRoom_7 rfl rfl ?_
    obtain ⟨hr1, h⟩ := ts_gd h
    refine tv_aaload5 C (pc := 8) dX6_requireActiveWithRoom_8 (ts_live (k := 2) (by decide) (by decide) (by decide)) rfl hr1 (j := p1.toNatClampNeg) rfl (i2 := (11, 0, p1.toNatClampNeg)) rfl ?_
    refine tv_getI C (pc := 9) dX6_requireActiveWithRoom_9 fl_X6_86 (ts_live (k := 11) (by decide) (by decide) (ts_vin hr1)) rfl (cd := 0) rfl (by decide) ?_
    refine tv_if_ne C (pc := 12) 19 dX6_requireActiveWithRoom_12 (by decide) (fun hc => ?_) (fun hc => ?_)
    · have h := ts_ifn h hc
      refine tv_iconst C (pc := 19) dX6_requireActiveWithRoom_19 (v := (0 : Int32)) rfl ?_
      obtain ⟨q2, hq2, h⟩ := ts_bd h
      have Mq2 := (m_X6_requireState (D := D) (dT := dT) (sz := sz) (ad := ad) hl (0 : Int32) u q2 hq2)
      rcases q2 with v3 | e4
      · have h := ts_eL h
        refine tv_callS C (pc := 20) dX6_requireActiveWithRoom_20 yl_X6_57 Mq2 (Nat.le_trans (Nat.le_of_ble_eq_true rfl) hdd) (As := [.inl (.int (0 : Int32))]) rfl ⟨Nat.le_of_ble_eq_true rfl, Nat.le_of_ble_eq_true rfl⟩ (fun _ => Nat.le_of_ble_eq_true rfl) rfl ?_
        refine tv_aload_n C (pc := 23) dX6_requireActiveWithRoom_23 rfl rfl ?_
        refine tv_getR C (pc := 24) dX6_requireActiveWithRoom_24 fl_X6_12 (ts_live (k := 0) (by decide) (by decide) (by decide)) rfl rfl (i2 := (1, 0, 0)) rfl ?_
        refine tv_getR C (pc := 27) dX6_requireActiveWithRoom_27 fl_X6_82 (ts_live (k := 1) (by decide) (by decide) (by decide)) rfl rfl (i2 := (2, 0, 0)) rfl ?_
        refine tv_iload_n C (pc := 30) dX6_requireActiveWithRoom_30 rfl rfl ?_
        obtain ⟨hr5, h⟩ := ts_gd h
        refine tv_aaload5 C (pc := 31) dX6_requireActiveWithRoom_31 (ts_live (k := 2) (by decide) (by decide) (by decide)) rfl hr5 (j := p1.toNatClampNeg) rfl (i2 := (11, 0, p1.toNatClampNeg)) rfl ?_
        refine tv_getI C (pc := 32) dX6_requireActiveWithRoom_32 fl_X6_138 (ts_live (k := 11) (by decide) (by decide) (ts_vin hr5)) rfl (cd := 0) rfl (by decide) ?_
        refine tv_iload_n C (pc := 35) dX6_requireActiveWithRoom_35 rfl rfl ?_
        refine tv_iadd C (pc := 36) dX6_requireActiveWithRoom_36 ?_
        refine tv_bipush C (pc := 37) dX6_requireActiveWithRoom_37 (v := (20 : Int32)) rfl ?_
        refine tv_icmp_le C (pc := 39) 52 dX6_requireActiveWithRoom_39 (by decide) (fun hc => ?_) (fun hc => ?_)
        · have h := ts_ifp h hc
          cases h
          exact tv_vret C (pc := 52) rfl dX6_requireActiveWithRoom_52 ⟨Nat.le_of_ble_eq_true rfl, Nat.le_of_ble_eq_true rfl⟩
        · have h := ts_ifn h hc
          cases h
          exact tv_throw C (pc := 42) hX th_X6_234_236 dX6_requireActiveWithRoom_42 dX6_requireActiveWithRoom_45 dX6_requireActiveWithRoom_46 dX6_requireActiveWithRoom_48 dX6_requireActiveWithRoom_51 ⟨Nat.le_of_ble_eq_true rfl, Nat.le_of_ble_eq_true rfl⟩ (fun _ => Nat.le_of_ble_eq_true rfl) ⟨Nat.le_of_ble_eq_true rfl, Nat.le_of_ble_eq_true rfl⟩
      · have h := ts_eR h
        cases h
        exact tv_callS_thr C (pc := 20) hX dX6_requireActiveWithRoom_20 yl_X6_57 Mq2 (Nat.le_trans (Nat.le_of_ble_eq_true rfl) hdd) (As := [.inl (.int (0 : Int32))]) rfl ⟨Nat.le_of_ble_eq_true rfl, Nat.le_of_ble_eq_true rfl⟩ (fun _ => Nat.le_of_ble_eq_true rfl) rfl ⟨Nat.le_of_ble_eq_true rfl, Nat.le_of_ble_eq_true rfl⟩
    · have h := ts_ifp h hc
      refine tv_iconst C (pc := 15) dX6_requireActiveWithRoom_15 (v := (1 : Int32)) rfl ?_
      refine tv_goto C (pc := 16) 20 dX6_requireActiveWithRoom_16 (by decide) ?_
      obtain ⟨q6, hq6, h⟩ := ts_bd h
      have Mq6 := (m_X6_requireState (D := D) (dT := dT) (sz := sz) (ad := ad) hl (1 : Int32) u q6 hq6)
      rcases q6 with v7 | e8
      · have h := ts_eL h
        refine tv_callS C (pc := 20) dX6_requireActiveWithRoom_20 yl_X6_57 Mq6 (Nat.le_trans (Nat.le_of_ble_eq_true rfl) hdd) (As := [.inl (.int (1 : Int32))]) rfl ⟨Nat.le_of_ble_eq_true rfl, Nat.le_of_ble_eq_true rfl⟩ (fun _ => Nat.le_of_ble_eq_true rfl) rfl ?_
        refine tv_aload_n C (pc := 23) dX6_requireActiveWithRoom_23 rfl rfl ?_
        refine tv_getR C (pc := 24) dX6_requireActiveWithRoom_24 fl_X6_12 (ts_live (k := 0) (by decide) (by decide) (by decide)) rfl rfl (i2 := (1, 0, 0)) rfl ?_
        refine tv_getR C (pc := 27) dX6_requireActiveWithRoom_27 fl_X6_82 (ts_live (k := 1) (by decide) (by decide) (by decide)) rfl rfl (i2 := (2, 0, 0)) rfl ?_
        refine tv_iload_n C (pc := 30) dX6_requireActiveWithRoom_30 rfl rfl ?_
        obtain ⟨hr9, h⟩ := ts_gd h
        refine tv_aaload5 C (pc := 31) dX6_requireActiveWithRoom_31 (ts_live (k := 2) (by decide) (by decide) (by decide)) rfl hr9 (j := p1.toNatClampNeg) rfl (i2 := (11, 0, p1.toNatClampNeg)) rfl ?_
        refine tv_getI C (pc := 32) dX6_requireActiveWithRoom_32 fl_X6_138 (ts_live (k := 11) (by decide) (by decide) (ts_vin hr9)) rfl (cd := 0) rfl (by decide) ?_
        refine tv_iload_n C (pc := 35) dX6_requireActiveWithRoom_35 rfl rfl ?_
        refine tv_iadd C (pc := 36) dX6_requireActiveWithRoom_36 ?_
        refine tv_bipush C (pc := 37) dX6_requireActiveWithRoom_37 (v := (20 : Int32)) rfl ?_
        refine tv_icmp_le C (pc := 39) 52 dX6_requireActiveWithRoom_39 (by decide) (fun hc => ?_) (fun hc => ?_)
        · have h := ts_ifp h hc
          cases h
          exact tv_vret C (pc := 52) rfl dX6_requireActiveWithRoom_52 ⟨Nat.le_of_ble_eq_true rfl, Nat.le_of_ble_eq_true rfl⟩
        · have h := ts_ifn h hc
          cases h
          exact tv_throw C (pc := 42) hX th_X6_234_236 dX6_requireActiveWithRoom_42 dX6_requireActiveWithRoom_45 dX6_requireActiveWithRoom_46 dX6_requireActiveWithRoom_48 dX6_requireActiveWithRoom_51 ⟨Nat.le_of_ble_eq_true rfl, Nat.le_of_ble_eq_true rfl⟩ (fun _ => Nat.le_of_ble_eq_true rfl) ⟨Nat.le_of_ble_eq_true rfl, Nat.le_of_ble_eq_true rfl⟩
      · have h := ts_eR h
        cases h
        exact tv_callS_thr C (pc := 20) hX dX6_requireActiveWithRoom_20 yl_X6_57 Mq6 (Nat.le_trans (Nat.le_of_ble_eq_true rfl) hdd) (As := [.inl (.int (1 : Int32))]) rfl ⟨Nat.le_of_ble_eq_true rfl, Nat.le_of_ble_eq_true rfl⟩ (fun _ => Nat.le_of_ble_eq_true rfl) rfl ⟨Nat.le_of_ble_eq_true rfl, Nat.le_of_ble_eq_true rfl⟩
set_option maxRecDepth 100000 in
set_option maxHeartbeats 4000000 in
theorem m_X6_read {l : Launch} {D : va_G} {dT : Nat → ClassId} {sz : Nat} {ad : ts_I → Nat} (hl : l.stackTraces = false) (p1 : Int32) (p2 : Int32) (u : ts_Mem) (r : ((Int32 ⊕ String) × ts_Mem)) (h : f_X6_read p1 p2 u = some r) : ts_M l D dT sz yX6_read wX6_read 6 3 18 ad ts_lv ts_R0 [.inr (0, 0, 0), .inl (.int p1), .inl (.int p2)] u (ts_oI r.1) r.2 := by
    unfold f_X6_read at h
    refine ts_enter hl (by decide) rfl rfl (Nat.le_of_ble_eq_true rfl) ?_
    intro p e s m args below meth c C hX hnm
    have C : ts_CX D dT sz p l (ts_rm 6 3 18) s m args meth c RX6 cX6_read 3 (some .int) 6 := C
    have hdd : 6 ≤ 6 := Nat.le_refl _
    refine tv_aload_n C (pc := 0) dX6_read_0 rfl rfl ?_
    refine tv_iload_n C (pc := 1) dX6_read_1 rfl rfl ?_
    obtain ⟨q1, hq1, h⟩ := ts_bd h
    refine tv_callV C (pc := 2) dX6_read_2 (ci := 6) (q := (RX6, TX6, 6)) rfl yl_X6_64 (m_X6_isTransaction (D := D) (dT := dT) (sz := sz) (ad := ad) hl p1 u q1 hq1) (ts_live (k := 0) (by decide) (by decide) (by decide)) rfl (Nat.le_trans (Nat.le_of_ble_eq_true rfl) hdd) (As := [.inl (.int p1)]) rfl ⟨Nat.le_of_ble_eq_true rfl, Nat.le_of_ble_eq_true rfl⟩ (fun _ => Nat.le_of_ble_eq_true rfl) rfl ?_
    refine tv_if_eq C (pc := 5) 19 dX6_read_5 (by decide) (fun hc => ?_) (fun hc => ?_)
    · have h := ts_ifp h hc
      refine tv_iconst C (pc := 19) dX6_read_19 (v := (0 : Int32)) rfl ?_
      obtain ⟨q2, hq2, h⟩ := ts_bd h
      have Mq2 := (m_X6_requireIndex (D := D) (dT := dT) (sz := sz) (ad := ad) hl (0 : Int32) u q2 hq2)
      rcases q2 with v3 | e4
      · have h := ts_eL h
        refine tv_callS C (pc := 20) dX6_read_20 yl_X6_71 Mq2 (Nat.le_trans (Nat.le_of_ble_eq_true rfl) hdd) (As := [.inl (.int (0 : Int32))]) rfl ⟨Nat.le_of_ble_eq_true rfl, Nat.le_of_ble_eq_true rfl⟩ (fun _ => Nat.le_of_ble_eq_true rfl) rfl ?_
        refine tv_aload_n C (pc := 23) dX6_read_23 rfl rfl ?_
        refine tv_iload_n C (pc := 24) dX6_read_24 rfl rfl ?_
        refine tv_iconst C (pc := 25) dX6_read_25 (v := (1 : Int32)) rfl ?_
        obtain ⟨q5, hq5, h⟩ := ts_bd h
        have Mq5 := (m_X6_requireActiveWithRoom (D := D) (dT := dT) (sz := sz) (ad := ad) hl p1 (1 : Int32) u q5 hq5)
        rcases q5 with v6 | e7
        · have h := ts_eL h
          refine tv_callV C (pc := 26) dX6_read_26 (ci := 6) (q := (RX6, TX6, 6)) rfl yl_X6_74 Mq5 (ts_live (k := 0) (by decide) (by decide) (by decide)) rfl (Nat.le_trans (Nat.le_of_ble_eq_true rfl) hdd) (As := [.inl (.int p1), .inl (.int (1 : Int32))]) rfl ⟨Nat.le_of_ble_eq_true rfl, Nat.le_of_ble_eq_true rfl⟩ (fun _ => Nat.le_of_ble_eq_true rfl) rfl ?_
          refine tv_aload_n C (pc := 29) dX6_read_29 rfl rfl ?_
          refine tv_getR C (pc := 30) dX6_read_30 fl_X6_12 (ts_live (k := 0) (by decide) (by decide) (by decide)) rfl rfl (i2 := (1, 0, 0)) rfl ?_
          refine tv_iload_n C (pc := 33) dX6_read_33 rfl rfl ?_
          refine tv_iconst C (pc := 34) dX6_read_34 (v := (0 : Int32)) rfl ?_
          refine tv_iload_n C (pc := 35) dX6_read_35 rfl rfl ?_
          refine tv_iconst C (pc := 36) dX6_read_36 (v := (0 : Int32)) rfl ?_
          obtain ⟨q8, hq8, h⟩ := ts_bd h
          refine tv_callV C (pc := 37) dX6_read_37 (ci := 0) (q := (RX0, TX0, 8)) rfl yl_X6_78 (m_X0_ask (D := D) (dT := dT) (sz := sz) (ad := ad) hl 0 (by decide) p1 (0 : Int32) p2 (0 : Int32) u q8 hq8) (ts_live (k := 1) (by decide) (by decide) (by decide)) rfl (Nat.le_trans (Nat.le_of_ble_eq_true rfl) hdd) (As := [.inl (.int p1), .inl (.int (0 : Int32)), .inl (.int p2), .inl (.int (0 : Int32))]) rfl ⟨Nat.le_of_ble_eq_true rfl, Nat.le_of_ble_eq_true rfl⟩ (fun _ => Nat.le_of_ble_eq_true rfl) rfl ?_
          cases h
          exact tv_iret C (pc := 40) rfl dX6_read_40 ⟨Nat.le_of_ble_eq_true rfl, Nat.le_of_ble_eq_true rfl⟩
        · have h := ts_eR h
          cases h
          exact tv_callV_thr C (pc := 26) hX dX6_read_26 (ci := 6) (q := (RX6, TX6, 6)) rfl yl_X6_74 Mq5 (ts_live (k := 0) (by decide) (by decide) (by decide)) rfl (Nat.le_trans (Nat.le_of_ble_eq_true rfl) hdd) (As := [.inl (.int p1), .inl (.int (1 : Int32))]) rfl ⟨Nat.le_of_ble_eq_true rfl, Nat.le_of_ble_eq_true rfl⟩ (fun _ => Nat.le_of_ble_eq_true rfl) rfl ⟨Nat.le_of_ble_eq_true rfl, Nat.le_of_ble_eq_true rfl⟩
      · have h := ts_eR h
        cases h
        exact tv_callS_thr C (pc := 20) hX dX6_read_20 yl_X6_71 Mq2 (Nat.le_trans (Nat.le_of_ble_eq_true rfl) hdd) (As := [.inl (.int (0 : Int32))]) rfl ⟨Nat.le_of_ble_eq_true rfl, Nat.le_of_ble_eq_true rfl⟩ (fun _ => Nat.le_of_ble_eq_true rfl) rfl ⟨Nat.le_of_ble_eq_true rfl, Nat.le_of_ble_eq_true rfl⟩
    · have h := ts_ifn h hc
      refine tv_iload_n C (pc := 8) dX6_read_8 rfl rfl ?_
      obtain ⟨q9, hq9, h⟩ := ts_bd h
      refine tv_callS C (pc := 9) dX6_read_9 yl_X6_68 (m_X6_isItem (D := D) (dT := dT) (sz := sz) (ad := ad) hl p2 u q9 hq9) (Nat.le_trans (Nat.le_of_ble_eq_true rfl) hdd) (As := [.inl (.int p2)]) rfl ⟨Nat.le_of_ble_eq_true rfl, Nat.le_of_ble_eq_true rfl⟩ (fun _ => Nat.le_of_ble_eq_true rfl) rfl ?_
      refine tv_if_eq C (pc := 12) 19 dX6_read_12 (by decide) (fun hc => ?_) (fun hc => ?_)
      · have h := ts_ifp h hc
        refine tv_iconst C (pc := 19) dX6_read_19 (v := (0 : Int32)) rfl ?_
        obtain ⟨q10, hq10, h⟩ := ts_bd h
        have Mq10 := (m_X6_requireIndex (D := D) (dT := dT) (sz := sz) (ad := ad) hl (0 : Int32) u q10 hq10)
        rcases q10 with v11 | e12
        · have h := ts_eL h
          refine tv_callS C (pc := 20) dX6_read_20 yl_X6_71 Mq10 (Nat.le_trans (Nat.le_of_ble_eq_true rfl) hdd) (As := [.inl (.int (0 : Int32))]) rfl ⟨Nat.le_of_ble_eq_true rfl, Nat.le_of_ble_eq_true rfl⟩ (fun _ => Nat.le_of_ble_eq_true rfl) rfl ?_
          refine tv_aload_n C (pc := 23) dX6_read_23 rfl rfl ?_
          refine tv_iload_n C (pc := 24) dX6_read_24 rfl rfl ?_
          refine tv_iconst C (pc := 25) dX6_read_25 (v := (1 : Int32)) rfl ?_
          obtain ⟨q13, hq13, h⟩ := ts_bd h
          have Mq13 := (m_X6_requireActiveWithRoom (D := D) (dT := dT) (sz := sz) (ad := ad) hl p1 (1 : Int32) u q13 hq13)
          rcases q13 with v14 | e15
          · have h := ts_eL h
            refine tv_callV C (pc := 26) dX6_read_26 (ci := 6) (q := (RX6, TX6, 6)) rfl yl_X6_74 Mq13 (ts_live (k := 0) (by decide) (by decide) (by decide)) rfl (Nat.le_trans (Nat.le_of_ble_eq_true rfl) hdd) (As := [.inl (.int p1), .inl (.int (1 : Int32))]) rfl ⟨Nat.le_of_ble_eq_true rfl, Nat.le_of_ble_eq_true rfl⟩ (fun _ => Nat.le_of_ble_eq_true rfl) rfl ?_
            refine tv_aload_n C (pc := 29) dX6_read_29 rfl rfl ?_
            refine tv_getR C (pc := 30) dX6_read_30 fl_X6_12 (ts_live (k := 0) (by decide) (by decide) (by decide)) rfl rfl (i2 := (1, 0, 0)) rfl ?_
            refine tv_iload_n C (pc := 33) dX6_read_33 rfl rfl ?_
            refine tv_iconst C (pc := 34) dX6_read_34 (v := (0 : Int32)) rfl ?_
            refine tv_iload_n C (pc := 35) dX6_read_35 rfl rfl ?_
            refine tv_iconst C (pc := 36) dX6_read_36 (v := (0 : Int32)) rfl ?_
            obtain ⟨q16, hq16, h⟩ := ts_bd h
            refine tv_callV C (pc := 37) dX6_read_37 (ci := 0) (q := (RX0, TX0, 8)) rfl yl_X6_78 (m_X0_ask (D := D) (dT := dT) (sz := sz) (ad := ad) hl 0 (by decide) p1 (0 : Int32) p2 (0 : Int32) u q16 hq16) (ts_live (k := 1) (by decide) (by decide) (by decide)) rfl (Nat.le_trans (Nat.le_of_ble_eq_true rfl) hdd) (As := [.inl (.int p1), .inl (.int (0 : Int32)), .inl (.int p2), .inl (.int (0 : Int32))]) rfl ⟨Nat.le_of_ble_eq_true rfl, Nat.le_of_ble_eq_true rfl⟩ (fun _ => Nat.le_of_ble_eq_true rfl) rfl ?_
            cases h
            exact tv_iret C (pc := 40) rfl dX6_read_40 ⟨Nat.le_of_ble_eq_true rfl, Nat.le_of_ble_eq_true rfl⟩
          · have h := ts_eR h
            cases h
            exact tv_callV_thr C (pc := 26) hX dX6_read_26 (ci := 6) (q := (RX6, TX6, 6)) rfl yl_X6_74 Mq13 (ts_live (k := 0) (by decide) (by decide) (by decide)) rfl (Nat.le_trans (Nat.le_of_ble_eq_true rfl) hdd) (As := [.inl (.int p1), .inl (.int (1 : Int32))]) rfl ⟨Nat.le_of_ble_eq_true rfl, Nat.le_of_ble_eq_true rfl⟩ (fun _ => Nat.le_of_ble_eq_true rfl) rfl ⟨Nat.le_of_ble_eq_true rfl, Nat.le_of_ble_eq_true rfl⟩
        · have h := ts_eR h
          cases h
          exact tv_callS_thr C (pc := 20) hX dX6_read_20 yl_X6_71 Mq10 (Nat.le_trans (Nat.le_of_ble_eq_true rfl) hdd) (As := [.inl (.int (0 : Int32))]) rfl ⟨Nat.le_of_ble_eq_true rfl, Nat.le_of_ble_eq_true rfl⟩ (fun _ => Nat.le_of_ble_eq_true rfl) rfl ⟨Nat.le_of_ble_eq_true rfl, Nat.le_of_ble_eq_true rfl⟩
      · have h := ts_ifn h hc
        refine tv_iconst C (pc := 15) dX6_read_15 (v := (1 : Int32)) rfl ?_
        refine tv_goto C (pc := 16) 20 dX6_read_16 (by decide) ?_
        obtain ⟨q17, hq17, h⟩ := ts_bd h
        have Mq17 := (m_X6_requireIndex (D := D) (dT := dT) (sz := sz) (ad := ad) hl (1 : Int32) u q17 hq17)
        rcases q17 with v18 | e19
        · have h := ts_eL h
          refine tv_callS C (pc := 20) dX6_read_20 yl_X6_71 Mq17 (Nat.le_trans (Nat.le_of_ble_eq_true rfl) hdd) (As := [.inl (.int (1 : Int32))]) rfl ⟨Nat.le_of_ble_eq_true rfl, Nat.le_of_ble_eq_true rfl⟩ (fun _ => Nat.le_of_ble_eq_true rfl) rfl ?_
          refine tv_aload_n C (pc := 23) dX6_read_23 rfl rfl ?_
          refine tv_iload_n C (pc := 24) dX6_read_24 rfl rfl ?_
          refine tv_iconst C (pc := 25) dX6_read_25 (v := (1 : Int32)) rfl ?_
          obtain ⟨q20, hq20, h⟩ := ts_bd h
          have Mq20 := (m_X6_requireActiveWithRoom (D := D) (dT := dT) (sz := sz) (ad := ad) hl p1 (1 : Int32) u q20 hq20)
          rcases q20 with v21 | e22
          · have h := ts_eL h
            refine tv_callV C (pc := 26) dX6_read_26 (ci := 6) (q := (RX6, TX6, 6)) rfl yl_X6_74 Mq20 (ts_live (k := 0) (by decide) (by decide) (by decide)) rfl (Nat.le_trans (Nat.le_of_ble_eq_true rfl) hdd) (As := [.inl (.int p1), .inl (.int (1 : Int32))]) rfl ⟨Nat.le_of_ble_eq_true rfl, Nat.le_of_ble_eq_true rfl⟩ (fun _ => Nat.le_of_ble_eq_true rfl) rfl ?_
            refine tv_aload_n C (pc := 29) dX6_read_29 rfl rfl ?_
            refine tv_getR C (pc := 30) dX6_read_30 fl_X6_12 (ts_live (k := 0) (by decide) (by decide) (by decide)) rfl rfl (i2 := (1, 0, 0)) rfl ?_
            refine tv_iload_n C (pc := 33) dX6_read_33 rfl rfl ?_
            refine tv_iconst C (pc := 34) dX6_read_34 (v := (0 : Int32)) rfl ?_
            refine tv_iload_n C (pc := 35) dX6_read_35 rfl rfl ?_
            refine tv_iconst C (pc := 36) dX6_read_36 (v := (0 : Int32)) rfl ?_
            obtain ⟨q23, hq23, h⟩ := ts_bd h
            refine tv_callV C (pc := 37) dX6_read_37 (ci := 0) (q := (RX0, TX0, 8)) rfl yl_X6_78 (m_X0_ask (D := D) (dT := dT) (sz := sz) (ad := ad) hl 0 (by decide) p1 (0 : Int32) p2 (0 : Int32) u q23 hq23) (ts_live (k := 1) (by decide) (by decide) (by decide)) rfl (Nat.le_trans (Nat.le_of_ble_eq_true rfl) hdd) (As := [.inl (.int p1), .inl (.int (0 : Int32)), .inl (.int p2), .inl (.int (0 : Int32))]) rfl ⟨Nat.le_of_ble_eq_true rfl, Nat.le_of_ble_eq_true rfl⟩ (fun _ => Nat.le_of_ble_eq_true rfl) rfl ?_
            cases h
            exact tv_iret C (pc := 40) rfl dX6_read_40 ⟨Nat.le_of_ble_eq_true rfl, Nat.le_of_ble_eq_true rfl⟩
          · have h := ts_eR h
            cases h
            exact tv_callV_thr C (pc := 26) hX dX6_read_26 (ci := 6) (q := (RX6, TX6, 6)) rfl yl_X6_74 Mq20 (ts_live (k := 0) (by decide) (by decide) (by decide)) rfl (Nat.le_trans (Nat.le_of_ble_eq_true rfl) hdd) (As := [.inl (.int p1), .inl (.int (1 : Int32))]) rfl ⟨Nat.le_of_ble_eq_true rfl, Nat.le_of_ble_eq_true rfl⟩ (fun _ => Nat.le_of_ble_eq_true rfl) rfl ⟨Nat.le_of_ble_eq_true rfl, Nat.le_of_ble_eq_true rfl⟩
        · have h := ts_eR h
          cases h
          exact tv_callS_thr C (pc := 20) hX dX6_read_20 yl_X6_71 Mq17 (Nat.le_trans (Nat.le_of_ble_eq_true rfl) hdd) (As := [.inl (.int (1 : Int32))]) rfl ⟨Nat.le_of_ble_eq_true rfl, Nat.le_of_ble_eq_true rfl⟩ (fun _ => Nat.le_of_ble_eq_true rfl) rfl ⟨Nat.le_of_ble_eq_true rfl, Nat.le_of_ble_eq_true rfl⟩
set_option maxRecDepth 100000 in
set_option maxHeartbeats 4000000 in
theorem m_X6_write {l : Launch} {D : va_G} {dT : Nat → ClassId} {sz : Nat} {ad : ts_I → Nat} (hl : l.stackTraces = false) (p1 : Int32) (p2 : Int32) (p3 : Int32) (u : ts_Mem) (r : ((Int32 ⊕ String) × ts_Mem)) (h : f_X6_write p1 p2 p3 u = some r) : ts_M l D dT sz yX6_write wX6_write 6 3 18 ad ts_lv ts_R0 [.inr (0, 0, 0), .inl (.int p1), .inl (.int p2), .inl (.int p3)] u (ts_oI r.1) r.2 := by
    unfold f_X6_write at h
    refine ts_enter hl (by decide) rfl rfl (Nat.le_of_ble_eq_true rfl) ?_
    intro p e s m args below meth c C hX hnm
    have C : ts_CX D dT sz p l (ts_rm 6 3 18) s m args meth c RX6 cX6_write 4 (some .int) 6 := C
    have hdd : 6 ≤ 6 := Nat.le_refl _
    refine tv_aload_n C (pc := 0) dX6_write_0 rfl rfl ?_
    refine tv_iload_n C (pc := 1) dX6_write_1 rfl rfl ?_
    obtain ⟨q1, hq1, h⟩ := ts_bd h
    refine tv_callV C (pc := 2) dX6_write_2 (ci := 6) (q := (RX6, TX6, 6)) rfl yl_X6_64 (m_X6_isTransaction (D := D) (dT := dT) (sz := sz) (ad := ad) hl p1 u q1 hq1) (ts_live (k := 0) (by decide) (by decide) (by decide)) rfl (Nat.le_trans (Nat.le_of_ble_eq_true rfl) hdd) (As := [.inl (.int p1)]) rfl ⟨Nat.le_of_ble_eq_true rfl, Nat.le_of_ble_eq_true rfl⟩ (fun _ => Nat.le_of_ble_eq_true rfl) rfl ?_
    refine tv_if_eq C (pc := 5) 19 dX6_write_5 (by decide) (fun hc => ?_) (fun hc => ?_)
    · have h := ts_ifp h hc
      refine tv_iconst C (pc := 19) dX6_write_19 (v := (0 : Int32)) rfl ?_
      obtain ⟨q2, hq2, h⟩ := ts_bd h
      have Mq2 := (m_X6_requireIndex (D := D) (dT := dT) (sz := sz) (ad := ad) hl (0 : Int32) u q2 hq2)
      rcases q2 with v3 | e4
      · have h := ts_eL h
        refine tv_callS C (pc := 20) dX6_write_20 yl_X6_71 Mq2 (Nat.le_trans (Nat.le_of_ble_eq_true rfl) hdd) (As := [.inl (.int (0 : Int32))]) rfl ⟨Nat.le_of_ble_eq_true rfl, Nat.le_of_ble_eq_true rfl⟩ (fun _ => Nat.le_of_ble_eq_true rfl) rfl ?_
        refine tv_aload_n C (pc := 23) dX6_write_23 rfl rfl ?_
        refine tv_iload_n C (pc := 24) dX6_write_24 rfl rfl ?_
        refine tv_iconst C (pc := 25) dX6_write_25 (v := (1 : Int32)) rfl ?_
        obtain ⟨q5, hq5, h⟩ := ts_bd h
        have Mq5 := (m_X6_requireActiveWithRoom (D := D) (dT := dT) (sz := sz) (ad := ad) hl p1 (1 : Int32) u q5 hq5)
        rcases q5 with v6 | e7
        · have h := ts_eL h
          refine tv_callV C (pc := 26) dX6_write_26 (ci := 6) (q := (RX6, TX6, 6)) rfl yl_X6_74 Mq5 (ts_live (k := 0) (by decide) (by decide) (by decide)) rfl (Nat.le_trans (Nat.le_of_ble_eq_true rfl) hdd) (As := [.inl (.int p1), .inl (.int (1 : Int32))]) rfl ⟨Nat.le_of_ble_eq_true rfl, Nat.le_of_ble_eq_true rfl⟩ (fun _ => Nat.le_of_ble_eq_true rfl) rfl ?_
          refine tv_aload_n C (pc := 29) dX6_write_29 rfl rfl ?_
          refine tv_getR C (pc := 30) dX6_write_30 fl_X6_12 (ts_live (k := 0) (by decide) (by decide) (by decide)) rfl rfl (i2 := (1, 0, 0)) rfl ?_
          refine tv_iload_n C (pc := 33) dX6_write_33 rfl rfl ?_
          refine tv_iconst C (pc := 34) dX6_write_34 (v := (1 : Int32)) rfl ?_
          refine tv_iload_n C (pc := 35) dX6_write_35 rfl rfl ?_
          refine tv_iload_n C (pc := 36) dX6_write_36 rfl rfl ?_
          obtain ⟨q8, hq8, h⟩ := ts_bd h
          refine tv_callV C (pc := 37) dX6_write_37 (ci := 0) (q := (RX0, TX0, 8)) rfl yl_X6_78 (m_X0_ask (D := D) (dT := dT) (sz := sz) (ad := ad) hl 0 (by decide) p1 (1 : Int32) p2 p3 u q8 hq8) (ts_live (k := 1) (by decide) (by decide) (by decide)) rfl (Nat.le_trans (Nat.le_of_ble_eq_true rfl) hdd) (As := [.inl (.int p1), .inl (.int (1 : Int32)), .inl (.int p2), .inl (.int p3)]) rfl ⟨Nat.le_of_ble_eq_true rfl, Nat.le_of_ble_eq_true rfl⟩ (fun _ => Nat.le_of_ble_eq_true rfl) rfl ?_
          cases h
          exact tv_iret C (pc := 40) rfl dX6_write_40 ⟨Nat.le_of_ble_eq_true rfl, Nat.le_of_ble_eq_true rfl⟩
        · have h := ts_eR h
          cases h
          exact tv_callV_thr C (pc := 26) hX dX6_write_26 (ci := 6) (q := (RX6, TX6, 6)) rfl yl_X6_74 Mq5 (ts_live (k := 0) (by decide) (by decide) (by decide)) rfl (Nat.le_trans (Nat.le_of_ble_eq_true rfl) hdd) (As := [.inl (.int p1), .inl (.int (1 : Int32))]) rfl ⟨Nat.le_of_ble_eq_true rfl, Nat.le_of_ble_eq_true rfl⟩ (fun _ => Nat.le_of_ble_eq_true rfl) rfl ⟨Nat.le_of_ble_eq_true rfl, Nat.le_of_ble_eq_true rfl⟩
      · have h := ts_eR h
        cases h
        exact tv_callS_thr C (pc := 20) hX dX6_write_20 yl_X6_71 Mq2 (Nat.le_trans (Nat.le_of_ble_eq_true rfl) hdd) (As := [.inl (.int (0 : Int32))]) rfl ⟨Nat.le_of_ble_eq_true rfl, Nat.le_of_ble_eq_true rfl⟩ (fun _ => Nat.le_of_ble_eq_true rfl) rfl ⟨Nat.le_of_ble_eq_true rfl, Nat.le_of_ble_eq_true rfl⟩
    · have h := ts_ifn h hc
      refine tv_iload_n C (pc := 8) dX6_write_8 rfl rfl ?_
      obtain ⟨q9, hq9, h⟩ := ts_bd h
      refine tv_callS C (pc := 9) dX6_write_9 yl_X6_68 (m_X6_isItem (D := D) (dT := dT) (sz := sz) (ad := ad) hl p2 u q9 hq9) (Nat.le_trans (Nat.le_of_ble_eq_true rfl) hdd) (As := [.inl (.int p2)]) rfl ⟨Nat.le_of_ble_eq_true rfl, Nat.le_of_ble_eq_true rfl⟩ (fun _ => Nat.le_of_ble_eq_true rfl) rfl ?_
      refine tv_if_eq C (pc := 12) 19 dX6_write_12 (by decide) (fun hc => ?_) (fun hc => ?_)
      · have h := ts_ifp h hc
        refine tv_iconst C (pc := 19) dX6_write_19 (v := (0 : Int32)) rfl ?_
        obtain ⟨q10, hq10, h⟩ := ts_bd h
        have Mq10 := (m_X6_requireIndex (D := D) (dT := dT) (sz := sz) (ad := ad) hl (0 : Int32) u q10 hq10)
        rcases q10 with v11 | e12
        · have h := ts_eL h
          refine tv_callS C (pc := 20) dX6_write_20 yl_X6_71 Mq10 (Nat.le_trans (Nat.le_of_ble_eq_true rfl) hdd) (As := [.inl (.int (0 : Int32))]) rfl ⟨Nat.le_of_ble_eq_true rfl, Nat.le_of_ble_eq_true rfl⟩ (fun _ => Nat.le_of_ble_eq_true rfl) rfl ?_
          refine tv_aload_n C (pc := 23) dX6_write_23 rfl rfl ?_
          refine tv_iload_n C (pc := 24) dX6_write_24 rfl rfl ?_
          refine tv_iconst C (pc := 25) dX6_write_25 (v := (1 : Int32)) rfl ?_
          obtain ⟨q13, hq13, h⟩ := ts_bd h
          have Mq13 := (m_X6_requireActiveWithRoom (D := D) (dT := dT) (sz := sz) (ad := ad) hl p1 (1 : Int32) u q13 hq13)
          rcases q13 with v14 | e15
          · have h := ts_eL h
            refine tv_callV C (pc := 26) dX6_write_26 (ci := 6) (q := (RX6, TX6, 6)) rfl yl_X6_74 Mq13 (ts_live (k := 0) (by decide) (by decide) (by decide)) rfl (Nat.le_trans (Nat.le_of_ble_eq_true rfl) hdd) (As := [.inl (.int p1), .inl (.int (1 : Int32))]) rfl ⟨Nat.le_of_ble_eq_true rfl, Nat.le_of_ble_eq_true rfl⟩ (fun _ => Nat.le_of_ble_eq_true rfl) rfl ?_
            refine tv_aload_n C (pc := 29) dX6_write_29 rfl rfl ?_
            refine tv_getR C (pc := 30) dX6_write_30 fl_X6_12 (ts_live (k := 0) (by decide) (by decide) (by decide)) rfl rfl (i2 := (1, 0, 0)) rfl ?_
            refine tv_iload_n C (pc := 33) dX6_write_33 rfl rfl ?_
            refine tv_iconst C (pc := 34) dX6_write_34 (v := (1 : Int32)) rfl ?_
            refine tv_iload_n C (pc := 35) dX6_write_35 rfl rfl ?_
            refine tv_iload_n C (pc := 36) dX6_write_36 rfl rfl ?_
            obtain ⟨q16, hq16, h⟩ := ts_bd h
            refine tv_callV C (pc := 37) dX6_write_37 (ci := 0) (q := (RX0, TX0, 8)) rfl yl_X6_78 (m_X0_ask (D := D) (dT := dT) (sz := sz) (ad := ad) hl 0 (by decide) p1 (1 : Int32) p2 p3 u q16 hq16) (ts_live (k := 1) (by decide) (by decide) (by decide)) rfl (Nat.le_trans (Nat.le_of_ble_eq_true rfl) hdd) (As := [.inl (.int p1), .inl (.int (1 : Int32)), .inl (.int p2), .inl (.int p3)]) rfl ⟨Nat.le_of_ble_eq_true rfl, Nat.le_of_ble_eq_true rfl⟩ (fun _ => Nat.le_of_ble_eq_true rfl) rfl ?_
            cases h
            exact tv_iret C (pc := 40) rfl dX6_write_40 ⟨Nat.le_of_ble_eq_true rfl, Nat.le_of_ble_eq_true rfl⟩
          · have h := ts_eR h
            cases h
            exact tv_callV_thr C (pc := 26) hX dX6_write_26 (ci := 6) (q := (RX6, TX6, 6)) rfl yl_X6_74 Mq13 (ts_live (k := 0) (by decide) (by decide) (by decide)) rfl (Nat.le_trans (Nat.le_of_ble_eq_true rfl) hdd) (As := [.inl (.int p1), .inl (.int (1 : Int32))]) rfl ⟨Nat.le_of_ble_eq_true rfl, Nat.le_of_ble_eq_true rfl⟩ (fun _ => Nat.le_of_ble_eq_true rfl) rfl ⟨Nat.le_of_ble_eq_true rfl, Nat.le_of_ble_eq_true rfl⟩
        · have h := ts_eR h
          cases h
          exact tv_callS_thr C (pc := 20) hX dX6_write_20 yl_X6_71 Mq10 (Nat.le_trans (Nat.le_of_ble_eq_true rfl) hdd) (As := [.inl (.int (0 : Int32))]) rfl ⟨Nat.le_of_ble_eq_true rfl, Nat.le_of_ble_eq_true rfl⟩ (fun _ => Nat.le_of_ble_eq_true rfl) rfl ⟨Nat.le_of_ble_eq_true rfl, Nat.le_of_ble_eq_true rfl⟩
      · have h := ts_ifn h hc
        refine tv_iconst C (pc := 15) dX6_write_15 (v := (1 : Int32)) rfl ?_
        refine tv_goto C (pc := 16) 20 dX6_write_16 (by decide) ?_
        obtain ⟨q17, hq17, h⟩ := ts_bd h
        have Mq17 := (m_X6_requireIndex (D := D) (dT := dT) (sz := sz) (ad := ad) hl (1 : Int32) u q17 hq17)
        rcases q17 with v18 | e19
        · have h := ts_eL h
          refine tv_callS C (pc := 20) dX6_write_20 yl_X6_71 Mq17 (Nat.le_trans (Nat.le_of_ble_eq_true rfl) hdd) (As := [.inl (.int (1 : Int32))]) rfl ⟨Nat.le_of_ble_eq_true rfl, Nat.le_of_ble_eq_true rfl⟩ (fun _ => Nat.le_of_ble_eq_true rfl) rfl ?_
          refine tv_aload_n C (pc := 23) dX6_write_23 rfl rfl ?_
          refine tv_iload_n C (pc := 24) dX6_write_24 rfl rfl ?_
          refine tv_iconst C (pc := 25) dX6_write_25 (v := (1 : Int32)) rfl ?_
          obtain ⟨q20, hq20, h⟩ := ts_bd h
          have Mq20 := (m_X6_requireActiveWithRoom (D := D) (dT := dT) (sz := sz) (ad := ad) hl p1 (1 : Int32) u q20 hq20)
          rcases q20 with v21 | e22
          · have h := ts_eL h
            refine tv_callV C (pc := 26) dX6_write_26 (ci := 6) (q := (RX6, TX6, 6)) rfl yl_X6_74 Mq20 (ts_live (k := 0) (by decide) (by decide) (by decide)) rfl (Nat.le_trans (Nat.le_of_ble_eq_true rfl) hdd) (As := [.inl (.int p1), .inl (.int (1 : Int32))]) rfl ⟨Nat.le_of_ble_eq_true rfl, Nat.le_of_ble_eq_true rfl⟩ (fun _ => Nat.le_of_ble_eq_true rfl) rfl ?_
            refine tv_aload_n C (pc := 29) dX6_write_29 rfl rfl ?_
            refine tv_getR C (pc := 30) dX6_write_30 fl_X6_12 (ts_live (k := 0) (by decide) (by decide) (by decide)) rfl rfl (i2 := (1, 0, 0)) rfl ?_
            refine tv_iload_n C (pc := 33) dX6_write_33 rfl rfl ?_
            refine tv_iconst C (pc := 34) dX6_write_34 (v := (1 : Int32)) rfl ?_
            refine tv_iload_n C (pc := 35) dX6_write_35 rfl rfl ?_
            refine tv_iload_n C (pc := 36) dX6_write_36 rfl rfl ?_
            obtain ⟨q23, hq23, h⟩ := ts_bd h
            refine tv_callV C (pc := 37) dX6_write_37 (ci := 0) (q := (RX0, TX0, 8)) rfl yl_X6_78 (m_X0_ask (D := D) (dT := dT) (sz := sz) (ad := ad) hl 0 (by decide) p1 (1 : Int32) p2 p3 u q23 hq23) (ts_live (k := 1) (by decide) (by decide) (by decide)) rfl (Nat.le_trans (Nat.le_of_ble_eq_true rfl) hdd) (As := [.inl (.int p1), .inl (.int (1 : Int32)), .inl (.int p2), .inl (.int p3)]) rfl ⟨Nat.le_of_ble_eq_true rfl, Nat.le_of_ble_eq_true rfl⟩ (fun _ => Nat.le_of_ble_eq_true rfl) rfl ?_
            cases h
            exact tv_iret C (pc := 40) rfl dX6_write_40 ⟨Nat.le_of_ble_eq_true rfl, Nat.le_of_ble_eq_true rfl⟩
          · have h := ts_eR h
            cases h
            exact tv_callV_thr C (pc := 26) hX dX6_write_26 (ci := 6) (q := (RX6, TX6, 6)) rfl yl_X6_74 Mq20 (ts_live (k := 0) (by decide) (by decide) (by decide)) rfl (Nat.le_trans (Nat.le_of_ble_eq_true rfl) hdd) (As := [.inl (.int p1), .inl (.int (1 : Int32))]) rfl ⟨Nat.le_of_ble_eq_true rfl, Nat.le_of_ble_eq_true rfl⟩ (fun _ => Nat.le_of_ble_eq_true rfl) rfl ⟨Nat.le_of_ble_eq_true rfl, Nat.le_of_ble_eq_true rfl⟩
        · have h := ts_eR h
          cases h
          exact tv_callS_thr C (pc := 20) hX dX6_write_20 yl_X6_71 Mq17 (Nat.le_trans (Nat.le_of_ble_eq_true rfl) hdd) (As := [.inl (.int (1 : Int32))]) rfl ⟨Nat.le_of_ble_eq_true rfl, Nat.le_of_ble_eq_true rfl⟩ (fun _ => Nat.le_of_ble_eq_true rfl) rfl ⟨Nat.le_of_ble_eq_true rfl, Nat.le_of_ble_eq_true rfl⟩
set_option maxRecDepth 100000 in
set_option maxHeartbeats 4000000 in
theorem m_X6_add {l : Launch} {D : va_G} {dT : Nat → ClassId} {sz : Nat} {ad : ts_I → Nat} (hl : l.stackTraces = false) (p1 : Int32) (p2 : Int32) (p3 : Int32) (u : ts_Mem) (r : ((Int32 ⊕ String) × ts_Mem)) (h : f_X6_add p1 p2 p3 u = some r) : ts_M l D dT sz yX6_add wX6_add 6 3 18 ad ts_lv ts_R0 [.inr (0, 0, 0), .inl (.int p1), .inl (.int p2), .inl (.int p3)] u (ts_oI r.1) r.2 := by
    unfold f_X6_add at h
    refine ts_enter hl (by decide) rfl rfl (Nat.le_of_ble_eq_true rfl) ?_
    intro p e s m args below meth c C hX hnm
    have C : ts_CX D dT sz p l (ts_rm 6 3 18) s m args meth c RX6 cX6_add 4 (some .int) 6 := C
    have hdd : 6 ≤ 6 := Nat.le_refl _
    refine tv_aload_n C (pc := 0) dX6_add_0 rfl rfl ?_
    refine tv_iload_n C (pc := 1) dX6_add_1 rfl rfl ?_
    obtain ⟨q1, hq1, h⟩ := ts_bd h
    refine tv_callV C (pc := 2) dX6_add_2 (ci := 6) (q := (RX6, TX6, 6)) rfl yl_X6_64 (m_X6_isTransaction (D := D) (dT := dT) (sz := sz) (ad := ad) hl p1 u q1 hq1) (ts_live (k := 0) (by decide) (by decide) (by decide)) rfl (Nat.le_trans (Nat.le_of_ble_eq_true rfl) hdd) (As := [.inl (.int p1)]) rfl ⟨Nat.le_of_ble_eq_true rfl, Nat.le_of_ble_eq_true rfl⟩ (fun _ => Nat.le_of_ble_eq_true rfl) rfl ?_
    refine tv_if_eq C (pc := 5) 19 dX6_add_5 (by decide) (fun hc => ?_) (fun hc => ?_)
    · have h := ts_ifp h hc
      refine tv_iconst C (pc := 19) dX6_add_19 (v := (0 : Int32)) rfl ?_
      obtain ⟨q2, hq2, h⟩ := ts_bd h
      have Mq2 := (m_X6_requireIndex (D := D) (dT := dT) (sz := sz) (ad := ad) hl (0 : Int32) u q2 hq2)
      rcases q2 with v3 | e4
      · have h := ts_eL h
        refine tv_callS C (pc := 20) dX6_add_20 yl_X6_71 Mq2 (Nat.le_trans (Nat.le_of_ble_eq_true rfl) hdd) (As := [.inl (.int (0 : Int32))]) rfl ⟨Nat.le_of_ble_eq_true rfl, Nat.le_of_ble_eq_true rfl⟩ (fun _ => Nat.le_of_ble_eq_true rfl) rfl ?_
        refine tv_aload_n C (pc := 23) dX6_add_23 rfl rfl ?_
        refine tv_iload_n C (pc := 24) dX6_add_24 rfl rfl ?_
        refine tv_iconst C (pc := 25) dX6_add_25 (v := (1 : Int32)) rfl ?_
        obtain ⟨q5, hq5, h⟩ := ts_bd h
        have Mq5 := (m_X6_requireActiveWithRoom (D := D) (dT := dT) (sz := sz) (ad := ad) hl p1 (1 : Int32) u q5 hq5)
        rcases q5 with v6 | e7
        · have h := ts_eL h
          refine tv_callV C (pc := 26) dX6_add_26 (ci := 6) (q := (RX6, TX6, 6)) rfl yl_X6_74 Mq5 (ts_live (k := 0) (by decide) (by decide) (by decide)) rfl (Nat.le_trans (Nat.le_of_ble_eq_true rfl) hdd) (As := [.inl (.int p1), .inl (.int (1 : Int32))]) rfl ⟨Nat.le_of_ble_eq_true rfl, Nat.le_of_ble_eq_true rfl⟩ (fun _ => Nat.le_of_ble_eq_true rfl) rfl ?_
          refine tv_aload_n C (pc := 29) dX6_add_29 rfl rfl ?_
          refine tv_getR C (pc := 30) dX6_add_30 fl_X6_12 (ts_live (k := 0) (by decide) (by decide) (by decide)) rfl rfl (i2 := (1, 0, 0)) rfl ?_
          refine tv_iload_n C (pc := 33) dX6_add_33 rfl rfl ?_
          refine tv_iconst C (pc := 34) dX6_add_34 (v := (2 : Int32)) rfl ?_
          refine tv_iload_n C (pc := 35) dX6_add_35 rfl rfl ?_
          refine tv_iload_n C (pc := 36) dX6_add_36 rfl rfl ?_
          obtain ⟨q8, hq8, h⟩ := ts_bd h
          refine tv_callV C (pc := 37) dX6_add_37 (ci := 0) (q := (RX0, TX0, 8)) rfl yl_X6_78 (m_X0_ask (D := D) (dT := dT) (sz := sz) (ad := ad) hl 0 (by decide) p1 (2 : Int32) p2 p3 u q8 hq8) (ts_live (k := 1) (by decide) (by decide) (by decide)) rfl (Nat.le_trans (Nat.le_of_ble_eq_true rfl) hdd) (As := [.inl (.int p1), .inl (.int (2 : Int32)), .inl (.int p2), .inl (.int p3)]) rfl ⟨Nat.le_of_ble_eq_true rfl, Nat.le_of_ble_eq_true rfl⟩ (fun _ => Nat.le_of_ble_eq_true rfl) rfl ?_
          cases h
          exact tv_iret C (pc := 40) rfl dX6_add_40 ⟨Nat.le_of_ble_eq_true rfl, Nat.le_of_ble_eq_true rfl⟩
        · have h := ts_eR h
          cases h
          exact tv_callV_thr C (pc := 26) hX dX6_add_26 (ci := 6) (q := (RX6, TX6, 6)) rfl yl_X6_74 Mq5 (ts_live (k := 0) (by decide) (by decide) (by decide)) rfl (Nat.le_trans (Nat.le_of_ble_eq_true rfl) hdd) (As := [.inl (.int p1), .inl (.int (1 : Int32))]) rfl ⟨Nat.le_of_ble_eq_true rfl, Nat.le_of_ble_eq_true rfl⟩ (fun _ => Nat.le_of_ble_eq_true rfl) rfl ⟨Nat.le_of_ble_eq_true rfl, Nat.le_of_ble_eq_true rfl⟩
      · have h := ts_eR h
        cases h
        exact tv_callS_thr C (pc := 20) hX dX6_add_20 yl_X6_71 Mq2 (Nat.le_trans (Nat.le_of_ble_eq_true rfl) hdd) (As := [.inl (.int (0 : Int32))]) rfl ⟨Nat.le_of_ble_eq_true rfl, Nat.le_of_ble_eq_true rfl⟩ (fun _ => Nat.le_of_ble_eq_true rfl) rfl ⟨Nat.le_of_ble_eq_true rfl, Nat.le_of_ble_eq_true rfl⟩
    · have h := ts_ifn h hc
      refine tv_iload_n C (pc := 8) dX6_add_8 rfl rfl ?_
      obtain ⟨q9, hq9, h⟩ := ts_bd h
      refine tv_callS C (pc := 9) dX6_add_9 yl_X6_68 (m_X6_isItem (D := D) (dT := dT) (sz := sz) (ad := ad) hl p2 u q9 hq9) (Nat.le_trans (Nat.le_of_ble_eq_true rfl) hdd) (As := [.inl (.int p2)]) rfl ⟨Nat.le_of_ble_eq_true rfl, Nat.le_of_ble_eq_true rfl⟩ (fun _ => Nat.le_of_ble_eq_true rfl) rfl ?_
      refine tv_if_eq C (pc := 12) 19 dX6_add_12 (by decide) (fun hc => ?_) (fun hc => ?_)
      · have h := ts_ifp h hc
        refine tv_iconst C (pc := 19) dX6_add_19 (v := (0 : Int32)) rfl ?_
        obtain ⟨q10, hq10, h⟩ := ts_bd h
        have Mq10 := (m_X6_requireIndex (D := D) (dT := dT) (sz := sz) (ad := ad) hl (0 : Int32) u q10 hq10)
        rcases q10 with v11 | e12
        · have h := ts_eL h
          refine tv_callS C (pc := 20) dX6_add_20 yl_X6_71 Mq10 (Nat.le_trans (Nat.le_of_ble_eq_true rfl) hdd) (As := [.inl (.int (0 : Int32))]) rfl ⟨Nat.le_of_ble_eq_true rfl, Nat.le_of_ble_eq_true rfl⟩ (fun _ => Nat.le_of_ble_eq_true rfl) rfl ?_
          refine tv_aload_n C (pc := 23) dX6_add_23 rfl rfl ?_
          refine tv_iload_n C (pc := 24) dX6_add_24 rfl rfl ?_
          refine tv_iconst C (pc := 25) dX6_add_25 (v := (1 : Int32)) rfl ?_
          obtain ⟨q13, hq13, h⟩ := ts_bd h
          have Mq13 := (m_X6_requireActiveWithRoom (D := D) (dT := dT) (sz := sz) (ad := ad) hl p1 (1 : Int32) u q13 hq13)
          rcases q13 with v14 | e15
          · have h := ts_eL h
            refine tv_callV C (pc := 26) dX6_add_26 (ci := 6) (q := (RX6, TX6, 6)) rfl yl_X6_74 Mq13 (ts_live (k := 0) (by decide) (by decide) (by decide)) rfl (Nat.le_trans (Nat.le_of_ble_eq_true rfl) hdd) (As := [.inl (.int p1), .inl (.int (1 : Int32))]) rfl ⟨Nat.le_of_ble_eq_true rfl, Nat.le_of_ble_eq_true rfl⟩ (fun _ => Nat.le_of_ble_eq_true rfl) rfl ?_
            refine tv_aload_n C (pc := 29) dX6_add_29 rfl rfl ?_
            refine tv_getR C (pc := 30) dX6_add_30 fl_X6_12 (ts_live (k := 0) (by decide) (by decide) (by decide)) rfl rfl (i2 := (1, 0, 0)) rfl ?_
            refine tv_iload_n C (pc := 33) dX6_add_33 rfl rfl ?_
            refine tv_iconst C (pc := 34) dX6_add_34 (v := (2 : Int32)) rfl ?_
            refine tv_iload_n C (pc := 35) dX6_add_35 rfl rfl ?_
            refine tv_iload_n C (pc := 36) dX6_add_36 rfl rfl ?_
            obtain ⟨q16, hq16, h⟩ := ts_bd h
            refine tv_callV C (pc := 37) dX6_add_37 (ci := 0) (q := (RX0, TX0, 8)) rfl yl_X6_78 (m_X0_ask (D := D) (dT := dT) (sz := sz) (ad := ad) hl 0 (by decide) p1 (2 : Int32) p2 p3 u q16 hq16) (ts_live (k := 1) (by decide) (by decide) (by decide)) rfl (Nat.le_trans (Nat.le_of_ble_eq_true rfl) hdd) (As := [.inl (.int p1), .inl (.int (2 : Int32)), .inl (.int p2), .inl (.int p3)]) rfl ⟨Nat.le_of_ble_eq_true rfl, Nat.le_of_ble_eq_true rfl⟩ (fun _ => Nat.le_of_ble_eq_true rfl) rfl ?_
            cases h
            exact tv_iret C (pc := 40) rfl dX6_add_40 ⟨Nat.le_of_ble_eq_true rfl, Nat.le_of_ble_eq_true rfl⟩
          · have h := ts_eR h
            cases h
            exact tv_callV_thr C (pc := 26) hX dX6_add_26 (ci := 6) (q := (RX6, TX6, 6)) rfl yl_X6_74 Mq13 (ts_live (k := 0) (by decide) (by decide) (by decide)) rfl (Nat.le_trans (Nat.le_of_ble_eq_true rfl) hdd) (As := [.inl (.int p1), .inl (.int (1 : Int32))]) rfl ⟨Nat.le_of_ble_eq_true rfl, Nat.le_of_ble_eq_true rfl⟩ (fun _ => Nat.le_of_ble_eq_true rfl) rfl ⟨Nat.le_of_ble_eq_true rfl, Nat.le_of_ble_eq_true rfl⟩
        · have h := ts_eR h
          cases h
          exact tv_callS_thr C (pc := 20) hX dX6_add_20 yl_X6_71 Mq10 (Nat.le_trans (Nat.le_of_ble_eq_true rfl) hdd) (As := [.inl (.int (0 : Int32))]) rfl ⟨Nat.le_of_ble_eq_true rfl, Nat.le_of_ble_eq_true rfl⟩ (fun _ => Nat.le_of_ble_eq_true rfl) rfl ⟨Nat.le_of_ble_eq_true rfl, Nat.le_of_ble_eq_true rfl⟩
      · have h := ts_ifn h hc
        refine tv_iconst C (pc := 15) dX6_add_15 (v := (1 : Int32)) rfl ?_
        refine tv_goto C (pc := 16) 20 dX6_add_16 (by decide) ?_
        obtain ⟨q17, hq17, h⟩ := ts_bd h
        have Mq17 := (m_X6_requireIndex (D := D) (dT := dT) (sz := sz) (ad := ad) hl (1 : Int32) u q17 hq17)
        rcases q17 with v18 | e19
        · have h := ts_eL h
          refine tv_callS C (pc := 20) dX6_add_20 yl_X6_71 Mq17 (Nat.le_trans (Nat.le_of_ble_eq_true rfl) hdd) (As := [.inl (.int (1 : Int32))]) rfl ⟨Nat.le_of_ble_eq_true rfl, Nat.le_of_ble_eq_true rfl⟩ (fun _ => Nat.le_of_ble_eq_true rfl) rfl ?_
          refine tv_aload_n C (pc := 23) dX6_add_23 rfl rfl ?_
          refine tv_iload_n C (pc := 24) dX6_add_24 rfl rfl ?_
          refine tv_iconst C (pc := 25) dX6_add_25 (v := (1 : Int32)) rfl ?_
          obtain ⟨q20, hq20, h⟩ := ts_bd h
          have Mq20 := (m_X6_requireActiveWithRoom (D := D) (dT := dT) (sz := sz) (ad := ad) hl p1 (1 : Int32) u q20 hq20)
          rcases q20 with v21 | e22
          · have h := ts_eL h
            refine tv_callV C (pc := 26) dX6_add_26 (ci := 6) (q := (RX6, TX6, 6)) rfl yl_X6_74 Mq20 (ts_live (k := 0) (by decide) (by decide) (by decide)) rfl (Nat.le_trans (Nat.le_of_ble_eq_true rfl) hdd) (As := [.inl (.int p1), .inl (.int (1 : Int32))]) rfl ⟨Nat.le_of_ble_eq_true rfl, Nat.le_of_ble_eq_true rfl⟩ (fun _ => Nat.le_of_ble_eq_true rfl) rfl ?_
            refine tv_aload_n C (pc := 29) dX6_add_29 rfl rfl ?_
            refine tv_getR C (pc := 30) dX6_add_30 fl_X6_12 (ts_live (k := 0) (by decide) (by decide) (by decide)) rfl rfl (i2 := (1, 0, 0)) rfl ?_
            refine tv_iload_n C (pc := 33) dX6_add_33 rfl rfl ?_
            refine tv_iconst C (pc := 34) dX6_add_34 (v := (2 : Int32)) rfl ?_
            refine tv_iload_n C (pc := 35) dX6_add_35 rfl rfl ?_
            refine tv_iload_n C (pc := 36) dX6_add_36 rfl rfl ?_
            obtain ⟨q23, hq23, h⟩ := ts_bd h
            refine tv_callV C (pc := 37) dX6_add_37 (ci := 0) (q := (RX0, TX0, 8)) rfl yl_X6_78 (m_X0_ask (D := D) (dT := dT) (sz := sz) (ad := ad) hl 0 (by decide) p1 (2 : Int32) p2 p3 u q23 hq23) (ts_live (k := 1) (by decide) (by decide) (by decide)) rfl (Nat.le_trans (Nat.le_of_ble_eq_true rfl) hdd) (As := [.inl (.int p1), .inl (.int (2 : Int32)), .inl (.int p2), .inl (.int p3)]) rfl ⟨Nat.le_of_ble_eq_true rfl, Nat.le_of_ble_eq_true rfl⟩ (fun _ => Nat.le_of_ble_eq_true rfl) rfl ?_
            cases h
            exact tv_iret C (pc := 40) rfl dX6_add_40 ⟨Nat.le_of_ble_eq_true rfl, Nat.le_of_ble_eq_true rfl⟩
          · have h := ts_eR h
            cases h
            exact tv_callV_thr C (pc := 26) hX dX6_add_26 (ci := 6) (q := (RX6, TX6, 6)) rfl yl_X6_74 Mq20 (ts_live (k := 0) (by decide) (by decide) (by decide)) rfl (Nat.le_trans (Nat.le_of_ble_eq_true rfl) hdd) (As := [.inl (.int p1), .inl (.int (1 : Int32))]) rfl ⟨Nat.le_of_ble_eq_true rfl, Nat.le_of_ble_eq_true rfl⟩ (fun _ => Nat.le_of_ble_eq_true rfl) rfl ⟨Nat.le_of_ble_eq_true rfl, Nat.le_of_ble_eq_true rfl⟩
        · have h := ts_eR h
          cases h
          exact tv_callS_thr C (pc := 20) hX dX6_add_20 yl_X6_71 Mq17 (Nat.le_trans (Nat.le_of_ble_eq_true rfl) hdd) (As := [.inl (.int (1 : Int32))]) rfl ⟨Nat.le_of_ble_eq_true rfl, Nat.le_of_ble_eq_true rfl⟩ (fun _ => Nat.le_of_ble_eq_true rfl) rfl ⟨Nat.le_of_ble_eq_true rfl, Nat.le_of_ble_eq_true rfl⟩
set_option maxRecDepth 100000 in
set_option maxHeartbeats 4000000 in
theorem m_X6_commit {l : Launch} {D : va_G} {dT : Nat → ClassId} {sz : Nat} {ad : ts_I → Nat} (hl : l.stackTraces = false) (p1 : Int32) (u : ts_Mem) (r : ((Int32 ⊕ String) × ts_Mem)) (h : f_X6_commit p1 u = some r) : ts_M l D dT sz yX6_commit wX6_commit 3 2 12 ad ts_lv ts_R0 [.inr (0, 0, 0), .inl (.int p1)] u (ts_oI r.1) r.2 := by
    unfold f_X6_commit at h
    refine ts_enter hl (by decide) rfl rfl (Nat.le_of_ble_eq_true rfl) ?_
    intro p e s m args below meth c C hX hnm
    have C : ts_CX D dT sz p l (ts_rm 3 2 12) s m args meth c RX6 cX6_commit 2 (some .boolean) 3 := C
    have hdd : 3 ≤ 3 := Nat.le_refl _
    refine tv_aload_n C (pc := 0) dX6_commit_0 rfl rfl ?_
    refine tv_iload_n C (pc := 1) dX6_commit_1 rfl rfl ?_
    obtain ⟨q1, hq1, h⟩ := ts_bd h
    refine tv_callV C (pc := 2) dX6_commit_2 (ci := 6) (q := (RX6, TX6, 6)) rfl yl_X6_64 (m_X6_isTransaction (D := D) (dT := dT) (sz := sz) (ad := ad) hl p1 u q1 hq1) (ts_live (k := 0) (by decide) (by decide) (by decide)) rfl (Nat.le_trans (Nat.le_of_ble_eq_true rfl) hdd) (As := [.inl (.int p1)]) rfl ⟨Nat.le_of_ble_eq_true rfl, Nat.le_of_ble_eq_true rfl⟩ (fun _ => Nat.le_of_ble_eq_true rfl) rfl ?_
    obtain ⟨q2, hq2, h⟩ := ts_bd h
    have Mq2 := (m_X6_requireIndex (D := D) (dT := dT) (sz := sz) (ad := ad) hl q1 u q2 hq2)
    rcases q2 with v3 | e4
    · have h := ts_eL h
      refine tv_callS C (pc := 5) dX6_commit_5 yl_X6_71 Mq2 (Nat.le_trans (Nat.le_of_ble_eq_true rfl) hdd) (As := [.inl (.int q1)]) rfl ⟨Nat.le_of_ble_eq_true rfl, Nat.le_of_ble_eq_true rfl⟩ (fun _ => Nat.le_of_ble_eq_true rfl) rfl ?_
      refine tv_aload_n C (pc := 8) dX6_commit_8 rfl rfl ?_
      refine tv_getR C (pc := 9) dX6_commit_9 fl_X6_12 (ts_live (k := 0) (by decide) (by decide) (by decide)) rfl rfl (i2 := (1, 0, 0)) rfl ?_
      refine tv_getR C (pc := 12) dX6_commit_12 fl_X6_82 (ts_live (k := 1) (by decide) (by decide) (by decide)) rfl rfl (i2 := (2, 0, 0)) rfl ?_
      refine tv_iload_n C (pc := 15) dX6_commit_15 rfl rfl ?_
      obtain ⟨hr5, h⟩ := ts_gd h
      refine tv_aaload5 C (pc := 16) dX6_commit_16 (ts_live (k := 2) (by decide) (by decide) (by decide)) rfl hr5 (j := p1.toNatClampNeg) rfl (i2 := (11, 0, p1.toNatClampNeg)) rfl ?_
      refine tv_getI C (pc := 17) dX6_commit_17 fl_X6_86 (ts_live (k := 11) (by decide) (by decide) (ts_vin hr5)) rfl (cd := 0) rfl (by decide) ?_
      refine tv_if_ne C (pc := 20) 27 dX6_commit_20 (by decide) (fun hc => ?_) (fun hc => ?_)
      · have h := ts_ifn h hc
        refine tv_iconst C (pc := 27) dX6_commit_27 (v := (0 : Int32)) rfl ?_
        obtain ⟨q6, hq6, h⟩ := ts_bd h
        have Mq6 := (m_X6_requireState (D := D) (dT := dT) (sz := sz) (ad := ad) hl (0 : Int32) u q6 hq6)
        rcases q6 with v7 | e8
        · have h := ts_eL h
          refine tv_callS C (pc := 28) dX6_commit_28 yl_X6_57 Mq6 (Nat.le_trans (Nat.le_of_ble_eq_true rfl) hdd) (As := [.inl (.int (0 : Int32))]) rfl ⟨Nat.le_of_ble_eq_true rfl, Nat.le_of_ble_eq_true rfl⟩ (fun _ => Nat.le_of_ble_eq_true rfl) rfl ?_
          refine tv_aload_n C (pc := 31) dX6_commit_31 rfl rfl ?_
          refine tv_getR C (pc := 32) dX6_commit_32 fl_X6_12 (ts_live (k := 0) (by decide) (by decide) (by decide)) rfl rfl (i2 := (1, 0, 0)) rfl ?_
          refine tv_iload_n C (pc := 35) dX6_commit_35 rfl rfl ?_
          obtain ⟨q9, hq9, h⟩ := ts_bd h
          refine tv_callV C (pc := 36) dX6_commit_36 (ci := 0) (q := (RX0, TX0, 8)) rfl yl_X6_91 (m_X0_askCommit (D := D) (dT := dT) (sz := sz) (ad := ad) hl 0 (by decide) p1 u q9 hq9) (ts_live (k := 1) (by decide) (by decide) (by decide)) rfl (Nat.le_trans (Nat.le_of_ble_eq_true rfl) hdd) (As := [.inl (.int p1)]) rfl ⟨Nat.le_of_ble_eq_true rfl, Nat.le_of_ble_eq_true rfl⟩ (fun _ => Nat.le_of_ble_eq_true rfl) rfl ?_
          obtain ⟨hgz, h⟩ := ts_gd h
          cases h
          exact tv_zret C (pc := 39) rfl (ts_nz hgz).1 dX6_commit_39 ⟨Nat.le_of_ble_eq_true rfl, Nat.le_of_ble_eq_true rfl⟩
        · have h := ts_eR h
          cases h
          exact tv_callS_thr C (pc := 28) hX dX6_commit_28 yl_X6_57 Mq6 (Nat.le_trans (Nat.le_of_ble_eq_true rfl) hdd) (As := [.inl (.int (0 : Int32))]) rfl ⟨Nat.le_of_ble_eq_true rfl, Nat.le_of_ble_eq_true rfl⟩ (fun _ => Nat.le_of_ble_eq_true rfl) rfl ⟨Nat.le_of_ble_eq_true rfl, Nat.le_of_ble_eq_true rfl⟩
      · have h := ts_ifp h hc
        refine tv_iconst C (pc := 23) dX6_commit_23 (v := (1 : Int32)) rfl ?_
        refine tv_goto C (pc := 24) 28 dX6_commit_24 (by decide) ?_
        obtain ⟨q10, hq10, h⟩ := ts_bd h
        have Mq10 := (m_X6_requireState (D := D) (dT := dT) (sz := sz) (ad := ad) hl (1 : Int32) u q10 hq10)
        rcases q10 with v11 | e12
        · have h := ts_eL h
          refine tv_callS C (pc := 28) dX6_commit_28 yl_X6_57 Mq10 (Nat.le_trans (Nat.le_of_ble_eq_true rfl) hdd) (As := [.inl (.int (1 : Int32))]) rfl ⟨Nat.le_of_ble_eq_true rfl, Nat.le_of_ble_eq_true rfl⟩ (fun _ => Nat.le_of_ble_eq_true rfl) rfl ?_
          refine tv_aload_n C (pc := 31) dX6_commit_31 rfl rfl ?_
          refine tv_getR C (pc := 32) dX6_commit_32 fl_X6_12 (ts_live (k := 0) (by decide) (by decide) (by decide)) rfl rfl (i2 := (1, 0, 0)) rfl ?_
          refine tv_iload_n C (pc := 35) dX6_commit_35 rfl rfl ?_
          obtain ⟨q13, hq13, h⟩ := ts_bd h
          refine tv_callV C (pc := 36) dX6_commit_36 (ci := 0) (q := (RX0, TX0, 8)) rfl yl_X6_91 (m_X0_askCommit (D := D) (dT := dT) (sz := sz) (ad := ad) hl 0 (by decide) p1 u q13 hq13) (ts_live (k := 1) (by decide) (by decide) (by decide)) rfl (Nat.le_trans (Nat.le_of_ble_eq_true rfl) hdd) (As := [.inl (.int p1)]) rfl ⟨Nat.le_of_ble_eq_true rfl, Nat.le_of_ble_eq_true rfl⟩ (fun _ => Nat.le_of_ble_eq_true rfl) rfl ?_
          obtain ⟨hgz, h⟩ := ts_gd h
          cases h
          exact tv_zret C (pc := 39) rfl (ts_nz hgz).1 dX6_commit_39 ⟨Nat.le_of_ble_eq_true rfl, Nat.le_of_ble_eq_true rfl⟩
        · have h := ts_eR h
          cases h
          exact tv_callS_thr C (pc := 28) hX dX6_commit_28 yl_X6_57 Mq10 (Nat.le_trans (Nat.le_of_ble_eq_true rfl) hdd) (As := [.inl (.int (1 : Int32))]) rfl ⟨Nat.le_of_ble_eq_true rfl, Nat.le_of_ble_eq_true rfl⟩ (fun _ => Nat.le_of_ble_eq_true rfl) rfl ⟨Nat.le_of_ble_eq_true rfl, Nat.le_of_ble_eq_true rfl⟩
    · have h := ts_eR h
      cases h
      exact tv_callS_thr C (pc := 5) hX dX6_commit_5 yl_X6_71 Mq2 (Nat.le_trans (Nat.le_of_ble_eq_true rfl) hdd) (As := [.inl (.int q1)]) rfl ⟨Nat.le_of_ble_eq_true rfl, Nat.le_of_ble_eq_true rfl⟩ (fun _ => Nat.le_of_ble_eq_true rfl) rfl ⟨Nat.le_of_ble_eq_true rfl, Nat.le_of_ble_eq_true rfl⟩
set_option maxRecDepth 100000 in
set_option maxHeartbeats 4000000 in
theorem m_X6_abort {l : Launch} {D : va_G} {dT : Nat → ClassId} {sz : Nat} {ad : ts_I → Nat} (hl : l.stackTraces = false) (p1 : Int32) (u : ts_Mem) (r : ((Int32 ⊕ String) × ts_Mem)) (h : f_X6_abort p1 u = some r) : ts_M l D dT sz yX6_abort wX6_abort 4 2 12 ad ts_lv ts_R0 [.inr (0, 0, 0), .inl (.int p1)] u (ts_oI r.1) r.2 := by
    unfold f_X6_abort at h
    refine ts_enter hl (by decide) rfl rfl (Nat.le_of_ble_eq_true rfl) ?_
    intro p e s m args below meth c C hX hnm
    have C : ts_CX D dT sz p l (ts_rm 4 2 12) s m args meth c RX6 cX6_abort 2 (some .int) 4 := C
    have hdd : 4 ≤ 4 := Nat.le_refl _
    refine tv_aload_n C (pc := 0) dX6_abort_0 rfl rfl ?_
    refine tv_iload_n C (pc := 1) dX6_abort_1 rfl rfl ?_
    obtain ⟨q1, hq1, h⟩ := ts_bd h
    refine tv_callV C (pc := 2) dX6_abort_2 (ci := 6) (q := (RX6, TX6, 6)) rfl yl_X6_64 (m_X6_isTransaction (D := D) (dT := dT) (sz := sz) (ad := ad) hl p1 u q1 hq1) (ts_live (k := 0) (by decide) (by decide) (by decide)) rfl (Nat.le_trans (Nat.le_of_ble_eq_true rfl) hdd) (As := [.inl (.int p1)]) rfl ⟨Nat.le_of_ble_eq_true rfl, Nat.le_of_ble_eq_true rfl⟩ (fun _ => Nat.le_of_ble_eq_true rfl) rfl ?_
    obtain ⟨q2, hq2, h⟩ := ts_bd h
    have Mq2 := (m_X6_requireIndex (D := D) (dT := dT) (sz := sz) (ad := ad) hl q1 u q2 hq2)
    rcases q2 with v3 | e4
    · have h := ts_eL h
      refine tv_callS C (pc := 5) dX6_abort_5 yl_X6_71 Mq2 (Nat.le_trans (Nat.le_of_ble_eq_true rfl) hdd) (As := [.inl (.int q1)]) rfl ⟨Nat.le_of_ble_eq_true rfl, Nat.le_of_ble_eq_true rfl⟩ (fun _ => Nat.le_of_ble_eq_true rfl) rfl ?_
      refine tv_aload_n C (pc := 8) dX6_abort_8 rfl rfl ?_
      refine tv_getR C (pc := 9) dX6_abort_9 fl_X6_12 (ts_live (k := 0) (by decide) (by decide) (by decide)) rfl rfl (i2 := (1, 0, 0)) rfl ?_
      refine tv_getR C (pc := 12) dX6_abort_12 fl_X6_82 (ts_live (k := 1) (by decide) (by decide) (by decide)) rfl rfl (i2 := (2, 0, 0)) rfl ?_
      refine tv_iload_n C (pc := 15) dX6_abort_15 rfl rfl ?_
      obtain ⟨hr5, h⟩ := ts_gd h
      refine tv_aaload5 C (pc := 16) dX6_abort_16 (ts_live (k := 2) (by decide) (by decide) (by decide)) rfl hr5 (j := p1.toNatClampNeg) rfl (i2 := (11, 0, p1.toNatClampNeg)) rfl ?_
      obtain ⟨q6, hq6, h⟩ := ts_bd h
      refine tv_callV C (pc := 17) dX6_abort_17 (ci := 5) (q := (RX5, TX5, 10)) rfl yl_X6_94 (m_X5_isUncommitted (D := D) (dT := dT) (sz := sz) (ad := ad) hl 0 (by decide) p1.toNatClampNeg (ts_vin hr5) u q6 hq6) (ts_live (k := 11) (by decide) (by decide) (ts_vin hr5)) rfl (Nat.le_trans (Nat.le_of_ble_eq_true rfl) hdd) (As := []) rfl ⟨Nat.le_of_ble_eq_true rfl, Nat.le_of_ble_eq_true rfl⟩ (fun _ => Nat.le_of_ble_eq_true rfl) rfl ?_
      obtain ⟨q7, hq7, h⟩ := ts_bd h
      have Mq7 := (m_X6_requireState (D := D) (dT := dT) (sz := sz) (ad := ad) hl q6 u q7 hq7)
      rcases q7 with v8 | e9
      · have h := ts_eL h
        refine tv_callS C (pc := 20) dX6_abort_20 yl_X6_57 Mq7 (Nat.le_trans (Nat.le_of_ble_eq_true rfl) hdd) (As := [.inl (.int q6)]) rfl ⟨Nat.le_of_ble_eq_true rfl, Nat.le_of_ble_eq_true rfl⟩ (fun _ => Nat.le_of_ble_eq_true rfl) rfl ?_
        refine tv_aload_n C (pc := 23) dX6_abort_23 rfl rfl ?_
        refine tv_getR C (pc := 24) dX6_abort_24 fl_X6_12 (ts_live (k := 0) (by decide) (by decide) (by decide)) rfl rfl (i2 := (1, 0, 0)) rfl ?_
        refine tv_iload_n C (pc := 27) dX6_abort_27 rfl rfl ?_
        refine tv_iconst C (pc := 28) dX6_abort_28 (v := (-1 : Int32)) rfl ?_
        obtain ⟨q10, hq10, h⟩ := ts_bd h
        refine tv_callV C (pc := 29) dX6_abort_29 (ci := 0) (q := (RX0, TX0, 8)) rfl yl_X6_98 (m_X0_abortWithDependents (D := D) (dT := dT) (sz := sz) (ad := ad) hl 0 (by decide) p1 (-1 : Int32) u q10 hq10) (ts_live (k := 1) (by decide) (by decide) (by decide)) rfl (Nat.le_trans (Nat.le_of_ble_eq_true rfl) hdd) (As := [.inl (.int p1), .inl (.int (-1 : Int32))]) rfl ⟨Nat.le_of_ble_eq_true rfl, Nat.le_of_ble_eq_true rfl⟩ (fun _ => Nat.le_of_ble_eq_true rfl) rfl ?_
        cases h
        exact tv_iret C (pc := 32) rfl dX6_abort_32 ⟨Nat.le_of_ble_eq_true rfl, Nat.le_of_ble_eq_true rfl⟩
      · have h := ts_eR h
        cases h
        exact tv_callS_thr C (pc := 20) hX dX6_abort_20 yl_X6_57 Mq7 (Nat.le_trans (Nat.le_of_ble_eq_true rfl) hdd) (As := [.inl (.int q6)]) rfl ⟨Nat.le_of_ble_eq_true rfl, Nat.le_of_ble_eq_true rfl⟩ (fun _ => Nat.le_of_ble_eq_true rfl) rfl ⟨Nat.le_of_ble_eq_true rfl, Nat.le_of_ble_eq_true rfl⟩
    · have h := ts_eR h
      cases h
      exact tv_callS_thr C (pc := 5) hX dX6_abort_5 yl_X6_71 Mq2 (Nat.le_trans (Nat.le_of_ble_eq_true rfl) hdd) (As := [.inl (.int q1)]) rfl ⟨Nat.le_of_ble_eq_true rfl, Nat.le_of_ble_eq_true rfl⟩ (fun _ => Nat.le_of_ble_eq_true rfl) rfl ⟨Nat.le_of_ble_eq_true rfl, Nat.le_of_ble_eq_true rfl⟩
set_option maxRecDepth 100000 in
set_option maxHeartbeats 4000000 in
theorem m_X6_requireElement {l : Launch} {D : va_G} {dT : Nat → ClassId} {sz : Nat} {ad : ts_I → Nat} (hl : l.stackTraces = false) (p0 : Int32) (u : ts_Mem) (r : (Unit ⊕ String)) (h : f_X6_requireElement p0 u = some r) : ts_M l D dT sz yX6_requireElement wX6_requireElement 0 1 6 ad ts_lv ts_R0 [.inl (.int p0)] u (ts_oU r) u := by
    unfold f_X6_requireElement at h
    refine ts_enter hl (by decide) rfl rfl (Nat.le_of_ble_eq_true rfl) ?_
    intro p e s m args below meth c C hX hnm
    have C : ts_CX D dT sz p l (ts_rm 0 1 6) s m args meth c RX6 cX6_requireElement 1 none 0 := C
    have hdd : 0 ≤ 0 := Nat.le_refl _
    refine tv_iload_n C (pc := 0) dX6_requireElement_0 rfl rfl ?_
    refine tv_if_ne C (pc := 1) 15 dX6_requireElement_1 (by decide) (fun hc => ?_) (fun hc => ?_)
    · have h := ts_ifn h hc
      cases h
      exact tv_vret C (pc := 15) rfl dX6_requireElement_15 ⟨Nat.le_of_ble_eq_true rfl, Nat.le_of_ble_eq_true rfl⟩
    · have h := ts_ifp h hc
      cases h
      exact tv_throwX C (pc := 4) hX th_X6_254_256 dX6_requireElement_4 dX6_requireElement_7 dX6_requireElement_8 dX6_requireElement_11 dX6_requireElement_14 ⟨Nat.le_of_ble_eq_true rfl, Nat.le_of_ble_eq_true rfl⟩ (fun _ => Nat.le_of_ble_eq_true rfl) ⟨Nat.le_of_ble_eq_true rfl, Nat.le_of_ble_eq_true rfl⟩
set_option maxRecDepth 100000 in
set_option maxHeartbeats 4000000 in
theorem m_X6_restartNext {l : Launch} {D : va_G} {dT : Nat → ClassId} {sz : Nat} {ad : ts_I → Nat} (hl : l.stackTraces = false)  (u : ts_Mem) (r : ((Int32 ⊕ String) × ts_Mem)) (h : f_X6_restartNext  u = some r) : ts_M l D dT sz yX6_restartNext wX6_restartNext 6 1 6 ad ts_lv ts_R0 [.inr (0, 0, 0)] u (ts_oI r.1) r.2 := by
    unfold f_X6_restartNext at h
    refine ts_enter hl (by decide) rfl rfl (Nat.le_of_ble_eq_true rfl) ?_
    intro p e s m args below meth c C hX hnm
    have C : ts_CX D dT sz p l (ts_rm 6 1 6) s m args meth c RX6 cX6_restartNext 2 (some .int) 6 := C
    have hdd : 6 ≤ 6 := Nat.le_refl _
    refine tv_aload_n C (pc := 0) dX6_restartNext_0 rfl rfl ?_
    refine tv_getR C (pc := 1) dX6_restartNext_1 fl_X6_12 (ts_live (k := 0) (by decide) (by decide) (by decide)) rfl rfl (i2 := (1, 0, 0)) rfl ?_
    obtain ⟨q1, hq1, h⟩ := ts_bd h
    refine tv_callV C (pc := 4) dX6_restartNext_4 (ci := 0) (q := (RX0, TX0, 8)) rfl yl_X6_102 (m_X0_nextToRestart (D := D) (dT := dT) (sz := sz) (ad := ad) hl 0 (by decide) u q1 hq1) (ts_live (k := 1) (by decide) (by decide) (by decide)) rfl (Nat.le_trans (Nat.le_of_ble_eq_true rfl) hdd) (As := []) rfl ⟨Nat.le_of_ble_eq_true rfl, Nat.le_of_ble_eq_true rfl⟩ (fun _ => Nat.le_of_ble_eq_true rfl) rfl ?_
    refine tv_istore_n C (pc := 7) dX6_restartNext_7 (L' := [some (.inr (0, 0, 0)), some (.inl (.int q1))]) rfl (by decide) rfl rfl ?_
    refine tv_iload_n C (pc := 8) dX6_restartNext_8 rfl rfl ?_
    refine tv_if_lt C (pc := 9) 16 dX6_restartNext_9 (by decide) (fun hc => ?_) (fun hc => ?_)
    · have h := ts_ifp h hc
      refine tv_iconst C (pc := 16) dX6_restartNext_16 (v := (0 : Int32)) rfl ?_
      obtain ⟨q2, hq2, h⟩ := ts_bd h
      have Mq2 := (m_X6_requireElement (D := D) (dT := dT) (sz := sz) (ad := ad) hl (0 : Int32) u q2 hq2)
      rcases q2 with v3 | e4
      · have h := ts_eL h
        refine tv_callS C (pc := 17) dX6_restartNext_17 yl_X6_106 Mq2 (Nat.le_trans (Nat.le_of_ble_eq_true rfl) hdd) (As := [.inl (.int (0 : Int32))]) rfl ⟨Nat.le_of_ble_eq_true rfl, Nat.le_of_ble_eq_true rfl⟩ (fun _ => Nat.le_of_ble_eq_true rfl) rfl ?_
        refine tv_aload_n C (pc := 20) dX6_restartNext_20 rfl rfl ?_
        refine tv_getR C (pc := 21) dX6_restartNext_21 fl_X6_12 (ts_live (k := 0) (by decide) (by decide) (by decide)) rfl rfl (i2 := (1, 0, 0)) rfl ?_
        refine tv_iload_n C (pc := 24) dX6_restartNext_24 rfl rfl ?_
        obtain ⟨q5, hq5, h⟩ := ts_bd h
        refine tv_callV C (pc := 25) dX6_restartNext_25 (ci := 0) (q := (RX0, TX0, 8)) rfl yl_X6_109 (m_X0_restartTransaction (D := D) (dT := dT) (sz := sz) (ad := ad) hl 0 (by decide) q1 u q5 hq5) (ts_live (k := 1) (by decide) (by decide) (by decide)) rfl (Nat.le_trans (Nat.le_of_ble_eq_true rfl) hdd) (As := [.inl (.int q1)]) rfl ⟨Nat.le_of_ble_eq_true rfl, Nat.le_of_ble_eq_true rfl⟩ (fun _ => Nat.le_of_ble_eq_true rfl) rfl ?_
        refine tv_iload_n C (pc := 28) dX6_restartNext_28 rfl rfl ?_
        cases h
        exact tv_iret C (pc := 29) rfl dX6_restartNext_29 ⟨Nat.le_of_ble_eq_true rfl, Nat.le_of_ble_eq_true rfl⟩
      · have h := ts_eR h
        cases h
        exact tv_callS_thr C (pc := 17) hX dX6_restartNext_17 yl_X6_106 Mq2 (Nat.le_trans (Nat.le_of_ble_eq_true rfl) hdd) (As := [.inl (.int (0 : Int32))]) rfl ⟨Nat.le_of_ble_eq_true rfl, Nat.le_of_ble_eq_true rfl⟩ (fun _ => Nat.le_of_ble_eq_true rfl) rfl ⟨Nat.le_of_ble_eq_true rfl, Nat.le_of_ble_eq_true rfl⟩
    · have h := ts_ifn h hc
      refine tv_iconst C (pc := 12) dX6_restartNext_12 (v := (1 : Int32)) rfl ?_
      refine tv_goto C (pc := 13) 17 dX6_restartNext_13 (by decide) ?_
      obtain ⟨q6, hq6, h⟩ := ts_bd h
      have Mq6 := (m_X6_requireElement (D := D) (dT := dT) (sz := sz) (ad := ad) hl (1 : Int32) u q6 hq6)
      rcases q6 with v7 | e8
      · have h := ts_eL h
        refine tv_callS C (pc := 17) dX6_restartNext_17 yl_X6_106 Mq6 (Nat.le_trans (Nat.le_of_ble_eq_true rfl) hdd) (As := [.inl (.int (1 : Int32))]) rfl ⟨Nat.le_of_ble_eq_true rfl, Nat.le_of_ble_eq_true rfl⟩ (fun _ => Nat.le_of_ble_eq_true rfl) rfl ?_
        refine tv_aload_n C (pc := 20) dX6_restartNext_20 rfl rfl ?_
        refine tv_getR C (pc := 21) dX6_restartNext_21 fl_X6_12 (ts_live (k := 0) (by decide) (by decide) (by decide)) rfl rfl (i2 := (1, 0, 0)) rfl ?_
        refine tv_iload_n C (pc := 24) dX6_restartNext_24 rfl rfl ?_
        obtain ⟨q9, hq9, h⟩ := ts_bd h
        refine tv_callV C (pc := 25) dX6_restartNext_25 (ci := 0) (q := (RX0, TX0, 8)) rfl yl_X6_109 (m_X0_restartTransaction (D := D) (dT := dT) (sz := sz) (ad := ad) hl 0 (by decide) q1 u q9 hq9) (ts_live (k := 1) (by decide) (by decide) (by decide)) rfl (Nat.le_trans (Nat.le_of_ble_eq_true rfl) hdd) (As := [.inl (.int q1)]) rfl ⟨Nat.le_of_ble_eq_true rfl, Nat.le_of_ble_eq_true rfl⟩ (fun _ => Nat.le_of_ble_eq_true rfl) rfl ?_
        refine tv_iload_n C (pc := 28) dX6_restartNext_28 rfl rfl ?_
        cases h
        exact tv_iret C (pc := 29) rfl dX6_restartNext_29 ⟨Nat.le_of_ble_eq_true rfl, Nat.le_of_ble_eq_true rfl⟩
      · have h := ts_eR h
        cases h
        exact tv_callS_thr C (pc := 17) hX dX6_restartNext_17 yl_X6_106 Mq6 (Nat.le_trans (Nat.le_of_ble_eq_true rfl) hdd) (As := [.inl (.int (1 : Int32))]) rfl ⟨Nat.le_of_ble_eq_true rfl, Nat.le_of_ble_eq_true rfl⟩ (fun _ => Nat.le_of_ble_eq_true rfl) rfl ⟨Nat.le_of_ble_eq_true rfl, Nat.le_of_ble_eq_true rfl⟩
set_option maxRecDepth 100000 in
set_option maxHeartbeats 4000000 in
theorem m_X6_append {l : Launch} {D : va_G} {dT : Nat → ClassId} {sz : Nat} {ad : ts_I → Nat} (hl : l.stackTraces = false) (p1 : Int32) (u : ts_Mem) (r : ((Int32 ⊕ String) × ts_Mem)) (h : f_X6_append p1 u = some r) : ts_M l D dT sz yX6_append wX6_append 1 2 12 ad ts_lv ts_R0 [.inr (0, 0, 0), .inl (.int p1)] u (ts_oI r.1) r.2 := by
    unfold f_X6_append at h
    refine ts_enter hl (by decide) rfl rfl (Nat.le_of_ble_eq_true rfl) ?_
    intro p e s m args below meth c C hX hnm
    have C : ts_CX D dT sz p l (ts_rm 1 2 12) s m args meth c RX6 cX6_append 2 (some .int) 1 := C
    have hdd : 1 ≤ 1 := Nat.le_refl _
    refine tv_iload_n C (pc := 0) dX6_append_0 rfl rfl ?_
    refine tv_bipush C (pc := 1) dX6_append_1 (v := (32 : Int32)) rfl ?_
    refine tv_icmp_lt C (pc := 3) 16 dX6_append_3 (by decide) (fun hc => ?_) (fun hc => ?_)
    · have h := ts_ifp h hc
      refine tv_iconst C (pc := 16) dX6_append_16 (v := (0 : Int32)) rfl ?_
      obtain ⟨q1, hq1, h⟩ := ts_bd h
      have Mq1 := (m_X6_requireArgument (D := D) (dT := dT) (sz := sz) (ad := ad) hl (0 : Int32) u q1 hq1)
      rcases q1 with v2 | e3
      · have h := ts_eL h
        refine tv_callS C (pc := 17) dX6_append_17 yl_X6_43 Mq1 (Nat.le_trans (Nat.le_of_ble_eq_true rfl) hdd) (As := [.inl (.int (0 : Int32))]) rfl ⟨Nat.le_of_ble_eq_true rfl, Nat.le_of_ble_eq_true rfl⟩ (fun _ => Nat.le_of_ble_eq_true rfl) rfl ?_
        refine tv_aload_n C (pc := 20) dX6_append_20 rfl rfl ?_
        refine tv_getR C (pc := 21) dX6_append_21 fl_X6_28 (ts_live (k := 0) (by decide) (by decide) (by decide)) rfl rfl (i2 := (21, 0, 0)) rfl ?_
        refine tv_getI C (pc := 24) dX6_append_24 fl_X6_112 (ts_live (k := 21) (by decide) (by decide) (by decide)) rfl (cd := 0) rfl (by decide) ?_
        refine tv_bipush C (pc := 27) dX6_append_27 (v := (60 : Int32)) rfl ?_
        refine tv_icmp_ge C (pc := 29) 36 dX6_append_29 (by decide) (fun hc => ?_) (fun hc => ?_)
        · have h := ts_ifp h hc
          refine tv_iconst C (pc := 36) dX6_append_36 (v := (0 : Int32)) rfl ?_
          obtain ⟨q4, hq4, h⟩ := ts_bd h
          have Mq4 := (m_X6_requireState (D := D) (dT := dT) (sz := sz) (ad := ad) hl (0 : Int32) u q4 hq4)
          rcases q4 with v5 | e6
          · have h := ts_eL h
            refine tv_callS C (pc := 37) dX6_append_37 yl_X6_57 Mq4 (Nat.le_trans (Nat.le_of_ble_eq_true rfl) hdd) (As := [.inl (.int (0 : Int32))]) rfl ⟨Nat.le_of_ble_eq_true rfl, Nat.le_of_ble_eq_true rfl⟩ (fun _ => Nat.le_of_ble_eq_true rfl) rfl ?_
            refine tv_aload_n C (pc := 40) dX6_append_40 rfl rfl ?_
            refine tv_getR C (pc := 41) dX6_append_41 fl_X6_28 (ts_live (k := 0) (by decide) (by decide) (by decide)) rfl rfl (i2 := (21, 0, 0)) rfl ?_
            refine tv_getR C (pc := 44) dX6_append_44 fl_X6_115 (ts_live (k := 21) (by decide) (by decide) (by decide)) rfl rfl (i2 := (22, 0, 0)) rfl ?_
            refine tv_aload_n C (pc := 47) dX6_append_47 rfl rfl ?_
            refine tv_getR C (pc := 48) dX6_append_48 fl_X6_28 (ts_live (k := 0) (by decide) (by decide) (by decide)) rfl rfl (i2 := (21, 0, 0)) rfl ?_
            refine tv_getI C (pc := 51) dX6_append_51 fl_X6_112 (ts_live (k := 21) (by decide) (by decide) (by decide)) rfl (cd := 0) rfl (by decide) ?_
            refine tv_iload_n C (pc := 54) dX6_append_54 rfl rfl ?_
            obtain ⟨hr7, h⟩ := ts_gd h
            refine tv_castore C (pc := 55) dX6_append_55 (ts_live (k := 22) (by decide) (by decide) (by decide)) rfl hr7 (j := ((ts_gI u (21, 0, 0) 0)).toNatClampNeg) rfl ?_
            refine tv_nu (fun u8 hu8 => ?_)
            have h := ts_lt h hu8
            refine tv_aload_n C (pc := 56) dX6_append_56 rfl rfl ?_
            refine tv_getR C (pc := 57) dX6_append_57 fl_X6_28 (ts_live (k := 0) (by decide) (by decide) (by decide)) rfl rfl (i2 := (21, 0, 0)) rfl ?_
            refine tv_dup C (pc := 60) dX6_append_60 (fun _ => rfl) ?_
            refine tv_getI C (pc := 61) dX6_append_61 fl_X6_112 (ts_live (k := 21) (by decide) (by decide) (by decide)) rfl (cd := 0) rfl (by decide) ?_
            refine tv_iconst C (pc := 64) dX6_append_64 (v := (1 : Int32)) rfl ?_
            refine tv_iadd C (pc := 65) dX6_append_65 ?_
            refine tv_putI C (pc := 66) dX6_append_66 fp_X6_112 (ts_live (k := 21) (by decide) (by decide) (by decide)) rfl (cd := 0) rfl (by decide) rfl rfl ?_
            refine tv_nu (fun u9 hu9 => ?_)
            have h := ts_lt h hu9
            refine tv_aload_n C (pc := 69) dX6_append_69 rfl rfl ?_
            refine tv_getR C (pc := 70) dX6_append_70 fl_X6_28 (ts_live (k := 0) (by decide) (by decide) (by decide)) rfl rfl (i2 := (21, 0, 0)) rfl ?_
            refine tv_getI C (pc := 73) dX6_append_73 fl_X6_112 (ts_live (k := 21) (by decide) (by decide) (by decide)) rfl (cd := 0) rfl (by decide) ?_
            cases h
            exact tv_iret C (pc := 76) rfl dX6_append_76 ⟨Nat.le_of_ble_eq_true rfl, Nat.le_of_ble_eq_true rfl⟩
          · have h := ts_eR h
            cases h
            exact tv_callS_thr C (pc := 37) hX dX6_append_37 yl_X6_57 Mq4 (Nat.le_trans (Nat.le_of_ble_eq_true rfl) hdd) (As := [.inl (.int (0 : Int32))]) rfl ⟨Nat.le_of_ble_eq_true rfl, Nat.le_of_ble_eq_true rfl⟩ (fun _ => Nat.le_of_ble_eq_true rfl) rfl ⟨Nat.le_of_ble_eq_true rfl, Nat.le_of_ble_eq_true rfl⟩
        · have h := ts_ifn h hc
          refine tv_iconst C (pc := 32) dX6_append_32 (v := (1 : Int32)) rfl ?_
          refine tv_goto C (pc := 33) 37 dX6_append_33 (by decide) ?_
          obtain ⟨q10, hq10, h⟩ := ts_bd h
          have Mq10 := (m_X6_requireState (D := D) (dT := dT) (sz := sz) (ad := ad) hl (1 : Int32) u q10 hq10)
          rcases q10 with v11 | e12
          · have h := ts_eL h
            refine tv_callS C (pc := 37) dX6_append_37 yl_X6_57 Mq10 (Nat.le_trans (Nat.le_of_ble_eq_true rfl) hdd) (As := [.inl (.int (1 : Int32))]) rfl ⟨Nat.le_of_ble_eq_true rfl, Nat.le_of_ble_eq_true rfl⟩ (fun _ => Nat.le_of_ble_eq_true rfl) rfl ?_
            refine tv_aload_n C (pc := 40) dX6_append_40 rfl rfl ?_
            refine tv_getR C (pc := 41) dX6_append_41 fl_X6_28 (ts_live (k := 0) (by decide) (by decide) (by decide)) rfl rfl (i2 := (21, 0, 0)) rfl ?_
            refine tv_getR C (pc := 44) dX6_append_44 fl_X6_115 (ts_live (k := 21) (by decide) (by decide) (by decide)) rfl rfl (i2 := (22, 0, 0)) rfl ?_
            refine tv_aload_n C (pc := 47) dX6_append_47 rfl rfl ?_
            refine tv_getR C (pc := 48) dX6_append_48 fl_X6_28 (ts_live (k := 0) (by decide) (by decide) (by decide)) rfl rfl (i2 := (21, 0, 0)) rfl ?_
            refine tv_getI C (pc := 51) dX6_append_51 fl_X6_112 (ts_live (k := 21) (by decide) (by decide) (by decide)) rfl (cd := 0) rfl (by decide) ?_
            refine tv_iload_n C (pc := 54) dX6_append_54 rfl rfl ?_
            obtain ⟨hr13, h⟩ := ts_gd h
            refine tv_castore C (pc := 55) dX6_append_55 (ts_live (k := 22) (by decide) (by decide) (by decide)) rfl hr13 (j := ((ts_gI u (21, 0, 0) 0)).toNatClampNeg) rfl ?_
            refine tv_nu (fun u14 hu14 => ?_)
            have h := ts_lt h hu14
            refine tv_aload_n C (pc := 56) dX6_append_56 rfl rfl ?_
            refine tv_getR C (pc := 57) dX6_append_57 fl_X6_28 (ts_live (k := 0) (by decide) (by decide) (by decide)) rfl rfl (i2 := (21, 0, 0)) rfl ?_
            refine tv_dup C (pc := 60) dX6_append_60 (fun _ => rfl) ?_
            refine tv_getI C (pc := 61) dX6_append_61 fl_X6_112 (ts_live (k := 21) (by decide) (by decide) (by decide)) rfl (cd := 0) rfl (by decide) ?_
            refine tv_iconst C (pc := 64) dX6_append_64 (v := (1 : Int32)) rfl ?_
            refine tv_iadd C (pc := 65) dX6_append_65 ?_
            refine tv_putI C (pc := 66) dX6_append_66 fp_X6_112 (ts_live (k := 21) (by decide) (by decide) (by decide)) rfl (cd := 0) rfl (by decide) rfl rfl ?_
            refine tv_nu (fun u15 hu15 => ?_)
            have h := ts_lt h hu15
            refine tv_aload_n C (pc := 69) dX6_append_69 rfl rfl ?_
            refine tv_getR C (pc := 70) dX6_append_70 fl_X6_28 (ts_live (k := 0) (by decide) (by decide) (by decide)) rfl rfl (i2 := (21, 0, 0)) rfl ?_
            refine tv_getI C (pc := 73) dX6_append_73 fl_X6_112 (ts_live (k := 21) (by decide) (by decide) (by decide)) rfl (cd := 0) rfl (by decide) ?_
            cases h
            exact tv_iret C (pc := 76) rfl dX6_append_76 ⟨Nat.le_of_ble_eq_true rfl, Nat.le_of_ble_eq_true rfl⟩
          · have h := ts_eR h
            cases h
            exact tv_callS_thr C (pc := 37) hX dX6_append_37 yl_X6_57 Mq10 (Nat.le_trans (Nat.le_of_ble_eq_true rfl) hdd) (As := [.inl (.int (1 : Int32))]) rfl ⟨Nat.le_of_ble_eq_true rfl, Nat.le_of_ble_eq_true rfl⟩ (fun _ => Nat.le_of_ble_eq_true rfl) rfl ⟨Nat.le_of_ble_eq_true rfl, Nat.le_of_ble_eq_true rfl⟩
      · have h := ts_eR h
        cases h
        exact tv_callS_thr C (pc := 17) hX dX6_append_17 yl_X6_43 Mq1 (Nat.le_trans (Nat.le_of_ble_eq_true rfl) hdd) (As := [.inl (.int (0 : Int32))]) rfl ⟨Nat.le_of_ble_eq_true rfl, Nat.le_of_ble_eq_true rfl⟩ (fun _ => Nat.le_of_ble_eq_true rfl) rfl ⟨Nat.le_of_ble_eq_true rfl, Nat.le_of_ble_eq_true rfl⟩
    · have h := ts_ifn h hc
      refine tv_iload_n C (pc := 6) dX6_append_6 rfl rfl ?_
      refine tv_bipush C (pc := 7) dX6_append_7 (v := (126 : Int32)) rfl ?_
      refine tv_icmp_gt C (pc := 9) 16 dX6_append_9 (by decide) (fun hc => ?_) (fun hc => ?_)
      · have h := ts_ifp h hc
        refine tv_iconst C (pc := 16) dX6_append_16 (v := (0 : Int32)) rfl ?_
        obtain ⟨q16, hq16, h⟩ := ts_bd h
        have Mq16 := (m_X6_requireArgument (D := D) (dT := dT) (sz := sz) (ad := ad) hl (0 : Int32) u q16 hq16)
        rcases q16 with v17 | e18
        · have h := ts_eL h
          refine tv_callS C (pc := 17) dX6_append_17 yl_X6_43 Mq16 (Nat.le_trans (Nat.le_of_ble_eq_true rfl) hdd) (As := [.inl (.int (0 : Int32))]) rfl ⟨Nat.le_of_ble_eq_true rfl, Nat.le_of_ble_eq_true rfl⟩ (fun _ => Nat.le_of_ble_eq_true rfl) rfl ?_
          refine tv_aload_n C (pc := 20) dX6_append_20 rfl rfl ?_
          refine tv_getR C (pc := 21) dX6_append_21 fl_X6_28 (ts_live (k := 0) (by decide) (by decide) (by decide)) rfl rfl (i2 := (21, 0, 0)) rfl ?_
          refine tv_getI C (pc := 24) dX6_append_24 fl_X6_112 (ts_live (k := 21) (by decide) (by decide) (by decide)) rfl (cd := 0) rfl (by decide) ?_
          refine tv_bipush C (pc := 27) dX6_append_27 (v := (60 : Int32)) rfl ?_
          refine tv_icmp_ge C (pc := 29) 36 dX6_append_29 (by decide) (fun hc => ?_) (fun hc => ?_)
          · have h := ts_ifp h hc
            refine tv_iconst C (pc := 36) dX6_append_36 (v := (0 : Int32)) rfl ?_
            obtain ⟨q19, hq19, h⟩ := ts_bd h
            have Mq19 := (m_X6_requireState (D := D) (dT := dT) (sz := sz) (ad := ad) hl (0 : Int32) u q19 hq19)
            rcases q19 with v20 | e21
            · have h := ts_eL h
              refine tv_callS C (pc := 37) dX6_append_37 yl_X6_57 Mq19 (Nat.le_trans (Nat.le_of_ble_eq_true rfl) hdd) (As := [.inl (.int (0 : Int32))]) rfl ⟨Nat.le_of_ble_eq_true rfl, Nat.le_of_ble_eq_true rfl⟩ (fun _ => Nat.le_of_ble_eq_true rfl) rfl ?_
              refine tv_aload_n C (pc := 40) dX6_append_40 rfl rfl ?_
              refine tv_getR C (pc := 41) dX6_append_41 fl_X6_28 (ts_live (k := 0) (by decide) (by decide) (by decide)) rfl rfl (i2 := (21, 0, 0)) rfl ?_
              refine tv_getR C (pc := 44) dX6_append_44 fl_X6_115 (ts_live (k := 21) (by decide) (by decide) (by decide)) rfl rfl (i2 := (22, 0, 0)) rfl ?_
              refine tv_aload_n C (pc := 47) dX6_append_47 rfl rfl ?_
              refine tv_getR C (pc := 48) dX6_append_48 fl_X6_28 (ts_live (k := 0) (by decide) (by decide) (by decide)) rfl rfl (i2 := (21, 0, 0)) rfl ?_
              refine tv_getI C (pc := 51) dX6_append_51 fl_X6_112 (ts_live (k := 21) (by decide) (by decide) (by decide)) rfl (cd := 0) rfl (by decide) ?_
              refine tv_iload_n C (pc := 54) dX6_append_54 rfl rfl ?_
              obtain ⟨hr22, h⟩ := ts_gd h
              refine tv_castore C (pc := 55) dX6_append_55 (ts_live (k := 22) (by decide) (by decide) (by decide)) rfl hr22 (j := ((ts_gI u (21, 0, 0) 0)).toNatClampNeg) rfl ?_
              refine tv_nu (fun u23 hu23 => ?_)
              have h := ts_lt h hu23
              refine tv_aload_n C (pc := 56) dX6_append_56 rfl rfl ?_
              refine tv_getR C (pc := 57) dX6_append_57 fl_X6_28 (ts_live (k := 0) (by decide) (by decide) (by decide)) rfl rfl (i2 := (21, 0, 0)) rfl ?_
              refine tv_dup C (pc := 60) dX6_append_60 (fun _ => rfl) ?_
              refine tv_getI C (pc := 61) dX6_append_61 fl_X6_112 (ts_live (k := 21) (by decide) (by decide) (by decide)) rfl (cd := 0) rfl (by decide) ?_
              refine tv_iconst C (pc := 64) dX6_append_64 (v := (1 : Int32)) rfl ?_
              refine tv_iadd C (pc := 65) dX6_append_65 ?_
              refine tv_putI C (pc := 66) dX6_append_66 fp_X6_112 (ts_live (k := 21) (by decide) (by decide) (by decide)) rfl (cd := 0) rfl (by decide) rfl rfl ?_
              refine tv_nu (fun u24 hu24 => ?_)
              have h := ts_lt h hu24
              refine tv_aload_n C (pc := 69) dX6_append_69 rfl rfl ?_
              refine tv_getR C (pc := 70) dX6_append_70 fl_X6_28 (ts_live (k := 0) (by decide) (by decide) (by decide)) rfl rfl (i2 := (21, 0, 0)) rfl ?_
              refine tv_getI C (pc := 73) dX6_append_73 fl_X6_112 (ts_live (k := 21) (by decide) (by decide) (by decide)) rfl (cd := 0) rfl (by decide) ?_
              cases h
              exact tv_iret C (pc := 76) rfl dX6_append_76 ⟨Nat.le_of_ble_eq_true rfl, Nat.le_of_ble_eq_true rfl⟩
            · have h := ts_eR h
              cases h
              exact tv_callS_thr C (pc := 37) hX dX6_append_37 yl_X6_57 Mq19 (Nat.le_trans (Nat.le_of_ble_eq_true rfl) hdd) (As := [.inl (.int (0 : Int32))]) rfl ⟨Nat.le_of_ble_eq_true rfl, Nat.le_of_ble_eq_true rfl⟩ (fun _ => Nat.le_of_ble_eq_true rfl) rfl ⟨Nat.le_of_ble_eq_true rfl, Nat.le_of_ble_eq_true rfl⟩
          · have h := ts_ifn h hc
            refine tv_iconst C (pc := 32) dX6_append_32 (v := (1 : Int32)) rfl ?_
            refine tv_goto C (pc := 33) 37 dX6_append_33 (by decide) ?_
            obtain ⟨q25, hq25, h⟩ := ts_bd h
            have Mq25 := (m_X6_requireState (D := D) (dT := dT) (sz := sz) (ad := ad) hl (1 : Int32) u q25 hq25)
            rcases q25 with v26 | e27
            · have h := ts_eL h
              refine tv_callS C (pc := 37) dX6_append_37 yl_X6_57 Mq25 (Nat.le_trans (Nat.le_of_ble_eq_true rfl) hdd) (As := [.inl (.int (1 : Int32))]) rfl ⟨Nat.le_of_ble_eq_true rfl, Nat.le_of_ble_eq_true rfl⟩ (fun _ => Nat.le_of_ble_eq_true rfl) rfl ?_
              refine tv_aload_n C (pc := 40) dX6_append_40 rfl rfl ?_
              refine tv_getR C (pc := 41) dX6_append_41 fl_X6_28 (ts_live (k := 0) (by decide) (by decide) (by decide)) rfl rfl (i2 := (21, 0, 0)) rfl ?_
              refine tv_getR C (pc := 44) dX6_append_44 fl_X6_115 (ts_live (k := 21) (by decide) (by decide) (by decide)) rfl rfl (i2 := (22, 0, 0)) rfl ?_
              refine tv_aload_n C (pc := 47) dX6_append_47 rfl rfl ?_
              refine tv_getR C (pc := 48) dX6_append_48 fl_X6_28 (ts_live (k := 0) (by decide) (by decide) (by decide)) rfl rfl (i2 := (21, 0, 0)) rfl ?_
              refine tv_getI C (pc := 51) dX6_append_51 fl_X6_112 (ts_live (k := 21) (by decide) (by decide) (by decide)) rfl (cd := 0) rfl (by decide) ?_
              refine tv_iload_n C (pc := 54) dX6_append_54 rfl rfl ?_
              obtain ⟨hr28, h⟩ := ts_gd h
              refine tv_castore C (pc := 55) dX6_append_55 (ts_live (k := 22) (by decide) (by decide) (by decide)) rfl hr28 (j := ((ts_gI u (21, 0, 0) 0)).toNatClampNeg) rfl ?_
              refine tv_nu (fun u29 hu29 => ?_)
              have h := ts_lt h hu29
              refine tv_aload_n C (pc := 56) dX6_append_56 rfl rfl ?_
              refine tv_getR C (pc := 57) dX6_append_57 fl_X6_28 (ts_live (k := 0) (by decide) (by decide) (by decide)) rfl rfl (i2 := (21, 0, 0)) rfl ?_
              refine tv_dup C (pc := 60) dX6_append_60 (fun _ => rfl) ?_
              refine tv_getI C (pc := 61) dX6_append_61 fl_X6_112 (ts_live (k := 21) (by decide) (by decide) (by decide)) rfl (cd := 0) rfl (by decide) ?_
              refine tv_iconst C (pc := 64) dX6_append_64 (v := (1 : Int32)) rfl ?_
              refine tv_iadd C (pc := 65) dX6_append_65 ?_
              refine tv_putI C (pc := 66) dX6_append_66 fp_X6_112 (ts_live (k := 21) (by decide) (by decide) (by decide)) rfl (cd := 0) rfl (by decide) rfl rfl ?_
              refine tv_nu (fun u30 hu30 => ?_)
              have h := ts_lt h hu30
              refine tv_aload_n C (pc := 69) dX6_append_69 rfl rfl ?_
              refine tv_getR C (pc := 70) dX6_append_70 fl_X6_28 (ts_live (k := 0) (by decide) (by decide) (by decide)) rfl rfl (i2 := (21, 0, 0)) rfl ?_
              refine tv_getI C (pc := 73) dX6_append_73 fl_X6_112 (ts_live (k := 21) (by decide) (by decide) (by decide)) rfl (cd := 0) rfl (by decide) ?_
              cases h
              exact tv_iret C (pc := 76) rfl dX6_append_76 ⟨Nat.le_of_ble_eq_true rfl, Nat.le_of_ble_eq_true rfl⟩
            · have h := ts_eR h
              cases h
              exact tv_callS_thr C (pc := 37) hX dX6_append_37 yl_X6_57 Mq25 (Nat.le_trans (Nat.le_of_ble_eq_true rfl) hdd) (As := [.inl (.int (1 : Int32))]) rfl ⟨Nat.le_of_ble_eq_true rfl, Nat.le_of_ble_eq_true rfl⟩ (fun _ => Nat.le_of_ble_eq_true rfl) rfl ⟨Nat.le_of_ble_eq_true rfl, Nat.le_of_ble_eq_true rfl⟩
        · have h := ts_eR h
          cases h
          exact tv_callS_thr C (pc := 17) hX dX6_append_17 yl_X6_43 Mq16 (Nat.le_trans (Nat.le_of_ble_eq_true rfl) hdd) (As := [.inl (.int (0 : Int32))]) rfl ⟨Nat.le_of_ble_eq_true rfl, Nat.le_of_ble_eq_true rfl⟩ (fun _ => Nat.le_of_ble_eq_true rfl) rfl ⟨Nat.le_of_ble_eq_true rfl, Nat.le_of_ble_eq_true rfl⟩
      · have h := ts_ifn h hc
        refine tv_iconst C (pc := 12) dX6_append_12 (v := (1 : Int32)) rfl ?_
        refine tv_goto C (pc := 13) 17 dX6_append_13 (by decide) ?_
        obtain ⟨q31, hq31, h⟩ := ts_bd h
        have Mq31 := (m_X6_requireArgument (D := D) (dT := dT) (sz := sz) (ad := ad) hl (1 : Int32) u q31 hq31)
        rcases q31 with v32 | e33
        · have h := ts_eL h
          refine tv_callS C (pc := 17) dX6_append_17 yl_X6_43 Mq31 (Nat.le_trans (Nat.le_of_ble_eq_true rfl) hdd) (As := [.inl (.int (1 : Int32))]) rfl ⟨Nat.le_of_ble_eq_true rfl, Nat.le_of_ble_eq_true rfl⟩ (fun _ => Nat.le_of_ble_eq_true rfl) rfl ?_
          refine tv_aload_n C (pc := 20) dX6_append_20 rfl rfl ?_
          refine tv_getR C (pc := 21) dX6_append_21 fl_X6_28 (ts_live (k := 0) (by decide) (by decide) (by decide)) rfl rfl (i2 := (21, 0, 0)) rfl ?_
          refine tv_getI C (pc := 24) dX6_append_24 fl_X6_112 (ts_live (k := 21) (by decide) (by decide) (by decide)) rfl (cd := 0) rfl (by decide) ?_
          refine tv_bipush C (pc := 27) dX6_append_27 (v := (60 : Int32)) rfl ?_
          refine tv_icmp_ge C (pc := 29) 36 dX6_append_29 (by decide) (fun hc => ?_) (fun hc => ?_)
          · have h := ts_ifp h hc
            refine tv_iconst C (pc := 36) dX6_append_36 (v := (0 : Int32)) rfl ?_
            obtain ⟨q34, hq34, h⟩ := ts_bd h
            have Mq34 := (m_X6_requireState (D := D) (dT := dT) (sz := sz) (ad := ad) hl (0 : Int32) u q34 hq34)
            rcases q34 with v35 | e36
            · have h := ts_eL h
              refine tv_callS C (pc := 37) dX6_append_37 yl_X6_57 Mq34 (Nat.le_trans (Nat.le_of_ble_eq_true rfl) hdd) (As := [.inl (.int (0 : Int32))]) rfl ⟨Nat.le_of_ble_eq_true rfl, Nat.le_of_ble_eq_true rfl⟩ (fun _ => Nat.le_of_ble_eq_true rfl) rfl ?_
              refine tv_aload_n C (pc := 40) dX6_append_40 rfl rfl ?_
              refine tv_getR C (pc := 41) dX6_append_41 fl_X6_28 (ts_live (k := 0) (by decide) (by decide) (by decide)) rfl rfl (i2 := (21, 0, 0)) rfl ?_
              refine tv_getR C (pc := 44) dX6_append_44 fl_X6_115 (ts_live (k := 21) (by decide) (by decide) (by decide)) rfl rfl (i2 := (22, 0, 0)) rfl ?_
              refine tv_aload_n C (pc := 47) dX6_append_47 rfl rfl ?_
              refine tv_getR C (pc := 48) dX6_append_48 fl_X6_28 (ts_live (k := 0) (by decide) (by decide) (by decide)) rfl rfl (i2 := (21, 0, 0)) rfl ?_
              refine tv_getI C (pc := 51) dX6_append_51 fl_X6_112 (ts_live (k := 21) (by decide) (by decide) (by decide)) rfl (cd := 0) rfl (by decide) ?_
              refine tv_iload_n C (pc := 54) dX6_append_54 rfl rfl ?_
              obtain ⟨hr37, h⟩ := ts_gd h
              refine tv_castore C (pc := 55) dX6_append_55 (ts_live (k := 22) (by decide) (by decide) (by decide)) rfl hr37 (j := ((ts_gI u (21, 0, 0) 0)).toNatClampNeg) rfl ?_
              refine tv_nu (fun u38 hu38 => ?_)
              have h := ts_lt h hu38
              refine tv_aload_n C (pc := 56) dX6_append_56 rfl rfl ?_
              refine tv_getR C (pc := 57) dX6_append_57 fl_X6_28 (ts_live (k := 0) (by decide) (by decide) (by decide)) rfl rfl (i2 := (21, 0, 0)) rfl ?_
              refine tv_dup C (pc := 60) dX6_append_60 (fun _ => rfl) ?_
              refine tv_getI C (pc := 61) dX6_append_61 fl_X6_112 (ts_live (k := 21) (by decide) (by decide) (by decide)) rfl (cd := 0) rfl (by decide) ?_
              refine tv_iconst C (pc := 64) dX6_append_64 (v := (1 : Int32)) rfl ?_
              refine tv_iadd C (pc := 65) dX6_append_65 ?_
              refine tv_putI C (pc := 66) dX6_append_66 fp_X6_112 (ts_live (k := 21) (by decide) (by decide) (by decide)) rfl (cd := 0) rfl (by decide) rfl rfl ?_
              refine tv_nu (fun u39 hu39 => ?_)
              have h := ts_lt h hu39
              refine tv_aload_n C (pc := 69) dX6_append_69 rfl rfl ?_
              refine tv_getR C (pc := 70) dX6_append_70 fl_X6_28 (ts_live (k := 0) (by decide) (by decide) (by decide)) rfl rfl (i2 := (21, 0, 0)) rfl ?_
              refine tv_getI C (pc := 73) dX6_append_73 fl_X6_112 (ts_live (k := 21) (by decide) (by decide) (by decide)) rfl (cd := 0) rfl (by decide) ?_
              cases h
              exact tv_iret C (pc := 76) rfl dX6_append_76 ⟨Nat.le_of_ble_eq_true rfl, Nat.le_of_ble_eq_true rfl⟩
            · have h := ts_eR h
              cases h
              exact tv_callS_thr C (pc := 37) hX dX6_append_37 yl_X6_57 Mq34 (Nat.le_trans (Nat.le_of_ble_eq_true rfl) hdd) (As := [.inl (.int (0 : Int32))]) rfl ⟨Nat.le_of_ble_eq_true rfl, Nat.le_of_ble_eq_true rfl⟩ (fun _ => Nat.le_of_ble_eq_true rfl) rfl ⟨Nat.le_of_ble_eq_true rfl, Nat.le_of_ble_eq_true rfl⟩
          · have h := ts_ifn h hc
            refine tv_iconst C (pc := 32) dX6_append_32 (v := (1 : Int32)) rfl ?_
            refine tv_goto C (pc := 33) 37 dX6_append_33 (by decide) ?_
            obtain ⟨q40, hq40, h⟩ := ts_bd h
            have Mq40 := (m_X6_requireState (D := D) (dT := dT) (sz := sz) (ad := ad) hl (1 : Int32) u q40 hq40)
            rcases q40 with v41 | e42
            · have h := ts_eL h
              refine tv_callS C (pc := 37) dX6_append_37 yl_X6_57 Mq40 (Nat.le_trans (Nat.le_of_ble_eq_true rfl) hdd) (As := [.inl (.int (1 : Int32))]) rfl ⟨Nat.le_of_ble_eq_true rfl, Nat.le_of_ble_eq_true rfl⟩ (fun _ => Nat.le_of_ble_eq_true rfl) rfl ?_
              refine tv_aload_n C (pc := 40) dX6_append_40 rfl rfl ?_
              refine tv_getR C (pc := 41) dX6_append_41 fl_X6_28 (ts_live (k := 0) (by decide) (by decide) (by decide)) rfl rfl (i2 := (21, 0, 0)) rfl ?_
              refine tv_getR C (pc := 44) dX6_append_44 fl_X6_115 (ts_live (k := 21) (by decide) (by decide) (by decide)) rfl rfl (i2 := (22, 0, 0)) rfl ?_
              refine tv_aload_n C (pc := 47) dX6_append_47 rfl rfl ?_
              refine tv_getR C (pc := 48) dX6_append_48 fl_X6_28 (ts_live (k := 0) (by decide) (by decide) (by decide)) rfl rfl (i2 := (21, 0, 0)) rfl ?_
              refine tv_getI C (pc := 51) dX6_append_51 fl_X6_112 (ts_live (k := 21) (by decide) (by decide) (by decide)) rfl (cd := 0) rfl (by decide) ?_
              refine tv_iload_n C (pc := 54) dX6_append_54 rfl rfl ?_
              obtain ⟨hr43, h⟩ := ts_gd h
              refine tv_castore C (pc := 55) dX6_append_55 (ts_live (k := 22) (by decide) (by decide) (by decide)) rfl hr43 (j := ((ts_gI u (21, 0, 0) 0)).toNatClampNeg) rfl ?_
              refine tv_nu (fun u44 hu44 => ?_)
              have h := ts_lt h hu44
              refine tv_aload_n C (pc := 56) dX6_append_56 rfl rfl ?_
              refine tv_getR C (pc := 57) dX6_append_57 fl_X6_28 (ts_live (k := 0) (by decide) (by decide) (by decide)) rfl rfl (i2 := (21, 0, 0)) rfl ?_
              refine tv_dup C (pc := 60) dX6_append_60 (fun _ => rfl) ?_
              refine tv_getI C (pc := 61) dX6_append_61 fl_X6_112 (ts_live (k := 21) (by decide) (by decide) (by decide)) rfl (cd := 0) rfl (by decide) ?_
              refine tv_iconst C (pc := 64) dX6_append_64 (v := (1 : Int32)) rfl ?_
              refine tv_iadd C (pc := 65) dX6_append_65 ?_
              refine tv_putI C (pc := 66) dX6_append_66 fp_X6_112 (ts_live (k := 21) (by decide) (by decide) (by decide)) rfl (cd := 0) rfl (by decide) rfl rfl ?_
              refine tv_nu (fun u45 hu45 => ?_)
              have h := ts_lt h hu45
              refine tv_aload_n C (pc := 69) dX6_append_69 rfl rfl ?_
              refine tv_getR C (pc := 70) dX6_append_70 fl_X6_28 (ts_live (k := 0) (by decide) (by decide) (by decide)) rfl rfl (i2 := (21, 0, 0)) rfl ?_
              refine tv_getI C (pc := 73) dX6_append_73 fl_X6_112 (ts_live (k := 21) (by decide) (by decide) (by decide)) rfl (cd := 0) rfl (by decide) ?_
              cases h
              exact tv_iret C (pc := 76) rfl dX6_append_76 ⟨Nat.le_of_ble_eq_true rfl, Nat.le_of_ble_eq_true rfl⟩
            · have h := ts_eR h
              cases h
              exact tv_callS_thr C (pc := 37) hX dX6_append_37 yl_X6_57 Mq40 (Nat.le_trans (Nat.le_of_ble_eq_true rfl) hdd) (As := [.inl (.int (1 : Int32))]) rfl ⟨Nat.le_of_ble_eq_true rfl, Nat.le_of_ble_eq_true rfl⟩ (fun _ => Nat.le_of_ble_eq_true rfl) rfl ⟨Nat.le_of_ble_eq_true rfl, Nat.le_of_ble_eq_true rfl⟩
        · have h := ts_eR h
          cases h
          exact tv_callS_thr C (pc := 17) hX dX6_append_17 yl_X6_43 Mq31 (Nat.le_trans (Nat.le_of_ble_eq_true rfl) hdd) (As := [.inl (.int (1 : Int32))]) rfl ⟨Nat.le_of_ble_eq_true rfl, Nat.le_of_ble_eq_true rfl⟩ (fun _ => Nat.le_of_ble_eq_true rfl) rfl ⟨Nat.le_of_ble_eq_true rfl, Nat.le_of_ble_eq_true rfl⟩
set_option maxRecDepth 100000 in
set_option maxHeartbeats 4000000 in
theorem m_X6_run {l : Launch} {D : va_G} {dT : Nat → ClassId} {sz : Nat} {ad : ts_I → Nat} (hl : l.stackTraces = false) (p1 : Int32) (u : ts_Mem) (r : ((Int32 ⊕ String) × ts_Mem)) (h : f_X6_run p1 u = some r) : ts_M l D dT sz yX6_run wX6_run 6 5 30 ad ts_lv ts_R0 [.inr (0, 0, 0), .inl (.int p1)] u (ts_oI r.1) r.2 := by
    unfold f_X6_run at h
    refine ts_enter hl (by decide) rfl rfl (Nat.le_of_ble_eq_true rfl) ?_
    intro p e s m args below meth c C hX hnm
    have C : ts_CX D dT sz p l (ts_rm 6 5 30) s m args meth c RX6 cX6_run 3 (some .int) 6 := C
    have hdd : 6 ≤ 6 := Nat.le_refl _
    refine tv_aload_n C (pc := 0) dX6_run_0 rfl rfl ?_
    refine tv_iload_n C (pc := 1) dX6_run_1 rfl rfl ?_
    obtain ⟨q1, hq1, h⟩ := ts_bd h
    refine tv_callV C (pc := 2) dX6_run_2 (ci := 6) (q := (RX6, TX6, 6)) rfl yl_X6_64 (m_X6_isTransaction (D := D) (dT := dT) (sz := sz) (ad := ad) hl p1 u q1 hq1) (ts_live (k := 0) (by decide) (by decide) (by decide)) rfl (Nat.le_trans (Nat.le_of_ble_eq_true rfl) hdd) (As := [.inl (.int p1)]) rfl ⟨Nat.le_of_ble_eq_true rfl, Nat.le_of_ble_eq_true rfl⟩ (fun _ => Nat.le_of_ble_eq_true rfl) rfl ?_
    obtain ⟨q2, hq2, h⟩ := ts_bd h
    have Mq2 := (m_X6_requireIndex (D := D) (dT := dT) (sz := sz) (ad := ad) hl q1 u q2 hq2)
    rcases q2 with v3 | e4
    · have h := ts_eL h
      refine tv_callS C (pc := 5) dX6_run_5 yl_X6_71 Mq2 (Nat.le_trans (Nat.le_of_ble_eq_true rfl) hdd) (As := [.inl (.int q1)]) rfl ⟨Nat.le_of_ble_eq_true rfl, Nat.le_of_ble_eq_true rfl⟩ (fun _ => Nat.le_of_ble_eq_true rfl) rfl ?_
      refine tv_aload_n C (pc := 8) dX6_run_8 rfl rfl ?_
      refine tv_getR C (pc := 9) dX6_run_9 fl_X6_12 (ts_live (k := 0) (by decide) (by decide) (by decide)) rfl rfl (i2 := (1, 0, 0)) rfl ?_
      refine tv_getR C (pc := 12) dX6_run_12 fl_X6_82 (ts_live (k := 1) (by decide) (by decide) (by decide)) rfl rfl (i2 := (2, 0, 0)) rfl ?_
      refine tv_iload_n C (pc := 15) dX6_run_15 rfl rfl ?_
      obtain ⟨hr5, h⟩ := ts_gd h
      refine tv_aaload5 C (pc := 16) dX6_run_16 (ts_live (k := 2) (by decide) (by decide) (by decide)) rfl hr5 (j := p1.toNatClampNeg) rfl (i2 := (11, 0, p1.toNatClampNeg)) rfl ?_
      refine tv_getI C (pc := 17) dX6_run_17 fl_X6_86 (ts_live (k := 11) (by decide) (by decide) (ts_vin hr5)) rfl (cd := 0) rfl (by decide) ?_
      refine tv_if_ne C (pc := 20) 27 dX6_run_20 (by decide) (fun hc => ?_) (fun hc => ?_)
      · have h := ts_ifn h hc
        refine tv_iconst C (pc := 27) dX6_run_27 (v := (0 : Int32)) rfl ?_
        obtain ⟨q6, hq6, h⟩ := ts_bd h
        have Mq6 := (m_X6_requireState (D := D) (dT := dT) (sz := sz) (ad := ad) hl (0 : Int32) u q6 hq6)
        rcases q6 with v7 | e8
        · have h := ts_eL h
          refine tv_callS C (pc := 28) dX6_run_28 yl_X6_57 Mq6 (Nat.le_trans (Nat.le_of_ble_eq_true rfl) hdd) (As := [.inl (.int (0 : Int32))]) rfl ⟨Nat.le_of_ble_eq_true rfl, Nat.le_of_ble_eq_true rfl⟩ (fun _ => Nat.le_of_ble_eq_true rfl) rfl ?_
          refine tv_aload_n C (pc := 31) dX6_run_31 rfl rfl ?_
          refine tv_getR C (pc := 32) dX6_run_32 fl_X6_28 (ts_live (k := 0) (by decide) (by decide) (by decide)) rfl rfl (i2 := (21, 0, 0)) rfl ?_
          obtain ⟨q9, hq9, h⟩ := ts_bd h
          refine tv_callV C (pc := 35) dX6_run_35 (ci := 3) (q := (RX3, TX3, 8)) rfl yl_X6_119 (m_X3_parse (D := D) (dT := dT) (sz := sz) (ad := ad) hl  u q9 hq9) (ts_live (k := 21) (by decide) (by decide) (by decide)) rfl (Nat.le_trans (Nat.le_of_ble_eq_true rfl) hdd) (As := []) rfl ⟨Nat.le_of_ble_eq_true rfl, Nat.le_of_ble_eq_true rfl⟩ (fun _ => Nat.le_of_ble_eq_true rfl) rfl ?_
          refine tv_istore_n C (pc := 38) dX6_run_38 (L' := [some (.inr (0, 0, 0)), some (.inl (.int p1)), some (.inl (.int q9.1))]) rfl (by decide) rfl rfl ?_
          refine tv_aload_n C (pc := 39) dX6_run_39 rfl rfl ?_
          refine tv_getR C (pc := 40) dX6_run_40 fl_X6_28 (ts_live (k := 0) (by decide) (by decide) (by decide)) rfl rfl (i2 := (21, 0, 0)) rfl ?_
          refine tv_iconst C (pc := 43) dX6_run_43 (v := (0 : Int32)) rfl ?_
          refine tv_putI C (pc := 44) dX6_run_44 fp_X6_112 (ts_live (k := 21) (by decide) (by decide) (by decide)) rfl (cd := 0) rfl (by decide) rfl rfl ?_
          refine tv_nu (fun u10 hu10 => ?_)
          have h := ts_lt h hu10
          refine tv_iload_n C (pc := 47) dX6_run_47 rfl rfl ?_
          refine tv_if_lt C (pc := 48) 56 dX6_run_48 (by decide) (fun hc => ?_) (fun hc => ?_)
          · have h := ts_ifp h hc
            refine tv_iload_n C (pc := 56) dX6_run_56 rfl rfl ?_
            refine tv_if_ge C (pc := 57) 64 dX6_run_57 (by decide) (fun hc => ?_) (fun hc => ?_)
            · have h := ts_ifp h hc
              refine tv_iconst C (pc := 64) dX6_run_64 (v := (0 : Int32)) rfl ?_
              obtain ⟨q11, hq11, h⟩ := ts_bd h
              have Mq11 := (m_X6_requireArgument (D := D) (dT := dT) (sz := sz) (ad := ad) hl (0 : Int32) u10 q11 hq11)
              rcases q11 with v12 | e13
              · have h := ts_eL h
                refine tv_callS C (pc := 65) dX6_run_65 yl_X6_43 Mq11 (Nat.le_trans (Nat.le_of_ble_eq_true rfl) hdd) (As := [.inl (.int (0 : Int32))]) rfl ⟨Nat.le_of_ble_eq_true rfl, Nat.le_of_ble_eq_true rfl⟩ (fun _ => Nat.le_of_ble_eq_true rfl) rfl ?_
                refine tv_aload_n C (pc := 68) dX6_run_68 rfl rfl ?_
                refine tv_iload_n C (pc := 69) dX6_run_69 rfl rfl ?_
                refine tv_aload_n C (pc := 70) dX6_run_70 rfl rfl ?_
                refine tv_getR C (pc := 71) dX6_run_71 fl_X6_28 (ts_live (k := 0) (by decide) (by decide) (by decide)) rfl rfl (i2 := (21, 0, 0)) rfl ?_
                refine tv_getI C (pc := 74) dX6_run_74 fl_X6_122 (ts_live (k := 21) (by decide) (by decide) (by decide)) rfl (cd := 0) rfl (by decide) ?_
                obtain ⟨q14, hq14, h⟩ := ts_bd h
                have Mq14 := (m_X6_requireActiveWithRoom (D := D) (dT := dT) (sz := sz) (ad := ad) hl p1 (ts_gI u10 (21, 0, 0) 2) u10 q14 hq14)
                rcases q14 with v15 | e16
                · have h := ts_eL h
                  refine tv_callV C (pc := 77) dX6_run_77 (ci := 6) (q := (RX6, TX6, 6)) rfl yl_X6_74 Mq14 (ts_live (k := 0) (by decide) (by decide) (by decide)) rfl (Nat.le_trans (Nat.le_of_ble_eq_true rfl) hdd) (As := [.inl (.int p1), .inl (.int (ts_gI u10 (21, 0, 0) 2))]) rfl ⟨Nat.le_of_ble_eq_true rfl, Nat.le_of_ble_eq_true rfl⟩ (fun _ => Nat.le_of_ble_eq_true rfl) rfl ?_
                  refine tv_aload_n C (pc := 80) dX6_run_80 rfl rfl ?_
                  refine tv_getR C (pc := 81) dX6_run_81 fl_X6_12 (ts_live (k := 0) (by decide) (by decide) (by decide)) rfl rfl (i2 := (1, 0, 0)) rfl ?_
                  refine tv_iload_n C (pc := 84) dX6_run_84 rfl rfl ?_
                  refine tv_aload_n C (pc := 85) dX6_run_85 rfl rfl ?_
                  refine tv_getR C (pc := 86) dX6_run_86 fl_X6_28 (ts_live (k := 0) (by decide) (by decide) (by decide)) rfl rfl (i2 := (21, 0, 0)) rfl ?_
                  obtain ⟨q17, hq17, h⟩ := ts_bd h
                  refine tv_callV C (pc := 89) dX6_run_89 (ci := 0) (q := (RX0, TX0, 8)) rfl yl_X6_125 (m_X0_execute (D := D) (dT := dT) (sz := sz) (ad := ad) hl 0 (by decide) p1 u10 q17 hq17) (ts_live (k := 1) (by decide) (by decide) (by decide)) rfl (Nat.le_trans (Nat.le_of_ble_eq_true rfl) hdd) (As := [.inl (.int p1), .inr (21, 0, 0)]) rfl ⟨Nat.le_of_ble_eq_true rfl, Nat.le_of_ble_eq_true rfl⟩ (fun _ => Nat.le_of_ble_eq_true rfl) rfl ?_
                  cases h
                  exact tv_iret C (pc := 92) rfl dX6_run_92 ⟨Nat.le_of_ble_eq_true rfl, Nat.le_of_ble_eq_true rfl⟩
                · have h := ts_eR h
                  cases h
                  exact tv_callV_thr C (pc := 77) hX dX6_run_77 (ci := 6) (q := (RX6, TX6, 6)) rfl yl_X6_74 Mq14 (ts_live (k := 0) (by decide) (by decide) (by decide)) rfl (Nat.le_trans (Nat.le_of_ble_eq_true rfl) hdd) (As := [.inl (.int p1), .inl (.int (ts_gI u10 (21, 0, 0) 2))]) rfl ⟨Nat.le_of_ble_eq_true rfl, Nat.le_of_ble_eq_true rfl⟩ (fun _ => Nat.le_of_ble_eq_true rfl) rfl ⟨Nat.le_of_ble_eq_true rfl, Nat.le_of_ble_eq_true rfl⟩
              · have h := ts_eR h
                cases h
                exact tv_callS_thr C (pc := 65) hX dX6_run_65 yl_X6_43 Mq11 (Nat.le_trans (Nat.le_of_ble_eq_true rfl) hdd) (As := [.inl (.int (0 : Int32))]) rfl ⟨Nat.le_of_ble_eq_true rfl, Nat.le_of_ble_eq_true rfl⟩ (fun _ => Nat.le_of_ble_eq_true rfl) rfl ⟨Nat.le_of_ble_eq_true rfl, Nat.le_of_ble_eq_true rfl⟩
            · have h := ts_ifn h hc
              refine tv_iconst C (pc := 60) dX6_run_60 (v := (1 : Int32)) rfl ?_
              refine tv_goto C (pc := 61) 65 dX6_run_61 (by decide) ?_
              obtain ⟨q18, hq18, h⟩ := ts_bd h
              have Mq18 := (m_X6_requireArgument (D := D) (dT := dT) (sz := sz) (ad := ad) hl (1 : Int32) u10 q18 hq18)
              rcases q18 with v19 | e20
              · have h := ts_eL h
                refine tv_callS C (pc := 65) dX6_run_65 yl_X6_43 Mq18 (Nat.le_trans (Nat.le_of_ble_eq_true rfl) hdd) (As := [.inl (.int (1 : Int32))]) rfl ⟨Nat.le_of_ble_eq_true rfl, Nat.le_of_ble_eq_true rfl⟩ (fun _ => Nat.le_of_ble_eq_true rfl) rfl ?_
                refine tv_aload_n C (pc := 68) dX6_run_68 rfl rfl ?_
                refine tv_iload_n C (pc := 69) dX6_run_69 rfl rfl ?_
                refine tv_aload_n C (pc := 70) dX6_run_70 rfl rfl ?_
                refine tv_getR C (pc := 71) dX6_run_71 fl_X6_28 (ts_live (k := 0) (by decide) (by decide) (by decide)) rfl rfl (i2 := (21, 0, 0)) rfl ?_
                refine tv_getI C (pc := 74) dX6_run_74 fl_X6_122 (ts_live (k := 21) (by decide) (by decide) (by decide)) rfl (cd := 0) rfl (by decide) ?_
                obtain ⟨q21, hq21, h⟩ := ts_bd h
                have Mq21 := (m_X6_requireActiveWithRoom (D := D) (dT := dT) (sz := sz) (ad := ad) hl p1 (ts_gI u10 (21, 0, 0) 2) u10 q21 hq21)
                rcases q21 with v22 | e23
                · have h := ts_eL h
                  refine tv_callV C (pc := 77) dX6_run_77 (ci := 6) (q := (RX6, TX6, 6)) rfl yl_X6_74 Mq21 (ts_live (k := 0) (by decide) (by decide) (by decide)) rfl (Nat.le_trans (Nat.le_of_ble_eq_true rfl) hdd) (As := [.inl (.int p1), .inl (.int (ts_gI u10 (21, 0, 0) 2))]) rfl ⟨Nat.le_of_ble_eq_true rfl, Nat.le_of_ble_eq_true rfl⟩ (fun _ => Nat.le_of_ble_eq_true rfl) rfl ?_
                  refine tv_aload_n C (pc := 80) dX6_run_80 rfl rfl ?_
                  refine tv_getR C (pc := 81) dX6_run_81 fl_X6_12 (ts_live (k := 0) (by decide) (by decide) (by decide)) rfl rfl (i2 := (1, 0, 0)) rfl ?_
                  refine tv_iload_n C (pc := 84) dX6_run_84 rfl rfl ?_
                  refine tv_aload_n C (pc := 85) dX6_run_85 rfl rfl ?_
                  refine tv_getR C (pc := 86) dX6_run_86 fl_X6_28 (ts_live (k := 0) (by decide) (by decide) (by decide)) rfl rfl (i2 := (21, 0, 0)) rfl ?_
                  obtain ⟨q24, hq24, h⟩ := ts_bd h
                  refine tv_callV C (pc := 89) dX6_run_89 (ci := 0) (q := (RX0, TX0, 8)) rfl yl_X6_125 (m_X0_execute (D := D) (dT := dT) (sz := sz) (ad := ad) hl 0 (by decide) p1 u10 q24 hq24) (ts_live (k := 1) (by decide) (by decide) (by decide)) rfl (Nat.le_trans (Nat.le_of_ble_eq_true rfl) hdd) (As := [.inl (.int p1), .inr (21, 0, 0)]) rfl ⟨Nat.le_of_ble_eq_true rfl, Nat.le_of_ble_eq_true rfl⟩ (fun _ => Nat.le_of_ble_eq_true rfl) rfl ?_
                  cases h
                  exact tv_iret C (pc := 92) rfl dX6_run_92 ⟨Nat.le_of_ble_eq_true rfl, Nat.le_of_ble_eq_true rfl⟩
                · have h := ts_eR h
                  cases h
                  exact tv_callV_thr C (pc := 77) hX dX6_run_77 (ci := 6) (q := (RX6, TX6, 6)) rfl yl_X6_74 Mq21 (ts_live (k := 0) (by decide) (by decide) (by decide)) rfl (Nat.le_trans (Nat.le_of_ble_eq_true rfl) hdd) (As := [.inl (.int p1), .inl (.int (ts_gI u10 (21, 0, 0) 2))]) rfl ⟨Nat.le_of_ble_eq_true rfl, Nat.le_of_ble_eq_true rfl⟩ (fun _ => Nat.le_of_ble_eq_true rfl) rfl ⟨Nat.le_of_ble_eq_true rfl, Nat.le_of_ble_eq_true rfl⟩
              · have h := ts_eR h
                cases h
                exact tv_callS_thr C (pc := 65) hX dX6_run_65 yl_X6_43 Mq18 (Nat.le_trans (Nat.le_of_ble_eq_true rfl) hdd) (As := [.inl (.int (1 : Int32))]) rfl ⟨Nat.le_of_ble_eq_true rfl, Nat.le_of_ble_eq_true rfl⟩ (fun _ => Nat.le_of_ble_eq_true rfl) rfl ⟨Nat.le_of_ble_eq_true rfl, Nat.le_of_ble_eq_true rfl⟩
          · have h := ts_ifn h hc
            refine tv_aload_n C (pc := 51) dX6_run_51 rfl rfl ?_
            refine tv_iload_n C (pc := 52) dX6_run_52 rfl rfl ?_
            refine tv_putI C (pc := 53) dX6_run_53 fp_X6_32 (ts_live (k := 0) (by decide) (by decide) (by decide)) rfl (cd := 0) rfl (by decide) rfl rfl ?_
            refine tv_nu (fun u25 hu25 => ?_)
            have h := ts_lt h hu25
            refine tv_iload_n C (pc := 56) dX6_run_56 rfl rfl ?_
            refine tv_if_ge C (pc := 57) 64 dX6_run_57 (by decide) (fun hc => ?_) (fun hc => ?_)
            · have h := ts_ifp h hc
              refine tv_iconst C (pc := 64) dX6_run_64 (v := (0 : Int32)) rfl ?_
              obtain ⟨q26, hq26, h⟩ := ts_bd h
              have Mq26 := (m_X6_requireArgument (D := D) (dT := dT) (sz := sz) (ad := ad) hl (0 : Int32) u25 q26 hq26)
              rcases q26 with v27 | e28
              · have h := ts_eL h
                refine tv_callS C (pc := 65) dX6_run_65 yl_X6_43 Mq26 (Nat.le_trans (Nat.le_of_ble_eq_true rfl) hdd) (As := [.inl (.int (0 : Int32))]) rfl ⟨Nat.le_of_ble_eq_true rfl, Nat.le_of_ble_eq_true rfl⟩ (fun _ => Nat.le_of_ble_eq_true rfl) rfl ?_
                refine tv_aload_n C (pc := 68) dX6_run_68 rfl rfl ?_
                refine tv_iload_n C (pc := 69) dX6_run_69 rfl rfl ?_
                refine tv_aload_n C (pc := 70) dX6_run_70 rfl rfl ?_
                refine tv_getR C (pc := 71) dX6_run_71 fl_X6_28 (ts_live (k := 0) (by decide) (by decide) (by decide)) rfl rfl (i2 := (21, 0, 0)) rfl ?_
                refine tv_getI C (pc := 74) dX6_run_74 fl_X6_122 (ts_live (k := 21) (by decide) (by decide) (by decide)) rfl (cd := 0) rfl (by decide) ?_
                obtain ⟨q29, hq29, h⟩ := ts_bd h
                have Mq29 := (m_X6_requireActiveWithRoom (D := D) (dT := dT) (sz := sz) (ad := ad) hl p1 (ts_gI u25 (21, 0, 0) 2) u25 q29 hq29)
                rcases q29 with v30 | e31
                · have h := ts_eL h
                  refine tv_callV C (pc := 77) dX6_run_77 (ci := 6) (q := (RX6, TX6, 6)) rfl yl_X6_74 Mq29 (ts_live (k := 0) (by decide) (by decide) (by decide)) rfl (Nat.le_trans (Nat.le_of_ble_eq_true rfl) hdd) (As := [.inl (.int p1), .inl (.int (ts_gI u25 (21, 0, 0) 2))]) rfl ⟨Nat.le_of_ble_eq_true rfl, Nat.le_of_ble_eq_true rfl⟩ (fun _ => Nat.le_of_ble_eq_true rfl) rfl ?_
                  refine tv_aload_n C (pc := 80) dX6_run_80 rfl rfl ?_
                  refine tv_getR C (pc := 81) dX6_run_81 fl_X6_12 (ts_live (k := 0) (by decide) (by decide) (by decide)) rfl rfl (i2 := (1, 0, 0)) rfl ?_
                  refine tv_iload_n C (pc := 84) dX6_run_84 rfl rfl ?_
                  refine tv_aload_n C (pc := 85) dX6_run_85 rfl rfl ?_
                  refine tv_getR C (pc := 86) dX6_run_86 fl_X6_28 (ts_live (k := 0) (by decide) (by decide) (by decide)) rfl rfl (i2 := (21, 0, 0)) rfl ?_
                  obtain ⟨q32, hq32, h⟩ := ts_bd h
                  refine tv_callV C (pc := 89) dX6_run_89 (ci := 0) (q := (RX0, TX0, 8)) rfl yl_X6_125 (m_X0_execute (D := D) (dT := dT) (sz := sz) (ad := ad) hl 0 (by decide) p1 u25 q32 hq32) (ts_live (k := 1) (by decide) (by decide) (by decide)) rfl (Nat.le_trans (Nat.le_of_ble_eq_true rfl) hdd) (As := [.inl (.int p1), .inr (21, 0, 0)]) rfl ⟨Nat.le_of_ble_eq_true rfl, Nat.le_of_ble_eq_true rfl⟩ (fun _ => Nat.le_of_ble_eq_true rfl) rfl ?_
                  cases h
                  exact tv_iret C (pc := 92) rfl dX6_run_92 ⟨Nat.le_of_ble_eq_true rfl, Nat.le_of_ble_eq_true rfl⟩
                · have h := ts_eR h
                  cases h
                  exact tv_callV_thr C (pc := 77) hX dX6_run_77 (ci := 6) (q := (RX6, TX6, 6)) rfl yl_X6_74 Mq29 (ts_live (k := 0) (by decide) (by decide) (by decide)) rfl (Nat.le_trans (Nat.le_of_ble_eq_true rfl) hdd) (As := [.inl (.int p1), .inl (.int (ts_gI u25 (21, 0, 0) 2))]) rfl ⟨Nat.le_of_ble_eq_true rfl, Nat.le_of_ble_eq_true rfl⟩ (fun _ => Nat.le_of_ble_eq_true rfl) rfl ⟨Nat.le_of_ble_eq_true rfl, Nat.le_of_ble_eq_true rfl⟩
              · have h := ts_eR h
                cases h
                exact tv_callS_thr C (pc := 65) hX dX6_run_65 yl_X6_43 Mq26 (Nat.le_trans (Nat.le_of_ble_eq_true rfl) hdd) (As := [.inl (.int (0 : Int32))]) rfl ⟨Nat.le_of_ble_eq_true rfl, Nat.le_of_ble_eq_true rfl⟩ (fun _ => Nat.le_of_ble_eq_true rfl) rfl ⟨Nat.le_of_ble_eq_true rfl, Nat.le_of_ble_eq_true rfl⟩
            · have h := ts_ifn h hc
              refine tv_iconst C (pc := 60) dX6_run_60 (v := (1 : Int32)) rfl ?_
              refine tv_goto C (pc := 61) 65 dX6_run_61 (by decide) ?_
              obtain ⟨q33, hq33, h⟩ := ts_bd h
              have Mq33 := (m_X6_requireArgument (D := D) (dT := dT) (sz := sz) (ad := ad) hl (1 : Int32) u25 q33 hq33)
              rcases q33 with v34 | e35
              · have h := ts_eL h
                refine tv_callS C (pc := 65) dX6_run_65 yl_X6_43 Mq33 (Nat.le_trans (Nat.le_of_ble_eq_true rfl) hdd) (As := [.inl (.int (1 : Int32))]) rfl ⟨Nat.le_of_ble_eq_true rfl, Nat.le_of_ble_eq_true rfl⟩ (fun _ => Nat.le_of_ble_eq_true rfl) rfl ?_
                refine tv_aload_n C (pc := 68) dX6_run_68 rfl rfl ?_
                refine tv_iload_n C (pc := 69) dX6_run_69 rfl rfl ?_
                refine tv_aload_n C (pc := 70) dX6_run_70 rfl rfl ?_
                refine tv_getR C (pc := 71) dX6_run_71 fl_X6_28 (ts_live (k := 0) (by decide) (by decide) (by decide)) rfl rfl (i2 := (21, 0, 0)) rfl ?_
                refine tv_getI C (pc := 74) dX6_run_74 fl_X6_122 (ts_live (k := 21) (by decide) (by decide) (by decide)) rfl (cd := 0) rfl (by decide) ?_
                obtain ⟨q36, hq36, h⟩ := ts_bd h
                have Mq36 := (m_X6_requireActiveWithRoom (D := D) (dT := dT) (sz := sz) (ad := ad) hl p1 (ts_gI u25 (21, 0, 0) 2) u25 q36 hq36)
                rcases q36 with v37 | e38
                · have h := ts_eL h
                  refine tv_callV C (pc := 77) dX6_run_77 (ci := 6) (q := (RX6, TX6, 6)) rfl yl_X6_74 Mq36 (ts_live (k := 0) (by decide) (by decide) (by decide)) rfl (Nat.le_trans (Nat.le_of_ble_eq_true rfl) hdd) (As := [.inl (.int p1), .inl (.int (ts_gI u25 (21, 0, 0) 2))]) rfl ⟨Nat.le_of_ble_eq_true rfl, Nat.le_of_ble_eq_true rfl⟩ (fun _ => Nat.le_of_ble_eq_true rfl) rfl ?_
                  refine tv_aload_n C (pc := 80) dX6_run_80 rfl rfl ?_
                  refine tv_getR C (pc := 81) dX6_run_81 fl_X6_12 (ts_live (k := 0) (by decide) (by decide) (by decide)) rfl rfl (i2 := (1, 0, 0)) rfl ?_
                  refine tv_iload_n C (pc := 84) dX6_run_84 rfl rfl ?_
                  refine tv_aload_n C (pc := 85) dX6_run_85 rfl rfl ?_
                  refine tv_getR C (pc := 86) dX6_run_86 fl_X6_28 (ts_live (k := 0) (by decide) (by decide) (by decide)) rfl rfl (i2 := (21, 0, 0)) rfl ?_
                  obtain ⟨q39, hq39, h⟩ := ts_bd h
                  refine tv_callV C (pc := 89) dX6_run_89 (ci := 0) (q := (RX0, TX0, 8)) rfl yl_X6_125 (m_X0_execute (D := D) (dT := dT) (sz := sz) (ad := ad) hl 0 (by decide) p1 u25 q39 hq39) (ts_live (k := 1) (by decide) (by decide) (by decide)) rfl (Nat.le_trans (Nat.le_of_ble_eq_true rfl) hdd) (As := [.inl (.int p1), .inr (21, 0, 0)]) rfl ⟨Nat.le_of_ble_eq_true rfl, Nat.le_of_ble_eq_true rfl⟩ (fun _ => Nat.le_of_ble_eq_true rfl) rfl ?_
                  cases h
                  exact tv_iret C (pc := 92) rfl dX6_run_92 ⟨Nat.le_of_ble_eq_true rfl, Nat.le_of_ble_eq_true rfl⟩
                · have h := ts_eR h
                  cases h
                  exact tv_callV_thr C (pc := 77) hX dX6_run_77 (ci := 6) (q := (RX6, TX6, 6)) rfl yl_X6_74 Mq36 (ts_live (k := 0) (by decide) (by decide) (by decide)) rfl (Nat.le_trans (Nat.le_of_ble_eq_true rfl) hdd) (As := [.inl (.int p1), .inl (.int (ts_gI u25 (21, 0, 0) 2))]) rfl ⟨Nat.le_of_ble_eq_true rfl, Nat.le_of_ble_eq_true rfl⟩ (fun _ => Nat.le_of_ble_eq_true rfl) rfl ⟨Nat.le_of_ble_eq_true rfl, Nat.le_of_ble_eq_true rfl⟩
              · have h := ts_eR h
                cases h
                exact tv_callS_thr C (pc := 65) hX dX6_run_65 yl_X6_43 Mq33 (Nat.le_trans (Nat.le_of_ble_eq_true rfl) hdd) (As := [.inl (.int (1 : Int32))]) rfl ⟨Nat.le_of_ble_eq_true rfl, Nat.le_of_ble_eq_true rfl⟩ (fun _ => Nat.le_of_ble_eq_true rfl) rfl ⟨Nat.le_of_ble_eq_true rfl, Nat.le_of_ble_eq_true rfl⟩
        · have h := ts_eR h
          cases h
          exact tv_callS_thr C (pc := 28) hX dX6_run_28 yl_X6_57 Mq6 (Nat.le_trans (Nat.le_of_ble_eq_true rfl) hdd) (As := [.inl (.int (0 : Int32))]) rfl ⟨Nat.le_of_ble_eq_true rfl, Nat.le_of_ble_eq_true rfl⟩ (fun _ => Nat.le_of_ble_eq_true rfl) rfl ⟨Nat.le_of_ble_eq_true rfl, Nat.le_of_ble_eq_true rfl⟩
      · have h := ts_ifp h hc
        refine tv_iconst C (pc := 23) dX6_run_23 (v := (1 : Int32)) rfl ?_
        refine tv_goto C (pc := 24) 28 dX6_run_24 (by decide) ?_
        obtain ⟨q40, hq40, h⟩ := ts_bd h
        have Mq40 := (m_X6_requireState (D := D) (dT := dT) (sz := sz) (ad := ad) hl (1 : Int32) u q40 hq40)
        rcases q40 with v41 | e42
        · have h := ts_eL h
          refine tv_callS C (pc := 28) dX6_run_28 yl_X6_57 Mq40 (Nat.le_trans (Nat.le_of_ble_eq_true rfl) hdd) (As := [.inl (.int (1 : Int32))]) rfl ⟨Nat.le_of_ble_eq_true rfl, Nat.le_of_ble_eq_true rfl⟩ (fun _ => Nat.le_of_ble_eq_true rfl) rfl ?_
          refine tv_aload_n C (pc := 31) dX6_run_31 rfl rfl ?_
          refine tv_getR C (pc := 32) dX6_run_32 fl_X6_28 (ts_live (k := 0) (by decide) (by decide) (by decide)) rfl rfl (i2 := (21, 0, 0)) rfl ?_
          obtain ⟨q43, hq43, h⟩ := ts_bd h
          refine tv_callV C (pc := 35) dX6_run_35 (ci := 3) (q := (RX3, TX3, 8)) rfl yl_X6_119 (m_X3_parse (D := D) (dT := dT) (sz := sz) (ad := ad) hl  u q43 hq43) (ts_live (k := 21) (by decide) (by decide) (by decide)) rfl (Nat.le_trans (Nat.le_of_ble_eq_true rfl) hdd) (As := []) rfl ⟨Nat.le_of_ble_eq_true rfl, Nat.le_of_ble_eq_true rfl⟩ (fun _ => Nat.le_of_ble_eq_true rfl) rfl ?_
          refine tv_istore_n C (pc := 38) dX6_run_38 (L' := [some (.inr (0, 0, 0)), some (.inl (.int p1)), some (.inl (.int q43.1))]) rfl (by decide) rfl rfl ?_
          refine tv_aload_n C (pc := 39) dX6_run_39 rfl rfl ?_
          refine tv_getR C (pc := 40) dX6_run_40 fl_X6_28 (ts_live (k := 0) (by decide) (by decide) (by decide)) rfl rfl (i2 := (21, 0, 0)) rfl ?_
          refine tv_iconst C (pc := 43) dX6_run_43 (v := (0 : Int32)) rfl ?_
          refine tv_putI C (pc := 44) dX6_run_44 fp_X6_112 (ts_live (k := 21) (by decide) (by decide) (by decide)) rfl (cd := 0) rfl (by decide) rfl rfl ?_
          refine tv_nu (fun u44 hu44 => ?_)
          have h := ts_lt h hu44
          refine tv_iload_n C (pc := 47) dX6_run_47 rfl rfl ?_
          refine tv_if_lt C (pc := 48) 56 dX6_run_48 (by decide) (fun hc => ?_) (fun hc => ?_)
          · have h := ts_ifp h hc
            refine tv_iload_n C (pc := 56) dX6_run_56 rfl rfl ?_
            refine tv_if_ge C (pc := 57) 64 dX6_run_57 (by decide) (fun hc => ?_) (fun hc => ?_)
            · have h := ts_ifp h hc
              refine tv_iconst C (pc := 64) dX6_run_64 (v := (0 : Int32)) rfl ?_
              obtain ⟨q45, hq45, h⟩ := ts_bd h
              have Mq45 := (m_X6_requireArgument (D := D) (dT := dT) (sz := sz) (ad := ad) hl (0 : Int32) u44 q45 hq45)
              rcases q45 with v46 | e47
              · have h := ts_eL h
                refine tv_callS C (pc := 65) dX6_run_65 yl_X6_43 Mq45 (Nat.le_trans (Nat.le_of_ble_eq_true rfl) hdd) (As := [.inl (.int (0 : Int32))]) rfl ⟨Nat.le_of_ble_eq_true rfl, Nat.le_of_ble_eq_true rfl⟩ (fun _ => Nat.le_of_ble_eq_true rfl) rfl ?_
                refine tv_aload_n C (pc := 68) dX6_run_68 rfl rfl ?_
                refine tv_iload_n C (pc := 69) dX6_run_69 rfl rfl ?_
                refine tv_aload_n C (pc := 70) dX6_run_70 rfl rfl ?_
                refine tv_getR C (pc := 71) dX6_run_71 fl_X6_28 (ts_live (k := 0) (by decide) (by decide) (by decide)) rfl rfl (i2 := (21, 0, 0)) rfl ?_
                refine tv_getI C (pc := 74) dX6_run_74 fl_X6_122 (ts_live (k := 21) (by decide) (by decide) (by decide)) rfl (cd := 0) rfl (by decide) ?_
                obtain ⟨q48, hq48, h⟩ := ts_bd h
                have Mq48 := (m_X6_requireActiveWithRoom (D := D) (dT := dT) (sz := sz) (ad := ad) hl p1 (ts_gI u44 (21, 0, 0) 2) u44 q48 hq48)
                rcases q48 with v49 | e50
                · have h := ts_eL h
                  refine tv_callV C (pc := 77) dX6_run_77 (ci := 6) (q := (RX6, TX6, 6)) rfl yl_X6_74 Mq48 (ts_live (k := 0) (by decide) (by decide) (by decide)) rfl (Nat.le_trans (Nat.le_of_ble_eq_true rfl) hdd) (As := [.inl (.int p1), .inl (.int (ts_gI u44 (21, 0, 0) 2))]) rfl ⟨Nat.le_of_ble_eq_true rfl, Nat.le_of_ble_eq_true rfl⟩ (fun _ => Nat.le_of_ble_eq_true rfl) rfl ?_
                  refine tv_aload_n C (pc := 80) dX6_run_80 rfl rfl ?_
                  refine tv_getR C (pc := 81) dX6_run_81 fl_X6_12 (ts_live (k := 0) (by decide) (by decide) (by decide)) rfl rfl (i2 := (1, 0, 0)) rfl ?_
                  refine tv_iload_n C (pc := 84) dX6_run_84 rfl rfl ?_
                  refine tv_aload_n C (pc := 85) dX6_run_85 rfl rfl ?_
                  refine tv_getR C (pc := 86) dX6_run_86 fl_X6_28 (ts_live (k := 0) (by decide) (by decide) (by decide)) rfl rfl (i2 := (21, 0, 0)) rfl ?_
                  obtain ⟨q51, hq51, h⟩ := ts_bd h
                  refine tv_callV C (pc := 89) dX6_run_89 (ci := 0) (q := (RX0, TX0, 8)) rfl yl_X6_125 (m_X0_execute (D := D) (dT := dT) (sz := sz) (ad := ad) hl 0 (by decide) p1 u44 q51 hq51) (ts_live (k := 1) (by decide) (by decide) (by decide)) rfl (Nat.le_trans (Nat.le_of_ble_eq_true rfl) hdd) (As := [.inl (.int p1), .inr (21, 0, 0)]) rfl ⟨Nat.le_of_ble_eq_true rfl, Nat.le_of_ble_eq_true rfl⟩ (fun _ => Nat.le_of_ble_eq_true rfl) rfl ?_
                  cases h
                  exact tv_iret C (pc := 92) rfl dX6_run_92 ⟨Nat.le_of_ble_eq_true rfl, Nat.le_of_ble_eq_true rfl⟩
                · have h := ts_eR h
                  cases h
                  exact tv_callV_thr C (pc := 77) hX dX6_run_77 (ci := 6) (q := (RX6, TX6, 6)) rfl yl_X6_74 Mq48 (ts_live (k := 0) (by decide) (by decide) (by decide)) rfl (Nat.le_trans (Nat.le_of_ble_eq_true rfl) hdd) (As := [.inl (.int p1), .inl (.int (ts_gI u44 (21, 0, 0) 2))]) rfl ⟨Nat.le_of_ble_eq_true rfl, Nat.le_of_ble_eq_true rfl⟩ (fun _ => Nat.le_of_ble_eq_true rfl) rfl ⟨Nat.le_of_ble_eq_true rfl, Nat.le_of_ble_eq_true rfl⟩
              · have h := ts_eR h
                cases h
                exact tv_callS_thr C (pc := 65) hX dX6_run_65 yl_X6_43 Mq45 (Nat.le_trans (Nat.le_of_ble_eq_true rfl) hdd) (As := [.inl (.int (0 : Int32))]) rfl ⟨Nat.le_of_ble_eq_true rfl, Nat.le_of_ble_eq_true rfl⟩ (fun _ => Nat.le_of_ble_eq_true rfl) rfl ⟨Nat.le_of_ble_eq_true rfl, Nat.le_of_ble_eq_true rfl⟩
            · have h := ts_ifn h hc
              refine tv_iconst C (pc := 60) dX6_run_60 (v := (1 : Int32)) rfl ?_
              refine tv_goto C (pc := 61) 65 dX6_run_61 (by decide) ?_
              obtain ⟨q52, hq52, h⟩ := ts_bd h
              have Mq52 := (m_X6_requireArgument (D := D) (dT := dT) (sz := sz) (ad := ad) hl (1 : Int32) u44 q52 hq52)
              rcases q52 with v53 | e54
              · have h := ts_eL h
                refine tv_callS C (pc := 65) dX6_run_65 yl_X6_43 Mq52 (Nat.le_trans (Nat.le_of_ble_eq_true rfl) hdd) (As := [.inl (.int (1 : Int32))]) rfl ⟨Nat.le_of_ble_eq_true rfl, Nat.le_of_ble_eq_true rfl⟩ (fun _ => Nat.le_of_ble_eq_true rfl) rfl ?_
                refine tv_aload_n C (pc := 68) dX6_run_68 rfl rfl ?_
                refine tv_iload_n C (pc := 69) dX6_run_69 rfl rfl ?_
                refine tv_aload_n C (pc := 70) dX6_run_70 rfl rfl ?_
                refine tv_getR C (pc := 71) dX6_run_71 fl_X6_28 (ts_live (k := 0) (by decide) (by decide) (by decide)) rfl rfl (i2 := (21, 0, 0)) rfl ?_
                refine tv_getI C (pc := 74) dX6_run_74 fl_X6_122 (ts_live (k := 21) (by decide) (by decide) (by decide)) rfl (cd := 0) rfl (by decide) ?_
                obtain ⟨q55, hq55, h⟩ := ts_bd h
                have Mq55 := (m_X6_requireActiveWithRoom (D := D) (dT := dT) (sz := sz) (ad := ad) hl p1 (ts_gI u44 (21, 0, 0) 2) u44 q55 hq55)
                rcases q55 with v56 | e57
                · have h := ts_eL h
                  refine tv_callV C (pc := 77) dX6_run_77 (ci := 6) (q := (RX6, TX6, 6)) rfl yl_X6_74 Mq55 (ts_live (k := 0) (by decide) (by decide) (by decide)) rfl (Nat.le_trans (Nat.le_of_ble_eq_true rfl) hdd) (As := [.inl (.int p1), .inl (.int (ts_gI u44 (21, 0, 0) 2))]) rfl ⟨Nat.le_of_ble_eq_true rfl, Nat.le_of_ble_eq_true rfl⟩ (fun _ => Nat.le_of_ble_eq_true rfl) rfl ?_
                  refine tv_aload_n C (pc := 80) dX6_run_80 rfl rfl ?_
                  refine tv_getR C (pc := 81) dX6_run_81 fl_X6_12 (ts_live (k := 0) (by decide) (by decide) (by decide)) rfl rfl (i2 := (1, 0, 0)) rfl ?_
                  refine tv_iload_n C (pc := 84) dX6_run_84 rfl rfl ?_
                  refine tv_aload_n C (pc := 85) dX6_run_85 rfl rfl ?_
                  refine tv_getR C (pc := 86) dX6_run_86 fl_X6_28 (ts_live (k := 0) (by decide) (by decide) (by decide)) rfl rfl (i2 := (21, 0, 0)) rfl ?_
                  obtain ⟨q58, hq58, h⟩ := ts_bd h
                  refine tv_callV C (pc := 89) dX6_run_89 (ci := 0) (q := (RX0, TX0, 8)) rfl yl_X6_125 (m_X0_execute (D := D) (dT := dT) (sz := sz) (ad := ad) hl 0 (by decide) p1 u44 q58 hq58) (ts_live (k := 1) (by decide) (by decide) (by decide)) rfl (Nat.le_trans (Nat.le_of_ble_eq_true rfl) hdd) (As := [.inl (.int p1), .inr (21, 0, 0)]) rfl ⟨Nat.le_of_ble_eq_true rfl, Nat.le_of_ble_eq_true rfl⟩ (fun _ => Nat.le_of_ble_eq_true rfl) rfl ?_
                  cases h
                  exact tv_iret C (pc := 92) rfl dX6_run_92 ⟨Nat.le_of_ble_eq_true rfl, Nat.le_of_ble_eq_true rfl⟩
                · have h := ts_eR h
                  cases h
                  exact tv_callV_thr C (pc := 77) hX dX6_run_77 (ci := 6) (q := (RX6, TX6, 6)) rfl yl_X6_74 Mq55 (ts_live (k := 0) (by decide) (by decide) (by decide)) rfl (Nat.le_trans (Nat.le_of_ble_eq_true rfl) hdd) (As := [.inl (.int p1), .inl (.int (ts_gI u44 (21, 0, 0) 2))]) rfl ⟨Nat.le_of_ble_eq_true rfl, Nat.le_of_ble_eq_true rfl⟩ (fun _ => Nat.le_of_ble_eq_true rfl) rfl ⟨Nat.le_of_ble_eq_true rfl, Nat.le_of_ble_eq_true rfl⟩
              · have h := ts_eR h
                cases h
                exact tv_callS_thr C (pc := 65) hX dX6_run_65 yl_X6_43 Mq52 (Nat.le_trans (Nat.le_of_ble_eq_true rfl) hdd) (As := [.inl (.int (1 : Int32))]) rfl ⟨Nat.le_of_ble_eq_true rfl, Nat.le_of_ble_eq_true rfl⟩ (fun _ => Nat.le_of_ble_eq_true rfl) rfl ⟨Nat.le_of_ble_eq_true rfl, Nat.le_of_ble_eq_true rfl⟩
          · have h := ts_ifn h hc
            refine tv_aload_n C (pc := 51) dX6_run_51 rfl rfl ?_
            refine tv_iload_n C (pc := 52) dX6_run_52 rfl rfl ?_
            refine tv_putI C (pc := 53) dX6_run_53 fp_X6_32 (ts_live (k := 0) (by decide) (by decide) (by decide)) rfl (cd := 0) rfl (by decide) rfl rfl ?_
            refine tv_nu (fun u59 hu59 => ?_)
            have h := ts_lt h hu59
            refine tv_iload_n C (pc := 56) dX6_run_56 rfl rfl ?_
            refine tv_if_ge C (pc := 57) 64 dX6_run_57 (by decide) (fun hc => ?_) (fun hc => ?_)
            · have h := ts_ifp h hc
              refine tv_iconst C (pc := 64) dX6_run_64 (v := (0 : Int32)) rfl ?_
              obtain ⟨q60, hq60, h⟩ := ts_bd h
              have Mq60 := (m_X6_requireArgument (D := D) (dT := dT) (sz := sz) (ad := ad) hl (0 : Int32) u59 q60 hq60)
              rcases q60 with v61 | e62
              · have h := ts_eL h
                refine tv_callS C (pc := 65) dX6_run_65 yl_X6_43 Mq60 (Nat.le_trans (Nat.le_of_ble_eq_true rfl) hdd) (As := [.inl (.int (0 : Int32))]) rfl ⟨Nat.le_of_ble_eq_true rfl, Nat.le_of_ble_eq_true rfl⟩ (fun _ => Nat.le_of_ble_eq_true rfl) rfl ?_
                refine tv_aload_n C (pc := 68) dX6_run_68 rfl rfl ?_
                refine tv_iload_n C (pc := 69) dX6_run_69 rfl rfl ?_
                refine tv_aload_n C (pc := 70) dX6_run_70 rfl rfl ?_
                refine tv_getR C (pc := 71) dX6_run_71 fl_X6_28 (ts_live (k := 0) (by decide) (by decide) (by decide)) rfl rfl (i2 := (21, 0, 0)) rfl ?_
                refine tv_getI C (pc := 74) dX6_run_74 fl_X6_122 (ts_live (k := 21) (by decide) (by decide) (by decide)) rfl (cd := 0) rfl (by decide) ?_
                obtain ⟨q63, hq63, h⟩ := ts_bd h
                have Mq63 := (m_X6_requireActiveWithRoom (D := D) (dT := dT) (sz := sz) (ad := ad) hl p1 (ts_gI u59 (21, 0, 0) 2) u59 q63 hq63)
                rcases q63 with v64 | e65
                · have h := ts_eL h
                  refine tv_callV C (pc := 77) dX6_run_77 (ci := 6) (q := (RX6, TX6, 6)) rfl yl_X6_74 Mq63 (ts_live (k := 0) (by decide) (by decide) (by decide)) rfl (Nat.le_trans (Nat.le_of_ble_eq_true rfl) hdd) (As := [.inl (.int p1), .inl (.int (ts_gI u59 (21, 0, 0) 2))]) rfl ⟨Nat.le_of_ble_eq_true rfl, Nat.le_of_ble_eq_true rfl⟩ (fun _ => Nat.le_of_ble_eq_true rfl) rfl ?_
                  refine tv_aload_n C (pc := 80) dX6_run_80 rfl rfl ?_
                  refine tv_getR C (pc := 81) dX6_run_81 fl_X6_12 (ts_live (k := 0) (by decide) (by decide) (by decide)) rfl rfl (i2 := (1, 0, 0)) rfl ?_
                  refine tv_iload_n C (pc := 84) dX6_run_84 rfl rfl ?_
                  refine tv_aload_n C (pc := 85) dX6_run_85 rfl rfl ?_
                  refine tv_getR C (pc := 86) dX6_run_86 fl_X6_28 (ts_live (k := 0) (by decide) (by decide) (by decide)) rfl rfl (i2 := (21, 0, 0)) rfl ?_
                  obtain ⟨q66, hq66, h⟩ := ts_bd h
                  refine tv_callV C (pc := 89) dX6_run_89 (ci := 0) (q := (RX0, TX0, 8)) rfl yl_X6_125 (m_X0_execute (D := D) (dT := dT) (sz := sz) (ad := ad) hl 0 (by decide) p1 u59 q66 hq66) (ts_live (k := 1) (by decide) (by decide) (by decide)) rfl (Nat.le_trans (Nat.le_of_ble_eq_true rfl) hdd) (As := [.inl (.int p1), .inr (21, 0, 0)]) rfl ⟨Nat.le_of_ble_eq_true rfl, Nat.le_of_ble_eq_true rfl⟩ (fun _ => Nat.le_of_ble_eq_true rfl) rfl ?_
                  cases h
                  exact tv_iret C (pc := 92) rfl dX6_run_92 ⟨Nat.le_of_ble_eq_true rfl, Nat.le_of_ble_eq_true rfl⟩
                · have h := ts_eR h
                  cases h
                  exact tv_callV_thr C (pc := 77) hX dX6_run_77 (ci := 6) (q := (RX6, TX6, 6)) rfl yl_X6_74 Mq63 (ts_live (k := 0) (by decide) (by decide) (by decide)) rfl (Nat.le_trans (Nat.le_of_ble_eq_true rfl) hdd) (As := [.inl (.int p1), .inl (.int (ts_gI u59 (21, 0, 0) 2))]) rfl ⟨Nat.le_of_ble_eq_true rfl, Nat.le_of_ble_eq_true rfl⟩ (fun _ => Nat.le_of_ble_eq_true rfl) rfl ⟨Nat.le_of_ble_eq_true rfl, Nat.le_of_ble_eq_true rfl⟩
              · have h := ts_eR h
                cases h
                exact tv_callS_thr C (pc := 65) hX dX6_run_65 yl_X6_43 Mq60 (Nat.le_trans (Nat.le_of_ble_eq_true rfl) hdd) (As := [.inl (.int (0 : Int32))]) rfl ⟨Nat.le_of_ble_eq_true rfl, Nat.le_of_ble_eq_true rfl⟩ (fun _ => Nat.le_of_ble_eq_true rfl) rfl ⟨Nat.le_of_ble_eq_true rfl, Nat.le_of_ble_eq_true rfl⟩
            · have h := ts_ifn h hc
              refine tv_iconst C (pc := 60) dX6_run_60 (v := (1 : Int32)) rfl ?_
              refine tv_goto C (pc := 61) 65 dX6_run_61 (by decide) ?_
              obtain ⟨q67, hq67, h⟩ := ts_bd h
              have Mq67 := (m_X6_requireArgument (D := D) (dT := dT) (sz := sz) (ad := ad) hl (1 : Int32) u59 q67 hq67)
              rcases q67 with v68 | e69
              · have h := ts_eL h
                refine tv_callS C (pc := 65) dX6_run_65 yl_X6_43 Mq67 (Nat.le_trans (Nat.le_of_ble_eq_true rfl) hdd) (As := [.inl (.int (1 : Int32))]) rfl ⟨Nat.le_of_ble_eq_true rfl, Nat.le_of_ble_eq_true rfl⟩ (fun _ => Nat.le_of_ble_eq_true rfl) rfl ?_
                refine tv_aload_n C (pc := 68) dX6_run_68 rfl rfl ?_
                refine tv_iload_n C (pc := 69) dX6_run_69 rfl rfl ?_
                refine tv_aload_n C (pc := 70) dX6_run_70 rfl rfl ?_
                refine tv_getR C (pc := 71) dX6_run_71 fl_X6_28 (ts_live (k := 0) (by decide) (by decide) (by decide)) rfl rfl (i2 := (21, 0, 0)) rfl ?_
                refine tv_getI C (pc := 74) dX6_run_74 fl_X6_122 (ts_live (k := 21) (by decide) (by decide) (by decide)) rfl (cd := 0) rfl (by decide) ?_
                obtain ⟨q70, hq70, h⟩ := ts_bd h
                have Mq70 := (m_X6_requireActiveWithRoom (D := D) (dT := dT) (sz := sz) (ad := ad) hl p1 (ts_gI u59 (21, 0, 0) 2) u59 q70 hq70)
                rcases q70 with v71 | e72
                · have h := ts_eL h
                  refine tv_callV C (pc := 77) dX6_run_77 (ci := 6) (q := (RX6, TX6, 6)) rfl yl_X6_74 Mq70 (ts_live (k := 0) (by decide) (by decide) (by decide)) rfl (Nat.le_trans (Nat.le_of_ble_eq_true rfl) hdd) (As := [.inl (.int p1), .inl (.int (ts_gI u59 (21, 0, 0) 2))]) rfl ⟨Nat.le_of_ble_eq_true rfl, Nat.le_of_ble_eq_true rfl⟩ (fun _ => Nat.le_of_ble_eq_true rfl) rfl ?_
                  refine tv_aload_n C (pc := 80) dX6_run_80 rfl rfl ?_
                  refine tv_getR C (pc := 81) dX6_run_81 fl_X6_12 (ts_live (k := 0) (by decide) (by decide) (by decide)) rfl rfl (i2 := (1, 0, 0)) rfl ?_
                  refine tv_iload_n C (pc := 84) dX6_run_84 rfl rfl ?_
                  refine tv_aload_n C (pc := 85) dX6_run_85 rfl rfl ?_
                  refine tv_getR C (pc := 86) dX6_run_86 fl_X6_28 (ts_live (k := 0) (by decide) (by decide) (by decide)) rfl rfl (i2 := (21, 0, 0)) rfl ?_
                  obtain ⟨q73, hq73, h⟩ := ts_bd h
                  refine tv_callV C (pc := 89) dX6_run_89 (ci := 0) (q := (RX0, TX0, 8)) rfl yl_X6_125 (m_X0_execute (D := D) (dT := dT) (sz := sz) (ad := ad) hl 0 (by decide) p1 u59 q73 hq73) (ts_live (k := 1) (by decide) (by decide) (by decide)) rfl (Nat.le_trans (Nat.le_of_ble_eq_true rfl) hdd) (As := [.inl (.int p1), .inr (21, 0, 0)]) rfl ⟨Nat.le_of_ble_eq_true rfl, Nat.le_of_ble_eq_true rfl⟩ (fun _ => Nat.le_of_ble_eq_true rfl) rfl ?_
                  cases h
                  exact tv_iret C (pc := 92) rfl dX6_run_92 ⟨Nat.le_of_ble_eq_true rfl, Nat.le_of_ble_eq_true rfl⟩
                · have h := ts_eR h
                  cases h
                  exact tv_callV_thr C (pc := 77) hX dX6_run_77 (ci := 6) (q := (RX6, TX6, 6)) rfl yl_X6_74 Mq70 (ts_live (k := 0) (by decide) (by decide) (by decide)) rfl (Nat.le_trans (Nat.le_of_ble_eq_true rfl) hdd) (As := [.inl (.int p1), .inl (.int (ts_gI u59 (21, 0, 0) 2))]) rfl ⟨Nat.le_of_ble_eq_true rfl, Nat.le_of_ble_eq_true rfl⟩ (fun _ => Nat.le_of_ble_eq_true rfl) rfl ⟨Nat.le_of_ble_eq_true rfl, Nat.le_of_ble_eq_true rfl⟩
              · have h := ts_eR h
                cases h
                exact tv_callS_thr C (pc := 65) hX dX6_run_65 yl_X6_43 Mq67 (Nat.le_trans (Nat.le_of_ble_eq_true rfl) hdd) (As := [.inl (.int (1 : Int32))]) rfl ⟨Nat.le_of_ble_eq_true rfl, Nat.le_of_ble_eq_true rfl⟩ (fun _ => Nat.le_of_ble_eq_true rfl) rfl ⟨Nat.le_of_ble_eq_true rfl, Nat.le_of_ble_eq_true rfl⟩
        · have h := ts_eR h
          cases h
          exact tv_callS_thr C (pc := 28) hX dX6_run_28 yl_X6_57 Mq40 (Nat.le_trans (Nat.le_of_ble_eq_true rfl) hdd) (As := [.inl (.int (1 : Int32))]) rfl ⟨Nat.le_of_ble_eq_true rfl, Nat.le_of_ble_eq_true rfl⟩ (fun _ => Nat.le_of_ble_eq_true rfl) rfl ⟨Nat.le_of_ble_eq_true rfl, Nat.le_of_ble_eq_true rfl⟩
    · have h := ts_eR h
      cases h
      exact tv_callS_thr C (pc := 5) hX dX6_run_5 yl_X6_71 Mq2 (Nat.le_trans (Nat.le_of_ble_eq_true rfl) hdd) (As := [.inl (.int q1)]) rfl ⟨Nat.le_of_ble_eq_true rfl, Nat.le_of_ble_eq_true rfl⟩ (fun _ => Nat.le_of_ble_eq_true rfl) rfl ⟨Nat.le_of_ble_eq_true rfl, Nat.le_of_ble_eq_true rfl⟩
set_option maxRecDepth 100000 in
set_option maxHeartbeats 4000000 in
theorem m_X6_errorPosition {l : Launch} {D : va_G} {dT : Nat → ClassId} {sz : Nat} {ad : ts_I → Nat} (hl : l.stackTraces = false)  (u : ts_Mem) (r : (Int32 ⊕ String)) (h : f_X6_errorPosition  u = some r) : ts_M l D dT sz yX6_errorPosition wX6_errorPosition 1 1 6 ad ts_lv ts_R0 [.inr (0, 0, 0)] u (ts_oI r) u := by
    unfold f_X6_errorPosition at h
    refine ts_enter hl (by decide) rfl rfl (Nat.le_of_ble_eq_true rfl) ?_
    intro p e s m args below meth c C hX hnm
    have C : ts_CX D dT sz p l (ts_rm 1 1 6) s m args meth c RX6 cX6_errorPosition 1 (some .int) 1 := C
    have hdd : 1 ≤ 1 := Nat.le_refl _
    refine tv_aload_n C (pc := 0) dX6_errorPosition_0 rfl rfl ?_
    refine tv_getI C (pc := 1) dX6_errorPosition_1 fl_X6_32 (ts_live (k := 0) (by decide) (by decide) (by decide)) rfl (cd := 0) rfl (by decide) ?_
    refine tv_if_lt C (pc := 4) 11 dX6_errorPosition_4 (by decide) (fun hc => ?_) (fun hc => ?_)
    · have h := ts_ifp h hc
      refine tv_iconst C (pc := 11) dX6_errorPosition_11 (v := (0 : Int32)) rfl ?_
      obtain ⟨q1, hq1, h⟩ := ts_bd h
      have Mq1 := (m_X6_requireElement (D := D) (dT := dT) (sz := sz) (ad := ad) hl (0 : Int32) u q1 hq1)
      rcases q1 with v2 | e3
      · have h := ts_eL h
        refine tv_callS C (pc := 12) dX6_errorPosition_12 yl_X6_106 Mq1 (Nat.le_trans (Nat.le_of_ble_eq_true rfl) hdd) (As := [.inl (.int (0 : Int32))]) rfl ⟨Nat.le_of_ble_eq_true rfl, Nat.le_of_ble_eq_true rfl⟩ (fun _ => Nat.le_of_ble_eq_true rfl) rfl ?_
        refine tv_aload_n C (pc := 15) dX6_errorPosition_15 rfl rfl ?_
        refine tv_getI C (pc := 16) dX6_errorPosition_16 fl_X6_32 (ts_live (k := 0) (by decide) (by decide) (by decide)) rfl (cd := 0) rfl (by decide) ?_
        cases h
        exact tv_iret C (pc := 19) rfl dX6_errorPosition_19 ⟨Nat.le_of_ble_eq_true rfl, Nat.le_of_ble_eq_true rfl⟩
      · have h := ts_eR h
        cases h
        exact tv_callS_thr C (pc := 12) hX dX6_errorPosition_12 yl_X6_106 Mq1 (Nat.le_trans (Nat.le_of_ble_eq_true rfl) hdd) (As := [.inl (.int (0 : Int32))]) rfl ⟨Nat.le_of_ble_eq_true rfl, Nat.le_of_ble_eq_true rfl⟩ (fun _ => Nat.le_of_ble_eq_true rfl) rfl ⟨Nat.le_of_ble_eq_true rfl, Nat.le_of_ble_eq_true rfl⟩
    · have h := ts_ifn h hc
      refine tv_iconst C (pc := 7) dX6_errorPosition_7 (v := (1 : Int32)) rfl ?_
      refine tv_goto C (pc := 8) 12 dX6_errorPosition_8 (by decide) ?_
      obtain ⟨q4, hq4, h⟩ := ts_bd h
      have Mq4 := (m_X6_requireElement (D := D) (dT := dT) (sz := sz) (ad := ad) hl (1 : Int32) u q4 hq4)
      rcases q4 with v5 | e6
      · have h := ts_eL h
        refine tv_callS C (pc := 12) dX6_errorPosition_12 yl_X6_106 Mq4 (Nat.le_trans (Nat.le_of_ble_eq_true rfl) hdd) (As := [.inl (.int (1 : Int32))]) rfl ⟨Nat.le_of_ble_eq_true rfl, Nat.le_of_ble_eq_true rfl⟩ (fun _ => Nat.le_of_ble_eq_true rfl) rfl ?_
        refine tv_aload_n C (pc := 15) dX6_errorPosition_15 rfl rfl ?_
        refine tv_getI C (pc := 16) dX6_errorPosition_16 fl_X6_32 (ts_live (k := 0) (by decide) (by decide) (by decide)) rfl (cd := 0) rfl (by decide) ?_
        cases h
        exact tv_iret C (pc := 19) rfl dX6_errorPosition_19 ⟨Nat.le_of_ble_eq_true rfl, Nat.le_of_ble_eq_true rfl⟩
      · have h := ts_eR h
        cases h
        exact tv_callS_thr C (pc := 12) hX dX6_errorPosition_12 yl_X6_106 Mq4 (Nat.le_trans (Nat.le_of_ble_eq_true rfl) hdd) (As := [.inl (.int (1 : Int32))]) rfl ⟨Nat.le_of_ble_eq_true rfl, Nat.le_of_ble_eq_true rfl⟩ (fun _ => Nat.le_of_ble_eq_true rfl) rfl ⟨Nat.le_of_ble_eq_true rfl, Nat.le_of_ble_eq_true rfl⟩
set_option maxRecDepth 100000 in
set_option maxHeartbeats 4000000 in
theorem m_X6_transactionCount {l : Launch} {D : va_G} {dT : Nat → ClassId} {sz : Nat} {ad : ts_I → Nat} (hl : l.stackTraces = false)  (u : ts_Mem) (r : Int32) (h : f_X6_transactionCount  u = some r) : ts_M l D dT sz yX6_transactionCount wX6_transactionCount 0 0 0 ad ts_lv ts_R0 [.inr (0, 0, 0)] u (.inl (some (.int r))) u := by
    unfold f_X6_transactionCount at h
    refine ts_enter hl (by decide) rfl rfl (Nat.le_of_ble_eq_true rfl) ?_
    intro p e s m args below meth c C hX hnm
    have C : ts_CX D dT sz p l (ts_rm 0 0 0) s m args meth c RX6 cX6_transactionCount 1 (some .int) 0 := C
    have hdd : 0 ≤ 0 := Nat.le_refl _
    refine tv_aload_n C (pc := 0) dX6_transactionCount_0 rfl rfl ?_
    refine tv_getR C (pc := 1) dX6_transactionCount_1 fl_X6_12 (ts_live (k := 0) (by decide) (by decide) (by decide)) rfl rfl (i2 := (1, 0, 0)) rfl ?_
    refine tv_getI C (pc := 4) dX6_transactionCount_4 fl_X6_54 (ts_live (k := 1) (by decide) (by decide) (by decide)) rfl (cd := 0) rfl (by decide) ?_
    cases h
    exact tv_iret C (pc := 7) rfl dX6_transactionCount_7 ⟨Nat.le_of_ble_eq_true rfl, Nat.le_of_ble_eq_true rfl⟩
set_option maxRecDepth 100000 in
set_option maxHeartbeats 4000000 in
theorem m_X6_transaction {l : Launch} {D : va_G} {dT : Nat → ClassId} {sz : Nat} {ad : ts_I → Nat} (hl : l.stackTraces = false) (p1 : Int32) (p2 : Int32) (u : ts_Mem) (r : (Int32 ⊕ String)) (h : f_X6_transaction p1 p2 u = some r) : ts_M l D dT sz yX6_transaction wX6_transaction 1 2 12 ad ts_lv ts_R0 [.inr (0, 0, 0), .inl (.int p1), .inl (.int p2)] u (ts_oI r) u := by
    unfold f_X6_transaction at h
    refine ts_enter hl (by decide) rfl rfl (Nat.le_of_ble_eq_true rfl) ?_
    intro p e s m args below meth c C hX hnm
    have C : ts_CX D dT sz p l (ts_rm 1 2 12) s m args meth c RX6 cX6_transaction 3 (some .int) 1 := C
    have hdd : 1 ≤ 1 := Nat.le_refl _
    refine tv_aload_n C (pc := 0) dX6_transaction_0 rfl rfl ?_
    refine tv_iload_n C (pc := 1) dX6_transaction_1 rfl rfl ?_
    obtain ⟨q1, hq1, h⟩ := ts_bd h
    refine tv_callV C (pc := 2) dX6_transaction_2 (ci := 6) (q := (RX6, TX6, 6)) rfl yl_X6_64 (m_X6_isTransaction (D := D) (dT := dT) (sz := sz) (ad := ad) hl p1 u q1 hq1) (ts_live (k := 0) (by decide) (by decide) (by decide)) rfl (Nat.le_trans (Nat.le_of_ble_eq_true rfl) hdd) (As := [.inl (.int p1)]) rfl ⟨Nat.le_of_ble_eq_true rfl, Nat.le_of_ble_eq_true rfl⟩ (fun _ => Nat.le_of_ble_eq_true rfl) rfl ?_
    obtain ⟨q2, hq2, h⟩ := ts_bd h
    have Mq2 := (m_X6_requireIndex (D := D) (dT := dT) (sz := sz) (ad := ad) hl q1 u q2 hq2)
    rcases q2 with v3 | e4
    · have h := ts_eL h
      refine tv_callS C (pc := 5) dX6_transaction_5 yl_X6_71 Mq2 (Nat.le_trans (Nat.le_of_ble_eq_true rfl) hdd) (As := [.inl (.int q1)]) rfl ⟨Nat.le_of_ble_eq_true rfl, Nat.le_of_ble_eq_true rfl⟩ (fun _ => Nat.le_of_ble_eq_true rfl) rfl ?_
      refine tv_iload_n C (pc := 8) dX6_transaction_8 rfl rfl ?_
      refine tv_if_lt C (pc := 9) 21 dX6_transaction_9 (by decide) (fun hc => ?_) (fun hc => ?_)
      · have h := ts_ifp h hc
        refine tv_iconst C (pc := 21) dX6_transaction_21 (v := (0 : Int32)) rfl ?_
        obtain ⟨q5, hq5, h⟩ := ts_bd h
        have Mq5 := (m_X6_requireArgument (D := D) (dT := dT) (sz := sz) (ad := ad) hl (0 : Int32) u q5 hq5)
        rcases q5 with v6 | e7
        · have h := ts_eL h
          refine tv_callS C (pc := 22) dX6_transaction_22 yl_X6_43 Mq5 (Nat.le_trans (Nat.le_of_ble_eq_true rfl) hdd) (As := [.inl (.int (0 : Int32))]) rfl ⟨Nat.le_of_ble_eq_true rfl, Nat.le_of_ble_eq_true rfl⟩ (fun _ => Nat.le_of_ble_eq_true rfl) rfl ?_
          refine tv_aload_n C (pc := 25) dX6_transaction_25 rfl rfl ?_
          refine tv_getR C (pc := 26) dX6_transaction_26 fl_X6_12 (ts_live (k := 0) (by decide) (by decide) (by decide)) rfl rfl (i2 := (1, 0, 0)) rfl ?_
          refine tv_getR C (pc := 29) dX6_transaction_29 fl_X6_82 (ts_live (k := 1) (by decide) (by decide) (by decide)) rfl rfl (i2 := (2, 0, 0)) rfl ?_
          refine tv_iload_n C (pc := 32) dX6_transaction_32 rfl rfl ?_
          obtain ⟨hr8, h⟩ := ts_gd h
          refine tv_aaload5 C (pc := 33) dX6_transaction_33 (ts_live (k := 2) (by decide) (by decide) (by decide)) rfl hr8 (j := p1.toNatClampNeg) rfl (i2 := (11, 0, p1.toNatClampNeg)) rfl ?_
          refine tv_iload_n C (pc := 34) dX6_transaction_34 rfl rfl ?_
          obtain ⟨q9, hq9, h⟩ := ts_bd h
          refine tv_callV C (pc := 35) dX6_transaction_35 (ci := 5) (q := (RX5, TX5, 10)) rfl yl_X6_129 (m_X5_property (D := D) (dT := dT) (sz := sz) (ad := ad) hl 0 (by decide) p1.toNatClampNeg (ts_vin hr8) p2 u q9 hq9) (ts_live (k := 11) (by decide) (by decide) (ts_vin hr8)) rfl (Nat.le_trans (Nat.le_of_ble_eq_true rfl) hdd) (As := [.inl (.int p2)]) rfl ⟨Nat.le_of_ble_eq_true rfl, Nat.le_of_ble_eq_true rfl⟩ (fun _ => Nat.le_of_ble_eq_true rfl) rfl ?_
          cases h
          exact tv_iret C (pc := 38) rfl dX6_transaction_38 ⟨Nat.le_of_ble_eq_true rfl, Nat.le_of_ble_eq_true rfl⟩
        · have h := ts_eR h
          cases h
          exact tv_callS_thr C (pc := 22) hX dX6_transaction_22 yl_X6_43 Mq5 (Nat.le_trans (Nat.le_of_ble_eq_true rfl) hdd) (As := [.inl (.int (0 : Int32))]) rfl ⟨Nat.le_of_ble_eq_true rfl, Nat.le_of_ble_eq_true rfl⟩ (fun _ => Nat.le_of_ble_eq_true rfl) rfl ⟨Nat.le_of_ble_eq_true rfl, Nat.le_of_ble_eq_true rfl⟩
      · have h := ts_ifn h hc
        refine tv_iload_n C (pc := 12) dX6_transaction_12 rfl rfl ?_
        refine tv_iconst C (pc := 13) dX6_transaction_13 (v := (4 : Int32)) rfl ?_
        refine tv_icmp_gt C (pc := 14) 21 dX6_transaction_14 (by decide) (fun hc => ?_) (fun hc => ?_)
        · have h := ts_ifp h hc
          refine tv_iconst C (pc := 21) dX6_transaction_21 (v := (0 : Int32)) rfl ?_
          obtain ⟨q10, hq10, h⟩ := ts_bd h
          have Mq10 := (m_X6_requireArgument (D := D) (dT := dT) (sz := sz) (ad := ad) hl (0 : Int32) u q10 hq10)
          rcases q10 with v11 | e12
          · have h := ts_eL h
            refine tv_callS C (pc := 22) dX6_transaction_22 yl_X6_43 Mq10 (Nat.le_trans (Nat.le_of_ble_eq_true rfl) hdd) (As := [.inl (.int (0 : Int32))]) rfl ⟨Nat.le_of_ble_eq_true rfl, Nat.le_of_ble_eq_true rfl⟩ (fun _ => Nat.le_of_ble_eq_true rfl) rfl ?_
            refine tv_aload_n C (pc := 25) dX6_transaction_25 rfl rfl ?_
            refine tv_getR C (pc := 26) dX6_transaction_26 fl_X6_12 (ts_live (k := 0) (by decide) (by decide) (by decide)) rfl rfl (i2 := (1, 0, 0)) rfl ?_
            refine tv_getR C (pc := 29) dX6_transaction_29 fl_X6_82 (ts_live (k := 1) (by decide) (by decide) (by decide)) rfl rfl (i2 := (2, 0, 0)) rfl ?_
            refine tv_iload_n C (pc := 32) dX6_transaction_32 rfl rfl ?_
            obtain ⟨hr13, h⟩ := ts_gd h
            refine tv_aaload5 C (pc := 33) dX6_transaction_33 (ts_live (k := 2) (by decide) (by decide) (by decide)) rfl hr13 (j := p1.toNatClampNeg) rfl (i2 := (11, 0, p1.toNatClampNeg)) rfl ?_
            refine tv_iload_n C (pc := 34) dX6_transaction_34 rfl rfl ?_
            obtain ⟨q14, hq14, h⟩ := ts_bd h
            refine tv_callV C (pc := 35) dX6_transaction_35 (ci := 5) (q := (RX5, TX5, 10)) rfl yl_X6_129 (m_X5_property (D := D) (dT := dT) (sz := sz) (ad := ad) hl 0 (by decide) p1.toNatClampNeg (ts_vin hr13) p2 u q14 hq14) (ts_live (k := 11) (by decide) (by decide) (ts_vin hr13)) rfl (Nat.le_trans (Nat.le_of_ble_eq_true rfl) hdd) (As := [.inl (.int p2)]) rfl ⟨Nat.le_of_ble_eq_true rfl, Nat.le_of_ble_eq_true rfl⟩ (fun _ => Nat.le_of_ble_eq_true rfl) rfl ?_
            cases h
            exact tv_iret C (pc := 38) rfl dX6_transaction_38 ⟨Nat.le_of_ble_eq_true rfl, Nat.le_of_ble_eq_true rfl⟩
          · have h := ts_eR h
            cases h
            exact tv_callS_thr C (pc := 22) hX dX6_transaction_22 yl_X6_43 Mq10 (Nat.le_trans (Nat.le_of_ble_eq_true rfl) hdd) (As := [.inl (.int (0 : Int32))]) rfl ⟨Nat.le_of_ble_eq_true rfl, Nat.le_of_ble_eq_true rfl⟩ (fun _ => Nat.le_of_ble_eq_true rfl) rfl ⟨Nat.le_of_ble_eq_true rfl, Nat.le_of_ble_eq_true rfl⟩
        · have h := ts_ifn h hc
          refine tv_iconst C (pc := 17) dX6_transaction_17 (v := (1 : Int32)) rfl ?_
          refine tv_goto C (pc := 18) 22 dX6_transaction_18 (by decide) ?_
          obtain ⟨q15, hq15, h⟩ := ts_bd h
          have Mq15 := (m_X6_requireArgument (D := D) (dT := dT) (sz := sz) (ad := ad) hl (1 : Int32) u q15 hq15)
          rcases q15 with v16 | e17
          · have h := ts_eL h
            refine tv_callS C (pc := 22) dX6_transaction_22 yl_X6_43 Mq15 (Nat.le_trans (Nat.le_of_ble_eq_true rfl) hdd) (As := [.inl (.int (1 : Int32))]) rfl ⟨Nat.le_of_ble_eq_true rfl, Nat.le_of_ble_eq_true rfl⟩ (fun _ => Nat.le_of_ble_eq_true rfl) rfl ?_
            refine tv_aload_n C (pc := 25) dX6_transaction_25 rfl rfl ?_
            refine tv_getR C (pc := 26) dX6_transaction_26 fl_X6_12 (ts_live (k := 0) (by decide) (by decide) (by decide)) rfl rfl (i2 := (1, 0, 0)) rfl ?_
            refine tv_getR C (pc := 29) dX6_transaction_29 fl_X6_82 (ts_live (k := 1) (by decide) (by decide) (by decide)) rfl rfl (i2 := (2, 0, 0)) rfl ?_
            refine tv_iload_n C (pc := 32) dX6_transaction_32 rfl rfl ?_
            obtain ⟨hr18, h⟩ := ts_gd h
            refine tv_aaload5 C (pc := 33) dX6_transaction_33 (ts_live (k := 2) (by decide) (by decide) (by decide)) rfl hr18 (j := p1.toNatClampNeg) rfl (i2 := (11, 0, p1.toNatClampNeg)) rfl ?_
            refine tv_iload_n C (pc := 34) dX6_transaction_34 rfl rfl ?_
            obtain ⟨q19, hq19, h⟩ := ts_bd h
            refine tv_callV C (pc := 35) dX6_transaction_35 (ci := 5) (q := (RX5, TX5, 10)) rfl yl_X6_129 (m_X5_property (D := D) (dT := dT) (sz := sz) (ad := ad) hl 0 (by decide) p1.toNatClampNeg (ts_vin hr18) p2 u q19 hq19) (ts_live (k := 11) (by decide) (by decide) (ts_vin hr18)) rfl (Nat.le_trans (Nat.le_of_ble_eq_true rfl) hdd) (As := [.inl (.int p2)]) rfl ⟨Nat.le_of_ble_eq_true rfl, Nat.le_of_ble_eq_true rfl⟩ (fun _ => Nat.le_of_ble_eq_true rfl) rfl ?_
            cases h
            exact tv_iret C (pc := 38) rfl dX6_transaction_38 ⟨Nat.le_of_ble_eq_true rfl, Nat.le_of_ble_eq_true rfl⟩
          · have h := ts_eR h
            cases h
            exact tv_callS_thr C (pc := 22) hX dX6_transaction_22 yl_X6_43 Mq15 (Nat.le_trans (Nat.le_of_ble_eq_true rfl) hdd) (As := [.inl (.int (1 : Int32))]) rfl ⟨Nat.le_of_ble_eq_true rfl, Nat.le_of_ble_eq_true rfl⟩ (fun _ => Nat.le_of_ble_eq_true rfl) rfl ⟨Nat.le_of_ble_eq_true rfl, Nat.le_of_ble_eq_true rfl⟩
    · have h := ts_eR h
      cases h
      exact tv_callS_thr C (pc := 5) hX dX6_transaction_5 yl_X6_71 Mq2 (Nat.le_trans (Nat.le_of_ble_eq_true rfl) hdd) (As := [.inl (.int q1)]) rfl ⟨Nat.le_of_ble_eq_true rfl, Nat.le_of_ble_eq_true rfl⟩ (fun _ => Nat.le_of_ble_eq_true rfl) rfl ⟨Nat.le_of_ble_eq_true rfl, Nat.le_of_ble_eq_true rfl⟩
set_option maxRecDepth 100000 in
set_option maxHeartbeats 4000000 in
theorem m_X6_dependencies {l : Launch} {D : va_G} {dT : Nat → ClassId} {sz : Nat} {ad : ts_I → Nat} (hl : l.stackTraces = false) (p1 : Int32) (u : ts_Mem) (r : (Int32 ⊕ String)) (h : f_X6_dependencies p1 u = some r) : ts_M l D dT sz yX6_dependencies wX6_dependencies 1 1 6 ad ts_lv ts_R0 [.inr (0, 0, 0), .inl (.int p1)] u (ts_oI r) u := by
    unfold f_X6_dependencies at h
    refine ts_enter hl (by decide) rfl rfl (Nat.le_of_ble_eq_true rfl) ?_
    intro p e s m args below meth c C hX hnm
    have C : ts_CX D dT sz p l (ts_rm 1 1 6) s m args meth c RX6 cX6_dependencies 2 (some .int) 1 := C
    have hdd : 1 ≤ 1 := Nat.le_refl _
    refine tv_aload_n C (pc := 0) dX6_dependencies_0 rfl rfl ?_
    refine tv_iload_n C (pc := 1) dX6_dependencies_1 rfl rfl ?_
    obtain ⟨q1, hq1, h⟩ := ts_bd h
    refine tv_callV C (pc := 2) dX6_dependencies_2 (ci := 6) (q := (RX6, TX6, 6)) rfl yl_X6_64 (m_X6_isTransaction (D := D) (dT := dT) (sz := sz) (ad := ad) hl p1 u q1 hq1) (ts_live (k := 0) (by decide) (by decide) (by decide)) rfl (Nat.le_trans (Nat.le_of_ble_eq_true rfl) hdd) (As := [.inl (.int p1)]) rfl ⟨Nat.le_of_ble_eq_true rfl, Nat.le_of_ble_eq_true rfl⟩ (fun _ => Nat.le_of_ble_eq_true rfl) rfl ?_
    obtain ⟨q2, hq2, h⟩ := ts_bd h
    have Mq2 := (m_X6_requireIndex (D := D) (dT := dT) (sz := sz) (ad := ad) hl q1 u q2 hq2)
    rcases q2 with v3 | e4
    · have h := ts_eL h
      refine tv_callS C (pc := 5) dX6_dependencies_5 yl_X6_71 Mq2 (Nat.le_trans (Nat.le_of_ble_eq_true rfl) hdd) (As := [.inl (.int q1)]) rfl ⟨Nat.le_of_ble_eq_true rfl, Nat.le_of_ble_eq_true rfl⟩ (fun _ => Nat.le_of_ble_eq_true rfl) rfl ?_
      refine tv_aload_n C (pc := 8) dX6_dependencies_8 rfl rfl ?_
      refine tv_getR C (pc := 9) dX6_dependencies_9 fl_X6_12 (ts_live (k := 0) (by decide) (by decide) (by decide)) rfl rfl (i2 := (1, 0, 0)) rfl ?_
      refine tv_getR C (pc := 12) dX6_dependencies_12 fl_X6_82 (ts_live (k := 1) (by decide) (by decide) (by decide)) rfl rfl (i2 := (2, 0, 0)) rfl ?_
      refine tv_iload_n C (pc := 15) dX6_dependencies_15 rfl rfl ?_
      obtain ⟨hr5, h⟩ := ts_gd h
      refine tv_aaload5 C (pc := 16) dX6_dependencies_16 (ts_live (k := 2) (by decide) (by decide) (by decide)) rfl hr5 (j := p1.toNatClampNeg) rfl (i2 := (11, 0, p1.toNatClampNeg)) rfl ?_
      refine tv_getI C (pc := 17) dX6_dependencies_17 fl_X6_132 (ts_live (k := 11) (by decide) (by decide) (ts_vin hr5)) rfl (cd := 0) rfl (by decide) ?_
      cases h
      exact tv_iret C (pc := 20) rfl dX6_dependencies_20 ⟨Nat.le_of_ble_eq_true rfl, Nat.le_of_ble_eq_true rfl⟩
    · have h := ts_eR h
      cases h
      exact tv_callS_thr C (pc := 5) hX dX6_dependencies_5 yl_X6_71 Mq2 (Nat.le_trans (Nat.le_of_ble_eq_true rfl) hdd) (As := [.inl (.int q1)]) rfl ⟨Nat.le_of_ble_eq_true rfl, Nat.le_of_ble_eq_true rfl⟩ (fun _ => Nat.le_of_ble_eq_true rfl) rfl ⟨Nat.le_of_ble_eq_true rfl, Nat.le_of_ble_eq_true rfl⟩
set_option maxRecDepth 100000 in
set_option maxHeartbeats 4000000 in
theorem m_X6_cascade {l : Launch} {D : va_G} {dT : Nat → ClassId} {sz : Nat} {ad : ts_I → Nat} (hl : l.stackTraces = false) (p1 : Int32) (u : ts_Mem) (r : (Int32 ⊕ String)) (h : f_X6_cascade p1 u = some r) : ts_M l D dT sz yX6_cascade wX6_cascade 2 1 6 ad ts_lv ts_R0 [.inr (0, 0, 0), .inl (.int p1)] u (ts_oI r) u := by
    unfold f_X6_cascade at h
    refine ts_enter hl (by decide) rfl rfl (Nat.le_of_ble_eq_true rfl) ?_
    intro p e s m args below meth c C hX hnm
    have C : ts_CX D dT sz p l (ts_rm 2 1 6) s m args meth c RX6 cX6_cascade 2 (some .int) 2 := C
    have hdd : 2 ≤ 2 := Nat.le_refl _
    refine tv_aload_n C (pc := 0) dX6_cascade_0 rfl rfl ?_
    refine tv_iload_n C (pc := 1) dX6_cascade_1 rfl rfl ?_
    obtain ⟨q1, hq1, h⟩ := ts_bd h
    refine tv_callV C (pc := 2) dX6_cascade_2 (ci := 6) (q := (RX6, TX6, 6)) rfl yl_X6_64 (m_X6_isTransaction (D := D) (dT := dT) (sz := sz) (ad := ad) hl p1 u q1 hq1) (ts_live (k := 0) (by decide) (by decide) (by decide)) rfl (Nat.le_trans (Nat.le_of_ble_eq_true rfl) hdd) (As := [.inl (.int p1)]) rfl ⟨Nat.le_of_ble_eq_true rfl, Nat.le_of_ble_eq_true rfl⟩ (fun _ => Nat.le_of_ble_eq_true rfl) rfl ?_
    obtain ⟨q2, hq2, h⟩ := ts_bd h
    have Mq2 := (m_X6_requireIndex (D := D) (dT := dT) (sz := sz) (ad := ad) hl q1 u q2 hq2)
    rcases q2 with v3 | e4
    · have h := ts_eL h
      refine tv_callS C (pc := 5) dX6_cascade_5 yl_X6_71 Mq2 (Nat.le_trans (Nat.le_of_ble_eq_true rfl) hdd) (As := [.inl (.int q1)]) rfl ⟨Nat.le_of_ble_eq_true rfl, Nat.le_of_ble_eq_true rfl⟩ (fun _ => Nat.le_of_ble_eq_true rfl) rfl ?_
      refine tv_aload_n C (pc := 8) dX6_cascade_8 rfl rfl ?_
      refine tv_getR C (pc := 9) dX6_cascade_9 fl_X6_12 (ts_live (k := 0) (by decide) (by decide) (by decide)) rfl rfl (i2 := (1, 0, 0)) rfl ?_
      refine tv_iload_n C (pc := 12) dX6_cascade_12 rfl rfl ?_
      obtain ⟨q5, hq5, h⟩ := ts_bd h
      refine tv_callV C (pc := 13) dX6_cascade_13 (ci := 0) (q := (RX0, TX0, 8)) rfl yl_X6_135 (m_X0_transactionsAbortedWith (D := D) (dT := dT) (sz := sz) (ad := ad) hl 0 (by decide) p1 u q5 hq5) (ts_live (k := 1) (by decide) (by decide) (by decide)) rfl (Nat.le_trans (Nat.le_of_ble_eq_true rfl) hdd) (As := [.inl (.int p1)]) rfl ⟨Nat.le_of_ble_eq_true rfl, Nat.le_of_ble_eq_true rfl⟩ (fun _ => Nat.le_of_ble_eq_true rfl) rfl ?_
      cases h
      exact tv_iret C (pc := 16) rfl dX6_cascade_16 ⟨Nat.le_of_ble_eq_true rfl, Nat.le_of_ble_eq_true rfl⟩
    · have h := ts_eR h
      cases h
      exact tv_callS_thr C (pc := 5) hX dX6_cascade_5 yl_X6_71 Mq2 (Nat.le_trans (Nat.le_of_ble_eq_true rfl) hdd) (As := [.inl (.int q1)]) rfl ⟨Nat.le_of_ble_eq_true rfl, Nat.le_of_ble_eq_true rfl⟩ (fun _ => Nat.le_of_ble_eq_true rfl) rfl ⟨Nat.le_of_ble_eq_true rfl, Nat.le_of_ble_eq_true rfl⟩
set_option maxRecDepth 100000 in
set_option maxHeartbeats 4000000 in
theorem m_X6_operation {l : Launch} {D : va_G} {dT : Nat → ClassId} {sz : Nat} {ad : ts_I → Nat} (hl : l.stackTraces = false) (p1 : Int32) (p2 : Int32) (p3 : Int32) (u : ts_Mem) (r : (Int32 ⊕ String)) (h : f_X6_operation p1 p2 p3 u = some r) : ts_M l D dT sz yX6_operation wX6_operation 1 3 18 ad ts_lv ts_R0 [.inr (0, 0, 0), .inl (.int p1), .inl (.int p2), .inl (.int p3)] u (ts_oI r) u := by
    unfold f_X6_operation at h
    refine ts_enter hl (by decide) rfl rfl (Nat.le_of_ble_eq_true rfl) ?_
    intro p e s m args below meth c C hX hnm
    have C : ts_CX D dT sz p l (ts_rm 1 3 18) s m args meth c RX6 cX6_operation 4 (some .int) 1 := C
    have hdd : 1 ≤ 1 := Nat.le_refl _
    refine tv_aload_n C (pc := 0) dX6_operation_0 rfl rfl ?_
    refine tv_iload_n C (pc := 1) dX6_operation_1 rfl rfl ?_
    obtain ⟨q1, hq1, h⟩ := ts_bd h
    refine tv_callV C (pc := 2) dX6_operation_2 (ci := 6) (q := (RX6, TX6, 6)) rfl yl_X6_64 (m_X6_isTransaction (D := D) (dT := dT) (sz := sz) (ad := ad) hl p1 u q1 hq1) (ts_live (k := 0) (by decide) (by decide) (by decide)) rfl (Nat.le_trans (Nat.le_of_ble_eq_true rfl) hdd) (As := [.inl (.int p1)]) rfl ⟨Nat.le_of_ble_eq_true rfl, Nat.le_of_ble_eq_true rfl⟩ (fun _ => Nat.le_of_ble_eq_true rfl) rfl ?_
    obtain ⟨q2, hq2, h⟩ := ts_bd h
    have Mq2 := (m_X6_requireIndex (D := D) (dT := dT) (sz := sz) (ad := ad) hl q1 u q2 hq2)
    rcases q2 with v3 | e4
    · have h := ts_eL h
      refine tv_callS C (pc := 5) dX6_operation_5 yl_X6_71 Mq2 (Nat.le_trans (Nat.le_of_ble_eq_true rfl) hdd) (As := [.inl (.int q1)]) rfl ⟨Nat.le_of_ble_eq_true rfl, Nat.le_of_ble_eq_true rfl⟩ (fun _ => Nat.le_of_ble_eq_true rfl) rfl ?_
      refine tv_iload_n C (pc := 8) dX6_operation_8 rfl rfl ?_
      refine tv_if_lt C (pc := 9) 32 dX6_operation_9 (by decide) (fun hc => ?_) (fun hc => ?_)
      · have h := ts_ifp h hc
        refine tv_iconst C (pc := 32) dX6_operation_32 (v := (0 : Int32)) rfl ?_
        obtain ⟨q5, hq5, h⟩ := ts_bd h
        have Mq5 := (m_X6_requireIndex (D := D) (dT := dT) (sz := sz) (ad := ad) hl (0 : Int32) u q5 hq5)
        rcases q5 with v6 | e7
        · have h := ts_eL h
          refine tv_callS C (pc := 33) dX6_operation_33 yl_X6_71 Mq5 (Nat.le_trans (Nat.le_of_ble_eq_true rfl) hdd) (As := [.inl (.int (0 : Int32))]) rfl ⟨Nat.le_of_ble_eq_true rfl, Nat.le_of_ble_eq_true rfl⟩ (fun _ => Nat.le_of_ble_eq_true rfl) rfl ?_
          refine tv_iload_n C (pc := 36) dX6_operation_36 rfl rfl ?_
          refine tv_if_lt C (pc := 37) 49 dX6_operation_37 (by decide) (fun hc => ?_) (fun hc => ?_)
          · have h := ts_ifp h hc
            refine tv_iconst C (pc := 49) dX6_operation_49 (v := (0 : Int32)) rfl ?_
            obtain ⟨q8, hq8, h⟩ := ts_bd h
            have Mq8 := (m_X6_requireArgument (D := D) (dT := dT) (sz := sz) (ad := ad) hl (0 : Int32) u q8 hq8)
            rcases q8 with v9 | e10
            · have h := ts_eL h
              refine tv_callS C (pc := 50) dX6_operation_50 yl_X6_43 Mq8 (Nat.le_trans (Nat.le_of_ble_eq_true rfl) hdd) (As := [.inl (.int (0 : Int32))]) rfl ⟨Nat.le_of_ble_eq_true rfl, Nat.le_of_ble_eq_true rfl⟩ (fun _ => Nat.le_of_ble_eq_true rfl) rfl ?_
              refine tv_aload_n C (pc := 53) dX6_operation_53 rfl rfl ?_
              refine tv_getR C (pc := 54) dX6_operation_54 fl_X6_12 (ts_live (k := 0) (by decide) (by decide) (by decide)) rfl rfl (i2 := (1, 0, 0)) rfl ?_
              refine tv_getR C (pc := 57) dX6_operation_57 fl_X6_82 (ts_live (k := 1) (by decide) (by decide) (by decide)) rfl rfl (i2 := (2, 0, 0)) rfl ?_
              refine tv_iload_n C (pc := 60) dX6_operation_60 rfl rfl ?_
              obtain ⟨hr11, h⟩ := ts_gd h
              refine tv_aaload5 C (pc := 61) dX6_operation_61 (ts_live (k := 2) (by decide) (by decide) (by decide)) rfl hr11 (j := p1.toNatClampNeg) rfl (i2 := (11, 0, p1.toNatClampNeg)) rfl ?_
              refine tv_iload_n C (pc := 62) dX6_operation_62 rfl rfl ?_
              refine tv_iload_n C (pc := 63) dX6_operation_63 rfl rfl ?_
              obtain ⟨q12, hq12, h⟩ := ts_bd h
              refine tv_callV C (pc := 64) dX6_operation_64 (ci := 5) (q := (RX5, TX5, 10)) rfl yl_X6_139 (m_X5_operationNumber (D := D) (dT := dT) (sz := sz) (ad := ad) hl 0 (by decide) p1.toNatClampNeg (ts_vin hr11) p2 p3 u q12 hq12) (ts_live (k := 11) (by decide) (by decide) (ts_vin hr11)) rfl (Nat.le_trans (Nat.le_of_ble_eq_true rfl) hdd) (As := [.inl (.int p2), .inl (.int p3)]) rfl ⟨Nat.le_of_ble_eq_true rfl, Nat.le_of_ble_eq_true rfl⟩ (fun _ => Nat.le_of_ble_eq_true rfl) rfl ?_
              cases h
              exact tv_iret C (pc := 67) rfl dX6_operation_67 ⟨Nat.le_of_ble_eq_true rfl, Nat.le_of_ble_eq_true rfl⟩
            · have h := ts_eR h
              cases h
              exact tv_callS_thr C (pc := 50) hX dX6_operation_50 yl_X6_43 Mq8 (Nat.le_trans (Nat.le_of_ble_eq_true rfl) hdd) (As := [.inl (.int (0 : Int32))]) rfl ⟨Nat.le_of_ble_eq_true rfl, Nat.le_of_ble_eq_true rfl⟩ (fun _ => Nat.le_of_ble_eq_true rfl) rfl ⟨Nat.le_of_ble_eq_true rfl, Nat.le_of_ble_eq_true rfl⟩
          · have h := ts_ifn h hc
            refine tv_iload_n C (pc := 40) dX6_operation_40 rfl rfl ?_
            refine tv_iconst C (pc := 41) dX6_operation_41 (v := (3 : Int32)) rfl ?_
            refine tv_icmp_gt C (pc := 42) 49 dX6_operation_42 (by decide) (fun hc => ?_) (fun hc => ?_)
            · have h := ts_ifp h hc
              refine tv_iconst C (pc := 49) dX6_operation_49 (v := (0 : Int32)) rfl ?_
              obtain ⟨q13, hq13, h⟩ := ts_bd h
              have Mq13 := (m_X6_requireArgument (D := D) (dT := dT) (sz := sz) (ad := ad) hl (0 : Int32) u q13 hq13)
              rcases q13 with v14 | e15
              · have h := ts_eL h
                refine tv_callS C (pc := 50) dX6_operation_50 yl_X6_43 Mq13 (Nat.le_trans (Nat.le_of_ble_eq_true rfl) hdd) (As := [.inl (.int (0 : Int32))]) rfl ⟨Nat.le_of_ble_eq_true rfl, Nat.le_of_ble_eq_true rfl⟩ (fun _ => Nat.le_of_ble_eq_true rfl) rfl ?_
                refine tv_aload_n C (pc := 53) dX6_operation_53 rfl rfl ?_
                refine tv_getR C (pc := 54) dX6_operation_54 fl_X6_12 (ts_live (k := 0) (by decide) (by decide) (by decide)) rfl rfl (i2 := (1, 0, 0)) rfl ?_
                refine tv_getR C (pc := 57) dX6_operation_57 fl_X6_82 (ts_live (k := 1) (by decide) (by decide) (by decide)) rfl rfl (i2 := (2, 0, 0)) rfl ?_
                refine tv_iload_n C (pc := 60) dX6_operation_60 rfl rfl ?_
                obtain ⟨hr16, h⟩ := ts_gd h
                refine tv_aaload5 C (pc := 61) dX6_operation_61 (ts_live (k := 2) (by decide) (by decide) (by decide)) rfl hr16 (j := p1.toNatClampNeg) rfl (i2 := (11, 0, p1.toNatClampNeg)) rfl ?_
                refine tv_iload_n C (pc := 62) dX6_operation_62 rfl rfl ?_
                refine tv_iload_n C (pc := 63) dX6_operation_63 rfl rfl ?_
                obtain ⟨q17, hq17, h⟩ := ts_bd h
                refine tv_callV C (pc := 64) dX6_operation_64 (ci := 5) (q := (RX5, TX5, 10)) rfl yl_X6_139 (m_X5_operationNumber (D := D) (dT := dT) (sz := sz) (ad := ad) hl 0 (by decide) p1.toNatClampNeg (ts_vin hr16) p2 p3 u q17 hq17) (ts_live (k := 11) (by decide) (by decide) (ts_vin hr16)) rfl (Nat.le_trans (Nat.le_of_ble_eq_true rfl) hdd) (As := [.inl (.int p2), .inl (.int p3)]) rfl ⟨Nat.le_of_ble_eq_true rfl, Nat.le_of_ble_eq_true rfl⟩ (fun _ => Nat.le_of_ble_eq_true rfl) rfl ?_
                cases h
                exact tv_iret C (pc := 67) rfl dX6_operation_67 ⟨Nat.le_of_ble_eq_true rfl, Nat.le_of_ble_eq_true rfl⟩
              · have h := ts_eR h
                cases h
                exact tv_callS_thr C (pc := 50) hX dX6_operation_50 yl_X6_43 Mq13 (Nat.le_trans (Nat.le_of_ble_eq_true rfl) hdd) (As := [.inl (.int (0 : Int32))]) rfl ⟨Nat.le_of_ble_eq_true rfl, Nat.le_of_ble_eq_true rfl⟩ (fun _ => Nat.le_of_ble_eq_true rfl) rfl ⟨Nat.le_of_ble_eq_true rfl, Nat.le_of_ble_eq_true rfl⟩
            · have h := ts_ifn h hc
              refine tv_iconst C (pc := 45) dX6_operation_45 (v := (1 : Int32)) rfl ?_
              refine tv_goto C (pc := 46) 50 dX6_operation_46 (by decide) ?_
              obtain ⟨q18, hq18, h⟩ := ts_bd h
              have Mq18 := (m_X6_requireArgument (D := D) (dT := dT) (sz := sz) (ad := ad) hl (1 : Int32) u q18 hq18)
              rcases q18 with v19 | e20
              · have h := ts_eL h
                refine tv_callS C (pc := 50) dX6_operation_50 yl_X6_43 Mq18 (Nat.le_trans (Nat.le_of_ble_eq_true rfl) hdd) (As := [.inl (.int (1 : Int32))]) rfl ⟨Nat.le_of_ble_eq_true rfl, Nat.le_of_ble_eq_true rfl⟩ (fun _ => Nat.le_of_ble_eq_true rfl) rfl ?_
                refine tv_aload_n C (pc := 53) dX6_operation_53 rfl rfl ?_
                refine tv_getR C (pc := 54) dX6_operation_54 fl_X6_12 (ts_live (k := 0) (by decide) (by decide) (by decide)) rfl rfl (i2 := (1, 0, 0)) rfl ?_
                refine tv_getR C (pc := 57) dX6_operation_57 fl_X6_82 (ts_live (k := 1) (by decide) (by decide) (by decide)) rfl rfl (i2 := (2, 0, 0)) rfl ?_
                refine tv_iload_n C (pc := 60) dX6_operation_60 rfl rfl ?_
                obtain ⟨hr21, h⟩ := ts_gd h
                refine tv_aaload5 C (pc := 61) dX6_operation_61 (ts_live (k := 2) (by decide) (by decide) (by decide)) rfl hr21 (j := p1.toNatClampNeg) rfl (i2 := (11, 0, p1.toNatClampNeg)) rfl ?_
                refine tv_iload_n C (pc := 62) dX6_operation_62 rfl rfl ?_
                refine tv_iload_n C (pc := 63) dX6_operation_63 rfl rfl ?_
                obtain ⟨q22, hq22, h⟩ := ts_bd h
                refine tv_callV C (pc := 64) dX6_operation_64 (ci := 5) (q := (RX5, TX5, 10)) rfl yl_X6_139 (m_X5_operationNumber (D := D) (dT := dT) (sz := sz) (ad := ad) hl 0 (by decide) p1.toNatClampNeg (ts_vin hr21) p2 p3 u q22 hq22) (ts_live (k := 11) (by decide) (by decide) (ts_vin hr21)) rfl (Nat.le_trans (Nat.le_of_ble_eq_true rfl) hdd) (As := [.inl (.int p2), .inl (.int p3)]) rfl ⟨Nat.le_of_ble_eq_true rfl, Nat.le_of_ble_eq_true rfl⟩ (fun _ => Nat.le_of_ble_eq_true rfl) rfl ?_
                cases h
                exact tv_iret C (pc := 67) rfl dX6_operation_67 ⟨Nat.le_of_ble_eq_true rfl, Nat.le_of_ble_eq_true rfl⟩
              · have h := ts_eR h
                cases h
                exact tv_callS_thr C (pc := 50) hX dX6_operation_50 yl_X6_43 Mq18 (Nat.le_trans (Nat.le_of_ble_eq_true rfl) hdd) (As := [.inl (.int (1 : Int32))]) rfl ⟨Nat.le_of_ble_eq_true rfl, Nat.le_of_ble_eq_true rfl⟩ (fun _ => Nat.le_of_ble_eq_true rfl) rfl ⟨Nat.le_of_ble_eq_true rfl, Nat.le_of_ble_eq_true rfl⟩
        · have h := ts_eR h
          cases h
          exact tv_callS_thr C (pc := 33) hX dX6_operation_33 yl_X6_71 Mq5 (Nat.le_trans (Nat.le_of_ble_eq_true rfl) hdd) (As := [.inl (.int (0 : Int32))]) rfl ⟨Nat.le_of_ble_eq_true rfl, Nat.le_of_ble_eq_true rfl⟩ (fun _ => Nat.le_of_ble_eq_true rfl) rfl ⟨Nat.le_of_ble_eq_true rfl, Nat.le_of_ble_eq_true rfl⟩
      · have h := ts_ifn h hc
        refine tv_iload_n C (pc := 12) dX6_operation_12 rfl rfl ?_
        refine tv_aload_n C (pc := 13) dX6_operation_13 rfl rfl ?_
        refine tv_getR C (pc := 14) dX6_operation_14 fl_X6_12 (ts_live (k := 0) (by decide) (by decide) (by decide)) rfl rfl (i2 := (1, 0, 0)) rfl ?_
        refine tv_getR C (pc := 17) dX6_operation_17 fl_X6_82 (ts_live (k := 1) (by decide) (by decide) (by decide)) rfl rfl (i2 := (2, 0, 0)) rfl ?_
        refine tv_iload_n C (pc := 20) dX6_operation_20 rfl rfl ?_
        obtain ⟨hr23, h⟩ := ts_gd h
        refine tv_aaload5 C (pc := 21) dX6_operation_21 (ts_live (k := 2) (by decide) (by decide) (by decide)) rfl hr23 (j := p1.toNatClampNeg) rfl (i2 := (11, 0, p1.toNatClampNeg)) rfl ?_
        refine tv_getI C (pc := 22) dX6_operation_22 fl_X6_138 (ts_live (k := 11) (by decide) (by decide) (ts_vin hr23)) rfl (cd := 0) rfl (by decide) ?_
        refine tv_icmp_ge C (pc := 25) 32 dX6_operation_25 (by decide) (fun hc => ?_) (fun hc => ?_)
        · have h := ts_ifp h hc
          refine tv_iconst C (pc := 32) dX6_operation_32 (v := (0 : Int32)) rfl ?_
          obtain ⟨q24, hq24, h⟩ := ts_bd h
          have Mq24 := (m_X6_requireIndex (D := D) (dT := dT) (sz := sz) (ad := ad) hl (0 : Int32) u q24 hq24)
          rcases q24 with v25 | e26
          · have h := ts_eL h
            refine tv_callS C (pc := 33) dX6_operation_33 yl_X6_71 Mq24 (Nat.le_trans (Nat.le_of_ble_eq_true rfl) hdd) (As := [.inl (.int (0 : Int32))]) rfl ⟨Nat.le_of_ble_eq_true rfl, Nat.le_of_ble_eq_true rfl⟩ (fun _ => Nat.le_of_ble_eq_true rfl) rfl ?_
            refine tv_iload_n C (pc := 36) dX6_operation_36 rfl rfl ?_
            refine tv_if_lt C (pc := 37) 49 dX6_operation_37 (by decide) (fun hc => ?_) (fun hc => ?_)
            · have h := ts_ifp h hc
              refine tv_iconst C (pc := 49) dX6_operation_49 (v := (0 : Int32)) rfl ?_
              obtain ⟨q27, hq27, h⟩ := ts_bd h
              have Mq27 := (m_X6_requireArgument (D := D) (dT := dT) (sz := sz) (ad := ad) hl (0 : Int32) u q27 hq27)
              rcases q27 with v28 | e29
              · have h := ts_eL h
                refine tv_callS C (pc := 50) dX6_operation_50 yl_X6_43 Mq27 (Nat.le_trans (Nat.le_of_ble_eq_true rfl) hdd) (As := [.inl (.int (0 : Int32))]) rfl ⟨Nat.le_of_ble_eq_true rfl, Nat.le_of_ble_eq_true rfl⟩ (fun _ => Nat.le_of_ble_eq_true rfl) rfl ?_
                refine tv_aload_n C (pc := 53) dX6_operation_53 rfl rfl ?_
                refine tv_getR C (pc := 54) dX6_operation_54 fl_X6_12 (ts_live (k := 0) (by decide) (by decide) (by decide)) rfl rfl (i2 := (1, 0, 0)) rfl ?_
                refine tv_getR C (pc := 57) dX6_operation_57 fl_X6_82 (ts_live (k := 1) (by decide) (by decide) (by decide)) rfl rfl (i2 := (2, 0, 0)) rfl ?_
                refine tv_iload_n C (pc := 60) dX6_operation_60 rfl rfl ?_
                obtain ⟨hr30, h⟩ := ts_gd h
                refine tv_aaload5 C (pc := 61) dX6_operation_61 (ts_live (k := 2) (by decide) (by decide) (by decide)) rfl hr30 (j := p1.toNatClampNeg) rfl (i2 := (11, 0, p1.toNatClampNeg)) rfl ?_
                refine tv_iload_n C (pc := 62) dX6_operation_62 rfl rfl ?_
                refine tv_iload_n C (pc := 63) dX6_operation_63 rfl rfl ?_
                obtain ⟨q31, hq31, h⟩ := ts_bd h
                refine tv_callV C (pc := 64) dX6_operation_64 (ci := 5) (q := (RX5, TX5, 10)) rfl yl_X6_139 (m_X5_operationNumber (D := D) (dT := dT) (sz := sz) (ad := ad) hl 0 (by decide) p1.toNatClampNeg (ts_vin hr30) p2 p3 u q31 hq31) (ts_live (k := 11) (by decide) (by decide) (ts_vin hr30)) rfl (Nat.le_trans (Nat.le_of_ble_eq_true rfl) hdd) (As := [.inl (.int p2), .inl (.int p3)]) rfl ⟨Nat.le_of_ble_eq_true rfl, Nat.le_of_ble_eq_true rfl⟩ (fun _ => Nat.le_of_ble_eq_true rfl) rfl ?_
                cases h
                exact tv_iret C (pc := 67) rfl dX6_operation_67 ⟨Nat.le_of_ble_eq_true rfl, Nat.le_of_ble_eq_true rfl⟩
              · have h := ts_eR h
                cases h
                exact tv_callS_thr C (pc := 50) hX dX6_operation_50 yl_X6_43 Mq27 (Nat.le_trans (Nat.le_of_ble_eq_true rfl) hdd) (As := [.inl (.int (0 : Int32))]) rfl ⟨Nat.le_of_ble_eq_true rfl, Nat.le_of_ble_eq_true rfl⟩ (fun _ => Nat.le_of_ble_eq_true rfl) rfl ⟨Nat.le_of_ble_eq_true rfl, Nat.le_of_ble_eq_true rfl⟩
            · have h := ts_ifn h hc
              refine tv_iload_n C (pc := 40) dX6_operation_40 rfl rfl ?_
              refine tv_iconst C (pc := 41) dX6_operation_41 (v := (3 : Int32)) rfl ?_
              refine tv_icmp_gt C (pc := 42) 49 dX6_operation_42 (by decide) (fun hc => ?_) (fun hc => ?_)
              · have h := ts_ifp h hc
                refine tv_iconst C (pc := 49) dX6_operation_49 (v := (0 : Int32)) rfl ?_
                obtain ⟨q32, hq32, h⟩ := ts_bd h
                have Mq32 := (m_X6_requireArgument (D := D) (dT := dT) (sz := sz) (ad := ad) hl (0 : Int32) u q32 hq32)
                rcases q32 with v33 | e34
                · have h := ts_eL h
                  refine tv_callS C (pc := 50) dX6_operation_50 yl_X6_43 Mq32 (Nat.le_trans (Nat.le_of_ble_eq_true rfl) hdd) (As := [.inl (.int (0 : Int32))]) rfl ⟨Nat.le_of_ble_eq_true rfl, Nat.le_of_ble_eq_true rfl⟩ (fun _ => Nat.le_of_ble_eq_true rfl) rfl ?_
                  refine tv_aload_n C (pc := 53) dX6_operation_53 rfl rfl ?_
                  refine tv_getR C (pc := 54) dX6_operation_54 fl_X6_12 (ts_live (k := 0) (by decide) (by decide) (by decide)) rfl rfl (i2 := (1, 0, 0)) rfl ?_
                  refine tv_getR C (pc := 57) dX6_operation_57 fl_X6_82 (ts_live (k := 1) (by decide) (by decide) (by decide)) rfl rfl (i2 := (2, 0, 0)) rfl ?_
                  refine tv_iload_n C (pc := 60) dX6_operation_60 rfl rfl ?_
                  obtain ⟨hr35, h⟩ := ts_gd h
                  refine tv_aaload5 C (pc := 61) dX6_operation_61 (ts_live (k := 2) (by decide) (by decide) (by decide)) rfl hr35 (j := p1.toNatClampNeg) rfl (i2 := (11, 0, p1.toNatClampNeg)) rfl ?_
                  refine tv_iload_n C (pc := 62) dX6_operation_62 rfl rfl ?_
                  refine tv_iload_n C (pc := 63) dX6_operation_63 rfl rfl ?_
                  obtain ⟨q36, hq36, h⟩ := ts_bd h
                  refine tv_callV C (pc := 64) dX6_operation_64 (ci := 5) (q := (RX5, TX5, 10)) rfl yl_X6_139 (m_X5_operationNumber (D := D) (dT := dT) (sz := sz) (ad := ad) hl 0 (by decide) p1.toNatClampNeg (ts_vin hr35) p2 p3 u q36 hq36) (ts_live (k := 11) (by decide) (by decide) (ts_vin hr35)) rfl (Nat.le_trans (Nat.le_of_ble_eq_true rfl) hdd) (As := [.inl (.int p2), .inl (.int p3)]) rfl ⟨Nat.le_of_ble_eq_true rfl, Nat.le_of_ble_eq_true rfl⟩ (fun _ => Nat.le_of_ble_eq_true rfl) rfl ?_
                  cases h
                  exact tv_iret C (pc := 67) rfl dX6_operation_67 ⟨Nat.le_of_ble_eq_true rfl, Nat.le_of_ble_eq_true rfl⟩
                · have h := ts_eR h
                  cases h
                  exact tv_callS_thr C (pc := 50) hX dX6_operation_50 yl_X6_43 Mq32 (Nat.le_trans (Nat.le_of_ble_eq_true rfl) hdd) (As := [.inl (.int (0 : Int32))]) rfl ⟨Nat.le_of_ble_eq_true rfl, Nat.le_of_ble_eq_true rfl⟩ (fun _ => Nat.le_of_ble_eq_true rfl) rfl ⟨Nat.le_of_ble_eq_true rfl, Nat.le_of_ble_eq_true rfl⟩
              · have h := ts_ifn h hc
                refine tv_iconst C (pc := 45) dX6_operation_45 (v := (1 : Int32)) rfl ?_
                refine tv_goto C (pc := 46) 50 dX6_operation_46 (by decide) ?_
                obtain ⟨q37, hq37, h⟩ := ts_bd h
                have Mq37 := (m_X6_requireArgument (D := D) (dT := dT) (sz := sz) (ad := ad) hl (1 : Int32) u q37 hq37)
                rcases q37 with v38 | e39
                · have h := ts_eL h
                  refine tv_callS C (pc := 50) dX6_operation_50 yl_X6_43 Mq37 (Nat.le_trans (Nat.le_of_ble_eq_true rfl) hdd) (As := [.inl (.int (1 : Int32))]) rfl ⟨Nat.le_of_ble_eq_true rfl, Nat.le_of_ble_eq_true rfl⟩ (fun _ => Nat.le_of_ble_eq_true rfl) rfl ?_
                  refine tv_aload_n C (pc := 53) dX6_operation_53 rfl rfl ?_
                  refine tv_getR C (pc := 54) dX6_operation_54 fl_X6_12 (ts_live (k := 0) (by decide) (by decide) (by decide)) rfl rfl (i2 := (1, 0, 0)) rfl ?_
                  refine tv_getR C (pc := 57) dX6_operation_57 fl_X6_82 (ts_live (k := 1) (by decide) (by decide) (by decide)) rfl rfl (i2 := (2, 0, 0)) rfl ?_
                  refine tv_iload_n C (pc := 60) dX6_operation_60 rfl rfl ?_
                  obtain ⟨hr40, h⟩ := ts_gd h
                  refine tv_aaload5 C (pc := 61) dX6_operation_61 (ts_live (k := 2) (by decide) (by decide) (by decide)) rfl hr40 (j := p1.toNatClampNeg) rfl (i2 := (11, 0, p1.toNatClampNeg)) rfl ?_
                  refine tv_iload_n C (pc := 62) dX6_operation_62 rfl rfl ?_
                  refine tv_iload_n C (pc := 63) dX6_operation_63 rfl rfl ?_
                  obtain ⟨q41, hq41, h⟩ := ts_bd h
                  refine tv_callV C (pc := 64) dX6_operation_64 (ci := 5) (q := (RX5, TX5, 10)) rfl yl_X6_139 (m_X5_operationNumber (D := D) (dT := dT) (sz := sz) (ad := ad) hl 0 (by decide) p1.toNatClampNeg (ts_vin hr40) p2 p3 u q41 hq41) (ts_live (k := 11) (by decide) (by decide) (ts_vin hr40)) rfl (Nat.le_trans (Nat.le_of_ble_eq_true rfl) hdd) (As := [.inl (.int p2), .inl (.int p3)]) rfl ⟨Nat.le_of_ble_eq_true rfl, Nat.le_of_ble_eq_true rfl⟩ (fun _ => Nat.le_of_ble_eq_true rfl) rfl ?_
                  cases h
                  exact tv_iret C (pc := 67) rfl dX6_operation_67 ⟨Nat.le_of_ble_eq_true rfl, Nat.le_of_ble_eq_true rfl⟩
                · have h := ts_eR h
                  cases h
                  exact tv_callS_thr C (pc := 50) hX dX6_operation_50 yl_X6_43 Mq37 (Nat.le_trans (Nat.le_of_ble_eq_true rfl) hdd) (As := [.inl (.int (1 : Int32))]) rfl ⟨Nat.le_of_ble_eq_true rfl, Nat.le_of_ble_eq_true rfl⟩ (fun _ => Nat.le_of_ble_eq_true rfl) rfl ⟨Nat.le_of_ble_eq_true rfl, Nat.le_of_ble_eq_true rfl⟩
          · have h := ts_eR h
            cases h
            exact tv_callS_thr C (pc := 33) hX dX6_operation_33 yl_X6_71 Mq24 (Nat.le_trans (Nat.le_of_ble_eq_true rfl) hdd) (As := [.inl (.int (0 : Int32))]) rfl ⟨Nat.le_of_ble_eq_true rfl, Nat.le_of_ble_eq_true rfl⟩ (fun _ => Nat.le_of_ble_eq_true rfl) rfl ⟨Nat.le_of_ble_eq_true rfl, Nat.le_of_ble_eq_true rfl⟩
        · have h := ts_ifn h hc
          refine tv_iconst C (pc := 28) dX6_operation_28 (v := (1 : Int32)) rfl ?_
          refine tv_goto C (pc := 29) 33 dX6_operation_29 (by decide) ?_
          obtain ⟨q42, hq42, h⟩ := ts_bd h
          have Mq42 := (m_X6_requireIndex (D := D) (dT := dT) (sz := sz) (ad := ad) hl (1 : Int32) u q42 hq42)
          rcases q42 with v43 | e44
          · have h := ts_eL h
            refine tv_callS C (pc := 33) dX6_operation_33 yl_X6_71 Mq42 (Nat.le_trans (Nat.le_of_ble_eq_true rfl) hdd) (As := [.inl (.int (1 : Int32))]) rfl ⟨Nat.le_of_ble_eq_true rfl, Nat.le_of_ble_eq_true rfl⟩ (fun _ => Nat.le_of_ble_eq_true rfl) rfl ?_
            refine tv_iload_n C (pc := 36) dX6_operation_36 rfl rfl ?_
            refine tv_if_lt C (pc := 37) 49 dX6_operation_37 (by decide) (fun hc => ?_) (fun hc => ?_)
            · have h := ts_ifp h hc
              refine tv_iconst C (pc := 49) dX6_operation_49 (v := (0 : Int32)) rfl ?_
              obtain ⟨q45, hq45, h⟩ := ts_bd h
              have Mq45 := (m_X6_requireArgument (D := D) (dT := dT) (sz := sz) (ad := ad) hl (0 : Int32) u q45 hq45)
              rcases q45 with v46 | e47
              · have h := ts_eL h
                refine tv_callS C (pc := 50) dX6_operation_50 yl_X6_43 Mq45 (Nat.le_trans (Nat.le_of_ble_eq_true rfl) hdd) (As := [.inl (.int (0 : Int32))]) rfl ⟨Nat.le_of_ble_eq_true rfl, Nat.le_of_ble_eq_true rfl⟩ (fun _ => Nat.le_of_ble_eq_true rfl) rfl ?_
                refine tv_aload_n C (pc := 53) dX6_operation_53 rfl rfl ?_
                refine tv_getR C (pc := 54) dX6_operation_54 fl_X6_12 (ts_live (k := 0) (by decide) (by decide) (by decide)) rfl rfl (i2 := (1, 0, 0)) rfl ?_
                refine tv_getR C (pc := 57) dX6_operation_57 fl_X6_82 (ts_live (k := 1) (by decide) (by decide) (by decide)) rfl rfl (i2 := (2, 0, 0)) rfl ?_
                refine tv_iload_n C (pc := 60) dX6_operation_60 rfl rfl ?_
                obtain ⟨hr48, h⟩ := ts_gd h
                refine tv_aaload5 C (pc := 61) dX6_operation_61 (ts_live (k := 2) (by decide) (by decide) (by decide)) rfl hr48 (j := p1.toNatClampNeg) rfl (i2 := (11, 0, p1.toNatClampNeg)) rfl ?_
                refine tv_iload_n C (pc := 62) dX6_operation_62 rfl rfl ?_
                refine tv_iload_n C (pc := 63) dX6_operation_63 rfl rfl ?_
                obtain ⟨q49, hq49, h⟩ := ts_bd h
                refine tv_callV C (pc := 64) dX6_operation_64 (ci := 5) (q := (RX5, TX5, 10)) rfl yl_X6_139 (m_X5_operationNumber (D := D) (dT := dT) (sz := sz) (ad := ad) hl 0 (by decide) p1.toNatClampNeg (ts_vin hr48) p2 p3 u q49 hq49) (ts_live (k := 11) (by decide) (by decide) (ts_vin hr48)) rfl (Nat.le_trans (Nat.le_of_ble_eq_true rfl) hdd) (As := [.inl (.int p2), .inl (.int p3)]) rfl ⟨Nat.le_of_ble_eq_true rfl, Nat.le_of_ble_eq_true rfl⟩ (fun _ => Nat.le_of_ble_eq_true rfl) rfl ?_
                cases h
                exact tv_iret C (pc := 67) rfl dX6_operation_67 ⟨Nat.le_of_ble_eq_true rfl, Nat.le_of_ble_eq_true rfl⟩
              · have h := ts_eR h
                cases h
                exact tv_callS_thr C (pc := 50) hX dX6_operation_50 yl_X6_43 Mq45 (Nat.le_trans (Nat.le_of_ble_eq_true rfl) hdd) (As := [.inl (.int (0 : Int32))]) rfl ⟨Nat.le_of_ble_eq_true rfl, Nat.le_of_ble_eq_true rfl⟩ (fun _ => Nat.le_of_ble_eq_true rfl) rfl ⟨Nat.le_of_ble_eq_true rfl, Nat.le_of_ble_eq_true rfl⟩
            · have h := ts_ifn h hc
              refine tv_iload_n C (pc := 40) dX6_operation_40 rfl rfl ?_
              refine tv_iconst C (pc := 41) dX6_operation_41 (v := (3 : Int32)) rfl ?_
              refine tv_icmp_gt C (pc := 42) 49 dX6_operation_42 (by decide) (fun hc => ?_) (fun hc => ?_)
              · have h := ts_ifp h hc
                refine tv_iconst C (pc := 49) dX6_operation_49 (v := (0 : Int32)) rfl ?_
                obtain ⟨q50, hq50, h⟩ := ts_bd h
                have Mq50 := (m_X6_requireArgument (D := D) (dT := dT) (sz := sz) (ad := ad) hl (0 : Int32) u q50 hq50)
                rcases q50 with v51 | e52
                · have h := ts_eL h
                  refine tv_callS C (pc := 50) dX6_operation_50 yl_X6_43 Mq50 (Nat.le_trans (Nat.le_of_ble_eq_true rfl) hdd) (As := [.inl (.int (0 : Int32))]) rfl ⟨Nat.le_of_ble_eq_true rfl, Nat.le_of_ble_eq_true rfl⟩ (fun _ => Nat.le_of_ble_eq_true rfl) rfl ?_
                  refine tv_aload_n C (pc := 53) dX6_operation_53 rfl rfl ?_
                  refine tv_getR C (pc := 54) dX6_operation_54 fl_X6_12 (ts_live (k := 0) (by decide) (by decide) (by decide)) rfl rfl (i2 := (1, 0, 0)) rfl ?_
                  refine tv_getR C (pc := 57) dX6_operation_57 fl_X6_82 (ts_live (k := 1) (by decide) (by decide) (by decide)) rfl rfl (i2 := (2, 0, 0)) rfl ?_
                  refine tv_iload_n C (pc := 60) dX6_operation_60 rfl rfl ?_
                  obtain ⟨hr53, h⟩ := ts_gd h
                  refine tv_aaload5 C (pc := 61) dX6_operation_61 (ts_live (k := 2) (by decide) (by decide) (by decide)) rfl hr53 (j := p1.toNatClampNeg) rfl (i2 := (11, 0, p1.toNatClampNeg)) rfl ?_
                  refine tv_iload_n C (pc := 62) dX6_operation_62 rfl rfl ?_
                  refine tv_iload_n C (pc := 63) dX6_operation_63 rfl rfl ?_
                  obtain ⟨q54, hq54, h⟩ := ts_bd h
                  refine tv_callV C (pc := 64) dX6_operation_64 (ci := 5) (q := (RX5, TX5, 10)) rfl yl_X6_139 (m_X5_operationNumber (D := D) (dT := dT) (sz := sz) (ad := ad) hl 0 (by decide) p1.toNatClampNeg (ts_vin hr53) p2 p3 u q54 hq54) (ts_live (k := 11) (by decide) (by decide) (ts_vin hr53)) rfl (Nat.le_trans (Nat.le_of_ble_eq_true rfl) hdd) (As := [.inl (.int p2), .inl (.int p3)]) rfl ⟨Nat.le_of_ble_eq_true rfl, Nat.le_of_ble_eq_true rfl⟩ (fun _ => Nat.le_of_ble_eq_true rfl) rfl ?_
                  cases h
                  exact tv_iret C (pc := 67) rfl dX6_operation_67 ⟨Nat.le_of_ble_eq_true rfl, Nat.le_of_ble_eq_true rfl⟩
                · have h := ts_eR h
                  cases h
                  exact tv_callS_thr C (pc := 50) hX dX6_operation_50 yl_X6_43 Mq50 (Nat.le_trans (Nat.le_of_ble_eq_true rfl) hdd) (As := [.inl (.int (0 : Int32))]) rfl ⟨Nat.le_of_ble_eq_true rfl, Nat.le_of_ble_eq_true rfl⟩ (fun _ => Nat.le_of_ble_eq_true rfl) rfl ⟨Nat.le_of_ble_eq_true rfl, Nat.le_of_ble_eq_true rfl⟩
              · have h := ts_ifn h hc
                refine tv_iconst C (pc := 45) dX6_operation_45 (v := (1 : Int32)) rfl ?_
                refine tv_goto C (pc := 46) 50 dX6_operation_46 (by decide) ?_
                obtain ⟨q55, hq55, h⟩ := ts_bd h
                have Mq55 := (m_X6_requireArgument (D := D) (dT := dT) (sz := sz) (ad := ad) hl (1 : Int32) u q55 hq55)
                rcases q55 with v56 | e57
                · have h := ts_eL h
                  refine tv_callS C (pc := 50) dX6_operation_50 yl_X6_43 Mq55 (Nat.le_trans (Nat.le_of_ble_eq_true rfl) hdd) (As := [.inl (.int (1 : Int32))]) rfl ⟨Nat.le_of_ble_eq_true rfl, Nat.le_of_ble_eq_true rfl⟩ (fun _ => Nat.le_of_ble_eq_true rfl) rfl ?_
                  refine tv_aload_n C (pc := 53) dX6_operation_53 rfl rfl ?_
                  refine tv_getR C (pc := 54) dX6_operation_54 fl_X6_12 (ts_live (k := 0) (by decide) (by decide) (by decide)) rfl rfl (i2 := (1, 0, 0)) rfl ?_
                  refine tv_getR C (pc := 57) dX6_operation_57 fl_X6_82 (ts_live (k := 1) (by decide) (by decide) (by decide)) rfl rfl (i2 := (2, 0, 0)) rfl ?_
                  refine tv_iload_n C (pc := 60) dX6_operation_60 rfl rfl ?_
                  obtain ⟨hr58, h⟩ := ts_gd h
                  refine tv_aaload5 C (pc := 61) dX6_operation_61 (ts_live (k := 2) (by decide) (by decide) (by decide)) rfl hr58 (j := p1.toNatClampNeg) rfl (i2 := (11, 0, p1.toNatClampNeg)) rfl ?_
                  refine tv_iload_n C (pc := 62) dX6_operation_62 rfl rfl ?_
                  refine tv_iload_n C (pc := 63) dX6_operation_63 rfl rfl ?_
                  obtain ⟨q59, hq59, h⟩ := ts_bd h
                  refine tv_callV C (pc := 64) dX6_operation_64 (ci := 5) (q := (RX5, TX5, 10)) rfl yl_X6_139 (m_X5_operationNumber (D := D) (dT := dT) (sz := sz) (ad := ad) hl 0 (by decide) p1.toNatClampNeg (ts_vin hr58) p2 p3 u q59 hq59) (ts_live (k := 11) (by decide) (by decide) (ts_vin hr58)) rfl (Nat.le_trans (Nat.le_of_ble_eq_true rfl) hdd) (As := [.inl (.int p2), .inl (.int p3)]) rfl ⟨Nat.le_of_ble_eq_true rfl, Nat.le_of_ble_eq_true rfl⟩ (fun _ => Nat.le_of_ble_eq_true rfl) rfl ?_
                  cases h
                  exact tv_iret C (pc := 67) rfl dX6_operation_67 ⟨Nat.le_of_ble_eq_true rfl, Nat.le_of_ble_eq_true rfl⟩
                · have h := ts_eR h
                  cases h
                  exact tv_callS_thr C (pc := 50) hX dX6_operation_50 yl_X6_43 Mq55 (Nat.le_trans (Nat.le_of_ble_eq_true rfl) hdd) (As := [.inl (.int (1 : Int32))]) rfl ⟨Nat.le_of_ble_eq_true rfl, Nat.le_of_ble_eq_true rfl⟩ (fun _ => Nat.le_of_ble_eq_true rfl) rfl ⟨Nat.le_of_ble_eq_true rfl, Nat.le_of_ble_eq_true rfl⟩
          · have h := ts_eR h
            cases h
            exact tv_callS_thr C (pc := 33) hX dX6_operation_33 yl_X6_71 Mq42 (Nat.le_trans (Nat.le_of_ble_eq_true rfl) hdd) (As := [.inl (.int (1 : Int32))]) rfl ⟨Nat.le_of_ble_eq_true rfl, Nat.le_of_ble_eq_true rfl⟩ (fun _ => Nat.le_of_ble_eq_true rfl) rfl ⟨Nat.le_of_ble_eq_true rfl, Nat.le_of_ble_eq_true rfl⟩
    · have h := ts_eR h
      cases h
      exact tv_callS_thr C (pc := 5) hX dX6_operation_5 yl_X6_71 Mq2 (Nat.le_trans (Nat.le_of_ble_eq_true rfl) hdd) (As := [.inl (.int q1)]) rfl ⟨Nat.le_of_ble_eq_true rfl, Nat.le_of_ble_eq_true rfl⟩ (fun _ => Nat.le_of_ble_eq_true rfl) rfl ⟨Nat.le_of_ble_eq_true rfl, Nat.le_of_ble_eq_true rfl⟩
set_option maxRecDepth 100000 in
set_option maxHeartbeats 4000000 in
theorem m_X6_versionCount {l : Launch} {D : va_G} {dT : Nat → ClassId} {sz : Nat} {ad : ts_I → Nat} (hl : l.stackTraces = false) (p1 : Int32) (u : ts_Mem) (r : (Int32 ⊕ String)) (h : f_X6_versionCount p1 u = some r) : ts_M l D dT sz yX6_versionCount wX6_versionCount 1 1 6 ad ts_lv ts_R0 [.inr (0, 0, 0), .inl (.int p1)] u (ts_oI r) u := by
    unfold f_X6_versionCount at h
    refine ts_enter hl (by decide) rfl rfl (Nat.le_of_ble_eq_true rfl) ?_
    intro p e s m args below meth c C hX hnm
    have C : ts_CX D dT sz p l (ts_rm 1 1 6) s m args meth c RX6 cX6_versionCount 2 (some .int) 1 := C
    have hdd : 1 ≤ 1 := Nat.le_refl _
    refine tv_iload_n C (pc := 0) dX6_versionCount_0 rfl rfl ?_
    obtain ⟨q1, hq1, h⟩ := ts_bd h
    refine tv_callS C (pc := 1) dX6_versionCount_1 yl_X6_68 (m_X6_isItem (D := D) (dT := dT) (sz := sz) (ad := ad) hl p1 u q1 hq1) (Nat.le_trans (Nat.le_of_ble_eq_true rfl) hdd) (As := [.inl (.int p1)]) rfl ⟨Nat.le_of_ble_eq_true rfl, Nat.le_of_ble_eq_true rfl⟩ (fun _ => Nat.le_of_ble_eq_true rfl) rfl ?_
    obtain ⟨q2, hq2, h⟩ := ts_bd h
    have Mq2 := (m_X6_requireIndex (D := D) (dT := dT) (sz := sz) (ad := ad) hl q1 u q2 hq2)
    rcases q2 with v3 | e4
    · have h := ts_eL h
      refine tv_callS C (pc := 4) dX6_versionCount_4 yl_X6_71 Mq2 (Nat.le_trans (Nat.le_of_ble_eq_true rfl) hdd) (As := [.inl (.int q1)]) rfl ⟨Nat.le_of_ble_eq_true rfl, Nat.le_of_ble_eq_true rfl⟩ (fun _ => Nat.le_of_ble_eq_true rfl) rfl ?_
      refine tv_aload_n C (pc := 7) dX6_versionCount_7 rfl rfl ?_
      refine tv_getR C (pc := 8) dX6_versionCount_8 fl_X6_12 (ts_live (k := 0) (by decide) (by decide) (by decide)) rfl rfl (i2 := (1, 0, 0)) rfl ?_
      refine tv_getR C (pc := 11) dX6_versionCount_11 fl_X6_142 (ts_live (k := 1) (by decide) (by decide) (by decide)) rfl rfl (i2 := (3, 0, 0)) rfl ?_
      refine tv_iload_n C (pc := 14) dX6_versionCount_14 rfl rfl ?_
      obtain ⟨hr5, h⟩ := ts_gd h
      refine tv_aaload6 C (pc := 15) dX6_versionCount_15 (ts_live (k := 3) (by decide) (by decide) (by decide)) rfl hr5 (j := p1.toNatClampNeg) rfl (i2 := (16, 0, p1.toNatClampNeg)) rfl ?_
      refine tv_getI C (pc := 16) dX6_versionCount_16 fl_X6_146 (ts_live (k := 16) (by decide) (by decide) (ts_vin hr5)) rfl (cd := 0) rfl (by decide) ?_
      cases h
      exact tv_iret C (pc := 19) rfl dX6_versionCount_19 ⟨Nat.le_of_ble_eq_true rfl, Nat.le_of_ble_eq_true rfl⟩
    · have h := ts_eR h
      cases h
      exact tv_callS_thr C (pc := 4) hX dX6_versionCount_4 yl_X6_71 Mq2 (Nat.le_trans (Nat.le_of_ble_eq_true rfl) hdd) (As := [.inl (.int q1)]) rfl ⟨Nat.le_of_ble_eq_true rfl, Nat.le_of_ble_eq_true rfl⟩ (fun _ => Nat.le_of_ble_eq_true rfl) rfl ⟨Nat.le_of_ble_eq_true rfl, Nat.le_of_ble_eq_true rfl⟩
