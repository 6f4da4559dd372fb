set_option maxRecDepth 100000 in
set_option maxHeartbeats 4000000 in
theorem m_X3_takeSign {l : Launch} {D : va_G} {dT : Nat → ClassId} {sz : Nat} {ad : ts_I → Nat} (hl : l.stackTraces = false) (p1 : Int32) (u : ts_Mem) (r : (Int32 × ts_Mem)) (h : f_X3_takeSign p1 u = some r) : ts_M l D dT sz yX3_takeSign wX3_takeSign 0 0 0 ad ts_lv ts_R0 [.inr (21, 0, 0), .inl (.int p1)] u (.inl (some (.int r.1))) r.2 := by
    unfold f_X3_takeSign at h
    refine ts_enter hl (by decide) rfl rfl (Nat.le_of_ble_eq_true rfl) ?_
    intro p e s m args below meth c C hX hnm
    have C : ts_CX D dT sz p l (ts_rm 0 0 0) s m args meth c RX3 cX3_takeSign 2 (some .boolean) 0 := C
    have hdd : 0 ≤ 0 := Nat.le_refl _
    refine tv_aload_n C (pc := 0) dX3_takeSign_0 rfl rfl ?_
    refine tv_getI C (pc := 1) dX3_takeSign_1 fl_X3_32 (ts_live (k := 21) (by decide) (by decide) (by decide)) rfl (cd := 0) rfl (by decide) ?_
    refine tv_aload_n C (pc := 4) dX3_takeSign_4 rfl rfl ?_
    refine tv_getI C (pc := 5) dX3_takeSign_5 fl_X3_35 (ts_live (k := 21) (by decide) (by decide) (by decide)) rfl (cd := 0) rfl (by decide) ?_
    refine tv_icmp_ge C (pc := 8) 36 dX3_takeSign_8 (by decide) (fun hc => ?_) (fun hc => ?_)
    · have h := ts_ifp h hc
      refine tv_iconst C (pc := 36) dX3_takeSign_36 (v := (0 : Int32)) rfl ?_
      cases h
      exact tv_zret C (pc := 37) (v := (0 : Int32)) rfl ts_nz0 dX3_takeSign_37 ⟨Nat.le_of_ble_eq_true rfl, Nat.le_of_ble_eq_true rfl⟩
    · have h := ts_ifn h hc
      refine tv_aload_n C (pc := 11) dX3_takeSign_11 rfl rfl ?_
      refine tv_getR C (pc := 12) dX3_takeSign_12 fl_X3_9 (ts_live (k := 21) (by decide) (by decide) (by decide)) rfl rfl (i2 := (22, 0, 0)) rfl ?_
      refine tv_aload_n C (pc := 15) dX3_takeSign_15 rfl rfl ?_
      refine tv_getI C (pc := 16) dX3_takeSign_16 fl_X3_32 (ts_live (k := 21) (by decide) (by decide) (by decide)) rfl (cd := 0) rfl (by decide) ?_
      obtain ⟨hr1, h⟩ := ts_gd h
      refine tv_caload C (pc := 19) dX3_takeSign_19 (ts_live (k := 22) (by decide) (by decide) (by decide)) rfl hr1 (j := ((ts_gI u (21, 0, 0) 7)).toNatClampNeg) rfl ?_
      refine tv_iload_n C (pc := 20) dX3_takeSign_20 rfl rfl ?_
      refine tv_icmp_ne C (pc := 21) 36 dX3_takeSign_21 (by decide) (fun hc => ?_) (fun hc => ?_)
      · have h := ts_ifn h hc
        refine tv_iconst C (pc := 36) dX3_takeSign_36 (v := (0 : Int32)) rfl ?_
        cases h
        exact tv_zret C (pc := 37) (v := (0 : Int32)) rfl ts_nz0 dX3_takeSign_37 ⟨Nat.le_of_ble_eq_true rfl, Nat.le_of_ble_eq_true rfl⟩
      · have h := ts_ifp h hc
        refine tv_aload_n C (pc := 24) dX3_takeSign_24 rfl rfl ?_
        refine tv_dup C (pc := 25) dX3_takeSign_25 (fun _ => rfl) ?_
        refine tv_getI C (pc := 26) dX3_takeSign_26 fl_X3_32 (ts_live (k := 21) (by decide) (by decide) (by decide)) rfl (cd := 0) rfl (by decide) ?_
        refine tv_iconst C (pc := 29) dX3_takeSign_29 (v := (1 : Int32)) rfl ?_
        refine tv_iadd C (pc := 30) dX3_takeSign_30 ?_
        refine tv_putI C (pc := 31) dX3_takeSign_31 fp_X3_32 (ts_live (k := 21) (by decide) (by decide) (by decide)) rfl (cd := 0) rfl (by decide) rfl rfl ?_
        refine tv_nu (fun u2 hu2 => ?_)
        have h := ts_lt h hu2
        refine tv_iconst C (pc := 34) dX3_takeSign_34 (v := (1 : Int32)) rfl ?_
        cases h
        exact tv_zret C (pc := 35) (v := (1 : Int32)) rfl ts_nz1 dX3_takeSign_35 ⟨Nat.le_of_ble_eq_true rfl, Nat.le_of_ble_eq_true rfl⟩
set_option maxRecDepth 100000 in
set_option maxHeartbeats 4000000 in
theorem m_X3_digitHere {l : Launch} {D : va_G} {dT : Nat → ClassId} {sz : Nat} {ad : ts_I → Nat} (hl : l.stackTraces = false)  (u : ts_Mem) (r : Int32) (h : f_X3_digitHere  u = some r) : ts_M l D dT sz yX3_digitHere wX3_digitHere 0 0 0 ad ts_lv ts_R0 [.inr (21, 0, 0)] u (.inl (some (.int r))) u := by
    unfold f_X3_digitHere at h
    refine ts_enter hl (by decide) rfl rfl (Nat.le_of_ble_eq_true rfl) ?_
    intro p e s m args below meth c C hX hnm
    have C : ts_CX D dT sz p l (ts_rm 0 0 0) s m args meth c RX3 cX3_digitHere 1 (some .int) 0 := C
    have hdd : 0 ≤ 0 := Nat.le_refl _
    refine tv_aload_n C (pc := 0) dX3_digitHere_0 rfl rfl ?_
    refine tv_getI C (pc := 1) dX3_digitHere_1 fl_X3_32 (ts_live (k := 21) (by decide) (by decide) (by decide)) rfl (cd := 0) rfl (by decide) ?_
    refine tv_aload_n C (pc := 4) dX3_digitHere_4 rfl rfl ?_
    refine tv_getI C (pc := 5) dX3_digitHere_5 fl_X3_35 (ts_live (k := 21) (by decide) (by decide) (by decide)) rfl (cd := 0) rfl (by decide) ?_
    refine tv_icmp_ge C (pc := 8) 52 dX3_digitHere_8 (by decide) (fun hc => ?_) (fun hc => ?_)
    · have h := ts_ifp h hc
      refine tv_iconst C (pc := 52) dX3_digitHere_52 (v := (-1 : Int32)) rfl ?_
      cases h
      exact tv_iret C (pc := 53) rfl dX3_digitHere_53 ⟨Nat.le_of_ble_eq_true rfl, Nat.le_of_ble_eq_true rfl⟩
    · have h := ts_ifn h hc
      refine tv_aload_n C (pc := 11) dX3_digitHere_11 rfl rfl ?_
      refine tv_getR C (pc := 12) dX3_digitHere_12 fl_X3_9 (ts_live (k := 21) (by decide) (by decide) (by decide)) rfl rfl (i2 := (22, 0, 0)) rfl ?_
      refine tv_aload_n C (pc := 15) dX3_digitHere_15 rfl rfl ?_
      refine tv_getI C (pc := 16) dX3_digitHere_16 fl_X3_32 (ts_live (k := 21) (by decide) (by decide) (by decide)) rfl (cd := 0) rfl (by decide) ?_
      obtain ⟨hr1, h⟩ := ts_gd h
      refine tv_caload C (pc := 19) dX3_digitHere_19 (ts_live (k := 22) (by decide) (by decide) (by decide)) rfl hr1 (j := ((ts_gI u (21, 0, 0) 7)).toNatClampNeg) rfl ?_
      refine tv_bipush C (pc := 20) dX3_digitHere_20 (v := (48 : Int32)) rfl ?_
      refine tv_icmp_lt C (pc := 22) 52 dX3_digitHere_22 (by decide) (fun hc => ?_) (fun hc => ?_)
      · have h := ts_ifp h hc
        refine tv_iconst C (pc := 52) dX3_digitHere_52 (v := (-1 : Int32)) rfl ?_
        cases h
        exact tv_iret C (pc := 53) rfl dX3_digitHere_53 ⟨Nat.le_of_ble_eq_true rfl, Nat.le_of_ble_eq_true rfl⟩
      · have h := ts_ifn h hc
        refine tv_aload_n C (pc := 25) dX3_digitHere_25 rfl rfl ?_
        refine tv_getR C (pc := 26) dX3_digitHere_26 fl_X3_9 (ts_live (k := 21) (by decide) (by decide) (by decide)) rfl rfl (i2 := (22, 0, 0)) rfl ?_
        refine tv_aload_n C (pc := 29) dX3_digitHere_29 rfl rfl ?_
        refine tv_getI C (pc := 30) dX3_digitHere_30 fl_X3_32 (ts_live (k := 21) (by decide) (by decide) (by decide)) rfl (cd := 0) rfl (by decide) ?_
        obtain ⟨hr2, h⟩ := ts_gd h
        refine tv_caload C (pc := 33) dX3_digitHere_33 (ts_live (k := 22) (by decide) (by decide) (by decide)) rfl hr2 (j := ((ts_gI u (21, 0, 0) 7)).toNatClampNeg) rfl ?_
        refine tv_bipush C (pc := 34) dX3_digitHere_34 (v := (57 : Int32)) rfl ?_
        refine tv_icmp_gt C (pc := 36) 52 dX3_digitHere_36 (by decide) (fun hc => ?_) (fun hc => ?_)
        · have h := ts_ifp h hc
          refine tv_iconst C (pc := 52) dX3_digitHere_52 (v := (-1 : Int32)) rfl ?_
          cases h
          exact tv_iret C (pc := 53) rfl dX3_digitHere_53 ⟨Nat.le_of_ble_eq_true rfl, Nat.le_of_ble_eq_true rfl⟩
        · have h := ts_ifn h hc
          refine tv_aload_n C (pc := 39) dX3_digitHere_39 rfl rfl ?_
          refine tv_getR C (pc := 40) dX3_digitHere_40 fl_X3_9 (ts_live (k := 21) (by decide) (by decide) (by decide)) rfl rfl (i2 := (22, 0, 0)) rfl ?_
          refine tv_aload_n C (pc := 43) dX3_digitHere_43 rfl rfl ?_
          refine tv_getI C (pc := 44) dX3_digitHere_44 fl_X3_32 (ts_live (k := 21) (by decide) (by decide) (by decide)) rfl (cd := 0) rfl (by decide) ?_
          obtain ⟨hr3, h⟩ := ts_gd h
          refine tv_caload C (pc := 47) dX3_digitHere_47 (ts_live (k := 22) (by decide) (by decide) (by decide)) rfl hr3 (j := ((ts_gI u (21, 0, 0) 7)).toNatClampNeg) rfl ?_
          refine tv_bipush C (pc := 48) dX3_digitHere_48 (v := (48 : Int32)) rfl ?_
          refine tv_isub C (pc := 50) dX3_digitHere_50 ?_
          cases h
          exact tv_iret C (pc := 51) rfl dX3_digitHere_51 ⟨Nat.le_of_ble_eq_true rfl, Nat.le_of_ble_eq_true rfl⟩
set_option maxRecDepth 100000 in
set_option maxHeartbeats 4000000 in
theorem m_X3_takeItem {l : Launch} {D : va_G} {dT : Nat → ClassId} {sz : Nat} {ad : ts_I → Nat} (hl : l.stackTraces = false)  (u : ts_Mem) (r : (Int32 × ts_Mem)) (h : f_X3_takeItem  u = some r) : ts_M l D dT sz yX3_takeItem wX3_takeItem 1 0 0 ad ts_lv ts_R0 [.inr (21, 0, 0)] u (.inl (some (.int r.1))) r.2 := by
    unfold f_X3_takeItem at h
    refine ts_enter hl (by decide) rfl rfl (Nat.le_of_ble_eq_true rfl) ?_
    intro p e s m args below meth c C hX hnm
    have C : ts_CX D dT sz p l (ts_rm 1 0 0) s m args meth c RX3 cX3_takeItem 2 (some .int) 1 := C
    have hdd : 1 ≤ 1 := Nat.le_refl _
    refine tv_aload_n C (pc := 0) dX3_takeItem_0 rfl rfl ?_
    obtain ⟨q1, hq1, h⟩ := ts_bd h
    refine tv_callV C (pc := 1) dX3_takeItem_1 (ci := 3) (q := (RX3, TX3, 8)) rfl yl_X3_63 (m_X3_digitHere (D := D) (dT := dT) (sz := sz) (ad := ad) hl  u q1 hq1) (ts_live (k := 21) (by decide) (by decide) (by decide)) rfl (Nat.le_trans (Nat.le_of_ble_eq_true rfl) hdd) (As := []) rfl ⟨Nat.le_of_ble_eq_true rfl, Nat.le_of_ble_eq_true rfl⟩ (fun _ => Nat.le_of_ble_eq_true rfl) rfl ?_
    refine tv_istore_n C (pc := 4) dX3_takeItem_4 (L' := [some (.inr (21, 0, 0)), some (.inl (.int q1))]) rfl (by decide) rfl rfl ?_
    refine tv_iload_n C (pc := 5) dX3_takeItem_5 rfl rfl ?_
    refine tv_if_lt C (pc := 6) 15 dX3_takeItem_6 (by decide) (fun hc => ?_) (fun hc => ?_)
    · have h := ts_ifp h hc
      refine tv_iconst C (pc := 15) dX3_takeItem_15 (v := (-1 : Int32)) rfl ?_
      cases h
      exact tv_iret C (pc := 16) rfl dX3_takeItem_16 ⟨Nat.le_of_ble_eq_true rfl, Nat.le_of_ble_eq_true rfl⟩
    · have h := ts_ifn h hc
      refine tv_iload_n C (pc := 9) dX3_takeItem_9 rfl rfl ?_
      refine tv_bipush C (pc := 10) dX3_takeItem_10 (v := (8 : Int32)) rfl ?_
      refine tv_icmp_lt C (pc := 12) 17 dX3_takeItem_12 (by decide) (fun hc => ?_) (fun hc => ?_)
      · have h := ts_ifp h hc
        refine tv_aload_n C (pc := 17) dX3_takeItem_17 rfl rfl ?_
        refine tv_dup C (pc := 18) dX3_takeItem_18 (fun _ => rfl) ?_
        refine tv_getI C (pc := 19) dX3_takeItem_19 fl_X3_32 (ts_live (k := 21) (by decide) (by decide) (by decide)) rfl (cd := 0) rfl (by decide) ?_
        refine tv_iconst C (pc := 22) dX3_takeItem_22 (v := (1 : Int32)) rfl ?_
        refine tv_iadd C (pc := 23) dX3_takeItem_23 ?_
        refine tv_putI C (pc := 24) dX3_takeItem_24 fp_X3_32 (ts_live (k := 21) (by decide) (by decide) (by decide)) rfl (cd := 0) rfl (by decide) rfl rfl ?_
        refine tv_nu (fun u2 hu2 => ?_)
        have h := ts_lt h hu2
        refine tv_iload_n C (pc := 27) dX3_takeItem_27 rfl rfl ?_
        cases h
        exact tv_iret C (pc := 28) rfl dX3_takeItem_28 ⟨Nat.le_of_ble_eq_true rfl, Nat.le_of_ble_eq_true rfl⟩
      · have h := ts_ifn h hc
        refine tv_iconst C (pc := 15) dX3_takeItem_15 (v := (-1 : Int32)) rfl ?_
        cases h
        exact tv_iret C (pc := 16) rfl dX3_takeItem_16 ⟨Nat.le_of_ble_eq_true rfl, Nat.le_of_ble_eq_true rfl⟩
set_option maxRecDepth 100000 in
set_option maxHeartbeats 4000000 in
theorem m_X3_keepOperation {l : Launch} {D : va_G} {dT : Nat → ClassId} {sz : Nat} {ad : ts_I → Nat} (hl : l.stackTraces = false) (p1 : Int32) (p2 : Int32) (p3 : Int32) (u : ts_Mem) (r : (Int32 × ts_Mem)) (h : f_X3_keepOperation p1 p2 p3 u = some r) : ts_M l D dT sz yX3_keepOperation wX3_keepOperation 0 0 0 ad ts_lv ts_R0 [.inr (21, 0, 0), .inl (.int p1), .inl (.int p2), .inl (.int p3)] u (.inl (some (.int r.1))) r.2 := by
    unfold f_X3_keepOperation at h
    refine ts_enter hl (by decide) rfl rfl (Nat.le_of_ble_eq_true rfl) ?_
    intro p e s m args below meth c C hX hnm
    have C : ts_CX D dT sz p l (ts_rm 0 0 0) s m args meth c RX3 cX3_keepOperation 4 (some .boolean) 0 := C
    have hdd : 0 ≤ 0 := Nat.le_refl _
    refine tv_aload_n C (pc := 0) dX3_keepOperation_0 rfl rfl ?_
    refine tv_getI C (pc := 1) dX3_keepOperation_1 fl_X3_25 (ts_live (k := 21) (by decide) (by decide) (by decide)) rfl (cd := 0) rfl (by decide) ?_
    refine tv_bipush C (pc := 4) dX3_keepOperation_4 (v := (20 : Int32)) rfl ?_
    refine tv_icmp_lt C (pc := 6) 11 dX3_keepOperation_6 (by decide) (fun hc => ?_) (fun hc => ?_)
    · have h := ts_ifp h hc
      refine tv_aload_n C (pc := 11) dX3_keepOperation_11 rfl rfl ?_
      refine tv_getR C (pc := 12) dX3_keepOperation_12 fl_X3_15 (ts_live (k := 21) (by decide) (by decide) (by decide)) rfl rfl (i2 := (23, 0, 0)) rfl ?_
      refine tv_aload_n C (pc := 15) dX3_keepOperation_15 rfl rfl ?_
      refine tv_getI C (pc := 16) dX3_keepOperation_16 fl_X3_25 (ts_live (k := 21) (by decide) (by decide) (by decide)) rfl (cd := 0) rfl (by decide) ?_
      refine tv_iload_n C (pc := 19) dX3_keepOperation_19 rfl rfl ?_
      obtain ⟨hr1, h⟩ := ts_gd h
      refine tv_iastore C (pc := 20) dX3_keepOperation_20 (ts_live (k := 23) (by decide) (by decide) (by decide)) rfl hr1 (j := ((ts_gI u (21, 0, 0) 2)).toNatClampNeg) rfl ?_
      refine tv_nu (fun u2 hu2 => ?_)
      have h := ts_lt h hu2
      refine tv_aload_n C (pc := 21) dX3_keepOperation_21 rfl rfl ?_
      refine tv_getR C (pc := 22) dX3_keepOperation_22 fl_X3_19 (ts_live (k := 21) (by decide) (by decide) (by decide)) rfl rfl (i2 := (24, 0, 0)) rfl ?_
      refine tv_aload_n C (pc := 25) dX3_keepOperation_25 rfl rfl ?_
      refine tv_getI C (pc := 26) dX3_keepOperation_26 fl_X3_25 (ts_live (k := 21) (by decide) (by decide) (by decide)) rfl (cd := 0) rfl (by decide) ?_
      refine tv_iload_n C (pc := 29) dX3_keepOperation_29 rfl rfl ?_
      obtain ⟨hr3, h⟩ := ts_gd h
      refine tv_iastore C (pc := 30) dX3_keepOperation_30 (ts_live (k := 24) (by decide) (by decide) (by decide)) rfl hr3 (j := ((ts_gI u2 (21, 0, 0) 2)).toNatClampNeg) rfl ?_
      refine tv_nu (fun u4 hu4 => ?_)
      have h := ts_lt h hu4
      refine tv_aload_n C (pc := 31) dX3_keepOperation_31 rfl rfl ?_
      refine tv_getR C (pc := 32) dX3_keepOperation_32 fl_X3_22 (ts_live (k := 21) (by decide) (by decide) (by decide)) rfl rfl (i2 := (25, 0, 0)) rfl ?_
      refine tv_aload_n C (pc := 35) dX3_keepOperation_35 rfl rfl ?_
      refine tv_getI C (pc := 36) dX3_keepOperation_36 fl_X3_25 (ts_live (k := 21) (by decide) (by decide) (by decide)) rfl (cd := 0) rfl (by decide) ?_
      refine tv_iload_n C (pc := 39) dX3_keepOperation_39 rfl rfl ?_
      obtain ⟨hr5, h⟩ := ts_gd h
      refine tv_iastore C (pc := 40) dX3_keepOperation_40 (ts_live (k := 25) (by decide) (by decide) (by decide)) rfl hr5 (j := ((ts_gI u4 (21, 0, 0) 2)).toNatClampNeg) rfl ?_
      refine tv_nu (fun u6 hu6 => ?_)
      have h := ts_lt h hu6
      refine tv_aload_n C (pc := 41) dX3_keepOperation_41 rfl rfl ?_
      refine tv_dup C (pc := 42) dX3_keepOperation_42 (fun _ => rfl) ?_
      refine tv_getI C (pc := 43) dX3_keepOperation_43 fl_X3_25 (ts_live (k := 21) (by decide) (by decide) (by decide)) rfl (cd := 0) rfl (by decide) ?_
      refine tv_iconst C (pc := 46) dX3_keepOperation_46 (v := (1 : Int32)) rfl ?_
      refine tv_iadd C (pc := 47) dX3_keepOperation_47 ?_
      refine tv_putI C (pc := 48) dX3_keepOperation_48 fp_X3_25 (ts_live (k := 21) (by decide) (by decide) (by decide)) rfl (cd := 0) rfl (by decide) rfl rfl ?_
      refine tv_nu (fun u7 hu7 => ?_)
      have h := ts_lt h hu7
      refine tv_iconst C (pc := 51) dX3_keepOperation_51 (v := (1 : Int32)) rfl ?_
      cases h
      exact tv_zret C (pc := 52) (v := (1 : Int32)) rfl ts_nz1 dX3_keepOperation_52 ⟨Nat.le_of_ble_eq_true rfl, Nat.le_of_ble_eq_true rfl⟩
    · have h := ts_ifn h hc
      refine tv_iconst C (pc := 9) dX3_keepOperation_9 (v := (0 : Int32)) rfl ?_
      cases h
      exact tv_zret C (pc := 10) (v := (0 : Int32)) rfl ts_nz0 dX3_keepOperation_10 ⟨Nat.le_of_ble_eq_true rfl, Nat.le_of_ble_eq_true rfl⟩
set_option maxRecDepth 100000 in
set_option maxHeartbeats 4000000 in
theorem lt_X3_takeNumber_23 {D : va_G} {dT : Nat → ClassId} {sz : Nat} {p : Program} {l : Launch} {e : Env} {R : Room} {s : State} {m : MethodId} {args : Array Value} {below : List Frame} {meth : Method} {c : Code} {d : Nat} {ad : ts_I → Nat} {kk nn : Nat} {Q : State → Prop} (hl : l.stackTraces = false) (C : ts_CX D dT sz p l R s m args meth c RX3 cX3_takeNumber 3 (some .int) d) (hdd : 1 ≤ d)  (hkn : kk ≤ R.cells ∧ nn ≤ R.slots) : ∀ (n : Nat) (v1 : Int32) (v2 : Int32) (u : ts_Mem) (q : (Int32 × Int32 × ts_Mem)) (h : lp_X3_takeNumber_23 n v1 v2 u = some q) (K : ts_V D dT sz p l e R s m args below meth c 3 Q ad ts_lv ts_R0 61 [some (.inr (21, 0, 0)), some (.inl (.int q.1)), some (.inl (.int q.2.1))] [] q.2.2 kk nn), ts_V D dT sz p l e R s m args below meth c 3 Q ad ts_lv ts_R0 23 [some (.inr (21, 0, 0)), some (.inl (.int v1)), some (.inl (.int v2))] [] u kk nn
  | 0, _, _, _, _, h, _ => by cases h
  | n + 1, v1, v2, u, q, h, K => by
      rw [lp_X3_takeNumber_23] at h
      refine tv_iload_n C (pc := 23) dX3_takeNumber_23 rfl rfl ?_
      refine tv_iconst C (pc := 24) dX3_takeNumber_24 (v := (4 : Int32)) rfl ?_
      refine tv_icmp_ge C (pc := 25) 61 dX3_takeNumber_25 (by decide) (fun hc => ?_) (fun hc => ?_)
      · have h := ts_ifp h hc
        cases h
        exact K
      · have h := ts_ifn h hc
        refine tv_aload_n C (pc := 28) dX3_takeNumber_28 rfl rfl ?_
        obtain ⟨q3, hq3, h⟩ := ts_bd h
        refine tv_callV C (pc := 29) dX3_takeNumber_29 (ci := 3) (q := (RX3, TX3, 8)) rfl yl_X3_63 (m_X3_digitHere (D := D) (dT := dT) (sz := sz) (ad := ad) hl  u q3 hq3) (ts_live (k := 21) (by decide) (by decide) (by decide)) rfl (Nat.le_trans (Nat.le_of_ble_eq_true rfl) hdd) (As := []) rfl ⟨hkn.1, hkn.2⟩ (fun _ => Nat.le_of_ble_eq_true rfl) rfl ?_
        refine tv_if_lt C (pc := 32) 61 dX3_takeNumber_32 (by decide) (fun hc => ?_) (fun hc => ?_)
        · have h := ts_ifp h hc
          cases h
          exact K
        · have h := ts_ifn h hc
          refine tv_bipush C (pc := 35) dX3_takeNumber_35 (v := (10 : Int32)) rfl ?_
          refine tv_iload_n C (pc := 37) dX3_takeNumber_37 rfl rfl ?_
          refine tv_imul C (pc := 38) dX3_takeNumber_38 ?_
          refine tv_aload_n C (pc := 39) dX3_takeNumber_39 rfl rfl ?_
          obtain ⟨q4, hq4, h⟩ := ts_bd h
          refine tv_callV C (pc := 40) dX3_takeNumber_40 (ci := 3) (q := (RX3, TX3, 8)) rfl yl_X3_63 (m_X3_digitHere (D := D) (dT := dT) (sz := sz) (ad := ad) hl  u q4 hq4) (ts_live (k := 21) (by decide) (by decide) (by decide)) rfl (Nat.le_trans (Nat.le_of_ble_eq_true rfl) hdd) (As := []) rfl ⟨hkn.1, hkn.2⟩ (fun _ => Nat.le_of_ble_eq_true rfl) rfl ?_
          refine tv_iadd C (pc := 43) dX3_takeNumber_43 ?_
          refine tv_nmI (fun x5 hx5 => ?_)
          have h := ts_lt h hx5
          refine tv_istore_n C (pc := 44) dX3_takeNumber_44 (L' := [some (.inr (21, 0, 0)), some (.inl (.int x5)), some (.inl (.int v2))]) rfl (by decide) rfl rfl ?_
          refine tv_aload_n C (pc := 45) dX3_takeNumber_45 rfl rfl ?_
          refine tv_dup C (pc := 46) dX3_takeNumber_46 (fun _ => rfl) ?_
          refine tv_getI C (pc := 47) dX3_takeNumber_47 fl_X3_32 (ts_live (k := 21) (by decide) (by decide) (by decide)) rfl (cd := 0) rfl (by decide) ?_
          refine tv_iconst C (pc := 50) dX3_takeNumber_50 (v := (1 : Int32)) rfl ?_
          refine tv_iadd C (pc := 51) dX3_takeNumber_51 ?_
          refine tv_putI C (pc := 52) dX3_takeNumber_52 fp_X3_32 (ts_live (k := 21) (by decide) (by decide) (by decide)) rfl (cd := 0) rfl (by decide) rfl rfl ?_
          refine tv_nu (fun u6 hu6 => ?_)
          have h := ts_lt h hu6
          refine tv_iinc C (pc := 55) dX3_takeNumber_55 (v := (v2 + (1 : Int32))) (L' := [some (.inr (21, 0, 0)), some (.inl (.int x5)), some (.inl (.int (v2 + (1 : Int32))))]) rfl rfl (by decide) rfl rfl ?_
          refine tv_goto C (pc := 58) 23 dX3_takeNumber_58 (by decide) ?_
          exact lt_X3_takeNumber_23 hl C hdd  hkn n x5 (v2 + (1 : Int32)) u6 q h K
set_option maxRecDepth 100000 in
set_option maxHeartbeats 4000000 in
theorem m_X3_takeNumber {l : Launch} {D : va_G} {dT : Nat → ClassId} {sz : Nat} {ad : ts_I → Nat} (hl : l.stackTraces = false)  (u : ts_Mem) (r : (Int32 × ts_Mem)) (h : f_X3_takeNumber  u = some r) : ts_M l D dT sz yX3_takeNumber wX3_takeNumber 1 0 0 ad ts_lv ts_R0 [.inr (21, 0, 0)] u (.inl (some (.int r.1))) r.2 := by
    unfold f_X3_takeNumber at h
    refine ts_enter hl (by decide) rfl rfl (Nat.le_of_ble_eq_true rfl) ?_
    intro p e s m args below meth c C hX hnm
    have C : ts_CX D dT sz p l (ts_rm 1 0 0) s m args meth c RX3 cX3_takeNumber 3 (some .int) 1 := C
    have hdd : 1 ≤ 1 := Nat.le_refl _
    refine tv_aload_n C (pc := 0) dX3_takeNumber_0 rfl rfl ?_
    obtain ⟨q1, hq1, h⟩ := ts_bd h
    refine tv_callV C (pc := 1) dX3_takeNumber_1 (ci := 3) (q := (RX3, TX3, 8)) rfl yl_X3_63 (m_X3_digitHere (D := D) (dT := dT) (sz := sz) (ad := ad) hl  u q1 hq1) (ts_live (k := 21) (by decide) (by decide) (by decide)) rfl (Nat.le_trans (Nat.le_of_ble_eq_true rfl) hdd) (As := []) rfl ⟨Nat.le_of_ble_eq_true rfl, Nat.le_of_ble_eq_true rfl⟩ (fun _ => Nat.le_of_ble_eq_true rfl) rfl ?_
    refine tv_istore_n C (pc := 4) dX3_takeNumber_4 (L' := [some (.inr (21, 0, 0)), some (.inl (.int q1)), none]) rfl (by decide) rfl rfl ?_
    refine tv_iload_n C (pc := 5) dX3_takeNumber_5 rfl rfl ?_
    refine tv_if_ge C (pc := 6) 11 dX3_takeNumber_6 (by decide) (fun hc => ?_) (fun hc => ?_)
    · have h := ts_ifp h hc
      refine tv_aload_n C (pc := 11) dX3_takeNumber_11 rfl rfl ?_
      refine tv_dup C (pc := 12) dX3_takeNumber_12 (fun _ => rfl) ?_
      refine tv_getI C (pc := 13) dX3_takeNumber_13 fl_X3_32 (ts_live (k := 21) (by decide) (by decide) (by decide)) rfl (cd := 0) rfl (by decide) ?_
      refine tv_iconst C (pc := 16) dX3_takeNumber_16 (v := (1 : Int32)) rfl ?_
      refine tv_iadd C (pc := 17) dX3_takeNumber_17 ?_
      refine tv_putI C (pc := 18) dX3_takeNumber_18 fp_X3_32 (ts_live (k := 21) (by decide) (by decide) (by decide)) rfl (cd := 0) rfl (by decide) rfl rfl ?_
      refine tv_nu (fun u2 hu2 => ?_)
      have h := ts_lt h hu2
      refine tv_iconst C (pc := 21) dX3_takeNumber_21 (v := (1 : Int32)) rfl ?_
      refine tv_istore_n C (pc := 22) dX3_takeNumber_22 (L' := [some (.inr (21, 0, 0)), some (.inl (.int q1)), some (.inl (.int (1 : Int32)))]) rfl (by decide) rfl rfl ?_
      obtain ⟨q7, hq7, h⟩ := ts_bd h
      refine lt_X3_takeNumber_23 hl C hdd  ⟨Nat.le_of_ble_eq_true rfl, Nat.le_of_ble_eq_true rfl⟩ ts_fu q1 (1 : Int32) u2 q7 hq7 ?_
      refine tv_iload_n C (pc := 61) dX3_takeNumber_61 rfl rfl ?_
      cases h
      exact tv_iret C (pc := 62) rfl dX3_takeNumber_62 ⟨Nat.le_of_ble_eq_true rfl, Nat.le_of_ble_eq_true rfl⟩
    · have h := ts_ifn h hc
      refine tv_iconst C (pc := 9) dX3_takeNumber_9 (v := (-1 : Int32)) rfl ?_
      cases h
      exact tv_iret C (pc := 10) rfl dX3_takeNumber_10 ⟨Nat.le_of_ble_eq_true rfl, Nat.le_of_ble_eq_true rfl⟩
set_option maxRecDepth 100000 in
set_option maxHeartbeats 4000000 in
theorem m_X3_takeWrite {l : Launch} {D : va_G} {dT : Nat → ClassId} {sz : Nat} {ad : ts_I → Nat} (hl : l.stackTraces = false)  (u : ts_Mem) (r : (Int32 × ts_Mem)) (h : f_X3_takeWrite  u = some r) : ts_M l D dT sz yX3_takeWrite wX3_takeWrite 2 0 0 ad ts_lv ts_R0 [.inr (21, 0, 0)] u (.inl (some (.int r.1))) r.2 := by
    unfold f_X3_takeWrite at h
    refine ts_enter hl (by decide) rfl rfl (Nat.le_of_ble_eq_true rfl) ?_
    intro p e s m args below meth c C hX hnm
    have C : ts_CX D dT sz p l (ts_rm 2 0 0) s m args meth c RX3 cX3_takeWrite 4 (some .boolean) 2 := C
    have hdd : 2 ≤ 2 := Nat.le_refl _
    refine tv_aload_n C (pc := 0) dX3_takeWrite_0 rfl rfl ?_
    obtain ⟨q1, hq1, h⟩ := ts_bd h
    refine tv_callV C (pc := 1) dX3_takeWrite_1 (ci := 3) (q := (RX3, TX3, 8)) rfl yl_X3_46 (m_X3_takeItem (D := D) (dT := dT) (sz := sz) (ad := ad) hl  u q1 hq1) (ts_live (k := 21) (by decide) (by decide) (by decide)) rfl (Nat.le_trans (Nat.le_of_ble_eq_true rfl) hdd) (As := []) rfl ⟨Nat.le_of_ble_eq_true rfl, Nat.le_of_ble_eq_true rfl⟩ (fun _ => Nat.le_of_ble_eq_true rfl) rfl ?_
    refine tv_istore_n C (pc := 4) dX3_takeWrite_4 (L' := [some (.inr (21, 0, 0)), some (.inl (.int q1.1)), none, none]) rfl (by decide) rfl rfl ?_
    refine tv_iload_n C (pc := 5) dX3_takeWrite_5 rfl rfl ?_
    refine tv_if_lt C (pc := 6) 18 dX3_takeWrite_6 (by decide) (fun hc => ?_) (fun hc => ?_)
    · have h := ts_ifp h hc
      refine tv_iconst C (pc := 18) dX3_takeWrite_18 (v := (0 : Int32)) rfl ?_
      cases h
      exact tv_zret C (pc := 19) (v := (0 : Int32)) rfl ts_nz0 dX3_takeWrite_19 ⟨Nat.le_of_ble_eq_true rfl, Nat.le_of_ble_eq_true rfl⟩
    · have h := ts_ifn h hc
      refine tv_aload_n C (pc := 9) dX3_takeWrite_9 rfl rfl ?_
      refine tv_bipush C (pc := 10) dX3_takeWrite_10 (v := (61 : Int32)) rfl ?_
      obtain ⟨q2, hq2, h⟩ := ts_bd h
      refine tv_callV C (pc := 12) dX3_takeWrite_12 (ci := 3) (q := (RX3, TX3, 8)) rfl yl_X3_42 (m_X3_takeSign (D := D) (dT := dT) (sz := sz) (ad := ad) hl (61 : Int32) q1.2 q2 hq2) (ts_live (k := 21) (by decide) (by decide) (by decide)) rfl (Nat.le_trans (Nat.le_of_ble_eq_true rfl) hdd) (As := [.inl (.int (61 : Int32))]) rfl ⟨Nat.le_of_ble_eq_true rfl, Nat.le_of_ble_eq_true rfl⟩ (fun _ => Nat.le_of_ble_eq_true rfl) rfl ?_
      refine tv_if_ne C (pc := 15) 20 dX3_takeWrite_15 (by decide) (fun hc => ?_) (fun hc => ?_)
      · have h := ts_ifn h hc
        refine tv_aload_n C (pc := 20) dX3_takeWrite_20 rfl rfl ?_
        refine tv_bipush C (pc := 21) dX3_takeWrite_21 (v := (45 : Int32)) rfl ?_
        obtain ⟨q3, hq3, h⟩ := ts_bd h
        refine tv_callV C (pc := 23) dX3_takeWrite_23 (ci := 3) (q := (RX3, TX3, 8)) rfl yl_X3_42 (m_X3_takeSign (D := D) (dT := dT) (sz := sz) (ad := ad) hl (45 : Int32) q2.2 q3 hq3) (ts_live (k := 21) (by decide) (by decide) (by decide)) rfl (Nat.le_trans (Nat.le_of_ble_eq_true rfl) hdd) (As := [.inl (.int (45 : Int32))]) rfl ⟨Nat.le_of_ble_eq_true rfl, Nat.le_of_ble_eq_true rfl⟩ (fun _ => Nat.le_of_ble_eq_true rfl) rfl ?_
        refine tv_istore_n C (pc := 26) dX3_takeWrite_26 (L' := [some (.inr (21, 0, 0)), some (.inl (.int q1.1)), some (.inl (.int q3.1)), none]) rfl (by decide) rfl rfl ?_
        refine tv_aload_n C (pc := 27) dX3_takeWrite_27 rfl rfl ?_
        obtain ⟨q4, hq4, h⟩ := ts_bd h
        refine tv_callV C (pc := 28) dX3_takeWrite_28 (ci := 3) (q := (RX3, TX3, 8)) rfl yl_X3_60 (m_X3_takeNumber (D := D) (dT := dT) (sz := sz) (ad := ad) hl  q3.2 q4 hq4) (ts_live (k := 21) (by decide) (by decide) (by decide)) rfl (Nat.le_trans (Nat.le_of_ble_eq_true rfl) hdd) (As := []) rfl ⟨Nat.le_of_ble_eq_true rfl, Nat.le_of_ble_eq_true rfl⟩ (fun _ => Nat.le_of_ble_eq_true rfl) rfl ?_
        refine tv_istore_n C (pc := 31) dX3_takeWrite_31 (L' := [some (.inr (21, 0, 0)), some (.inl (.int q1.1)), some (.inl (.int q3.1)), some (.inl (.int q4.1))]) rfl (by decide) rfl rfl ?_
        refine tv_iload_n C (pc := 32) dX3_takeWrite_32 rfl rfl ?_
        refine tv_if_lt C (pc := 33) 59 dX3_takeWrite_33 (by decide) (fun hc => ?_) (fun hc => ?_)
        · have h := ts_ifp h hc
          refine tv_iconst C (pc := 59) dX3_takeWrite_59 (v := (0 : Int32)) rfl ?_
          cases h
          exact tv_zret C (pc := 60) (v := (0 : Int32)) rfl ts_nz0 dX3_takeWrite_60 ⟨Nat.le_of_ble_eq_true rfl, Nat.le_of_ble_eq_true rfl⟩
        · have h := ts_ifn h hc
          refine tv_aload_n C (pc := 36) dX3_takeWrite_36 rfl rfl ?_
          refine tv_iconst C (pc := 37) dX3_takeWrite_37 (v := (1 : Int32)) rfl ?_
          refine tv_iload_n C (pc := 38) dX3_takeWrite_38 rfl rfl ?_
          refine tv_iload_n C (pc := 39) dX3_takeWrite_39 rfl rfl ?_
          refine tv_if_eq C (pc := 40) 48 dX3_takeWrite_40 (by decide) (fun hc => ?_) (fun hc => ?_)
          · have h := ts_ifp h hc
            refine tv_iload_n C (pc := 48) dX3_takeWrite_48 rfl rfl ?_
            obtain ⟨q5, hq5, h⟩ := ts_bd h
            refine tv_callV C (pc := 49) dX3_takeWrite_49 (ci := 3) (q := (RX3, TX3, 8)) rfl yl_X3_50 (m_X3_keepOperation (D := D) (dT := dT) (sz := sz) (ad := ad) hl (1 : Int32) q1.1 q4.1 q4.2 q5 hq5) (ts_live (k := 21) (by decide) (by decide) (by decide)) rfl (Nat.le_trans (Nat.le_of_ble_eq_true rfl) hdd) (As := [.inl (.int (1 : Int32)), .inl (.int q1.1), .inl (.int q4.1)]) rfl ⟨Nat.le_of_ble_eq_true rfl, Nat.le_of_ble_eq_true rfl⟩ (fun _ => Nat.le_of_ble_eq_true rfl) rfl ?_
            refine tv_if_eq C (pc := 52) 59 dX3_takeWrite_52 (by decide) (fun hc => ?_) (fun hc => ?_)
            · have h := ts_ifp h hc
              refine tv_iconst C (pc := 59) dX3_takeWrite_59 (v := (0 : Int32)) rfl ?_
              cases h
              exact tv_zret C (pc := 60) (v := (0 : Int32)) rfl ts_nz0 dX3_takeWrite_60 ⟨Nat.le_of_ble_eq_true rfl, Nat.le_of_ble_eq_true rfl⟩
            · have h := ts_ifn h hc
              refine tv_iconst C (pc := 55) dX3_takeWrite_55 (v := (1 : Int32)) rfl ?_
              refine tv_goto C (pc := 56) 60 dX3_takeWrite_56 (by decide) ?_
              cases h
              exact tv_zret C (pc := 60) (v := (1 : Int32)) rfl ts_nz1 dX3_takeWrite_60 ⟨Nat.le_of_ble_eq_true rfl, Nat.le_of_ble_eq_true rfl⟩
          · have h := ts_ifn h hc
            refine tv_iload_n C (pc := 43) dX3_takeWrite_43 rfl rfl ?_
            refine tv_ineg C (pc := 44) dX3_takeWrite_44 ?_
            refine tv_goto C (pc := 45) 49 dX3_takeWrite_45 (by decide) ?_
            obtain ⟨q6, hq6, h⟩ := ts_bd h
            refine tv_callV C (pc := 49) dX3_takeWrite_49 (ci := 3) (q := (RX3, TX3, 8)) rfl yl_X3_50 (m_X3_keepOperation (D := D) (dT := dT) (sz := sz) (ad := ad) hl (1 : Int32) q1.1 (-q4.1) q4.2 q6 hq6) (ts_live (k := 21) (by decide) (by decide) (by decide)) rfl (Nat.le_trans (Nat.le_of_ble_eq_true rfl) hdd) (As := [.inl (.int (1 : Int32)), .inl (.int q1.1), .inl (.int (-q4.1))]) rfl ⟨Nat.le_of_ble_eq_true rfl, Nat.le_of_ble_eq_true rfl⟩ (fun _ => Nat.le_of_ble_eq_true rfl) rfl ?_
            refine tv_if_eq C (pc := 52) 59 dX3_takeWrite_52 (by decide) (fun hc => ?_) (fun hc => ?_)
            · have h := ts_ifp h hc
              refine tv_iconst C (pc := 59) dX3_takeWrite_59 (v := (0 : Int32)) rfl ?_
              cases h
              exact tv_zret C (pc := 60) (v := (0 : Int32)) rfl ts_nz0 dX3_takeWrite_60 ⟨Nat.le_of_ble_eq_true rfl, Nat.le_of_ble_eq_true rfl⟩
            · have h := ts_ifn h hc
              refine tv_iconst C (pc := 55) dX3_takeWrite_55 (v := (1 : Int32)) rfl ?_
              refine tv_goto C (pc := 56) 60 dX3_takeWrite_56 (by decide) ?_
              cases h
              exact tv_zret C (pc := 60) (v := (1 : Int32)) rfl ts_nz1 dX3_takeWrite_60 ⟨Nat.le_of_ble_eq_true rfl, Nat.le_of_ble_eq_true rfl⟩
      · have h := ts_ifp h hc
        refine tv_iconst C (pc := 18) dX3_takeWrite_18 (v := (0 : Int32)) rfl ?_
        cases h
        exact tv_zret C (pc := 19) (v := (0 : Int32)) rfl ts_nz0 dX3_takeWrite_19 ⟨Nat.le_of_ble_eq_true rfl, Nat.le_of_ble_eq_true rfl⟩
set_option maxRecDepth 100000 in
set_option maxHeartbeats 4000000 in
theorem m_X3_takeAddition {l : Launch} {D : va_G} {dT : Nat → ClassId} {sz : Nat} {ad : ts_I → Nat} (hl : l.stackTraces = false)  (u : ts_Mem) (r : (Int32 × ts_Mem)) (h : f_X3_takeAddition  u = some r) : ts_M l D dT sz yX3_takeAddition wX3_takeAddition 2 0 0 ad ts_lv ts_R0 [.inr (21, 0, 0)] u (.inl (some (.int r.1))) r.2 := by
    unfold f_X3_takeAddition at h
    refine ts_enter hl (by decide) rfl rfl (Nat.le_of_ble_eq_true rfl) ?_
    intro p e s m args below meth c C hX hnm
    have C : ts_CX D dT sz p l (ts_rm 2 0 0) s m args meth c RX3 cX3_takeAddition 4 (some .boolean) 2 := C
    have hdd : 2 ≤ 2 := Nat.le_refl _
    refine tv_aload_n C (pc := 0) dX3_takeAddition_0 rfl rfl ?_
    obtain ⟨q1, hq1, h⟩ := ts_bd h
    refine tv_callV C (pc := 1) dX3_takeAddition_1 (ci := 3) (q := (RX3, TX3, 8)) rfl yl_X3_46 (m_X3_takeItem (D := D) (dT := dT) (sz := sz) (ad := ad) hl  u q1 hq1) (ts_live (k := 21) (by decide) (by decide) (by decide)) rfl (Nat.le_trans (Nat.le_of_ble_eq_true rfl) hdd) (As := []) rfl ⟨Nat.le_of_ble_eq_true rfl, Nat.le_of_ble_eq_true rfl⟩ (fun _ => Nat.le_of_ble_eq_true rfl) rfl ?_
    refine tv_istore_n C (pc := 4) dX3_takeAddition_4 (L' := [some (.inr (21, 0, 0)), some (.inl (.int q1.1)), none, none]) rfl (by decide) rfl rfl ?_
    refine tv_iload_n C (pc := 5) dX3_takeAddition_5 rfl rfl ?_
    refine tv_if_ge C (pc := 6) 11 dX3_takeAddition_6 (by decide) (fun hc => ?_) (fun hc => ?_)
    · have h := ts_ifp h hc
      refine tv_aload_n C (pc := 11) dX3_takeAddition_11 rfl rfl ?_
      refine tv_bipush C (pc := 12) dX3_takeAddition_12 (v := (45 : Int32)) rfl ?_
      obtain ⟨q2, hq2, h⟩ := ts_bd h
      refine tv_callV C (pc := 14) dX3_takeAddition_14 (ci := 3) (q := (RX3, TX3, 8)) rfl yl_X3_42 (m_X3_takeSign (D := D) (dT := dT) (sz := sz) (ad := ad) hl (45 : Int32) q1.2 q2 hq2) (ts_live (k := 21) (by decide) (by decide) (by decide)) rfl (Nat.le_trans (Nat.le_of_ble_eq_true rfl) hdd) (As := [.inl (.int (45 : Int32))]) rfl ⟨Nat.le_of_ble_eq_true rfl, Nat.le_of_ble_eq_true rfl⟩ (fun _ => Nat.le_of_ble_eq_true rfl) rfl ?_
      refine tv_istore_n C (pc := 17) dX3_takeAddition_17 (L' := [some (.inr (21, 0, 0)), some (.inl (.int q1.1)), some (.inl (.int q2.1)), none]) rfl (by decide) rfl rfl ?_
      refine tv_iload_n C (pc := 18) dX3_takeAddition_18 rfl rfl ?_
      refine tv_if_ne C (pc := 19) 33 dX3_takeAddition_19 (by decide) (fun hc => ?_) (fun hc => ?_)
      · have h := ts_ifn h hc
        refine tv_aload_n C (pc := 33) dX3_takeAddition_33 rfl rfl ?_
        obtain ⟨q3, hq3, h⟩ := ts_bd h
        refine tv_callV C (pc := 34) dX3_takeAddition_34 (ci := 3) (q := (RX3, TX3, 8)) rfl yl_X3_60 (m_X3_takeNumber (D := D) (dT := dT) (sz := sz) (ad := ad) hl  q2.2 q3 hq3) (ts_live (k := 21) (by decide) (by decide) (by decide)) rfl (Nat.le_trans (Nat.le_of_ble_eq_true rfl) hdd) (As := []) rfl ⟨Nat.le_of_ble_eq_true rfl, Nat.le_of_ble_eq_true rfl⟩ (fun _ => Nat.le_of_ble_eq_true rfl) rfl ?_
        refine tv_istore_n C (pc := 37) dX3_takeAddition_37 (L' := [some (.inr (21, 0, 0)), some (.inl (.int q1.1)), some (.inl (.int q2.1)), some (.inl (.int q3.1))]) rfl (by decide) rfl rfl ?_
        refine tv_iload_n C (pc := 38) dX3_takeAddition_38 rfl rfl ?_
        refine tv_if_lt C (pc := 39) 65 dX3_takeAddition_39 (by decide) (fun hc => ?_) (fun hc => ?_)
        · have h := ts_ifp h hc
          refine tv_iconst C (pc := 65) dX3_takeAddition_65 (v := (0 : Int32)) rfl ?_
          cases h
          exact tv_zret C (pc := 66) (v := (0 : Int32)) rfl ts_nz0 dX3_takeAddition_66 ⟨Nat.le_of_ble_eq_true rfl, Nat.le_of_ble_eq_true rfl⟩
        · have h := ts_ifn h hc
          refine tv_aload_n C (pc := 42) dX3_takeAddition_42 rfl rfl ?_
          refine tv_iconst C (pc := 43) dX3_takeAddition_43 (v := (2 : Int32)) rfl ?_
          refine tv_iload_n C (pc := 44) dX3_takeAddition_44 rfl rfl ?_
          refine tv_iload_n C (pc := 45) dX3_takeAddition_45 rfl rfl ?_
          refine tv_if_eq C (pc := 46) 54 dX3_takeAddition_46 (by decide) (fun hc => ?_) (fun hc => ?_)
          · have h := ts_ifp h hc
            refine tv_iload_n C (pc := 54) dX3_takeAddition_54 rfl rfl ?_
            obtain ⟨q4, hq4, h⟩ := ts_bd h
            refine tv_callV C (pc := 55) dX3_takeAddition_55 (ci := 3) (q := (RX3, TX3, 8)) rfl yl_X3_50 (m_X3_keepOperation (D := D) (dT := dT) (sz := sz) (ad := ad) hl (2 : Int32) q1.1 q3.1 q3.2 q4 hq4) (ts_live (k := 21) (by decide) (by decide) (by decide)) rfl (Nat.le_trans (Nat.le_of_ble_eq_true rfl) hdd) (As := [.inl (.int (2 : Int32)), .inl (.int q1.1), .inl (.int q3.1)]) rfl ⟨Nat.le_of_ble_eq_true rfl, Nat.le_of_ble_eq_true rfl⟩ (fun _ => Nat.le_of_ble_eq_true rfl) rfl ?_
            refine tv_if_eq C (pc := 58) 65 dX3_takeAddition_58 (by decide) (fun hc => ?_) (fun hc => ?_)
            · have h := ts_ifp h hc
              refine tv_iconst C (pc := 65) dX3_takeAddition_65 (v := (0 : Int32)) rfl ?_
              cases h
              exact tv_zret C (pc := 66) (v := (0 : Int32)) rfl ts_nz0 dX3_takeAddition_66 ⟨Nat.le_of_ble_eq_true rfl, Nat.le_of_ble_eq_true rfl⟩
            · have h := ts_ifn h hc
              refine tv_iconst C (pc := 61) dX3_takeAddition_61 (v := (1 : Int32)) rfl ?_
              refine tv_goto C (pc := 62) 66 dX3_takeAddition_62 (by decide) ?_
              cases h
              exact tv_zret C (pc := 66) (v := (1 : Int32)) rfl ts_nz1 dX3_takeAddition_66 ⟨Nat.le_of_ble_eq_true rfl, Nat.le_of_ble_eq_true rfl⟩
          · have h := ts_ifn h hc
            refine tv_iload_n C (pc := 49) dX3_takeAddition_49 rfl rfl ?_
            refine tv_ineg C (pc := 50) dX3_takeAddition_50 ?_
            refine tv_goto C (pc := 51) 55 dX3_takeAddition_51 (by decide) ?_
            obtain ⟨q5, hq5, h⟩ := ts_bd h
            refine tv_callV C (pc := 55) dX3_takeAddition_55 (ci := 3) (q := (RX3, TX3, 8)) rfl yl_X3_50 (m_X3_keepOperation (D := D) (dT := dT) (sz := sz) (ad := ad) hl (2 : Int32) q1.1 (-q3.1) q3.2 q5 hq5) (ts_live (k := 21) (by decide) (by decide) (by decide)) rfl (Nat.le_trans (Nat.le_of_ble_eq_true rfl) hdd) (As := [.inl (.int (2 : Int32)), .inl (.int q1.1), .inl (.int (-q3.1))]) rfl ⟨Nat.le_of_ble_eq_true rfl, Nat.le_of_ble_eq_true rfl⟩ (fun _ => Nat.le_of_ble_eq_true rfl) rfl ?_
            refine tv_if_eq C (pc := 58) 65 dX3_takeAddition_58 (by decide) (fun hc => ?_) (fun hc => ?_)
            · have h := ts_ifp h hc
              refine tv_iconst C (pc := 65) dX3_takeAddition_65 (v := (0 : Int32)) rfl ?_
              cases h
              exact tv_zret C (pc := 66) (v := (0 : Int32)) rfl ts_nz0 dX3_takeAddition_66 ⟨Nat.le_of_ble_eq_true rfl, Nat.le_of_ble_eq_true rfl⟩
            · have h := ts_ifn h hc
              refine tv_iconst C (pc := 61) dX3_takeAddition_61 (v := (1 : Int32)) rfl ?_
              refine tv_goto C (pc := 62) 66 dX3_takeAddition_62 (by decide) ?_
              cases h
              exact tv_zret C (pc := 66) (v := (1 : Int32)) rfl ts_nz1 dX3_takeAddition_66 ⟨Nat.le_of_ble_eq_true rfl, Nat.le_of_ble_eq_true rfl⟩
      · have h := ts_ifp h hc
        refine tv_aload_n C (pc := 22) dX3_takeAddition_22 rfl rfl ?_
        refine tv_bipush C (pc := 23) dX3_takeAddition_23 (v := (43 : Int32)) rfl ?_
        obtain ⟨q6, hq6, h⟩ := ts_bd h
        refine tv_callV C (pc := 25) dX3_takeAddition_25 (ci := 3) (q := (RX3, TX3, 8)) rfl yl_X3_42 (m_X3_takeSign (D := D) (dT := dT) (sz := sz) (ad := ad) hl (43 : Int32) q2.2 q6 hq6) (ts_live (k := 21) (by decide) (by decide) (by decide)) rfl (Nat.le_trans (Nat.le_of_ble_eq_true rfl) hdd) (As := [.inl (.int (43 : Int32))]) rfl ⟨Nat.le_of_ble_eq_true rfl, Nat.le_of_ble_eq_true rfl⟩ (fun _ => Nat.le_of_ble_eq_true rfl) rfl ?_
        refine tv_if_ne C (pc := 28) 33 dX3_takeAddition_28 (by decide) (fun hc => ?_) (fun hc => ?_)
        · have h := ts_ifn h hc
          refine tv_aload_n C (pc := 33) dX3_takeAddition_33 rfl rfl ?_
          obtain ⟨q7, hq7, h⟩ := ts_bd h
          refine tv_callV C (pc := 34) dX3_takeAddition_34 (ci := 3) (q := (RX3, TX3, 8)) rfl yl_X3_60 (m_X3_takeNumber (D := D) (dT := dT) (sz := sz) (ad := ad) hl  q6.2 q7 hq7) (ts_live (k := 21) (by decide) (by decide) (by decide)) rfl (Nat.le_trans (Nat.le_of_ble_eq_true rfl) hdd) (As := []) rfl ⟨Nat.le_of_ble_eq_true rfl, Nat.le_of_ble_eq_true rfl⟩ (fun _ => Nat.le_of_ble_eq_true rfl) rfl ?_
          refine tv_istore_n C (pc := 37) dX3_takeAddition_37 (L' := [some (.inr (21, 0, 0)), some (.inl (.int q1.1)), some (.inl (.int q2.1)), some (.inl (.int q7.1))]) rfl (by decide) rfl rfl ?_
          refine tv_iload_n C (pc := 38) dX3_takeAddition_38 rfl rfl ?_
          refine tv_if_lt C (pc := 39) 65 dX3_takeAddition_39 (by decide) (fun hc => ?_) (fun hc => ?_)
          · have h := ts_ifp h hc
            refine tv_iconst C (pc := 65) dX3_takeAddition_65 (v := (0 : Int32)) rfl ?_
            cases h
            exact tv_zret C (pc := 66) (v := (0 : Int32)) rfl ts_nz0 dX3_takeAddition_66 ⟨Nat.le_of_ble_eq_true rfl, Nat.le_of_ble_eq_true rfl⟩
          · have h := ts_ifn h hc
            refine tv_aload_n C (pc := 42) dX3_takeAddition_42 rfl rfl ?_
            refine tv_iconst C (pc := 43) dX3_takeAddition_43 (v := (2 : Int32)) rfl ?_
            refine tv_iload_n C (pc := 44) dX3_takeAddition_44 rfl rfl ?_
            refine tv_iload_n C (pc := 45) dX3_takeAddition_45 rfl rfl ?_
            refine tv_if_eq C (pc := 46) 54 dX3_takeAddition_46 (by decide) (fun hc => ?_) (fun hc => ?_)
            · have h := ts_ifp h hc
              refine tv_iload_n C (pc := 54) dX3_takeAddition_54 rfl rfl ?_
              obtain ⟨q8, hq8, h⟩ := ts_bd h
              refine tv_callV C (pc := 55) dX3_takeAddition_55 (ci := 3) (q := (RX3, TX3, 8)) rfl yl_X3_50 (m_X3_keepOperation (D := D) (dT := dT) (sz := sz) (ad := ad) hl (2 : Int32) q1.1 q7.1 q7.2 q8 hq8) (ts_live (k := 21) (by decide) (by decide) (by decide)) rfl (Nat.le_trans (Nat.le_of_ble_eq_true rfl) hdd) (As := [.inl (.int (2 : Int32)), .inl (.int q1.1), .inl (.int q7.1)]) rfl ⟨Nat.le_of_ble_eq_true rfl, Nat.le_of_ble_eq_true rfl⟩ (fun _ => Nat.le_of_ble_eq_true rfl) rfl ?_
              refine tv_if_eq C (pc := 58) 65 dX3_takeAddition_58 (by decide) (fun hc => ?_) (fun hc => ?_)
              · have h := ts_ifp h hc
                refine tv_iconst C (pc := 65) dX3_takeAddition_65 (v := (0 : Int32)) rfl ?_
                cases h
                exact tv_zret C (pc := 66) (v := (0 : Int32)) rfl ts_nz0 dX3_takeAddition_66 ⟨Nat.le_of_ble_eq_true rfl, Nat.le_of_ble_eq_true rfl⟩
              · have h := ts_ifn h hc
                refine tv_iconst C (pc := 61) dX3_takeAddition_61 (v := (1 : Int32)) rfl ?_
                refine tv_goto C (pc := 62) 66 dX3_takeAddition_62 (by decide) ?_
                cases h
                exact tv_zret C (pc := 66) (v := (1 : Int32)) rfl ts_nz1 dX3_takeAddition_66 ⟨Nat.le_of_ble_eq_true rfl, Nat.le_of_ble_eq_true rfl⟩
            · have h := ts_ifn h hc
              refine tv_iload_n C (pc := 49) dX3_takeAddition_49 rfl rfl ?_
              refine tv_ineg C (pc := 50) dX3_takeAddition_50 ?_
              refine tv_goto C (pc := 51) 55 dX3_takeAddition_51 (by decide) ?_
              obtain ⟨q9, hq9, h⟩ := ts_bd h
              refine tv_callV C (pc := 55) dX3_takeAddition_55 (ci := 3) (q := (RX3, TX3, 8)) rfl yl_X3_50 (m_X3_keepOperation (D := D) (dT := dT) (sz := sz) (ad := ad) hl (2 : Int32) q1.1 (-q7.1) q7.2 q9 hq9) (ts_live (k := 21) (by decide) (by decide) (by decide)) rfl (Nat.le_trans (Nat.le_of_ble_eq_true rfl) hdd) (As := [.inl (.int (2 : Int32)), .inl (.int q1.1), .inl (.int (-q7.1))]) rfl ⟨Nat.le_of_ble_eq_true rfl, Nat.le_of_ble_eq_true rfl⟩ (fun _ => Nat.le_of_ble_eq_true rfl) rfl ?_
              refine tv_if_eq C (pc := 58) 65 dX3_takeAddition_58 (by decide) (fun hc => ?_) (fun hc => ?_)
              · have h := ts_ifp h hc
                refine tv_iconst C (pc := 65) dX3_takeAddition_65 (v := (0 : Int32)) rfl ?_
                cases h
                exact tv_zret C (pc := 66) (v := (0 : Int32)) rfl ts_nz0 dX3_takeAddition_66 ⟨Nat.le_of_ble_eq_true rfl, Nat.le_of_ble_eq_true rfl⟩
              · have h := ts_ifn h hc
                refine tv_iconst C (pc := 61) dX3_takeAddition_61 (v := (1 : Int32)) rfl ?_
                refine tv_goto C (pc := 62) 66 dX3_takeAddition_62 (by decide) ?_
                cases h
                exact tv_zret C (pc := 66) (v := (1 : Int32)) rfl ts_nz1 dX3_takeAddition_66 ⟨Nat.le_of_ble_eq_true rfl, Nat.le_of_ble_eq_true rfl⟩
        · have h := ts_ifp h hc
          refine tv_iconst C (pc := 31) dX3_takeAddition_31 (v := (0 : Int32)) rfl ?_
          cases h
          exact tv_zret C (pc := 32) (v := (0 : Int32)) rfl ts_nz0 dX3_takeAddition_32 ⟨Nat.le_of_ble_eq_true rfl, Nat.le_of_ble_eq_true rfl⟩
    · have h := ts_ifn h hc
      refine tv_iconst C (pc := 9) dX3_takeAddition_9 (v := (0 : Int32)) rfl ?_
      cases h
      exact tv_zret C (pc := 10) (v := (0 : Int32)) rfl ts_nz0 dX3_takeAddition_10 ⟨Nat.le_of_ble_eq_true rfl, Nat.le_of_ble_eq_true rfl⟩
set_option maxRecDepth 100000 in
set_option maxHeartbeats 4000000 in
theorem m_X3_takePart {l : Launch} {D : va_G} {dT : Nat → ClassId} {sz : Nat} {ad : ts_I → Nat} (hl : l.stackTraces = false)  (u : ts_Mem) (r : (Int32 × ts_Mem)) (h : f_X3_takePart  u = some r) : ts_M l D dT sz yX3_takePart wX3_takePart 3 0 0 ad ts_lv ts_R0 [.inr (21, 0, 0)] u (.inl (some (.int r.1))) r.2 := by
    unfold f_X3_takePart at h
    refine ts_enter hl (by decide) rfl rfl (Nat.le_of_ble_eq_true rfl) ?_
    intro p e s m args below meth c C hX hnm
    have C : ts_CX D dT sz p l (ts_rm 3 0 0) s m args meth c RX3 cX3_takePart 2 (some .boolean) 3 := C
    have hdd : 3 ≤ 3 := Nat.le_refl _
    refine tv_aload_n C (pc := 0) dX3_takePart_0 rfl rfl ?_
    refine tv_bipush C (pc := 1) dX3_takePart_1 (v := (99 : Int32)) rfl ?_
    obtain ⟨q1, hq1, h⟩ := ts_bd h
    refine tv_callV C (pc := 3) dX3_takePart_3 (ci := 3) (q := (RX3, TX3, 8)) rfl yl_X3_42 (m_X3_takeSign (D := D) (dT := dT) (sz := sz) (ad := ad) hl (99 : Int32) u q1 hq1) (ts_live (k := 21) (by decide) (by decide) (by decide)) rfl (Nat.le_trans (Nat.le_of_ble_eq_true rfl) hdd) (As := [.inl (.int (99 : Int32))]) rfl ⟨Nat.le_of_ble_eq_true rfl, Nat.le_of_ble_eq_true rfl⟩ (fun _ => Nat.le_of_ble_eq_true rfl) rfl ?_
    refine tv_if_eq C (pc := 6) 16 dX3_takePart_6 (by decide) (fun hc => ?_) (fun hc => ?_)
    · have h := ts_ifp h hc
      refine tv_aload_n C (pc := 16) dX3_takePart_16 rfl rfl ?_
      refine tv_bipush C (pc := 17) dX3_takePart_17 (v := (120 : Int32)) rfl ?_
      obtain ⟨q2, hq2, h⟩ := ts_bd h
      refine tv_callV C (pc := 19) dX3_takePart_19 (ci := 3) (q := (RX3, TX3, 8)) rfl yl_X3_42 (m_X3_takeSign (D := D) (dT := dT) (sz := sz) (ad := ad) hl (120 : Int32) q1.2 q2 hq2) (ts_live (k := 21) (by decide) (by decide) (by decide)) rfl (Nat.le_trans (Nat.le_of_ble_eq_true rfl) hdd) (As := [.inl (.int (120 : Int32))]) rfl ⟨Nat.le_of_ble_eq_true rfl, Nat.le_of_ble_eq_true rfl⟩ (fun _ => Nat.le_of_ble_eq_true rfl) rfl ?_
      refine tv_if_eq C (pc := 22) 32 dX3_takePart_22 (by decide) (fun hc => ?_) (fun hc => ?_)
      · have h := ts_ifp h hc
        refine tv_aload_n C (pc := 32) dX3_takePart_32 rfl rfl ?_
        refine tv_bipush C (pc := 33) dX3_takePart_33 (v := (114 : Int32)) rfl ?_
        obtain ⟨q3, hq3, h⟩ := ts_bd h
        refine tv_callV C (pc := 35) dX3_takePart_35 (ci := 3) (q := (RX3, TX3, 8)) rfl yl_X3_42 (m_X3_takeSign (D := D) (dT := dT) (sz := sz) (ad := ad) hl (114 : Int32) q2.2 q3 hq3) (ts_live (k := 21) (by decide) (by decide) (by decide)) rfl (Nat.le_trans (Nat.le_of_ble_eq_true rfl) hdd) (As := [.inl (.int (114 : Int32))]) rfl ⟨Nat.le_of_ble_eq_true rfl, Nat.le_of_ble_eq_true rfl⟩ (fun _ => Nat.le_of_ble_eq_true rfl) rfl ?_
        refine tv_if_eq C (pc := 38) 66 dX3_takePart_38 (by decide) (fun hc => ?_) (fun hc => ?_)
        · have h := ts_ifp h hc
          refine tv_aload_n C (pc := 66) dX3_takePart_66 rfl rfl ?_
          refine tv_bipush C (pc := 67) dX3_takePart_67 (v := (119 : Int32)) rfl ?_
          obtain ⟨q4, hq4, h⟩ := ts_bd h
          refine tv_callV C (pc := 69) dX3_takePart_69 (ci := 3) (q := (RX3, TX3, 8)) rfl yl_X3_42 (m_X3_takeSign (D := D) (dT := dT) (sz := sz) (ad := ad) hl (119 : Int32) q3.2 q4 hq4) (ts_live (k := 21) (by decide) (by decide) (by decide)) rfl (Nat.le_trans (Nat.le_of_ble_eq_true rfl) hdd) (As := [.inl (.int (119 : Int32))]) rfl ⟨Nat.le_of_ble_eq_true rfl, Nat.le_of_ble_eq_true rfl⟩ (fun _ => Nat.le_of_ble_eq_true rfl) rfl ?_
          refine tv_if_eq C (pc := 72) 80 dX3_takePart_72 (by decide) (fun hc => ?_) (fun hc => ?_)
          · have h := ts_ifp h hc
            refine tv_aload_n C (pc := 80) dX3_takePart_80 rfl rfl ?_
            refine tv_bipush C (pc := 81) dX3_takePart_81 (v := (97 : Int32)) rfl ?_
            obtain ⟨q5, hq5, h⟩ := ts_bd h
            refine tv_callV C (pc := 83) dX3_takePart_83 (ci := 3) (q := (RX3, TX3, 8)) rfl yl_X3_42 (m_X3_takeSign (D := D) (dT := dT) (sz := sz) (ad := ad) hl (97 : Int32) q4.2 q5 hq5) (ts_live (k := 21) (by decide) (by decide) (by decide)) rfl (Nat.le_trans (Nat.le_of_ble_eq_true rfl) hdd) (As := [.inl (.int (97 : Int32))]) rfl ⟨Nat.le_of_ble_eq_true rfl, Nat.le_of_ble_eq_true rfl⟩ (fun _ => Nat.le_of_ble_eq_true rfl) rfl ?_
            refine tv_if_eq C (pc := 86) 100 dX3_takePart_86 (by decide) (fun hc => ?_) (fun hc => ?_)
            · have h := ts_ifp h hc
              refine tv_iconst C (pc := 100) dX3_takePart_100 (v := (0 : Int32)) rfl ?_
              cases h
              exact tv_zret C (pc := 101) (v := (0 : Int32)) rfl ts_nz0 dX3_takePart_101 ⟨Nat.le_of_ble_eq_true rfl, Nat.le_of_ble_eq_true rfl⟩
            · have h := ts_ifn h hc
              refine tv_aload_n C (pc := 89) dX3_takePart_89 rfl rfl ?_
              obtain ⟨q6, hq6, h⟩ := ts_bd h
              refine tv_callV C (pc := 90) dX3_takePart_90 (ci := 3) (q := (RX3, TX3, 8)) rfl yl_X3_57 (m_X3_takeAddition (D := D) (dT := dT) (sz := sz) (ad := ad) hl  q5.2 q6 hq6) (ts_live (k := 21) (by decide) (by decide) (by decide)) rfl (Nat.le_trans (Nat.le_of_ble_eq_true rfl) hdd) (As := []) rfl ⟨Nat.le_of_ble_eq_true rfl, Nat.le_of_ble_eq_true rfl⟩ (fun _ => Nat.le_of_ble_eq_true rfl) rfl ?_
              refine tv_if_eq C (pc := 93) 100 dX3_takePart_93 (by decide) (fun hc => ?_) (fun hc => ?_)
              · have h := ts_ifp h hc
                refine tv_iconst C (pc := 100) dX3_takePart_100 (v := (0 : Int32)) rfl ?_
                cases h
                exact tv_zret C (pc := 101) (v := (0 : Int32)) rfl ts_nz0 dX3_takePart_101 ⟨Nat.le_of_ble_eq_true rfl, Nat.le_of_ble_eq_true rfl⟩
              · have h := ts_ifn h hc
                refine tv_iconst C (pc := 96) dX3_takePart_96 (v := (1 : Int32)) rfl ?_
                refine tv_goto C (pc := 97) 101 dX3_takePart_97 (by decide) ?_
                cases h
                exact tv_zret C (pc := 101) (v := (1 : Int32)) rfl ts_nz1 dX3_takePart_101 ⟨Nat.le_of_ble_eq_true rfl, Nat.le_of_ble_eq_true rfl⟩
          · have h := ts_ifn h hc
            refine tv_aload_n C (pc := 75) dX3_takePart_75 rfl rfl ?_
            obtain ⟨q7, hq7, h⟩ := ts_bd h
            refine tv_callV C (pc := 76) dX3_takePart_76 (ci := 3) (q := (RX3, TX3, 8)) rfl yl_X3_54 (m_X3_takeWrite (D := D) (dT := dT) (sz := sz) (ad := ad) hl  q4.2 q7 hq7) (ts_live (k := 21) (by decide) (by decide) (by decide)) rfl (Nat.le_trans (Nat.le_of_ble_eq_true rfl) hdd) (As := []) rfl ⟨Nat.le_of_ble_eq_true rfl, Nat.le_of_ble_eq_true rfl⟩ (fun _ => Nat.le_of_ble_eq_true rfl) rfl ?_
            obtain ⟨hgz, h⟩ := ts_gd h
            cases h
            exact tv_zret C (pc := 79) rfl (ts_nz hgz).1 dX3_takePart_79 ⟨Nat.le_of_ble_eq_true rfl, Nat.le_of_ble_eq_true rfl⟩
        · have h := ts_ifn h hc
          refine tv_aload_n C (pc := 41) dX3_takePart_41 rfl rfl ?_
          obtain ⟨q8, hq8, h⟩ := ts_bd h
          refine tv_callV C (pc := 42) dX3_takePart_42 (ci := 3) (q := (RX3, TX3, 8)) rfl yl_X3_46 (m_X3_takeItem (D := D) (dT := dT) (sz := sz) (ad := ad) hl  q3.2 q8 hq8) (ts_live (k := 21) (by decide) (by decide) (by decide)) rfl (Nat.le_trans (Nat.le_of_ble_eq_true rfl) hdd) (As := []) rfl ⟨Nat.le_of_ble_eq_true rfl, Nat.le_of_ble_eq_true rfl⟩ (fun _ => Nat.le_of_ble_eq_true rfl) rfl ?_
          refine tv_istore_n C (pc := 45) dX3_takePart_45 (L' := [some (.inr (21, 0, 0)), some (.inl (.int q8.1))]) rfl (by decide) rfl rfl ?_
          refine tv_iload_n C (pc := 46) dX3_takePart_46 rfl rfl ?_
          refine tv_if_lt C (pc := 47) 64 dX3_takePart_47 (by decide) (fun hc => ?_) (fun hc => ?_)
          · have h := ts_ifp h hc
            refine tv_iconst C (pc := 64) dX3_takePart_64 (v := (0 : Int32)) rfl ?_
            cases h
            exact tv_zret C (pc := 65) (v := (0 : Int32)) rfl ts_nz0 dX3_takePart_65 ⟨Nat.le_of_ble_eq_true rfl, Nat.le_of_ble_eq_true rfl⟩
          · have h := ts_ifn h hc
            refine tv_aload_n C (pc := 50) dX3_takePart_50 rfl rfl ?_
            refine tv_iconst C (pc := 51) dX3_takePart_51 (v := (0 : Int32)) rfl ?_
            refine tv_iload_n C (pc := 52) dX3_takePart_52 rfl rfl ?_
            refine tv_iconst C (pc := 53) dX3_takePart_53 (v := (0 : Int32)) rfl ?_
            obtain ⟨q9, hq9, h⟩ := ts_bd h
            refine tv_callV C (pc := 54) dX3_takePart_54 (ci := 3) (q := (RX3, TX3, 8)) rfl yl_X3_50 (m_X3_keepOperation (D := D) (dT := dT) (sz := sz) (ad := ad) hl (0 : Int32) q8.1 (0 : Int32) q8.2 q9 hq9) (ts_live (k := 21) (by decide) (by decide) (by decide)) rfl (Nat.le_trans (Nat.le_of_ble_eq_true rfl) hdd) (As := [.inl (.int (0 : Int32)), .inl (.int q8.1), .inl (.int (0 : Int32))]) rfl ⟨Nat.le_of_ble_eq_true rfl, Nat.le_of_ble_eq_true rfl⟩ (fun _ => Nat.le_of_ble_eq_true rfl) rfl ?_
            refine tv_if_eq C (pc := 57) 64 dX3_takePart_57 (by decide) (fun hc => ?_) (fun hc => ?_)
            · have h := ts_ifp h hc
              refine tv_iconst C (pc := 64) dX3_takePart_64 (v := (0 : Int32)) rfl ?_
              cases h
              exact tv_zret C (pc := 65) (v := (0 : Int32)) rfl ts_nz0 dX3_takePart_65 ⟨Nat.le_of_ble_eq_true rfl, Nat.le_of_ble_eq_true rfl⟩
            · have h := ts_ifn h hc
              refine tv_iconst C (pc := 60) dX3_takePart_60 (v := (1 : Int32)) rfl ?_
              refine tv_goto C (pc := 61) 65 dX3_takePart_61 (by decide) ?_
              cases h
              exact tv_zret C (pc := 65) (v := (1 : Int32)) rfl ts_nz1 dX3_takePart_65 ⟨Nat.le_of_ble_eq_true rfl, Nat.le_of_ble_eq_true rfl⟩
      · have h := ts_ifn h hc
        refine tv_aload_n C (pc := 25) dX3_takePart_25 rfl rfl ?_
        refine tv_iconst C (pc := 26) dX3_takePart_26 (v := (2 : Int32)) rfl ?_
        refine tv_putI C (pc := 27) dX3_takePart_27 fp_X3_29 (ts_live (k := 21) (by decide) (by decide) (by decide)) rfl (cd := 0) rfl (by decide) rfl rfl ?_
        refine tv_nu (fun u10 hu10 => ?_)
        have h := ts_lt h hu10
        refine tv_iconst C (pc := 30) dX3_takePart_30 (v := (1 : Int32)) rfl ?_
        cases h
        exact tv_zret C (pc := 31) (v := (1 : Int32)) rfl ts_nz1 dX3_takePart_31 ⟨Nat.le_of_ble_eq_true rfl, Nat.le_of_ble_eq_true rfl⟩
    · have h := ts_ifn h hc
      refine tv_aload_n C (pc := 9) dX3_takePart_9 rfl rfl ?_
      refine tv_iconst C (pc := 10) dX3_takePart_10 (v := (1 : Int32)) rfl ?_
      refine tv_putI C (pc := 11) dX3_takePart_11 fp_X3_29 (ts_live (k := 21) (by decide) (by decide) (by decide)) rfl (cd := 0) rfl (by decide) rfl rfl ?_
      refine tv_nu (fun u11 hu11 => ?_)
      have h := ts_lt h hu11
      refine tv_iconst C (pc := 14) dX3_takePart_14 (v := (1 : Int32)) rfl ?_
      cases h
      exact tv_zret C (pc := 15) (v := (1 : Int32)) rfl ts_nz1 dX3_takePart_15 ⟨Nat.le_of_ble_eq_true rfl, Nat.le_of_ble_eq_true rfl⟩
set_option maxRecDepth 100000 in
set_option maxHeartbeats 4000000 in
theorem lt_X3_parse_26 {D : va_G} {dT : Nat → ClassId} {sz : Nat} {p : Program} {l : Launch} {e : Env} {R : Room} {s : State} {m : MethodId} {args : Array Value} {below : List Frame} {meth : Method} {c : Code} {d : Nat} {ad : ts_I → Nat} {kk nn : Nat} {Q : State → Prop} (hl : l.stackTraces = false) (C : ts_CX D dT sz p l R s m args meth c RX3 cX3_parse 2 (some .int) d) (hdd : 4 ≤ d)  (hkn : kk ≤ R.cells ∧ nn ≤ R.slots) : ∀ (n : Nat) (v1 : Int32) (u : ts_Mem) (q : Int32) (u2 : ts_Mem) (h : lp_X3_parse_26 n v1 u = some (.inl q, u2)) (K : ts_V D dT sz p l e R s m args below meth c 2 Q ad ts_lv ts_R0 84 [some (.inr (21, 0, 0)), some (.inl (.int q))] [] u2 kk nn), ts_V D dT sz p l e R s m args below meth c 2 Q ad ts_lv ts_R0 26 [some (.inr (21, 0, 0)), some (.inl (.int v1))] [] u kk nn
  | 0, _, _, _, _, h, _ => by cases h
  | n + 1, v1, u, q, u2, h, K => by
      rw [lp_X3_parse_26] at h
      refine tv_iload_n C (pc := 26) dX3_parse_26 rfl rfl ?_
      refine tv_bipush C (pc := 27) dX3_parse_27 (v := (60 : Int32)) rfl ?_
      refine tv_icmp_ge C (pc := 29) 84 dX3_parse_29 (by decide) (fun hc => ?_) (fun hc => ?_)
      · have h := ts_ifp h hc
        cases h
        exact K
      · have h := ts_ifn h hc
        refine tv_aload_n C (pc := 32) dX3_parse_32 rfl rfl ?_
        obtain ⟨q4, hq4, h⟩ := ts_bd h
        refine tv_callV C (pc := 33) dX3_parse_33 (ci := 3) (q := (RX3, TX3, 8)) rfl yl_X3_38 (m_X3_takePart (D := D) (dT := dT) (sz := sz) (ad := ad) hl  u q4 hq4) (ts_live (k := 21) (by decide) (by decide) (by decide)) rfl (Nat.le_trans (Nat.le_of_ble_eq_true rfl) hdd) (As := []) rfl ⟨hkn.1, hkn.2⟩ (fun _ => Nat.le_of_ble_eq_true rfl) rfl ?_
        refine tv_if_ne C (pc := 36) 44 dX3_parse_36 (by decide) (fun hc => ?_) (fun hc => ?_)
        · have h := ts_ifn h hc
          refine tv_aload_n C (pc := 44) dX3_parse_44 rfl rfl ?_
          refine tv_getI C (pc := 45) dX3_parse_45 fl_X3_32 (ts_live (k := 21) (by decide) (by decide) (by decide)) rfl (cd := 0) rfl (by decide) ?_
          refine tv_aload_n C (pc := 48) dX3_parse_48 rfl rfl ?_
          refine tv_getI C (pc := 49) dX3_parse_49 fl_X3_35 (ts_live (k := 21) (by decide) (by decide) (by decide)) rfl (cd := 0) rfl (by decide) ?_
          refine tv_icmp_ne C (pc := 52) 57 dX3_parse_52 (by decide) (fun hc => ?_) (fun hc => ?_)
          · have h := ts_ifn h hc
            refine tv_aload_n C (pc := 57) dX3_parse_57 rfl rfl ?_
            refine tv_getI C (pc := 58) dX3_parse_58 fl_X3_29 (ts_live (k := 21) (by decide) (by decide) (by decide)) rfl (cd := 0) rfl (by decide) ?_
            refine tv_if_ne C (pc := 61) 73 dX3_parse_61 (by decide) (fun hc => ?_) (fun hc => ?_)
            · have h := ts_ifn h hc
              refine tv_aload_n C (pc := 73) dX3_parse_73 rfl rfl ?_
              refine tv_getI C (pc := 74) dX3_parse_74 fl_X3_32 (ts_live (k := 21) (by decide) (by decide) (by decide)) rfl (cd := 0) rfl (by decide) ?_
              cases h
            · have h := ts_ifp h hc
              refine tv_aload_n C (pc := 64) dX3_parse_64 rfl rfl ?_
              refine tv_bipush C (pc := 65) dX3_parse_65 (v := (32 : Int32)) rfl ?_
              obtain ⟨q5, hq5, h⟩ := ts_bd h
              refine tv_callV C (pc := 67) dX3_parse_67 (ci := 3) (q := (RX3, TX3, 8)) rfl yl_X3_42 (m_X3_takeSign (D := D) (dT := dT) (sz := sz) (ad := ad) hl (32 : Int32) q4.2 q5 hq5) (ts_live (k := 21) (by decide) (by decide) (by decide)) rfl (Nat.le_trans (Nat.le_of_ble_eq_true rfl) hdd) (As := [.inl (.int (32 : Int32))]) rfl ⟨hkn.1, hkn.2⟩ (fun _ => Nat.le_of_ble_eq_true rfl) rfl ?_
              refine tv_if_ne C (pc := 70) 78 dX3_parse_70 (by decide) (fun hc => ?_) (fun hc => ?_)
              · have h := ts_ifn h hc
                refine tv_iinc C (pc := 78) dX3_parse_78 (v := (v1 + (1 : Int32))) (L' := [some (.inr (21, 0, 0)), some (.inl (.int (v1 + (1 : Int32))))]) rfl rfl (by decide) rfl rfl ?_
                refine tv_goto C (pc := 81) 26 dX3_parse_81 (by decide) ?_
                exact lt_X3_parse_26 hl C hdd  hkn n (v1 + (1 : Int32)) q5.2 q u2 h K
              · have h := ts_ifp h hc
                refine tv_aload_n C (pc := 73) dX3_parse_73 rfl rfl ?_
                refine tv_getI C (pc := 74) dX3_parse_74 fl_X3_32 (ts_live (k := 21) (by decide) (by decide) (by decide)) rfl (cd := 0) rfl (by decide) ?_
                cases h
          · have h := ts_ifp h hc
            refine tv_iconst C (pc := 55) dX3_parse_55 (v := (-1 : Int32)) rfl ?_
            cases h
        · have h := ts_ifp h hc
          refine tv_aload_n C (pc := 39) dX3_parse_39 rfl rfl ?_
          refine tv_getI C (pc := 40) dX3_parse_40 fl_X3_32 (ts_live (k := 21) (by decide) (by decide) (by decide)) rfl (cd := 0) rfl (by decide) ?_
          cases h
set_option maxRecDepth 100000 in
set_option maxHeartbeats 4000000 in
theorem lt_X3_parse_26r {D : va_G} {dT : Nat → ClassId} {sz : Nat} {p : Program} {l : Launch} {e : Env} {R : Room} {s : State} {m : MethodId} {args : Array Value} {below : List Frame} {meth : Method} {c : Code} {d : Nat} {ad : ts_I → Nat} {kk nn : Nat} {mm nm : Nat} (hl : l.stackTraces = false) (C : ts_CX D dT sz p l R s m args meth c RX3 cX3_parse 2 (some .int) d) (hdd : 4 ≤ d)  (hkn : kk ≤ R.cells ∧ nn ≤ R.slots) (hmm : kk ≤ mm ∧ nn ≤ nm) : ∀ (n : Nat) (v1 : Int32) (u : ts_Mem) (q : Int32) (u2 : ts_Mem) (h : lp_X3_parse_26 n v1 u = some (.inr q, u2)) (K : True), ts_V D dT sz p l e R s m args below meth c 2 (ts_Q below D dT sz ad ts_lv ts_R0 (.inl (some (.int q))) u2 args s mm nm) ad ts_lv ts_R0 26 [some (.inr (21, 0, 0)), some (.inl (.int v1))] [] u kk nn
  | 0, _, _, _, _, h, _ => by cases h
  | n + 1, v1, u, q, u2, h, K => by
      rw [lp_X3_parse_26] at h
      refine tv_iload_n C (pc := 26) dX3_parse_26 rfl rfl ?_
      refine tv_bipush C (pc := 27) dX3_parse_27 (v := (60 : Int32)) rfl ?_
      refine tv_icmp_ge C (pc := 29) 84 dX3_parse_29 (by decide) (fun hc => ?_) (fun hc => ?_)
      · have h := ts_ifp h hc
        cases h
      · have h := ts_ifn h hc
        refine tv_aload_n C (pc := 32) dX3_parse_32 rfl rfl ?_
        obtain ⟨q4, hq4, h⟩ := ts_bd h
        refine tv_callV C (pc := 33) dX3_parse_33 (ci := 3) (q := (RX3, TX3, 8)) rfl yl_X3_38 (m_X3_takePart (D := D) (dT := dT) (sz := sz) (ad := ad) hl  u q4 hq4) (ts_live (k := 21) (by decide) (by decide) (by decide)) rfl (Nat.le_trans (Nat.le_of_ble_eq_true rfl) hdd) (As := []) rfl ⟨hkn.1, hkn.2⟩ (fun _ => Nat.le_of_ble_eq_true rfl) rfl ?_
        refine tv_if_ne C (pc := 36) 44 dX3_parse_36 (by decide) (fun hc => ?_) (fun hc => ?_)
        · have h := ts_ifn h hc
          refine tv_aload_n C (pc := 44) dX3_parse_44 rfl rfl ?_
          refine tv_getI C (pc := 45) dX3_parse_45 fl_X3_32 (ts_live (k := 21) (by decide) (by decide) (by decide)) rfl (cd := 0) rfl (by decide) ?_
          refine tv_aload_n C (pc := 48) dX3_parse_48 rfl rfl ?_
          refine tv_getI C (pc := 49) dX3_parse_49 fl_X3_35 (ts_live (k := 21) (by decide) (by decide) (by decide)) rfl (cd := 0) rfl (by decide) ?_
          refine tv_icmp_ne C (pc := 52) 57 dX3_parse_52 (by decide) (fun hc => ?_) (fun hc => ?_)
          · have h := ts_ifn h hc
            refine tv_aload_n C (pc := 57) dX3_parse_57 rfl rfl ?_
            refine tv_getI C (pc := 58) dX3_parse_58 fl_X3_29 (ts_live (k := 21) (by decide) (by decide) (by decide)) rfl (cd := 0) rfl (by decide) ?_
            refine tv_if_ne C (pc := 61) 73 dX3_parse_61 (by decide) (fun hc => ?_) (fun hc => ?_)
            · have h := ts_ifn h hc
              refine tv_aload_n C (pc := 73) dX3_parse_73 rfl rfl ?_
              refine tv_getI C (pc := 74) dX3_parse_74 fl_X3_32 (ts_live (k := 21) (by decide) (by decide) (by decide)) rfl (cd := 0) rfl (by decide) ?_
              cases h
              exact tv_iret C (pc := 77) rfl dX3_parse_77 ⟨hmm.1, hmm.2⟩
            · have h := ts_ifp h hc
              refine tv_aload_n C (pc := 64) dX3_parse_64 rfl rfl ?_
              refine tv_bipush C (pc := 65) dX3_parse_65 (v := (32 : Int32)) rfl ?_
              obtain ⟨q5, hq5, h⟩ := ts_bd h
              refine tv_callV C (pc := 67) dX3_parse_67 (ci := 3) (q := (RX3, TX3, 8)) rfl yl_X3_42 (m_X3_takeSign (D := D) (dT := dT) (sz := sz) (ad := ad) hl (32 : Int32) q4.2 q5 hq5) (ts_live (k := 21) (by decide) (by decide) (by decide)) rfl (Nat.le_trans (Nat.le_of_ble_eq_true rfl) hdd) (As := [.inl (.int (32 : Int32))]) rfl ⟨hkn.1, hkn.2⟩ (fun _ => Nat.le_of_ble_eq_true rfl) rfl ?_
              refine tv_if_ne C (pc := 70) 78 dX3_parse_70 (by decide) (fun hc => ?_) (fun hc => ?_)
              · have h := ts_ifn h hc
                refine tv_iinc C (pc := 78) dX3_parse_78 (v := (v1 + (1 : Int32))) (L' := [some (.inr (21, 0, 0)), some (.inl (.int (v1 + (1 : Int32))))]) rfl rfl (by decide) rfl rfl ?_
                refine tv_goto C (pc := 81) 26 dX3_parse_81 (by decide) ?_
                exact lt_X3_parse_26r hl C hdd  hkn hmm n (v1 + (1 : Int32)) q5.2 q u2 h K
              · have h := ts_ifp h hc
                refine tv_aload_n C (pc := 73) dX3_parse_73 rfl rfl ?_
                refine tv_getI C (pc := 74) dX3_parse_74 fl_X3_32 (ts_live (k := 21) (by decide) (by decide) (by decide)) rfl (cd := 0) rfl (by decide) ?_
                cases h
                exact tv_iret C (pc := 77) rfl dX3_parse_77 ⟨hmm.1, hmm.2⟩
          · have h := ts_ifp h hc
            refine tv_iconst C (pc := 55) dX3_parse_55 (v := (-1 : Int32)) rfl ?_
            cases h
            exact tv_iret C (pc := 56) rfl dX3_parse_56 ⟨hmm.1, hmm.2⟩
        · have h := ts_ifp h hc
          refine tv_aload_n C (pc := 39) dX3_parse_39 rfl rfl ?_
          refine tv_getI C (pc := 40) dX3_parse_40 fl_X3_32 (ts_live (k := 21) (by decide) (by decide) (by decide)) rfl (cd := 0) rfl (by decide) ?_
          cases h
          exact tv_iret C (pc := 43) rfl dX3_parse_43 ⟨hmm.1, hmm.2⟩
set_option maxRecDepth 100000 in
set_option maxHeartbeats 4000000 in
theorem m_X3_parse {l : Launch} {D : va_G} {dT : Nat → ClassId} {sz : Nat} {ad : ts_I → Nat} (hl : l.stackTraces = false)  (u : ts_Mem) (r : (Int32 × ts_Mem)) (h : f_X3_parse  u = some r) : ts_M l D dT sz yX3_parse wX3_parse 4 0 0 ad ts_lv ts_R0 [.inr (21, 0, 0)] u (.inl (some (.int r.1))) r.2 := by
    unfold f_X3_parse at h
    refine ts_enter hl (by decide) rfl rfl (Nat.le_of_ble_eq_true rfl) ?_
    intro p e s m args below meth c C hX hnm
    have C : ts_CX D dT sz p l (ts_rm 4 0 0) s m args meth c RX3 cX3_parse 2 (some .int) 4 := C
    have hdd : 4 ≤ 4 := Nat.le_refl _
    refine tv_aload_n C (pc := 0) dX3_parse_0 rfl rfl ?_
    refine tv_iconst C (pc := 1) dX3_parse_1 (v := (0 : Int32)) rfl ?_
    refine tv_putI C (pc := 2) dX3_parse_2 fp_X3_25 (ts_live (k := 21) (by decide) (by decide) (by decide)) rfl (cd := 0) rfl (by decide) rfl rfl ?_
    refine tv_nu (fun u1 hu1 => ?_)
    have h := ts_lt h hu1
    refine tv_aload_n C (pc := 5) dX3_parse_5 rfl rfl ?_
    refine tv_iconst C (pc := 6) dX3_parse_6 (v := (0 : Int32)) rfl ?_
    refine tv_putI C (pc := 7) dX3_parse_7 fp_X3_29 (ts_live (k := 21) (by decide) (by decide) (by decide)) rfl (cd := 0) rfl (by decide) rfl rfl ?_
    refine tv_nu (fun u2 hu2 => ?_)
    have h := ts_lt h hu2
    refine tv_aload_n C (pc := 10) dX3_parse_10 rfl rfl ?_
    refine tv_iconst C (pc := 11) dX3_parse_11 (v := (0 : Int32)) rfl ?_
    refine tv_putI C (pc := 12) dX3_parse_12 fp_X3_32 (ts_live (k := 21) (by decide) (by decide) (by decide)) rfl (cd := 0) rfl (by decide) rfl rfl ?_
    refine tv_nu (fun u3 hu3 => ?_)
    have h := ts_lt h hu3
    refine tv_aload_n C (pc := 15) dX3_parse_15 rfl rfl ?_
    refine tv_getI C (pc := 16) dX3_parse_16 fl_X3_35 (ts_live (k := 21) (by decide) (by decide) (by decide)) rfl (cd := 0) rfl (by decide) ?_
    refine tv_if_ne C (pc := 19) 24 dX3_parse_19 (by decide) (fun hc => ?_) (fun hc => ?_)
    · have h := ts_ifn h hc
      refine tv_iconst C (pc := 24) dX3_parse_24 (v := (0 : Int32)) rfl ?_
      refine tv_istore_n C (pc := 25) dX3_parse_25 (L' := [some (.inr (21, 0, 0)), some (.inl (.int (0 : Int32)))]) rfl (by decide) rfl rfl ?_
      obtain ⟨q6, hq6, h⟩ := ts_bd h
      obtain ⟨oq6, uq6⟩ := q6
      rcases oq6 with w7 | r8
      · have h := ts_eL h
        refine lt_X3_parse_26 hl C hdd  ⟨Nat.le_of_ble_eq_true rfl, Nat.le_of_ble_eq_true rfl⟩ ts_fu (0 : Int32) u3 w7 uq6 hq6 ?_
        refine tv_aload_n C (pc := 84) dX3_parse_84 rfl rfl ?_
        refine tv_getI C (pc := 85) dX3_parse_85 fl_X3_32 (ts_live (k := 21) (by decide) (by decide) (by decide)) rfl (cd := 0) rfl (by decide) ?_
        cases h
        exact tv_iret C (pc := 88) rfl dX3_parse_88 ⟨Nat.le_of_ble_eq_true rfl, Nat.le_of_ble_eq_true rfl⟩
      · have h := ts_eR h
        cases h
        exact lt_X3_parse_26r hl C hdd  ⟨Nat.le_of_ble_eq_true rfl, Nat.le_of_ble_eq_true rfl⟩ ⟨Nat.le_of_ble_eq_true rfl, Nat.le_of_ble_eq_true rfl⟩ ts_fu (0 : Int32) u3 _ _ hq6 trivial
    · have h := ts_ifp h hc
      refine tv_iconst C (pc := 22) dX3_parse_22 (v := (-1 : Int32)) rfl ?_
      cases h
      exact tv_iret C (pc := 23) rfl dX3_parse_23 ⟨Nat.le_of_ble_eq_true rfl, Nat.le_of_ble_eq_true rfl⟩
