set_option maxRecDepth 100000 in
set_option maxHeartbeats 8000000 in
theorem k_X5_init {l : Launch} {D : va_G} {dT : Nat → ClassId} {sz : Nat} (hl : l.stackTraces = false) (b i : Nat) (j m1 : Nat) (u : ts_Mem) (hj0 : ts_ORD[j]? = some (11, b, i)) (hj1 : ts_ORD[(j + 1)]? = some (12, b, i)) (hj2 : ts_ORD[(j + 2)]? = some (13, b, i)) (hj3 : ts_ORD[(j + 3)]? = some (14, b, i)) (hj4 : ts_ORD[(j + 4)]? = some (15, b, i)) (he0 : ts_EV[m1]? = some ((11, b, i), 6)) (he1 : ts_EV[(m1 + 1)]? = some ((11, b, i), 7)) (he2 : ts_EV[(m1 + 2)]? = some ((11, b, i), 8)) (he3 : ts_EV[(m1 + 3)]? = some ((11, b, i), 9)) (hz : ts_ZA (j + 1) u) (hr : ts_RA (j + 1) m1) : ts_MD l D dT sz yX5_init wqX5_init 0 4 80 [.inr (11, b, i)] (j + 1) m1 u (j + 5) (m1 + 4) u := by
    refine ts_enterD hl (by decide) rfl rfl (Nat.le_of_ble_eq_true rfl) ?_
    intro p e s m args below meth c C KA hnm h0 hsz
    have C : ts_CX D dT sz p l (ts_rm 0 4 80) s m args meth c RX5 cX5_init 1 none 0 := C
    refine tv_aload_n C (pc := 0) dX5_init_0 rfl rfl ?_
    refine tv_objInit C (pc := 1) dX5_init_1 oi_X5_3 ts_oi (fun _ => Nat.le_of_ble_eq_true rfl) ?_
    refine tv_aload_n C (pc := 4) dX5_init_4 rfl rfl ?_
    refine tv_bipush C (pc := 5) dX5_init_5 (v := (20 : Int32)) rfl ?_
    refine tv_newa0 C (pc := 7) dX5_init_7 (j := (j + 1)) ac_int (N := 20) (by decide) (by decide) (by decide) hj1 (i := (12, b, i)) rfl h0 (by omega) hz ⟨Nat.le_of_ble_eq_true rfl, Nat.le_of_ble_eq_true rfl⟩ ?_
    have hz := ts_ZA_m hz (Nat.le_succ _)
    have hr := ts_RA_m hr (Nat.le_succ _)
    refine tv_putRD C (pc := 9) dX5_init_9 (m1 := m1) ff_X5_9 (ts_lvm j hj0 (by omega)) rfl rfl hnm (fun _ => rfl) (fun _ => rfl) he0 rfl ?_
    have hr := ts_RA_w hr he0 (ts_lvm j hj0 (by omega))
    refine tv_aload_n C (pc := 12) dX5_init_12 rfl rfl ?_
    refine tv_bipush C (pc := 13) dX5_init_13 (v := (20 : Int32)) rfl ?_
    refine tv_newa0 C (pc := 15) dX5_init_15 (j := (j + 2)) ac_int (N := 20) (by decide) (by decide) (by decide) hj2 (i := (13, b, i)) rfl h0 (by omega) hz ⟨Nat.le_of_ble_eq_true rfl, Nat.le_of_ble_eq_true rfl⟩ ?_
    have hz := ts_ZA_m hz (Nat.le_succ _)
    have hr := ts_RA_m hr (Nat.le_succ _)
    refine tv_putRD C (pc := 17) dX5_init_17 (m1 := (m1 + 1)) ff_X5_15 (ts_lvm j hj0 (by omega)) rfl rfl hnm (fun _ => rfl) (fun _ => rfl) he1 rfl ?_
    have hr := ts_RA_w hr he1 (ts_lvm j hj0 (by omega))
    refine tv_aload_n C (pc := 20) dX5_init_20 rfl rfl ?_
    refine tv_bipush C (pc := 21) dX5_init_21 (v := (20 : Int32)) rfl ?_
    refine tv_newa0 C (pc := 23) dX5_init_23 (j := (j + 3)) ac_int (N := 20) (by decide) (by decide) (by decide) hj3 (i := (14, b, i)) rfl h0 (by omega) hz ⟨Nat.le_of_ble_eq_true rfl, Nat.le_of_ble_eq_true rfl⟩ ?_
    have hz := ts_ZA_m hz (Nat.le_succ _)
    have hr := ts_RA_m hr (Nat.le_succ _)
    refine tv_putRD C (pc := 25) dX5_init_25 (m1 := (m1 + 2)) ff_X5_18 (ts_lvm j hj0 (by omega)) rfl rfl hnm (fun _ => rfl) (fun _ => rfl) he2 rfl ?_
    have hr := ts_RA_w hr he2 (ts_lvm j hj0 (by omega))
    refine tv_aload_n C (pc := 28) dX5_init_28 rfl rfl ?_
    refine tv_bipush C (pc := 29) dX5_init_29 (v := (20 : Int32)) rfl ?_
    refine tv_newa0 C (pc := 31) dX5_init_31 (j := (j + 4)) ac_int (N := 20) (by decide) (by decide) (by decide) hj4 (i := (15, b, i)) rfl h0 (by omega) hz ⟨Nat.le_of_ble_eq_true rfl, Nat.le_of_ble_eq_true rfl⟩ ?_
    have hz := ts_ZA_m hz (Nat.le_succ _)
    have hr := ts_RA_m hr (Nat.le_succ _)
    refine tv_putRD C (pc := 33) dX5_init_33 (m1 := (m1 + 3)) ff_X5_21 (ts_lvm j hj0 (by omega)) rfl rfl hnm (fun _ => rfl) (fun _ => rfl) he3 rfl ?_
    have hr := ts_RA_w hr he3 (ts_lvm j hj0 (by omega))
    exact tv_vret C (pc := 36) rfl dX5_init_36 ⟨Nat.le_of_ble_eq_true rfl, Nat.le_of_ble_eq_true rfl⟩ 
set_option maxRecDepth 100000 in
set_option maxHeartbeats 8000000 in
theorem k_X1_init {l : Launch} {D : va_G} {dT : Nat → ClassId} {sz : Nat} (hl : l.stackTraces = false) (b i : Nat) (j m1 : Nat) (u : ts_Mem) (hj0 : ts_ORD[j]? = some (16, b, i)) (hj1 : ts_ORD[(j + 1)]? = some (17, b, i)) (hj2 : ts_ORD[(j + 2)]? = some (18, b, i)) (hj3 : ts_ORD[(j + 3)]? = some (19, b, i)) (hj4 : ts_ORD[(j + 4)]? = some (20, b, i)) (he0 : ts_EV[m1]? = some ((16, b, i), 1)) (he1 : ts_EV[(m1 + 1)]? = some ((16, b, i), 2)) (he2 : ts_EV[(m1 + 2)]? = some ((16, b, i), 3)) (he3 : ts_EV[(m1 + 3)]? = some ((16, b, i), 4)) (hz : ts_ZA (j + 1) u) (hr : ts_RA (j + 1) m1) : ts_MD l D dT sz yX1_init wqX1_init 0 4 68 [.inr (16, b, i)] (j + 1) m1 u (j + 5) (m1 + 4) (ts_sI (ts_sI u (16, b, i) 0 (1 : Int32)) (20, b, i) 0 (-1 : Int32)) := by
    refine ts_enterD hl (by decide) rfl rfl (Nat.le_of_ble_eq_true rfl) ?_
    intro p e s m args below meth c C KA hnm h0 hsz
    have C : ts_CX D dT sz p l (ts_rm 0 4 68) s m args meth c RX1 cX1_init 1 none 0 := C
    refine tv_aload_n C (pc := 0) dX1_init_0 rfl rfl ?_
    refine tv_objInit C (pc := 1) dX1_init_1 oi_X1_3 ts_oi (fun _ => Nat.le_of_ble_eq_true rfl) ?_
    refine tv_aload_n C (pc := 4) dX1_init_4 rfl rfl ?_
    refine tv_bipush C (pc := 5) dX1_init_5 (v := (17 : Int32)) rfl ?_
    refine tv_newa0 C (pc := 7) dX1_init_7 (j := (j + 1)) ac_int (N := 17) (by decide) (by decide) (by decide) hj1 (i := (17, b, i)) rfl h0 (by omega) hz ⟨Nat.le_of_ble_eq_true rfl, Nat.le_of_ble_eq_true rfl⟩ ?_
    have hz := ts_ZA_m hz (Nat.le_succ _)
    have hr := ts_RA_m hr (Nat.le_succ _)
    refine tv_putRD C (pc := 9) dX1_init_9 (m1 := m1) ff_X1_9 (ts_lvm j hj0 (by omega)) rfl rfl hnm (fun _ => rfl) (fun _ => rfl) he0 rfl ?_
    have hr := ts_RA_w hr he0 (ts_lvm j hj0 (by omega))
    refine tv_aload_n C (pc := 12) dX1_init_12 rfl rfl ?_
    refine tv_bipush C (pc := 13) dX1_init_13 (v := (17 : Int32)) rfl ?_
    refine tv_newa0 C (pc := 15) dX1_init_15 (j := (j + 2)) ac_int (N := 17) (by decide) (by decide) (by decide) hj2 (i := (18, b, i)) rfl h0 (by omega) hz ⟨Nat.le_of_ble_eq_true rfl, Nat.le_of_ble_eq_true rfl⟩ ?_
    have hz := ts_ZA_m hz (Nat.le_succ _)
    have hr := ts_RA_m hr (Nat.le_succ _)
    refine tv_putRD C (pc := 17) dX1_init_17 (m1 := (m1 + 1)) ff_X1_15 (ts_lvm j hj0 (by omega)) rfl rfl hnm (fun _ => rfl) (fun _ => rfl) he1 rfl ?_
    have hr := ts_RA_w hr he1 (ts_lvm j hj0 (by omega))
    refine tv_aload_n C (pc := 20) dX1_init_20 rfl rfl ?_
    refine tv_bipush C (pc := 21) dX1_init_21 (v := (17 : Int32)) rfl ?_
    refine tv_newa0 C (pc := 23) dX1_init_23 (j := (j + 3)) ac_int (N := 17) (by decide) (by decide) (by decide) hj3 (i := (19, b, i)) rfl h0 (by omega) hz ⟨Nat.le_of_ble_eq_true rfl, Nat.le_of_ble_eq_true rfl⟩ ?_
    have hz := ts_ZA_m hz (Nat.le_succ _)
    have hr := ts_RA_m hr (Nat.le_succ _)
    refine tv_putRD C (pc := 25) dX1_init_25 (m1 := (m1 + 2)) ff_X1_18 (ts_lvm j hj0 (by omega)) rfl rfl hnm (fun _ => rfl) (fun _ => rfl) he2 rfl ?_
    have hr := ts_RA_w hr he2 (ts_lvm j hj0 (by omega))
    refine tv_aload_n C (pc := 28) dX1_init_28 rfl rfl ?_
    refine tv_bipush C (pc := 29) dX1_init_29 (v := (17 : Int32)) rfl ?_
    refine tv_newa0 C (pc := 31) dX1_init_31 (j := (j + 4)) ac_int (N := 17) (by decide) (by decide) (by decide) hj4 (i := (20, b, i)) rfl h0 (by omega) hz ⟨Nat.le_of_ble_eq_true rfl, Nat.le_of_ble_eq_true rfl⟩ ?_
    have hz := ts_ZA_m hz (Nat.le_succ _)
    have hr := ts_RA_m hr (Nat.le_succ _)
    refine tv_putRD C (pc := 33) dX1_init_33 (m1 := (m1 + 3)) ff_X1_21 (ts_lvm j hj0 (by omega)) rfl rfl hnm (fun _ => rfl) (fun _ => rfl) he3 rfl ?_
    have hr := ts_RA_w hr he3 (ts_lvm j hj0 (by omega))
    refine tv_aload_n C (pc := 36) dX1_init_36 rfl rfl ?_
    refine tv_iconst C (pc := 37) dX1_init_37 (v := (1 : Int32)) rfl ?_
    refine tv_putI C (pc := 38) dX1_init_38 fp_X1_24 (ts_lvm j hj0 (by omega)) rfl (cd := 0) rfl (by decide) rfl rfl ?_
    have hz := ts_ZA_w (k := 0) (x := (1 : Int32)) hz (ts_lvm j hj0 (by omega))
    refine tv_aload_n C (pc := 41) dX1_init_41 rfl rfl ?_
    refine tv_getR C (pc := 42) dX1_init_42 fl_X1_21 (ts_lvm j hj0 (by omega)) rfl rfl (i2 := (20, b, i)) (ts_rfm (m1 + 3) he3 (by omega) rfl) ?_
    refine tv_iconst C (pc := 45) dX1_init_45 (v := (0 : Int32)) rfl ?_
    refine tv_iconst C (pc := 46) dX1_init_46 (v := (-1 : Int32)) rfl ?_
    refine tv_iastore C (pc := 47) dX1_init_47 (ts_lvm (j + 4) hj4 (by omega)) rfl (by decide) (j := 0) (by decide) ?_
    have hz := ts_ZA_w (k := 0) (x := (-1 : Int32)) hz (ts_lvm (j + 4) hj4 (by omega))
    exact tv_vret C (pc := 48) rfl dX1_init_48 ⟨Nat.le_of_ble_eq_true rfl, Nat.le_of_ble_eq_true rfl⟩ 
set_option maxRecDepth 100000 in
set_option maxHeartbeats 8000000 in
theorem k_X2_init {l : Launch} {D : va_G} {dT : Nat → ClassId} {sz : Nat} (hl : l.stackTraces = false) (b : Nat) (j m1 : Nat) (u : ts_Mem) (hj0 : ts_ORD[j]? = some (4, b, 0)) (hj1 : ts_ORD[(j + 1)]? = some (7, b, 0)) (hj2 : ts_ORD[(j + 2)]? = some (8, b, 0)) (hj3 : ts_ORD[(j + 3)]? = some (9, b, 0)) (hj4 : ts_ORD[(j + 4)]? = some (10, b, 0)) (he0 : ts_EV[m1]? = some ((4, b, 0), 2)) (he1 : ts_EV[(m1 + 1)]? = some ((4, b, 0), 3)) (he2 : ts_EV[(m1 + 2)]? = some ((4, b, 0), 4)) (he3 : ts_EV[(m1 + 3)]? = some ((4, b, 0), 5)) (hz : ts_ZA (j + 1) u) (hr : ts_RA (j + 1) m1) : ts_MD l D dT sz yX2_init wqX2_init 0 4 159 [.inr (4, b, 0)] (j + 1) m1 u (j + 5) (m1 + 4) u := by
    refine ts_enterD hl (by decide) rfl rfl (Nat.le_of_ble_eq_true rfl) ?_
    intro p e s m args below meth c C KA hnm h0 hsz
    have C : ts_CX D dT sz p l (ts_rm 0 4 159) s m args meth c RX2 cX2_init 1 none 0 := C
    refine tv_aload_n C (pc := 0) dX2_init_0 rfl rfl ?_
    refine tv_objInit C (pc := 1) dX2_init_1 oi_X2_3 ts_oi (fun _ => Nat.le_of_ble_eq_true rfl) ?_
    refine tv_aload_n C (pc := 4) dX2_init_4 rfl rfl ?_
    refine tv_bipush C (pc := 5) dX2_init_5 (v := (50 : Int32)) rfl ?_
    refine tv_newa0 C (pc := 7) dX2_init_7 (j := (j + 1)) ac_int (N := 50) (by decide) (by decide) (by decide) hj1 (i := (7, b, 0)) rfl h0 (by omega) hz ⟨Nat.le_of_ble_eq_true rfl, Nat.le_of_ble_eq_true rfl⟩ ?_
    have hz := ts_ZA_m hz (Nat.le_succ _)
    have hr := ts_RA_m hr (Nat.le_succ _)
    refine tv_putRD C (pc := 9) dX2_init_9 (m1 := m1) ff_X2_9 (ts_lvm j hj0 (by omega)) rfl rfl hnm (fun _ => rfl) (fun _ => rfl) he0 rfl ?_
    have hr := ts_RA_w hr he0 (ts_lvm j hj0 (by omega))
    refine tv_aload_n C (pc := 12) dX2_init_12 rfl rfl ?_
    refine tv_bipush C (pc := 13) dX2_init_13 (v := (50 : Int32)) rfl ?_
    refine tv_newa0 C (pc := 15) dX2_init_15 (j := (j + 2)) ac_int (N := 50) (by decide) (by decide) (by decide) hj2 (i := (8, b, 0)) rfl h0 (by omega) hz ⟨Nat.le_of_ble_eq_true rfl, Nat.le_of_ble_eq_true rfl⟩ ?_
    have hz := ts_ZA_m hz (Nat.le_succ _)
    have hr := ts_RA_m hr (Nat.le_succ _)
    refine tv_putRD C (pc := 17) dX2_init_17 (m1 := (m1 + 1)) ff_X2_15 (ts_lvm j hj0 (by omega)) rfl rfl hnm (fun _ => rfl) (fun _ => rfl) he1 rfl ?_
    have hr := ts_RA_w hr he1 (ts_lvm j hj0 (by omega))
    refine tv_aload_n C (pc := 20) dX2_init_20 rfl rfl ?_
    refine tv_bipush C (pc := 21) dX2_init_21 (v := (50 : Int32)) rfl ?_
    refine tv_newa0 C (pc := 23) dX2_init_23 (j := (j + 3)) ac_int (N := 50) (by decide) (by decide) (by decide) hj3 (i := (9, b, 0)) rfl h0 (by omega) hz ⟨Nat.le_of_ble_eq_true rfl, Nat.le_of_ble_eq_true rfl⟩ ?_
    have hz := ts_ZA_m hz (Nat.le_succ _)
    have hr := ts_RA_m hr (Nat.le_succ _)
    refine tv_putRD C (pc := 25) dX2_init_25 (m1 := (m1 + 2)) ff_X2_18 (ts_lvm j hj0 (by omega)) rfl rfl hnm (fun _ => rfl) (fun _ => rfl) he2 rfl ?_
    have hr := ts_RA_w hr he2 (ts_lvm j hj0 (by omega))
    refine tv_aload_n C (pc := 28) dX2_init_28 rfl rfl ?_
    refine tv_bipush C (pc := 29) dX2_init_29 (v := (9 : Int32)) rfl ?_
    refine tv_newa0 C (pc := 31) dX2_init_31 (j := (j + 4)) ac_int (N := 9) (by decide) (by decide) (by decide) hj4 (i := (10, b, 0)) rfl h0 (by omega) hz ⟨Nat.le_of_ble_eq_true rfl, Nat.le_of_ble_eq_true rfl⟩ ?_
    have hz := ts_ZA_m hz (Nat.le_succ _)
    have hr := ts_RA_m hr (Nat.le_succ _)
    refine tv_putRD C (pc := 33) dX2_init_33 (m1 := (m1 + 3)) ff_X2_21 (ts_lvm j hj0 (by omega)) rfl rfl hnm (fun _ => rfl) (fun _ => rfl) he3 rfl ?_
    have hr := ts_RA_w hr he3 (ts_lvm j hj0 (by omega))
    exact tv_vret C (pc := 36) rfl dX2_init_36 ⟨Nat.le_of_ble_eq_true rfl, Nat.le_of_ble_eq_true rfl⟩ 
set_option maxRecDepth 100000 in
set_option maxHeartbeats 8000000 in
theorem k_X3_init {l : Launch} {D : va_G} {dT : Nat → ClassId} {sz : Nat} (hl : l.stackTraces = false) (j m1 : Nat) (u : ts_Mem) (hj0 : ts_ORD[j]? = some (21, 0, 0)) (hj1 : ts_ORD[(j + 1)]? = some (22, 0, 0)) (hj2 : ts_ORD[(j + 2)]? = some (23, 0, 0)) (hj3 : ts_ORD[(j + 3)]? = some (24, 0, 0)) (hj4 : ts_ORD[(j + 4)]? = some (25, 0, 0)) (he0 : ts_EV[m1]? = some ((21, 0, 0), 1)) (he1 : ts_EV[(m1 + 1)]? = some ((21, 0, 0), 3)) (he2 : ts_EV[(m1 + 2)]? = some ((21, 0, 0), 4)) (he3 : ts_EV[(m1 + 3)]? = some ((21, 0, 0), 5)) (hz : ts_ZA (j + 1) u) (hr : ts_RA (j + 1) m1) : ts_MD l D dT sz yX3_init wqX3_init 0 4 120 [.inr (21, 0, 0)] (j + 1) m1 u (j + 5) (m1 + 4) u := by
    refine ts_enterD hl (by decide) rfl rfl (Nat.le_of_ble_eq_true rfl) ?_
    intro p e s m args below meth c C KA hnm h0 hsz
    have C : ts_CX D dT sz p l (ts_rm 0 4 120) s m args meth c RX3 cX3_init 1 none 0 := C
    refine tv_aload_n C (pc := 0) dX3_init_0 rfl rfl ?_
    refine tv_objInit C (pc := 1) dX3_init_1 oi_X3_3 ts_oi (fun _ => Nat.le_of_ble_eq_true rfl) ?_
    refine tv_aload_n C (pc := 4) dX3_init_4 rfl rfl ?_
    refine tv_bipush C (pc := 5) dX3_init_5 (v := (60 : Int32)) rfl ?_
    refine tv_newa1 C (pc := 7) dX3_init_7 (j := (j + 1)) ac_char (N := 60) (by decide) (by decide) (by decide) hj1 (i := (22, 0, 0)) rfl h0 (by omega) hz ⟨Nat.le_of_ble_eq_true rfl, Nat.le_of_ble_eq_true rfl⟩ ?_
    have hz := ts_ZA_m hz (Nat.le_succ _)
    have hr := ts_RA_m hr (Nat.le_succ _)
    refine tv_putRD C (pc := 9) dX3_init_9 (m1 := m1) ff_X3_9 (ts_lvm j hj0 (by omega)) rfl rfl hnm (fun _ => rfl) (fun _ => rfl) he0 rfl ?_
    have hr := ts_RA_w hr he0 (ts_lvm j hj0 (by omega))
    refine tv_aload_n C (pc := 12) dX3_init_12 rfl rfl ?_
    refine tv_bipush C (pc := 13) dX3_init_13 (v := (20 : Int32)) rfl ?_
    refine tv_newa0 C (pc := 15) dX3_init_15 (j := (j + 2)) ac_int (N := 20) (by decide) (by decide) (by decide) hj2 (i := (23, 0, 0)) rfl h0 (by omega) hz ⟨Nat.le_of_ble_eq_true rfl, Nat.le_of_ble_eq_true rfl⟩ ?_
    have hz := ts_ZA_m hz (Nat.le_succ _)
    have hr := ts_RA_m hr (Nat.le_succ _)
    refine tv_putRD C (pc := 17) dX3_init_17 (m1 := (m1 + 1)) ff_X3_15 (ts_lvm j hj0 (by omega)) rfl rfl hnm (fun _ => rfl) (fun _ => rfl) he1 rfl ?_
    have hr := ts_RA_w hr he1 (ts_lvm j hj0 (by omega))
    refine tv_aload_n C (pc := 20) dX3_init_20 rfl rfl ?_
    refine tv_bipush C (pc := 21) dX3_init_21 (v := (20 : Int32)) rfl ?_
    refine tv_newa0 C (pc := 23) dX3_init_23 (j := (j + 3)) ac_int (N := 20) (by decide) (by decide) (by decide) hj3 (i := (24, 0, 0)) rfl h0 (by omega) hz ⟨Nat.le_of_ble_eq_true rfl, Nat.le_of_ble_eq_true rfl⟩ ?_
    have hz := ts_ZA_m hz (Nat.le_succ _)
    have hr := ts_RA_m hr (Nat.le_succ _)
    refine tv_putRD C (pc := 25) dX3_init_25 (m1 := (m1 + 2)) ff_X3_19 (ts_lvm j hj0 (by omega)) rfl rfl hnm (fun _ => rfl) (fun _ => rfl) he2 rfl ?_
    have hr := ts_RA_w hr he2 (ts_lvm j hj0 (by omega))
    refine tv_aload_n C (pc := 28) dX3_init_28 rfl rfl ?_
    refine tv_bipush C (pc := 29) dX3_init_29 (v := (20 : Int32)) rfl ?_
    refine tv_newa0 C (pc := 31) dX3_init_31 (j := (j + 4)) ac_int (N := 20) (by decide) (by decide) (by decide) hj4 (i := (25, 0, 0)) rfl h0 (by omega) hz ⟨Nat.le_of_ble_eq_true rfl, Nat.le_of_ble_eq_true rfl⟩ ?_
    have hz := ts_ZA_m hz (Nat.le_succ _)
    have hr := ts_RA_m hr (Nat.le_succ _)
    refine tv_putRD C (pc := 33) dX3_init_33 (m1 := (m1 + 3)) ff_X3_22 (ts_lvm j hj0 (by omega)) rfl rfl hnm (fun _ => rfl) (fun _ => rfl) he3 rfl ?_
    have hr := ts_RA_w hr he3 (ts_lvm j hj0 (by omega))
    exact tv_vret C (pc := 36) rfl dX3_init_36 ⟨Nat.le_of_ble_eq_true rfl, Nat.le_of_ble_eq_true rfl⟩ 
set_option maxRecDepth 100000 in
set_option maxHeartbeats 8000000 in
theorem k_X4_init {l : Launch} {D : va_G} {dT : Nat → ClassId} {sz : Nat} (hl : l.stackTraces = false) (i : Nat) (j m1 : Nat) (u : ts_Mem) (hj0 : ts_ORD[j]? = some (27, 0, i)) (hj1 : ts_ORD[(j + 1)]? = some (28, 0, i)) (hj2 : ts_ORD[(j + 2)]? = some (29, 0, i)) (he0 : ts_EV[m1]? = some ((27, 0, i), 2)) (he1 : ts_EV[(m1 + 1)]? = some ((27, 0, i), 3)) (hz : ts_ZA (j + 1) u) (hr : ts_RA (j + 1) m1) : ts_MD l D dT sz yX4_init wqX4_init 0 2 60 [.inr (27, 0, i)] (j + 1) m1 u (j + 3) (m1 + 2) (ts_sI u (27, 0, i) 0 (-1 : Int32)) := by
    refine ts_enterD hl (by decide) rfl rfl (Nat.le_of_ble_eq_true rfl) ?_
    intro p e s m args below meth c C KA hnm h0 hsz
    have C : ts_CX D dT sz p l (ts_rm 0 2 60) s m args meth c RX4 cX4_init 1 none 0 := C
    refine tv_aload_n C (pc := 0) dX4_init_0 rfl rfl ?_
    refine tv_objInit C (pc := 1) dX4_init_1 oi_X4_3 ts_oi (fun _ => Nat.le_of_ble_eq_true rfl) ?_
    refine tv_aload_n C (pc := 4) dX4_init_4 rfl rfl ?_
    refine tv_iconst C (pc := 5) dX4_init_5 (v := (-1 : Int32)) rfl ?_
    refine tv_putI C (pc := 6) dX4_init_6 fp_X4_9 (ts_lvm j hj0 (by omega)) rfl (cd := 0) rfl (by decide) rfl rfl ?_
    have hz := ts_ZA_w (k := 0) (x := (-1 : Int32)) hz (ts_lvm j hj0 (by omega))
    refine tv_aload_n C (pc := 9) dX4_init_9 rfl rfl ?_
    refine tv_bipush C (pc := 10) dX4_init_10 (v := (30 : Int32)) rfl ?_
    refine tv_newa2 C (pc := 12) dX4_init_12 (j := (j + 1)) ac_float (N := 30) (by decide) (by decide) (by decide) hj1 (i := (28, 0, i)) rfl h0 (by omega) hz ⟨Nat.le_of_ble_eq_true rfl, Nat.le_of_ble_eq_true rfl⟩ ?_
    have hz := ts_ZA_m hz (Nat.le_succ _)
    have hr := ts_RA_m hr (Nat.le_succ _)
    refine tv_putRD C (pc := 14) dX4_init_14 (m1 := m1) ff_X4_15 (ts_lvm j hj0 (by omega)) rfl rfl hnm (fun _ => rfl) (fun _ => rfl) he0 rfl ?_
    have hr := ts_RA_w hr he0 (ts_lvm j hj0 (by omega))
    refine tv_aload_n C (pc := 17) dX4_init_17 rfl rfl ?_
    refine tv_bipush C (pc := 18) dX4_init_18 (v := (30 : Int32)) rfl ?_
    refine tv_newa0 C (pc := 20) dX4_init_20 (j := (j + 2)) ac_int (N := 30) (by decide) (by decide) (by decide) hj2 (i := (29, 0, i)) rfl h0 (by omega) hz ⟨Nat.le_of_ble_eq_true rfl, Nat.le_of_ble_eq_true rfl⟩ ?_
    have hz := ts_ZA_m hz (Nat.le_succ _)
    have hr := ts_RA_m hr (Nat.le_succ _)
    refine tv_putRD C (pc := 22) dX4_init_22 (m1 := (m1 + 1)) ff_X4_19 (ts_lvm j hj0 (by omega)) rfl rfl hnm (fun _ => rfl) (fun _ => rfl) he1 rfl ?_
    have hr := ts_RA_w hr he1 (ts_lvm j hj0 (by omega))
    exact tv_vret C (pc := 25) rfl dX4_init_25 ⟨Nat.le_of_ble_eq_true rfl, Nat.le_of_ble_eq_true rfl⟩ 
def ku_X0_init0 (u : ts_Mem) : ts_Mem := (ts_sI (ts_sI (ts_sI (ts_sI (ts_sI (ts_sI (ts_sI (ts_sI (ts_sI (ts_sI (ts_sI (ts_sI (ts_sI (ts_sI (ts_sI (ts_sI (ts_sI (ts_sI (ts_sI u (1, 0, 0) 0 (2 : Int32)) (1, 0, 0) 1 (1 : Int32)) (1, 0, 0) 2 (0 : Int32)) (16, 0, 0) 0 (1 : Int32)) (20, 0, 0) 0 (-1 : Int32)) (16, 0, 1) 0 (1 : Int32)) (20, 0, 1) 0 (-1 : Int32)) (16, 0, 2) 0 (1 : Int32)) (20, 0, 2) 0 (-1 : Int32)) (16, 0, 3) 0 (1 : Int32)) (20, 0, 3) 0 (-1 : Int32)) (16, 0, 4) 0 (1 : Int32)) (20, 0, 4) 0 (-1 : Int32)) (16, 0, 5) 0 (1 : Int32)) (20, 0, 5) 0 (-1 : Int32)) (16, 0, 6) 0 (1 : Int32)) (20, 0, 6) 0 (-1 : Int32)) (16, 0, 7) 0 (1 : Int32)) (20, 0, 7) 0 (-1 : Int32))
set_option maxRecDepth 100000 in
set_option maxHeartbeats 8000000 in
theorem k_X0_init0 {l : Launch} {D : va_G} {dT : Nat → ClassId} {sz : Nat} (hl : l.stackTraces = false) (u : ts_Mem) (hz : ts_ZA 2 u) (hr : ts_RA 2 0) : ts_MD l D dT sz yX0_init wqX0_init 1 129 2237 [.inr (1, 0, 0)] 2 0 u 131 129 (ku_X0_init0 u) := by
    unfold ku_X0_init0
    refine ts_enterD hl (by decide) rfl rfl (Nat.le_of_ble_eq_true rfl) ?_
    intro p e s m args below meth c C KA hnm h0 hsz
    have C : ts_CX D dT sz p l (ts_rm 1 129 2237) s m args meth c RX0 cX0_init 2 none 1 := C
    refine tv_aload_n C (pc := 0) dX0_init_0 rfl rfl ?_
    refine tv_objInit C (pc := 1) dX0_init_1 oi_X0_3 ts_oi (fun _ => Nat.le_of_ble_eq_true rfl) ?_
    refine tv_aload_n C (pc := 4) dX0_init_4 rfl rfl ?_
    refine tv_iconst C (pc := 5) dX0_init_5 (v := (2 : Int32)) rfl ?_
    refine tv_putI C (pc := 6) dX0_init_6 fp_X0_9 (ts_lvm 1 rfl (by omega)) rfl (cd := 0) rfl (by decide) rfl rfl ?_
    have hz := ts_ZA_w (k := 0) (x := (2 : Int32)) hz (ts_lvm 1 rfl (by omega))
    refine tv_aload_n C (pc := 9) dX0_init_9 rfl rfl ?_
    refine tv_iconst C (pc := 10) dX0_init_10 (v := (1 : Int32)) rfl ?_
    refine tv_putI C (pc := 11) dX0_init_11 fp_X0_15 (ts_lvm 1 rfl (by omega)) rfl (cd := 0) rfl (by decide) rfl rfl ?_
    have hz := ts_ZA_w (k := 1) (x := (1 : Int32)) hz (ts_lvm 1 rfl (by omega))
    refine tv_aload_n C (pc := 14) dX0_init_14 rfl rfl ?_
    refine tv_iconst C (pc := 15) dX0_init_15 (v := (0 : Int32)) rfl ?_
    refine tv_putI C (pc := 16) dX0_init_16 fp_X0_18 (ts_lvm 1 rfl (by omega)) rfl (cd := 0) rfl (by decide) rfl rfl ?_
    have hz := ts_ZA_w (k := 2) (x := (0 : Int32)) hz (ts_lvm 1 rfl (by omega))
    refine tv_aload_n C (pc := 19) dX0_init_19 rfl rfl ?_
    refine tv_bipush C (pc := 20) dX0_init_20 (v := (16 : Int32)) rfl ?_
    refine tv_anewa5 C KA (pc := 22) (j := 2) dX0_init_22 cn_X0_21 (N := 16) (by decide) (by decide) (by decide) rfl (i := (2, 0, 0)) rfl h0 (by omega) hr ⟨Nat.le_of_ble_eq_true rfl, Nat.le_of_ble_eq_true rfl⟩ ?_
    have hz := ts_ZA_m hz (Nat.le_succ _)
    have hr := ts_RA_m hr (Nat.le_succ _)
    refine tv_putRD C (pc := 25) dX0_init_25 (m1 := 0) ff_X0_23 (ts_lvm 1 rfl (by omega)) rfl rfl hnm (fun _ => rfl) (fun _ => rfl) rfl rfl ?_
    have hr := ts_RA_w hr rfl (ts_lvm 1 rfl (by omega))
    refine tv_iconst C (pc := 28) dX0_init_28 (v := (0 : Int32)) rfl ?_
    refine tv_istore_n C (pc := 29) dX0_init_29 (L' := [some (.inr (1, 0, 0)), some (.inl (.int (0 : Int32)))]) rfl (by decide) rfl rfl ?_
    refine tv_iload_n C (pc := 30) dX0_init_30 rfl rfl ?_
    refine tv_bipush C (pc := 31) dX0_init_31 (v := (16 : Int32)) rfl ?_
    refine tv_icmp_ge C (pc := 33) 55 dX0_init_33 (by decide) (fun hc => absurd hc (by decide)) (fun _ => ?_)
    refine tv_aload_n C (pc := 36) dX0_init_36 rfl rfl ?_
    refine tv_getR C (pc := 37) dX0_init_37 fl_X0_23 (ts_lvm 1 rfl (by omega)) rfl rfl (i2 := (2, 0, 0)) (ts_rfm 0 rfl (by decide) rfl) ?_
    refine tv_iload_n C (pc := 40) dX0_init_40 rfl rfl ?_
    refine tv_new C (pc := 41) dX0_init_41 (j := 3) nw_X0_21 (N := 10) rfl rfl (i := (11, 0, 0)) rfl h0 (by omega) hz hr ⟨Nat.le_of_ble_eq_true rfl, Nat.le_of_ble_eq_true rfl⟩ ?_
    have hz := ts_ZA_m hz (Nat.le_succ _)
    have hr := ts_RA_m hr (Nat.le_succ _)
    refine tv_dup C (pc := 44) dX0_init_44 (fun _ => rfl) ?_
    refine tv_callIN C KA (pc := 45) dX0_init_45 rfl ni_X0_27.1 ni_X0_27.2.1 (by decide) ni_X0_27.2.2 (k_X5_init (D := D) (dT := dT) (sz := sz) hl 0 0 3 1 _ rfl rfl rfl rfl rfl rfl rfl rfl rfl hz hr) (Nat.le_of_ble_eq_true rfl) h0 (by omega) (by decide) ⟨Nat.le_of_ble_eq_true rfl, Nat.le_of_ble_eq_true rfl⟩ (fun _ => Nat.le_of_ble_eq_true rfl) ?_
    have hz := ts_ZA_m hz (show 4 ≤ 8 by decide)
    have hr := ts_ra_8_5
    refine tv_aast5 C (pc := 48) dX0_init_48 (m1 := 5) (ts_lvm 2 rfl (by omega)) rfl (by decide) (a := 0) (by decide) (ts_lvm 3 rfl (by omega)) rfl (q2 := (RX5, TX5, 10)) rfl rfl rfl rfl ?_
    have hr := ts_RA_w hr (show ts_EV[5]? = some ((2, 0, 0), 0) from rfl) (ts_lvm 2 rfl (by omega))
    refine tv_iinc C (pc := 49) dX0_init_49 (v := (1 : Int32)) (L' := [some (.inr (1, 0, 0)), some (.inl (.int (1 : Int32)))]) rfl rfl (by decide) rfl rfl ?_
    refine tv_goto C (pc := 52) 30 dX0_init_52 (by decide) ?_
    refine tv_iload_n C (pc := 30) dX0_init_30 rfl rfl ?_
    refine tv_bipush C (pc := 31) dX0_init_31 (v := (16 : Int32)) rfl ?_
    refine tv_icmp_ge C (pc := 33) 55 dX0_init_33 (by decide) (fun hc => absurd hc (by decide)) (fun _ => ?_)
    refine tv_aload_n C (pc := 36) dX0_init_36 rfl rfl ?_
    refine tv_getR C (pc := 37) dX0_init_37 fl_X0_23 (ts_lvm 1 rfl (by omega)) rfl rfl (i2 := (2, 0, 0)) (ts_rfm 0 rfl (by decide) rfl) ?_
    refine tv_iload_n C (pc := 40) dX0_init_40 rfl rfl ?_
    refine tv_new C (pc := 41) dX0_init_41 (j := 8) nw_X0_21 (N := 10) rfl rfl (i := (11, 0, 1)) rfl h0 (by omega) hz hr ⟨Nat.le_of_ble_eq_true rfl, Nat.le_of_ble_eq_true rfl⟩ ?_
    have hz := ts_ZA_m hz (Nat.le_succ _)
    have hr := ts_RA_m hr (Nat.le_succ _)
    refine tv_dup C (pc := 44) dX0_init_44 (fun _ => rfl) ?_
    refine tv_callIN C KA (pc := 45) dX0_init_45 rfl ni_X0_27.1 ni_X0_27.2.1 (by decide) ni_X0_27.2.2 (k_X5_init (D := D) (dT := dT) (sz := sz) hl 0 1 8 6 _ rfl rfl rfl rfl rfl rfl rfl rfl rfl hz hr) (Nat.le_of_ble_eq_true rfl) h0 (by omega) (by decide) ⟨Nat.le_of_ble_eq_true rfl, Nat.le_of_ble_eq_true rfl⟩ (fun _ => Nat.le_of_ble_eq_true rfl) ?_
    have hz := ts_ZA_m hz (show 9 ≤ 13 by decide)
    have hr := ts_ra_13_10
    refine tv_aast5 C (pc := 48) dX0_init_48 (m1 := 10) (ts_lvm 2 rfl (by omega)) rfl (by decide) (a := 1) (by decide) (ts_lvm 8 rfl (by omega)) rfl (q2 := (RX5, TX5, 10)) rfl rfl rfl rfl ?_
    have hr := ts_RA_w hr (show ts_EV[10]? = some ((2, 0, 0), 1) from rfl) (ts_lvm 2 rfl (by omega))
    refine tv_iinc C (pc := 49) dX0_init_49 (v := (2 : Int32)) (L' := [some (.inr (1, 0, 0)), some (.inl (.int (2 : Int32)))]) rfl rfl (by decide) rfl rfl ?_
    refine tv_goto C (pc := 52) 30 dX0_init_52 (by decide) ?_
    refine tv_iload_n C (pc := 30) dX0_init_30 rfl rfl ?_
    refine tv_bipush C (pc := 31) dX0_init_31 (v := (16 : Int32)) rfl ?_
    refine tv_icmp_ge C (pc := 33) 55 dX0_init_33 (by decide) (fun hc => absurd hc (by decide)) (fun _ => ?_)
    refine tv_aload_n C (pc := 36) dX0_init_36 rfl rfl ?_
    refine tv_getR C (pc := 37) dX0_init_37 fl_X0_23 (ts_lvm 1 rfl (by omega)) rfl rfl (i2 := (2, 0, 0)) (ts_rfm 0 rfl (by decide) rfl) ?_
    refine tv_iload_n C (pc := 40) dX0_init_40 rfl rfl ?_
    refine tv_new C (pc := 41) dX0_init_41 (j := 13) nw_X0_21 (N := 10) rfl rfl (i := (11, 0, 2)) rfl h0 (by omega) hz hr ⟨Nat.le_of_ble_eq_true rfl, Nat.le_of_ble_eq_true rfl⟩ ?_
    have hz := ts_ZA_m hz (Nat.le_succ _)
    have hr := ts_RA_m hr (Nat.le_succ _)
    refine tv_dup C (pc := 44) dX0_init_44 (fun _ => rfl) ?_
    refine tv_callIN C KA (pc := 45) dX0_init_45 rfl ni_X0_27.1 ni_X0_27.2.1 (by decide) ni_X0_27.2.2 (k_X5_init (D := D) (dT := dT) (sz := sz) hl 0 2 13 11 _ rfl rfl rfl rfl rfl rfl rfl rfl rfl hz hr) (Nat.le_of_ble_eq_true rfl) h0 (by omega) (by decide) ⟨Nat.le_of_ble_eq_true rfl, Nat.le_of_ble_eq_true rfl⟩ (fun _ => Nat.le_of_ble_eq_true rfl) ?_
    have hz := ts_ZA_m hz (show 14 ≤ 18 by decide)
    have hr := ts_ra_18_15
    refine tv_aast5 C (pc := 48) dX0_init_48 (m1 := 15) (ts_lvm 2 rfl (by omega)) rfl (by decide) (a := 2) (by decide) (ts_lvm 13 rfl (by omega)) rfl (q2 := (RX5, TX5, 10)) rfl rfl rfl rfl ?_
    have hr := ts_RA_w hr (show ts_EV[15]? = some ((2, 0, 0), 2) from rfl) (ts_lvm 2 rfl (by omega))
    refine tv_iinc C (pc := 49) dX0_init_49 (v := (3 : Int32)) (L' := [some (.inr (1, 0, 0)), some (.inl (.int (3 : Int32)))]) rfl rfl (by decide) rfl rfl ?_
    refine tv_goto C (pc := 52) 30 dX0_init_52 (by decide) ?_
    refine tv_iload_n C (pc := 30) dX0_init_30 rfl rfl ?_
    refine tv_bipush C (pc := 31) dX0_init_31 (v := (16 : Int32)) rfl ?_
    refine tv_icmp_ge C (pc := 33) 55 dX0_init_33 (by decide) (fun hc => absurd hc (by decide)) (fun _ => ?_)
    refine tv_aload_n C (pc := 36) dX0_init_36 rfl rfl ?_
    refine tv_getR C (pc := 37) dX0_init_37 fl_X0_23 (ts_lvm 1 rfl (by omega)) rfl rfl (i2 := (2, 0, 0)) (ts_rfm 0 rfl (by decide) rfl) ?_
    refine tv_iload_n C (pc := 40) dX0_init_40 rfl rfl ?_
    refine tv_new C (pc := 41) dX0_init_41 (j := 18) nw_X0_21 (N := 10) rfl rfl (i := (11, 0, 3)) rfl h0 (by omega) hz hr ⟨Nat.le_of_ble_eq_true rfl, Nat.le_of_ble_eq_true rfl⟩ ?_
    have hz := ts_ZA_m hz (Nat.le_succ _)
    have hr := ts_RA_m hr (Nat.le_succ _)
    refine tv_dup C (pc := 44) dX0_init_44 (fun _ => rfl) ?_
    refine tv_callIN C KA (pc := 45) dX0_init_45 rfl ni_X0_27.1 ni_X0_27.2.1 (by decide) ni_X0_27.2.2 (k_X5_init (D := D) (dT := dT) (sz := sz) hl 0 3 18 16 _ rfl rfl rfl rfl rfl rfl rfl rfl rfl hz hr) (Nat.le_of_ble_eq_true rfl) h0 (by omega) (by decide) ⟨Nat.le_of_ble_eq_true rfl, Nat.le_of_ble_eq_true rfl⟩ (fun _ => Nat.le_of_ble_eq_true rfl) ?_
    have hz := ts_ZA_m hz (show 19 ≤ 23 by decide)
    have hr := ts_ra_23_20
    refine tv_aast5 C (pc := 48) dX0_init_48 (m1 := 20) (ts_lvm 2 rfl (by omega)) rfl (by decide) (a := 3) (by decide) (ts_lvm 18 rfl (by omega)) rfl (q2 := (RX5, TX5, 10)) rfl rfl rfl rfl ?_
    have hr := ts_RA_w hr (show ts_EV[20]? = some ((2, 0, 0), 3) from rfl) (ts_lvm 2 rfl (by omega))
    refine tv_iinc C (pc := 49) dX0_init_49 (v := (4 : Int32)) (L' := [some (.inr (1, 0, 0)), some (.inl (.int (4 : Int32)))]) rfl rfl (by decide) rfl rfl ?_
    refine tv_goto C (pc := 52) 30 dX0_init_52 (by decide) ?_
    refine tv_iload_n C (pc := 30) dX0_init_30 rfl rfl ?_
    refine tv_bipush C (pc := 31) dX0_init_31 (v := (16 : Int32)) rfl ?_
    refine tv_icmp_ge C (pc := 33) 55 dX0_init_33 (by decide) (fun hc => absurd hc (by decide)) (fun _ => ?_)
    refine tv_aload_n C (pc := 36) dX0_init_36 rfl rfl ?_
    refine tv_getR C (pc := 37) dX0_init_37 fl_X0_23 (ts_lvm 1 rfl (by omega)) rfl rfl (i2 := (2, 0, 0)) (ts_rfm 0 rfl (by decide) rfl) ?_
    refine tv_iload_n C (pc := 40) dX0_init_40 rfl rfl ?_
    refine tv_new C (pc := 41) dX0_init_41 (j := 23) nw_X0_21 (N := 10) rfl rfl (i := (11, 0, 4)) rfl h0 (by omega) hz hr ⟨Nat.le_of_ble_eq_true rfl, Nat.le_of_ble_eq_true rfl⟩ ?_
    have hz := ts_ZA_m hz (Nat.le_succ _)
    have hr := ts_RA_m hr (Nat.le_succ _)
    refine tv_dup C (pc := 44) dX0_init_44 (fun _ => rfl) ?_
    refine tv_callIN C KA (pc := 45) dX0_init_45 rfl ni_X0_27.1 ni_X0_27.2.1 (by decide) ni_X0_27.2.2 (k_X5_init (D := D) (dT := dT) (sz := sz) hl 0 4 23 21 _ rfl rfl rfl rfl rfl rfl rfl rfl rfl hz hr) (Nat.le_of_ble_eq_true rfl) h0 (by omega) (by decide) ⟨Nat.le_of_ble_eq_true rfl, Nat.le_of_ble_eq_true rfl⟩ (fun _ => Nat.le_of_ble_eq_true rfl) ?_
    have hz := ts_ZA_m hz (show 24 ≤ 28 by decide)
    have hr := ts_ra_28_25
    refine tv_aast5 C (pc := 48) dX0_init_48 (m1 := 25) (ts_lvm 2 rfl (by omega)) rfl (by decide) (a := 4) (by decide) (ts_lvm 23 rfl (by omega)) rfl (q2 := (RX5, TX5, 10)) rfl rfl rfl rfl ?_
    have hr := ts_RA_w hr (show ts_EV[25]? = some ((2, 0, 0), 4) from rfl) (ts_lvm 2 rfl (by omega))
    refine tv_iinc C (pc := 49) dX0_init_49 (v := (5 : Int32)) (L' := [some (.inr (1, 0, 0)), some (.inl (.int (5 : Int32)))]) rfl rfl (by decide) rfl rfl ?_
    refine tv_goto C (pc := 52) 30 dX0_init_52 (by decide) ?_
    refine tv_iload_n C (pc := 30) dX0_init_30 rfl rfl ?_
    refine tv_bipush C (pc := 31) dX0_init_31 (v := (16 : Int32)) rfl ?_
    refine tv_icmp_ge C (pc := 33) 55 dX0_init_33 (by decide) (fun hc => absurd hc (by decide)) (fun _ => ?_)
    refine tv_aload_n C (pc := 36) dX0_init_36 rfl rfl ?_
    refine tv_getR C (pc := 37) dX0_init_37 fl_X0_23 (ts_lvm 1 rfl (by omega)) rfl rfl (i2 := (2, 0, 0)) (ts_rfm 0 rfl (by decide) rfl) ?_
    refine tv_iload_n C (pc := 40) dX0_init_40 rfl rfl ?_
    refine tv_new C (pc := 41) dX0_init_41 (j := 28) nw_X0_21 (N := 10) rfl rfl (i := (11, 0, 5)) rfl h0 (by omega) hz hr ⟨Nat.le_of_ble_eq_true rfl, Nat.le_of_ble_eq_true rfl⟩ ?_
    have hz := ts_ZA_m hz (Nat.le_succ _)
    have hr := ts_RA_m hr (Nat.le_succ _)
    refine tv_dup C (pc := 44) dX0_init_44 (fun _ => rfl) ?_
    refine tv_callIN C KA (pc := 45) dX0_init_45 rfl ni_X0_27.1 ni_X0_27.2.1 (by decide) ni_X0_27.2.2 (k_X5_init (D := D) (dT := dT) (sz := sz) hl 0 5 28 26 _ rfl rfl rfl rfl rfl rfl rfl rfl rfl hz hr) (Nat.le_of_ble_eq_true rfl) h0 (by omega) (by decide) ⟨Nat.le_of_ble_eq_true rfl, Nat.le_of_ble_eq_true rfl⟩ (fun _ => Nat.le_of_ble_eq_true rfl) ?_
    have hz := ts_ZA_m hz (show 29 ≤ 33 by decide)
    have hr := ts_ra_33_30
    refine tv_aast5 C (pc := 48) dX0_init_48 (m1 := 30) (ts_lvm 2 rfl (by omega)) rfl (by decide) (a := 5) (by decide) (ts_lvm 28 rfl (by omega)) rfl (q2 := (RX5, TX5, 10)) rfl rfl rfl rfl ?_
    have hr := ts_RA_w hr (show ts_EV[30]? = some ((2, 0, 0), 5) from rfl) (ts_lvm 2 rfl (by omega))
    refine tv_iinc C (pc := 49) dX0_init_49 (v := (6 : Int32)) (L' := [some (.inr (1, 0, 0)), some (.inl (.int (6 : Int32)))]) rfl rfl (by decide) rfl rfl ?_
    refine tv_goto C (pc := 52) 30 dX0_init_52 (by decide) ?_
    refine tv_iload_n C (pc := 30) dX0_init_30 rfl rfl ?_
    refine tv_bipush C (pc := 31) dX0_init_31 (v := (16 : Int32)) rfl ?_
    refine tv_icmp_ge C (pc := 33) 55 dX0_init_33 (by decide) (fun hc => absurd hc (by decide)) (fun _ => ?_)
    refine tv_aload_n C (pc := 36) dX0_init_36 rfl rfl ?_
    refine tv_getR C (pc := 37) dX0_init_37 fl_X0_23 (ts_lvm 1 rfl (by omega)) rfl rfl (i2 := (2, 0, 0)) (ts_rfm 0 rfl (by decide) rfl) ?_
    refine tv_iload_n C (pc := 40) dX0_init_40 rfl rfl ?_
    refine tv_new C (pc := 41) dX0_init_41 (j := 33) nw_X0_21 (N := 10) rfl rfl (i := (11, 0, 6)) rfl h0 (by omega) hz hr ⟨Nat.le_of_ble_eq_true rfl, Nat.le_of_ble_eq_true rfl⟩ ?_
    have hz := ts_ZA_m hz (Nat.le_succ _)
    have hr := ts_RA_m hr (Nat.le_succ _)
    refine tv_dup C (pc := 44) dX0_init_44 (fun _ => rfl) ?_
    refine tv_callIN C KA (pc := 45) dX0_init_45 rfl ni_X0_27.1 ni_X0_27.2.1 (by decide) ni_X0_27.2.2 (k_X5_init (D := D) (dT := dT) (sz := sz) hl 0 6 33 31 _ rfl rfl rfl rfl rfl rfl rfl rfl rfl hz hr) (Nat.le_of_ble_eq_true rfl) h0 (by omega) (by decide) ⟨Nat.le_of_ble_eq_true rfl, Nat.le_of_ble_eq_true rfl⟩ (fun _ => Nat.le_of_ble_eq_true rfl) ?_
    have hz := ts_ZA_m hz (show 34 ≤ 38 by decide)
    have hr := ts_ra_38_35
    refine tv_aast5 C (pc := 48) dX0_init_48 (m1 := 35) (ts_lvm 2 rfl (by omega)) rfl (by decide) (a := 6) (by decide) (ts_lvm 33 rfl (by omega)) rfl (q2 := (RX5, TX5, 10)) rfl rfl rfl rfl ?_
    have hr := ts_RA_w hr (show ts_EV[35]? = some ((2, 0, 0), 6) from rfl) (ts_lvm 2 rfl (by omega))
    refine tv_iinc C (pc := 49) dX0_init_49 (v := (7 : Int32)) (L' := [some (.inr (1, 0, 0)), some (.inl (.int (7 : Int32)))]) rfl rfl (by decide) rfl rfl ?_
    refine tv_goto C (pc := 52) 30 dX0_init_52 (by decide) ?_
    refine tv_iload_n C (pc := 30) dX0_init_30 rfl rfl ?_
    refine tv_bipush C (pc := 31) dX0_init_31 (v := (16 : Int32)) rfl ?_
    refine tv_icmp_ge C (pc := 33) 55 dX0_init_33 (by decide) (fun hc => absurd hc (by decide)) (fun _ => ?_)
    refine tv_aload_n C (pc := 36) dX0_init_36 rfl rfl ?_
    refine tv_getR C (pc := 37) dX0_init_37 fl_X0_23 (ts_lvm 1 rfl (by omega)) rfl rfl (i2 := (2, 0, 0)) (ts_rfm 0 rfl (by decide) rfl) ?_
    refine tv_iload_n C (pc := 40) dX0_init_40 rfl rfl ?_
    refine tv_new C (pc := 41) dX0_init_41 (j := 38) nw_X0_21 (N := 10) rfl rfl (i := (11, 0, 7)) rfl h0 (by omega) hz hr ⟨Nat.le_of_ble_eq_true rfl, Nat.le_of_ble_eq_true rfl⟩ ?_
    have hz := ts_ZA_m hz (Nat.le_succ _)
    have hr := ts_RA_m hr (Nat.le_succ _)
    refine tv_dup C (pc := 44) dX0_init_44 (fun _ => rfl) ?_
    refine tv_callIN C KA (pc := 45) dX0_init_45 rfl ni_X0_27.1 ni_X0_27.2.1 (by decide) ni_X0_27.2.2 (k_X5_init (D := D) (dT := dT) (sz := sz) hl 0 7 38 36 _ rfl rfl rfl rfl rfl rfl rfl rfl rfl hz hr) (Nat.le_of_ble_eq_true rfl) h0 (by omega) (by decide) ⟨Nat.le_of_ble_eq_true rfl, Nat.le_of_ble_eq_true rfl⟩ (fun _ => Nat.le_of_ble_eq_true rfl) ?_
    have hz := ts_ZA_m hz (show 39 ≤ 43 by decide)
    have hr := ts_ra_43_40
    refine tv_aast5 C (pc := 48) dX0_init_48 (m1 := 40) (ts_lvm 2 rfl (by omega)) rfl (by decide) (a := 7) (by decide) (ts_lvm 38 rfl (by omega)) rfl (q2 := (RX5, TX5, 10)) rfl rfl rfl rfl ?_
    have hr := ts_RA_w hr (show ts_EV[40]? = some ((2, 0, 0), 7) from rfl) (ts_lvm 2 rfl (by omega))
    refine tv_iinc C (pc := 49) dX0_init_49 (v := (8 : Int32)) (L' := [some (.inr (1, 0, 0)), some (.inl (.int (8 : Int32)))]) rfl rfl (by decide) rfl rfl ?_
    refine tv_goto C (pc := 52) 30 dX0_init_52 (by decide) ?_
    refine tv_iload_n C (pc := 30) dX0_init_30 rfl rfl ?_
    refine tv_bipush C (pc := 31) dX0_init_31 (v := (16 : Int32)) rfl ?_
    refine tv_icmp_ge C (pc := 33) 55 dX0_init_33 (by decide) (fun hc => absurd hc (by decide)) (fun _ => ?_)
    refine tv_aload_n C (pc := 36) dX0_init_36 rfl rfl ?_
    refine tv_getR C (pc := 37) dX0_init_37 fl_X0_23 (ts_lvm 1 rfl (by omega)) rfl rfl (i2 := (2, 0, 0)) (ts_rfm 0 rfl (by decide) rfl) ?_
    refine tv_iload_n C (pc := 40) dX0_init_40 rfl rfl ?_
    refine tv_new C (pc := 41) dX0_init_41 (j := 43) nw_X0_21 (N := 10) rfl rfl (i := (11, 0, 8)) rfl h0 (by omega) hz hr ⟨Nat.le_of_ble_eq_true rfl, Nat.le_of_ble_eq_true rfl⟩ ?_
    have hz := ts_ZA_m hz (Nat.le_succ _)
    have hr := ts_RA_m hr (Nat.le_succ _)
    refine tv_dup C (pc := 44) dX0_init_44 (fun _ => rfl) ?_
    refine tv_callIN C KA (pc := 45) dX0_init_45 rfl ni_X0_27.1 ni_X0_27.2.1 (by decide) ni_X0_27.2.2 (k_X5_init (D := D) (dT := dT) (sz := sz) hl 0 8 43 41 _ rfl rfl rfl rfl rfl rfl rfl rfl rfl hz hr) (Nat.le_of_ble_eq_true rfl) h0 (by omega) (by decide) ⟨Nat.le_of_ble_eq_true rfl, Nat.le_of_ble_eq_true rfl⟩ (fun _ => Nat.le_of_ble_eq_true rfl) ?_
    have hz := ts_ZA_m hz (show 44 ≤ 48 by decide)
    have hr := ts_ra_48_45
    refine tv_aast5 C (pc := 48) dX0_init_48 (m1 := 45) (ts_lvm 2 rfl (by omega)) rfl (by decide) (a := 8) (by decide) (ts_lvm 43 rfl (by omega)) rfl (q2 := (RX5, TX5, 10)) rfl rfl rfl rfl ?_
    have hr := ts_RA_w hr (show ts_EV[45]? = some ((2, 0, 0), 8) from rfl) (ts_lvm 2 rfl (by omega))
    refine tv_iinc C (pc := 49) dX0_init_49 (v := (9 : Int32)) (L' := [some (.inr (1, 0, 0)), some (.inl (.int (9 : Int32)))]) rfl rfl (by decide) rfl rfl ?_
    refine tv_goto C (pc := 52) 30 dX0_init_52 (by decide) ?_
    refine tv_iload_n C (pc := 30) dX0_init_30 rfl rfl ?_
    refine tv_bipush C (pc := 31) dX0_init_31 (v := (16 : Int32)) rfl ?_
    refine tv_icmp_ge C (pc := 33) 55 dX0_init_33 (by decide) (fun hc => absurd hc (by decide)) (fun _ => ?_)
    refine tv_aload_n C (pc := 36) dX0_init_36 rfl rfl ?_
    refine tv_getR C (pc := 37) dX0_init_37 fl_X0_23 (ts_lvm 1 rfl (by omega)) rfl rfl (i2 := (2, 0, 0)) (ts_rfm 0 rfl (by decide) rfl) ?_
    refine tv_iload_n C (pc := 40) dX0_init_40 rfl rfl ?_
    refine tv_new C (pc := 41) dX0_init_41 (j := 48) nw_X0_21 (N := 10) rfl rfl (i := (11, 0, 9)) rfl h0 (by omega) hz hr ⟨Nat.le_of_ble_eq_true rfl, Nat.le_of_ble_eq_true rfl⟩ ?_
    have hz := ts_ZA_m hz (Nat.le_succ _)
    have hr := ts_RA_m hr (Nat.le_succ _)
    refine tv_dup C (pc := 44) dX0_init_44 (fun _ => rfl) ?_
    refine tv_callIN C KA (pc := 45) dX0_init_45 rfl ni_X0_27.1 ni_X0_27.2.1 (by decide) ni_X0_27.2.2 (k_X5_init (D := D) (dT := dT) (sz := sz) hl 0 9 48 46 _ rfl rfl rfl rfl rfl rfl rfl rfl rfl hz hr) (Nat.le_of_ble_eq_true rfl) h0 (by omega) (by decide) ⟨Nat.le_of_ble_eq_true rfl, Nat.le_of_ble_eq_true rfl⟩ (fun _ => Nat.le_of_ble_eq_true rfl) ?_
    have hz := ts_ZA_m hz (show 49 ≤ 53 by decide)
    have hr := ts_ra_53_50
    refine tv_aast5 C (pc := 48) dX0_init_48 (m1 := 50) (ts_lvm 2 rfl (by omega)) rfl (by decide) (a := 9) (by decide) (ts_lvm 48 rfl (by omega)) rfl (q2 := (RX5, TX5, 10)) rfl rfl rfl rfl ?_
    have hr := ts_RA_w hr (show ts_EV[50]? = some ((2, 0, 0), 9) from rfl) (ts_lvm 2 rfl (by omega))
    refine tv_iinc C (pc := 49) dX0_init_49 (v := (10 : Int32)) (L' := [some (.inr (1, 0, 0)), some (.inl (.int (10 : Int32)))]) rfl rfl (by decide) rfl rfl ?_
    refine tv_goto C (pc := 52) 30 dX0_init_52 (by decide) ?_
    refine tv_iload_n C (pc := 30) dX0_init_30 rfl rfl ?_
    refine tv_bipush C (pc := 31) dX0_init_31 (v := (16 : Int32)) rfl ?_
    refine tv_icmp_ge C (pc := 33) 55 dX0_init_33 (by decide) (fun hc => absurd hc (by decide)) (fun _ => ?_)
    refine tv_aload_n C (pc := 36) dX0_init_36 rfl rfl ?_
    refine tv_getR C (pc := 37) dX0_init_37 fl_X0_23 (ts_lvm 1 rfl (by omega)) rfl rfl (i2 := (2, 0, 0)) (ts_rfm 0 rfl (by decide) rfl) ?_
    refine tv_iload_n C (pc := 40) dX0_init_40 rfl rfl ?_
    refine tv_new C (pc := 41) dX0_init_41 (j := 53) nw_X0_21 (N := 10) rfl rfl (i := (11, 0, 10)) rfl h0 (by omega) hz hr ⟨Nat.le_of_ble_eq_true rfl, Nat.le_of_ble_eq_true rfl⟩ ?_
    have hz := ts_ZA_m hz (Nat.le_succ _)
    have hr := ts_RA_m hr (Nat.le_succ _)
    refine tv_dup C (pc := 44) dX0_init_44 (fun _ => rfl) ?_
    refine tv_callIN C KA (pc := 45) dX0_init_45 rfl ni_X0_27.1 ni_X0_27.2.1 (by decide) ni_X0_27.2.2 (k_X5_init (D := D) (dT := dT) (sz := sz) hl 0 10 53 51 _ rfl rfl rfl rfl rfl rfl rfl rfl rfl hz hr) (Nat.le_of_ble_eq_true rfl) h0 (by omega) (by decide) ⟨Nat.le_of_ble_eq_true rfl, Nat.le_of_ble_eq_true rfl⟩ (fun _ => Nat.le_of_ble_eq_true rfl) ?_
    have hz := ts_ZA_m hz (show 54 ≤ 58 by decide)
    have hr := ts_ra_58_55
    refine tv_aast5 C (pc := 48) dX0_init_48 (m1 := 55) (ts_lvm 2 rfl (by omega)) rfl (by decide) (a := 10) (by decide) (ts_lvm 53 rfl (by omega)) rfl (q2 := (RX5, TX5, 10)) rfl rfl rfl rfl ?_
    have hr := ts_RA_w hr (show ts_EV[55]? = some ((2, 0, 0), 10) from rfl) (ts_lvm 2 rfl (by omega))
    refine tv_iinc C (pc := 49) dX0_init_49 (v := (11 : Int32)) (L' := [some (.inr (1, 0, 0)), some (.inl (.int (11 : Int32)))]) rfl rfl (by decide) rfl rfl ?_
    refine tv_goto C (pc := 52) 30 dX0_init_52 (by decide) ?_
    refine tv_iload_n C (pc := 30) dX0_init_30 rfl rfl ?_
    refine tv_bipush C (pc := 31) dX0_init_31 (v := (16 : Int32)) rfl ?_
    refine tv_icmp_ge C (pc := 33) 55 dX0_init_33 (by decide) (fun hc => absurd hc (by decide)) (fun _ => ?_)
    refine tv_aload_n C (pc := 36) dX0_init_36 rfl rfl ?_
    refine tv_getR C (pc := 37) dX0_init_37 fl_X0_23 (ts_lvm 1 rfl (by omega)) rfl rfl (i2 := (2, 0, 0)) (ts_rfm 0 rfl (by decide) rfl) ?_
    refine tv_iload_n C (pc := 40) dX0_init_40 rfl rfl ?_
    refine tv_new C (pc := 41) dX0_init_41 (j := 58) nw_X0_21 (N := 10) rfl rfl (i := (11, 0, 11)) rfl h0 (by omega) hz hr ⟨Nat.le_of_ble_eq_true rfl, Nat.le_of_ble_eq_true rfl⟩ ?_
    have hz := ts_ZA_m hz (Nat.le_succ _)
    have hr := ts_RA_m hr (Nat.le_succ _)
    refine tv_dup C (pc := 44) dX0_init_44 (fun _ => rfl) ?_
    refine tv_callIN C KA (pc := 45) dX0_init_45 rfl ni_X0_27.1 ni_X0_27.2.1 (by decide) ni_X0_27.2.2 (k_X5_init (D := D) (dT := dT) (sz := sz) hl 0 11 58 56 _ rfl rfl rfl rfl rfl rfl rfl rfl rfl hz hr) (Nat.le_of_ble_eq_true rfl) h0 (by omega) (by decide) ⟨Nat.le_of_ble_eq_true rfl, Nat.le_of_ble_eq_true rfl⟩ (fun _ => Nat.le_of_ble_eq_true rfl) ?_
    have hz := ts_ZA_m hz (show 59 ≤ 63 by decide)
    have hr := ts_ra_63_60
    refine tv_aast5 C (pc := 48) dX0_init_48 (m1 := 60) (ts_lvm 2 rfl (by omega)) rfl (by decide) (a := 11) (by decide) (ts_lvm 58 rfl (by omega)) rfl (q2 := (RX5, TX5, 10)) rfl rfl rfl rfl ?_
    have hr := ts_RA_w hr (show ts_EV[60]? = some ((2, 0, 0), 11) from rfl) (ts_lvm 2 rfl (by omega))
    refine tv_iinc C (pc := 49) dX0_init_49 (v := (12 : Int32)) (L' := [some (.inr (1, 0, 0)), some (.inl (.int (12 : Int32)))]) rfl rfl (by decide) rfl rfl ?_
    refine tv_goto C (pc := 52) 30 dX0_init_52 (by decide) ?_
    refine tv_iload_n C (pc := 30) dX0_init_30 rfl rfl ?_
    refine tv_bipush C (pc := 31) dX0_init_31 (v := (16 : Int32)) rfl ?_
    refine tv_icmp_ge C (pc := 33) 55 dX0_init_33 (by decide) (fun hc => absurd hc (by decide)) (fun _ => ?_)
    refine tv_aload_n C (pc := 36) dX0_init_36 rfl rfl ?_
    refine tv_getR C (pc := 37) dX0_init_37 fl_X0_23 (ts_lvm 1 rfl (by omega)) rfl rfl (i2 := (2, 0, 0)) (ts_rfm 0 rfl (by decide) rfl) ?_
    refine tv_iload_n C (pc := 40) dX0_init_40 rfl rfl ?_
    refine tv_new C (pc := 41) dX0_init_41 (j := 63) nw_X0_21 (N := 10) rfl rfl (i := (11, 0, 12)) rfl h0 (by omega) hz hr ⟨Nat.le_of_ble_eq_true rfl, Nat.le_of_ble_eq_true rfl⟩ ?_
    have hz := ts_ZA_m hz (Nat.le_succ _)
    have hr := ts_RA_m hr (Nat.le_succ _)
    refine tv_dup C (pc := 44) dX0_init_44 (fun _ => rfl) ?_
    refine tv_callIN C KA (pc := 45) dX0_init_45 rfl ni_X0_27.1 ni_X0_27.2.1 (by decide) ni_X0_27.2.2 (k_X5_init (D := D) (dT := dT) (sz := sz) hl 0 12 63 61 _ rfl rfl rfl rfl rfl rfl rfl rfl rfl hz hr) (Nat.le_of_ble_eq_true rfl) h0 (by omega) (by decide) ⟨Nat.le_of_ble_eq_true rfl, Nat.le_of_ble_eq_true rfl⟩ (fun _ => Nat.le_of_ble_eq_true rfl) ?_
    have hz := ts_ZA_m hz (show 64 ≤ 68 by decide)
    have hr := ts_ra_68_65
    refine tv_aast5 C (pc := 48) dX0_init_48 (m1 := 65) (ts_lvm 2 rfl (by omega)) rfl (by decide) (a := 12) (by decide) (ts_lvm 63 rfl (by omega)) rfl (q2 := (RX5, TX5, 10)) rfl rfl rfl rfl ?_
    have hr := ts_RA_w hr (show ts_EV[65]? = some ((2, 0, 0), 12) from rfl) (ts_lvm 2 rfl (by omega))
    refine tv_iinc C (pc := 49) dX0_init_49 (v := (13 : Int32)) (L' := [some (.inr (1, 0, 0)), some (.inl (.int (13 : Int32)))]) rfl rfl (by decide) rfl rfl ?_
    refine tv_goto C (pc := 52) 30 dX0_init_52 (by decide) ?_
    refine tv_iload_n C (pc := 30) dX0_init_30 rfl rfl ?_
    refine tv_bipush C (pc := 31) dX0_init_31 (v := (16 : Int32)) rfl ?_
    refine tv_icmp_ge C (pc := 33) 55 dX0_init_33 (by decide) (fun hc => absurd hc (by decide)) (fun _ => ?_)
    refine tv_aload_n C (pc := 36) dX0_init_36 rfl rfl ?_
    refine tv_getR C (pc := 37) dX0_init_37 fl_X0_23 (ts_lvm 1 rfl (by omega)) rfl rfl (i2 := (2, 0, 0)) (ts_rfm 0 rfl (by decide) rfl) ?_
    refine tv_iload_n C (pc := 40) dX0_init_40 rfl rfl ?_
    refine tv_new C (pc := 41) dX0_init_41 (j := 68) nw_X0_21 (N := 10) rfl rfl (i := (11, 0, 13)) rfl h0 (by omega) hz hr ⟨Nat.le_of_ble_eq_true rfl, Nat.le_of_ble_eq_true rfl⟩ ?_
    have hz := ts_ZA_m hz (Nat.le_succ _)
    have hr := ts_RA_m hr (Nat.le_succ _)
    refine tv_dup C (pc := 44) dX0_init_44 (fun _ => rfl) ?_
    refine tv_callIN C KA (pc := 45) dX0_init_45 rfl ni_X0_27.1 ni_X0_27.2.1 (by decide) ni_X0_27.2.2 (k_X5_init (D := D) (dT := dT) (sz := sz) hl 0 13 68 66 _ rfl rfl rfl rfl rfl rfl rfl rfl rfl hz hr) (Nat.le_of_ble_eq_true rfl) h0 (by omega) (by decide) ⟨Nat.le_of_ble_eq_true rfl, Nat.le_of_ble_eq_true rfl⟩ (fun _ => Nat.le_of_ble_eq_true rfl) ?_
    have hz := ts_ZA_m hz (show 69 ≤ 73 by decide)
    have hr := ts_ra_73_70
    refine tv_aast5 C (pc := 48) dX0_init_48 (m1 := 70) (ts_lvm 2 rfl (by omega)) rfl (by decide) (a := 13) (by decide) (ts_lvm 68 rfl (by omega)) rfl (q2 := (RX5, TX5, 10)) rfl rfl rfl rfl ?_
    have hr := ts_RA_w hr (show ts_EV[70]? = some ((2, 0, 0), 13) from rfl) (ts_lvm 2 rfl (by omega))
    refine tv_iinc C (pc := 49) dX0_init_49 (v := (14 : Int32)) (L' := [some (.inr (1, 0, 0)), some (.inl (.int (14 : Int32)))]) rfl rfl (by decide) rfl rfl ?_
    refine tv_goto C (pc := 52) 30 dX0_init_52 (by decide) ?_
    refine tv_iload_n C (pc := 30) dX0_init_30 rfl rfl ?_
    refine tv_bipush C (pc := 31) dX0_init_31 (v := (16 : Int32)) rfl ?_
    refine tv_icmp_ge C (pc := 33) 55 dX0_init_33 (by decide) (fun hc => absurd hc (by decide)) (fun _ => ?_)
    refine tv_aload_n C (pc := 36) dX0_init_36 rfl rfl ?_
    refine tv_getR C (pc := 37) dX0_init_37 fl_X0_23 (ts_lvm 1 rfl (by omega)) rfl rfl (i2 := (2, 0, 0)) (ts_rfm 0 rfl (by decide) rfl) ?_
    refine tv_iload_n C (pc := 40) dX0_init_40 rfl rfl ?_
    refine tv_new C (pc := 41) dX0_init_41 (j := 73) nw_X0_21 (N := 10) rfl rfl (i := (11, 0, 14)) rfl h0 (by omega) hz hr ⟨Nat.le_of_ble_eq_true rfl, Nat.le_of_ble_eq_true rfl⟩ ?_
    have hz := ts_ZA_m hz (Nat.le_succ _)
    have hr := ts_RA_m hr (Nat.le_succ _)
    refine tv_dup C (pc := 44) dX0_init_44 (fun _ => rfl) ?_
    refine tv_callIN C KA (pc := 45) dX0_init_45 rfl ni_X0_27.1 ni_X0_27.2.1 (by decide) ni_X0_27.2.2 (k_X5_init (D := D) (dT := dT) (sz := sz) hl 0 14 73 71 _ rfl rfl rfl rfl rfl rfl rfl rfl rfl hz hr) (Nat.le_of_ble_eq_true rfl) h0 (by omega) (by decide) ⟨Nat.le_of_ble_eq_true rfl, Nat.le_of_ble_eq_true rfl⟩ (fun _ => Nat.le_of_ble_eq_true rfl) ?_
    have hz := ts_ZA_m hz (show 74 ≤ 78 by decide)
    have hr := ts_ra_78_75
    refine tv_aast5 C (pc := 48) dX0_init_48 (m1 := 75) (ts_lvm 2 rfl (by omega)) rfl (by decide) (a := 14) (by decide) (ts_lvm 73 rfl (by omega)) rfl (q2 := (RX5, TX5, 10)) rfl rfl rfl rfl ?_
    have hr := ts_RA_w hr (show ts_EV[75]? = some ((2, 0, 0), 14) from rfl) (ts_lvm 2 rfl (by omega))
    refine tv_iinc C (pc := 49) dX0_init_49 (v := (15 : Int32)) (L' := [some (.inr (1, 0, 0)), some (.inl (.int (15 : Int32)))]) rfl rfl (by decide) rfl rfl ?_
    refine tv_goto C (pc := 52) 30 dX0_init_52 (by decide) ?_
    refine tv_iload_n C (pc := 30) dX0_init_30 rfl rfl ?_
    refine tv_bipush C (pc := 31) dX0_init_31 (v := (16 : Int32)) rfl ?_
    refine tv_icmp_ge C (pc := 33) 55 dX0_init_33 (by decide) (fun hc => absurd hc (by decide)) (fun _ => ?_)
    refine tv_aload_n C (pc := 36) dX0_init_36 rfl rfl ?_
    refine tv_getR C (pc := 37) dX0_init_37 fl_X0_23 (ts_lvm 1 rfl (by omega)) rfl rfl (i2 := (2, 0, 0)) (ts_rfm 0 rfl (by decide) rfl) ?_
    refine tv_iload_n C (pc := 40) dX0_init_40 rfl rfl ?_
    refine tv_new C (pc := 41) dX0_init_41 (j := 78) nw_X0_21 (N := 10) rfl rfl (i := (11, 0, 15)) rfl h0 (by omega) hz hr ⟨Nat.le_of_ble_eq_true rfl, Nat.le_of_ble_eq_true rfl⟩ ?_
    have hz := ts_ZA_m hz (Nat.le_succ _)
    have hr := ts_RA_m hr (Nat.le_succ _)
    refine tv_dup C (pc := 44) dX0_init_44 (fun _ => rfl) ?_
    refine tv_callIN C KA (pc := 45) dX0_init_45 rfl ni_X0_27.1 ni_X0_27.2.1 (by decide) ni_X0_27.2.2 (k_X5_init (D := D) (dT := dT) (sz := sz) hl 0 15 78 76 _ rfl rfl rfl rfl rfl rfl rfl rfl rfl hz hr) (Nat.le_of_ble_eq_true rfl) h0 (by omega) (by decide) ⟨Nat.le_of_ble_eq_true rfl, Nat.le_of_ble_eq_true rfl⟩ (fun _ => Nat.le_of_ble_eq_true rfl) ?_
    have hz := ts_ZA_m hz (show 79 ≤ 83 by decide)
    have hr := ts_ra_83_80
    refine tv_aast5 C (pc := 48) dX0_init_48 (m1 := 80) (ts_lvm 2 rfl (by omega)) rfl (by decide) (a := 15) (by decide) (ts_lvm 78 rfl (by omega)) rfl (q2 := (RX5, TX5, 10)) rfl rfl rfl rfl ?_
    have hr := ts_RA_w hr (show ts_EV[80]? = some ((2, 0, 0), 15) from rfl) (ts_lvm 2 rfl (by omega))
    refine tv_iinc C (pc := 49) dX0_init_49 (v := (16 : Int32)) (L' := [some (.inr (1, 0, 0)), some (.inl (.int (16 : Int32)))]) rfl rfl (by decide) rfl rfl ?_
    refine tv_goto C (pc := 52) 30 dX0_init_52 (by decide) ?_
    refine tv_iload_n C (pc := 30) dX0_init_30 rfl rfl ?_
    refine tv_bipush C (pc := 31) dX0_init_31 (v := (16 : Int32)) rfl ?_
    refine tv_icmp_ge C (pc := 33) 55 dX0_init_33 (by decide) (fun _ => ?_) (fun hc => absurd (by decide) hc)
    refine tv_aload_n C (pc := 55) dX0_init_55 rfl rfl ?_
    refine tv_bipush C (pc := 56) dX0_init_56 (v := (8 : Int32)) rfl ?_
    refine tv_anewa6 C KA (pc := 58) (j := 83) dX0_init_58 cn_X0_28 (N := 8) (by decide) (by decide) (by decide) rfl (i := (3, 0, 0)) rfl h0 (by omega) hr ⟨Nat.le_of_ble_eq_true rfl, Nat.le_of_ble_eq_true rfl⟩ ?_
    have hz := ts_ZA_m hz (Nat.le_succ _)
    have hr := ts_RA_m hr (Nat.le_succ _)
    refine tv_putRD C (pc := 61) dX0_init_61 (m1 := 81) ff_X0_30 (ts_lvm 1 rfl (by omega)) rfl rfl hnm (fun _ => rfl) (fun _ => rfl) rfl rfl ?_
    have hr := ts_RA_w hr rfl (ts_lvm 1 rfl (by omega))
    refine tv_iconst C (pc := 64) dX0_init_64 (v := (0 : Int32)) rfl ?_
    refine tv_istore_n C (pc := 65) dX0_init_65 (L' := [some (.inr (1, 0, 0)), some (.inl (.int (0 : Int32)))]) rfl (by decide) rfl rfl ?_
    refine tv_iload_n C (pc := 66) dX0_init_66 rfl rfl ?_
    refine tv_bipush C (pc := 67) dX0_init_67 (v := (8 : Int32)) rfl ?_
    refine tv_icmp_ge C (pc := 69) 91 dX0_init_69 (by decide) (fun hc => absurd hc (by decide)) (fun _ => ?_)
    refine tv_aload_n C (pc := 72) dX0_init_72 rfl rfl ?_
    refine tv_getR C (pc := 73) dX0_init_73 fl_X0_30 (ts_lvm 1 rfl (by omega)) rfl rfl (i2 := (3, 0, 0)) (ts_rfm 81 rfl (by decide) rfl) ?_
    refine tv_iload_n C (pc := 76) dX0_init_76 rfl rfl ?_
    refine tv_new C (pc := 77) dX0_init_77 (j := 84) nw_X0_28 (N := 5) rfl rfl (i := (16, 0, 0)) rfl h0 (by omega) hz hr ⟨Nat.le_of_ble_eq_true rfl, Nat.le_of_ble_eq_true rfl⟩ ?_
    have hz := ts_ZA_m hz (Nat.le_succ _)
    have hr := ts_RA_m hr (Nat.le_succ _)
    refine tv_dup C (pc := 80) dX0_init_80 (fun _ => rfl) ?_
    refine tv_callI C KA (pc := 81) dX0_init_81 yi_X0_34.1 yi_X0_34.2 (k_X1_init (D := D) (dT := dT) (sz := sz) hl 0 0 84 82 _ rfl rfl rfl rfl rfl rfl rfl rfl rfl hz hr) (Nat.le_of_ble_eq_true rfl) h0 (by omega) (by decide) ⟨Nat.le_of_ble_eq_true rfl, Nat.le_of_ble_eq_true rfl⟩ (fun _ => Nat.le_of_ble_eq_true rfl) ?_
    have hz := ts_ZA_m hz (show 85 ≤ 89 by decide)
    have hr := ts_ra_89_86
    have hz := ts_ZA_w (k := 0) (x := (1 : Int32)) hz (ts_lvm 84 rfl (by omega))
    have hz := ts_ZA_w (k := 0) (x := (-1 : Int32)) hz (ts_lvm 88 rfl (by omega))
    refine tv_aast6 C (pc := 84) dX0_init_84 (m1 := 86) (ts_lvm 83 rfl (by omega)) rfl (by decide) (a := 0) (by decide) (ts_lvm 84 rfl (by omega)) rfl (q2 := (RX1, TX1, 5)) rfl rfl rfl rfl ?_
    have hr := ts_RA_w hr (show ts_EV[86]? = some ((3, 0, 0), 0) from rfl) (ts_lvm 83 rfl (by omega))
    refine tv_iinc C (pc := 85) dX0_init_85 (v := (1 : Int32)) (L' := [some (.inr (1, 0, 0)), some (.inl (.int (1 : Int32)))]) rfl rfl (by decide) rfl rfl ?_
    refine tv_goto C (pc := 88) 66 dX0_init_88 (by decide) ?_
    refine tv_iload_n C (pc := 66) dX0_init_66 rfl rfl ?_
    refine tv_bipush C (pc := 67) dX0_init_67 (v := (8 : Int32)) rfl ?_
    refine tv_icmp_ge C (pc := 69) 91 dX0_init_69 (by decide) (fun hc => absurd hc (by decide)) (fun _ => ?_)
    refine tv_aload_n C (pc := 72) dX0_init_72 rfl rfl ?_
    refine tv_getR C (pc := 73) dX0_init_73 fl_X0_30 (ts_lvm 1 rfl (by omega)) rfl rfl (i2 := (3, 0, 0)) (ts_rfm 81 rfl (by decide) rfl) ?_
    refine tv_iload_n C (pc := 76) dX0_init_76 rfl rfl ?_
    refine tv_new C (pc := 77) dX0_init_77 (j := 89) nw_X0_28 (N := 5) rfl rfl (i := (16, 0, 1)) rfl h0 (by omega) hz hr ⟨Nat.le_of_ble_eq_true rfl, Nat.le_of_ble_eq_true rfl⟩ ?_
    have hz := ts_ZA_m hz (Nat.le_succ _)
    have hr := ts_RA_m hr (Nat.le_succ _)
    refine tv_dup C (pc := 80) dX0_init_80 (fun _ => rfl) ?_
    refine tv_callI C KA (pc := 81) dX0_init_81 yi_X0_34.1 yi_X0_34.2 (k_X1_init (D := D) (dT := dT) (sz := sz) hl 0 1 89 87 _ rfl rfl rfl rfl rfl rfl rfl rfl rfl hz hr) (Nat.le_of_ble_eq_true rfl) h0 (by omega) (by decide) ⟨Nat.le_of_ble_eq_true rfl, Nat.le_of_ble_eq_true rfl⟩ (fun _ => Nat.le_of_ble_eq_true rfl) ?_
    have hz := ts_ZA_m hz (show 90 ≤ 94 by decide)
    have hr := ts_ra_94_91
    have hz := ts_ZA_w (k := 0) (x := (1 : Int32)) hz (ts_lvm 89 rfl (by omega))
    have hz := ts_ZA_w (k := 0) (x := (-1 : Int32)) hz (ts_lvm 93 rfl (by omega))
    refine tv_aast6 C (pc := 84) dX0_init_84 (m1 := 91) (ts_lvm 83 rfl (by omega)) rfl (by decide) (a := 1) (by decide) (ts_lvm 89 rfl (by omega)) rfl (q2 := (RX1, TX1, 5)) rfl rfl rfl rfl ?_
    have hr := ts_RA_w hr (show ts_EV[91]? = some ((3, 0, 0), 1) from rfl) (ts_lvm 83 rfl (by omega))
    refine tv_iinc C (pc := 85) dX0_init_85 (v := (2 : Int32)) (L' := [some (.inr (1, 0, 0)), some (.inl (.int (2 : Int32)))]) rfl rfl (by decide) rfl rfl ?_
    refine tv_goto C (pc := 88) 66 dX0_init_88 (by decide) ?_
    refine tv_iload_n C (pc := 66) dX0_init_66 rfl rfl ?_
    refine tv_bipush C (pc := 67) dX0_init_67 (v := (8 : Int32)) rfl ?_
    refine tv_icmp_ge C (pc := 69) 91 dX0_init_69 (by decide) (fun hc => absurd hc (by decide)) (fun _ => ?_)
    refine tv_aload_n C (pc := 72) dX0_init_72 rfl rfl ?_
    refine tv_getR C (pc := 73) dX0_init_73 fl_X0_30 (ts_lvm 1 rfl (by omega)) rfl rfl (i2 := (3, 0, 0)) (ts_rfm 81 rfl (by decide) rfl) ?_
    refine tv_iload_n C (pc := 76) dX0_init_76 rfl rfl ?_
    refine tv_new C (pc := 77) dX0_init_77 (j := 94) nw_X0_28 (N := 5) rfl rfl (i := (16, 0, 2)) rfl h0 (by omega) hz hr ⟨Nat.le_of_ble_eq_true rfl, Nat.le_of_ble_eq_true rfl⟩ ?_
    have hz := ts_ZA_m hz (Nat.le_succ _)
    have hr := ts_RA_m hr (Nat.le_succ _)
    refine tv_dup C (pc := 80) dX0_init_80 (fun _ => rfl) ?_
    refine tv_callI C KA (pc := 81) dX0_init_81 yi_X0_34.1 yi_X0_34.2 (k_X1_init (D := D) (dT := dT) (sz := sz) hl 0 2 94 92 _ rfl rfl rfl rfl rfl rfl rfl rfl rfl hz hr) (Nat.le_of_ble_eq_true rfl) h0 (by omega) (by decide) ⟨Nat.le_of_ble_eq_true rfl, Nat.le_of_ble_eq_true rfl⟩ (fun _ => Nat.le_of_ble_eq_true rfl) ?_
    have hz := ts_ZA_m hz (show 95 ≤ 99 by decide)
    have hr := ts_ra_99_96
    have hz := ts_ZA_w (k := 0) (x := (1 : Int32)) hz (ts_lvm 94 rfl (by omega))
    have hz := ts_ZA_w (k := 0) (x := (-1 : Int32)) hz (ts_lvm 98 rfl (by omega))
    refine tv_aast6 C (pc := 84) dX0_init_84 (m1 := 96) (ts_lvm 83 rfl (by omega)) rfl (by decide) (a := 2) (by decide) (ts_lvm 94 rfl (by omega)) rfl (q2 := (RX1, TX1, 5)) rfl rfl rfl rfl ?_
    have hr := ts_RA_w hr (show ts_EV[96]? = some ((3, 0, 0), 2) from rfl) (ts_lvm 83 rfl (by omega))
    refine tv_iinc C (pc := 85) dX0_init_85 (v := (3 : Int32)) (L' := [some (.inr (1, 0, 0)), some (.inl (.int (3 : Int32)))]) rfl rfl (by decide) rfl rfl ?_
    refine tv_goto C (pc := 88) 66 dX0_init_88 (by decide) ?_
    refine tv_iload_n C (pc := 66) dX0_init_66 rfl rfl ?_
    refine tv_bipush C (pc := 67) dX0_init_67 (v := (8 : Int32)) rfl ?_
    refine tv_icmp_ge C (pc := 69) 91 dX0_init_69 (by decide) (fun hc => absurd hc (by decide)) (fun _ => ?_)
    refine tv_aload_n C (pc := 72) dX0_init_72 rfl rfl ?_
    refine tv_getR C (pc := 73) dX0_init_73 fl_X0_30 (ts_lvm 1 rfl (by omega)) rfl rfl (i2 := (3, 0, 0)) (ts_rfm 81 rfl (by decide) rfl) ?_
    refine tv_iload_n C (pc := 76) dX0_init_76 rfl rfl ?_
    refine tv_new C (pc := 77) dX0_init_77 (j := 99) nw_X0_28 (N := 5) rfl rfl (i := (16, 0, 3)) rfl h0 (by omega) hz hr ⟨Nat.le_of_ble_eq_true rfl, Nat.le_of_ble_eq_true rfl⟩ ?_
    have hz := ts_ZA_m hz (Nat.le_succ _)
    have hr := ts_RA_m hr (Nat.le_succ _)
    refine tv_dup C (pc := 80) dX0_init_80 (fun _ => rfl) ?_
    refine tv_callI C KA (pc := 81) dX0_init_81 yi_X0_34.1 yi_X0_34.2 (k_X1_init (D := D) (dT := dT) (sz := sz) hl 0 3 99 97 _ rfl rfl rfl rfl rfl rfl rfl rfl rfl hz hr) (Nat.le_of_ble_eq_true rfl) h0 (by omega) (by decide) ⟨Nat.le_of_ble_eq_true rfl, Nat.le_of_ble_eq_true rfl⟩ (fun _ => Nat.le_of_ble_eq_true rfl) ?_
    have hz := ts_ZA_m hz (show 100 ≤ 104 by decide)
    have hr := ts_ra_104_101
    have hz := ts_ZA_w (k := 0) (x := (1 : Int32)) hz (ts_lvm 99 rfl (by omega))
    have hz := ts_ZA_w (k := 0) (x := (-1 : Int32)) hz (ts_lvm 103 rfl (by omega))
    refine tv_aast6 C (pc := 84) dX0_init_84 (m1 := 101) (ts_lvm 83 rfl (by omega)) rfl (by decide) (a := 3) (by decide) (ts_lvm 99 rfl (by omega)) rfl (q2 := (RX1, TX1, 5)) rfl rfl rfl rfl ?_
    have hr := ts_RA_w hr (show ts_EV[101]? = some ((3, 0, 0), 3) from rfl) (ts_lvm 83 rfl (by omega))
    refine tv_iinc C (pc := 85) dX0_init_85 (v := (4 : Int32)) (L' := [some (.inr (1, 0, 0)), some (.inl (.int (4 : Int32)))]) rfl rfl (by decide) rfl rfl ?_
    refine tv_goto C (pc := 88) 66 dX0_init_88 (by decide) ?_
    refine tv_iload_n C (pc := 66) dX0_init_66 rfl rfl ?_
    refine tv_bipush C (pc := 67) dX0_init_67 (v := (8 : Int32)) rfl ?_
    refine tv_icmp_ge C (pc := 69) 91 dX0_init_69 (by decide) (fun hc => absurd hc (by decide)) (fun _ => ?_)
    refine tv_aload_n C (pc := 72) dX0_init_72 rfl rfl ?_
    refine tv_getR C (pc := 73) dX0_init_73 fl_X0_30 (ts_lvm 1 rfl (by omega)) rfl rfl (i2 := (3, 0, 0)) (ts_rfm 81 rfl (by decide) rfl) ?_
    refine tv_iload_n C (pc := 76) dX0_init_76 rfl rfl ?_
    refine tv_new C (pc := 77) dX0_init_77 (j := 104) nw_X0_28 (N := 5) rfl rfl (i := (16, 0, 4)) rfl h0 (by omega) hz hr ⟨Nat.le_of_ble_eq_true rfl, Nat.le_of_ble_eq_true rfl⟩ ?_
    have hz := ts_ZA_m hz (Nat.le_succ _)
    have hr := ts_RA_m hr (Nat.le_succ _)
    refine tv_dup C (pc := 80) dX0_init_80 (fun _ => rfl) ?_
    refine tv_callI C KA (pc := 81) dX0_init_81 yi_X0_34.1 yi_X0_34.2 (k_X1_init (D := D) (dT := dT) (sz := sz) hl 0 4 104 102 _ rfl rfl rfl rfl rfl rfl rfl rfl rfl hz hr) (Nat.le_of_ble_eq_true rfl) h0 (by omega) (by decide) ⟨Nat.le_of_ble_eq_true rfl, Nat.le_of_ble_eq_true rfl⟩ (fun _ => Nat.le_of_ble_eq_true rfl) ?_
    have hz := ts_ZA_m hz (show 105 ≤ 109 by decide)
    have hr := ts_ra_109_106
    have hz := ts_ZA_w (k := 0) (x := (1 : Int32)) hz (ts_lvm 104 rfl (by omega))
    have hz := ts_ZA_w (k := 0) (x := (-1 : Int32)) hz (ts_lvm 108 rfl (by omega))
    refine tv_aast6 C (pc := 84) dX0_init_84 (m1 := 106) (ts_lvm 83 rfl (by omega)) rfl (by decide) (a := 4) (by decide) (ts_lvm 104 rfl (by omega)) rfl (q2 := (RX1, TX1, 5)) rfl rfl rfl rfl ?_
    have hr := ts_RA_w hr (show ts_EV[106]? = some ((3, 0, 0), 4) from rfl) (ts_lvm 83 rfl (by omega))
    refine tv_iinc C (pc := 85) dX0_init_85 (v := (5 : Int32)) (L' := [some (.inr (1, 0, 0)), some (.inl (.int (5 : Int32)))]) rfl rfl (by decide) rfl rfl ?_
    refine tv_goto C (pc := 88) 66 dX0_init_88 (by decide) ?_
    refine tv_iload_n C (pc := 66) dX0_init_66 rfl rfl ?_
    refine tv_bipush C (pc := 67) dX0_init_67 (v := (8 : Int32)) rfl ?_
    refine tv_icmp_ge C (pc := 69) 91 dX0_init_69 (by decide) (fun hc => absurd hc (by decide)) (fun _ => ?_)
    refine tv_aload_n C (pc := 72) dX0_init_72 rfl rfl ?_
    refine tv_getR C (pc := 73) dX0_init_73 fl_X0_30 (ts_lvm 1 rfl (by omega)) rfl rfl (i2 := (3, 0, 0)) (ts_rfm 81 rfl (by decide) rfl) ?_
    refine tv_iload_n C (pc := 76) dX0_init_76 rfl rfl ?_
    refine tv_new C (pc := 77) dX0_init_77 (j := 109) nw_X0_28 (N := 5) rfl rfl (i := (16, 0, 5)) rfl h0 (by omega) hz hr ⟨Nat.le_of_ble_eq_true rfl, Nat.le_of_ble_eq_true rfl⟩ ?_
    have hz := ts_ZA_m hz (Nat.le_succ _)
    have hr := ts_RA_m hr (Nat.le_succ _)
    refine tv_dup C (pc := 80) dX0_init_80 (fun _ => rfl) ?_
    refine tv_callI C KA (pc := 81) dX0_init_81 yi_X0_34.1 yi_X0_34.2 (k_X1_init (D := D) (dT := dT) (sz := sz) hl 0 5 109 107 _ rfl rfl rfl rfl rfl rfl rfl rfl rfl hz hr) (Nat.le_of_ble_eq_true rfl) h0 (by omega) (by decide) ⟨Nat.le_of_ble_eq_true rfl, Nat.le_of_ble_eq_true rfl⟩ (fun _ => Nat.le_of_ble_eq_true rfl) ?_
    have hz := ts_ZA_m hz (show 110 ≤ 114 by decide)
    have hr := ts_ra_114_111
    have hz := ts_ZA_w (k := 0) (x := (1 : Int32)) hz (ts_lvm 109 rfl (by omega))
    have hz := ts_ZA_w (k := 0) (x := (-1 : Int32)) hz (ts_lvm 113 rfl (by omega))
    refine tv_aast6 C (pc := 84) dX0_init_84 (m1 := 111) (ts_lvm 83 rfl (by omega)) rfl (by decide) (a := 5) (by decide) (ts_lvm 109 rfl (by omega)) rfl (q2 := (RX1, TX1, 5)) rfl rfl rfl rfl ?_
    have hr := ts_RA_w hr (show ts_EV[111]? = some ((3, 0, 0), 5) from rfl) (ts_lvm 83 rfl (by omega))
    refine tv_iinc C (pc := 85) dX0_init_85 (v := (6 : Int32)) (L' := [some (.inr (1, 0, 0)), some (.inl (.int (6 : Int32)))]) rfl rfl (by decide) rfl rfl ?_
    refine tv_goto C (pc := 88) 66 dX0_init_88 (by decide) ?_
    refine tv_iload_n C (pc := 66) dX0_init_66 rfl rfl ?_
    refine tv_bipush C (pc := 67) dX0_init_67 (v := (8 : Int32)) rfl ?_
    refine tv_icmp_ge C (pc := 69) 91 dX0_init_69 (by decide) (fun hc => absurd hc (by decide)) (fun _ => ?_)
    refine tv_aload_n C (pc := 72) dX0_init_72 rfl rfl ?_
    refine tv_getR C (pc := 73) dX0_init_73 fl_X0_30 (ts_lvm 1 rfl (by omega)) rfl rfl (i2 := (3, 0, 0)) (ts_rfm 81 rfl (by decide) rfl) ?_
    refine tv_iload_n C (pc := 76) dX0_init_76 rfl rfl ?_
    refine tv_new C (pc := 77) dX0_init_77 (j := 114) nw_X0_28 (N := 5) rfl rfl (i := (16, 0, 6)) rfl h0 (by omega) hz hr ⟨Nat.le_of_ble_eq_true rfl, Nat.le_of_ble_eq_true rfl⟩ ?_
    have hz := ts_ZA_m hz (Nat.le_succ _)
    have hr := ts_RA_m hr (Nat.le_succ _)
    refine tv_dup C (pc := 80) dX0_init_80 (fun _ => rfl) ?_
    refine tv_callI C KA (pc := 81) dX0_init_81 yi_X0_34.1 yi_X0_34.2 (k_X1_init (D := D) (dT := dT) (sz := sz) hl 0 6 114 112 _ rfl rfl rfl rfl rfl rfl rfl rfl rfl hz hr) (Nat.le_of_ble_eq_true rfl) h0 (by omega) (by decide) ⟨Nat.le_of_ble_eq_true rfl, Nat.le_of_ble_eq_true rfl⟩ (fun _ => Nat.le_of_ble_eq_true rfl) ?_
    have hz := ts_ZA_m hz (show 115 ≤ 119 by decide)
    have hr := ts_ra_119_116
    have hz := ts_ZA_w (k := 0) (x := (1 : Int32)) hz (ts_lvm 114 rfl (by omega))
    have hz := ts_ZA_w (k := 0) (x := (-1 : Int32)) hz (ts_lvm 118 rfl (by omega))
    refine tv_aast6 C (pc := 84) dX0_init_84 (m1 := 116) (ts_lvm 83 rfl (by omega)) rfl (by decide) (a := 6) (by decide) (ts_lvm 114 rfl (by omega)) rfl (q2 := (RX1, TX1, 5)) rfl rfl rfl rfl ?_
    have hr := ts_RA_w hr (show ts_EV[116]? = some ((3, 0, 0), 6) from rfl) (ts_lvm 83 rfl (by omega))
    refine tv_iinc C (pc := 85) dX0_init_85 (v := (7 : Int32)) (L' := [some (.inr (1, 0, 0)), some (.inl (.int (7 : Int32)))]) rfl rfl (by decide) rfl rfl ?_
    refine tv_goto C (pc := 88) 66 dX0_init_88 (by decide) ?_
    refine tv_iload_n C (pc := 66) dX0_init_66 rfl rfl ?_
    refine tv_bipush C (pc := 67) dX0_init_67 (v := (8 : Int32)) rfl ?_
    refine tv_icmp_ge C (pc := 69) 91 dX0_init_69 (by decide) (fun hc => absurd hc (by decide)) (fun _ => ?_)
    refine tv_aload_n C (pc := 72) dX0_init_72 rfl rfl ?_
    refine tv_getR C (pc := 73) dX0_init_73 fl_X0_30 (ts_lvm 1 rfl (by omega)) rfl rfl (i2 := (3, 0, 0)) (ts_rfm 81 rfl (by decide) rfl) ?_
    refine tv_iload_n C (pc := 76) dX0_init_76 rfl rfl ?_
    refine tv_new C (pc := 77) dX0_init_77 (j := 119) nw_X0_28 (N := 5) rfl rfl (i := (16, 0, 7)) rfl h0 (by omega) hz hr ⟨Nat.le_of_ble_eq_true rfl, Nat.le_of_ble_eq_true rfl⟩ ?_
    have hz := ts_ZA_m hz (Nat.le_succ _)
    have hr := ts_RA_m hr (Nat.le_succ _)
    refine tv_dup C (pc := 80) dX0_init_80 (fun _ => rfl) ?_
    refine tv_callI C KA (pc := 81) dX0_init_81 yi_X0_34.1 yi_X0_34.2 (k_X1_init (D := D) (dT := dT) (sz := sz) hl 0 7 119 117 _ rfl rfl rfl rfl rfl rfl rfl rfl rfl hz hr) (Nat.le_of_ble_eq_true rfl) h0 (by omega) (by decide) ⟨Nat.le_of_ble_eq_true rfl, Nat.le_of_ble_eq_true rfl⟩ (fun _ => Nat.le_of_ble_eq_true rfl) ?_
    have hz := ts_ZA_m hz (show 120 ≤ 124 by decide)
    have hr := ts_ra_124_121
    have hz := ts_ZA_w (k := 0) (x := (1 : Int32)) hz (ts_lvm 119 rfl (by omega))
    have hz := ts_ZA_w (k := 0) (x := (-1 : Int32)) hz (ts_lvm 123 rfl (by omega))
    refine tv_aast6 C (pc := 84) dX0_init_84 (m1 := 121) (ts_lvm 83 rfl (by omega)) rfl (by decide) (a := 7) (by decide) (ts_lvm 119 rfl (by omega)) rfl (q2 := (RX1, TX1, 5)) rfl rfl rfl rfl ?_
    have hr := ts_RA_w hr (show ts_EV[121]? = some ((3, 0, 0), 7) from rfl) (ts_lvm 83 rfl (by omega))
    refine tv_iinc C (pc := 85) dX0_init_85 (v := (8 : Int32)) (L' := [some (.inr (1, 0, 0)), some (.inl (.int (8 : Int32)))]) rfl rfl (by decide) rfl rfl ?_
    refine tv_goto C (pc := 88) 66 dX0_init_88 (by decide) ?_
    refine tv_iload_n C (pc := 66) dX0_init_66 rfl rfl ?_
    refine tv_bipush C (pc := 67) dX0_init_67 (v := (8 : Int32)) rfl ?_
    refine tv_icmp_ge C (pc := 69) 91 dX0_init_69 (by decide) (fun _ => ?_) (fun hc => absurd (by decide) hc)
    refine tv_aload_n C (pc := 91) dX0_init_91 rfl rfl ?_
    refine tv_new C (pc := 92) dX0_init_92 (j := 124) nw_X0_35 (N := 6) rfl rfl (i := (4, 0, 0)) rfl h0 (by omega) hz hr ⟨Nat.le_of_ble_eq_true rfl, Nat.le_of_ble_eq_true rfl⟩ ?_
    have hz := ts_ZA_m hz (Nat.le_succ _)
    have hr := ts_RA_m hr (Nat.le_succ _)
    refine tv_dup C (pc := 95) dX0_init_95 (fun _ => rfl) ?_
    refine tv_callIN C KA (pc := 96) dX0_init_96 rfl ni_X0_37.1 ni_X0_37.2.1 (by decide) ni_X0_37.2.2 (k_X2_init (D := D) (dT := dT) (sz := sz) hl 0 124 122 _ rfl rfl rfl rfl rfl rfl rfl rfl rfl hz hr) (Nat.le_of_ble_eq_true rfl) h0 (by omega) (by decide) ⟨Nat.le_of_ble_eq_true rfl, Nat.le_of_ble_eq_true rfl⟩ (fun _ => Nat.le_of_ble_eq_true rfl) ?_
    have hz := ts_ZA_m hz (show 125 ≤ 129 by decide)
    have hr := ts_ra_129_126
    refine tv_putRD C (pc := 99) dX0_init_99 (m1 := 126) ff_X0_38 (ts_lvm 1 rfl (by omega)) rfl rfl hnm (fun _ => rfl) (fun _ => rfl) rfl rfl ?_
    have hr := ts_RA_w hr rfl (ts_lvm 1 rfl (by omega))
    refine tv_aload_n C (pc := 102) dX0_init_102 rfl rfl ?_
    refine tv_bipush C (pc := 103) dX0_init_103 (v := (8 : Int32)) rfl ?_
    refine tv_newa0 C (pc := 105) dX0_init_105 (j := 129) ac_int (N := 8) (by decide) (by decide) (by decide) rfl (i := (5, 0, 0)) rfl h0 (by omega) hz ⟨Nat.le_of_ble_eq_true rfl, Nat.le_of_ble_eq_true rfl⟩ ?_
    have hz := ts_ZA_m hz (Nat.le_succ _)
    have hr := ts_RA_m hr (Nat.le_succ _)
    refine tv_putRD C (pc := 107) dX0_init_107 (m1 := 127) ff_X0_42 (ts_lvm 1 rfl (by omega)) rfl rfl hnm (fun _ => rfl) (fun _ => rfl) rfl rfl ?_
    have hr := ts_RA_w hr rfl (ts_lvm 1 rfl (by omega))
    refine tv_aload_n C (pc := 110) dX0_init_110 rfl rfl ?_
    refine tv_bipush C (pc := 111) dX0_init_111 (v := (16 : Int32)) rfl ?_
    refine tv_newa0 C (pc := 113) dX0_init_113 (j := 130) ac_int (N := 16) (by decide) (by decide) (by decide) rfl (i := (6, 0, 0)) rfl h0 (by omega) hz ⟨Nat.le_of_ble_eq_true rfl, Nat.le_of_ble_eq_true rfl⟩ ?_
    have hz := ts_ZA_m hz (Nat.le_succ _)
    have hr := ts_RA_m hr (Nat.le_succ _)
    refine tv_putRD C (pc := 115) dX0_init_115 (m1 := 128) ff_X0_46 (ts_lvm 1 rfl (by omega)) rfl rfl hnm (fun _ => rfl) (fun _ => rfl) rfl rfl ?_
    have hr := ts_RA_w hr rfl (ts_lvm 1 rfl (by omega))
    exact tv_vret C (pc := 118) rfl dX0_init_118 ⟨Nat.le_of_ble_eq_true rfl, Nat.le_of_ble_eq_true rfl⟩ 
set_option maxRecDepth 100000 in
set_option maxHeartbeats 8000000 in
theorem kz_X0_init0 (u : ts_Mem) (hz : ts_ZA 2 u) : ts_ZA 131 (ku_X0_init0 u) := by
    unfold ku_X0_init0
    have hz := ts_ZA_w (k := 0) (x := (2 : Int32)) hz (ts_lvm 1 rfl (by omega))
    have hz := ts_ZA_w (k := 1) (x := (1 : Int32)) hz (ts_lvm 1 rfl (by omega))
    have hz := ts_ZA_w (k := 2) (x := (0 : Int32)) hz (ts_lvm 1 rfl (by omega))
    have hz := ts_ZA_m hz (Nat.le_succ _)
    have hz := ts_ZA_m hz (Nat.le_succ _)
    have hz := ts_ZA_m hz (show 4 ≤ 8 by decide)
    have hz := ts_ZA_m hz (Nat.le_succ _)
    have hz := ts_ZA_m hz (show 9 ≤ 13 by decide)
    have hz := ts_ZA_m hz (Nat.le_succ _)
    have hz := ts_ZA_m hz (show 14 ≤ 18 by decide)
    have hz := ts_ZA_m hz (Nat.le_succ _)
    have hz := ts_ZA_m hz (show 19 ≤ 23 by decide)
    have hz := ts_ZA_m hz (Nat.le_succ _)
    have hz := ts_ZA_m hz (show 24 ≤ 28 by decide)
    have hz := ts_ZA_m hz (Nat.le_succ _)
    have hz := ts_ZA_m hz (show 29 ≤ 33 by decide)
    have hz := ts_ZA_m hz (Nat.le_succ _)
    have hz := ts_ZA_m hz (show 34 ≤ 38 by decide)
    have hz := ts_ZA_m hz (Nat.le_succ _)
    have hz := ts_ZA_m hz (show 39 ≤ 43 by decide)
    have hz := ts_ZA_m hz (Nat.le_succ _)
    have hz := ts_ZA_m hz (show 44 ≤ 48 by decide)
    have hz := ts_ZA_m hz (Nat.le_succ _)
    have hz := ts_ZA_m hz (show 49 ≤ 53 by decide)
    have hz := ts_ZA_m hz (Nat.le_succ _)
    have hz := ts_ZA_m hz (show 54 ≤ 58 by decide)
    have hz := ts_ZA_m hz (Nat.le_succ _)
    have hz := ts_ZA_m hz (show 59 ≤ 63 by decide)
    have hz := ts_ZA_m hz (Nat.le_succ _)
    have hz := ts_ZA_m hz (show 64 ≤ 68 by decide)
    have hz := ts_ZA_m hz (Nat.le_succ _)
    have hz := ts_ZA_m hz (show 69 ≤ 73 by decide)
    have hz := ts_ZA_m hz (Nat.le_succ _)
    have hz := ts_ZA_m hz (show 74 ≤ 78 by decide)
    have hz := ts_ZA_m hz (Nat.le_succ _)
    have hz := ts_ZA_m hz (show 79 ≤ 83 by decide)
    have hz := ts_ZA_m hz (Nat.le_succ _)
    have hz := ts_ZA_m hz (Nat.le_succ _)
    have hz := ts_ZA_m hz (show 85 ≤ 89 by decide)
    have hz := ts_ZA_w (k := 0) (x := (1 : Int32)) hz (ts_lvm 84 rfl (by omega))
    have hz := ts_ZA_w (k := 0) (x := (-1 : Int32)) hz (ts_lvm 88 rfl (by omega))
    have hz := ts_ZA_m hz (Nat.le_succ _)
    have hz := ts_ZA_m hz (show 90 ≤ 94 by decide)
    have hz := ts_ZA_w (k := 0) (x := (1 : Int32)) hz (ts_lvm 89 rfl (by omega))
    have hz := ts_ZA_w (k := 0) (x := (-1 : Int32)) hz (ts_lvm 93 rfl (by omega))
    have hz := ts_ZA_m hz (Nat.le_succ _)
    have hz := ts_ZA_m hz (show 95 ≤ 99 by decide)
    have hz := ts_ZA_w (k := 0) (x := (1 : Int32)) hz (ts_lvm 94 rfl (by omega))
    have hz := ts_ZA_w (k := 0) (x := (-1 : Int32)) hz (ts_lvm 98 rfl (by omega))
    have hz := ts_ZA_m hz (Nat.le_succ _)
    have hz := ts_ZA_m hz (show 100 ≤ 104 by decide)
    have hz := ts_ZA_w (k := 0) (x := (1 : Int32)) hz (ts_lvm 99 rfl (by omega))
    have hz := ts_ZA_w (k := 0) (x := (-1 : Int32)) hz (ts_lvm 103 rfl (by omega))
    have hz := ts_ZA_m hz (Nat.le_succ _)
    have hz := ts_ZA_m hz (show 105 ≤ 109 by decide)
    have hz := ts_ZA_w (k := 0) (x := (1 : Int32)) hz (ts_lvm 104 rfl (by omega))
    have hz := ts_ZA_w (k := 0) (x := (-1 : Int32)) hz (ts_lvm 108 rfl (by omega))
    have hz := ts_ZA_m hz (Nat.le_succ _)
    have hz := ts_ZA_m hz (show 110 ≤ 114 by decide)
    have hz := ts_ZA_w (k := 0) (x := (1 : Int32)) hz (ts_lvm 109 rfl (by omega))
    have hz := ts_ZA_w (k := 0) (x := (-1 : Int32)) hz (ts_lvm 113 rfl (by omega))
    have hz := ts_ZA_m hz (Nat.le_succ _)
    have hz := ts_ZA_m hz (show 115 ≤ 119 by decide)
    have hz := ts_ZA_w (k := 0) (x := (1 : Int32)) hz (ts_lvm 114 rfl (by omega))
    have hz := ts_ZA_w (k := 0) (x := (-1 : Int32)) hz (ts_lvm 118 rfl (by omega))
    have hz := ts_ZA_m hz (Nat.le_succ _)
    have hz := ts_ZA_m hz (show 120 ≤ 124 by decide)
    have hz := ts_ZA_w (k := 0) (x := (1 : Int32)) hz (ts_lvm 119 rfl (by omega))
    have hz := ts_ZA_w (k := 0) (x := (-1 : Int32)) hz (ts_lvm 123 rfl (by omega))
    have hz := ts_ZA_m hz (Nat.le_succ _)
    have hz := ts_ZA_m hz (show 125 ≤ 129 by decide)
    have hz := ts_ZA_m hz (Nat.le_succ _)
    have hz := ts_ZA_m hz (Nat.le_succ _)
    exact hz
def ku_X0_init1 (u : ts_Mem) : ts_Mem := (ts_sI (ts_sI (ts_sI (ts_sI (ts_sI (ts_sI (ts_sI (ts_sI (ts_sI (ts_sI (ts_sI (ts_sI (ts_sI (ts_sI (ts_sI (ts_sI (ts_sI (ts_sI (ts_sI u (1, 1, 0) 0 (2 : Int32)) (1, 1, 0) 1 (1 : Int32)) (1, 1, 0) 2 (0 : Int32)) (16, 1, 0) 0 (1 : Int32)) (20, 1, 0) 0 (-1 : Int32)) (16, 1, 1) 0 (1 : Int32)) (20, 1, 1) 0 (-1 : Int32)) (16, 1, 2) 0 (1 : Int32)) (20, 1, 2) 0 (-1 : Int32)) (16, 1, 3) 0 (1 : Int32)) (20, 1, 3) 0 (-1 : Int32)) (16, 1, 4) 0 (1 : Int32)) (20, 1, 4) 0 (-1 : Int32)) (16, 1, 5) 0 (1 : Int32)) (20, 1, 5) 0 (-1 : Int32)) (16, 1, 6) 0 (1 : Int32)) (20, 1, 6) 0 (-1 : Int32)) (16, 1, 7) 0 (1 : Int32)) (20, 1, 7) 0 (-1 : Int32))
set_option maxRecDepth 100000 in
set_option maxHeartbeats 8000000 in
theorem k_X0_init1 {l : Launch} {D : va_G} {dT : Nat → ClassId} {sz : Nat} (hl : l.stackTraces = false) (u : ts_Mem) (hz : ts_ZA 132 u) (hr : ts_RA 132 130) : ts_MD l D dT sz yX0_init wqX0_init 1 129 2237 [.inr (1, 1, 0)] 132 130 u 261 259 (ku_X0_init1 u) := by
    unfold ku_X0_init1
    refine ts_enterD hl (by decide) rfl rfl (Nat.le_of_ble_eq_true rfl) ?_
    intro p e s m args below meth c C KA hnm h0 hsz
    have C : ts_CX D dT sz p l (ts_rm 1 129 2237) s m args meth c RX0 cX0_init 2 none 1 := C
    refine tv_aload_n C (pc := 0) dX0_init_0 rfl rfl ?_
    refine tv_objInit C (pc := 1) dX0_init_1 oi_X0_3 ts_oi (fun _ => Nat.le_of_ble_eq_true rfl) ?_
    refine tv_aload_n C (pc := 4) dX0_init_4 rfl rfl ?_
    refine tv_iconst C (pc := 5) dX0_init_5 (v := (2 : Int32)) rfl ?_
    refine tv_putI C (pc := 6) dX0_init_6 fp_X0_9 (ts_lvm 131 rfl (by omega)) rfl (cd := 0) rfl (by decide) rfl rfl ?_
    have hz := ts_ZA_w (k := 0) (x := (2 : Int32)) hz (ts_lvm 131 rfl (by omega))
    refine tv_aload_n C (pc := 9) dX0_init_9 rfl rfl ?_
    refine tv_iconst C (pc := 10) dX0_init_10 (v := (1 : Int32)) rfl ?_
    refine tv_putI C (pc := 11) dX0_init_11 fp_X0_15 (ts_lvm 131 rfl (by omega)) rfl (cd := 0) rfl (by decide) rfl rfl ?_
    have hz := ts_ZA_w (k := 1) (x := (1 : Int32)) hz (ts_lvm 131 rfl (by omega))
    refine tv_aload_n C (pc := 14) dX0_init_14 rfl rfl ?_
    refine tv_iconst C (pc := 15) dX0_init_15 (v := (0 : Int32)) rfl ?_
    refine tv_putI C (pc := 16) dX0_init_16 fp_X0_18 (ts_lvm 131 rfl (by omega)) rfl (cd := 0) rfl (by decide) rfl rfl ?_
    have hz := ts_ZA_w (k := 2) (x := (0 : Int32)) hz (ts_lvm 131 rfl (by omega))
    refine tv_aload_n C (pc := 19) dX0_init_19 rfl rfl ?_
    refine tv_bipush C (pc := 20) dX0_init_20 (v := (16 : Int32)) rfl ?_
    refine tv_anewa5 C KA (pc := 22) (j := 132) dX0_init_22 cn_X0_21 (N := 16) (by decide) (by decide) (by decide) rfl (i := (2, 1, 0)) rfl h0 (by omega) hr ⟨Nat.le_of_ble_eq_true rfl, Nat.le_of_ble_eq_true rfl⟩ ?_
    have hz := ts_ZA_m hz (Nat.le_succ _)
    have hr := ts_RA_m hr (Nat.le_succ _)
    refine tv_putRD C (pc := 25) dX0_init_25 (m1 := 130) ff_X0_23 (ts_lvm 131 rfl (by omega)) rfl rfl hnm (fun _ => rfl) (fun _ => rfl) rfl rfl ?_
    have hr := ts_RA_w hr rfl (ts_lvm 131 rfl (by omega))
    refine tv_iconst C (pc := 28) dX0_init_28 (v := (0 : Int32)) rfl ?_
    refine tv_istore_n C (pc := 29) dX0_init_29 (L' := [some (.inr (1, 1, 0)), some (.inl (.int (0 : Int32)))]) rfl (by decide) rfl rfl ?_
    refine tv_iload_n C (pc := 30) dX0_init_30 rfl rfl ?_
    refine tv_bipush C (pc := 31) dX0_init_31 (v := (16 : Int32)) rfl ?_
    refine tv_icmp_ge C (pc := 33) 55 dX0_init_33 (by decide) (fun hc => absurd hc (by decide)) (fun _ => ?_)
    refine tv_aload_n C (pc := 36) dX0_init_36 rfl rfl ?_
    refine tv_getR C (pc := 37) dX0_init_37 fl_X0_23 (ts_lvm 131 rfl (by omega)) rfl rfl (i2 := (2, 1, 0)) (ts_rfm 130 rfl (by decide) rfl) ?_
    refine tv_iload_n C (pc := 40) dX0_init_40 rfl rfl ?_
    refine tv_new C (pc := 41) dX0_init_41 (j := 133) nw_X0_21 (N := 10) rfl rfl (i := (11, 1, 0)) rfl h0 (by omega) hz hr ⟨Nat.le_of_ble_eq_true rfl, Nat.le_of_ble_eq_true rfl⟩ ?_
    have hz := ts_ZA_m hz (Nat.le_succ _)
    have hr := ts_RA_m hr (Nat.le_succ _)
    refine tv_dup C (pc := 44) dX0_init_44 (fun _ => rfl) ?_
    refine tv_callIN C KA (pc := 45) dX0_init_45 rfl ni_X0_27.1 ni_X0_27.2.1 (by decide) ni_X0_27.2.2 (k_X5_init (D := D) (dT := dT) (sz := sz) hl 1 0 133 131 _ rfl rfl rfl rfl rfl rfl rfl rfl rfl hz hr) (Nat.le_of_ble_eq_true rfl) h0 (by omega) (by decide) ⟨Nat.le_of_ble_eq_true rfl, Nat.le_of_ble_eq_true rfl⟩ (fun _ => Nat.le_of_ble_eq_true rfl) ?_
    have hz := ts_ZA_m hz (show 134 ≤ 138 by decide)
    have hr := ts_ra_138_135
    refine tv_aast5 C (pc := 48) dX0_init_48 (m1 := 135) (ts_lvm 132 rfl (by omega)) rfl (by decide) (a := 0) (by decide) (ts_lvm 133 rfl (by omega)) rfl (q2 := (RX5, TX5, 10)) rfl rfl rfl rfl ?_
    have hr := ts_RA_w hr (show ts_EV[135]? = some ((2, 1, 0), 0) from rfl) (ts_lvm 132 rfl (by omega))
    refine tv_iinc C (pc := 49) dX0_init_49 (v := (1 : Int32)) (L' := [some (.inr (1, 1, 0)), some (.inl (.int (1 : Int32)))]) rfl rfl (by decide) rfl rfl ?_
    refine tv_goto C (pc := 52) 30 dX0_init_52 (by decide) ?_
    refine tv_iload_n C (pc := 30) dX0_init_30 rfl rfl ?_
    refine tv_bipush C (pc := 31) dX0_init_31 (v := (16 : Int32)) rfl ?_
    refine tv_icmp_ge C (pc := 33) 55 dX0_init_33 (by decide) (fun hc => absurd hc (by decide)) (fun _ => ?_)
    refine tv_aload_n C (pc := 36) dX0_init_36 rfl rfl ?_
    refine tv_getR C (pc := 37) dX0_init_37 fl_X0_23 (ts_lvm 131 rfl (by omega)) rfl rfl (i2 := (2, 1, 0)) (ts_rfm 130 rfl (by decide) rfl) ?_
    refine tv_iload_n C (pc := 40) dX0_init_40 rfl rfl ?_
    refine tv_new C (pc := 41) dX0_init_41 (j := 138) nw_X0_21 (N := 10) rfl rfl (i := (11, 1, 1)) rfl h0 (by omega) hz hr ⟨Nat.le_of_ble_eq_true rfl, Nat.le_of_ble_eq_true rfl⟩ ?_
    have hz := ts_ZA_m hz (Nat.le_succ _)
    have hr := ts_RA_m hr (Nat.le_succ _)
    refine tv_dup C (pc := 44) dX0_init_44 (fun _ => rfl) ?_
    refine tv_callIN C KA (pc := 45) dX0_init_45 rfl ni_X0_27.1 ni_X0_27.2.1 (by decide) ni_X0_27.2.2 (k_X5_init (D := D) (dT := dT) (sz := sz) hl 1 1 138 136 _ rfl rfl rfl rfl rfl rfl rfl rfl rfl hz hr) (Nat.le_of_ble_eq_true rfl) h0 (by omega) (by decide) ⟨Nat.le_of_ble_eq_true rfl, Nat.le_of_ble_eq_true rfl⟩ (fun _ => Nat.le_of_ble_eq_true rfl) ?_
    have hz := ts_ZA_m hz (show 139 ≤ 143 by decide)
    have hr := ts_ra_143_140
    refine tv_aast5 C (pc := 48) dX0_init_48 (m1 := 140) (ts_lvm 132 rfl (by omega)) rfl (by decide) (a := 1) (by decide) (ts_lvm 138 rfl (by omega)) rfl (q2 := (RX5, TX5, 10)) rfl rfl rfl rfl ?_
    have hr := ts_RA_w hr (show ts_EV[140]? = some ((2, 1, 0), 1) from rfl) (ts_lvm 132 rfl (by omega))
    refine tv_iinc C (pc := 49) dX0_init_49 (v := (2 : Int32)) (L' := [some (.inr (1, 1, 0)), some (.inl (.int (2 : Int32)))]) rfl rfl (by decide) rfl rfl ?_
    refine tv_goto C (pc := 52) 30 dX0_init_52 (by decide) ?_
    refine tv_iload_n C (pc := 30) dX0_init_30 rfl rfl ?_
    refine tv_bipush C (pc := 31) dX0_init_31 (v := (16 : Int32)) rfl ?_
    refine tv_icmp_ge C (pc := 33) 55 dX0_init_33 (by decide) (fun hc => absurd hc (by decide)) (fun _ => ?_)
    refine tv_aload_n C (pc := 36) dX0_init_36 rfl rfl ?_
    refine tv_getR C (pc := 37) dX0_init_37 fl_X0_23 (ts_lvm 131 rfl (by omega)) rfl rfl (i2 := (2, 1, 0)) (ts_rfm 130 rfl (by decide) rfl) ?_
    refine tv_iload_n C (pc := 40) dX0_init_40 rfl rfl ?_
    refine tv_new C (pc := 41) dX0_init_41 (j := 143) nw_X0_21 (N := 10) rfl rfl (i := (11, 1, 2)) rfl h0 (by omega) hz hr ⟨Nat.le_of_ble_eq_true rfl, Nat.le_of_ble_eq_true rfl⟩ ?_
    have hz := ts_ZA_m hz (Nat.le_succ _)
    have hr := ts_RA_m hr (Nat.le_succ _)
    refine tv_dup C (pc := 44) dX0_init_44 (fun _ => rfl) ?_
    refine tv_callIN C KA (pc := 45) dX0_init_45 rfl ni_X0_27.1 ni_X0_27.2.1 (by decide) ni_X0_27.2.2 (k_X5_init (D := D) (dT := dT) (sz := sz) hl 1 2 143 141 _ rfl rfl rfl rfl rfl rfl rfl rfl rfl hz hr) (Nat.le_of_ble_eq_true rfl) h0 (by omega) (by decide) ⟨Nat.le_of_ble_eq_true rfl, Nat.le_of_ble_eq_true rfl⟩ (fun _ => Nat.le_of_ble_eq_true rfl) ?_
    have hz := ts_ZA_m hz (show 144 ≤ 148 by decide)
    have hr := ts_ra_148_145
    refine tv_aast5 C (pc := 48) dX0_init_48 (m1 := 145) (ts_lvm 132 rfl (by omega)) rfl (by decide) (a := 2) (by decide) (ts_lvm 143 rfl (by omega)) rfl (q2 := (RX5, TX5, 10)) rfl rfl rfl rfl ?_
    have hr := ts_RA_w hr (show ts_EV[145]? = some ((2, 1, 0), 2) from rfl) (ts_lvm 132 rfl (by omega))
    refine tv_iinc C (pc := 49) dX0_init_49 (v := (3 : Int32)) (L' := [some (.inr (1, 1, 0)), some (.inl (.int (3 : Int32)))]) rfl rfl (by decide) rfl rfl ?_
    refine tv_goto C (pc := 52) 30 dX0_init_52 (by decide) ?_
    refine tv_iload_n C (pc := 30) dX0_init_30 rfl rfl ?_
    refine tv_bipush C (pc := 31) dX0_init_31 (v := (16 : Int32)) rfl ?_
    refine tv_icmp_ge C (pc := 33) 55 dX0_init_33 (by decide) (fun hc => absurd hc (by decide)) (fun _ => ?_)
    refine tv_aload_n C (pc := 36) dX0_init_36 rfl rfl ?_
    refine tv_getR C (pc := 37) dX0_init_37 fl_X0_23 (ts_lvm 131 rfl (by omega)) rfl rfl (i2 := (2, 1, 0)) (ts_rfm 130 rfl (by decide) rfl) ?_
    refine tv_iload_n C (pc := 40) dX0_init_40 rfl rfl ?_
    refine tv_new C (pc := 41) dX0_init_41 (j := 148) nw_X0_21 (N := 10) rfl rfl (i := (11, 1, 3)) rfl h0 (by omega) hz hr ⟨Nat.le_of_ble_eq_true rfl, Nat.le_of_ble_eq_true rfl⟩ ?_
    have hz := ts_ZA_m hz (Nat.le_succ _)
    have hr := ts_RA_m hr (Nat.le_succ _)
    refine tv_dup C (pc := 44) dX0_init_44 (fun _ => rfl) ?_
    refine tv_callIN C KA (pc := 45) dX0_init_45 rfl ni_X0_27.1 ni_X0_27.2.1 (by decide) ni_X0_27.2.2 (k_X5_init (D := D) (dT := dT) (sz := sz) hl 1 3 148 146 _ rfl rfl rfl rfl rfl rfl rfl rfl rfl hz hr) (Nat.le_of_ble_eq_true rfl) h0 (by omega) (by decide) ⟨Nat.le_of_ble_eq_true rfl, Nat.le_of_ble_eq_true rfl⟩ (fun _ => Nat.le_of_ble_eq_true rfl) ?_
    have hz := ts_ZA_m hz (show 149 ≤ 153 by decide)
    have hr := ts_ra_153_150
    refine tv_aast5 C (pc := 48) dX0_init_48 (m1 := 150) (ts_lvm 132 rfl (by omega)) rfl (by decide) (a := 3) (by decide) (ts_lvm 148 rfl (by omega)) rfl (q2 := (RX5, TX5, 10)) rfl rfl rfl rfl ?_
    have hr := ts_RA_w hr (show ts_EV[150]? = some ((2, 1, 0), 3) from rfl) (ts_lvm 132 rfl (by omega))
    refine tv_iinc C (pc := 49) dX0_init_49 (v := (4 : Int32)) (L' := [some (.inr (1, 1, 0)), some (.inl (.int (4 : Int32)))]) rfl rfl (by decide) rfl rfl ?_
    refine tv_goto C (pc := 52) 30 dX0_init_52 (by decide) ?_
    refine tv_iload_n C (pc := 30) dX0_init_30 rfl rfl ?_
    refine tv_bipush C (pc := 31) dX0_init_31 (v := (16 : Int32)) rfl ?_
    refine tv_icmp_ge C (pc := 33) 55 dX0_init_33 (by decide) (fun hc => absurd hc (by decide)) (fun _ => ?_)
    refine tv_aload_n C (pc := 36) dX0_init_36 rfl rfl ?_
    refine tv_getR C (pc := 37) dX0_init_37 fl_X0_23 (ts_lvm 131 rfl (by omega)) rfl rfl (i2 := (2, 1, 0)) (ts_rfm 130 rfl (by decide) rfl) ?_
    refine tv_iload_n C (pc := 40) dX0_init_40 rfl rfl ?_
    refine tv_new C (pc := 41) dX0_init_41 (j := 153) nw_X0_21 (N := 10) rfl rfl (i := (11, 1, 4)) rfl h0 (by omega) hz hr ⟨Nat.le_of_ble_eq_true rfl, Nat.le_of_ble_eq_true rfl⟩ ?_
    have hz := ts_ZA_m hz (Nat.le_succ _)
    have hr := ts_RA_m hr (Nat.le_succ _)
    refine tv_dup C (pc := 44) dX0_init_44 (fun _ => rfl) ?_
    refine tv_callIN C KA (pc := 45) dX0_init_45 rfl ni_X0_27.1 ni_X0_27.2.1 (by decide) ni_X0_27.2.2 (k_X5_init (D := D) (dT := dT) (sz := sz) hl 1 4 153 151 _ rfl rfl rfl rfl rfl rfl rfl rfl rfl hz hr) (Nat.le_of_ble_eq_true rfl) h0 (by omega) (by decide) ⟨Nat.le_of_ble_eq_true rfl, Nat.le_of_ble_eq_true rfl⟩ (fun _ => Nat.le_of_ble_eq_true rfl) ?_
    have hz := ts_ZA_m hz (show 154 ≤ 158 by decide)
    have hr := ts_ra_158_155
    refine tv_aast5 C (pc := 48) dX0_init_48 (m1 := 155) (ts_lvm 132 rfl (by omega)) rfl (by decide) (a := 4) (by decide) (ts_lvm 153 rfl (by omega)) rfl (q2 := (RX5, TX5, 10)) rfl rfl rfl rfl ?_
    have hr := ts_RA_w hr (show ts_EV[155]? = some ((2, 1, 0), 4) from rfl) (ts_lvm 132 rfl (by omega))
    refine tv_iinc C (pc := 49) dX0_init_49 (v := (5 : Int32)) (L' := [some (.inr (1, 1, 0)), some (.inl (.int (5 : Int32)))]) rfl rfl (by decide) rfl rfl ?_
    refine tv_goto C (pc := 52) 30 dX0_init_52 (by decide) ?_
    refine tv_iload_n C (pc := 30) dX0_init_30 rfl rfl ?_
    refine tv_bipush C (pc := 31) dX0_init_31 (v := (16 : Int32)) rfl ?_
    refine tv_icmp_ge C (pc := 33) 55 dX0_init_33 (by decide) (fun hc => absurd hc (by decide)) (fun _ => ?_)
    refine tv_aload_n C (pc := 36) dX0_init_36 rfl rfl ?_
    refine tv_getR C (pc := 37) dX0_init_37 fl_X0_23 (ts_lvm 131 rfl (by omega)) rfl rfl (i2 := (2, 1, 0)) (ts_rfm 130 rfl (by decide) rfl) ?_
    refine tv_iload_n C (pc := 40) dX0_init_40 rfl rfl ?_
    refine tv_new C (pc := 41) dX0_init_41 (j := 158) nw_X0_21 (N := 10) rfl rfl (i := (11, 1, 5)) rfl h0 (by omega) hz hr ⟨Nat.le_of_ble_eq_true rfl, Nat.le_of_ble_eq_true rfl⟩ ?_
    have hz := ts_ZA_m hz (Nat.le_succ _)
    have hr := ts_RA_m hr (Nat.le_succ _)
    refine tv_dup C (pc := 44) dX0_init_44 (fun _ => rfl) ?_
    refine tv_callIN C KA (pc := 45) dX0_init_45 rfl ni_X0_27.1 ni_X0_27.2.1 (by decide) ni_X0_27.2.2 (k_X5_init (D := D) (dT := dT) (sz := sz) hl 1 5 158 156 _ rfl rfl rfl rfl rfl rfl rfl rfl rfl hz hr) (Nat.le_of_ble_eq_true rfl) h0 (by omega) (by decide) ⟨Nat.le_of_ble_eq_true rfl, Nat.le_of_ble_eq_true rfl⟩ (fun _ => Nat.le_of_ble_eq_true rfl) ?_
    have hz := ts_ZA_m hz (show 159 ≤ 163 by decide)
    have hr := ts_ra_163_160
    refine tv_aast5 C (pc := 48) dX0_init_48 (m1 := 160) (ts_lvm 132 rfl (by omega)) rfl (by decide) (a := 5) (by decide) (ts_lvm 158 rfl (by omega)) rfl (q2 := (RX5, TX5, 10)) rfl rfl rfl rfl ?_
    have hr := ts_RA_w hr (show ts_EV[160]? = some ((2, 1, 0), 5) from rfl) (ts_lvm 132 rfl (by omega))
    refine tv_iinc C (pc := 49) dX0_init_49 (v := (6 : Int32)) (L' := [some (.inr (1, 1, 0)), some (.inl (.int (6 : Int32)))]) rfl rfl (by decide) rfl rfl ?_
    refine tv_goto C (pc := 52) 30 dX0_init_52 (by decide) ?_
    refine tv_iload_n C (pc := 30) dX0_init_30 rfl rfl ?_
    refine tv_bipush C (pc := 31) dX0_init_31 (v := (16 : Int32)) rfl ?_
    refine tv_icmp_ge C (pc := 33) 55 dX0_init_33 (by decide) (fun hc => absurd hc (by decide)) (fun _ => ?_)
    refine tv_aload_n C (pc := 36) dX0_init_36 rfl rfl ?_
    refine tv_getR C (pc := 37) dX0_init_37 fl_X0_23 (ts_lvm 131 rfl (by omega)) rfl rfl (i2 := (2, 1, 0)) (ts_rfm 130 rfl (by decide) rfl) ?_
    refine tv_iload_n C (pc := 40) dX0_init_40 rfl rfl ?_
    refine tv_new C (pc := 41) dX0_init_41 (j := 163) nw_X0_21 (N := 10) rfl rfl (i := (11, 1, 6)) rfl h0 (by omega) hz hr ⟨Nat.le_of_ble_eq_true rfl, Nat.le_of_ble_eq_true rfl⟩ ?_
    have hz := ts_ZA_m hz (Nat.le_succ _)
    have hr := ts_RA_m hr (Nat.le_succ _)
    refine tv_dup C (pc := 44) dX0_init_44 (fun _ => rfl) ?_
    refine tv_callIN C KA (pc := 45) dX0_init_45 rfl ni_X0_27.1 ni_X0_27.2.1 (by decide) ni_X0_27.2.2 (k_X5_init (D := D) (dT := dT) (sz := sz) hl 1 6 163 161 _ rfl rfl rfl rfl rfl rfl rfl rfl rfl hz hr) (Nat.le_of_ble_eq_true rfl) h0 (by omega) (by decide) ⟨Nat.le_of_ble_eq_true rfl, Nat.le_of_ble_eq_true rfl⟩ (fun _ => Nat.le_of_ble_eq_true rfl) ?_
    have hz := ts_ZA_m hz (show 164 ≤ 168 by decide)
    have hr := ts_ra_168_165
    refine tv_aast5 C (pc := 48) dX0_init_48 (m1 := 165) (ts_lvm 132 rfl (by omega)) rfl (by decide) (a := 6) (by decide) (ts_lvm 163 rfl (by omega)) rfl (q2 := (RX5, TX5, 10)) rfl rfl rfl rfl ?_
    have hr := ts_RA_w hr (show ts_EV[165]? = some ((2, 1, 0), 6) from rfl) (ts_lvm 132 rfl (by omega))
    refine tv_iinc C (pc := 49) dX0_init_49 (v := (7 : Int32)) (L' := [some (.inr (1, 1, 0)), some (.inl (.int (7 : Int32)))]) rfl rfl (by decide) rfl rfl ?_
    refine tv_goto C (pc := 52) 30 dX0_init_52 (by decide) ?_
    refine tv_iload_n C (pc := 30) dX0_init_30 rfl rfl ?_
    refine tv_bipush C (pc := 31) dX0_init_31 (v := (16 : Int32)) rfl ?_
    refine tv_icmp_ge C (pc := 33) 55 dX0_init_33 (by decide) (fun hc => absurd hc (by decide)) (fun _ => ?_)
    refine tv_aload_n C (pc := 36) dX0_init_36 rfl rfl ?_
    refine tv_getR C (pc := 37) dX0_init_37 fl_X0_23 (ts_lvm 131 rfl (by omega)) rfl rfl (i2 := (2, 1, 0)) (ts_rfm 130 rfl (by decide) rfl) ?_
    refine tv_iload_n C (pc := 40) dX0_init_40 rfl rfl ?_
    refine tv_new C (pc := 41) dX0_init_41 (j := 168) nw_X0_21 (N := 10) rfl rfl (i := (11, 1, 7)) rfl h0 (by omega) hz hr ⟨Nat.le_of_ble_eq_true rfl, Nat.le_of_ble_eq_true rfl⟩ ?_
    have hz := ts_ZA_m hz (Nat.le_succ _)
    have hr := ts_RA_m hr (Nat.le_succ _)
    refine tv_dup C (pc := 44) dX0_init_44 (fun _ => rfl) ?_
    refine tv_callIN C KA (pc := 45) dX0_init_45 rfl ni_X0_27.1 ni_X0_27.2.1 (by decide) ni_X0_27.2.2 (k_X5_init (D := D) (dT := dT) (sz := sz) hl 1 7 168 166 _ rfl rfl rfl rfl rfl rfl rfl rfl rfl hz hr) (Nat.le_of_ble_eq_true rfl) h0 (by omega) (by decide) ⟨Nat.le_of_ble_eq_true rfl, Nat.le_of_ble_eq_true rfl⟩ (fun _ => Nat.le_of_ble_eq_true rfl) ?_
    have hz := ts_ZA_m hz (show 169 ≤ 173 by decide)
    have hr := ts_ra_173_170
    refine tv_aast5 C (pc := 48) dX0_init_48 (m1 := 170) (ts_lvm 132 rfl (by omega)) rfl (by decide) (a := 7) (by decide) (ts_lvm 168 rfl (by omega)) rfl (q2 := (RX5, TX5, 10)) rfl rfl rfl rfl ?_
    have hr := ts_RA_w hr (show ts_EV[170]? = some ((2, 1, 0), 7) from rfl) (ts_lvm 132 rfl (by omega))
    refine tv_iinc C (pc := 49) dX0_init_49 (v := (8 : Int32)) (L' := [some (.inr (1, 1, 0)), some (.inl (.int (8 : Int32)))]) rfl rfl (by decide) rfl rfl ?_
    refine tv_goto C (pc := 52) 30 dX0_init_52 (by decide) ?_
    refine tv_iload_n C (pc := 30) dX0_init_30 rfl rfl ?_
    refine tv_bipush C (pc := 31) dX0_init_31 (v := (16 : Int32)) rfl ?_
    refine tv_icmp_ge C (pc := 33) 55 dX0_init_33 (by decide) (fun hc => absurd hc (by decide)) (fun _ => ?_)
    refine tv_aload_n C (pc := 36) dX0_init_36 rfl rfl ?_
    refine tv_getR C (pc := 37) dX0_init_37 fl_X0_23 (ts_lvm 131 rfl (by omega)) rfl rfl (i2 := (2, 1, 0)) (ts_rfm 130 rfl (by decide) rfl) ?_
    refine tv_iload_n C (pc := 40) dX0_init_40 rfl rfl ?_
    refine tv_new C (pc := 41) dX0_init_41 (j := 173) nw_X0_21 (N := 10) rfl rfl (i := (11, 1, 8)) rfl h0 (by omega) hz hr ⟨Nat.le_of_ble_eq_true rfl, Nat.le_of_ble_eq_true rfl⟩ ?_
    have hz := ts_ZA_m hz (Nat.le_succ _)
    have hr := ts_RA_m hr (Nat.le_succ _)
    refine tv_dup C (pc := 44) dX0_init_44 (fun _ => rfl) ?_
    refine tv_callIN C KA (pc := 45) dX0_init_45 rfl ni_X0_27.1 ni_X0_27.2.1 (by decide) ni_X0_27.2.2 (k_X5_init (D := D) (dT := dT) (sz := sz) hl 1 8 173 171 _ rfl rfl rfl rfl rfl rfl rfl rfl rfl hz hr) (Nat.le_of_ble_eq_true rfl) h0 (by omega) (by decide) ⟨Nat.le_of_ble_eq_true rfl, Nat.le_of_ble_eq_true rfl⟩ (fun _ => Nat.le_of_ble_eq_true rfl) ?_
    have hz := ts_ZA_m hz (show 174 ≤ 178 by decide)
    have hr := ts_ra_178_175
    refine tv_aast5 C (pc := 48) dX0_init_48 (m1 := 175) (ts_lvm 132 rfl (by omega)) rfl (by decide) (a := 8) (by decide) (ts_lvm 173 rfl (by omega)) rfl (q2 := (RX5, TX5, 10)) rfl rfl rfl rfl ?_
    have hr := ts_RA_w hr (show ts_EV[175]? = some ((2, 1, 0), 8) from rfl) (ts_lvm 132 rfl (by omega))
    refine tv_iinc C (pc := 49) dX0_init_49 (v := (9 : Int32)) (L' := [some (.inr (1, 1, 0)), some (.inl (.int (9 : Int32)))]) rfl rfl (by decide) rfl rfl ?_
    refine tv_goto C (pc := 52) 30 dX0_init_52 (by decide) ?_
    refine tv_iload_n C (pc := 30) dX0_init_30 rfl rfl ?_
    refine tv_bipush C (pc := 31) dX0_init_31 (v := (16 : Int32)) rfl ?_
    refine tv_icmp_ge C (pc := 33) 55 dX0_init_33 (by decide) (fun hc => absurd hc (by decide)) (fun _ => ?_)
    refine tv_aload_n C (pc := 36) dX0_init_36 rfl rfl ?_
    refine tv_getR C (pc := 37) dX0_init_37 fl_X0_23 (ts_lvm 131 rfl (by omega)) rfl rfl (i2 := (2, 1, 0)) (ts_rfm 130 rfl (by decide) rfl) ?_
    refine tv_iload_n C (pc := 40) dX0_init_40 rfl rfl ?_
    refine tv_new C (pc := 41) dX0_init_41 (j := 178) nw_X0_21 (N := 10) rfl rfl (i := (11, 1, 9)) rfl h0 (by omega) hz hr ⟨Nat.le_of_ble_eq_true rfl, Nat.le_of_ble_eq_true rfl⟩ ?_
    have hz := ts_ZA_m hz (Nat.le_succ _)
    have hr := ts_RA_m hr (Nat.le_succ _)
    refine tv_dup C (pc := 44) dX0_init_44 (fun _ => rfl) ?_
    refine tv_callIN C KA (pc := 45) dX0_init_45 rfl ni_X0_27.1 ni_X0_27.2.1 (by decide) ni_X0_27.2.2 (k_X5_init (D := D) (dT := dT) (sz := sz) hl 1 9 178 176 _ rfl rfl rfl rfl rfl rfl rfl rfl rfl hz hr) (Nat.le_of_ble_eq_true rfl) h0 (by omega) (by decide) ⟨Nat.le_of_ble_eq_true rfl, Nat.le_of_ble_eq_true rfl⟩ (fun _ => Nat.le_of_ble_eq_true rfl) ?_
    have hz := ts_ZA_m hz (show 179 ≤ 183 by decide)
    have hr := ts_ra_183_180
    refine tv_aast5 C (pc := 48) dX0_init_48 (m1 := 180) (ts_lvm 132 rfl (by omega)) rfl (by decide) (a := 9) (by decide) (ts_lvm 178 rfl (by omega)) rfl (q2 := (RX5, TX5, 10)) rfl rfl rfl rfl ?_
    have hr := ts_RA_w hr (show ts_EV[180]? = some ((2, 1, 0), 9) from rfl) (ts_lvm 132 rfl (by omega))
    refine tv_iinc C (pc := 49) dX0_init_49 (v := (10 : Int32)) (L' := [some (.inr (1, 1, 0)), some (.inl (.int (10 : Int32)))]) rfl rfl (by decide) rfl rfl ?_
    refine tv_goto C (pc := 52) 30 dX0_init_52 (by decide) ?_
    refine tv_iload_n C (pc := 30) dX0_init_30 rfl rfl ?_
    refine tv_bipush C (pc := 31) dX0_init_31 (v := (16 : Int32)) rfl ?_
    refine tv_icmp_ge C (pc := 33) 55 dX0_init_33 (by decide) (fun hc => absurd hc (by decide)) (fun _ => ?_)
    refine tv_aload_n C (pc := 36) dX0_init_36 rfl rfl ?_
    refine tv_getR C (pc := 37) dX0_init_37 fl_X0_23 (ts_lvm 131 rfl (by omega)) rfl rfl (i2 := (2, 1, 0)) (ts_rfm 130 rfl (by decide) rfl) ?_
    refine tv_iload_n C (pc := 40) dX0_init_40 rfl rfl ?_
    refine tv_new C (pc := 41) dX0_init_41 (j := 183) nw_X0_21 (N := 10) rfl rfl (i := (11, 1, 10)) rfl h0 (by omega) hz hr ⟨Nat.le_of_ble_eq_true rfl, Nat.le_of_ble_eq_true rfl⟩ ?_
    have hz := ts_ZA_m hz (Nat.le_succ _)
    have hr := ts_RA_m hr (Nat.le_succ _)
    refine tv_dup C (pc := 44) dX0_init_44 (fun _ => rfl) ?_
    refine tv_callIN C KA (pc := 45) dX0_init_45 rfl ni_X0_27.1 ni_X0_27.2.1 (by decide) ni_X0_27.2.2 (k_X5_init (D := D) (dT := dT) (sz := sz) hl 1 10 183 181 _ rfl rfl rfl rfl rfl rfl rfl rfl rfl hz hr) (Nat.le_of_ble_eq_true rfl) h0 (by omega) (by decide) ⟨Nat.le_of_ble_eq_true rfl, Nat.le_of_ble_eq_true rfl⟩ (fun _ => Nat.le_of_ble_eq_true rfl) ?_
    have hz := ts_ZA_m hz (show 184 ≤ 188 by decide)
    have hr := ts_ra_188_185
    refine tv_aast5 C (pc := 48) dX0_init_48 (m1 := 185) (ts_lvm 132 rfl (by omega)) rfl (by decide) (a := 10) (by decide) (ts_lvm 183 rfl (by omega)) rfl (q2 := (RX5, TX5, 10)) rfl rfl rfl rfl ?_
    have hr := ts_RA_w hr (show ts_EV[185]? = some ((2, 1, 0), 10) from rfl) (ts_lvm 132 rfl (by omega))
    refine tv_iinc C (pc := 49) dX0_init_49 (v := (11 : Int32)) (L' := [some (.inr (1, 1, 0)), some (.inl (.int (11 : Int32)))]) rfl rfl (by decide) rfl rfl ?_
    refine tv_goto C (pc := 52) 30 dX0_init_52 (by decide) ?_
    refine tv_iload_n C (pc := 30) dX0_init_30 rfl rfl ?_
    refine tv_bipush C (pc := 31) dX0_init_31 (v := (16 : Int32)) rfl ?_
    refine tv_icmp_ge C (pc := 33) 55 dX0_init_33 (by decide) (fun hc => absurd hc (by decide)) (fun _ => ?_)
    refine tv_aload_n C (pc := 36) dX0_init_36 rfl rfl ?_
    refine tv_getR C (pc := 37) dX0_init_37 fl_X0_23 (ts_lvm 131 rfl (by omega)) rfl rfl (i2 := (2, 1, 0)) (ts_rfm 130 rfl (by decide) rfl) ?_
    refine tv_iload_n C (pc := 40) dX0_init_40 rfl rfl ?_
    refine tv_new C (pc := 41) dX0_init_41 (j := 188) nw_X0_21 (N := 10) rfl rfl (i := (11, 1, 11)) rfl h0 (by omega) hz hr ⟨Nat.le_of_ble_eq_true rfl, Nat.le_of_ble_eq_true rfl⟩ ?_
    have hz := ts_ZA_m hz (Nat.le_succ _)
    have hr := ts_RA_m hr (Nat.le_succ _)
    refine tv_dup C (pc := 44) dX0_init_44 (fun _ => rfl) ?_
    refine tv_callIN C KA (pc := 45) dX0_init_45 rfl ni_X0_27.1 ni_X0_27.2.1 (by decide) ni_X0_27.2.2 (k_X5_init (D := D) (dT := dT) (sz := sz) hl 1 11 188 186 _ rfl rfl rfl rfl rfl rfl rfl rfl rfl hz hr) (Nat.le_of_ble_eq_true rfl) h0 (by omega) (by decide) ⟨Nat.le_of_ble_eq_true rfl, Nat.le_of_ble_eq_true rfl⟩ (fun _ => Nat.le_of_ble_eq_true rfl) ?_
    have hz := ts_ZA_m hz (show 189 ≤ 193 by decide)
    have hr := ts_ra_193_190
    refine tv_aast5 C (pc := 48) dX0_init_48 (m1 := 190) (ts_lvm 132 rfl (by omega)) rfl (by decide) (a := 11) (by decide) (ts_lvm 188 rfl (by omega)) rfl (q2 := (RX5, TX5, 10)) rfl rfl rfl rfl ?_
    have hr := ts_RA_w hr (show ts_EV[190]? = some ((2, 1, 0), 11) from rfl) (ts_lvm 132 rfl (by omega))
    refine tv_iinc C (pc := 49) dX0_init_49 (v := (12 : Int32)) (L' := [some (.inr (1, 1, 0)), some (.inl (.int (12 : Int32)))]) rfl rfl (by decide) rfl rfl ?_
    refine tv_goto C (pc := 52) 30 dX0_init_52 (by decide) ?_
    refine tv_iload_n C (pc := 30) dX0_init_30 rfl rfl ?_
    refine tv_bipush C (pc := 31) dX0_init_31 (v := (16 : Int32)) rfl ?_
    refine tv_icmp_ge C (pc := 33) 55 dX0_init_33 (by decide) (fun hc => absurd hc (by decide)) (fun _ => ?_)
    refine tv_aload_n C (pc := 36) dX0_init_36 rfl rfl ?_
    refine tv_getR C (pc := 37) dX0_init_37 fl_X0_23 (ts_lvm 131 rfl (by omega)) rfl rfl (i2 := (2, 1, 0)) (ts_rfm 130 rfl (by decide) rfl) ?_
    refine tv_iload_n C (pc := 40) dX0_init_40 rfl rfl ?_
    refine tv_new C (pc := 41) dX0_init_41 (j := 193) nw_X0_21 (N := 10) rfl rfl (i := (11, 1, 12)) rfl h0 (by omega) hz hr ⟨Nat.le_of_ble_eq_true rfl, Nat.le_of_ble_eq_true rfl⟩ ?_
    have hz := ts_ZA_m hz (Nat.le_succ _)
    have hr := ts_RA_m hr (Nat.le_succ _)
    refine tv_dup C (pc := 44) dX0_init_44 (fun _ => rfl) ?_
    refine tv_callIN C KA (pc := 45) dX0_init_45 rfl ni_X0_27.1 ni_X0_27.2.1 (by decide) ni_X0_27.2.2 (k_X5_init (D := D) (dT := dT) (sz := sz) hl 1 12 193 191 _ rfl rfl rfl rfl rfl rfl rfl rfl rfl hz hr) (Nat.le_of_ble_eq_true rfl) h0 (by omega) (by decide) ⟨Nat.le_of_ble_eq_true rfl, Nat.le_of_ble_eq_true rfl⟩ (fun _ => Nat.le_of_ble_eq_true rfl) ?_
    have hz := ts_ZA_m hz (show 194 ≤ 198 by decide)
    have hr := ts_ra_198_195
    refine tv_aast5 C (pc := 48) dX0_init_48 (m1 := 195) (ts_lvm 132 rfl (by omega)) rfl (by decide) (a := 12) (by decide) (ts_lvm 193 rfl (by omega)) rfl (q2 := (RX5, TX5, 10)) rfl rfl rfl rfl ?_
    have hr := ts_RA_w hr (show ts_EV[195]? = some ((2, 1, 0), 12) from rfl) (ts_lvm 132 rfl (by omega))
    refine tv_iinc C (pc := 49) dX0_init_49 (v := (13 : Int32)) (L' := [some (.inr (1, 1, 0)), some (.inl (.int (13 : Int32)))]) rfl rfl (by decide) rfl rfl ?_
    refine tv_goto C (pc := 52) 30 dX0_init_52 (by decide) ?_
    refine tv_iload_n C (pc := 30) dX0_init_30 rfl rfl ?_
    refine tv_bipush C (pc := 31) dX0_init_31 (v := (16 : Int32)) rfl ?_
    refine tv_icmp_ge C (pc := 33) 55 dX0_init_33 (by decide) (fun hc => absurd hc (by decide)) (fun _ => ?_)
    refine tv_aload_n C (pc := 36) dX0_init_36 rfl rfl ?_
    refine tv_getR C (pc := 37) dX0_init_37 fl_X0_23 (ts_lvm 131 rfl (by omega)) rfl rfl (i2 := (2, 1, 0)) (ts_rfm 130 rfl (by decide) rfl) ?_
    refine tv_iload_n C (pc := 40) dX0_init_40 rfl rfl ?_
    refine tv_new C (pc := 41) dX0_init_41 (j := 198) nw_X0_21 (N := 10) rfl rfl (i := (11, 1, 13)) rfl h0 (by omega) hz hr ⟨Nat.le_of_ble_eq_true rfl, Nat.le_of_ble_eq_true rfl⟩ ?_
    have hz := ts_ZA_m hz (Nat.le_succ _)
    have hr := ts_RA_m hr (Nat.le_succ _)
    refine tv_dup C (pc := 44) dX0_init_44 (fun _ => rfl) ?_
    refine tv_callIN C KA (pc := 45) dX0_init_45 rfl ni_X0_27.1 ni_X0_27.2.1 (by decide) ni_X0_27.2.2 (k_X5_init (D := D) (dT := dT) (sz := sz) hl 1 13 198 196 _ rfl rfl rfl rfl rfl rfl rfl rfl rfl hz hr) (Nat.le_of_ble_eq_true rfl) h0 (by omega) (by decide) ⟨Nat.le_of_ble_eq_true rfl, Nat.le_of_ble_eq_true rfl⟩ (fun _ => Nat.le_of_ble_eq_true rfl) ?_
    have hz := ts_ZA_m hz (show 199 ≤ 203 by decide)
    have hr := ts_ra_203_200
    refine tv_aast5 C (pc := 48) dX0_init_48 (m1 := 200) (ts_lvm 132 rfl (by omega)) rfl (by decide) (a := 13) (by decide) (ts_lvm 198 rfl (by omega)) rfl (q2 := (RX5, TX5, 10)) rfl rfl rfl rfl ?_
    have hr := ts_RA_w hr (show ts_EV[200]? = some ((2, 1, 0), 13) from rfl) (ts_lvm 132 rfl (by omega))
    refine tv_iinc C (pc := 49) dX0_init_49 (v := (14 : Int32)) (L' := [some (.inr (1, 1, 0)), some (.inl (.int (14 : Int32)))]) rfl rfl (by decide) rfl rfl ?_
    refine tv_goto C (pc := 52) 30 dX0_init_52 (by decide) ?_
    refine tv_iload_n C (pc := 30) dX0_init_30 rfl rfl ?_
    refine tv_bipush C (pc := 31) dX0_init_31 (v := (16 : Int32)) rfl ?_
    refine tv_icmp_ge C (pc := 33) 55 dX0_init_33 (by decide) (fun hc => absurd hc (by decide)) (fun _ => ?_)
    refine tv_aload_n C (pc := 36) dX0_init_36 rfl rfl ?_
    refine tv_getR C (pc := 37) dX0_init_37 fl_X0_23 (ts_lvm 131 rfl (by omega)) rfl rfl (i2 := (2, 1, 0)) (ts_rfm 130 rfl (by decide) rfl) ?_
    refine tv_iload_n C (pc := 40) dX0_init_40 rfl rfl ?_
    refine tv_new C (pc := 41) dX0_init_41 (j := 203) nw_X0_21 (N := 10) rfl rfl (i := (11, 1, 14)) rfl h0 (by omega) hz hr ⟨Nat.le_of_ble_eq_true rfl, Nat.le_of_ble_eq_true rfl⟩ ?_
    have hz := ts_ZA_m hz (Nat.le_succ _)
    have hr := ts_RA_m hr (Nat.le_succ _)
    refine tv_dup C (pc := 44) dX0_init_44 (fun _ => rfl) ?_
    refine tv_callIN C KA (pc := 45) dX0_init_45 rfl ni_X0_27.1 ni_X0_27.2.1 (by decide) ni_X0_27.2.2 (k_X5_init (D := D) (dT := dT) (sz := sz) hl 1 14 203 201 _ rfl rfl rfl rfl rfl rfl rfl rfl rfl hz hr) (Nat.le_of_ble_eq_true rfl) h0 (by omega) (by decide) ⟨Nat.le_of_ble_eq_true rfl, Nat.le_of_ble_eq_true rfl⟩ (fun _ => Nat.le_of_ble_eq_true rfl) ?_
    have hz := ts_ZA_m hz (show 204 ≤ 208 by decide)
    have hr := ts_ra_208_205
    refine tv_aast5 C (pc := 48) dX0_init_48 (m1 := 205) (ts_lvm 132 rfl (by omega)) rfl (by decide) (a := 14) (by decide) (ts_lvm 203 rfl (by omega)) rfl (q2 := (RX5, TX5, 10)) rfl rfl rfl rfl ?_
    have hr := ts_RA_w hr (show ts_EV[205]? = some ((2, 1, 0), 14) from rfl) (ts_lvm 132 rfl (by omega))
    refine tv_iinc C (pc := 49) dX0_init_49 (v := (15 : Int32)) (L' := [some (.inr (1, 1, 0)), some (.inl (.int (15 : Int32)))]) rfl rfl (by decide) rfl rfl ?_
    refine tv_goto C (pc := 52) 30 dX0_init_52 (by decide) ?_
    refine tv_iload_n C (pc := 30) dX0_init_30 rfl rfl ?_
    refine tv_bipush C (pc := 31) dX0_init_31 (v := (16 : Int32)) rfl ?_
    refine tv_icmp_ge C (pc := 33) 55 dX0_init_33 (by decide) (fun hc => absurd hc (by decide)) (fun _ => ?_)
    refine tv_aload_n C (pc := 36) dX0_init_36 rfl rfl ?_
    refine tv_getR C (pc := 37) dX0_init_37 fl_X0_23 (ts_lvm 131 rfl (by omega)) rfl rfl (i2 := (2, 1, 0)) (ts_rfm 130 rfl (by decide) rfl) ?_
    refine tv_iload_n C (pc := 40) dX0_init_40 rfl rfl ?_
    refine tv_new C (pc := 41) dX0_init_41 (j := 208) nw_X0_21 (N := 10) rfl rfl (i := (11, 1, 15)) rfl h0 (by omega) hz hr ⟨Nat.le_of_ble_eq_true rfl, Nat.le_of_ble_eq_true rfl⟩ ?_
    have hz := ts_ZA_m hz (Nat.le_succ _)
    have hr := ts_RA_m hr (Nat.le_succ _)
    refine tv_dup C (pc := 44) dX0_init_44 (fun _ => rfl) ?_
    refine tv_callIN C KA (pc := 45) dX0_init_45 rfl ni_X0_27.1 ni_X0_27.2.1 (by decide) ni_X0_27.2.2 (k_X5_init (D := D) (dT := dT) (sz := sz) hl 1 15 208 206 _ rfl rfl rfl rfl rfl rfl rfl rfl rfl hz hr) (Nat.le_of_ble_eq_true rfl) h0 (by omega) (by decide) ⟨Nat.le_of_ble_eq_true rfl, Nat.le_of_ble_eq_true rfl⟩ (fun _ => Nat.le_of_ble_eq_true rfl) ?_
    have hz := ts_ZA_m hz (show 209 ≤ 213 by decide)
    have hr := ts_ra_213_210
    refine tv_aast5 C (pc := 48) dX0_init_48 (m1 := 210) (ts_lvm 132 rfl (by omega)) rfl (by decide) (a := 15) (by decide) (ts_lvm 208 rfl (by omega)) rfl (q2 := (RX5, TX5, 10)) rfl rfl rfl rfl ?_
    have hr := ts_RA_w hr (show ts_EV[210]? = some ((2, 1, 0), 15) from rfl) (ts_lvm 132 rfl (by omega))
    refine tv_iinc C (pc := 49) dX0_init_49 (v := (16 : Int32)) (L' := [some (.inr (1, 1, 0)), some (.inl (.int (16 : Int32)))]) rfl rfl (by decide) rfl rfl ?_
    refine tv_goto C (pc := 52) 30 dX0_init_52 (by decide) ?_
    refine tv_iload_n C (pc := 30) dX0_init_30 rfl rfl ?_
    refine tv_bipush C (pc := 31) dX0_init_31 (v := (16 : Int32)) rfl ?_
    refine tv_icmp_ge C (pc := 33) 55 dX0_init_33 (by decide) (fun _ => ?_) (fun hc => absurd (by decide) hc)
    refine tv_aload_n C (pc := 55) dX0_init_55 rfl rfl ?_
    refine tv_bipush C (pc := 56) dX0_init_56 (v := (8 : Int32)) rfl ?_
    refine tv_anewa6 C KA (pc := 58) (j := 213) dX0_init_58 cn_X0_28 (N := 8) (by decide) (by decide) (by decide) rfl (i := (3, 1, 0)) rfl h0 (by omega) hr ⟨Nat.le_of_ble_eq_true rfl, Nat.le_of_ble_eq_true rfl⟩ ?_
    have hz := ts_ZA_m hz (Nat.le_succ _)
    have hr := ts_RA_m hr (Nat.le_succ _)
    refine tv_putRD C (pc := 61) dX0_init_61 (m1 := 211) ff_X0_30 (ts_lvm 131 rfl (by omega)) rfl rfl hnm (fun _ => rfl) (fun _ => rfl) rfl rfl ?_
    have hr := ts_RA_w hr rfl (ts_lvm 131 rfl (by omega))
    refine tv_iconst C (pc := 64) dX0_init_64 (v := (0 : Int32)) rfl ?_
    refine tv_istore_n C (pc := 65) dX0_init_65 (L' := [some (.inr (1, 1, 0)), some (.inl (.int (0 : Int32)))]) rfl (by decide) rfl rfl ?_
    refine tv_iload_n C (pc := 66) dX0_init_66 rfl rfl ?_
    refine tv_bipush C (pc := 67) dX0_init_67 (v := (8 : Int32)) rfl ?_
    refine tv_icmp_ge C (pc := 69) 91 dX0_init_69 (by decide) (fun hc => absurd hc (by decide)) (fun _ => ?_)
    refine tv_aload_n C (pc := 72) dX0_init_72 rfl rfl ?_
    refine tv_getR C (pc := 73) dX0_init_73 fl_X0_30 (ts_lvm 131 rfl (by omega)) rfl rfl (i2 := (3, 1, 0)) (ts_rfm 211 rfl (by decide) rfl) ?_
    refine tv_iload_n C (pc := 76) dX0_init_76 rfl rfl ?_
    refine tv_new C (pc := 77) dX0_init_77 (j := 214) nw_X0_28 (N := 5) rfl rfl (i := (16, 1, 0)) rfl h0 (by omega) hz hr ⟨Nat.le_of_ble_eq_true rfl, Nat.le_of_ble_eq_true rfl⟩ ?_
    have hz := ts_ZA_m hz (Nat.le_succ _)
    have hr := ts_RA_m hr (Nat.le_succ _)
    refine tv_dup C (pc := 80) dX0_init_80 (fun _ => rfl) ?_
    refine tv_callI C KA (pc := 81) dX0_init_81 yi_X0_34.1 yi_X0_34.2 (k_X1_init (D := D) (dT := dT) (sz := sz) hl 1 0 214 212 _ rfl rfl rfl rfl rfl rfl rfl rfl rfl hz hr) (Nat.le_of_ble_eq_true rfl) h0 (by omega) (by decide) ⟨Nat.le_of_ble_eq_true rfl, Nat.le_of_ble_eq_true rfl⟩ (fun _ => Nat.le_of_ble_eq_true rfl) ?_
    have hz := ts_ZA_m hz (show 215 ≤ 219 by decide)
    have hr := ts_ra_219_216
    have hz := ts_ZA_w (k := 0) (x := (1 : Int32)) hz (ts_lvm 214 rfl (by omega))
    have hz := ts_ZA_w (k := 0) (x := (-1 : Int32)) hz (ts_lvm 218 rfl (by omega))
    refine tv_aast6 C (pc := 84) dX0_init_84 (m1 := 216) (ts_lvm 213 rfl (by omega)) rfl (by decide) (a := 0) (by decide) (ts_lvm 214 rfl (by omega)) rfl (q2 := (RX1, TX1, 5)) rfl rfl rfl rfl ?_
    have hr := ts_RA_w hr (show ts_EV[216]? = some ((3, 1, 0), 0) from rfl) (ts_lvm 213 rfl (by omega))
    refine tv_iinc C (pc := 85) dX0_init_85 (v := (1 : Int32)) (L' := [some (.inr (1, 1, 0)), some (.inl (.int (1 : Int32)))]) rfl rfl (by decide) rfl rfl ?_
    refine tv_goto C (pc := 88) 66 dX0_init_88 (by decide) ?_
    refine tv_iload_n C (pc := 66) dX0_init_66 rfl rfl ?_
    refine tv_bipush C (pc := 67) dX0_init_67 (v := (8 : Int32)) rfl ?_
    refine tv_icmp_ge C (pc := 69) 91 dX0_init_69 (by decide) (fun hc => absurd hc (by decide)) (fun _ => ?_)
    refine tv_aload_n C (pc := 72) dX0_init_72 rfl rfl ?_
    refine tv_getR C (pc := 73) dX0_init_73 fl_X0_30 (ts_lvm 131 rfl (by omega)) rfl rfl (i2 := (3, 1, 0)) (ts_rfm 211 rfl (by decide) rfl) ?_
    refine tv_iload_n C (pc := 76) dX0_init_76 rfl rfl ?_
    refine tv_new C (pc := 77) dX0_init_77 (j := 219) nw_X0_28 (N := 5) rfl rfl (i := (16, 1, 1)) rfl h0 (by omega) hz hr ⟨Nat.le_of_ble_eq_true rfl, Nat.le_of_ble_eq_true rfl⟩ ?_
    have hz := ts_ZA_m hz (Nat.le_succ _)
    have hr := ts_RA_m hr (Nat.le_succ _)
    refine tv_dup C (pc := 80) dX0_init_80 (fun _ => rfl) ?_
    refine tv_callI C KA (pc := 81) dX0_init_81 yi_X0_34.1 yi_X0_34.2 (k_X1_init (D := D) (dT := dT) (sz := sz) hl 1 1 219 217 _ rfl rfl rfl rfl rfl rfl rfl rfl rfl hz hr) (Nat.le_of_ble_eq_true rfl) h0 (by omega) (by decide) ⟨Nat.le_of_ble_eq_true rfl, Nat.le_of_ble_eq_true rfl⟩ (fun _ => Nat.le_of_ble_eq_true rfl) ?_
    have hz := ts_ZA_m hz (show 220 ≤ 224 by decide)
    have hr := ts_ra_224_221
    have hz := ts_ZA_w (k := 0) (x := (1 : Int32)) hz (ts_lvm 219 rfl (by omega))
    have hz := ts_ZA_w (k := 0) (x := (-1 : Int32)) hz (ts_lvm 223 rfl (by omega))
    refine tv_aast6 C (pc := 84) dX0_init_84 (m1 := 221) (ts_lvm 213 rfl (by omega)) rfl (by decide) (a := 1) (by decide) (ts_lvm 219 rfl (by omega)) rfl (q2 := (RX1, TX1, 5)) rfl rfl rfl rfl ?_
    have hr := ts_RA_w hr (show ts_EV[221]? = some ((3, 1, 0), 1) from rfl) (ts_lvm 213 rfl (by omega))
    refine tv_iinc C (pc := 85) dX0_init_85 (v := (2 : Int32)) (L' := [some (.inr (1, 1, 0)), some (.inl (.int (2 : Int32)))]) rfl rfl (by decide) rfl rfl ?_
    refine tv_goto C (pc := 88) 66 dX0_init_88 (by decide) ?_
    refine tv_iload_n C (pc := 66) dX0_init_66 rfl rfl ?_
    refine tv_bipush C (pc := 67) dX0_init_67 (v := (8 : Int32)) rfl ?_
    refine tv_icmp_ge C (pc := 69) 91 dX0_init_69 (by decide) (fun hc => absurd hc (by decide)) (fun _ => ?_)
    refine tv_aload_n C (pc := 72) dX0_init_72 rfl rfl ?_
    refine tv_getR C (pc := 73) dX0_init_73 fl_X0_30 (ts_lvm 131 rfl (by omega)) rfl rfl (i2 := (3, 1, 0)) (ts_rfm 211 rfl (by decide) rfl) ?_
    refine tv_iload_n C (pc := 76) dX0_init_76 rfl rfl ?_
    refine tv_new C (pc := 77) dX0_init_77 (j := 224) nw_X0_28 (N := 5) rfl rfl (i := (16, 1, 2)) rfl h0 (by omega) hz hr ⟨Nat.le_of_ble_eq_true rfl, Nat.le_of_ble_eq_true rfl⟩ ?_
    have hz := ts_ZA_m hz (Nat.le_succ _)
    have hr := ts_RA_m hr (Nat.le_succ _)
    refine tv_dup C (pc := 80) dX0_init_80 (fun _ => rfl) ?_
    refine tv_callI C KA (pc := 81) dX0_init_81 yi_X0_34.1 yi_X0_34.2 (k_X1_init (D := D) (dT := dT) (sz := sz) hl 1 2 224 222 _ rfl rfl rfl rfl rfl rfl rfl rfl rfl hz hr) (Nat.le_of_ble_eq_true rfl) h0 (by omega) (by decide) ⟨Nat.le_of_ble_eq_true rfl, Nat.le_of_ble_eq_true rfl⟩ (fun _ => Nat.le_of_ble_eq_true rfl) ?_
    have hz := ts_ZA_m hz (show 225 ≤ 229 by decide)
    have hr := ts_ra_229_226
    have hz := ts_ZA_w (k := 0) (x := (1 : Int32)) hz (ts_lvm 224 rfl (by omega))
    have hz := ts_ZA_w (k := 0) (x := (-1 : Int32)) hz (ts_lvm 228 rfl (by omega))
    refine tv_aast6 C (pc := 84) dX0_init_84 (m1 := 226) (ts_lvm 213 rfl (by omega)) rfl (by decide) (a := 2) (by decide) (ts_lvm 224 rfl (by omega)) rfl (q2 := (RX1, TX1, 5)) rfl rfl rfl rfl ?_
    have hr := ts_RA_w hr (show ts_EV[226]? = some ((3, 1, 0), 2) from rfl) (ts_lvm 213 rfl (by omega))
    refine tv_iinc C (pc := 85) dX0_init_85 (v := (3 : Int32)) (L' := [some (.inr (1, 1, 0)), some (.inl (.int (3 : Int32)))]) rfl rfl (by decide) rfl rfl ?_
    refine tv_goto C (pc := 88) 66 dX0_init_88 (by decide) ?_
    refine tv_iload_n C (pc := 66) dX0_init_66 rfl rfl ?_
    refine tv_bipush C (pc := 67) dX0_init_67 (v := (8 : Int32)) rfl ?_
    refine tv_icmp_ge C (pc := 69) 91 dX0_init_69 (by decide) (fun hc => absurd hc (by decide)) (fun _ => ?_)
    refine tv_aload_n C (pc := 72) dX0_init_72 rfl rfl ?_
    refine tv_getR C (pc := 73) dX0_init_73 fl_X0_30 (ts_lvm 131 rfl (by omega)) rfl rfl (i2 := (3, 1, 0)) (ts_rfm 211 rfl (by decide) rfl) ?_
    refine tv_iload_n C (pc := 76) dX0_init_76 rfl rfl ?_
    refine tv_new C (pc := 77) dX0_init_77 (j := 229) nw_X0_28 (N := 5) rfl rfl (i := (16, 1, 3)) rfl h0 (by omega) hz hr ⟨Nat.le_of_ble_eq_true rfl, Nat.le_of_ble_eq_true rfl⟩ ?_
    have hz := ts_ZA_m hz (Nat.le_succ _)
    have hr := ts_RA_m hr (Nat.le_succ _)
    refine tv_dup C (pc := 80) dX0_init_80 (fun _ => rfl) ?_
    refine tv_callI C KA (pc := 81) dX0_init_81 yi_X0_34.1 yi_X0_34.2 (k_X1_init (D := D) (dT := dT) (sz := sz) hl 1 3 229 227 _ rfl rfl rfl rfl rfl rfl rfl rfl rfl hz hr) (Nat.le_of_ble_eq_true rfl) h0 (by omega) (by decide) ⟨Nat.le_of_ble_eq_true rfl, Nat.le_of_ble_eq_true rfl⟩ (fun _ => Nat.le_of_ble_eq_true rfl) ?_
    have hz := ts_ZA_m hz (show 230 ≤ 234 by decide)
    have hr := ts_ra_234_231
    have hz := ts_ZA_w (k := 0) (x := (1 : Int32)) hz (ts_lvm 229 rfl (by omega))
    have hz := ts_ZA_w (k := 0) (x := (-1 : Int32)) hz (ts_lvm 233 rfl (by omega))
    refine tv_aast6 C (pc := 84) dX0_init_84 (m1 := 231) (ts_lvm 213 rfl (by omega)) rfl (by decide) (a := 3) (by decide) (ts_lvm 229 rfl (by omega)) rfl (q2 := (RX1, TX1, 5)) rfl rfl rfl rfl ?_
    have hr := ts_RA_w hr (show ts_EV[231]? = some ((3, 1, 0), 3) from rfl) (ts_lvm 213 rfl (by omega))
    refine tv_iinc C (pc := 85) dX0_init_85 (v := (4 : Int32)) (L' := [some (.inr (1, 1, 0)), some (.inl (.int (4 : Int32)))]) rfl rfl (by decide) rfl rfl ?_
    refine tv_goto C (pc := 88) 66 dX0_init_88 (by decide) ?_
    refine tv_iload_n C (pc := 66) dX0_init_66 rfl rfl ?_
    refine tv_bipush C (pc := 67) dX0_init_67 (v := (8 : Int32)) rfl ?_
    refine tv_icmp_ge C (pc := 69) 91 dX0_init_69 (by decide) (fun hc => absurd hc (by decide)) (fun _ => ?_)
    refine tv_aload_n C (pc := 72) dX0_init_72 rfl rfl ?_
    refine tv_getR C (pc := 73) dX0_init_73 fl_X0_30 (ts_lvm 131 rfl (by omega)) rfl rfl (i2 := (3, 1, 0)) (ts_rfm 211 rfl (by decide) rfl) ?_
    refine tv_iload_n C (pc := 76) dX0_init_76 rfl rfl ?_
    refine tv_new C (pc := 77) dX0_init_77 (j := 234) nw_X0_28 (N := 5) rfl rfl (i := (16, 1, 4)) rfl h0 (by omega) hz hr ⟨Nat.le_of_ble_eq_true rfl, Nat.le_of_ble_eq_true rfl⟩ ?_
    have hz := ts_ZA_m hz (Nat.le_succ _)
    have hr := ts_RA_m hr (Nat.le_succ _)
    refine tv_dup C (pc := 80) dX0_init_80 (fun _ => rfl) ?_
    refine tv_callI C KA (pc := 81) dX0_init_81 yi_X0_34.1 yi_X0_34.2 (k_X1_init (D := D) (dT := dT) (sz := sz) hl 1 4 234 232 _ rfl rfl rfl rfl rfl rfl rfl rfl rfl hz hr) (Nat.le_of_ble_eq_true rfl) h0 (by omega) (by decide) ⟨Nat.le_of_ble_eq_true rfl, Nat.le_of_ble_eq_true rfl⟩ (fun _ => Nat.le_of_ble_eq_true rfl) ?_
    have hz := ts_ZA_m hz (show 235 ≤ 239 by decide)
    have hr := ts_ra_239_236
    have hz := ts_ZA_w (k := 0) (x := (1 : Int32)) hz (ts_lvm 234 rfl (by omega))
    have hz := ts_ZA_w (k := 0) (x := (-1 : Int32)) hz (ts_lvm 238 rfl (by omega))
    refine tv_aast6 C (pc := 84) dX0_init_84 (m1 := 236) (ts_lvm 213 rfl (by omega)) rfl (by decide) (a := 4) (by decide) (ts_lvm 234 rfl (by omega)) rfl (q2 := (RX1, TX1, 5)) rfl rfl rfl rfl ?_
    have hr := ts_RA_w hr (show ts_EV[236]? = some ((3, 1, 0), 4) from rfl) (ts_lvm 213 rfl (by omega))
    refine tv_iinc C (pc := 85) dX0_init_85 (v := (5 : Int32)) (L' := [some (.inr (1, 1, 0)), some (.inl (.int (5 : Int32)))]) rfl rfl (by decide) rfl rfl ?_
    refine tv_goto C (pc := 88) 66 dX0_init_88 (by decide) ?_
    refine tv_iload_n C (pc := 66) dX0_init_66 rfl rfl ?_
    refine tv_bipush C (pc := 67) dX0_init_67 (v := (8 : Int32)) rfl ?_
    refine tv_icmp_ge C (pc := 69) 91 dX0_init_69 (by decide) (fun hc => absurd hc (by decide)) (fun _ => ?_)
    refine tv_aload_n C (pc := 72) dX0_init_72 rfl rfl ?_
    refine tv_getR C (pc := 73) dX0_init_73 fl_X0_30 (ts_lvm 131 rfl (by omega)) rfl rfl (i2 := (3, 1, 0)) (ts_rfm 211 rfl (by decide) rfl) ?_
    refine tv_iload_n C (pc := 76) dX0_init_76 rfl rfl ?_
    refine tv_new C (pc := 77) dX0_init_77 (j := 239) nw_X0_28 (N := 5) rfl rfl (i := (16, 1, 5)) rfl h0 (by omega) hz hr ⟨Nat.le_of_ble_eq_true rfl, Nat.le_of_ble_eq_true rfl⟩ ?_
    have hz := ts_ZA_m hz (Nat.le_succ _)
    have hr := ts_RA_m hr (Nat.le_succ _)
    refine tv_dup C (pc := 80) dX0_init_80 (fun _ => rfl) ?_
    refine tv_callI C KA (pc := 81) dX0_init_81 yi_X0_34.1 yi_X0_34.2 (k_X1_init (D := D) (dT := dT) (sz := sz) hl 1 5 239 237 _ rfl rfl rfl rfl rfl rfl rfl rfl rfl hz hr) (Nat.le_of_ble_eq_true rfl) h0 (by omega) (by decide) ⟨Nat.le_of_ble_eq_true rfl, Nat.le_of_ble_eq_true rfl⟩ (fun _ => Nat.le_of_ble_eq_true rfl) ?_
    have hz := ts_ZA_m hz (show 240 ≤ 244 by decide)
    have hr := ts_ra_244_241
    have hz := ts_ZA_w (k := 0) (x := (1 : Int32)) hz (ts_lvm 239 rfl (by omega))
    have hz := ts_ZA_w (k := 0) (x := (-1 : Int32)) hz (ts_lvm 243 rfl (by omega))
    refine tv_aast6 C (pc := 84) dX0_init_84 (m1 := 241) (ts_lvm 213 rfl (by omega)) rfl (by decide) (a := 5) (by decide) (ts_lvm 239 rfl (by omega)) rfl (q2 := (RX1, TX1, 5)) rfl rfl rfl rfl ?_
    have hr := ts_RA_w hr (show ts_EV[241]? = some ((3, 1, 0), 5) from rfl) (ts_lvm 213 rfl (by omega))
    refine tv_iinc C (pc := 85) dX0_init_85 (v := (6 : Int32)) (L' := [some (.inr (1, 1, 0)), some (.inl (.int (6 : Int32)))]) rfl rfl (by decide) rfl rfl ?_
    refine tv_goto C (pc := 88) 66 dX0_init_88 (by decide) ?_
    refine tv_iload_n C (pc := 66) dX0_init_66 rfl rfl ?_
    refine tv_bipush C (pc := 67) dX0_init_67 (v := (8 : Int32)) rfl ?_
    refine tv_icmp_ge C (pc := 69) 91 dX0_init_69 (by decide) (fun hc => absurd hc (by decide)) (fun _ => ?_)
    refine tv_aload_n C (pc := 72) dX0_init_72 rfl rfl ?_
    refine tv_getR C (pc := 73) dX0_init_73 fl_X0_30 (ts_lvm 131 rfl (by omega)) rfl rfl (i2 := (3, 1, 0)) (ts_rfm 211 rfl (by decide) rfl) ?_
    refine tv_iload_n C (pc := 76) dX0_init_76 rfl rfl ?_
    refine tv_new C (pc := 77) dX0_init_77 (j := 244) nw_X0_28 (N := 5) rfl rfl (i := (16, 1, 6)) rfl h0 (by omega) hz hr ⟨Nat.le_of_ble_eq_true rfl, Nat.le_of_ble_eq_true rfl⟩ ?_
    have hz := ts_ZA_m hz (Nat.le_succ _)
    have hr := ts_RA_m hr (Nat.le_succ _)
    refine tv_dup C (pc := 80) dX0_init_80 (fun _ => rfl) ?_
    refine tv_callI C KA (pc := 81) dX0_init_81 yi_X0_34.1 yi_X0_34.2 (k_X1_init (D := D) (dT := dT) (sz := sz) hl 1 6 244 242 _ rfl rfl rfl rfl rfl rfl rfl rfl rfl hz hr) (Nat.le_of_ble_eq_true rfl) h0 (by omega) (by decide) ⟨Nat.le_of_ble_eq_true rfl, Nat.le_of_ble_eq_true rfl⟩ (fun _ => Nat.le_of_ble_eq_true rfl) ?_
    have hz := ts_ZA_m hz (show 245 ≤ 249 by decide)
    have hr := ts_ra_249_246
    have hz := ts_ZA_w (k := 0) (x := (1 : Int32)) hz (ts_lvm 244 rfl (by omega))
    have hz := ts_ZA_w (k := 0) (x := (-1 : Int32)) hz (ts_lvm 248 rfl (by omega))
    refine tv_aast6 C (pc := 84) dX0_init_84 (m1 := 246) (ts_lvm 213 rfl (by omega)) rfl (by decide) (a := 6) (by decide) (ts_lvm 244 rfl (by omega)) rfl (q2 := (RX1, TX1, 5)) rfl rfl rfl rfl ?_
    have hr := ts_RA_w hr (show ts_EV[246]? = some ((3, 1, 0), 6) from rfl) (ts_lvm 213 rfl (by omega))
    refine tv_iinc C (pc := 85) dX0_init_85 (v := (7 : Int32)) (L' := [some (.inr (1, 1, 0)), some (.inl (.int (7 : Int32)))]) rfl rfl (by decide) rfl rfl ?_
    refine tv_goto C (pc := 88) 66 dX0_init_88 (by decide) ?_
    refine tv_iload_n C (pc := 66) dX0_init_66 rfl rfl ?_
    refine tv_bipush C (pc := 67) dX0_init_67 (v := (8 : Int32)) rfl ?_
    refine tv_icmp_ge C (pc := 69) 91 dX0_init_69 (by decide) (fun hc => absurd hc (by decide)) (fun _ => ?_)
    refine tv_aload_n C (pc := 72) dX0_init_72 rfl rfl ?_
    refine tv_getR C (pc := 73) dX0_init_73 fl_X0_30 (ts_lvm 131 rfl (by omega)) rfl rfl (i2 := (3, 1, 0)) (ts_rfm 211 rfl (by decide) rfl) ?_
    refine tv_iload_n C (pc := 76) dX0_init_76 rfl rfl ?_
    refine tv_new C (pc := 77) dX0_init_77 (j := 249) nw_X0_28 (N := 5) rfl rfl (i := (16, 1, 7)) rfl h0 (by omega) hz hr ⟨Nat.le_of_ble_eq_true rfl, Nat.le_of_ble_eq_true rfl⟩ ?_
    have hz := ts_ZA_m hz (Nat.le_succ _)
    have hr := ts_RA_m hr (Nat.le_succ _)
    refine tv_dup C (pc := 80) dX0_init_80 (fun _ => rfl) ?_
    refine tv_callI C KA (pc := 81) dX0_init_81 yi_X0_34.1 yi_X0_34.2 (k_X1_init (D := D) (dT := dT) (sz := sz) hl 1 7 249 247 _ rfl rfl rfl rfl rfl rfl rfl rfl rfl hz hr) (Nat.le_of_ble_eq_true rfl) h0 (by omega) (by decide) ⟨Nat.le_of_ble_eq_true rfl, Nat.le_of_ble_eq_true rfl⟩ (fun _ => Nat.le_of_ble_eq_true rfl) ?_
    have hz := ts_ZA_m hz (show 250 ≤ 254 by decide)
    have hr := ts_ra_254_251
    have hz := ts_ZA_w (k := 0) (x := (1 : Int32)) hz (ts_lvm 249 rfl (by omega))
    have hz := ts_ZA_w (k := 0) (x := (-1 : Int32)) hz (ts_lvm 253 rfl (by omega))
    refine tv_aast6 C (pc := 84) dX0_init_84 (m1 := 251) (ts_lvm 213 rfl (by omega)) rfl (by decide) (a := 7) (by decide) (ts_lvm 249 rfl (by omega)) rfl (q2 := (RX1, TX1, 5)) rfl rfl rfl rfl ?_
    have hr := ts_RA_w hr (show ts_EV[251]? = some ((3, 1, 0), 7) from rfl) (ts_lvm 213 rfl (by omega))
    refine tv_iinc C (pc := 85) dX0_init_85 (v := (8 : Int32)) (L' := [some (.inr (1, 1, 0)), some (.inl (.int (8 : Int32)))]) rfl rfl (by decide) rfl rfl ?_
    refine tv_goto C (pc := 88) 66 dX0_init_88 (by decide) ?_
    refine tv_iload_n C (pc := 66) dX0_init_66 rfl rfl ?_
    refine tv_bipush C (pc := 67) dX0_init_67 (v := (8 : Int32)) rfl ?_
    refine tv_icmp_ge C (pc := 69) 91 dX0_init_69 (by decide) (fun _ => ?_) (fun hc => absurd (by decide) hc)
    refine tv_aload_n C (pc := 91) dX0_init_91 rfl rfl ?_
    refine tv_new C (pc := 92) dX0_init_92 (j := 254) nw_X0_35 (N := 6) rfl rfl (i := (4, 1, 0)) rfl h0 (by omega) hz hr ⟨Nat.le_of_ble_eq_true rfl, Nat.le_of_ble_eq_true rfl⟩ ?_
    have hz := ts_ZA_m hz (Nat.le_succ _)
    have hr := ts_RA_m hr (Nat.le_succ _)
    refine tv_dup C (pc := 95) dX0_init_95 (fun _ => rfl) ?_
    refine tv_callIN C KA (pc := 96) dX0_init_96 rfl ni_X0_37.1 ni_X0_37.2.1 (by decide) ni_X0_37.2.2 (k_X2_init (D := D) (dT := dT) (sz := sz) hl 1 254 252 _ rfl rfl rfl rfl rfl rfl rfl rfl rfl hz hr) (Nat.le_of_ble_eq_true rfl) h0 (by omega) (by decide) ⟨Nat.le_of_ble_eq_true rfl, Nat.le_of_ble_eq_true rfl⟩ (fun _ => Nat.le_of_ble_eq_true rfl) ?_
    have hz := ts_ZA_m hz (show 255 ≤ 259 by decide)
    have hr := ts_ra_259_256
    refine tv_putRD C (pc := 99) dX0_init_99 (m1 := 256) ff_X0_38 (ts_lvm 131 rfl (by omega)) rfl rfl hnm (fun _ => rfl) (fun _ => rfl) rfl rfl ?_
    have hr := ts_RA_w hr rfl (ts_lvm 131 rfl (by omega))
    refine tv_aload_n C (pc := 102) dX0_init_102 rfl rfl ?_
    refine tv_bipush C (pc := 103) dX0_init_103 (v := (8 : Int32)) rfl ?_
    refine tv_newa0 C (pc := 105) dX0_init_105 (j := 259) ac_int (N := 8) (by decide) (by decide) (by decide) rfl (i := (5, 1, 0)) rfl h0 (by omega) hz ⟨Nat.le_of_ble_eq_true rfl, Nat.le_of_ble_eq_true rfl⟩ ?_
    have hz := ts_ZA_m hz (Nat.le_succ _)
    have hr := ts_RA_m hr (Nat.le_succ _)
    refine tv_putRD C (pc := 107) dX0_init_107 (m1 := 257) ff_X0_42 (ts_lvm 131 rfl (by omega)) rfl rfl hnm (fun _ => rfl) (fun _ => rfl) rfl rfl ?_
    have hr := ts_RA_w hr rfl (ts_lvm 131 rfl (by omega))
    refine tv_aload_n C (pc := 110) dX0_init_110 rfl rfl ?_
    refine tv_bipush C (pc := 111) dX0_init_111 (v := (16 : Int32)) rfl ?_
    refine tv_newa0 C (pc := 113) dX0_init_113 (j := 260) ac_int (N := 16) (by decide) (by decide) (by decide) rfl (i := (6, 1, 0)) rfl h0 (by omega) hz ⟨Nat.le_of_ble_eq_true rfl, Nat.le_of_ble_eq_true rfl⟩ ?_
    have hz := ts_ZA_m hz (Nat.le_succ _)
    have hr := ts_RA_m hr (Nat.le_succ _)
    refine tv_putRD C (pc := 115) dX0_init_115 (m1 := 258) ff_X0_46 (ts_lvm 131 rfl (by omega)) rfl rfl hnm (fun _ => rfl) (fun _ => rfl) rfl rfl ?_
    have hr := ts_RA_w hr rfl (ts_lvm 131 rfl (by omega))
    exact tv_vret C (pc := 118) rfl dX0_init_118 ⟨Nat.le_of_ble_eq_true rfl, Nat.le_of_ble_eq_true rfl⟩ 
set_option maxRecDepth 100000 in
set_option maxHeartbeats 8000000 in
theorem kz_X0_init1 (u : ts_Mem) (hz : ts_ZA 132 u) : ts_ZA 261 (ku_X0_init1 u) := by
    unfold ku_X0_init1
    have hz := ts_ZA_w (k := 0) (x := (2 : Int32)) hz (ts_lvm 131 rfl (by omega))
    have hz := ts_ZA_w (k := 1) (x := (1 : Int32)) hz (ts_lvm 131 rfl (by omega))
    have hz := ts_ZA_w (k := 2) (x := (0 : Int32)) hz (ts_lvm 131 rfl (by omega))
    have hz := ts_ZA_m hz (Nat.le_succ _)
    have hz := ts_ZA_m hz (Nat.le_succ _)
    have hz := ts_ZA_m hz (show 134 ≤ 138 by decide)
    have hz := ts_ZA_m hz (Nat.le_succ _)
    have hz := ts_ZA_m hz (show 139 ≤ 143 by decide)
    have hz := ts_ZA_m hz (Nat.le_succ _)
    have hz := ts_ZA_m hz (show 144 ≤ 148 by decide)
    have hz := ts_ZA_m hz (Nat.le_succ _)
    have hz := ts_ZA_m hz (show 149 ≤ 153 by decide)
    have hz := ts_ZA_m hz (Nat.le_succ _)
    have hz := ts_ZA_m hz (show 154 ≤ 158 by decide)
    have hz := ts_ZA_m hz (Nat.le_succ _)
    have hz := ts_ZA_m hz (show 159 ≤ 163 by decide)
    have hz := ts_ZA_m hz (Nat.le_succ _)
    have hz := ts_ZA_m hz (show 164 ≤ 168 by decide)
    have hz := ts_ZA_m hz (Nat.le_succ _)
    have hz := ts_ZA_m hz (show 169 ≤ 173 by decide)
    have hz := ts_ZA_m hz (Nat.le_succ _)
    have hz := ts_ZA_m hz (show 174 ≤ 178 by decide)
    have hz := ts_ZA_m hz (Nat.le_succ _)
    have hz := ts_ZA_m hz (show 179 ≤ 183 by decide)
    have hz := ts_ZA_m hz (Nat.le_succ _)
    have hz := ts_ZA_m hz (show 184 ≤ 188 by decide)
    have hz := ts_ZA_m hz (Nat.le_succ _)
    have hz := ts_ZA_m hz (show 189 ≤ 193 by decide)
    have hz := ts_ZA_m hz (Nat.le_succ _)
    have hz := ts_ZA_m hz (show 194 ≤ 198 by decide)
    have hz := ts_ZA_m hz (Nat.le_succ _)
    have hz := ts_ZA_m hz (show 199 ≤ 203 by decide)
    have hz := ts_ZA_m hz (Nat.le_succ _)
    have hz := ts_ZA_m hz (show 204 ≤ 208 by decide)
    have hz := ts_ZA_m hz (Nat.le_succ _)
    have hz := ts_ZA_m hz (show 209 ≤ 213 by decide)
    have hz := ts_ZA_m hz (Nat.le_succ _)
    have hz := ts_ZA_m hz (Nat.le_succ _)
    have hz := ts_ZA_m hz (show 215 ≤ 219 by decide)
    have hz := ts_ZA_w (k := 0) (x := (1 : Int32)) hz (ts_lvm 214 rfl (by omega))
    have hz := ts_ZA_w (k := 0) (x := (-1 : Int32)) hz (ts_lvm 218 rfl (by omega))
    have hz := ts_ZA_m hz (Nat.le_succ _)
    have hz := ts_ZA_m hz (show 220 ≤ 224 by decide)
    have hz := ts_ZA_w (k := 0) (x := (1 : Int32)) hz (ts_lvm 219 rfl (by omega))
    have hz := ts_ZA_w (k := 0) (x := (-1 : Int32)) hz (ts_lvm 223 rfl (by omega))
    have hz := ts_ZA_m hz (Nat.le_succ _)
    have hz := ts_ZA_m hz (show 225 ≤ 229 by decide)
    have hz := ts_ZA_w (k := 0) (x := (1 : Int32)) hz (ts_lvm 224 rfl (by omega))
    have hz := ts_ZA_w (k := 0) (x := (-1 : Int32)) hz (ts_lvm 228 rfl (by omega))
    have hz := ts_ZA_m hz (Nat.le_succ _)
    have hz := ts_ZA_m hz (show 230 ≤ 234 by decide)
    have hz := ts_ZA_w (k := 0) (x := (1 : Int32)) hz (ts_lvm 229 rfl (by omega))
    have hz := ts_ZA_w (k := 0) (x := (-1 : Int32)) hz (ts_lvm 233 rfl (by omega))
    have hz := ts_ZA_m hz (Nat.le_succ _)
    have hz := ts_ZA_m hz (show 235 ≤ 239 by decide)
    have hz := ts_ZA_w (k := 0) (x := (1 : Int32)) hz (ts_lvm 234 rfl (by omega))
    have hz := ts_ZA_w (k := 0) (x := (-1 : Int32)) hz (ts_lvm 238 rfl (by omega))
    have hz := ts_ZA_m hz (Nat.le_succ _)
    have hz := ts_ZA_m hz (show 240 ≤ 244 by decide)
    have hz := ts_ZA_w (k := 0) (x := (1 : Int32)) hz (ts_lvm 239 rfl (by omega))
    have hz := ts_ZA_w (k := 0) (x := (-1 : Int32)) hz (ts_lvm 243 rfl (by omega))
    have hz := ts_ZA_m hz (Nat.le_succ _)
    have hz := ts_ZA_m hz (show 245 ≤ 249 by decide)
    have hz := ts_ZA_w (k := 0) (x := (1 : Int32)) hz (ts_lvm 244 rfl (by omega))
    have hz := ts_ZA_w (k := 0) (x := (-1 : Int32)) hz (ts_lvm 248 rfl (by omega))
    have hz := ts_ZA_m hz (Nat.le_succ _)
    have hz := ts_ZA_m hz (show 250 ≤ 254 by decide)
    have hz := ts_ZA_w (k := 0) (x := (1 : Int32)) hz (ts_lvm 249 rfl (by omega))
    have hz := ts_ZA_w (k := 0) (x := (-1 : Int32)) hz (ts_lvm 253 rfl (by omega))
    have hz := ts_ZA_m hz (Nat.le_succ _)
    have hz := ts_ZA_m hz (show 255 ≤ 259 by decide)
    have hz := ts_ZA_m hz (Nat.le_succ _)
    have hz := ts_ZA_m hz (Nat.le_succ _)
    exact hz
def ku_X6_init (u : ts_Mem) : ts_Mem := (ts_sI (ts_sI (ts_sI (ts_sI (ts_sI (ku_X0_init1 (ku_X0_init0 u)) (0, 0, 0) 2 (0 : Int32)) (0, 0, 0) 4 (-1 : Int32)) (27, 0, 0) 0 (-1 : Int32)) (27, 0, 1) 0 (-1 : Int32)) (27, 0, 2) 0 (-1 : Int32))
set_option maxRecDepth 100000 in
set_option maxHeartbeats 8000000 in
theorem k_X6_init {l : Launch} {D : va_G} {dT : Nat → ClassId} {sz : Nat} (hl : l.stackTraces = false) (u : ts_Mem) (hz : ts_ZA 1 u) (hr : ts_RA 1 0) : ts_MD l D dT sz yX6_init wqX6_init 2 275 4813 [.inr (0, 0, 0)] 1 0 u 276 275 (ku_X6_init u) := by
    unfold ku_X6_init
    refine ts_enterD hl (by decide) rfl rfl (Nat.le_of_ble_eq_true rfl) ?_
    intro p e s m args below meth c C KA hnm h0 hsz
    have C : ts_CX D dT sz p l (ts_rm 2 275 4813) s m args meth c RX6 cX6_init 2 none 2 := C
    refine tv_aload_n C (pc := 0) dX6_init_0 rfl rfl ?_
    refine tv_objInit C (pc := 1) dX6_init_1 oi_X6_3 ts_oi (fun _ => Nat.le_of_ble_eq_true rfl) ?_
    refine tv_aload_n C (pc := 4) dX6_init_4 rfl rfl ?_
    refine tv_new C (pc := 5) dX6_init_5 (j := 1) nw_X6_9 (N := 8) rfl rfl (i := (1, 0, 0)) rfl h0 (by omega) hz hr ⟨Nat.le_of_ble_eq_true rfl, Nat.le_of_ble_eq_true rfl⟩ ?_
    have hz := ts_ZA_m hz (Nat.le_succ _)
    have hr := ts_RA_m hr (Nat.le_succ _)
    refine tv_dup C (pc := 8) dX6_init_8 (fun _ => rfl) ?_
    refine tv_callI C KA (pc := 9) dX6_init_9 yi_X6_11.1 yi_X6_11.2 (k_X0_init0 (D := D) (dT := dT) (sz := sz) hl _ hz hr) (Nat.le_of_ble_eq_true rfl) h0 (by omega) (by decide) ⟨Nat.le_of_ble_eq_true rfl, Nat.le_of_ble_eq_true rfl⟩ (fun _ => Nat.le_of_ble_eq_true rfl) ?_
    have hz := kz_X0_init0 _ hz
    have hr := ts_ra_131_129
    refine tv_putRD C (pc := 12) dX6_init_12 (m1 := 129) ff_X6_12 (ts_lvm 0 rfl (by omega)) rfl rfl hnm (fun _ => rfl) (fun _ => rfl) rfl rfl ?_
    have hr := ts_RA_w hr rfl (ts_lvm 0 rfl (by omega))
    refine tv_aload_n C (pc := 15) dX6_init_15 rfl rfl ?_
    refine tv_new C (pc := 16) dX6_init_16 (j := 131) nw_X6_9 (N := 8) rfl rfl (i := (1, 1, 0)) rfl h0 (by omega) hz hr ⟨Nat.le_of_ble_eq_true rfl, Nat.le_of_ble_eq_true rfl⟩ ?_
    have hz := ts_ZA_m hz (Nat.le_succ _)
    have hr := ts_RA_m hr (Nat.le_succ _)
    refine tv_dup C (pc := 19) dX6_init_19 (fun _ => rfl) ?_
    refine tv_callI C KA (pc := 20) dX6_init_20 yi_X6_11.1 yi_X6_11.2 (k_X0_init1 (D := D) (dT := dT) (sz := sz) hl _ hz hr) (Nat.le_of_ble_eq_true rfl) h0 (by omega) (by decide) ⟨Nat.le_of_ble_eq_true rfl, Nat.le_of_ble_eq_true rfl⟩ (fun _ => Nat.le_of_ble_eq_true rfl) ?_
    have hz := kz_X0_init1 _ hz
    have hr := ts_ra_261_259
    refine tv_putRD C (pc := 23) dX6_init_23 (m1 := 259) ff_X6_18 (ts_lvm 0 rfl (by omega)) rfl rfl hnm (fun _ => rfl) (fun _ => rfl) rfl rfl ?_
    have hr := ts_RA_w hr rfl (ts_lvm 0 rfl (by omega))
    refine tv_aload_n C (pc := 26) dX6_init_26 rfl rfl ?_
    refine tv_iconst C (pc := 27) dX6_init_27 (v := (0 : Int32)) rfl ?_
    refine tv_putI C (pc := 28) dX6_init_28 fp_X6_21 (ts_lvm 0 rfl (by omega)) rfl (cd := 2) rfl (by decide) rfl rfl ?_
    have hz := ts_ZA_w (k := 2) (x := (0 : Int32)) hz (ts_lvm 0 rfl (by omega))
    refine tv_aload_n C (pc := 31) dX6_init_31 rfl rfl ?_
    refine tv_new C (pc := 32) dX6_init_32 (j := 261) nw_X6_25 (N := 8) rfl rfl (i := (21, 0, 0)) rfl h0 (by omega) hz hr ⟨Nat.le_of_ble_eq_true rfl, Nat.le_of_ble_eq_true rfl⟩ ?_
    have hz := ts_ZA_m hz (Nat.le_succ _)
    have hr := ts_RA_m hr (Nat.le_succ _)
    refine tv_dup C (pc := 35) dX6_init_35 (fun _ => rfl) ?_
    refine tv_callIN C KA (pc := 36) dX6_init_36 rfl ni_X6_27.1 ni_X6_27.2.1 (by decide) ni_X6_27.2.2 (k_X3_init (D := D) (dT := dT) (sz := sz) hl  261 260 _ rfl rfl rfl rfl rfl rfl rfl rfl rfl hz hr) (Nat.le_of_ble_eq_true rfl) h0 (by omega) (by decide) ⟨Nat.le_of_ble_eq_true rfl, Nat.le_of_ble_eq_true rfl⟩ (fun _ => Nat.le_of_ble_eq_true rfl) ?_
    have hz := ts_ZA_m hz (show 262 ≤ 266 by decide)
    have hr := ts_ra_266_264
    refine tv_putRD C (pc := 39) dX6_init_39 (m1 := 264) ff_X6_28 (ts_lvm 0 rfl (by omega)) rfl rfl hnm (fun _ => rfl) (fun _ => rfl) rfl rfl ?_
    have hr := ts_RA_w hr rfl (ts_lvm 0 rfl (by omega))
    refine tv_aload_n C (pc := 42) dX6_init_42 rfl rfl ?_
    refine tv_iconst C (pc := 43) dX6_init_43 (v := (-1 : Int32)) rfl ?_
    refine tv_putI C (pc := 44) dX6_init_44 fp_X6_32 (ts_lvm 0 rfl (by omega)) rfl (cd := 0) rfl (by decide) rfl rfl ?_
    have hz := ts_ZA_w (k := 4) (x := (-1 : Int32)) hz (ts_lvm 0 rfl (by omega))
    refine tv_aload_n C (pc := 47) dX6_init_47 rfl rfl ?_
    refine tv_iconst C (pc := 48) dX6_init_48 (v := (3 : Int32)) rfl ?_
    refine tv_anewa7 C KA (pc := 49) (j := 266) dX6_init_49 cn_X6_36 (N := 3) (by decide) (by decide) (by decide) rfl (i := (26, 0, 0)) rfl h0 (by omega) hr ⟨Nat.le_of_ble_eq_true rfl, Nat.le_of_ble_eq_true rfl⟩ ?_
    have hz := ts_ZA_m hz (Nat.le_succ _)
    have hr := ts_RA_m hr (Nat.le_succ _)
    refine tv_putRD C (pc := 52) dX6_init_52 (m1 := 265) ff_X6_38 (ts_lvm 0 rfl (by omega)) rfl rfl hnm (fun _ => rfl) (fun _ => rfl) rfl rfl ?_
    have hr := ts_RA_w hr rfl (ts_lvm 0 rfl (by omega))
    refine tv_iconst C (pc := 55) dX6_init_55 (v := (0 : Int32)) rfl ?_
    refine tv_istore_n C (pc := 56) dX6_init_56 (L' := [some (.inr (0, 0, 0)), some (.inl (.int (0 : Int32)))]) rfl (by decide) rfl rfl ?_
    refine tv_iload_n C (pc := 57) dX6_init_57 rfl rfl ?_
    refine tv_iconst C (pc := 58) dX6_init_58 (v := (3 : Int32)) rfl ?_
    refine tv_icmp_ge C (pc := 59) 81 dX6_init_59 (by decide) (fun hc => absurd hc (by decide)) (fun _ => ?_)
    refine tv_aload_n C (pc := 62) dX6_init_62 rfl rfl ?_
    refine tv_getR C (pc := 63) dX6_init_63 fl_X6_38 (ts_lvm 0 rfl (by omega)) rfl rfl (i2 := (26, 0, 0)) (ts_rfm 265 rfl (by decide) rfl) ?_
    refine tv_iload_n C (pc := 66) dX6_init_66 rfl rfl ?_
    refine tv_new C (pc := 67) dX6_init_67 (j := 267) nw_X6_36 (N := 4) rfl rfl (i := (27, 0, 0)) rfl h0 (by omega) hz hr ⟨Nat.le_of_ble_eq_true rfl, Nat.le_of_ble_eq_true rfl⟩ ?_
    have hz := ts_ZA_m hz (Nat.le_succ _)
    have hr := ts_RA_m hr (Nat.le_succ _)
    refine tv_dup C (pc := 70) dX6_init_70 (fun _ => rfl) ?_
    refine tv_callIN C KA (pc := 71) dX6_init_71 rfl ni_X6_42.1 ni_X6_42.2.1 (by decide) ni_X6_42.2.2 (k_X4_init (D := D) (dT := dT) (sz := sz) hl 0 267 266 _ rfl rfl rfl rfl rfl hz hr) (Nat.le_of_ble_eq_true rfl) h0 (by omega) (by decide) ⟨Nat.le_of_ble_eq_true rfl, Nat.le_of_ble_eq_true rfl⟩ (fun _ => Nat.le_of_ble_eq_true rfl) ?_
    have hz := ts_ZA_m hz (show 268 ≤ 270 by decide)
    have hr := ts_ra_270_268
    have hz := ts_ZA_w (k := 0) (x := (-1 : Int32)) hz (ts_lvm 267 rfl (by omega))
    refine tv_aast7 C (pc := 74) dX6_init_74 (m1 := 268) (ts_lvm 266 rfl (by omega)) rfl (by decide) (a := 0) (by decide) (ts_lvm 267 rfl (by omega)) rfl (q2 := (RX4, TX4, 4)) rfl rfl rfl rfl ?_
    have hr := ts_RA_w hr (show ts_EV[268]? = some ((26, 0, 0), 0) from rfl) (ts_lvm 266 rfl (by omega))
    refine tv_iinc C (pc := 75) dX6_init_75 (v := (1 : Int32)) (L' := [some (.inr (0, 0, 0)), some (.inl (.int (1 : Int32)))]) rfl rfl (by decide) rfl rfl ?_
    refine tv_goto C (pc := 78) 57 dX6_init_78 (by decide) ?_
    refine tv_iload_n C (pc := 57) dX6_init_57 rfl rfl ?_
    refine tv_iconst C (pc := 58) dX6_init_58 (v := (3 : Int32)) rfl ?_
    refine tv_icmp_ge C (pc := 59) 81 dX6_init_59 (by decide) (fun hc => absurd hc (by decide)) (fun _ => ?_)
    refine tv_aload_n C (pc := 62) dX6_init_62 rfl rfl ?_
    refine tv_getR C (pc := 63) dX6_init_63 fl_X6_38 (ts_lvm 0 rfl (by omega)) rfl rfl (i2 := (26, 0, 0)) (ts_rfm 265 rfl (by decide) rfl) ?_
    refine tv_iload_n C (pc := 66) dX6_init_66 rfl rfl ?_
    refine tv_new C (pc := 67) dX6_init_67 (j := 270) nw_X6_36 (N := 4) rfl rfl (i := (27, 0, 1)) rfl h0 (by omega) hz hr ⟨Nat.le_of_ble_eq_true rfl, Nat.le_of_ble_eq_true rfl⟩ ?_
    have hz := ts_ZA_m hz (Nat.le_succ _)
    have hr := ts_RA_m hr (Nat.le_succ _)
    refine tv_dup C (pc := 70) dX6_init_70 (fun _ => rfl) ?_
    refine tv_callIN C KA (pc := 71) dX6_init_71 rfl ni_X6_42.1 ni_X6_42.2.1 (by decide) ni_X6_42.2.2 (k_X4_init (D := D) (dT := dT) (sz := sz) hl 1 270 269 _ rfl rfl rfl rfl rfl hz hr) (Nat.le_of_ble_eq_true rfl) h0 (by omega) (by decide) ⟨Nat.le_of_ble_eq_true rfl, Nat.le_of_ble_eq_true rfl⟩ (fun _ => Nat.le_of_ble_eq_true rfl) ?_
    have hz := ts_ZA_m hz (show 271 ≤ 273 by decide)
    have hr := ts_ra_273_271
    have hz := ts_ZA_w (k := 0) (x := (-1 : Int32)) hz (ts_lvm 270 rfl (by omega))
    refine tv_aast7 C (pc := 74) dX6_init_74 (m1 := 271) (ts_lvm 266 rfl (by omega)) rfl (by decide) (a := 1) (by decide) (ts_lvm 270 rfl (by omega)) rfl (q2 := (RX4, TX4, 4)) rfl rfl rfl rfl ?_
    have hr := ts_RA_w hr (show ts_EV[271]? = some ((26, 0, 0), 1) from rfl) (ts_lvm 266 rfl (by omega))
    refine tv_iinc C (pc := 75) dX6_init_75 (v := (2 : Int32)) (L' := [some (.inr (0, 0, 0)), some (.inl (.int (2 : Int32)))]) rfl rfl (by decide) rfl rfl ?_
    refine tv_goto C (pc := 78) 57 dX6_init_78 (by decide) ?_
    refine tv_iload_n C (pc := 57) dX6_init_57 rfl rfl ?_
    refine tv_iconst C (pc := 58) dX6_init_58 (v := (3 : Int32)) rfl ?_
    refine tv_icmp_ge C (pc := 59) 81 dX6_init_59 (by decide) (fun hc => absurd hc (by decide)) (fun _ => ?_)
    refine tv_aload_n C (pc := 62) dX6_init_62 rfl rfl ?_
    refine tv_getR C (pc := 63) dX6_init_63 fl_X6_38 (ts_lvm 0 rfl (by omega)) rfl rfl (i2 := (26, 0, 0)) (ts_rfm 265 rfl (by decide) rfl) ?_
    refine tv_iload_n C (pc := 66) dX6_init_66 rfl rfl ?_
    refine tv_new C (pc := 67) dX6_init_67 (j := 273) nw_X6_36 (N := 4) rfl rfl (i := (27, 0, 2)) rfl h0 (by omega) hz hr ⟨Nat.le_of_ble_eq_true rfl, Nat.le_of_ble_eq_true rfl⟩ ?_
    have hz := ts_ZA_m hz (Nat.le_succ _)
    have hr := ts_RA_m hr (Nat.le_succ _)
    refine tv_dup C (pc := 70) dX6_init_70 (fun _ => rfl) ?_
    refine tv_callIN C KA (pc := 71) dX6_init_71 rfl ni_X6_42.1 ni_X6_42.2.1 (by decide) ni_X6_42.2.2 (k_X4_init (D := D) (dT := dT) (sz := sz) hl 2 273 272 _ rfl rfl rfl rfl rfl hz hr) (Nat.le_of_ble_eq_true rfl) h0 (by omega) (by decide) ⟨Nat.le_of_ble_eq_true rfl, Nat.le_of_ble_eq_true rfl⟩ (fun _ => Nat.le_of_ble_eq_true rfl) ?_
    have hz := ts_ZA_m hz (show 274 ≤ 276 by decide)
    have hr := ts_ra_276_274
    have hz := ts_ZA_w (k := 0) (x := (-1 : Int32)) hz (ts_lvm 273 rfl (by omega))
    refine tv_aast7 C (pc := 74) dX6_init_74 (m1 := 274) (ts_lvm 266 rfl (by omega)) rfl (by decide) (a := 2) (by decide) (ts_lvm 273 rfl (by omega)) rfl (q2 := (RX4, TX4, 4)) rfl rfl rfl rfl ?_
    have hr := ts_RA_w hr (show ts_EV[274]? = some ((26, 0, 0), 2) from rfl) (ts_lvm 266 rfl (by omega))
    refine tv_iinc C (pc := 75) dX6_init_75 (v := (3 : Int32)) (L' := [some (.inr (0, 0, 0)), some (.inl (.int (3 : Int32)))]) rfl rfl (by decide) rfl rfl ?_
    refine tv_goto C (pc := 78) 57 dX6_init_78 (by decide) ?_
    refine tv_iload_n C (pc := 57) dX6_init_57 rfl rfl ?_
    refine tv_iconst C (pc := 58) dX6_init_58 (v := (3 : Int32)) rfl ?_
    refine tv_icmp_ge C (pc := 59) 81 dX6_init_59 (by decide) (fun _ => ?_) (fun hc => absurd (by decide) hc)
    exact tv_vret C (pc := 81) rfl dX6_init_81 ⟨Nat.le_of_ble_eq_true rfl, Nat.le_of_ble_eq_true rfl⟩ 
set_option maxRecDepth 100000 in
set_option maxHeartbeats 8000000 in
theorem kz_X6_init (u : ts_Mem) (hz : ts_ZA 1 u) : ts_ZA 276 (ku_X6_init u) := by
    unfold ku_X6_init
    have hz := ts_ZA_m hz (Nat.le_succ _)
    have hz := kz_X0_init0 _ hz
    have hz := ts_ZA_m hz (Nat.le_succ _)
    have hz := kz_X0_init1 _ hz
    have hz := ts_ZA_w (k := 2) (x := (0 : Int32)) hz (ts_lvm 0 rfl (by omega))
    have hz := ts_ZA_m hz (Nat.le_succ _)
    have hz := ts_ZA_m hz (show 262 ≤ 266 by decide)
    have hz := ts_ZA_w (k := 4) (x := (-1 : Int32)) hz (ts_lvm 0 rfl (by omega))
    have hz := ts_ZA_m hz (Nat.le_succ _)
    have hz := ts_ZA_m hz (Nat.le_succ _)
    have hz := ts_ZA_m hz (show 268 ≤ 270 by decide)
    have hz := ts_ZA_w (k := 0) (x := (-1 : Int32)) hz (ts_lvm 267 rfl (by omega))
    have hz := ts_ZA_m hz (Nat.le_succ _)
    have hz := ts_ZA_m hz (show 271 ≤ 273 by decide)
    have hz := ts_ZA_w (k := 0) (x := (-1 : Int32)) hz (ts_lvm 270 rfl (by omega))
    have hz := ts_ZA_m hz (Nat.le_succ _)
    have hz := ts_ZA_m hz (show 274 ≤ 276 by decide)
    have hz := ts_ZA_w (k := 0) (x := (-1 : Int32)) hz (ts_lvm 273 rfl (by omega))
    exact hz
def ku_X7_init (u : ts_Mem) : ts_Mem := (ts_sI (ts_sI (ts_sI (ts_sI (ts_sI (ts_sI (ts_sI (ts_sI (ts_sI (ts_sI (ts_sI (ts_sI (ts_sI (ts_sI u (30, 0, 0) 1 (2 : Int32)) (30, 0, 0) 3 (1 : Int32)) (38, 0, 0) 0 (1 : Int32)) (38, 0, 0) 1 (1 : Int32)) (38, 0, 0) 2 (1 : Int32)) (38, 0, 0) 3 (1 : Int32)) (38, 0, 0) 4 (1 : Int32)) (38, 0, 0) 5 (1 : Int32)) (38, 0, 0) 6 (1 : Int32)) (38, 0, 0) 7 (1 : Int32)) (30, 0, 0) 24 (-1 : Int32)) (45, 0, 0) 0 (-1 : Int32)) (45, 0, 0) 1 (-1 : Int32)) (45, 0, 0) 2 (-1 : Int32))
set_option maxRecDepth 100000 in
set_option maxHeartbeats 4000000 in
theorem mD_X7_place {l : Launch} {D : va_G} {dT : Nat → ClassId} {sz : Nat} {ad : ts_I → Nat} (hl : l.stackTraces = false) (p0 : Int32) (p1 : Int32) (u : ts_Mem) (r : Int32) (h : f_X7_place p0 p1 u = some r) : ts_M l D dT sz yX7_place wX7_place 0 0 0 ad (ts_lvt 296) (ts_rft 294) [.inl (.int p0), .inl (.int p1)] u (.inl (some (.int r))) u := by
    unfold f_X7_place at h
    refine ts_enter hl (by decide) rfl rfl (Nat.le_of_ble_eq_true rfl) ?_
    intro p e s m args below meth c C hX hnm
    have C : ts_CX D dT sz p l (ts_rm 0 0 0) s m args meth c RX7 cX7_place 2 (some .int) 0 := C
    have hdd : 0 ≤ 0 := Nat.le_refl _
    refine tv_iconst C (pc := 0) dX7_place_0 (v := (4 : Int32)) rfl ?_
    refine tv_bipush C (pc := 1) dX7_place_1 (v := (20 : Int32)) rfl ?_
    refine tv_iload_n C (pc := 3) dX7_place_3 rfl rfl ?_
    refine tv_imul C (pc := 4) dX7_place_4 ?_
    refine tv_iload_n C (pc := 5) dX7_place_5 rfl rfl ?_
    refine tv_iadd C (pc := 6) dX7_place_6 ?_
    refine tv_imul C (pc := 7) dX7_place_7 ?_
    cases h
    exact tv_iret C (pc := 8) rfl dX7_place_8 ⟨Nat.le_of_ble_eq_true rfl, Nat.le_of_ble_eq_true rfl⟩
set_option maxRecDepth 100000 in
set_option maxHeartbeats 4000000 in
theorem mD_X7_put {l : Launch} {D : va_G} {dT : Nat → ClassId} {sz : Nat} {ad : ts_I → Nat} (hl : l.stackTraces = false) (p1 : Int32) (p2 : Int32) (p3 : Int32) (p4 : Int32) (p5 : Int32) (p6 : Int32) (u : ts_Mem) (r : ts_Mem) (h : f_X7_put p1 p2 p3 p4 p5 p6 u = some r) : ts_M l D dT sz yX7_put wX7_put 1 0 0 ad (ts_lvt 296) (ts_rft 294) [.inr (30, 0, 0), .inl (.int p1), .inl (.int p2), .inl (.int p3), .inl (.int p4), .inl (.int p5), .inl (.int p6)] u (.inl none) r := by
    unfold f_X7_put at h
    refine ts_enter hl (by decide) rfl rfl (Nat.le_of_ble_eq_true rfl) ?_
    intro p e s m args below meth c C hX hnm
    have C : ts_CX D dT sz p l (ts_rm 1 0 0) s m args meth c RX7 cX7_put 8 none 1 := C
    have hdd : 1 ≤ 1 := Nat.le_refl _
    refine tv_iload_n C (pc := 0) dX7_put_0 rfl rfl ?_
    refine tv_iload_n C (pc := 1) dX7_put_1 rfl rfl ?_
    obtain ⟨q1, hq1, h⟩ := ts_bd h
    refine tv_callS C (pc := 2) dX7_put_2 yl_X7_91 (mD_X7_place (D := D) (dT := dT) (sz := sz) (ad := ad) hl p1 p2 u q1 hq1) (Nat.le_trans (Nat.le_of_ble_eq_true rfl) hdd) (As := [.inl (.int p1), .inl (.int p2)]) rfl ⟨Nat.le_of_ble_eq_true rfl, Nat.le_of_ble_eq_true rfl⟩ (fun _ => Nat.le_of_ble_eq_true rfl) rfl ?_
    refine tv_istore C (pc := 5) dX7_put_5 (L' := [some (.inr (30, 0, 0)), some (.inl (.int p1)), some (.inl (.int p2)), some (.inl (.int p3)), some (.inl (.int p4)), some (.inl (.int p5)), some (.inl (.int p6)), some (.inl (.int q1))]) (by decide) rfl rfl ?_
    refine tv_aload_n C (pc := 7) dX7_put_7 rfl rfl ?_
    refine tv_getR C (pc := 8) dX7_put_8 fl_X7_46 (ts_lvm 276 rfl (by decide)) rfl rfl (i2 := (39, 0, 0)) (ts_rfm 283 rfl (by decide) rfl) ?_
    refine tv_iload C (pc := 11) dX7_put_11 rfl ?_
    refine tv_iload_n C (pc := 13) dX7_put_13 rfl rfl ?_
    obtain ⟨hr2, h⟩ := ts_gd h
    refine tv_iastore C (pc := 14) dX7_put_14 (ts_lvm 285 rfl (by decide)) rfl hr2 (j := q1.toNatClampNeg) rfl ?_
    refine tv_nu (fun u3 hu3 => ?_)
    have h := ts_lt h hu3
    refine tv_aload_n C (pc := 15) dX7_put_15 rfl rfl ?_
    refine tv_getR C (pc := 16) dX7_put_16 fl_X7_46 (ts_lvm 276 rfl (by decide)) rfl rfl (i2 := (39, 0, 0)) (ts_rfm 283 rfl (by decide) rfl) ?_
    refine tv_iload C (pc := 19) dX7_put_19 rfl ?_
    refine tv_iconst C (pc := 21) dX7_put_21 (v := (1 : Int32)) rfl ?_
    refine tv_iadd C (pc := 22) dX7_put_22 ?_
    refine tv_iload C (pc := 23) dX7_put_23 rfl ?_
    obtain ⟨hr4, h⟩ := ts_gd h
    refine tv_iastore C (pc := 25) dX7_put_25 (ts_lvm 285 rfl (by decide)) rfl hr4 (j := ((q1 + (1 : Int32))).toNatClampNeg) rfl ?_
    refine tv_nu (fun u5 hu5 => ?_)
    have h := ts_lt h hu5
    refine tv_aload_n C (pc := 26) dX7_put_26 rfl rfl ?_
    refine tv_getR C (pc := 27) dX7_put_27 fl_X7_46 (ts_lvm 276 rfl (by decide)) rfl rfl (i2 := (39, 0, 0)) (ts_rfm 283 rfl (by decide) rfl) ?_
    refine tv_iload C (pc := 30) dX7_put_30 rfl ?_
    refine tv_iconst C (pc := 32) dX7_put_32 (v := (2 : Int32)) rfl ?_
    refine tv_iadd C (pc := 33) dX7_put_33 ?_
    refine tv_iload C (pc := 34) dX7_put_34 rfl ?_
    obtain ⟨hr6, h⟩ := ts_gd h
    refine tv_iastore C (pc := 36) dX7_put_36 (ts_lvm 285 rfl (by decide)) rfl hr6 (j := ((q1 + (2 : Int32))).toNatClampNeg) rfl ?_
    refine tv_nu (fun u7 hu7 => ?_)
    have h := ts_lt h hu7
    refine tv_aload_n C (pc := 37) dX7_put_37 rfl rfl ?_
    refine tv_getR C (pc := 38) dX7_put_38 fl_X7_46 (ts_lvm 276 rfl (by decide)) rfl rfl (i2 := (39, 0, 0)) (ts_rfm 283 rfl (by decide) rfl) ?_
    refine tv_iload C (pc := 41) dX7_put_41 rfl ?_
    refine tv_iconst C (pc := 43) dX7_put_43 (v := (3 : Int32)) rfl ?_
    refine tv_iadd C (pc := 44) dX7_put_44 ?_
    refine tv_iload C (pc := 45) dX7_put_45 rfl ?_
    obtain ⟨hr8, h⟩ := ts_gd h
    refine tv_iastore C (pc := 47) dX7_put_47 (ts_lvm 285 rfl (by decide)) rfl hr8 (j := ((q1 + (3 : Int32))).toNatClampNeg) rfl ?_
    refine tv_nu (fun u9 hu9 => ?_)
    have h := ts_lt h hu9
    cases h
    exact tv_vret C (pc := 48) rfl dX7_put_48 ⟨Nat.le_of_ble_eq_true rfl, Nat.le_of_ble_eq_true rfl⟩
set_option maxRecDepth 100000 in
set_option maxHeartbeats 4000000 in
theorem ltD_X7_clearItems_2 {D : va_G} {dT : Nat → ClassId} {sz : Nat} {p : Program} {l : Launch} {e : Env} {R : Room} {s : State} {m : MethodId} {args : Array Value} {below : List Frame} {meth : Method} {c : Code} {d : Nat} {ad : ts_I → Nat} {kk nn : Nat} {Q : State → Prop} (hl : l.stackTraces = false) (C : ts_CX D dT sz p l R s m args meth c RX7 cX7_clearItems 2 none d) (hdd : 2 ≤ d)  (hkn : kk ≤ R.cells ∧ nn ≤ R.slots) : ∀ (n : Nat) (v1 : Int32) (u : ts_Mem) (q : (Int32 × ts_Mem)) (h : lp_X7_clearItems_2 n v1 u = some q) (K : ts_V D dT sz p l e R s m args below meth c 2 Q ad (ts_lvt 296) (ts_rft 294) 31 [some (.inr (30, 0, 0)), some (.inl (.int q.1))] [] q.2 kk nn), ts_V D dT sz p l e R s m args below meth c 2 Q ad (ts_lvt 296) (ts_rft 294) 2 [some (.inr (30, 0, 0)), some (.inl (.int v1))] [] u kk nn
  | 0, _, _, _, h, _ => by cases h
  | n + 1, v1, u, q, h, K => by
      rw [lp_X7_clearItems_2] at h
      refine tv_iload_n C (pc := 2) dX7_clearItems_2 rfl rfl ?_
      refine tv_bipush C (pc := 3) dX7_clearItems_3 (v := (8 : Int32)) rfl ?_
      refine tv_icmp_ge C (pc := 5) 31 dX7_clearItems_5 (by decide) (fun hc => ?_) (fun hc => ?_)
      · have h := ts_ifp h hc
        cases h
        exact K
      · have h := ts_ifn h hc
        refine tv_aload_n C (pc := 8) dX7_clearItems_8 rfl rfl ?_
        refine tv_getR C (pc := 9) dX7_clearItems_9 fl_X7_43 (ts_lvm 276 rfl (by decide)) rfl rfl (i2 := (38, 0, 0)) (ts_rfm 282 rfl (by decide) rfl) ?_
        refine tv_iload_n C (pc := 12) dX7_clearItems_12 rfl rfl ?_
        refine tv_iconst C (pc := 13) dX7_clearItems_13 (v := (1 : Int32)) rfl ?_
        obtain ⟨hr1, h⟩ := ts_gd h
        refine tv_iastore C (pc := 14) dX7_clearItems_14 (ts_lvm 284 rfl (by decide)) rfl hr1 (j := v1.toNatClampNeg) rfl ?_
        refine tv_nu (fun u2 hu2 => ?_)
        have h := ts_lt h hu2
        refine tv_aload_n C (pc := 15) dX7_clearItems_15 rfl rfl ?_
        refine tv_iload_n C (pc := 16) dX7_clearItems_16 rfl rfl ?_
        refine tv_iconst C (pc := 17) dX7_clearItems_17 (v := (0 : Int32)) rfl ?_
        refine tv_iconst C (pc := 18) dX7_clearItems_18 (v := (0 : Int32)) rfl ?_
        refine tv_iconst C (pc := 19) dX7_clearItems_19 (v := (0 : Int32)) rfl ?_
        refine tv_iconst C (pc := 20) dX7_clearItems_20 (v := (0 : Int32)) rfl ?_
        refine tv_iconst C (pc := 21) dX7_clearItems_21 (v := (-1 : Int32)) rfl ?_
        obtain ⟨q3, hq3, h⟩ := ts_bd h
        refine tv_callV C (pc := 22) dX7_clearItems_22 (ci := 7) (q := (RX7, TX7, 37)) rfl yl_X7_87 (mD_X7_put (D := D) (dT := dT) (sz := sz) (ad := ad) hl v1 (0 : Int32) (0 : Int32) (0 : Int32) (0 : Int32) (-1 : Int32) u2 q3 hq3) (ts_lvm 276 rfl (by decide)) rfl (Nat.le_trans (Nat.le_of_ble_eq_true rfl) hdd) (As := [.inl (.int v1), .inl (.int (0 : Int32)), .inl (.int (0 : Int32)), .inl (.int (0 : Int32)), .inl (.int (0 : Int32)), .inl (.int (-1 : Int32))]) rfl ⟨hkn.1, hkn.2⟩ (fun _ => Nat.le_of_ble_eq_true rfl) rfl ?_
        refine tv_iinc C (pc := 25) dX7_clearItems_25 (v := (v1 + (1 : Int32))) (L' := [some (.inr (30, 0, 0)), some (.inl (.int (v1 + (1 : Int32))))]) rfl rfl (by decide) rfl rfl ?_
        refine tv_goto C (pc := 28) 2 dX7_clearItems_28 (by decide) ?_
        exact ltD_X7_clearItems_2 hl C hdd  hkn n (v1 + (1 : Int32)) q3 q h K
set_option maxRecDepth 100000 in
set_option maxHeartbeats 4000000 in
theorem mD_X7_clearItems {l : Launch} {D : va_G} {dT : Nat → ClassId} {sz : Nat} {ad : ts_I → Nat} (hl : l.stackTraces = false)  (u : ts_Mem) (r : ts_Mem) (h : f_X7_clearItems  u = some r) : ts_M l D dT sz yX7_clearItems wX7_clearItems 2 0 0 ad (ts_lvt 296) (ts_rft 294) [.inr (30, 0, 0)] u (.inl none) r := by
    unfold f_X7_clearItems at h
    refine ts_enter hl (by decide) rfl rfl (Nat.le_of_ble_eq_true rfl) ?_
    intro p e s m args below meth c C hX hnm
    have C : ts_CX D dT sz p l (ts_rm 2 0 0) s m args meth c RX7 cX7_clearItems 2 none 2 := C
    have hdd : 2 ≤ 2 := Nat.le_refl _
    refine tv_iconst C (pc := 0) dX7_clearItems_0 (v := (0 : Int32)) rfl ?_
    refine tv_istore_n C (pc := 1) dX7_clearItems_1 (L' := [some (.inr (30, 0, 0)), some (.inl (.int (0 : Int32)))]) rfl (by decide) rfl rfl ?_
    obtain ⟨q4, hq4, h⟩ := ts_bd h
    refine ltD_X7_clearItems_2 hl C hdd  ⟨Nat.le_of_ble_eq_true rfl, Nat.le_of_ble_eq_true rfl⟩ ts_fu (0 : Int32) u q4 hq4 ?_
    cases h
    exact tv_vret C (pc := 31) rfl dX7_clearItems_31 ⟨Nat.le_of_ble_eq_true rfl, Nat.le_of_ble_eq_true rfl⟩
set_option maxRecDepth 100000 in
set_option maxHeartbeats 8000000 in
theorem k_X7_init {l : Launch} {D : va_G} {dT : Nat → ClassId} {sz : Nat} (hl : l.stackTraces = false) (u uF : ts_Mem) (hc : f_X7_clearItems (ku_X7_init u) = some uF) (hz : ts_ZA 277 u) (hr : ts_RA 277 275) : ts_MD l D dT sz yX7_init wqX7_init 3 19 4757 [.inr (30, 0, 0)] 277 275 u 296 294 uF := by
    unfold ku_X7_init at hc
    refine ts_enterD hl (by decide) rfl rfl (Nat.le_of_ble_eq_true rfl) ?_
    intro p e s m args below meth c C KA hnm h0 hsz
    have C : ts_CX D dT sz p l (ts_rm 3 19 4757) s m args meth c RX7 cX7_init 1 none 3 := C
    refine tv_aload_n C (pc := 0) dX7_init_0 rfl rfl ?_
    refine tv_objInit C (pc := 1) dX7_init_1 oi_X7_9 ts_oi (fun _ => Nat.le_of_ble_eq_true rfl) ?_
    refine tv_aload_n C (pc := 4) dX7_init_4 rfl rfl ?_
    refine tv_iconst C (pc := 5) dX7_init_5 (v := (2 : Int32)) rfl ?_
    refine tv_putI C (pc := 6) dX7_init_6 fp_X7_15 (ts_lvm 276 rfl (by omega)) rfl (cd := 0) rfl (by decide) rfl rfl ?_
    have hz := ts_ZA_w (k := 1) (x := (2 : Int32)) hz (ts_lvm 276 rfl (by omega))
    refine tv_aload_n C (pc := 9) dX7_init_9 rfl rfl ?_
    refine tv_iconst C (pc := 10) dX7_init_10 (v := (1 : Int32)) rfl ?_
    refine tv_putI C (pc := 11) dX7_init_11 fp_X7_18 (ts_lvm 276 rfl (by omega)) rfl (cd := 0) rfl (by decide) rfl rfl ?_
    have hz := ts_ZA_w (k := 3) (x := (1 : Int32)) hz (ts_lvm 276 rfl (by omega))
    refine tv_aload_n C (pc := 14) dX7_init_14 rfl rfl ?_
    refine tv_bipush C (pc := 15) dX7_init_15 (v := (16 : Int32)) rfl ?_
    refine tv_newa0 C (pc := 17) dX7_init_17 (j := 277) ac_int (N := 16) (by decide) (by decide) (by decide) rfl (i := (31, 0, 0)) rfl h0 (by omega) hz ⟨Nat.le_of_ble_eq_true rfl, Nat.le_of_ble_eq_true rfl⟩ ?_
    have hz := ts_ZA_m hz (Nat.le_succ _)
    have hr := ts_RA_m hr (Nat.le_succ _)
    refine tv_putRD C (pc := 19) dX7_init_19 (m1 := 275) ff_X7_21 (ts_lvm 276 rfl (by omega)) rfl rfl hnm (fun _ => rfl) (fun _ => rfl) rfl rfl ?_
    have hr := ts_RA_w hr rfl (ts_lvm 276 rfl (by omega))
    refine tv_aload_n C (pc := 22) dX7_init_22 rfl rfl ?_
    refine tv_bipush C (pc := 23) dX7_init_23 (v := (16 : Int32)) rfl ?_
    refine tv_newa0 C (pc := 25) dX7_init_25 (j := 278) ac_int (N := 16) (by decide) (by decide) (by decide) rfl (i := (32, 0, 0)) rfl h0 (by omega) hz ⟨Nat.le_of_ble_eq_true rfl, Nat.le_of_ble_eq_true rfl⟩ ?_
    have hz := ts_ZA_m hz (Nat.le_succ _)
    have hr := ts_RA_m hr (Nat.le_succ _)
    refine tv_putRD C (pc := 27) dX7_init_27 (m1 := 276) ff_X7_25 (ts_lvm 276 rfl (by omega)) rfl rfl hnm (fun _ => rfl) (fun _ => rfl) rfl rfl ?_
    have hr := ts_RA_w hr rfl (ts_lvm 276 rfl (by omega))
    refine tv_aload_n C (pc := 30) dX7_init_30 rfl rfl ?_
    refine tv_bipush C (pc := 31) dX7_init_31 (v := (16 : Int32)) rfl ?_
    refine tv_newa0 C (pc := 33) dX7_init_33 (j := 279) ac_int (N := 16) (by decide) (by decide) (by decide) rfl (i := (33, 0, 0)) rfl h0 (by omega) hz ⟨Nat.le_of_ble_eq_true rfl, Nat.le_of_ble_eq_true rfl⟩ ?_
    have hz := ts_ZA_m hz (Nat.le_succ _)
    have hr := ts_RA_m hr (Nat.le_succ _)
    refine tv_putRD C (pc := 35) dX7_init_35 (m1 := 277) ff_X7_28 (ts_lvm 276 rfl (by omega)) rfl rfl hnm (fun _ => rfl) (fun _ => rfl) rfl rfl ?_
    have hr := ts_RA_w hr rfl (ts_lvm 276 rfl (by omega))
    refine tv_aload_n C (pc := 38) dX7_init_38 rfl rfl ?_
    refine tv_bipush C (pc := 39) dX7_init_39 (v := (16 : Int32)) rfl ?_
    refine tv_newa0 C (pc := 41) dX7_init_41 (j := 280) ac_int (N := 16) (by decide) (by decide) (by decide) rfl (i := (34, 0, 0)) rfl h0 (by omega) hz ⟨Nat.le_of_ble_eq_true rfl, Nat.le_of_ble_eq_true rfl⟩ ?_
    have hz := ts_ZA_m hz (Nat.le_succ _)
    have hr := ts_RA_m hr (Nat.le_succ _)
    refine tv_putRD C (pc := 43) dX7_init_43 (m1 := 278) ff_X7_31 (ts_lvm 276 rfl (by omega)) rfl rfl hnm (fun _ => rfl) (fun _ => rfl) rfl rfl ?_
    have hr := ts_RA_w hr rfl (ts_lvm 276 rfl (by omega))
    refine tv_aload_n C (pc := 46) dX7_init_46 rfl rfl ?_
    refine tv_bipush C (pc := 47) dX7_init_47 (v := (16 : Int32)) rfl ?_
    refine tv_newa0 C (pc := 49) dX7_init_49 (j := 281) ac_int (N := 16) (by decide) (by decide) (by decide) rfl (i := (35, 0, 0)) rfl h0 (by omega) hz ⟨Nat.le_of_ble_eq_true rfl, Nat.le_of_ble_eq_true rfl⟩ ?_
    have hz := ts_ZA_m hz (Nat.le_succ _)
    have hr := ts_RA_m hr (Nat.le_succ _)
    refine tv_putRD C (pc := 51) dX7_init_51 (m1 := 279) ff_X7_34 (ts_lvm 276 rfl (by omega)) rfl rfl hnm (fun _ => rfl) (fun _ => rfl) rfl rfl ?_
    have hr := ts_RA_w hr rfl (ts_lvm 276 rfl (by omega))
    refine tv_aload_n C (pc := 54) dX7_init_54 rfl rfl ?_
    refine tv_sipush C (pc := 55) dX7_init_55 (v := (1280 : Int32)) rfl ?_
    refine tv_newa0 C (pc := 58) dX7_init_58 (j := 282) ac_int (N := 1280) (by decide) (by decide) (by decide) rfl (i := (36, 0, 0)) rfl h0 (by omega) hz ⟨Nat.le_of_ble_eq_true rfl, Nat.le_of_ble_eq_true rfl⟩ ?_
    have hz := ts_ZA_m hz (Nat.le_succ _)
    have hr := ts_RA_m hr (Nat.le_succ _)
    refine tv_putRD C (pc := 60) dX7_init_60 (m1 := 280) ff_X7_37 (ts_lvm 276 rfl (by omega)) rfl rfl hnm (fun _ => rfl) (fun _ => rfl) rfl rfl ?_
    have hr := ts_RA_w hr rfl (ts_lvm 276 rfl (by omega))
    refine tv_aload_n C (pc := 63) dX7_init_63 rfl rfl ?_
    refine tv_bipush C (pc := 64) dX7_init_64 (v := (16 : Int32)) rfl ?_
    refine tv_newa0 C (pc := 66) dX7_init_66 (j := 283) ac_int (N := 16) (by decide) (by decide) (by decide) rfl (i := (37, 0, 0)) rfl h0 (by omega) hz ⟨Nat.le_of_ble_eq_true rfl, Nat.le_of_ble_eq_true rfl⟩ ?_
    have hz := ts_ZA_m hz (Nat.le_succ _)
    have hr := ts_RA_m hr (Nat.le_succ _)
    refine tv_putRD C (pc := 68) dX7_init_68 (m1 := 281) ff_X7_40 (ts_lvm 276 rfl (by omega)) rfl rfl hnm (fun _ => rfl) (fun _ => rfl) rfl rfl ?_
    have hr := ts_RA_w hr rfl (ts_lvm 276 rfl (by omega))
    refine tv_aload_n C (pc := 71) dX7_init_71 rfl rfl ?_
    refine tv_bipush C (pc := 72) dX7_init_72 (v := (8 : Int32)) rfl ?_
    refine tv_newa0 C (pc := 74) dX7_init_74 (j := 284) ac_int (N := 8) (by decide) (by decide) (by decide) rfl (i := (38, 0, 0)) rfl h0 (by omega) hz ⟨Nat.le_of_ble_eq_true rfl, Nat.le_of_ble_eq_true rfl⟩ ?_
    have hz := ts_ZA_m hz (Nat.le_succ _)
    have hr := ts_RA_m hr (Nat.le_succ _)
    refine tv_dup C (pc := 76) dX7_init_76 (fun _ => rfl) ?_
    refine tv_iconst C (pc := 77) dX7_init_77 (v := (0 : Int32)) rfl ?_
    refine tv_iconst C (pc := 78) dX7_init_78 (v := (1 : Int32)) rfl ?_
    refine tv_iastore C (pc := 79) dX7_init_79 (ts_lvm 284 rfl (by omega)) rfl (by decide) (j := 0) (by decide) ?_
    have hz := ts_ZA_w (k := 0) (x := (1 : Int32)) hz (ts_lvm 284 rfl (by omega))
    refine tv_dup C (pc := 80) dX7_init_80 (fun _ => rfl) ?_
    refine tv_iconst C (pc := 81) dX7_init_81 (v := (1 : Int32)) rfl ?_
    refine tv_iconst C (pc := 82) dX7_init_82 (v := (1 : Int32)) rfl ?_
    refine tv_iastore C (pc := 83) dX7_init_83 (ts_lvm 284 rfl (by omega)) rfl (by decide) (j := 1) (by decide) ?_
    have hz := ts_ZA_w (k := 1) (x := (1 : Int32)) hz (ts_lvm 284 rfl (by omega))
    refine tv_dup C (pc := 84) dX7_init_84 (fun _ => rfl) ?_
    refine tv_iconst C (pc := 85) dX7_init_85 (v := (2 : Int32)) rfl ?_
    refine tv_iconst C (pc := 86) dX7_init_86 (v := (1 : Int32)) rfl ?_
    refine tv_iastore C (pc := 87) dX7_init_87 (ts_lvm 284 rfl (by omega)) rfl (by decide) (j := 2) (by decide) ?_
    have hz := ts_ZA_w (k := 2) (x := (1 : Int32)) hz (ts_lvm 284 rfl (by omega))
    refine tv_dup C (pc := 88) dX7_init_88 (fun _ => rfl) ?_
    refine tv_iconst C (pc := 89) dX7_init_89 (v := (3 : Int32)) rfl ?_
    refine tv_iconst C (pc := 90) dX7_init_90 (v := (1 : Int32)) rfl ?_
    refine tv_iastore C (pc := 91) dX7_init_91 (ts_lvm 284 rfl (by omega)) rfl (by decide) (j := 3) (by decide) ?_
    have hz := ts_ZA_w (k := 3) (x := (1 : Int32)) hz (ts_lvm 284 rfl (by omega))
    refine tv_dup C (pc := 92) dX7_init_92 (fun _ => rfl) ?_
    refine tv_iconst C (pc := 93) dX7_init_93 (v := (4 : Int32)) rfl ?_
    refine tv_iconst C (pc := 94) dX7_init_94 (v := (1 : Int32)) rfl ?_
    refine tv_iastore C (pc := 95) dX7_init_95 (ts_lvm 284 rfl (by omega)) rfl (by decide) (j := 4) (by decide) ?_
    have hz := ts_ZA_w (k := 4) (x := (1 : Int32)) hz (ts_lvm 284 rfl (by omega))
    refine tv_dup C (pc := 96) dX7_init_96 (fun _ => rfl) ?_
    refine tv_iconst C (pc := 97) dX7_init_97 (v := (5 : Int32)) rfl ?_
    refine tv_iconst C (pc := 98) dX7_init_98 (v := (1 : Int32)) rfl ?_
    refine tv_iastore C (pc := 99) dX7_init_99 (ts_lvm 284 rfl (by omega)) rfl (by decide) (j := 5) (by decide) ?_
    have hz := ts_ZA_w (k := 5) (x := (1 : Int32)) hz (ts_lvm 284 rfl (by omega))
    refine tv_dup C (pc := 100) dX7_init_100 (fun _ => rfl) ?_
    refine tv_bipush C (pc := 101) dX7_init_101 (v := (6 : Int32)) rfl ?_
    refine tv_iconst C (pc := 103) dX7_init_103 (v := (1 : Int32)) rfl ?_
    refine tv_iastore C (pc := 104) dX7_init_104 (ts_lvm 284 rfl (by omega)) rfl (by decide) (j := 6) (by decide) ?_
    have hz := ts_ZA_w (k := 6) (x := (1 : Int32)) hz (ts_lvm 284 rfl (by omega))
    refine tv_dup C (pc := 105) dX7_init_105 (fun _ => rfl) ?_
    refine tv_bipush C (pc := 106) dX7_init_106 (v := (7 : Int32)) rfl ?_
    refine tv_iconst C (pc := 108) dX7_init_108 (v := (1 : Int32)) rfl ?_
    refine tv_iastore C (pc := 109) dX7_init_109 (ts_lvm 284 rfl (by omega)) rfl (by decide) (j := 7) (by decide) ?_
    have hz := ts_ZA_w (k := 7) (x := (1 : Int32)) hz (ts_lvm 284 rfl (by omega))
    refine tv_putRD C (pc := 110) dX7_init_110 (m1 := 282) ff_X7_43 (ts_lvm 276 rfl (by omega)) rfl rfl hnm (fun _ => rfl) (fun _ => rfl) rfl rfl ?_
    have hr := ts_RA_w hr rfl (ts_lvm 276 rfl (by omega))
    refine tv_aload_n C (pc := 113) dX7_init_113 rfl rfl ?_
    refine tv_sipush C (pc := 114) dX7_init_114 (v := (640 : Int32)) rfl ?_
    refine tv_newa0 C (pc := 117) dX7_init_117 (j := 285) ac_int (N := 640) (by decide) (by decide) (by decide) rfl (i := (39, 0, 0)) rfl h0 (by omega) hz ⟨Nat.le_of_ble_eq_true rfl, Nat.le_of_ble_eq_true rfl⟩ ?_
    have hz := ts_ZA_m hz (Nat.le_succ _)
    have hr := ts_RA_m hr (Nat.le_succ _)
    refine tv_putRD C (pc := 119) dX7_init_119 (m1 := 283) ff_X7_46 (ts_lvm 276 rfl (by omega)) rfl rfl hnm (fun _ => rfl) (fun _ => rfl) rfl rfl ?_
    have hr := ts_RA_w hr rfl (ts_lvm 276 rfl (by omega))
    refine tv_aload_n C (pc := 122) dX7_init_122 rfl rfl ?_
    refine tv_sipush C (pc := 123) dX7_init_123 (v := (150 : Int32)) rfl ?_
    refine tv_newa0 C (pc := 126) dX7_init_126 (j := 286) ac_int (N := 150) (by decide) (by decide) (by decide) rfl (i := (40, 0, 0)) rfl h0 (by omega) hz ⟨Nat.le_of_ble_eq_true rfl, Nat.le_of_ble_eq_true rfl⟩ ?_
    have hz := ts_ZA_m hz (Nat.le_succ _)
    have hr := ts_RA_m hr (Nat.le_succ _)
    refine tv_putRD C (pc := 128) dX7_init_128 (m1 := 284) ff_X7_49 (ts_lvm 276 rfl (by omega)) rfl rfl hnm (fun _ => rfl) (fun _ => rfl) rfl rfl ?_
    have hr := ts_RA_w hr rfl (ts_lvm 276 rfl (by omega))
    refine tv_aload_n C (pc := 131) dX7_init_131 rfl rfl ?_
    refine tv_bipush C (pc := 132) dX7_init_132 (v := (9 : Int32)) rfl ?_
    refine tv_newa0 C (pc := 134) dX7_init_134 (j := 287) ac_int (N := 9) (by decide) (by decide) (by decide) rfl (i := (41, 0, 0)) rfl h0 (by omega) hz ⟨Nat.le_of_ble_eq_true rfl, Nat.le_of_ble_eq_true rfl⟩ ?_
    have hz := ts_ZA_m hz (Nat.le_succ _)
    have hr := ts_RA_m hr (Nat.le_succ _)
    refine tv_putRD C (pc := 136) dX7_init_136 (m1 := 285) ff_X7_52 (ts_lvm 276 rfl (by omega)) rfl rfl hnm (fun _ => rfl) (fun _ => rfl) rfl rfl ?_
    have hr := ts_RA_w hr rfl (ts_lvm 276 rfl (by omega))
    refine tv_aload_n C (pc := 139) dX7_init_139 rfl rfl ?_
    refine tv_bipush C (pc := 140) dX7_init_140 (v := (60 : Int32)) rfl ?_
    refine tv_newa1 C (pc := 142) dX7_init_142 (j := 288) ac_char (N := 60) (by decide) (by decide) (by decide) rfl (i := (42, 0, 0)) rfl h0 (by omega) hz ⟨Nat.le_of_ble_eq_true rfl, Nat.le_of_ble_eq_true rfl⟩ ?_
    have hz := ts_ZA_m hz (Nat.le_succ _)
    have hr := ts_RA_m hr (Nat.le_succ _)
    refine tv_putRD C (pc := 144) dX7_init_144 (m1 := 286) ff_X7_55 (ts_lvm 276 rfl (by omega)) rfl rfl hnm (fun _ => rfl) (fun _ => rfl) rfl rfl ?_
    have hr := ts_RA_w hr rfl (ts_lvm 276 rfl (by omega))
    refine tv_aload_n C (pc := 147) dX7_init_147 rfl rfl ?_
    refine tv_iconst C (pc := 148) dX7_init_148 (v := (-1 : Int32)) rfl ?_
    refine tv_putI C (pc := 149) dX7_init_149 fp_X7_59 (ts_lvm 276 rfl (by omega)) rfl (cd := 0) rfl (by decide) rfl rfl ?_
    have hz := ts_ZA_w (k := 24) (x := (-1 : Int32)) hz (ts_lvm 276 rfl (by omega))
    refine tv_aload_n C (pc := 152) dX7_init_152 rfl rfl ?_
    refine tv_bipush C (pc := 153) dX7_init_153 (v := (120 : Int32)) rfl ?_
    refine tv_newa0 C (pc := 155) dX7_init_155 (j := 289) ac_int (N := 120) (by decide) (by decide) (by decide) rfl (i := (43, 0, 0)) rfl h0 (by omega) hz ⟨Nat.le_of_ble_eq_true rfl, Nat.le_of_ble_eq_true rfl⟩ ?_
    have hz := ts_ZA_m hz (Nat.le_succ _)
    have hr := ts_RA_m hr (Nat.le_succ _)
    refine tv_putRD C (pc := 157) dX7_init_157 (m1 := 287) ff_X7_62 (ts_lvm 276 rfl (by omega)) rfl rfl hnm (fun _ => rfl) (fun _ => rfl) rfl rfl ?_
    have hr := ts_RA_w hr rfl (ts_lvm 276 rfl (by omega))
    refine tv_aload_n C (pc := 160) dX7_init_160 rfl rfl ?_
    refine tv_bipush C (pc := 161) dX7_init_161 (v := (8 : Int32)) rfl ?_
    refine tv_newa0 C (pc := 163) dX7_init_163 (j := 290) ac_int (N := 8) (by decide) (by decide) (by decide) rfl (i := (44, 0, 0)) rfl h0 (by omega) hz ⟨Nat.le_of_ble_eq_true rfl, Nat.le_of_ble_eq_true rfl⟩ ?_
    have hz := ts_ZA_m hz (Nat.le_succ _)
    have hr := ts_RA_m hr (Nat.le_succ _)
    refine tv_putRD C (pc := 165) dX7_init_165 (m1 := 288) ff_X7_65 (ts_lvm 276 rfl (by omega)) rfl rfl hnm (fun _ => rfl) (fun _ => rfl) rfl rfl ?_
    have hr := ts_RA_w hr rfl (ts_lvm 276 rfl (by omega))
    refine tv_aload_n C (pc := 168) dX7_init_168 rfl rfl ?_
    refine tv_iconst C (pc := 169) dX7_init_169 (v := (3 : Int32)) rfl ?_
    refine tv_newa0 C (pc := 170) dX7_init_170 (j := 291) ac_int (N := 3) (by decide) (by decide) (by decide) rfl (i := (45, 0, 0)) rfl h0 (by omega) hz ⟨Nat.le_of_ble_eq_true rfl, Nat.le_of_ble_eq_true rfl⟩ ?_
    have hz := ts_ZA_m hz (Nat.le_succ _)
    have hr := ts_RA_m hr (Nat.le_succ _)
    refine tv_dup C (pc := 172) dX7_init_172 (fun _ => rfl) ?_
    refine tv_iconst C (pc := 173) dX7_init_173 (v := (0 : Int32)) rfl ?_
    refine tv_iconst C (pc := 174) dX7_init_174 (v := (-1 : Int32)) rfl ?_
    refine tv_iastore C (pc := 175) dX7_init_175 (ts_lvm 291 rfl (by omega)) rfl (by decide) (j := 0) (by decide) ?_
    have hz := ts_ZA_w (k := 0) (x := (-1 : Int32)) hz (ts_lvm 291 rfl (by omega))
    refine tv_dup C (pc := 176) dX7_init_176 (fun _ => rfl) ?_
    refine tv_iconst C (pc := 177) dX7_init_177 (v := (1 : Int32)) rfl ?_
    refine tv_iconst C (pc := 178) dX7_init_178 (v := (-1 : Int32)) rfl ?_
    refine tv_iastore C (pc := 179) dX7_init_179 (ts_lvm 291 rfl (by omega)) rfl (by decide) (j := 1) (by decide) ?_
    have hz := ts_ZA_w (k := 1) (x := (-1 : Int32)) hz (ts_lvm 291 rfl (by omega))
    refine tv_dup C (pc := 180) dX7_init_180 (fun _ => rfl) ?_
    refine tv_iconst C (pc := 181) dX7_init_181 (v := (2 : Int32)) rfl ?_
    refine tv_iconst C (pc := 182) dX7_init_182 (v := (-1 : Int32)) rfl ?_
    refine tv_iastore C (pc := 183) dX7_init_183 (ts_lvm 291 rfl (by omega)) rfl (by decide) (j := 2) (by decide) ?_
    have hz := ts_ZA_w (k := 2) (x := (-1 : Int32)) hz (ts_lvm 291 rfl (by omega))
    refine tv_putRD C (pc := 184) dX7_init_184 (m1 := 289) ff_X7_68 (ts_lvm 276 rfl (by omega)) rfl rfl hnm (fun _ => rfl) (fun _ => rfl) rfl rfl ?_
    have hr := ts_RA_w hr rfl (ts_lvm 276 rfl (by omega))
    refine tv_aload_n C (pc := 187) dX7_init_187 rfl rfl ?_
    refine tv_iconst C (pc := 188) dX7_init_188 (v := (3 : Int32)) rfl ?_
    refine tv_newa0 C (pc := 189) dX7_init_189 (j := 292) ac_int (N := 3) (by decide) (by decide) (by decide) rfl (i := (46, 0, 0)) rfl h0 (by omega) hz ⟨Nat.le_of_ble_eq_true rfl, Nat.le_of_ble_eq_true rfl⟩ ?_
    have hz := ts_ZA_m hz (Nat.le_succ _)
    have hr := ts_RA_m hr (Nat.le_succ _)
    refine tv_putRD C (pc := 191) dX7_init_191 (m1 := 290) ff_X7_71 (ts_lvm 276 rfl (by omega)) rfl rfl hnm (fun _ => rfl) (fun _ => rfl) rfl rfl ?_
    have hr := ts_RA_w hr rfl (ts_lvm 276 rfl (by omega))
    refine tv_aload_n C (pc := 194) dX7_init_194 rfl rfl ?_
    refine tv_bipush C (pc := 195) dX7_init_195 (v := (90 : Int32)) rfl ?_
    refine tv_newa0 C (pc := 197) dX7_init_197 (j := 293) ac_int (N := 90) (by decide) (by decide) (by decide) rfl (i := (47, 0, 0)) rfl h0 (by omega) hz ⟨Nat.le_of_ble_eq_true rfl, Nat.le_of_ble_eq_true rfl⟩ ?_
    have hz := ts_ZA_m hz (Nat.le_succ _)
    have hr := ts_RA_m hr (Nat.le_succ _)
    refine tv_putRD C (pc := 199) dX7_init_199 (m1 := 291) ff_X7_74 (ts_lvm 276 rfl (by omega)) rfl rfl hnm (fun _ => rfl) (fun _ => rfl) rfl rfl ?_
    have hr := ts_RA_w hr rfl (ts_lvm 276 rfl (by omega))
    refine tv_aload_n C (pc := 202) dX7_init_202 rfl rfl ?_
    refine tv_bipush C (pc := 203) dX7_init_203 (v := (90 : Int32)) rfl ?_
    refine tv_newa2 C (pc := 205) dX7_init_205 (j := 294) ac_float (N := 90) (by decide) (by decide) (by decide) rfl (i := (48, 0, 0)) rfl h0 (by omega) hz ⟨Nat.le_of_ble_eq_true rfl, Nat.le_of_ble_eq_true rfl⟩ ?_
    have hz := ts_ZA_m hz (Nat.le_succ _)
    have hr := ts_RA_m hr (Nat.le_succ _)
    refine tv_putRD C (pc := 207) dX7_init_207 (m1 := 292) ff_X7_77 (ts_lvm 276 rfl (by omega)) rfl rfl hnm (fun _ => rfl) (fun _ => rfl) rfl rfl ?_
    have hr := ts_RA_w hr rfl (ts_lvm 276 rfl (by omega))
    refine tv_aload_n C (pc := 210) dX7_init_210 rfl rfl ?_
    refine tv_sipush C (pc := 211) dX7_init_211 (v := (2200 : Int32)) rfl ?_
    refine tv_newa0 C (pc := 214) dX7_init_214 (j := 295) ac_int (N := 2200) (by decide) (by decide) (by decide) rfl (i := (49, 0, 0)) rfl h0 (by omega) hz ⟨Nat.le_of_ble_eq_true rfl, Nat.le_of_ble_eq_true rfl⟩ ?_
    have hz := ts_ZA_m hz (Nat.le_succ _)
    have hr := ts_RA_m hr (Nat.le_succ _)
    refine tv_putRD C (pc := 216) dX7_init_216 (m1 := 293) ff_X7_81 (ts_lvm 276 rfl (by omega)) rfl rfl hnm (fun _ => rfl) (fun _ => rfl) rfl rfl ?_
    have hr := ts_RA_w hr rfl (ts_lvm 276 rfl (by omega))
    refine tv_aload_n C (pc := 219) dX7_init_219 rfl rfl ?_
    refine tv_callV C (pc := 220) dX7_init_220 (ci := 7) (q := (RX7, TX7, 37)) rfl yl_X7_84 (mD_X7_clearItems (D := D) (dT := dT) (sz := sz) (ad := ts_ad sz) hl _ uF hc) (ts_lvm 276 rfl (by omega)) rfl (Nat.le_of_ble_eq_true rfl) (As := []) rfl ⟨Nat.le_of_ble_eq_true rfl, Nat.le_of_ble_eq_true rfl⟩ (fun _ => Nat.le_of_ble_eq_true rfl) rfl ?_
    exact tv_vret C (pc := 223) rfl dX7_init_223 ⟨Nat.le_of_ble_eq_true rfl, Nat.le_of_ble_eq_true rfl⟩ 
