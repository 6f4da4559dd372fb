set_option maxRecDepth 100000 in
set_option maxHeartbeats 4000000 in
theorem m_X7_isIn {l : Launch} {D : va_G} {dT : Nat → ClassId} {sz : Nat} {ad : ts_I → Nat} (hl : l.stackTraces = false) (p0 : Int32) (p1 : Int32) (p2 : Int32) (u : ts_Mem) (r : Int32) (h : f_X7_isIn p0 p1 p2 u = some r) : ts_M l D dT sz yX7_isIn wX7_isIn 0 0 0 ad ts_lv ts_R0 [.inl (.int p0), .inl (.int p1), .inl (.int p2)] u (.inl (some (.int r))) u := by
    unfold f_X7_isIn at h
    refine ts_enter hl (by decide) rfl rfl (Nat.le_of_ble_eq_true rfl) ?_
    intro p e s m args below meth c C hX hnm
    have C : ts_CX D dT sz p l (ts_rm 0 0 0) s m args meth c RX7 cX7_isIn 3 (some .boolean) 0 := C
    have hdd : 0 ≤ 0 := Nat.le_refl _
    refine tv_iload_n C (pc := 0) dX7_isIn_0 rfl rfl ?_
    refine tv_iload_n C (pc := 1) dX7_isIn_1 rfl rfl ?_
    refine tv_icmp_lt C (pc := 2) 14 dX7_isIn_2 (by decide) (fun hc => ?_) (fun hc => ?_)
    · have h := ts_ifp h hc
      refine tv_iconst C (pc := 14) dX7_isIn_14 (v := (0 : Int32)) rfl ?_
      cases h
      exact tv_zret C (pc := 15) (v := (0 : Int32)) rfl ts_nz0 dX7_isIn_15 ⟨Nat.le_of_ble_eq_true rfl, Nat.le_of_ble_eq_true rfl⟩
    · have h := ts_ifn h hc
      refine tv_iload_n C (pc := 5) dX7_isIn_5 rfl rfl ?_
      refine tv_iload_n C (pc := 6) dX7_isIn_6 rfl rfl ?_
      refine tv_icmp_gt C (pc := 7) 14 dX7_isIn_7 (by decide) (fun hc => ?_) (fun hc => ?_)
      · have h := ts_ifp h hc
        refine tv_iconst C (pc := 14) dX7_isIn_14 (v := (0 : Int32)) rfl ?_
        cases h
        exact tv_zret C (pc := 15) (v := (0 : Int32)) rfl ts_nz0 dX7_isIn_15 ⟨Nat.le_of_ble_eq_true rfl, Nat.le_of_ble_eq_true rfl⟩
      · have h := ts_ifn h hc
        refine tv_iconst C (pc := 10) dX7_isIn_10 (v := (1 : Int32)) rfl ?_
        refine tv_goto C (pc := 11) 15 dX7_isIn_11 (by decide) ?_
        cases h
        exact tv_zret C (pc := 15) (v := (1 : Int32)) rfl ts_nz1 dX7_isIn_15 ⟨Nat.le_of_ble_eq_true rfl, Nat.le_of_ble_eq_true rfl⟩
set_option maxRecDepth 100000 in
set_option maxHeartbeats 4000000 in
theorem m_X7_thrown {l : Launch} {D : va_G} {dT : Nat → ClassId} {sz : Nat} {ad : ts_I → Nat} (hl : l.stackTraces = false)  (u : ts_Mem) (r : Int32) (h : f_X7_thrown  u = some r) : ts_M l D dT sz yX7_thrown wX7_thrown 0 0 0 ad ts_lv ts_R0 [.inr (30, 0, 0)] u (.inl (some (.int r))) u := by
    unfold f_X7_thrown at h
    refine ts_enter hl (by decide) rfl rfl (Nat.le_of_ble_eq_true rfl) ?_
    intro p e s m args below meth c C hX hnm
    have C : ts_CX D dT sz p l (ts_rm 0 0 0) s m args meth c RX7 cX7_thrown 1 (some .int) 0 := C
    have hdd : 0 ≤ 0 := Nat.le_refl _
    refine tv_aload_n C (pc := 0) dX7_thrown_0 rfl rfl ?_
    refine tv_getI C (pc := 1) dX7_thrown_1 fl_X7_3 (ts_live (k := 30) (by decide) (by decide) (by decide)) rfl (cd := 0) rfl (by decide) ?_
    cases h
    exact tv_iret C (pc := 4) rfl dX7_thrown_4 ⟨Nat.le_of_ble_eq_true rfl, Nat.le_of_ble_eq_true rfl⟩
set_option maxRecDepth 100000 in
set_option maxHeartbeats 4000000 in
theorem m_X7_fail {l : Launch} {D : va_G} {dT : Nat → ClassId} {sz : Nat} {ad : ts_I → Nat} (hl : l.stackTraces = false) (p1 : Int32) (u : ts_Mem) (r : (Int32 × ts_Mem)) (h : f_X7_fail p1 u = some r) : ts_M l D dT sz yX7_fail wX7_fail 0 0 0 ad ts_lv ts_R0 [.inr (30, 0, 0), .inl (.int p1)] u (.inl (some (.int r.1))) r.2 := by
    unfold f_X7_fail at h
    refine ts_enter hl (by decide) rfl rfl (Nat.le_of_ble_eq_true rfl) ?_
    intro p e s m args below meth c C hX hnm
    have C : ts_CX D dT sz p l (ts_rm 0 0 0) s m args meth c RX7 cX7_fail 2 (some .int) 0 := C
    have hdd : 0 ≤ 0 := Nat.le_refl _
    refine tv_aload_n C (pc := 0) dX7_fail_0 rfl rfl ?_
    refine tv_iload_n C (pc := 1) dX7_fail_1 rfl rfl ?_
    refine tv_putI C (pc := 2) dX7_fail_2 fp_X7_3 (ts_live (k := 30) (by decide) (by decide) (by decide)) rfl (cd := 0) rfl (by decide) rfl rfl ?_
    refine tv_nu (fun u1 hu1 => ?_)
    have h := ts_lt h hu1
    refine tv_iconst C (pc := 5) dX7_fail_5 (v := (0 : Int32)) rfl ?_
    cases h
    exact tv_iret C (pc := 6) rfl dX7_fail_6 ⟨Nat.le_of_ble_eq_true rfl, Nat.le_of_ble_eq_true rfl⟩
set_option maxRecDepth 100000 in
set_option maxHeartbeats 4000000 in
theorem m_X7_place {l : Launch} {D : va_G} {dT : Nat → ClassId} {sz : Nat} {ad : ts_I → Nat} (hl : l.stackTraces = false) (p0 : Int32) (p1 : Int32) (u : ts_Mem) (r : Int32) (h : f_X7_place p0 p1 u = some r) : ts_M l D dT sz yX7_place wX7_place 0 0 0 ad ts_lv ts_R0 [.inl (.int p0), .inl (.int p1)] u (.inl (some (.int r))) u := by
    unfold f_X7_place at h
    refine ts_enter hl (by decide) rfl rfl (Nat.le_of_ble_eq_true rfl) ?_
    intro p e s m args below meth c C hX hnm
    have C : ts_CX D dT sz p l (ts_rm 0 0 0) s m args meth c RX7 cX7_place 2 (some .int) 0 := C
    have hdd : 0 ≤ 0 := Nat.le_refl _
    refine tv_iconst C (pc := 0) dX7_place_0 (v := (4 : Int32)) rfl ?_
    refine tv_bipush C (pc := 1) dX7_place_1 (v := (20 : Int32)) rfl ?_
    refine tv_iload_n C (pc := 3) dX7_place_3 rfl rfl ?_
    refine tv_imul C (pc := 4) dX7_place_4 ?_
    refine tv_iload_n C (pc := 5) dX7_place_5 rfl rfl ?_
    refine tv_iadd C (pc := 6) dX7_place_6 ?_
    refine tv_imul C (pc := 7) dX7_place_7 ?_
    cases h
    exact tv_iret C (pc := 8) rfl dX7_place_8 ⟨Nat.le_of_ble_eq_true rfl, Nat.le_of_ble_eq_true rfl⟩
set_option maxRecDepth 100000 in
set_option maxHeartbeats 4000000 in
theorem m_X7_put {l : Launch} {D : va_G} {dT : Nat → ClassId} {sz : Nat} {ad : ts_I → Nat} (hl : l.stackTraces = false) (p1 : Int32) (p2 : Int32) (p3 : Int32) (p4 : Int32) (p5 : Int32) (p6 : Int32) (u : ts_Mem) (r : ts_Mem) (h : f_X7_put p1 p2 p3 p4 p5 p6 u = some r) : ts_M l D dT sz yX7_put wX7_put 1 0 0 ad ts_lv ts_R0 [.inr (30, 0, 0), .inl (.int p1), .inl (.int p2), .inl (.int p3), .inl (.int p4), .inl (.int p5), .inl (.int p6)] u (.inl none) r := by
    unfold f_X7_put at h
    refine ts_enter hl (by decide) rfl rfl (Nat.le_of_ble_eq_true rfl) ?_
    intro p e s m args below meth c C hX hnm
    have C : ts_CX D dT sz p l (ts_rm 1 0 0) s m args meth c RX7 cX7_put 8 none 1 := C
    have hdd : 1 ≤ 1 := Nat.le_refl _
    refine tv_iload_n C (pc := 0) dX7_put_0 rfl rfl ?_
    refine tv_iload_n C (pc := 1) dX7_put_1 rfl rfl ?_
    obtain ⟨q1, hq1, h⟩ := ts_bd h
    refine tv_callS C (pc := 2) dX7_put_2 yl_X7_91 (m_X7_place (D := D) (dT := dT) (sz := sz) (ad := ad) hl p1 p2 u q1 hq1) (Nat.le_trans (Nat.le_of_ble_eq_true rfl) hdd) (As := [.inl (.int p1), .inl (.int p2)]) rfl ⟨Nat.le_of_ble_eq_true rfl, Nat.le_of_ble_eq_true rfl⟩ (fun _ => Nat.le_of_ble_eq_true rfl) rfl ?_
    refine tv_istore C (pc := 5) dX7_put_5 (L' := [some (.inr (30, 0, 0)), some (.inl (.int p1)), some (.inl (.int p2)), some (.inl (.int p3)), some (.inl (.int p4)), some (.inl (.int p5)), some (.inl (.int p6)), some (.inl (.int q1))]) (by decide) rfl rfl ?_
    refine tv_aload_n C (pc := 7) dX7_put_7 rfl rfl ?_
    refine tv_getR C (pc := 8) dX7_put_8 fl_X7_46 (ts_live (k := 30) (by decide) (by decide) (by decide)) rfl rfl (i2 := (39, 0, 0)) rfl ?_
    refine tv_iload C (pc := 11) dX7_put_11 rfl ?_
    refine tv_iload_n C (pc := 13) dX7_put_13 rfl rfl ?_
    obtain ⟨hr2, h⟩ := ts_gd h
    refine tv_iastore C (pc := 14) dX7_put_14 (ts_live (k := 39) (by decide) (by decide) (by decide)) rfl hr2 (j := q1.toNatClampNeg) rfl ?_
    refine tv_nu (fun u3 hu3 => ?_)
    have h := ts_lt h hu3
    refine tv_aload_n C (pc := 15) dX7_put_15 rfl rfl ?_
    refine tv_getR C (pc := 16) dX7_put_16 fl_X7_46 (ts_live (k := 30) (by decide) (by decide) (by decide)) rfl rfl (i2 := (39, 0, 0)) rfl ?_
    refine tv_iload C (pc := 19) dX7_put_19 rfl ?_
    refine tv_iconst C (pc := 21) dX7_put_21 (v := (1 : Int32)) rfl ?_
    refine tv_iadd C (pc := 22) dX7_put_22 ?_
    refine tv_iload C (pc := 23) dX7_put_23 rfl ?_
    obtain ⟨hr4, h⟩ := ts_gd h
    refine tv_iastore C (pc := 25) dX7_put_25 (ts_live (k := 39) (by decide) (by decide) (by decide)) rfl hr4 (j := ((q1 + (1 : Int32))).toNatClampNeg) rfl ?_
    refine tv_nu (fun u5 hu5 => ?_)
    have h := ts_lt h hu5
    refine tv_aload_n C (pc := 26) dX7_put_26 rfl rfl ?_
    refine tv_getR C (pc := 27) dX7_put_27 fl_X7_46 (ts_live (k := 30) (by decide) (by decide) (by decide)) rfl rfl (i2 := (39, 0, 0)) rfl ?_
    refine tv_iload C (pc := 30) dX7_put_30 rfl ?_
    refine tv_iconst C (pc := 32) dX7_put_32 (v := (2 : Int32)) rfl ?_
    refine tv_iadd C (pc := 33) dX7_put_33 ?_
    refine tv_iload C (pc := 34) dX7_put_34 rfl ?_
    obtain ⟨hr6, h⟩ := ts_gd h
    refine tv_iastore C (pc := 36) dX7_put_36 (ts_live (k := 39) (by decide) (by decide) (by decide)) rfl hr6 (j := ((q1 + (2 : Int32))).toNatClampNeg) rfl ?_
    refine tv_nu (fun u7 hu7 => ?_)
    have h := ts_lt h hu7
    refine tv_aload_n C (pc := 37) dX7_put_37 rfl rfl ?_
    refine tv_getR C (pc := 38) dX7_put_38 fl_X7_46 (ts_live (k := 30) (by decide) (by decide) (by decide)) rfl rfl (i2 := (39, 0, 0)) rfl ?_
    refine tv_iload C (pc := 41) dX7_put_41 rfl ?_
    refine tv_iconst C (pc := 43) dX7_put_43 (v := (3 : Int32)) rfl ?_
    refine tv_iadd C (pc := 44) dX7_put_44 ?_
    refine tv_iload C (pc := 45) dX7_put_45 rfl ?_
    obtain ⟨hr8, h⟩ := ts_gd h
    refine tv_iastore C (pc := 47) dX7_put_47 (ts_live (k := 39) (by decide) (by decide) (by decide)) rfl hr8 (j := ((q1 + (3 : Int32))).toNatClampNeg) rfl ?_
    refine tv_nu (fun u9 hu9 => ?_)
    have h := ts_lt h hu9
    cases h
    exact tv_vret C (pc := 48) rfl dX7_put_48 ⟨Nat.le_of_ble_eq_true rfl, Nat.le_of_ble_eq_true rfl⟩
set_option maxRecDepth 100000 in
set_option maxHeartbeats 4000000 in
theorem lt_X7_clearItems_2 {D : va_G} {dT : Nat → ClassId} {sz : Nat} {p : Program} {l : Launch} {e : Env} {R : Room} {s : State} {m : MethodId} {args : Array Value} {below : List Frame} {meth : Method} {c : Code} {d : Nat} {ad : ts_I → Nat} {kk nn : Nat} {Q : State → Prop} (hl : l.stackTraces = false) (C : ts_CX D dT sz p l R s m args meth c RX7 cX7_clearItems 2 none d) (hdd : 2 ≤ d)  (hkn : kk ≤ R.cells ∧ nn ≤ R.slots) : ∀ (n : Nat) (v1 : Int32) (u : ts_Mem) (q : (Int32 × ts_Mem)) (h : lp_X7_clearItems_2 n v1 u = some q) (K : ts_V D dT sz p l e R s m args below meth c 2 Q ad ts_lv ts_R0 31 [some (.inr (30, 0, 0)), some (.inl (.int q.1))] [] q.2 kk nn), ts_V D dT sz p l e R s m args below meth c 2 Q ad ts_lv ts_R0 2 [some (.inr (30, 0, 0)), some (.inl (.int v1))] [] u kk nn
  | 0, _, _, _, h, _ => by cases h
  | n + 1, v1, u, q, h, K => by
      rw [lp_X7_clearItems_2] at h
      refine tv_iload_n C (pc := 2) dX7_clearItems_2 rfl rfl ?_
      refine tv_bipush C (pc := 3) dX7_clearItems_3 (v := (8 : Int32)) rfl ?_
      refine tv_icmp_ge C (pc := 5) 31 dX7_clearItems_5 (by decide) (fun hc => ?_) (fun hc => ?_)
      · have h := ts_ifp h hc
        cases h
        exact K
      · have h := ts_ifn h hc
        refine tv_aload_n C (pc := 8) dX7_clearItems_8 rfl rfl ?_
        refine tv_getR C (pc := 9) dX7_clearItems_9 fl_X7_43 (ts_live (k := 30) (by decide) (by decide) (by decide)) rfl rfl (i2 := (38, 0, 0)) rfl ?_
        refine tv_iload_n C (pc := 12) dX7_clearItems_12 rfl rfl ?_
        refine tv_iconst C (pc := 13) dX7_clearItems_13 (v := (1 : Int32)) rfl ?_
        obtain ⟨hr1, h⟩ := ts_gd h
        refine tv_iastore C (pc := 14) dX7_clearItems_14 (ts_live (k := 38) (by decide) (by decide) (by decide)) rfl hr1 (j := v1.toNatClampNeg) rfl ?_
        refine tv_nu (fun u2 hu2 => ?_)
        have h := ts_lt h hu2
        refine tv_aload_n C (pc := 15) dX7_clearItems_15 rfl rfl ?_
        refine tv_iload_n C (pc := 16) dX7_clearItems_16 rfl rfl ?_
        refine tv_iconst C (pc := 17) dX7_clearItems_17 (v := (0 : Int32)) rfl ?_
        refine tv_iconst C (pc := 18) dX7_clearItems_18 (v := (0 : Int32)) rfl ?_
        refine tv_iconst C (pc := 19) dX7_clearItems_19 (v := (0 : Int32)) rfl ?_
        refine tv_iconst C (pc := 20) dX7_clearItems_20 (v := (0 : Int32)) rfl ?_
        refine tv_iconst C (pc := 21) dX7_clearItems_21 (v := (-1 : Int32)) rfl ?_
        obtain ⟨q3, hq3, h⟩ := ts_bd h
        refine tv_callV C (pc := 22) dX7_clearItems_22 (ci := 7) (q := (RX7, TX7, 37)) rfl yl_X7_87 (m_X7_put (D := D) (dT := dT) (sz := sz) (ad := ad) hl v1 (0 : Int32) (0 : Int32) (0 : Int32) (0 : Int32) (-1 : Int32) u2 q3 hq3) (ts_live (k := 30) (by decide) (by decide) (by decide)) rfl (Nat.le_trans (Nat.le_of_ble_eq_true rfl) hdd) (As := [.inl (.int v1), .inl (.int (0 : Int32)), .inl (.int (0 : Int32)), .inl (.int (0 : Int32)), .inl (.int (0 : Int32)), .inl (.int (-1 : Int32))]) rfl ⟨hkn.1, hkn.2⟩ (fun _ => Nat.le_of_ble_eq_true rfl) rfl ?_
        refine tv_iinc C (pc := 25) dX7_clearItems_25 (v := (v1 + (1 : Int32))) (L' := [some (.inr (30, 0, 0)), some (.inl (.int (v1 + (1 : Int32))))]) rfl rfl (by decide) rfl rfl ?_
        refine tv_goto C (pc := 28) 2 dX7_clearItems_28 (by decide) ?_
        exact lt_X7_clearItems_2 hl C hdd  hkn n (v1 + (1 : Int32)) q3 q h K
set_option maxRecDepth 100000 in
set_option maxHeartbeats 4000000 in
theorem m_X7_clearItems {l : Launch} {D : va_G} {dT : Nat → ClassId} {sz : Nat} {ad : ts_I → Nat} (hl : l.stackTraces = false)  (u : ts_Mem) (r : ts_Mem) (h : f_X7_clearItems  u = some r) : ts_M l D dT sz yX7_clearItems wX7_clearItems 2 0 0 ad ts_lv ts_R0 [.inr (30, 0, 0)] u (.inl none) r := by
    unfold f_X7_clearItems at h
    refine ts_enter hl (by decide) rfl rfl (Nat.le_of_ble_eq_true rfl) ?_
    intro p e s m args below meth c C hX hnm
    have C : ts_CX D dT sz p l (ts_rm 2 0 0) s m args meth c RX7 cX7_clearItems 2 none 2 := C
    have hdd : 2 ≤ 2 := Nat.le_refl _
    refine tv_iconst C (pc := 0) dX7_clearItems_0 (v := (0 : Int32)) rfl ?_
    refine tv_istore_n C (pc := 1) dX7_clearItems_1 (L' := [some (.inr (30, 0, 0)), some (.inl (.int (0 : Int32)))]) rfl (by decide) rfl rfl ?_
    obtain ⟨q4, hq4, h⟩ := ts_bd h
    refine lt_X7_clearItems_2 hl C hdd  ⟨Nat.le_of_ble_eq_true rfl, Nat.le_of_ble_eq_true rfl⟩ ts_fu (0 : Int32) u q4 hq4 ?_
    cases h
    exact tv_vret C (pc := 31) rfl dX7_clearItems_31 ⟨Nat.le_of_ble_eq_true rfl, Nat.le_of_ble_eq_true rfl⟩
set_option maxRecDepth 100000 in
set_option maxHeartbeats 4000000 in
theorem m_X7_written {l : Launch} {D : va_G} {dT : Nat → ClassId} {sz : Nat} {ad : ts_I → Nat} (hl : l.stackTraces = false) (p1 : Int32) (p2 : Int32) (u : ts_Mem) (r : Int32) (h : f_X7_written p1 p2 u = some r) : ts_M l D dT sz yX7_written wX7_written 1 0 0 ad ts_lv ts_R0 [.inr (30, 0, 0), .inl (.int p1), .inl (.int p2)] u (.inl (some (.int r))) u := by
    unfold f_X7_written at h
    refine ts_enter hl (by decide) rfl rfl (Nat.le_of_ble_eq_true rfl) ?_
    intro p e s m args below meth c C hX hnm
    have C : ts_CX D dT sz p l (ts_rm 1 0 0) s m args meth c RX7 cX7_written 3 (some .int) 1 := C
    have hdd : 1 ≤ 1 := Nat.le_refl _
    refine tv_aload_n C (pc := 0) dX7_written_0 rfl rfl ?_
    refine tv_getR C (pc := 1) dX7_written_1 fl_X7_46 (ts_live (k := 30) (by decide) (by decide) (by decide)) rfl rfl (i2 := (39, 0, 0)) rfl ?_
    refine tv_iload_n C (pc := 4) dX7_written_4 rfl rfl ?_
    refine tv_iload_n C (pc := 5) dX7_written_5 rfl rfl ?_
    obtain ⟨q1, hq1, h⟩ := ts_bd h
    refine tv_callS C (pc := 6) dX7_written_6 yl_X7_91 (m_X7_place (D := D) (dT := dT) (sz := sz) (ad := ad) hl p1 p2 u q1 hq1) (Nat.le_trans (Nat.le_of_ble_eq_true rfl) hdd) (As := [.inl (.int p1), .inl (.int p2)]) rfl ⟨Nat.le_of_ble_eq_true rfl, Nat.le_of_ble_eq_true rfl⟩ (fun _ => Nat.le_of_ble_eq_true rfl) rfl ?_
    obtain ⟨hr2, h⟩ := ts_gd h
    refine tv_iaload C (pc := 9) dX7_written_9 (ts_live (k := 39) (by decide) (by decide) (by decide)) rfl hr2 (j := q1.toNatClampNeg) rfl ?_
    cases h
    exact tv_iret C (pc := 10) rfl dX7_written_10 ⟨Nat.le_of_ble_eq_true rfl, Nat.le_of_ble_eq_true rfl⟩
set_option maxRecDepth 100000 in
set_option maxHeartbeats 4000000 in
theorem m_X7_isUncommitted {l : Launch} {D : va_G} {dT : Nat → ClassId} {sz : Nat} {ad : ts_I → Nat} (hl : l.stackTraces = false) (p1 : Int32) (u : ts_Mem) (r : Int32) (h : f_X7_isUncommitted p1 u = some r) : ts_M l D dT sz yX7_isUncommitted wX7_isUncommitted 0 0 0 ad ts_lv ts_R0 [.inr (30, 0, 0), .inl (.int p1)] u (.inl (some (.int r))) u := by
    unfold f_X7_isUncommitted at h
    refine ts_enter hl (by decide) rfl rfl (Nat.le_of_ble_eq_true rfl) ?_
    intro p e s m args below meth c C hX hnm
    have C : ts_CX D dT sz p l (ts_rm 0 0 0) s m args meth c RX7 cX7_isUncommitted 2 (some .boolean) 0 := C
    have hdd : 0 ≤ 0 := Nat.le_refl _
    refine tv_iload_n C (pc := 0) dX7_isUncommitted_0 rfl rfl ?_
    refine tv_iconst C (pc := 1) dX7_isUncommitted_1 (v := (-1 : Int32)) rfl ?_
    refine tv_icmp_eq C (pc := 2) 19 dX7_isUncommitted_2 (by decide) (fun hc => ?_) (fun hc => ?_)
    · have h := ts_ifp h hc
      refine tv_iconst C (pc := 19) dX7_isUncommitted_19 (v := (0 : Int32)) rfl ?_
      cases h
      exact tv_zret C (pc := 20) (v := (0 : Int32)) rfl ts_nz0 dX7_isUncommitted_20 ⟨Nat.le_of_ble_eq_true rfl, Nat.le_of_ble_eq_true rfl⟩
    · have h := ts_ifn h hc
      refine tv_aload_n C (pc := 5) dX7_isUncommitted_5 rfl rfl ?_
      refine tv_getR C (pc := 6) dX7_isUncommitted_6 fl_X7_21 (ts_live (k := 30) (by decide) (by decide) (by decide)) rfl rfl (i2 := (31, 0, 0)) rfl ?_
      refine tv_iload_n C (pc := 9) dX7_isUncommitted_9 rfl rfl ?_
      obtain ⟨hr1, h⟩ := ts_gd h
      refine tv_iaload C (pc := 10) dX7_isUncommitted_10 (ts_live (k := 31) (by decide) (by decide) (by decide)) rfl hr1 (j := p1.toNatClampNeg) rfl ?_
      refine tv_iconst C (pc := 11) dX7_isUncommitted_11 (v := (1 : Int32)) rfl ?_
      refine tv_icmp_gt C (pc := 12) 19 dX7_isUncommitted_12 (by decide) (fun hc => ?_) (fun hc => ?_)
      · have h := ts_ifp h hc
        refine tv_iconst C (pc := 19) dX7_isUncommitted_19 (v := (0 : Int32)) rfl ?_
        cases h
        exact tv_zret C (pc := 20) (v := (0 : Int32)) rfl ts_nz0 dX7_isUncommitted_20 ⟨Nat.le_of_ble_eq_true rfl, Nat.le_of_ble_eq_true rfl⟩
      · have h := ts_ifn h hc
        refine tv_iconst C (pc := 15) dX7_isUncommitted_15 (v := (1 : Int32)) rfl ?_
        refine tv_goto C (pc := 16) 20 dX7_isUncommitted_16 (by decide) ?_
        cases h
        exact tv_zret C (pc := 20) (v := (1 : Int32)) rfl ts_nz1 dX7_isUncommitted_20 ⟨Nat.le_of_ble_eq_true rfl, Nat.le_of_ble_eq_true rfl⟩
set_option maxRecDepth 100000 in
set_option maxHeartbeats 4000000 in
theorem lt_X7_reset_47 {D : va_G} {dT : Nat → ClassId} {sz : Nat} {p : Program} {l : Launch} {e : Env} {R : Room} {s : State} {m : MethodId} {args : Array Value} {below : List Frame} {meth : Method} {c : Code} {d : Nat} {ad : ts_I → Nat} {kk nn : Nat} {Q : State → Prop} (hl : l.stackTraces = false) (C : ts_CX D dT sz p l R s m args meth c RX7 cX7_reset 4 (some .int) d) (hdd : 3 ≤ d) (c1 : Int32) (c2 : Int32) (hkn : kk ≤ R.cells ∧ nn ≤ R.slots) : ∀ (n : Nat) (v3 : Int32) (u : ts_Mem) (q : (Int32 × ts_Mem)) (h : lp_X7_reset_47 c1 c2 n v3 u = some q) (K : ts_V D dT sz p l e R s m args below meth c 4 Q ad ts_lv ts_R0 66 [some (.inr (30, 0, 0)), some (.inl (.int c1)), some (.inl (.int c2)), some (.inl (.int q.1))] [] q.2 kk nn), ts_V D dT sz p l e R s m args below meth c 4 Q ad ts_lv ts_R0 47 [some (.inr (30, 0, 0)), some (.inl (.int c1)), some (.inl (.int c2)), some (.inl (.int v3))] [] u kk nn
  | 0, _, _, _, h, _ => by cases h
  | n + 1, v3, u, q, h, K => by
      rw [lp_X7_reset_47] at h
      refine tv_iload_n C (pc := 47) dX7_reset_47 rfl rfl ?_
      refine tv_bipush C (pc := 48) dX7_reset_48 (v := (9 : Int32)) rfl ?_
      refine tv_icmp_ge C (pc := 50) 66 dX7_reset_50 (by decide) (fun hc => ?_) (fun hc => ?_)
      · have h := ts_ifp h hc
        cases h
        exact K
      · have h := ts_ifn h hc
        refine tv_aload_n C (pc := 53) dX7_reset_53 rfl rfl ?_
        refine tv_getR C (pc := 54) dX7_reset_54 fl_X7_52 (ts_live (k := 30) (by decide) (by decide) (by decide)) rfl rfl (i2 := (41, 0, 0)) rfl ?_
        refine tv_iload_n C (pc := 57) dX7_reset_57 rfl rfl ?_
        refine tv_iconst C (pc := 58) dX7_reset_58 (v := (0 : Int32)) rfl ?_
        obtain ⟨hr8, h⟩ := ts_gd h
        refine tv_iastore C (pc := 59) dX7_reset_59 (ts_live (k := 41) (by decide) (by decide) (by decide)) rfl hr8 (j := v3.toNatClampNeg) rfl ?_
        refine tv_nu (fun u9 hu9 => ?_)
        have h := ts_lt h hu9
        refine tv_iinc C (pc := 60) dX7_reset_60 (v := (v3 + (1 : Int32))) (L' := [some (.inr (30, 0, 0)), some (.inl (.int c1)), some (.inl (.int c2)), some (.inl (.int (v3 + (1 : Int32))))]) rfl rfl (by decide) rfl rfl ?_
        refine tv_goto C (pc := 63) 47 dX7_reset_63 (by decide) ?_
        exact lt_X7_reset_47 hl C hdd c1 c2 hkn n (v3 + (1 : Int32)) u9 q h K
set_option maxRecDepth 100000 in
set_option maxHeartbeats 4000000 in
theorem m_X7_reset {l : Launch} {D : va_G} {dT : Nat → ClassId} {sz : Nat} {ad : ts_I → Nat} (hl : l.stackTraces = false) (p1 : Int32) (u : ts_Mem) (r : (Int32 × ts_Mem)) (h : f_X7_reset p1 u = some r) : ts_M l D dT sz yX7_reset wX7_reset 3 0 0 ad ts_lv ts_R0 [.inr (30, 0, 0), .inl (.int p1)] u (.inl (some (.int r.1))) r.2 := by
    unfold f_X7_reset at h
    refine ts_enter hl (by decide) rfl rfl (Nat.le_of_ble_eq_true rfl) ?_
    intro p e s m args below meth c C hX hnm
    have C : ts_CX D dT sz p l (ts_rm 3 0 0) s m args meth c RX7 cX7_reset 4 (some .int) 3 := C
    have hdd : 3 ≤ 3 := Nat.le_refl _
    refine tv_aload_n C (pc := 0) dX7_reset_0 rfl rfl ?_
    refine tv_iconst C (pc := 1) dX7_reset_1 (v := (0 : Int32)) rfl ?_
    refine tv_putI C (pc := 2) dX7_reset_2 fp_X7_3 (ts_live (k := 30) (by decide) (by decide) (by decide)) rfl (cd := 0) rfl (by decide) rfl rfl ?_
    refine tv_nu (fun u1 hu1 => ?_)
    have h := ts_lt h hu1
    refine tv_iload_n C (pc := 5) dX7_reset_5 rfl rfl ?_
    refine tv_iconst C (pc := 6) dX7_reset_6 (v := (0 : Int32)) rfl ?_
    refine tv_iconst C (pc := 7) dX7_reset_7 (v := (2 : Int32)) rfl ?_
    obtain ⟨q2, hq2, h⟩ := ts_bd h
    refine tv_callS C (pc := 8) dX7_reset_8 yl_X7_95 (m_X7_isIn (D := D) (dT := dT) (sz := sz) (ad := ad) hl p1 (0 : Int32) (2 : Int32) u1 q2 hq2) (Nat.le_trans (Nat.le_of_ble_eq_true rfl) hdd) (As := [.inl (.int p1), .inl (.int (0 : Int32)), .inl (.int (2 : Int32))]) rfl ⟨Nat.le_of_ble_eq_true rfl, Nat.le_of_ble_eq_true rfl⟩ (fun _ => Nat.le_of_ble_eq_true rfl) rfl ?_
    refine tv_if_ne C (pc := 11) 20 dX7_reset_11 (by decide) (fun hc => ?_) (fun hc => ?_)
    · have h := ts_ifn h hc
      refine tv_aload_n C (pc := 20) dX7_reset_20 rfl rfl ?_
      refine tv_getI C (pc := 21) dX7_reset_21 fl_X7_15 (ts_live (k := 30) (by decide) (by decide) (by decide)) rfl (cd := 0) rfl (by decide) ?_
      refine tv_nmI (fun x3 hx3 => ?_)
      have h := ts_lt h hx3
      refine tv_istore_n C (pc := 24) dX7_reset_24 (L' := [some (.inr (30, 0, 0)), some (.inl (.int p1)), some (.inl (.int x3)), none]) rfl (by decide) rfl rfl ?_
      refine tv_aload_n C (pc := 25) dX7_reset_25 rfl rfl ?_
      refine tv_iload_n C (pc := 26) dX7_reset_26 rfl rfl ?_
      refine tv_putI C (pc := 27) dX7_reset_27 fp_X7_15 (ts_live (k := 30) (by decide) (by decide) (by decide)) rfl (cd := 0) rfl (by decide) rfl rfl ?_
      refine tv_nu (fun u4 hu4 => ?_)
      have h := ts_lt h hu4
      refine tv_aload_n C (pc := 30) dX7_reset_30 rfl rfl ?_
      refine tv_iconst C (pc := 31) dX7_reset_31 (v := (0 : Int32)) rfl ?_
      refine tv_putI C (pc := 32) dX7_reset_32 fp_X7_103 (ts_live (k := 30) (by decide) (by decide) (by decide)) rfl (cd := 0) rfl (by decide) rfl rfl ?_
      refine tv_nu (fun u5 hu5 => ?_)
      have h := ts_lt h hu5
      refine tv_aload_n C (pc := 35) dX7_reset_35 rfl rfl ?_
      refine tv_iconst C (pc := 36) dX7_reset_36 (v := (1 : Int32)) rfl ?_
      refine tv_putI C (pc := 37) dX7_reset_37 fp_X7_18 (ts_live (k := 30) (by decide) (by decide) (by decide)) rfl (cd := 0) rfl (by decide) rfl rfl ?_
      refine tv_nu (fun u6 hu6 => ?_)
      have h := ts_lt h hu6
      refine tv_aload_n C (pc := 40) dX7_reset_40 rfl rfl ?_
      refine tv_iconst C (pc := 41) dX7_reset_41 (v := (0 : Int32)) rfl ?_
      refine tv_putI C (pc := 42) dX7_reset_42 fp_X7_106 (ts_live (k := 30) (by decide) (by decide) (by decide)) rfl (cd := 0) rfl (by decide) rfl rfl ?_
      refine tv_nu (fun u7 hu7 => ?_)
      have h := ts_lt h hu7
      refine tv_iconst C (pc := 45) dX7_reset_45 (v := (0 : Int32)) rfl ?_
      refine tv_istore_n C (pc := 46) dX7_reset_46 (L' := [some (.inr (30, 0, 0)), some (.inl (.int p1)), some (.inl (.int x3)), some (.inl (.int (0 : Int32)))]) rfl (by decide) rfl rfl ?_
      obtain ⟨q10, hq10, h⟩ := ts_bd h
      refine lt_X7_reset_47 hl C hdd p1 x3 ⟨Nat.le_of_ble_eq_true rfl, Nat.le_of_ble_eq_true rfl⟩ ts_fu (0 : Int32) u7 q10 hq10 ?_
      refine tv_aload_n C (pc := 66) dX7_reset_66 rfl rfl ?_
      obtain ⟨q11, hq11, h⟩ := ts_bd h
      refine tv_callV C (pc := 67) dX7_reset_67 (ci := 7) (q := (RX7, TX7, 37)) rfl yl_X7_84 (m_X7_clearItems (D := D) (dT := dT) (sz := sz) (ad := ad) hl  q10.2 q11 hq11) (ts_live (k := 30) (by decide) (by decide) (by decide)) rfl (Nat.le_trans (Nat.le_of_ble_eq_true rfl) hdd) (As := []) rfl ⟨Nat.le_of_ble_eq_true rfl, Nat.le_of_ble_eq_true rfl⟩ (fun _ => Nat.le_of_ble_eq_true rfl) rfl ?_
      refine tv_iload_n C (pc := 70) dX7_reset_70 rfl rfl ?_
      cases h
      exact tv_iret C (pc := 71) rfl dX7_reset_71 ⟨Nat.le_of_ble_eq_true rfl, Nat.le_of_ble_eq_true rfl⟩
    · have h := ts_ifp h hc
      refine tv_aload_n C (pc := 14) dX7_reset_14 rfl rfl ?_
      refine tv_iconst C (pc := 15) dX7_reset_15 (v := (1 : Int32)) rfl ?_
      obtain ⟨q12, hq12, h⟩ := ts_bd h
      refine tv_callV C (pc := 16) dX7_reset_16 (ci := 7) (q := (RX7, TX7, 37)) rfl yl_X7_99 (m_X7_fail (D := D) (dT := dT) (sz := sz) (ad := ad) hl (1 : Int32) u1 q12 hq12) (ts_live (k := 30) (by decide) (by decide) (by decide)) rfl (Nat.le_trans (Nat.le_of_ble_eq_true rfl) hdd) (As := [.inl (.int (1 : Int32))]) rfl ⟨Nat.le_of_ble_eq_true rfl, Nat.le_of_ble_eq_true rfl⟩ (fun _ => Nat.le_of_ble_eq_true rfl) rfl ?_
      cases h
      exact tv_iret C (pc := 19) rfl dX7_reset_19 ⟨Nat.le_of_ble_eq_true rfl, Nat.le_of_ble_eq_true rfl⟩
set_option maxRecDepth 100000 in
set_option maxHeartbeats 4000000 in
theorem lt_X7_record_22 {D : va_G} {dT : Nat → ClassId} {sz : Nat} {p : Program} {l : Launch} {e : Env} {R : Room} {s : State} {m : MethodId} {args : Array Value} {below : List Frame} {meth : Method} {c : Code} {d : Nat} {ad : ts_I → Nat} {kk nn : Nat} {Q : State → Prop} (hl : l.stackTraces = false) (C : ts_CX D dT sz p l R s m args meth c RX7 cX7_record 5 none d) (hdd : 0 ≤ d) (c1 : Int32) (c2 : Int32) (c3 : Int32) (hkn : kk ≤ R.cells ∧ nn ≤ R.slots) : ∀ (n : Nat) (v4 : Int32) (u : ts_Mem) (q : (Int32 × ts_Mem)) (h : lp_X7_record_22 c1 c2 c3 n v4 u = some q) (K : ts_V D dT sz p l e R s m args below meth c 5 Q ad ts_lv ts_R0 52 [some (.inr (30, 0, 0)), some (.inl (.int c1)), some (.inl (.int c2)), some (.inl (.int c3)), some (.inl (.int q.1))] [] q.2 kk nn), ts_V D dT sz p l e R s m args below meth c 5 Q ad ts_lv ts_R0 22 [some (.inr (30, 0, 0)), some (.inl (.int c1)), some (.inl (.int c2)), some (.inl (.int c3)), some (.inl (.int v4))] [] u kk nn
  | 0, _, _, _, h, _ => by cases h
  | n + 1, v4, u, q, h, K => by
      rw [lp_X7_record_22] at h
      refine tv_iload C (pc := 22) dX7_record_22 rfl ?_
      refine tv_sipush C (pc := 24) dX7_record_24 (v := (147 : Int32)) rfl ?_
      refine tv_icmp_ge C (pc := 27) 52 dX7_record_27 (by decide) (fun hc => ?_) (fun hc => ?_)
      · have h := ts_ifp h hc
        cases h
        exact K
      · have h := ts_ifn h hc
        refine tv_aload_n C (pc := 30) dX7_record_30 rfl rfl ?_
        refine tv_getR C (pc := 31) dX7_record_31 fl_X7_49 (ts_live (k := 30) (by decide) (by decide) (by decide)) rfl rfl (i2 := (40, 0, 0)) rfl ?_
        refine tv_iload C (pc := 34) dX7_record_34 rfl ?_
        refine tv_aload_n C (pc := 36) dX7_record_36 rfl rfl ?_
        refine tv_getR C (pc := 37) dX7_record_37 fl_X7_49 (ts_live (k := 30) (by decide) (by decide) (by decide)) rfl rfl (i2 := (40, 0, 0)) rfl ?_
        refine tv_iload C (pc := 40) dX7_record_40 rfl ?_
        refine tv_iconst C (pc := 42) dX7_record_42 (v := (3 : Int32)) rfl ?_
        refine tv_iadd C (pc := 43) dX7_record_43 ?_
        obtain ⟨hr11, h⟩ := ts_gd h
        refine tv_iaload C (pc := 44) dX7_record_44 (ts_live (k := 40) (by decide) (by decide) (by decide)) rfl hr11 (j := ((v4 + (3 : Int32))).toNatClampNeg) rfl ?_
        obtain ⟨hr12, h⟩ := ts_gd h
        refine tv_iastore C (pc := 45) dX7_record_45 (ts_live (k := 40) (by decide) (by decide) (by decide)) rfl hr12 (j := v4.toNatClampNeg) rfl ?_
        refine tv_nu (fun u13 hu13 => ?_)
        have h := ts_lt h hu13
        refine tv_iinc C (pc := 46) dX7_record_46 (v := (v4 + (1 : Int32))) (L' := [some (.inr (30, 0, 0)), some (.inl (.int c1)), some (.inl (.int c2)), some (.inl (.int c3)), some (.inl (.int (v4 + (1 : Int32))))]) rfl rfl (by decide) rfl rfl ?_
        refine tv_goto C (pc := 49) 22 dX7_record_49 (by decide) ?_
        exact lt_X7_record_22 hl C hdd c1 c2 c3 hkn n (v4 + (1 : Int32)) u13 q h K
set_option maxRecDepth 100000 in
set_option maxHeartbeats 4000000 in
theorem m_X7_record {l : Launch} {D : va_G} {dT : Nat → ClassId} {sz : Nat} {ad : ts_I → Nat} (hl : l.stackTraces = false) (p1 : Int32) (p2 : Int32) (p3 : Int32) (u : ts_Mem) (r : ts_Mem) (h : f_X7_record p1 p2 p3 u = some r) : ts_M l D dT sz yX7_record wX7_record 0 0 0 ad ts_lv ts_R0 [.inr (30, 0, 0), .inl (.int p1), .inl (.int p2), .inl (.int p3)] u (.inl none) r := by
    unfold f_X7_record at h
    refine ts_enter hl (by decide) rfl rfl (Nat.le_of_ble_eq_true rfl) ?_
    intro p e s m args below meth c C hX hnm
    have C : ts_CX D dT sz p l (ts_rm 0 0 0) s m args meth c RX7 cX7_record 5 none 0 := C
    have hdd : 0 ≤ 0 := Nat.le_refl _
    refine tv_aload_n C (pc := 0) dX7_record_0 rfl rfl ?_
    refine tv_getR C (pc := 1) dX7_record_1 fl_X7_52 (ts_live (k := 30) (by decide) (by decide) (by decide)) rfl rfl (i2 := (41, 0, 0)) rfl ?_
    refine tv_iload_n C (pc := 4) dX7_record_4 rfl rfl ?_
    refine tv_dup2 C (pc := 5) dX7_record_5 (fun _ => ⟨rfl, rfl⟩) ?_
    obtain ⟨hr1, h⟩ := ts_gd h
    refine tv_iaload C (pc := 6) dX7_record_6 (ts_live (k := 41) (by decide) (by decide) (by decide)) rfl hr1 (j := p1.toNatClampNeg) rfl ?_
    refine tv_iconst C (pc := 7) dX7_record_7 (v := (1 : Int32)) rfl ?_
    refine tv_iadd C (pc := 8) dX7_record_8 ?_
    obtain ⟨hr2, h⟩ := ts_gd h
    refine tv_iastore C (pc := 9) dX7_record_9 (ts_live (k := 41) (by decide) (by decide) (by decide)) rfl hr2 (j := p1.toNatClampNeg) rfl ?_
    refine tv_nu (fun u3 hu3 => ?_)
    have h := ts_lt h hu3
    refine tv_aload_n C (pc := 10) dX7_record_10 rfl rfl ?_
    refine tv_getI C (pc := 11) dX7_record_11 fl_X7_106 (ts_live (k := 30) (by decide) (by decide) (by decide)) rfl (cd := 0) rfl (by decide) ?_
    refine tv_bipush C (pc := 14) dX7_record_14 (v := (50 : Int32)) rfl ?_
    refine tv_icmp_ne C (pc := 16) 62 dX7_record_16 (by decide) (fun hc => ?_) (fun hc => ?_)
    · have h := ts_ifn h hc
      refine tv_aload_n C (pc := 62) dX7_record_62 rfl rfl ?_
      refine tv_getR C (pc := 63) dX7_record_63 fl_X7_49 (ts_live (k := 30) (by decide) (by decide) (by decide)) rfl rfl (i2 := (40, 0, 0)) rfl ?_
      refine tv_iconst C (pc := 66) dX7_record_66 (v := (3 : Int32)) rfl ?_
      refine tv_aload_n C (pc := 67) dX7_record_67 rfl rfl ?_
      refine tv_getI C (pc := 68) dX7_record_68 fl_X7_106 (ts_live (k := 30) (by decide) (by decide) (by decide)) rfl (cd := 0) rfl (by decide) ?_
      refine tv_imul C (pc := 71) dX7_record_71 ?_
      refine tv_iload_n C (pc := 72) dX7_record_72 rfl rfl ?_
      obtain ⟨hr4, h⟩ := ts_gd h
      refine tv_iastore C (pc := 73) dX7_record_73 (ts_live (k := 40) (by decide) (by decide) (by decide)) rfl hr4 (j := (((3 : Int32) * (ts_gI u3 (30, 0, 0) 14))).toNatClampNeg) rfl ?_
      refine tv_nu (fun u5 hu5 => ?_)
      have h := ts_lt h hu5
      refine tv_aload_n C (pc := 74) dX7_record_74 rfl rfl ?_
      refine tv_getR C (pc := 75) dX7_record_75 fl_X7_49 (ts_live (k := 30) (by decide) (by decide) (by decide)) rfl rfl (i2 := (40, 0, 0)) rfl ?_
      refine tv_iconst C (pc := 78) dX7_record_78 (v := (3 : Int32)) rfl ?_
      refine tv_aload_n C (pc := 79) dX7_record_79 rfl rfl ?_
      refine tv_getI C (pc := 80) dX7_record_80 fl_X7_106 (ts_live (k := 30) (by decide) (by decide) (by decide)) rfl (cd := 0) rfl (by decide) ?_
      refine tv_imul C (pc := 83) dX7_record_83 ?_
      refine tv_iconst C (pc := 84) dX7_record_84 (v := (1 : Int32)) rfl ?_
      refine tv_iadd C (pc := 85) dX7_record_85 ?_
      refine tv_iload_n C (pc := 86) dX7_record_86 rfl rfl ?_
      obtain ⟨hr6, h⟩ := ts_gd h
      refine tv_iastore C (pc := 87) dX7_record_87 (ts_live (k := 40) (by decide) (by decide) (by decide)) rfl hr6 (j := ((((3 : Int32) * (ts_gI u5 (30, 0, 0) 14)) + (1 : Int32))).toNatClampNeg) rfl ?_
      refine tv_nu (fun u7 hu7 => ?_)
      have h := ts_lt h hu7
      refine tv_aload_n C (pc := 88) dX7_record_88 rfl rfl ?_
      refine tv_getR C (pc := 89) dX7_record_89 fl_X7_49 (ts_live (k := 30) (by decide) (by decide) (by decide)) rfl rfl (i2 := (40, 0, 0)) rfl ?_
      refine tv_iconst C (pc := 92) dX7_record_92 (v := (3 : Int32)) rfl ?_
      refine tv_aload_n C (pc := 93) dX7_record_93 rfl rfl ?_
      refine tv_getI C (pc := 94) dX7_record_94 fl_X7_106 (ts_live (k := 30) (by decide) (by decide) (by decide)) rfl (cd := 0) rfl (by decide) ?_
      refine tv_imul C (pc := 97) dX7_record_97 ?_
      refine tv_iconst C (pc := 98) dX7_record_98 (v := (2 : Int32)) rfl ?_
      refine tv_iadd C (pc := 99) dX7_record_99 ?_
      refine tv_iload_n C (pc := 100) dX7_record_100 rfl rfl ?_
      obtain ⟨hr8, h⟩ := ts_gd h
      refine tv_iastore C (pc := 101) dX7_record_101 (ts_live (k := 40) (by decide) (by decide) (by decide)) rfl hr8 (j := ((((3 : Int32) * (ts_gI u7 (30, 0, 0) 14)) + (2 : Int32))).toNatClampNeg) rfl ?_
      refine tv_nu (fun u9 hu9 => ?_)
      have h := ts_lt h hu9
      refine tv_aload_n C (pc := 102) dX7_record_102 rfl rfl ?_
      refine tv_dup C (pc := 103) dX7_record_103 (fun _ => rfl) ?_
      refine tv_getI C (pc := 104) dX7_record_104 fl_X7_106 (ts_live (k := 30) (by decide) (by decide) (by decide)) rfl (cd := 0) rfl (by decide) ?_
      refine tv_iconst C (pc := 107) dX7_record_107 (v := (1 : Int32)) rfl ?_
      refine tv_iadd C (pc := 108) dX7_record_108 ?_
      refine tv_putI C (pc := 109) dX7_record_109 fp_X7_106 (ts_live (k := 30) (by decide) (by decide) (by decide)) rfl (cd := 0) rfl (by decide) rfl rfl ?_
      refine tv_nu (fun u10 hu10 => ?_)
      have h := ts_lt h hu10
      cases h
      exact tv_vret C (pc := 112) rfl dX7_record_112 ⟨Nat.le_of_ble_eq_true rfl, Nat.le_of_ble_eq_true rfl⟩
    · have h := ts_ifp h hc
      refine tv_iconst C (pc := 19) dX7_record_19 (v := (0 : Int32)) rfl ?_
      refine tv_istore C (pc := 20) dX7_record_20 (L' := [some (.inr (30, 0, 0)), some (.inl (.int p1)), some (.inl (.int p2)), some (.inl (.int p3)), some (.inl (.int (0 : Int32)))]) (by decide) rfl rfl ?_
      obtain ⟨q14, hq14, h⟩ := ts_bd h
      refine lt_X7_record_22 hl C hdd p1 p2 p3 ⟨Nat.le_of_ble_eq_true rfl, Nat.le_of_ble_eq_true rfl⟩ ts_fu (0 : Int32) u3 q14 hq14 ?_
      refine tv_aload_n C (pc := 52) dX7_record_52 rfl rfl ?_
      refine tv_dup C (pc := 53) dX7_record_53 (fun _ => rfl) ?_
      refine tv_getI C (pc := 54) dX7_record_54 fl_X7_106 (ts_live (k := 30) (by decide) (by decide) (by decide)) rfl (cd := 0) rfl (by decide) ?_
      refine tv_iconst C (pc := 57) dX7_record_57 (v := (1 : Int32)) rfl ?_
      refine tv_isub C (pc := 58) dX7_record_58 ?_
      refine tv_putI C (pc := 59) dX7_record_59 fp_X7_106 (ts_live (k := 30) (by decide) (by decide) (by decide)) rfl (cd := 0) rfl (by decide) rfl rfl ?_
      refine tv_nu (fun u15 hu15 => ?_)
      have h := ts_lt h hu15
      refine tv_aload_n C (pc := 62) dX7_record_62 rfl rfl ?_
      refine tv_getR C (pc := 63) dX7_record_63 fl_X7_49 (ts_live (k := 30) (by decide) (by decide) (by decide)) rfl rfl (i2 := (40, 0, 0)) rfl ?_
      refine tv_iconst C (pc := 66) dX7_record_66 (v := (3 : Int32)) rfl ?_
      refine tv_aload_n C (pc := 67) dX7_record_67 rfl rfl ?_
      refine tv_getI C (pc := 68) dX7_record_68 fl_X7_106 (ts_live (k := 30) (by decide) (by decide) (by decide)) rfl (cd := 0) rfl (by decide) ?_
      refine tv_imul C (pc := 71) dX7_record_71 ?_
      refine tv_iload_n C (pc := 72) dX7_record_72 rfl rfl ?_
      obtain ⟨hr16, h⟩ := ts_gd h
      refine tv_iastore C (pc := 73) dX7_record_73 (ts_live (k := 40) (by decide) (by decide) (by decide)) rfl hr16 (j := (((3 : Int32) * (ts_gI u15 (30, 0, 0) 14))).toNatClampNeg) rfl ?_
      refine tv_nu (fun u17 hu17 => ?_)
      have h := ts_lt h hu17
      refine tv_aload_n C (pc := 74) dX7_record_74 rfl rfl ?_
      refine tv_getR C (pc := 75) dX7_record_75 fl_X7_49 (ts_live (k := 30) (by decide) (by decide) (by decide)) rfl rfl (i2 := (40, 0, 0)) rfl ?_
      refine tv_iconst C (pc := 78) dX7_record_78 (v := (3 : Int32)) rfl ?_
      refine tv_aload_n C (pc := 79) dX7_record_79 rfl rfl ?_
      refine tv_getI C (pc := 80) dX7_record_80 fl_X7_106 (ts_live (k := 30) (by decide) (by decide) (by decide)) rfl (cd := 0) rfl (by decide) ?_
      refine tv_imul C (pc := 83) dX7_record_83 ?_
      refine tv_iconst C (pc := 84) dX7_record_84 (v := (1 : Int32)) rfl ?_
      refine tv_iadd C (pc := 85) dX7_record_85 ?_
      refine tv_iload_n C (pc := 86) dX7_record_86 rfl rfl ?_
      obtain ⟨hr18, h⟩ := ts_gd h
      refine tv_iastore C (pc := 87) dX7_record_87 (ts_live (k := 40) (by decide) (by decide) (by decide)) rfl hr18 (j := ((((3 : Int32) * (ts_gI u17 (30, 0, 0) 14)) + (1 : Int32))).toNatClampNeg) rfl ?_
      refine tv_nu (fun u19 hu19 => ?_)
      have h := ts_lt h hu19
      refine tv_aload_n C (pc := 88) dX7_record_88 rfl rfl ?_
      refine tv_getR C (pc := 89) dX7_record_89 fl_X7_49 (ts_live (k := 30) (by decide) (by decide) (by decide)) rfl rfl (i2 := (40, 0, 0)) rfl ?_
      refine tv_iconst C (pc := 92) dX7_record_92 (v := (3 : Int32)) rfl ?_
      refine tv_aload_n C (pc := 93) dX7_record_93 rfl rfl ?_
      refine tv_getI C (pc := 94) dX7_record_94 fl_X7_106 (ts_live (k := 30) (by decide) (by decide) (by decide)) rfl (cd := 0) rfl (by decide) ?_
      refine tv_imul C (pc := 97) dX7_record_97 ?_
      refine tv_iconst C (pc := 98) dX7_record_98 (v := (2 : Int32)) rfl ?_
      refine tv_iadd C (pc := 99) dX7_record_99 ?_
      refine tv_iload_n C (pc := 100) dX7_record_100 rfl rfl ?_
      obtain ⟨hr20, h⟩ := ts_gd h
      refine tv_iastore C (pc := 101) dX7_record_101 (ts_live (k := 40) (by decide) (by decide) (by decide)) rfl hr20 (j := ((((3 : Int32) * (ts_gI u19 (30, 0, 0) 14)) + (2 : Int32))).toNatClampNeg) rfl ?_
      refine tv_nu (fun u21 hu21 => ?_)
      have h := ts_lt h hu21
      refine tv_aload_n C (pc := 102) dX7_record_102 rfl rfl ?_
      refine tv_dup C (pc := 103) dX7_record_103 (fun _ => rfl) ?_
      refine tv_getI C (pc := 104) dX7_record_104 fl_X7_106 (ts_live (k := 30) (by decide) (by decide) (by decide)) rfl (cd := 0) rfl (by decide) ?_
      refine tv_iconst C (pc := 107) dX7_record_107 (v := (1 : Int32)) rfl ?_
      refine tv_iadd C (pc := 108) dX7_record_108 ?_
      refine tv_putI C (pc := 109) dX7_record_109 fp_X7_106 (ts_live (k := 30) (by decide) (by decide) (by decide)) rfl (cd := 0) rfl (by decide) rfl rfl ?_
      refine tv_nu (fun u22 hu22 => ?_)
      have h := ts_lt h hu22
      cases h
      exact tv_vret C (pc := 112) rfl dX7_record_112 ⟨Nat.le_of_ble_eq_true rfl, Nat.le_of_ble_eq_true rfl⟩
set_option maxRecDepth 100000 in
set_option maxHeartbeats 4000000 in
theorem m_X7_eventCount {l : Launch} {D : va_G} {dT : Nat → ClassId} {sz : Nat} {ad : ts_I → Nat} (hl : l.stackTraces = false)  (u : ts_Mem) (r : (Int32 × ts_Mem)) (h : f_X7_eventCount  u = some r) : ts_M l D dT sz yX7_eventCount wX7_eventCount 0 0 0 ad ts_lv ts_R0 [.inr (30, 0, 0)] u (.inl (some (.int r.1))) r.2 := by
    unfold f_X7_eventCount at h
    refine ts_enter hl (by decide) rfl rfl (Nat.le_of_ble_eq_true rfl) ?_
    intro p e s m args below meth c C hX hnm
    have C : ts_CX D dT sz p l (ts_rm 0 0 0) s m args meth c RX7 cX7_eventCount 1 (some .int) 0 := C
    have hdd : 0 ≤ 0 := Nat.le_refl _
    refine tv_aload_n C (pc := 0) dX7_eventCount_0 rfl rfl ?_
    refine tv_iconst C (pc := 1) dX7_eventCount_1 (v := (0 : Int32)) rfl ?_
    refine tv_putI C (pc := 2) dX7_eventCount_2 fp_X7_3 (ts_live (k := 30) (by decide) (by decide) (by decide)) rfl (cd := 0) rfl (by decide) rfl rfl ?_
    refine tv_nu (fun u1 hu1 => ?_)
    have h := ts_lt h hu1
    refine tv_aload_n C (pc := 5) dX7_eventCount_5 rfl rfl ?_
    refine tv_getI C (pc := 6) dX7_eventCount_6 fl_X7_106 (ts_live (k := 30) (by decide) (by decide) (by decide)) rfl (cd := 0) rfl (by decide) ?_
    cases h
    exact tv_iret C (pc := 9) rfl dX7_eventCount_9 ⟨Nat.le_of_ble_eq_true rfl, Nat.le_of_ble_eq_true rfl⟩
set_option maxRecDepth 100000 in
set_option maxHeartbeats 4000000 in
theorem m_X7_event {l : Launch} {D : va_G} {dT : Nat → ClassId} {sz : Nat} {ad : ts_I → Nat} (hl : l.stackTraces = false) (p1 : Int32) (p2 : Int32) (u : ts_Mem) (r : (Int32 × ts_Mem)) (h : f_X7_event p1 p2 u = some r) : ts_M l D dT sz yX7_event wX7_event 1 0 0 ad ts_lv ts_R0 [.inr (30, 0, 0), .inl (.int p1), .inl (.int p2)] u (.inl (some (.int r.1))) r.2 := by
    unfold f_X7_event at h
    refine ts_enter hl (by decide) rfl rfl (Nat.le_of_ble_eq_true rfl) ?_
    intro p e s m args below meth c C hX hnm
    have C : ts_CX D dT sz p l (ts_rm 1 0 0) s m args meth c RX7 cX7_event 3 (some .int) 1 := C
    have hdd : 1 ≤ 1 := Nat.le_refl _
    refine tv_aload_n C (pc := 0) dX7_event_0 rfl rfl ?_
    refine tv_iconst C (pc := 1) dX7_event_1 (v := (0 : Int32)) rfl ?_
    refine tv_putI C (pc := 2) dX7_event_2 fp_X7_3 (ts_live (k := 30) (by decide) (by decide) (by decide)) rfl (cd := 0) rfl (by decide) rfl rfl ?_
    refine tv_nu (fun u1 hu1 => ?_)
    have h := ts_lt h hu1
    refine tv_iload_n C (pc := 5) dX7_event_5 rfl rfl ?_
    refine tv_iconst C (pc := 6) dX7_event_6 (v := (0 : Int32)) rfl ?_
    refine tv_aload_n C (pc := 7) dX7_event_7 rfl rfl ?_
    refine tv_getI C (pc := 8) dX7_event_8 fl_X7_106 (ts_live (k := 30) (by decide) (by decide) (by decide)) rfl (cd := 0) rfl (by decide) ?_
    refine tv_iconst C (pc := 11) dX7_event_11 (v := (1 : Int32)) rfl ?_
    refine tv_isub C (pc := 12) dX7_event_12 ?_
    obtain ⟨q2, hq2, h⟩ := ts_bd h
    refine tv_callS C (pc := 13) dX7_event_13 yl_X7_95 (m_X7_isIn (D := D) (dT := dT) (sz := sz) (ad := ad) hl p1 (0 : Int32) ((ts_gI u1 (30, 0, 0) 14) - (1 : Int32)) u1 q2 hq2) (Nat.le_trans (Nat.le_of_ble_eq_true rfl) hdd) (As := [.inl (.int p1), .inl (.int (0 : Int32)), .inl (.int ((ts_gI u1 (30, 0, 0) 14) - (1 : Int32)))]) rfl ⟨Nat.le_of_ble_eq_true rfl, Nat.le_of_ble_eq_true rfl⟩ (fun _ => Nat.le_of_ble_eq_true rfl) rfl ?_
    refine tv_if_eq C (pc := 16) 41 dX7_event_16 (by decide) (fun hc => ?_) (fun hc => ?_)
    · have h := ts_ifp h hc
      refine tv_aload_n C (pc := 41) dX7_event_41 rfl rfl ?_
      refine tv_iconst C (pc := 42) dX7_event_42 (v := (1 : Int32)) rfl ?_
      obtain ⟨q3, hq3, h⟩ := ts_bd h
      refine tv_callV C (pc := 43) dX7_event_43 (ci := 7) (q := (RX7, TX7, 37)) rfl yl_X7_99 (m_X7_fail (D := D) (dT := dT) (sz := sz) (ad := ad) hl (1 : Int32) u1 q3 hq3) (ts_live (k := 30) (by decide) (by decide) (by decide)) rfl (Nat.le_trans (Nat.le_of_ble_eq_true rfl) hdd) (As := [.inl (.int (1 : Int32))]) rfl ⟨Nat.le_of_ble_eq_true rfl, Nat.le_of_ble_eq_true rfl⟩ (fun _ => Nat.le_of_ble_eq_true rfl) rfl ?_
      cases h
      exact tv_iret C (pc := 46) rfl dX7_event_46 ⟨Nat.le_of_ble_eq_true rfl, Nat.le_of_ble_eq_true rfl⟩
    · have h := ts_ifn h hc
      refine tv_iload_n C (pc := 19) dX7_event_19 rfl rfl ?_
      refine tv_iconst C (pc := 20) dX7_event_20 (v := (0 : Int32)) rfl ?_
      refine tv_iconst C (pc := 21) dX7_event_21 (v := (2 : Int32)) rfl ?_
      obtain ⟨q4, hq4, h⟩ := ts_bd h
      refine tv_callS C (pc := 22) dX7_event_22 yl_X7_95 (m_X7_isIn (D := D) (dT := dT) (sz := sz) (ad := ad) hl p2 (0 : Int32) (2 : Int32) u1 q4 hq4) (Nat.le_trans (Nat.le_of_ble_eq_true rfl) hdd) (As := [.inl (.int p2), .inl (.int (0 : Int32)), .inl (.int (2 : Int32))]) rfl ⟨Nat.le_of_ble_eq_true rfl, Nat.le_of_ble_eq_true rfl⟩ (fun _ => Nat.le_of_ble_eq_true rfl) rfl ?_
      refine tv_if_eq C (pc := 25) 41 dX7_event_25 (by decide) (fun hc => ?_) (fun hc => ?_)
      · have h := ts_ifp h hc
        refine tv_aload_n C (pc := 41) dX7_event_41 rfl rfl ?_
        refine tv_iconst C (pc := 42) dX7_event_42 (v := (1 : Int32)) rfl ?_
        obtain ⟨q5, hq5, h⟩ := ts_bd h
        refine tv_callV C (pc := 43) dX7_event_43 (ci := 7) (q := (RX7, TX7, 37)) rfl yl_X7_99 (m_X7_fail (D := D) (dT := dT) (sz := sz) (ad := ad) hl (1 : Int32) u1 q5 hq5) (ts_live (k := 30) (by decide) (by decide) (by decide)) rfl (Nat.le_trans (Nat.le_of_ble_eq_true rfl) hdd) (As := [.inl (.int (1 : Int32))]) rfl ⟨Nat.le_of_ble_eq_true rfl, Nat.le_of_ble_eq_true rfl⟩ (fun _ => Nat.le_of_ble_eq_true rfl) rfl ?_
        cases h
        exact tv_iret C (pc := 46) rfl dX7_event_46 ⟨Nat.le_of_ble_eq_true rfl, Nat.le_of_ble_eq_true rfl⟩
      · have h := ts_ifn h hc
        refine tv_aload_n C (pc := 28) dX7_event_28 rfl rfl ?_
        refine tv_getR C (pc := 29) dX7_event_29 fl_X7_49 (ts_live (k := 30) (by decide) (by decide) (by decide)) rfl rfl (i2 := (40, 0, 0)) rfl ?_
        refine tv_iconst C (pc := 32) dX7_event_32 (v := (3 : Int32)) rfl ?_
        refine tv_iload_n C (pc := 33) dX7_event_33 rfl rfl ?_
        refine tv_imul C (pc := 34) dX7_event_34 ?_
        refine tv_iload_n C (pc := 35) dX7_event_35 rfl rfl ?_
        refine tv_iadd C (pc := 36) dX7_event_36 ?_
        obtain ⟨hr6, h⟩ := ts_gd h
        refine tv_iaload C (pc := 37) dX7_event_37 (ts_live (k := 40) (by decide) (by decide) (by decide)) rfl hr6 (j := ((((3 : Int32) * p1) + p2)).toNatClampNeg) rfl ?_
        refine tv_goto C (pc := 38) 46 dX7_event_38 (by decide) ?_
        cases h
        exact tv_iret C (pc := 46) rfl dX7_event_46 ⟨Nat.le_of_ble_eq_true rfl, Nat.le_of_ble_eq_true rfl⟩
set_option maxRecDepth 100000 in
set_option maxHeartbeats 4000000 in
theorem m_X7_total {l : Launch} {D : va_G} {dT : Nat → ClassId} {sz : Nat} {ad : ts_I → Nat} (hl : l.stackTraces = false) (p1 : Int32) (u : ts_Mem) (r : (Int32 × ts_Mem)) (h : f_X7_total p1 u = some r) : ts_M l D dT sz yX7_total wX7_total 1 0 0 ad ts_lv ts_R0 [.inr (30, 0, 0), .inl (.int p1)] u (.inl (some (.int r.1))) r.2 := by
    unfold f_X7_total at h
    refine ts_enter hl (by decide) rfl rfl (Nat.le_of_ble_eq_true rfl) ?_
    intro p e s m args below meth c C hX hnm
    have C : ts_CX D dT sz p l (ts_rm 1 0 0) s m args meth c RX7 cX7_total 2 (some .int) 1 := C
    have hdd : 1 ≤ 1 := Nat.le_refl _
    refine tv_aload_n C (pc := 0) dX7_total_0 rfl rfl ?_
    refine tv_iconst C (pc := 1) dX7_total_1 (v := (0 : Int32)) rfl ?_
    refine tv_putI C (pc := 2) dX7_total_2 fp_X7_3 (ts_live (k := 30) (by decide) (by decide) (by decide)) rfl (cd := 0) rfl (by decide) rfl rfl ?_
    refine tv_nu (fun u1 hu1 => ?_)
    have h := ts_lt h hu1
    refine tv_iload_n C (pc := 5) dX7_total_5 rfl rfl ?_
    refine tv_iconst C (pc := 6) dX7_total_6 (v := (0 : Int32)) rfl ?_
    refine tv_bipush C (pc := 7) dX7_total_7 (v := (8 : Int32)) rfl ?_
    obtain ⟨q2, hq2, h⟩ := ts_bd h
    refine tv_callS C (pc := 9) dX7_total_9 yl_X7_95 (m_X7_isIn (D := D) (dT := dT) (sz := sz) (ad := ad) hl p1 (0 : Int32) (8 : Int32) u1 q2 hq2) (Nat.le_trans (Nat.le_of_ble_eq_true rfl) hdd) (As := [.inl (.int p1), .inl (.int (0 : Int32)), .inl (.int (8 : Int32))]) rfl ⟨Nat.le_of_ble_eq_true rfl, Nat.le_of_ble_eq_true rfl⟩ (fun _ => Nat.le_of_ble_eq_true rfl) rfl ?_
    refine tv_if_eq C (pc := 12) 24 dX7_total_12 (by decide) (fun hc => ?_) (fun hc => ?_)
    · have h := ts_ifp h hc
      refine tv_aload_n C (pc := 24) dX7_total_24 rfl rfl ?_
      refine tv_iconst C (pc := 25) dX7_total_25 (v := (1 : Int32)) rfl ?_
      obtain ⟨q3, hq3, h⟩ := ts_bd h
      refine tv_callV C (pc := 26) dX7_total_26 (ci := 7) (q := (RX7, TX7, 37)) rfl yl_X7_99 (m_X7_fail (D := D) (dT := dT) (sz := sz) (ad := ad) hl (1 : Int32) u1 q3 hq3) (ts_live (k := 30) (by decide) (by decide) (by decide)) rfl (Nat.le_trans (Nat.le_of_ble_eq_true rfl) hdd) (As := [.inl (.int (1 : Int32))]) rfl ⟨Nat.le_of_ble_eq_true rfl, Nat.le_of_ble_eq_true rfl⟩ (fun _ => Nat.le_of_ble_eq_true rfl) rfl ?_
      cases h
      exact tv_iret C (pc := 29) rfl dX7_total_29 ⟨Nat.le_of_ble_eq_true rfl, Nat.le_of_ble_eq_true rfl⟩
    · have h := ts_ifn h hc
      refine tv_aload_n C (pc := 15) dX7_total_15 rfl rfl ?_
      refine tv_getR C (pc := 16) dX7_total_16 fl_X7_52 (ts_live (k := 30) (by decide) (by decide) (by decide)) rfl rfl (i2 := (41, 0, 0)) rfl ?_
      refine tv_iload_n C (pc := 19) dX7_total_19 rfl rfl ?_
      obtain ⟨hr4, h⟩ := ts_gd h
      refine tv_iaload C (pc := 20) dX7_total_20 (ts_live (k := 41) (by decide) (by decide) (by decide)) rfl hr4 (j := p1.toNatClampNeg) rfl ?_
      refine tv_goto C (pc := 21) 29 dX7_total_21 (by decide) ?_
      cases h
      exact tv_iret C (pc := 29) rfl dX7_total_29 ⟨Nat.le_of_ble_eq_true rfl, Nat.le_of_ble_eq_true rfl⟩
set_option maxRecDepth 100000 in
set_option maxHeartbeats 4000000 in
theorem m_X7_abortShare {l : Launch} {D : va_G} {dT : Nat → ClassId} {sz : Nat} {ad : ts_I → Nat} (hl : l.stackTraces = false)  (u : ts_Mem) (r : (UInt64 × ts_Mem)) (h : f_X7_abortShare  u = some r) : ts_M l D dT sz yX7_abortShare wX7_abortShare 1 0 0 ad ts_lv ts_R0 [.inr (30, 0, 0)] u (.inl (some (.double r.1))) r.2 := by
    unfold f_X7_abortShare at h
    refine ts_enter hl (by decide) rfl rfl (Nat.le_of_ble_eq_true rfl) ?_
    intro p e s m args below meth c C hX hnm
    have C : ts_CX D dT sz p l (ts_rm 1 0 0) s m args meth c RX7 cX7_abortShare 1 (some .double) 1 := C
    have hdd : 1 ≤ 1 := Nat.le_refl _
    refine tv_aload_n C (pc := 0) dX7_abortShare_0 rfl rfl ?_
    refine tv_iconst C (pc := 1) dX7_abortShare_1 (v := (0 : Int32)) rfl ?_
    refine tv_putI C (pc := 2) dX7_abortShare_2 fp_X7_3 (ts_live (k := 30) (by decide) (by decide) (by decide)) rfl (cd := 0) rfl (by decide) rfl rfl ?_
    refine tv_nu (fun u1 hu1 => ?_)
    have h := ts_lt h hu1
    refine tv_aload_n C (pc := 5) dX7_abortShare_5 rfl rfl ?_
    refine tv_getI C (pc := 6) dX7_abortShare_6 fl_X7_18 (ts_live (k := 30) (by decide) (by decide) (by decide)) rfl (cd := 0) rfl (by decide) ?_
    refine tv_iconst C (pc := 9) dX7_abortShare_9 (v := (1 : Int32)) rfl ?_
    refine tv_icmp_ne C (pc := 10) 22 dX7_abortShare_10 (by decide) (fun hc => ?_) (fun hc => ?_)
    · have h := ts_ifn h hc
      refine tv_aload_n C (pc := 22) dX7_abortShare_22 rfl rfl ?_
      refine tv_getR C (pc := 23) dX7_abortShare_23 fl_X7_52 (ts_live (k := 30) (by decide) (by decide) (by decide)) rfl rfl (i2 := (41, 0, 0)) rfl ?_
      refine tv_bipush C (pc := 26) dX7_abortShare_26 (v := (6 : Int32)) rfl ?_
      refine tv_iaload C (pc := 28) dX7_abortShare_28 (ts_live (k := 41) (by decide) (by decide) (by decide)) rfl (by decide) (j := 6) (by decide) ?_
      refine tv_aload_n C (pc := 29) dX7_abortShare_29 rfl rfl ?_
      refine tv_getR C (pc := 30) dX7_abortShare_30 fl_X7_52 (ts_live (k := 30) (by decide) (by decide) (by decide)) rfl rfl (i2 := (41, 0, 0)) rfl ?_
      refine tv_bipush C (pc := 33) dX7_abortShare_33 (v := (7 : Int32)) rfl ?_
      refine tv_iaload C (pc := 35) dX7_abortShare_35 (ts_live (k := 41) (by decide) (by decide) (by decide)) rfl (by decide) (j := 7) (by decide) ?_
      refine tv_iadd C (pc := 36) dX7_abortShare_36 ?_
      refine tv_i2d C (pc := 37) dX7_abortShare_37 ?_
      refine tv_aload_n C (pc := 38) dX7_abortShare_38 rfl rfl ?_
      refine tv_getI C (pc := 39) dX7_abortShare_39 fl_X7_18 (ts_live (k := 30) (by decide) (by decide) (by decide)) rfl (cd := 0) rfl (by decide) ?_
      refine tv_iconst C (pc := 42) dX7_abortShare_42 (v := (1 : Int32)) rfl ?_
      refine tv_isub C (pc := 43) dX7_abortShare_43 ?_
      refine tv_i2d C (pc := 44) dX7_abortShare_44 ?_
      obtain ⟨hg2, h⟩ := ts_gd h
      refine tv_ddiv C (pc := 45) dX7_abortShare_45 hg2 ?_
      cases h
      exact tv_dret C (pc := 46) rfl dX7_abortShare_46 ⟨Nat.le_of_ble_eq_true rfl, Nat.le_of_ble_eq_true rfl⟩
    · have h := ts_ifp h hc
      refine tv_aload_n C (pc := 13) dX7_abortShare_13 rfl rfl ?_
      refine tv_iconst C (pc := 14) dX7_abortShare_14 (v := (1 : Int32)) rfl ?_
      obtain ⟨q3, hq3, h⟩ := ts_bd h
      refine tv_callV C (pc := 15) dX7_abortShare_15 (ci := 7) (q := (RX7, TX7, 37)) rfl yl_X7_99 (m_X7_fail (D := D) (dT := dT) (sz := sz) (ad := ad) hl (1 : Int32) u1 q3 hq3) (ts_live (k := 30) (by decide) (by decide) (by decide)) rfl (Nat.le_trans (Nat.le_of_ble_eq_true rfl) hdd) (As := [.inl (.int (1 : Int32))]) rfl ⟨Nat.le_of_ble_eq_true rfl, Nat.le_of_ble_eq_true rfl⟩ (fun _ => Nat.le_of_ble_eq_true rfl) rfl ?_
      refine tv_i2d C (pc := 18) dX7_abortShare_18 ?_
      refine tv_goto C (pc := 19) 46 dX7_abortShare_19 (by decide) ?_
      cases h
      exact tv_dret C (pc := 46) rfl dX7_abortShare_46 ⟨Nat.le_of_ble_eq_true rfl, Nat.le_of_ble_eq_true rfl⟩
set_option maxRecDepth 100000 in
set_option maxHeartbeats 4000000 in
theorem m_X7_isTransaction {l : Launch} {D : va_G} {dT : Nat → ClassId} {sz : Nat} {ad : ts_I → Nat} (hl : l.stackTraces = false) (p1 : Int32) (u : ts_Mem) (r : Int32) (h : f_X7_isTransaction p1 u = some r) : ts_M l D dT sz yX7_isTransaction wX7_isTransaction 1 0 0 ad ts_lv ts_R0 [.inr (30, 0, 0), .inl (.int p1)] u (.inl (some (.int r))) u := by
    unfold f_X7_isTransaction at h
    refine ts_enter hl (by decide) rfl rfl (Nat.le_of_ble_eq_true rfl) ?_
    intro p e s m args below meth c C hX hnm
    have C : ts_CX D dT sz p l (ts_rm 1 0 0) s m args meth c RX7 cX7_isTransaction 2 (some .boolean) 1 := C
    have hdd : 1 ≤ 1 := Nat.le_refl _
    refine tv_iload_n C (pc := 0) dX7_isTransaction_0 rfl rfl ?_
    refine tv_iconst C (pc := 1) dX7_isTransaction_1 (v := (0 : Int32)) rfl ?_
    refine tv_aload_n C (pc := 2) dX7_isTransaction_2 rfl rfl ?_
    refine tv_getI C (pc := 3) dX7_isTransaction_3 fl_X7_103 (ts_live (k := 30) (by decide) (by decide) (by decide)) rfl (cd := 0) rfl (by decide) ?_
    refine tv_iconst C (pc := 6) dX7_isTransaction_6 (v := (1 : Int32)) rfl ?_
    refine tv_isub C (pc := 7) dX7_isTransaction_7 ?_
    obtain ⟨q1, hq1, h⟩ := ts_bd h
    refine tv_callS C (pc := 8) dX7_isTransaction_8 yl_X7_95 (m_X7_isIn (D := D) (dT := dT) (sz := sz) (ad := ad) hl p1 (0 : Int32) ((ts_gI u (30, 0, 0) 2) - (1 : Int32)) u q1 hq1) (Nat.le_trans (Nat.le_of_ble_eq_true rfl) hdd) (As := [.inl (.int p1), .inl (.int (0 : Int32)), .inl (.int ((ts_gI u (30, 0, 0) 2) - (1 : Int32)))]) rfl ⟨Nat.le_of_ble_eq_true rfl, Nat.le_of_ble_eq_true rfl⟩ (fun _ => Nat.le_of_ble_eq_true rfl) rfl ?_
    obtain ⟨hgz, h⟩ := ts_gd h
    cases h
    exact tv_zret C (pc := 11) rfl (ts_nz hgz).1 dX7_isTransaction_11 ⟨Nat.le_of_ble_eq_true rfl, Nat.le_of_ble_eq_true rfl⟩
set_option maxRecDepth 100000 in
set_option maxHeartbeats 4000000 in
theorem m_X7_isItem {l : Launch} {D : va_G} {dT : Nat → ClassId} {sz : Nat} {ad : ts_I → Nat} (hl : l.stackTraces = false) (p0 : Int32) (u : ts_Mem) (r : Int32) (h : f_X7_isItem p0 u = some r) : ts_M l D dT sz yX7_isItem wX7_isItem 1 0 0 ad ts_lv ts_R0 [.inl (.int p0)] u (.inl (some (.int r))) u := by
    unfold f_X7_isItem at h
    refine ts_enter hl (by decide) rfl rfl (Nat.le_of_ble_eq_true rfl) ?_
    intro p e s m args below meth c C hX hnm
    have C : ts_CX D dT sz p l (ts_rm 1 0 0) s m args meth c RX7 cX7_isItem 1 (some .boolean) 1 := C
    have hdd : 1 ≤ 1 := Nat.le_refl _
    refine tv_iload_n C (pc := 0) dX7_isItem_0 rfl rfl ?_
    refine tv_iconst C (pc := 1) dX7_isItem_1 (v := (0 : Int32)) rfl ?_
    refine tv_bipush C (pc := 2) dX7_isItem_2 (v := (7 : Int32)) rfl ?_
    obtain ⟨q1, hq1, h⟩ := ts_bd h
    refine tv_callS C (pc := 4) dX7_isItem_4 yl_X7_95 (m_X7_isIn (D := D) (dT := dT) (sz := sz) (ad := ad) hl p0 (0 : Int32) (7 : Int32) u q1 hq1) (Nat.le_trans (Nat.le_of_ble_eq_true rfl) hdd) (As := [.inl (.int p0), .inl (.int (0 : Int32)), .inl (.int (7 : Int32))]) rfl ⟨Nat.le_of_ble_eq_true rfl, Nat.le_of_ble_eq_true rfl⟩ (fun _ => Nat.le_of_ble_eq_true rfl) rfl ?_
    obtain ⟨hgz, h⟩ := ts_gd h
    cases h
    exact tv_zret C (pc := 7) rfl (ts_nz hgz).1 dX7_isItem_7 ⟨Nat.le_of_ble_eq_true rfl, Nat.le_of_ble_eq_true rfl⟩
set_option maxRecDepth 100000 in
set_option maxHeartbeats 4000000 in
theorem m_X7_begin {l : Launch} {D : va_G} {dT : Nat → ClassId} {sz : Nat} {ad : ts_I → Nat} (hl : l.stackTraces = false) (p1 : Int32) (u : ts_Mem) (r : (Int32 × ts_Mem)) (h : f_X7_begin p1 u = some r) : ts_M l D dT sz yX7_begin wX7_begin 1 0 0 ad ts_lv ts_R0 [.inr (30, 0, 0), .inl (.int p1)] u (.inl (some (.int r.1))) r.2 := by
    unfold f_X7_begin at h
    refine ts_enter hl (by decide) rfl rfl (Nat.le_of_ble_eq_true rfl) ?_
    intro p e s m args below meth c C hX hnm
    have C : ts_CX D dT sz p l (ts_rm 1 0 0) s m args meth c RX7 cX7_begin 2 (some .int) 1 := C
    have hdd : 1 ≤ 1 := Nat.le_refl _
    refine tv_aload_n C (pc := 0) dX7_begin_0 rfl rfl ?_
    refine tv_iconst C (pc := 1) dX7_begin_1 (v := (0 : Int32)) rfl ?_
    refine tv_putI C (pc := 2) dX7_begin_2 fp_X7_3 (ts_live (k := 30) (by decide) (by decide) (by decide)) rfl (cd := 0) rfl (by decide) rfl rfl ?_
    refine tv_nu (fun u1 hu1 => ?_)
    have h := ts_lt h hu1
    refine tv_iload_n C (pc := 5) dX7_begin_5 rfl rfl ?_
    refine tv_iconst C (pc := 6) dX7_begin_6 (v := (0 : Int32)) rfl ?_
    refine tv_bipush C (pc := 7) dX7_begin_7 (v := (9 : Int32)) rfl ?_
    obtain ⟨q2, hq2, h⟩ := ts_bd h
    refine tv_callS C (pc := 9) dX7_begin_9 yl_X7_95 (m_X7_isIn (D := D) (dT := dT) (sz := sz) (ad := ad) hl p1 (0 : Int32) (9 : Int32) u1 q2 hq2) (Nat.le_trans (Nat.le_of_ble_eq_true rfl) hdd) (As := [.inl (.int p1), .inl (.int (0 : Int32)), .inl (.int (9 : Int32))]) rfl ⟨Nat.le_of_ble_eq_true rfl, Nat.le_of_ble_eq_true rfl⟩ (fun _ => Nat.le_of_ble_eq_true rfl) rfl ?_
    refine tv_if_ne C (pc := 12) 21 dX7_begin_12 (by decide) (fun hc => ?_) (fun hc => ?_)
    · have h := ts_ifn h hc
      refine tv_aload_n C (pc := 21) dX7_begin_21 rfl rfl ?_
      refine tv_getI C (pc := 22) dX7_begin_22 fl_X7_103 (ts_live (k := 30) (by decide) (by decide) (by decide)) rfl (cd := 0) rfl (by decide) ?_
      refine tv_bipush C (pc := 25) dX7_begin_25 (v := (16 : Int32)) rfl ?_
      refine tv_icmp_ne C (pc := 27) 36 dX7_begin_27 (by decide) (fun hc => ?_) (fun hc => ?_)
      · have h := ts_ifn h hc
        refine tv_aload_n C (pc := 36) dX7_begin_36 rfl rfl ?_
        refine tv_getR C (pc := 37) dX7_begin_37 fl_X7_21 (ts_live (k := 30) (by decide) (by decide) (by decide)) rfl rfl (i2 := (31, 0, 0)) rfl ?_
        refine tv_aload_n C (pc := 40) dX7_begin_40 rfl rfl ?_
        refine tv_getI C (pc := 41) dX7_begin_41 fl_X7_103 (ts_live (k := 30) (by decide) (by decide) (by decide)) rfl (cd := 0) rfl (by decide) ?_
        refine tv_iconst C (pc := 44) dX7_begin_44 (v := (0 : Int32)) rfl ?_
        obtain ⟨hr3, h⟩ := ts_gd h
        refine tv_iastore C (pc := 45) dX7_begin_45 (ts_live (k := 31) (by decide) (by decide) (by decide)) rfl hr3 (j := ((ts_gI u1 (30, 0, 0) 2)).toNatClampNeg) rfl ?_
        refine tv_nu (fun u4 hu4 => ?_)
        have h := ts_lt h hu4
        refine tv_aload_n C (pc := 46) dX7_begin_46 rfl rfl ?_
        refine tv_getR C (pc := 47) dX7_begin_47 fl_X7_25 (ts_live (k := 30) (by decide) (by decide) (by decide)) rfl rfl (i2 := (32, 0, 0)) rfl ?_
        refine tv_aload_n C (pc := 50) dX7_begin_50 rfl rfl ?_
        refine tv_getI C (pc := 51) dX7_begin_51 fl_X7_103 (ts_live (k := 30) (by decide) (by decide) (by decide)) rfl (cd := 0) rfl (by decide) ?_
        refine tv_aload_n C (pc := 54) dX7_begin_54 rfl rfl ?_
        refine tv_getI C (pc := 55) dX7_begin_55 fl_X7_18 (ts_live (k := 30) (by decide) (by decide) (by decide)) rfl (cd := 0) rfl (by decide) ?_
        obtain ⟨hr5, h⟩ := ts_gd h
        refine tv_iastore C (pc := 58) dX7_begin_58 (ts_live (k := 32) (by decide) (by decide) (by decide)) rfl hr5 (j := ((ts_gI u4 (30, 0, 0) 2)).toNatClampNeg) rfl ?_
        refine tv_nu (fun u6 hu6 => ?_)
        have h := ts_lt h hu6
        refine tv_aload_n C (pc := 59) dX7_begin_59 rfl rfl ?_
        refine tv_getR C (pc := 60) dX7_begin_60 fl_X7_28 (ts_live (k := 30) (by decide) (by decide) (by decide)) rfl rfl (i2 := (33, 0, 0)) rfl ?_
        refine tv_aload_n C (pc := 63) dX7_begin_63 rfl rfl ?_
        refine tv_getI C (pc := 64) dX7_begin_64 fl_X7_103 (ts_live (k := 30) (by decide) (by decide) (by decide)) rfl (cd := 0) rfl (by decide) ?_
        refine tv_iload_n C (pc := 67) dX7_begin_67 rfl rfl ?_
        obtain ⟨hr7, h⟩ := ts_gd h
        refine tv_iastore C (pc := 68) dX7_begin_68 (ts_live (k := 33) (by decide) (by decide) (by decide)) rfl hr7 (j := ((ts_gI u6 (30, 0, 0) 2)).toNatClampNeg) rfl ?_
        refine tv_nu (fun u8 hu8 => ?_)
        have h := ts_lt h hu8
        refine tv_aload_n C (pc := 69) dX7_begin_69 rfl rfl ?_
        refine tv_getR C (pc := 70) dX7_begin_70 fl_X7_31 (ts_live (k := 30) (by decide) (by decide) (by decide)) rfl rfl (i2 := (34, 0, 0)) rfl ?_
        refine tv_aload_n C (pc := 73) dX7_begin_73 rfl rfl ?_
        refine tv_getI C (pc := 74) dX7_begin_74 fl_X7_103 (ts_live (k := 30) (by decide) (by decide) (by decide)) rfl (cd := 0) rfl (by decide) ?_
        refine tv_iconst C (pc := 77) dX7_begin_77 (v := (0 : Int32)) rfl ?_
        obtain ⟨hr9, h⟩ := ts_gd h
        refine tv_iastore C (pc := 78) dX7_begin_78 (ts_live (k := 34) (by decide) (by decide) (by decide)) rfl hr9 (j := ((ts_gI u8 (30, 0, 0) 2)).toNatClampNeg) rfl ?_
        refine tv_nu (fun u10 hu10 => ?_)
        have h := ts_lt h hu10
        refine tv_aload_n C (pc := 79) dX7_begin_79 rfl rfl ?_
        refine tv_getR C (pc := 80) dX7_begin_80 fl_X7_34 (ts_live (k := 30) (by decide) (by decide) (by decide)) rfl rfl (i2 := (35, 0, 0)) rfl ?_
        refine tv_aload_n C (pc := 83) dX7_begin_83 rfl rfl ?_
        refine tv_getI C (pc := 84) dX7_begin_84 fl_X7_103 (ts_live (k := 30) (by decide) (by decide) (by decide)) rfl (cd := 0) rfl (by decide) ?_
        refine tv_iconst C (pc := 87) dX7_begin_87 (v := (0 : Int32)) rfl ?_
        obtain ⟨hr11, h⟩ := ts_gd h
        refine tv_iastore C (pc := 88) dX7_begin_88 (ts_live (k := 35) (by decide) (by decide) (by decide)) rfl hr11 (j := ((ts_gI u10 (30, 0, 0) 2)).toNatClampNeg) rfl ?_
        refine tv_nu (fun u12 hu12 => ?_)
        have h := ts_lt h hu12
        refine tv_aload_n C (pc := 89) dX7_begin_89 rfl rfl ?_
        refine tv_getR C (pc := 90) dX7_begin_90 fl_X7_40 (ts_live (k := 30) (by decide) (by decide) (by decide)) rfl rfl (i2 := (37, 0, 0)) rfl ?_
        refine tv_aload_n C (pc := 93) dX7_begin_93 rfl rfl ?_
        refine tv_getI C (pc := 94) dX7_begin_94 fl_X7_103 (ts_live (k := 30) (by decide) (by decide) (by decide)) rfl (cd := 0) rfl (by decide) ?_
        refine tv_iconst C (pc := 97) dX7_begin_97 (v := (0 : Int32)) rfl ?_
        obtain ⟨hr13, h⟩ := ts_gd h
        refine tv_iastore C (pc := 98) dX7_begin_98 (ts_live (k := 37) (by decide) (by decide) (by decide)) rfl hr13 (j := ((ts_gI u12 (30, 0, 0) 2)).toNatClampNeg) rfl ?_
        refine tv_nu (fun u14 hu14 => ?_)
        have h := ts_lt h hu14
        refine tv_aload_n C (pc := 99) dX7_begin_99 rfl rfl ?_
        refine tv_dup C (pc := 100) dX7_begin_100 (fun _ => rfl) ?_
        refine tv_getI C (pc := 101) dX7_begin_101 fl_X7_18 (ts_live (k := 30) (by decide) (by decide) (by decide)) rfl (cd := 0) rfl (by decide) ?_
        refine tv_iconst C (pc := 104) dX7_begin_104 (v := (1 : Int32)) rfl ?_
        refine tv_iadd C (pc := 105) dX7_begin_105 ?_
        refine tv_putI C (pc := 106) dX7_begin_106 fp_X7_18 (ts_live (k := 30) (by decide) (by decide) (by decide)) rfl (cd := 0) rfl (by decide) rfl rfl ?_
        refine tv_nu (fun u15 hu15 => ?_)
        have h := ts_lt h hu15
        refine tv_aload_n C (pc := 109) dX7_begin_109 rfl rfl ?_
        refine tv_iconst C (pc := 110) dX7_begin_110 (v := (0 : Int32)) rfl ?_
        refine tv_aload_n C (pc := 111) dX7_begin_111 rfl rfl ?_
        refine tv_getI C (pc := 112) dX7_begin_112 fl_X7_103 (ts_live (k := 30) (by decide) (by decide) (by decide)) rfl (cd := 0) rfl (by decide) ?_
        refine tv_iconst C (pc := 115) dX7_begin_115 (v := (-1 : Int32)) rfl ?_
        obtain ⟨q16, hq16, h⟩ := ts_bd h
        refine tv_callV C (pc := 116) dX7_begin_116 (ci := 7) (q := (RX7, TX7, 37)) rfl yl_X7_109 (m_X7_record (D := D) (dT := dT) (sz := sz) (ad := ad) hl (0 : Int32) (ts_gI u15 (30, 0, 0) 2) (-1 : Int32) u15 q16 hq16) (ts_live (k := 30) (by decide) (by decide) (by decide)) rfl (Nat.le_trans (Nat.le_of_ble_eq_true rfl) hdd) (As := [.inl (.int (0 : Int32)), .inl (.int (ts_gI u15 (30, 0, 0) 2)), .inl (.int (-1 : Int32))]) rfl ⟨Nat.le_of_ble_eq_true rfl, Nat.le_of_ble_eq_true rfl⟩ (fun _ => Nat.le_of_ble_eq_true rfl) rfl ?_
        refine tv_aload_n C (pc := 119) dX7_begin_119 rfl rfl ?_
        refine tv_dup C (pc := 120) dX7_begin_120 (fun _ => rfl) ?_
        refine tv_getI C (pc := 121) dX7_begin_121 fl_X7_103 (ts_live (k := 30) (by decide) (by decide) (by decide)) rfl (cd := 0) rfl (by decide) ?_
        refine tv_iconst C (pc := 124) dX7_begin_124 (v := (1 : Int32)) rfl ?_
        refine tv_iadd C (pc := 125) dX7_begin_125 ?_
        refine tv_putI C (pc := 126) dX7_begin_126 fp_X7_103 (ts_live (k := 30) (by decide) (by decide) (by decide)) rfl (cd := 0) rfl (by decide) rfl rfl ?_
        refine tv_nu (fun u17 hu17 => ?_)
        have h := ts_lt h hu17
        refine tv_aload_n C (pc := 129) dX7_begin_129 rfl rfl ?_
        refine tv_getI C (pc := 130) dX7_begin_130 fl_X7_103 (ts_live (k := 30) (by decide) (by decide) (by decide)) rfl (cd := 0) rfl (by decide) ?_
        refine tv_iconst C (pc := 133) dX7_begin_133 (v := (1 : Int32)) rfl ?_
        refine tv_isub C (pc := 134) dX7_begin_134 ?_
        cases h
        exact tv_iret C (pc := 135) rfl dX7_begin_135 ⟨Nat.le_of_ble_eq_true rfl, Nat.le_of_ble_eq_true rfl⟩
      · have h := ts_ifp h hc
        refine tv_aload_n C (pc := 30) dX7_begin_30 rfl rfl ?_
        refine tv_iconst C (pc := 31) dX7_begin_31 (v := (2 : Int32)) rfl ?_
        obtain ⟨q18, hq18, h⟩ := ts_bd h
        refine tv_callV C (pc := 32) dX7_begin_32 (ci := 7) (q := (RX7, TX7, 37)) rfl yl_X7_99 (m_X7_fail (D := D) (dT := dT) (sz := sz) (ad := ad) hl (2 : Int32) u1 q18 hq18) (ts_live (k := 30) (by decide) (by decide) (by decide)) rfl (Nat.le_trans (Nat.le_of_ble_eq_true rfl) hdd) (As := [.inl (.int (2 : Int32))]) rfl ⟨Nat.le_of_ble_eq_true rfl, Nat.le_of_ble_eq_true rfl⟩ (fun _ => Nat.le_of_ble_eq_true rfl) rfl ?_
        cases h
        exact tv_iret C (pc := 35) rfl dX7_begin_35 ⟨Nat.le_of_ble_eq_true rfl, Nat.le_of_ble_eq_true rfl⟩
    · have h := ts_ifp h hc
      refine tv_aload_n C (pc := 15) dX7_begin_15 rfl rfl ?_
      refine tv_iconst C (pc := 16) dX7_begin_16 (v := (1 : Int32)) rfl ?_
      obtain ⟨q19, hq19, h⟩ := ts_bd h
      refine tv_callV C (pc := 17) dX7_begin_17 (ci := 7) (q := (RX7, TX7, 37)) rfl yl_X7_99 (m_X7_fail (D := D) (dT := dT) (sz := sz) (ad := ad) hl (1 : Int32) u1 q19 hq19) (ts_live (k := 30) (by decide) (by decide) (by decide)) rfl (Nat.le_trans (Nat.le_of_ble_eq_true rfl) hdd) (As := [.inl (.int (1 : Int32))]) rfl ⟨Nat.le_of_ble_eq_true rfl, Nat.le_of_ble_eq_true rfl⟩ (fun _ => Nat.le_of_ble_eq_true rfl) rfl ?_
      cases h
      exact tv_iret C (pc := 20) rfl dX7_begin_20 ⟨Nat.le_of_ble_eq_true rfl, Nat.le_of_ble_eq_true rfl⟩
set_option maxRecDepth 100000 in
set_option maxHeartbeats 4000000 in
theorem lt_X7_takeVersions_13 {D : va_G} {dT : Nat → ClassId} {sz : Nat} {p : Program} {l : Launch} {e : Env} {R : Room} {s : State} {m : MethodId} {args : Array Value} {below : List Frame} {meth : Method} {c : Code} {d : Nat} {ad : ts_I → Nat} {kk nn : Nat} {Q : State → Prop} (hl : l.stackTraces = false) (C : ts_CX D dT sz p l R s m args meth c RX7 cX7_takeVersions 6 none d) (hdd : 2 ≤ d) (c1 : Int32) (c2 : Int32) (hkn : kk ≤ R.cells ∧ nn ≤ R.slots) : ∀ (n : Nat) (v3 : Int32) (v4 : Int32) (u : ts_Mem) (q : (Int32 × Int32 × ts_Mem)) (h : lp_X7_takeVersions_13 c1 c2 n v3 v4 u = some q) (K : ts_V D dT sz p l e R s m args below meth c 6 Q ad ts_lv ts_R0 94 [some (.inr (30, 0, 0)), some (.inl (.int c1)), some (.inl (.int c2)), some (.inl (.int q.1)), some (.inl (.int q.2.1)), none] [] q.2.2 kk nn), ts_V D dT sz p l e R s m args below meth c 6 Q ad ts_lv ts_R0 13 [some (.inr (30, 0, 0)), some (.inl (.int c1)), some (.inl (.int c2)), some (.inl (.int v3)), some (.inl (.int v4)), none] [] u kk nn
  | 0, _, _, _, _, h, _ => by cases h
  | n + 1, v3, v4, u, q, h, K => by
      rw [lp_X7_takeVersions_13] at h
      refine tv_iload C (pc := 13) dX7_takeVersions_13 rfl ?_
      refine tv_aload_n C (pc := 15) dX7_takeVersions_15 rfl rfl ?_
      refine tv_getR C (pc := 16) dX7_takeVersions_16 fl_X7_43 (ts_live (k := 30) (by decide) (by decide) (by decide)) rfl rfl (i2 := (38, 0, 0)) rfl ?_
      refine tv_iload_n C (pc := 19) dX7_takeVersions_19 rfl rfl ?_
      obtain ⟨hr1, h⟩ := ts_gd h
      refine tv_iaload C (pc := 20) dX7_takeVersions_20 (ts_live (k := 38) (by decide) (by decide) (by decide)) rfl hr1 (j := c2.toNatClampNeg) rfl ?_
      refine tv_icmp_ge C (pc := 21) 94 dX7_takeVersions_21 (by decide) (fun hc => ?_) (fun hc => ?_)
      · have h := ts_ifp h hc
        cases h
        exact K
      · have h := ts_ifn h hc
        refine tv_iload_n C (pc := 24) dX7_takeVersions_24 rfl rfl ?_
        refine tv_iload C (pc := 25) dX7_takeVersions_25 rfl ?_
        obtain ⟨q2, hq2, h⟩ := ts_bd h
        refine tv_callS C (pc := 27) dX7_takeVersions_27 yl_X7_91 (m_X7_place (D := D) (dT := dT) (sz := sz) (ad := ad) hl c2 v4 u q2 hq2) (Nat.le_trans (Nat.le_of_ble_eq_true rfl) hdd) (As := [.inl (.int c2), .inl (.int v4)]) rfl ⟨hkn.1, hkn.2⟩ (fun _ => Nat.le_of_ble_eq_true rfl) rfl ?_
        refine tv_istore C (pc := 30) dX7_takeVersions_30 (L' := [some (.inr (30, 0, 0)), some (.inl (.int c1)), some (.inl (.int c2)), some (.inl (.int v3)), some (.inl (.int v4)), some (.inl (.int q2))]) (by decide) rfl rfl ?_
        refine tv_aload_n C (pc := 32) dX7_takeVersions_32 rfl rfl ?_
        refine tv_getR C (pc := 33) dX7_takeVersions_33 fl_X7_46 (ts_live (k := 30) (by decide) (by decide) (by decide)) rfl rfl (i2 := (39, 0, 0)) rfl ?_
        refine tv_iload C (pc := 36) dX7_takeVersions_36 rfl ?_
        refine tv_iconst C (pc := 38) dX7_takeVersions_38 (v := (3 : Int32)) rfl ?_
        refine tv_iadd C (pc := 39) dX7_takeVersions_39 ?_
        obtain ⟨hr3, h⟩ := ts_gd h
        refine tv_iaload C (pc := 40) dX7_takeVersions_40 (ts_live (k := 39) (by decide) (by decide) (by decide)) rfl hr3 (j := ((q2 + (3 : Int32))).toNatClampNeg) rfl ?_
        refine tv_iload_n C (pc := 41) dX7_takeVersions_41 rfl rfl ?_
        refine tv_icmp_eq C (pc := 42) 88 dX7_takeVersions_42 (by decide) (fun hc => ?_) (fun hc => ?_)
        · have h := ts_ifp h hc
          refine tv_iinc C (pc := 88) dX7_takeVersions_88 (v := (v4 + (1 : Int32))) (L' := [some (.inr (30, 0, 0)), some (.inl (.int c1)), some (.inl (.int c2)), some (.inl (.int v3)), some (.inl (.int (v4 + (1 : Int32)))), some (.inl (.int q2))]) rfl rfl (by decide) rfl rfl ?_
          refine tv_goto C (pc := 91) 13 dX7_takeVersions_91 (by decide) ?_
          refine tv_drop 5 (L' := [some (.inr (30, 0, 0)), some (.inl (.int c1)), some (.inl (.int c2)), some (.inl (.int v3)), some (.inl (.int (v4 + (1 : Int32)))), none]) rfl ?_
          exact lt_X7_takeVersions_13 hl C hdd c1 c2 hkn n v3 (v4 + (1 : Int32)) u q h K
        · have h := ts_ifn h hc
          refine tv_aload_n C (pc := 45) dX7_takeVersions_45 rfl rfl ?_
          refine tv_iload_n C (pc := 46) dX7_takeVersions_46 rfl rfl ?_
          refine tv_iload_n C (pc := 47) dX7_takeVersions_47 rfl rfl ?_
          refine tv_aload_n C (pc := 48) dX7_takeVersions_48 rfl rfl ?_
          refine tv_getR C (pc := 49) dX7_takeVersions_49 fl_X7_46 (ts_live (k := 30) (by decide) (by decide) (by decide)) rfl rfl (i2 := (39, 0, 0)) rfl ?_
          refine tv_iload C (pc := 52) dX7_takeVersions_52 rfl ?_
          obtain ⟨hr4, h⟩ := ts_gd h
          refine tv_iaload C (pc := 54) dX7_takeVersions_54 (ts_live (k := 39) (by decide) (by decide) (by decide)) rfl hr4 (j := q2.toNatClampNeg) rfl ?_
          refine tv_aload_n C (pc := 55) dX7_takeVersions_55 rfl rfl ?_
          refine tv_getR C (pc := 56) dX7_takeVersions_56 fl_X7_46 (ts_live (k := 30) (by decide) (by decide) (by decide)) rfl rfl (i2 := (39, 0, 0)) rfl ?_
          refine tv_iload C (pc := 59) dX7_takeVersions_59 rfl ?_
          refine tv_iconst C (pc := 61) dX7_takeVersions_61 (v := (1 : Int32)) rfl ?_
          refine tv_iadd C (pc := 62) dX7_takeVersions_62 ?_
          obtain ⟨hr5, h⟩ := ts_gd h
          refine tv_iaload C (pc := 63) dX7_takeVersions_63 (ts_live (k := 39) (by decide) (by decide) (by decide)) rfl hr5 (j := ((q2 + (1 : Int32))).toNatClampNeg) rfl ?_
          refine tv_aload_n C (pc := 64) dX7_takeVersions_64 rfl rfl ?_
          refine tv_getR C (pc := 65) dX7_takeVersions_65 fl_X7_46 (ts_live (k := 30) (by decide) (by decide) (by decide)) rfl rfl (i2 := (39, 0, 0)) rfl ?_
          refine tv_iload C (pc := 68) dX7_takeVersions_68 rfl ?_
          refine tv_iconst C (pc := 70) dX7_takeVersions_70 (v := (2 : Int32)) rfl ?_
          refine tv_iadd C (pc := 71) dX7_takeVersions_71 ?_
          obtain ⟨hr6, h⟩ := ts_gd h
          refine tv_iaload C (pc := 72) dX7_takeVersions_72 (ts_live (k := 39) (by decide) (by decide) (by decide)) rfl hr6 (j := ((q2 + (2 : Int32))).toNatClampNeg) rfl ?_
          refine tv_aload_n C (pc := 73) dX7_takeVersions_73 rfl rfl ?_
          refine tv_getR C (pc := 74) dX7_takeVersions_74 fl_X7_46 (ts_live (k := 30) (by decide) (by decide) (by decide)) rfl rfl (i2 := (39, 0, 0)) rfl ?_
          refine tv_iload C (pc := 77) dX7_takeVersions_77 rfl ?_
          refine tv_iconst C (pc := 79) dX7_takeVersions_79 (v := (3 : Int32)) rfl ?_
          refine tv_iadd C (pc := 80) dX7_takeVersions_80 ?_
          obtain ⟨hr7, h⟩ := ts_gd h
          refine tv_iaload C (pc := 81) dX7_takeVersions_81 (ts_live (k := 39) (by decide) (by decide) (by decide)) rfl hr7 (j := ((q2 + (3 : Int32))).toNatClampNeg) rfl ?_
          obtain ⟨q8, hq8, h⟩ := ts_bd h
          refine tv_callV C (pc := 82) dX7_takeVersions_82 (ci := 7) (q := (RX7, TX7, 37)) rfl yl_X7_87 (m_X7_put (D := D) (dT := dT) (sz := sz) (ad := ad) hl c2 v3 (ts_gI u (39, 0, 0) q2.toNatClampNeg) (ts_gI u (39, 0, 0) ((q2 + (1 : Int32))).toNatClampNeg) (ts_gI u (39, 0, 0) ((q2 + (2 : Int32))).toNatClampNeg) (ts_gI u (39, 0, 0) ((q2 + (3 : Int32))).toNatClampNeg) u q8 hq8) (ts_live (k := 30) (by decide) (by decide) (by decide)) rfl (Nat.le_trans (Nat.le_of_ble_eq_true rfl) hdd) (As := [.inl (.int c2), .inl (.int v3), .inl (.int (ts_gI u (39, 0, 0) q2.toNatClampNeg)), .inl (.int (ts_gI u (39, 0, 0) ((q2 + (1 : Int32))).toNatClampNeg)), .inl (.int (ts_gI u (39, 0, 0) ((q2 + (2 : Int32))).toNatClampNeg)), .inl (.int (ts_gI u (39, 0, 0) ((q2 + (3 : Int32))).toNatClampNeg))]) rfl ⟨hkn.1, hkn.2⟩ (fun _ => Nat.le_of_ble_eq_true rfl) rfl ?_
          refine tv_iinc C (pc := 85) dX7_takeVersions_85 (v := (v3 + (1 : Int32))) (L' := [some (.inr (30, 0, 0)), some (.inl (.int c1)), some (.inl (.int c2)), some (.inl (.int (v3 + (1 : Int32)))), some (.inl (.int v4)), some (.inl (.int q2))]) rfl rfl (by decide) rfl rfl ?_
          refine tv_iinc C (pc := 88) dX7_takeVersions_88 (v := (v4 + (1 : Int32))) (L' := [some (.inr (30, 0, 0)), some (.inl (.int c1)), some (.inl (.int c2)), some (.inl (.int (v3 + (1 : Int32)))), some (.inl (.int (v4 + (1 : Int32)))), some (.inl (.int q2))]) rfl rfl (by decide) rfl rfl ?_
          refine tv_goto C (pc := 91) 13 dX7_takeVersions_91 (by decide) ?_
          refine tv_drop 5 (L' := [some (.inr (30, 0, 0)), some (.inl (.int c1)), some (.inl (.int c2)), some (.inl (.int (v3 + (1 : Int32)))), some (.inl (.int (v4 + (1 : Int32)))), none]) rfl ?_
          exact lt_X7_takeVersions_13 hl C hdd c1 c2 hkn n (v3 + (1 : Int32)) (v4 + (1 : Int32)) q8 q h K
set_option maxRecDepth 100000 in
set_option maxHeartbeats 4000000 in
theorem lt_X7_takeVersions_2 {D : va_G} {dT : Nat → ClassId} {sz : Nat} {p : Program} {l : Launch} {e : Env} {R : Room} {s : State} {m : MethodId} {args : Array Value} {below : List Frame} {meth : Method} {c : Code} {d : Nat} {ad : ts_I → Nat} {kk nn : Nat} {Q : State → Prop} (hl : l.stackTraces = false) (C : ts_CX D dT sz p l R s m args meth c RX7 cX7_takeVersions 6 none d) (hdd : 2 ≤ d) (c1 : Int32) (hkn : kk ≤ R.cells ∧ nn ≤ R.slots) : ∀ (n : Nat) (v2 : Int32) (u : ts_Mem) (q : (Int32 × ts_Mem)) (h : lp_X7_takeVersions_2 c1 n v2 u = some q) (K : ts_V D dT sz p l e R s m args below meth c 6 Q ad ts_lv ts_R0 107 [some (.inr (30, 0, 0)), some (.inl (.int c1)), some (.inl (.int q.1)), none, none, none] [] q.2 kk nn), ts_V D dT sz p l e R s m args below meth c 6 Q ad ts_lv ts_R0 2 [some (.inr (30, 0, 0)), some (.inl (.int c1)), some (.inl (.int v2)), none, none, none] [] u kk nn
  | 0, _, _, _, h, _ => by cases h
  | n + 1, v2, u, q, h, K => by
      rw [lp_X7_takeVersions_2] at h
      refine tv_iload_n C (pc := 2) dX7_takeVersions_2 rfl rfl ?_
      refine tv_bipush C (pc := 3) dX7_takeVersions_3 (v := (8 : Int32)) rfl ?_
      refine tv_icmp_ge C (pc := 5) 107 dX7_takeVersions_5 (by decide) (fun hc => ?_) (fun hc => ?_)
      · have h := ts_ifp h hc
        cases h
        exact K
      · have h := ts_ifn h hc
        refine tv_iconst C (pc := 8) dX7_takeVersions_8 (v := (0 : Int32)) rfl ?_
        refine tv_istore_n C (pc := 9) dX7_takeVersions_9 (L' := [some (.inr (30, 0, 0)), some (.inl (.int c1)), some (.inl (.int v2)), some (.inl (.int (0 : Int32))), none, none]) rfl (by decide) rfl rfl ?_
        refine tv_iconst C (pc := 10) dX7_takeVersions_10 (v := (0 : Int32)) rfl ?_
        refine tv_istore C (pc := 11) dX7_takeVersions_11 (L' := [some (.inr (30, 0, 0)), some (.inl (.int c1)), some (.inl (.int v2)), some (.inl (.int (0 : Int32))), some (.inl (.int (0 : Int32))), none]) (by decide) rfl rfl ?_
        obtain ⟨q9, hq9, h⟩ := ts_bd h
        refine lt_X7_takeVersions_13 hl C hdd c1 v2 hkn ts_fu (0 : Int32) (0 : Int32) u q9 hq9 ?_
        refine tv_aload_n C (pc := 94) dX7_takeVersions_94 rfl rfl ?_
        refine tv_getR C (pc := 95) dX7_takeVersions_95 fl_X7_43 (ts_live (k := 30) (by decide) (by decide) (by decide)) rfl rfl (i2 := (38, 0, 0)) rfl ?_
        refine tv_iload_n C (pc := 98) dX7_takeVersions_98 rfl rfl ?_
        refine tv_iload_n C (pc := 99) dX7_takeVersions_99 rfl rfl ?_
        obtain ⟨hr10, h⟩ := ts_gd h
        refine tv_iastore C (pc := 100) dX7_takeVersions_100 (ts_live (k := 38) (by decide) (by decide) (by decide)) rfl hr10 (j := v2.toNatClampNeg) rfl ?_
        refine tv_nu (fun u11 hu11 => ?_)
        have h := ts_lt h hu11
        refine tv_iinc C (pc := 101) dX7_takeVersions_101 (v := (v2 + (1 : Int32))) (L' := [some (.inr (30, 0, 0)), some (.inl (.int c1)), some (.inl (.int (v2 + (1 : Int32)))), some (.inl (.int q9.1)), some (.inl (.int q9.2.1)), none]) rfl rfl (by decide) rfl rfl ?_
        refine tv_goto C (pc := 104) 2 dX7_takeVersions_104 (by decide) ?_
        refine tv_drop 3 (L' := [some (.inr (30, 0, 0)), some (.inl (.int c1)), some (.inl (.int (v2 + (1 : Int32)))), none, some (.inl (.int q9.2.1)), none]) rfl ?_
        refine tv_drop 4 (L' := [some (.inr (30, 0, 0)), some (.inl (.int c1)), some (.inl (.int (v2 + (1 : Int32)))), none, none, none]) rfl ?_
        exact lt_X7_takeVersions_2 hl C hdd c1 hkn n (v2 + (1 : Int32)) u11 q h K
set_option maxRecDepth 100000 in
set_option maxHeartbeats 4000000 in
theorem m_X7_takeVersions {l : Launch} {D : va_G} {dT : Nat → ClassId} {sz : Nat} {ad : ts_I → Nat} (hl : l.stackTraces = false) (p1 : Int32) (u : ts_Mem) (r : ts_Mem) (h : f_X7_takeVersions p1 u = some r) : ts_M l D dT sz yX7_takeVersions wX7_takeVersions 2 0 0 ad ts_lv ts_R0 [.inr (30, 0, 0), .inl (.int p1)] u (.inl none) r := by
    unfold f_X7_takeVersions at h
    refine ts_enter hl (by decide) rfl rfl (Nat.le_of_ble_eq_true rfl) ?_
    intro p e s m args below meth c C hX hnm
    have C : ts_CX D dT sz p l (ts_rm 2 0 0) s m args meth c RX7 cX7_takeVersions 6 none 2 := C
    have hdd : 2 ≤ 2 := Nat.le_refl _
    refine tv_iconst C (pc := 0) dX7_takeVersions_0 (v := (0 : Int32)) rfl ?_
    refine tv_istore_n C (pc := 1) dX7_takeVersions_1 (L' := [some (.inr (30, 0, 0)), some (.inl (.int p1)), some (.inl (.int (0 : Int32))), none, none, none]) rfl (by decide) rfl rfl ?_
    obtain ⟨q12, hq12, h⟩ := ts_bd h
    refine lt_X7_takeVersions_2 hl C hdd p1 ⟨Nat.le_of_ble_eq_true rfl, Nat.le_of_ble_eq_true rfl⟩ ts_fu (0 : Int32) u q12 hq12 ?_
    cases h
    exact tv_vret C (pc := 107) rfl dX7_takeVersions_107 ⟨Nat.le_of_ble_eq_true rfl, Nat.le_of_ble_eq_true rfl⟩
set_option maxRecDepth 100000 in
set_option maxHeartbeats 4000000 in
theorem lt_X7_doAbort_42 {D : va_G} {dT : Nat → ClassId} {sz : Nat} {p : Program} {l : Launch} {e : Env} {R : Room} {s : State} {m : MethodId} {args : Array Value} {below : List Frame} {meth : Method} {c : Code} {d : Nat} {ad : ts_I → Nat} {kk nn : Nat} {rec : Int32 → Int32 → Int32 → ts_Mem → Option (Int32 × ts_Mem)} {dr : Nat} {Q : State → Prop} (hl : l.stackTraces = false) (C : ts_CX D dT sz p l R s m args meth c RX7 cX7_doAbort 6 (some .int) d) (hdd : 3 ≤ d) (hdr : dr + 1 ≤ d) (hrec : ∀ (p1 p2 p3 : Int32) (u : ts_Mem) (r : (Int32 × ts_Mem)), rec p1 p2 p3 u = some r → ts_M l D dT sz yX7_doAbort wX7_doAbort dr 0 0 ad ts_lv ts_R0 [.inr (30, 0, 0), .inl (.int p1), .inl (.int p2), .inl (.int p3)] u (.inl (some (.int r.1))) r.2) (c1 : Int32) (c2 : Int32) (c3 : Int32) (hkn : kk ≤ R.cells ∧ nn ≤ R.slots) : ∀ (n : Nat) (v4 : Int32) (v5 : Int32) (u : ts_Mem) (q : (Int32 × Int32 × ts_Mem)) (h : lp_X7_doAbort_42 rec c1 c2 c3 n v4 v5 u = some q) (K : ts_V D dT sz p l e R s m args below meth c 6 Q ad ts_lv ts_R0 95 [some (.inr (30, 0, 0)), some (.inl (.int c1)), some (.inl (.int c2)), some (.inl (.int c3)), some (.inl (.int q.1)), some (.inl (.int q.2.1))] [] q.2.2 kk nn), ts_V D dT sz p l e R s m args below meth c 6 Q ad ts_lv ts_R0 42 [some (.inr (30, 0, 0)), some (.inl (.int c1)), some (.inl (.int c2)), some (.inl (.int c3)), some (.inl (.int v4)), some (.inl (.int v5))] [] u kk nn
  | 0, _, _, _, _, h, _ => by cases h
  | n + 1, v4, v5, u, q, h, K => by
      rw [lp_X7_doAbort_42] at h
      refine tv_iload C (pc := 42) dX7_doAbort_42 rfl ?_
      refine tv_aload_n C (pc := 44) dX7_doAbort_44 rfl rfl ?_
      refine tv_getI C (pc := 45) dX7_doAbort_45 fl_X7_103 (ts_live (k := 30) (by decide) (by decide) (by decide)) rfl (cd := 0) rfl (by decide) ?_
      refine tv_icmp_ge C (pc := 48) 95 dX7_doAbort_48 (by decide) (fun hc => ?_) (fun hc => ?_)
      · have h := ts_ifp h hc
        cases h
        exact K
      · have h := ts_ifn h hc
        refine tv_aload_n C (pc := 51) dX7_doAbort_51 rfl rfl ?_
        refine tv_iload C (pc := 52) dX7_doAbort_52 rfl ?_
        obtain ⟨q10, hq10, h⟩ := ts_bd h
        refine tv_callV C (pc := 54) dX7_doAbort_54 (ci := 7) (q := (RX7, TX7, 37)) rfl yl_X7_117 (m_X7_isUncommitted (D := D) (dT := dT) (sz := sz) (ad := ad) hl v5 u q10 hq10) (ts_live (k := 30) (by decide) (by decide) (by decide)) rfl (Nat.le_trans (Nat.le_of_ble_eq_true rfl) hdd) (As := [.inl (.int v5)]) rfl ⟨hkn.1, hkn.2⟩ (fun _ => Nat.le_of_ble_eq_true rfl) rfl ?_
        refine tv_if_eq C (pc := 57) 89 dX7_doAbort_57 (by decide) (fun hc => ?_) (fun hc => ?_)
        · have h := ts_ifp h hc
          refine tv_iinc C (pc := 89) dX7_doAbort_89 (v := (v5 + (1 : Int32))) (L' := [some (.inr (30, 0, 0)), some (.inl (.int c1)), some (.inl (.int c2)), some (.inl (.int c3)), some (.inl (.int v4)), some (.inl (.int (v5 + (1 : Int32))))]) rfl rfl (by decide) rfl rfl ?_
          refine tv_goto C (pc := 92) 42 dX7_doAbort_92 (by decide) ?_
          exact lt_X7_doAbort_42 hl C hdd hdr hrec c1 c2 c3 hkn n v4 (v5 + (1 : Int32)) u q h K
        · have h := ts_ifn h hc
          refine tv_aload_n C (pc := 60) dX7_doAbort_60 rfl rfl ?_
          refine tv_getR C (pc := 61) dX7_doAbort_61 fl_X7_40 (ts_live (k := 30) (by decide) (by decide) (by decide)) rfl rfl (i2 := (37, 0, 0)) rfl ?_
          refine tv_iload C (pc := 64) dX7_doAbort_64 rfl ?_
          obtain ⟨hr11, h⟩ := ts_gd h
          refine tv_iaload C (pc := 66) dX7_doAbort_66 (ts_live (k := 37) (by decide) (by decide) (by decide)) rfl hr11 (j := v5.toNatClampNeg) rfl ?_
          refine tv_iload_n C (pc := 67) dX7_doAbort_67 rfl rfl ?_
          refine tv_ishr C (pc := 68) dX7_doAbort_68 ?_
          refine tv_iconst C (pc := 69) dX7_doAbort_69 (v := (1 : Int32)) rfl ?_
          refine tv_iand C (pc := 70) dX7_doAbort_70 ?_
          refine tv_iconst C (pc := 71) dX7_doAbort_71 (v := (1 : Int32)) rfl ?_
          refine tv_icmp_ne C (pc := 72) 89 dX7_doAbort_72 (by decide) (fun hc => ?_) (fun hc => ?_)
          · have h := ts_ifn h hc
            refine tv_iinc C (pc := 89) dX7_doAbort_89 (v := (v5 + (1 : Int32))) (L' := [some (.inr (30, 0, 0)), some (.inl (.int c1)), some (.inl (.int c2)), some (.inl (.int c3)), some (.inl (.int v4)), some (.inl (.int (v5 + (1 : Int32))))]) rfl rfl (by decide) rfl rfl ?_
            refine tv_goto C (pc := 92) 42 dX7_doAbort_92 (by decide) ?_
            exact lt_X7_doAbort_42 hl C hdd hdr hrec c1 c2 c3 hkn n v4 (v5 + (1 : Int32)) u q h K
          · have h := ts_ifp h hc
            refine tv_iload C (pc := 75) dX7_doAbort_75 rfl ?_
            refine tv_aload_n C (pc := 77) dX7_doAbort_77 rfl rfl ?_
            refine tv_iload C (pc := 78) dX7_doAbort_78 rfl ?_
            refine tv_bipush C (pc := 80) dX7_doAbort_80 (v := (7 : Int32)) rfl ?_
            refine tv_iconst C (pc := 82) dX7_doAbort_82 (v := (-1 : Int32)) rfl ?_
            obtain ⟨q12, hq12, h⟩ := ts_bd h
            refine tv_callV C (pc := 83) dX7_doAbort_83 (ci := 7) (q := (RX7, TX7, 37)) rfl yl_X7_121 (hrec v5 (7 : Int32) (-1 : Int32) u q12 hq12) (ts_live (k := 30) (by decide) (by decide) (by decide)) rfl (hdr) (As := [.inl (.int v5), .inl (.int (7 : Int32)), .inl (.int (-1 : Int32))]) rfl ⟨hkn.1, hkn.2⟩ (fun _ => Nat.le_of_ble_eq_true rfl) rfl ?_
            refine tv_iadd C (pc := 86) dX7_doAbort_86 ?_
            refine tv_nmI (fun x13 hx13 => ?_)
            have h := ts_lt h hx13
            refine tv_istore C (pc := 87) dX7_doAbort_87 (L' := [some (.inr (30, 0, 0)), some (.inl (.int c1)), some (.inl (.int c2)), some (.inl (.int c3)), some (.inl (.int x13)), some (.inl (.int v5))]) (by decide) rfl rfl ?_
            refine tv_iinc C (pc := 89) dX7_doAbort_89 (v := (v5 + (1 : Int32))) (L' := [some (.inr (30, 0, 0)), some (.inl (.int c1)), some (.inl (.int c2)), some (.inl (.int c3)), some (.inl (.int x13)), some (.inl (.int (v5 + (1 : Int32))))]) rfl rfl (by decide) rfl rfl ?_
            refine tv_goto C (pc := 92) 42 dX7_doAbort_92 (by decide) ?_
            exact lt_X7_doAbort_42 hl C hdd hdr hrec c1 c2 c3 hkn n x13 (v5 + (1 : Int32)) q12.2 q h K
set_option maxRecDepth 100000 in
set_option maxHeartbeats 4000000 in
theorem m_X7_doAbort {l : Launch} {D : va_G} {dT : Nat → ClassId} {sz : Nat} {ad : ts_I → Nat} (hl : l.stackTraces = false) : ∀ (fu : Nat) (p1 : Int32) (p2 : Int32) (p3 : Int32) (u : ts_Mem) (r : (Int32 × ts_Mem)) (h : f_X7_doAbort fu p1 p2 p3 u = some r), ts_M l D dT sz yX7_doAbort wX7_doAbort (3 + fu) 0 0 ad ts_lv ts_R0 [.inr (30, 0, 0), .inl (.int p1), .inl (.int p2), .inl (.int p3)] u (.inl (some (.int r.1))) r.2
  | 0, _, _, _, _, _, h => by cases h
  | fu + 1, p1, p2, p3, u, r, h => by
    rw [f_X7_doAbort] at h
    have hrec : ∀ (p1 p2 p3 : Int32) (u : ts_Mem) (r : (Int32 × ts_Mem)), (f_X7_doAbort fu) p1 p2 p3 u = some r → ts_M l D dT sz yX7_doAbort wX7_doAbort (3 + fu) 0 0 ad ts_lv ts_R0 [.inr (30, 0, 0), .inl (.int p1), .inl (.int p2), .inl (.int p3)] u (.inl (some (.int r.1))) r.2 := fun p1 p2 p3 u r h => m_X7_doAbort hl fu p1 p2 p3 u r h
    have hdr : (3 + fu) + 1 ≤ 3 + (fu + 1) := Nat.le_refl _
    have hdd : 3 ≤ 3 + (fu + 1) := Nat.le_add_right _ _
    refine ts_enter hl (by decide) rfl rfl (Nat.le_of_ble_eq_true rfl) ?_
    intro p e s m args below meth c C hX hnm
    have C : ts_CX D dT sz p l (ts_rm (3 + (fu + 1)) 0 0) s m args meth c RX7 cX7_doAbort 6 (some .int) (3 + (fu + 1)) := C
    refine tv_aload_n C (pc := 0) dX7_doAbort_0 rfl rfl ?_
    refine tv_getR C (pc := 1) dX7_doAbort_1 fl_X7_21 (ts_live (k := 30) (by decide) (by decide) (by decide)) rfl rfl (i2 := (31, 0, 0)) rfl ?_
    refine tv_iload_n C (pc := 4) dX7_doAbort_4 rfl rfl ?_
    refine tv_iconst C (pc := 5) dX7_doAbort_5 (v := (3 : Int32)) rfl ?_
    obtain ⟨hr1, h⟩ := ts_gd h
    refine tv_iastore C (pc := 6) dX7_doAbort_6 (ts_live (k := 31) (by decide) (by decide) (by decide)) rfl hr1 (j := p1.toNatClampNeg) rfl ?_
    refine tv_nu (fun u2 hu2 => ?_)
    have h := ts_lt h hu2
    refine tv_aload_n C (pc := 7) dX7_doAbort_7 rfl rfl ?_
    refine tv_getR C (pc := 8) dX7_doAbort_8 fl_X7_31 (ts_live (k := 30) (by decide) (by decide) (by decide)) rfl rfl (i2 := (34, 0, 0)) rfl ?_
    refine tv_iload_n C (pc := 11) dX7_doAbort_11 rfl rfl ?_
    refine tv_dup2 C (pc := 12) dX7_doAbort_12 (fun _ => ⟨rfl, rfl⟩) ?_
    obtain ⟨hr3, h⟩ := ts_gd h
    refine tv_iaload C (pc := 13) dX7_doAbort_13 (ts_live (k := 34) (by decide) (by decide) (by decide)) rfl hr3 (j := p1.toNatClampNeg) rfl ?_
    refine tv_iconst C (pc := 14) dX7_doAbort_14 (v := (1 : Int32)) rfl ?_
    refine tv_iadd C (pc := 15) dX7_doAbort_15 ?_
    obtain ⟨hr4, h⟩ := ts_gd h
    refine tv_iastore C (pc := 16) dX7_doAbort_16 (ts_live (k := 34) (by decide) (by decide) (by decide)) rfl hr4 (j := p1.toNatClampNeg) rfl ?_
    refine tv_nu (fun u5 hu5 => ?_)
    have h := ts_lt h hu5
    refine tv_aload_n C (pc := 17) dX7_doAbort_17 rfl rfl ?_
    refine tv_getR C (pc := 18) dX7_doAbort_18 fl_X7_40 (ts_live (k := 30) (by decide) (by decide) (by decide)) rfl rfl (i2 := (37, 0, 0)) rfl ?_
    refine tv_iload_n C (pc := 21) dX7_doAbort_21 rfl rfl ?_
    refine tv_iconst C (pc := 22) dX7_doAbort_22 (v := (0 : Int32)) rfl ?_
    obtain ⟨hr6, h⟩ := ts_gd h
    refine tv_iastore C (pc := 23) dX7_doAbort_23 (ts_live (k := 37) (by decide) (by decide) (by decide)) rfl hr6 (j := p1.toNatClampNeg) rfl ?_
    refine tv_nu (fun u7 hu7 => ?_)
    have h := ts_lt h hu7
    refine tv_aload_n C (pc := 24) dX7_doAbort_24 rfl rfl ?_
    refine tv_iload_n C (pc := 25) dX7_doAbort_25 rfl rfl ?_
    obtain ⟨q8, hq8, h⟩ := ts_bd h
    refine tv_callV C (pc := 26) dX7_doAbort_26 (ci := 7) (q := (RX7, TX7, 37)) rfl yl_X7_113 (m_X7_takeVersions (D := D) (dT := dT) (sz := sz) (ad := ad) hl p1 u7 q8 hq8) (ts_live (k := 30) (by decide) (by decide) (by decide)) rfl (Nat.le_trans (Nat.le_of_ble_eq_true rfl) hdd) (As := [.inl (.int p1)]) rfl ⟨Nat.le_of_ble_eq_true rfl, Nat.le_of_ble_eq_true rfl⟩ (fun _ => Nat.le_of_ble_eq_true rfl) rfl ?_
    refine tv_aload_n C (pc := 29) dX7_doAbort_29 rfl rfl ?_
    refine tv_iload_n C (pc := 30) dX7_doAbort_30 rfl rfl ?_
    refine tv_iload_n C (pc := 31) dX7_doAbort_31 rfl rfl ?_
    refine tv_iload_n C (pc := 32) dX7_doAbort_32 rfl rfl ?_
    obtain ⟨q9, hq9, h⟩ := ts_bd h
    refine tv_callV C (pc := 33) dX7_doAbort_33 (ci := 7) (q := (RX7, TX7, 37)) rfl yl_X7_109 (m_X7_record (D := D) (dT := dT) (sz := sz) (ad := ad) hl p2 p1 p3 q8 q9 hq9) (ts_live (k := 30) (by decide) (by decide) (by decide)) rfl (Nat.le_trans (Nat.le_of_ble_eq_true rfl) hdd) (As := [.inl (.int p2), .inl (.int p1), .inl (.int p3)]) rfl ⟨Nat.le_of_ble_eq_true rfl, Nat.le_of_ble_eq_true rfl⟩ (fun _ => Nat.le_of_ble_eq_true rfl) rfl ?_
    refine tv_iconst C (pc := 36) dX7_doAbort_36 (v := (1 : Int32)) rfl ?_
    refine tv_istore C (pc := 37) dX7_doAbort_37 (L' := [some (.inr (30, 0, 0)), some (.inl (.int p1)), some (.inl (.int p2)), some (.inl (.int p3)), some (.inl (.int (1 : Int32))), none]) (by decide) rfl rfl ?_
    refine tv_iconst C (pc := 39) dX7_doAbort_39 (v := (0 : Int32)) rfl ?_
    refine tv_istore C (pc := 40) dX7_doAbort_40 (L' := [some (.inr (30, 0, 0)), some (.inl (.int p1)), some (.inl (.int p2)), some (.inl (.int p3)), some (.inl (.int (1 : Int32))), some (.inl (.int (0 : Int32)))]) (by decide) rfl rfl ?_
    obtain ⟨q14, hq14, h⟩ := ts_bd h
    refine lt_X7_doAbort_42 hl C hdd hdr hrec p1 p2 p3 ⟨Nat.le_of_ble_eq_true rfl, Nat.le_of_ble_eq_true rfl⟩ ts_fu (1 : Int32) (0 : Int32) q9 q14 hq14 ?_
    refine tv_iload C (pc := 95) dX7_doAbort_95 rfl ?_
    cases h
    exact tv_iret C (pc := 97) rfl dX7_doAbort_97 ⟨Nat.le_of_ble_eq_true rfl, Nat.le_of_ble_eq_true rfl⟩
set_option maxRecDepth 100000 in
set_option maxHeartbeats 4000000 in
theorem lt_X7_waitsFor_4 {D : va_G} {dT : Nat → ClassId} {sz : Nat} {p : Program} {l : Launch} {e : Env} {R : Room} {s : State} {m : MethodId} {args : Array Value} {below : List Frame} {meth : Method} {c : Code} {d : Nat} {ad : ts_I → Nat} {kk nn : Nat} {Q : State → Prop} (hl : l.stackTraces = false) (C : ts_CX D dT sz p l R s m args meth c RX7 cX7_waitsFor 4 (some .int) d) (hdd : 1 ≤ d) (c1 : Int32) (u : ts_Mem) (hkn : kk ≤ R.cells ∧ nn ≤ R.slots) : ∀ (n : Nat) (v2 : Int32) (v3 : Int32) (q : (Int32 × Int32)) (h : lp_X7_waitsFor_4 c1 u n v2 v3 = some q) (K : ts_V D dT sz p l e R s m args below meth c 4 Q ad ts_lv ts_R0 50 [some (.inr (30, 0, 0)), some (.inl (.int c1)), some (.inl (.int q.1)), some (.inl (.int q.2))] [] u kk nn), ts_V D dT sz p l e R s m args below meth c 4 Q ad ts_lv ts_R0 4 [some (.inr (30, 0, 0)), some (.inl (.int c1)), some (.inl (.int v2)), some (.inl (.int v3))] [] u kk nn
  | 0, _, _, _, h, _ => by cases h
  | n + 1, v2, v3, q, h, K => by
      rw [lp_X7_waitsFor_4] at h
      refine tv_iload_n C (pc := 4) dX7_waitsFor_4 rfl rfl ?_
      refine tv_aload_n C (pc := 5) dX7_waitsFor_5 rfl rfl ?_
      refine tv_getI C (pc := 6) dX7_waitsFor_6 fl_X7_103 (ts_live (k := 30) (by decide) (by decide) (by decide)) rfl (cd := 0) rfl (by decide) ?_
      refine tv_icmp_ge C (pc := 9) 50 dX7_waitsFor_9 (by decide) (fun hc => ?_) (fun hc => ?_)
      · have h := ts_ifp h hc
        cases h
        exact K
      · have h := ts_ifn h hc
        refine tv_iload_n C (pc := 12) dX7_waitsFor_12 rfl rfl ?_
        refine tv_aload_n C (pc := 13) dX7_waitsFor_13 rfl rfl ?_
        refine tv_getR C (pc := 14) dX7_waitsFor_14 fl_X7_40 (ts_live (k := 30) (by decide) (by decide) (by decide)) rfl rfl (i2 := (37, 0, 0)) rfl ?_
        refine tv_iload_n C (pc := 17) dX7_waitsFor_17 rfl rfl ?_
        obtain ⟨hr1, h⟩ := ts_gd h
        refine tv_iaload C (pc := 18) dX7_waitsFor_18 (ts_live (k := 37) (by decide) (by decide) (by decide)) rfl hr1 (j := c1.toNatClampNeg) rfl ?_
        refine tv_iload_n C (pc := 19) dX7_waitsFor_19 rfl rfl ?_
        refine tv_ishr C (pc := 20) dX7_waitsFor_20 ?_
        refine tv_iconst C (pc := 21) dX7_waitsFor_21 (v := (1 : Int32)) rfl ?_
        refine tv_iand C (pc := 22) dX7_waitsFor_22 ?_
        refine tv_iconst C (pc := 23) dX7_waitsFor_23 (v := (1 : Int32)) rfl ?_
        refine tv_icmp_ne C (pc := 24) 41 dX7_waitsFor_24 (by decide) (fun hc => ?_) (fun hc => ?_)
        · have h := ts_ifn h hc
          refine tv_iconst C (pc := 41) dX7_waitsFor_41 (v := (0 : Int32)) rfl ?_
          refine tv_ior C (pc := 42) dX7_waitsFor_42 ?_
          refine tv_nmI (fun x2 hx2 => ?_)
          have h := ts_lt h hx2
          refine tv_istore_n C (pc := 43) dX7_waitsFor_43 (L' := [some (.inr (30, 0, 0)), some (.inl (.int c1)), some (.inl (.int x2)), some (.inl (.int v3))]) rfl (by decide) rfl rfl ?_
          refine tv_iinc C (pc := 44) dX7_waitsFor_44 (v := (v3 + (1 : Int32))) (L' := [some (.inr (30, 0, 0)), some (.inl (.int c1)), some (.inl (.int x2)), some (.inl (.int (v3 + (1 : Int32))))]) rfl rfl (by decide) rfl rfl ?_
          refine tv_goto C (pc := 47) 4 dX7_waitsFor_47 (by decide) ?_
          exact lt_X7_waitsFor_4 hl C hdd c1 u hkn n x2 (v3 + (1 : Int32)) q h K
        · have h := ts_ifp h hc
          refine tv_aload_n C (pc := 27) dX7_waitsFor_27 rfl rfl ?_
          refine tv_iload_n C (pc := 28) dX7_waitsFor_28 rfl rfl ?_
          obtain ⟨q3, hq3, h⟩ := ts_bd h
          refine tv_callV C (pc := 29) dX7_waitsFor_29 (ci := 7) (q := (RX7, TX7, 37)) rfl yl_X7_117 (m_X7_isUncommitted (D := D) (dT := dT) (sz := sz) (ad := ad) hl v3 u q3 hq3) (ts_live (k := 30) (by decide) (by decide) (by decide)) rfl (Nat.le_trans (Nat.le_of_ble_eq_true rfl) hdd) (As := [.inl (.int v3)]) rfl ⟨hkn.1, hkn.2⟩ (fun _ => Nat.le_of_ble_eq_true rfl) rfl ?_
          refine tv_if_eq C (pc := 32) 41 dX7_waitsFor_32 (by decide) (fun hc => ?_) (fun hc => ?_)
          · have h := ts_ifp h hc
            refine tv_iconst C (pc := 41) dX7_waitsFor_41 (v := (0 : Int32)) rfl ?_
            refine tv_ior C (pc := 42) dX7_waitsFor_42 ?_
            refine tv_nmI (fun x4 hx4 => ?_)
            have h := ts_lt h hx4
            refine tv_istore_n C (pc := 43) dX7_waitsFor_43 (L' := [some (.inr (30, 0, 0)), some (.inl (.int c1)), some (.inl (.int x4)), some (.inl (.int v3))]) rfl (by decide) rfl rfl ?_
            refine tv_iinc C (pc := 44) dX7_waitsFor_44 (v := (v3 + (1 : Int32))) (L' := [some (.inr (30, 0, 0)), some (.inl (.int c1)), some (.inl (.int x4)), some (.inl (.int (v3 + (1 : Int32))))]) rfl rfl (by decide) rfl rfl ?_
            refine tv_goto C (pc := 47) 4 dX7_waitsFor_47 (by decide) ?_
            exact lt_X7_waitsFor_4 hl C hdd c1 u hkn n x4 (v3 + (1 : Int32)) q h K
          · have h := ts_ifn h hc
            refine tv_iconst C (pc := 35) dX7_waitsFor_35 (v := (1 : Int32)) rfl ?_
            refine tv_iload_n C (pc := 36) dX7_waitsFor_36 rfl rfl ?_
            refine tv_ishl C (pc := 37) dX7_waitsFor_37 ?_
            refine tv_goto C (pc := 38) 42 dX7_waitsFor_38 (by decide) ?_
            refine tv_ior C (pc := 42) dX7_waitsFor_42 ?_
            refine tv_nmI (fun x5 hx5 => ?_)
            have h := ts_lt h hx5
            refine tv_istore_n C (pc := 43) dX7_waitsFor_43 (L' := [some (.inr (30, 0, 0)), some (.inl (.int c1)), some (.inl (.int x5)), some (.inl (.int v3))]) rfl (by decide) rfl rfl ?_
            refine tv_iinc C (pc := 44) dX7_waitsFor_44 (v := (v3 + (1 : Int32))) (L' := [some (.inr (30, 0, 0)), some (.inl (.int c1)), some (.inl (.int x5)), some (.inl (.int (v3 + (1 : Int32))))]) rfl rfl (by decide) rfl rfl ?_
            refine tv_goto C (pc := 47) 4 dX7_waitsFor_47 (by decide) ?_
            exact lt_X7_waitsFor_4 hl C hdd c1 u hkn n x5 (v3 + (1 : Int32)) q h K
set_option maxRecDepth 100000 in
set_option maxHeartbeats 4000000 in
theorem m_X7_waitsFor {l : Launch} {D : va_G} {dT : Nat → ClassId} {sz : Nat} {ad : ts_I → Nat} (hl : l.stackTraces = false) (p1 : Int32) (u : ts_Mem) (r : Int32) (h : f_X7_waitsFor p1 u = some r) : ts_M l D dT sz yX7_waitsFor wX7_waitsFor 1 0 0 ad ts_lv ts_R0 [.inr (30, 0, 0), .inl (.int p1)] u (.inl (some (.int r))) u := by
    unfold f_X7_waitsFor at h
    refine ts_enter hl (by decide) rfl rfl (Nat.le_of_ble_eq_true rfl) ?_
    intro p e s m args below meth c C hX hnm
    have C : ts_CX D dT sz p l (ts_rm 1 0 0) s m args meth c RX7 cX7_waitsFor 4 (some .int) 1 := C
    have hdd : 1 ≤ 1 := Nat.le_refl _
    refine tv_iconst C (pc := 0) dX7_waitsFor_0 (v := (0 : Int32)) rfl ?_
    refine tv_istore_n C (pc := 1) dX7_waitsFor_1 (L' := [some (.inr (30, 0, 0)), some (.inl (.int p1)), some (.inl (.int (0 : Int32))), none]) rfl (by decide) rfl rfl ?_
    refine tv_iconst C (pc := 2) dX7_waitsFor_2 (v := (0 : Int32)) rfl ?_
    refine tv_istore_n C (pc := 3) dX7_waitsFor_3 (L' := [some (.inr (30, 0, 0)), some (.inl (.int p1)), some (.inl (.int (0 : Int32))), some (.inl (.int (0 : Int32)))]) rfl (by decide) rfl rfl ?_
    obtain ⟨q6, hq6, h⟩ := ts_bd h
    refine lt_X7_waitsFor_4 hl C hdd p1 u ⟨Nat.le_of_ble_eq_true rfl, Nat.le_of_ble_eq_true rfl⟩ ts_fu (0 : Int32) (0 : Int32) q6 hq6 ?_
    refine tv_iload_n C (pc := 50) dX7_waitsFor_50 rfl rfl ?_
    cases h
    exact tv_iret C (pc := 51) rfl dX7_waitsFor_51 ⟨Nat.le_of_ble_eq_true rfl, Nat.le_of_ble_eq_true rfl⟩
set_option maxRecDepth 100000 in
set_option maxHeartbeats 4000000 in
theorem lt_X7_doCommit_25 {D : va_G} {dT : Nat → ClassId} {sz : Nat} {p : Program} {l : Launch} {e : Env} {R : Room} {s : State} {m : MethodId} {args : Array Value} {below : List Frame} {meth : Method} {c : Code} {d : Nat} {ad : ts_I → Nat} {kk nn : Nat} {Q : State → Prop} (hl : l.stackTraces = false) (C : ts_CX D dT sz p l R s m args meth c RX7 cX7_doCommit 5 none d) (hdd : 2 ≤ d) (c1 : Int32) (u : ts_Mem) (hkn : kk ≤ R.cells ∧ nn ≤ R.slots) : ∀ (n : Nat) (v2 : Int32) (v3 : Int32) (q : (Int32 × Int32)) (h : lp_X7_doCommit_25 c1 u n v2 v3 = some q) (K : ts_V D dT sz p l e R s m args below meth c 5 Q ad ts_lv ts_R0 95 [some (.inr (30, 0, 0)), some (.inl (.int c1)), some (.inl (.int q.1)), some (.inl (.int q.2)), none] [] u kk nn), ts_V D dT sz p l e R s m args below meth c 5 Q ad ts_lv ts_R0 25 [some (.inr (30, 0, 0)), some (.inl (.int c1)), some (.inl (.int v2)), some (.inl (.int v3)), none] [] u kk nn
  | 0, _, _, _, h, _ => by cases h
  | n + 1, v2, v3, q, h, K => by
      rw [lp_X7_doCommit_25] at h
      refine tv_iload_n C (pc := 25) dX7_doCommit_25 rfl rfl ?_
      refine tv_aload_n C (pc := 26) dX7_doCommit_26 rfl rfl ?_
      refine tv_getI C (pc := 27) dX7_doCommit_27 fl_X7_103 (ts_live (k := 30) (by decide) (by decide) (by decide)) rfl (cd := 0) rfl (by decide) ?_
      refine tv_icmp_ge C (pc := 30) 95 dX7_doCommit_30 (by decide) (fun hc => ?_) (fun hc => ?_)
      · have h := ts_ifp h hc
        cases h
        exact K
      · have h := ts_ifn h hc
        refine tv_aload_n C (pc := 33) dX7_doCommit_33 rfl rfl ?_
        refine tv_getR C (pc := 34) dX7_doCommit_34 fl_X7_21 (ts_live (k := 30) (by decide) (by decide) (by decide)) rfl rfl (i2 := (31, 0, 0)) rfl ?_
        refine tv_iload_n C (pc := 37) dX7_doCommit_37 rfl rfl ?_
        obtain ⟨hr4, h⟩ := ts_gd h
        refine tv_iaload C (pc := 38) dX7_doCommit_38 (ts_live (k := 31) (by decide) (by decide) (by decide)) rfl hr4 (j := v3.toNatClampNeg) rfl ?_
        refine tv_iconst C (pc := 39) dX7_doCommit_39 (v := (1 : Int32)) rfl ?_
        refine tv_icmp_ne C (pc := 40) 55 dX7_doCommit_40 (by decide) (fun hc => ?_) (fun hc => ?_)
        · have h := ts_ifn h hc
          refine tv_iconst C (pc := 55) dX7_doCommit_55 (v := (0 : Int32)) rfl ?_
          refine tv_istore C (pc := 56) dX7_doCommit_56 (L' := [some (.inr (30, 0, 0)), some (.inl (.int c1)), some (.inl (.int v2)), some (.inl (.int v3)), some (.inl (.int (0 : Int32)))]) (by decide) rfl rfl ?_
          refine tv_iload C (pc := 58) dX7_doCommit_58 rfl ?_
          refine tv_if_eq C (pc := 60) 87 dX7_doCommit_60 (by decide) (fun _ => ?_) (fun hc => absurd hc (by decide))
          refine tv_iload_n C (pc := 87) dX7_doCommit_87 rfl rfl ?_
          refine tv_istore_n C (pc := 88) dX7_doCommit_88 (L' := [some (.inr (30, 0, 0)), some (.inl (.int c1)), some (.inl (.int v2)), some (.inl (.int v3)), some (.inl (.int (0 : Int32)))]) rfl (by decide) rfl rfl ?_
          refine tv_iinc C (pc := 89) dX7_doCommit_89 (v := (v3 + (1 : Int32))) (L' := [some (.inr (30, 0, 0)), some (.inl (.int c1)), some (.inl (.int v2)), some (.inl (.int (v3 + (1 : Int32)))), some (.inl (.int (0 : Int32)))]) rfl rfl (by decide) rfl rfl ?_
          refine tv_goto C (pc := 92) 25 dX7_doCommit_92 (by decide) ?_
          refine tv_drop 4 (L' := [some (.inr (30, 0, 0)), some (.inl (.int c1)), some (.inl (.int v2)), some (.inl (.int (v3 + (1 : Int32)))), none]) rfl ?_
          exact lt_X7_doCommit_25 hl C hdd c1 u hkn n v2 (v3 + (1 : Int32)) q h K
        · have h := ts_ifp h hc
          refine tv_aload_n C (pc := 43) dX7_doCommit_43 rfl rfl ?_
          refine tv_iload_n C (pc := 44) dX7_doCommit_44 rfl rfl ?_
          obtain ⟨q5, hq5, h⟩ := ts_bd h
          refine tv_callV C (pc := 45) dX7_doCommit_45 (ci := 7) (q := (RX7, TX7, 37)) rfl yl_X7_125 (m_X7_waitsFor (D := D) (dT := dT) (sz := sz) (ad := ad) hl v3 u q5 hq5) (ts_live (k := 30) (by decide) (by decide) (by decide)) rfl (Nat.le_trans (Nat.le_of_ble_eq_true rfl) hdd) (As := [.inl (.int v3)]) rfl ⟨hkn.1, hkn.2⟩ (fun _ => Nat.le_of_ble_eq_true rfl) rfl ?_
          refine tv_if_ne C (pc := 48) 55 dX7_doCommit_48 (by decide) (fun hc => ?_) (fun hc => ?_)
          · have h := ts_ifn h hc
            refine tv_iconst C (pc := 55) dX7_doCommit_55 (v := (0 : Int32)) rfl ?_
            refine tv_istore C (pc := 56) dX7_doCommit_56 (L' := [some (.inr (30, 0, 0)), some (.inl (.int c1)), some (.inl (.int v2)), some (.inl (.int v3)), some (.inl (.int (0 : Int32)))]) (by decide) rfl rfl ?_
            refine tv_iload C (pc := 58) dX7_doCommit_58 rfl ?_
            refine tv_if_eq C (pc := 60) 87 dX7_doCommit_60 (by decide) (fun _ => ?_) (fun hc => absurd hc (by decide))
            refine tv_iload_n C (pc := 87) dX7_doCommit_87 rfl rfl ?_
            refine tv_istore_n C (pc := 88) dX7_doCommit_88 (L' := [some (.inr (30, 0, 0)), some (.inl (.int c1)), some (.inl (.int v2)), some (.inl (.int v3)), some (.inl (.int (0 : Int32)))]) rfl (by decide) rfl rfl ?_
            refine tv_iinc C (pc := 89) dX7_doCommit_89 (v := (v3 + (1 : Int32))) (L' := [some (.inr (30, 0, 0)), some (.inl (.int c1)), some (.inl (.int v2)), some (.inl (.int (v3 + (1 : Int32)))), some (.inl (.int (0 : Int32)))]) rfl rfl (by decide) rfl rfl ?_
            refine tv_goto C (pc := 92) 25 dX7_doCommit_92 (by decide) ?_
            refine tv_drop 4 (L' := [some (.inr (30, 0, 0)), some (.inl (.int c1)), some (.inl (.int v2)), some (.inl (.int (v3 + (1 : Int32)))), none]) rfl ?_
            exact lt_X7_doCommit_25 hl C hdd c1 u hkn n v2 (v3 + (1 : Int32)) q h K
          · have h := ts_ifp h hc
            refine tv_iconst C (pc := 51) dX7_doCommit_51 (v := (1 : Int32)) rfl ?_
            refine tv_goto C (pc := 52) 56 dX7_doCommit_52 (by decide) ?_
            refine tv_istore C (pc := 56) dX7_doCommit_56 (L' := [some (.inr (30, 0, 0)), some (.inl (.int c1)), some (.inl (.int v2)), some (.inl (.int v3)), some (.inl (.int (1 : Int32)))]) (by decide) rfl rfl ?_
            refine tv_iload C (pc := 58) dX7_doCommit_58 rfl ?_
            refine tv_if_eq C (pc := 60) 87 dX7_doCommit_60 (by decide) (fun hc => absurd hc (by decide)) (fun _ => ?_)
            refine tv_iload_n C (pc := 63) dX7_doCommit_63 rfl rfl ?_
            refine tv_iconst C (pc := 64) dX7_doCommit_64 (v := (-1 : Int32)) rfl ?_
            refine tv_icmp_eq C (pc := 65) 83 dX7_doCommit_65 (by decide) (fun hc => ?_) (fun hc => ?_)
            · have h := ts_ifp h hc
              refine tv_iload_n C (pc := 83) dX7_doCommit_83 rfl rfl ?_
              refine tv_goto C (pc := 84) 88 dX7_doCommit_84 (by decide) ?_
              refine tv_istore_n C (pc := 88) dX7_doCommit_88 (L' := [some (.inr (30, 0, 0)), some (.inl (.int c1)), some (.inl (.int v3)), some (.inl (.int v3)), some (.inl (.int (1 : Int32)))]) rfl (by decide) rfl rfl ?_
              refine tv_iinc C (pc := 89) dX7_doCommit_89 (v := (v3 + (1 : Int32))) (L' := [some (.inr (30, 0, 0)), some (.inl (.int c1)), some (.inl (.int v3)), some (.inl (.int (v3 + (1 : Int32)))), some (.inl (.int (1 : Int32)))]) rfl rfl (by decide) rfl rfl ?_
              refine tv_goto C (pc := 92) 25 dX7_doCommit_92 (by decide) ?_
              refine tv_drop 4 (L' := [some (.inr (30, 0, 0)), some (.inl (.int c1)), some (.inl (.int v3)), some (.inl (.int (v3 + (1 : Int32)))), none]) rfl ?_
              exact lt_X7_doCommit_25 hl C hdd c1 u hkn n v3 (v3 + (1 : Int32)) q h K
            · have h := ts_ifn h hc
              refine tv_aload_n C (pc := 68) dX7_doCommit_68 rfl rfl ?_
              refine tv_getR C (pc := 69) dX7_doCommit_69 fl_X7_25 (ts_live (k := 30) (by decide) (by decide) (by decide)) rfl rfl (i2 := (32, 0, 0)) rfl ?_
              refine tv_iload_n C (pc := 72) dX7_doCommit_72 rfl rfl ?_
              obtain ⟨hr6, h⟩ := ts_gd h
              refine tv_iaload C (pc := 73) dX7_doCommit_73 (ts_live (k := 32) (by decide) (by decide) (by decide)) rfl hr6 (j := v3.toNatClampNeg) rfl ?_
              refine tv_aload_n C (pc := 74) dX7_doCommit_74 rfl rfl ?_
              refine tv_getR C (pc := 75) dX7_doCommit_75 fl_X7_25 (ts_live (k := 30) (by decide) (by decide) (by decide)) rfl rfl (i2 := (32, 0, 0)) rfl ?_
              refine tv_iload_n C (pc := 78) dX7_doCommit_78 rfl rfl ?_
              obtain ⟨hr7, h⟩ := ts_gd h
              refine tv_iaload C (pc := 79) dX7_doCommit_79 (ts_live (k := 32) (by decide) (by decide) (by decide)) rfl hr7 (j := v2.toNatClampNeg) rfl ?_
              refine tv_icmp_ge C (pc := 80) 87 dX7_doCommit_80 (by decide) (fun hc => ?_) (fun hc => ?_)
              · have h := ts_ifp h hc
                refine tv_iload_n C (pc := 87) dX7_doCommit_87 rfl rfl ?_
                refine tv_istore_n C (pc := 88) dX7_doCommit_88 (L' := [some (.inr (30, 0, 0)), some (.inl (.int c1)), some (.inl (.int v2)), some (.inl (.int v3)), some (.inl (.int (1 : Int32)))]) rfl (by decide) rfl rfl ?_
                refine tv_iinc C (pc := 89) dX7_doCommit_89 (v := (v3 + (1 : Int32))) (L' := [some (.inr (30, 0, 0)), some (.inl (.int c1)), some (.inl (.int v2)), some (.inl (.int (v3 + (1 : Int32)))), some (.inl (.int (1 : Int32)))]) rfl rfl (by decide) rfl rfl ?_
                refine tv_goto C (pc := 92) 25 dX7_doCommit_92 (by decide) ?_
                refine tv_drop 4 (L' := [some (.inr (30, 0, 0)), some (.inl (.int c1)), some (.inl (.int v2)), some (.inl (.int (v3 + (1 : Int32)))), none]) rfl ?_
                exact lt_X7_doCommit_25 hl C hdd c1 u hkn n v2 (v3 + (1 : Int32)) q h K
              · have h := ts_ifn h hc
                refine tv_iload_n C (pc := 83) dX7_doCommit_83 rfl rfl ?_
                refine tv_goto C (pc := 84) 88 dX7_doCommit_84 (by decide) ?_
                refine tv_istore_n C (pc := 88) dX7_doCommit_88 (L' := [some (.inr (30, 0, 0)), some (.inl (.int c1)), some (.inl (.int v3)), some (.inl (.int v3)), some (.inl (.int (1 : Int32)))]) rfl (by decide) rfl rfl ?_
                refine tv_iinc C (pc := 89) dX7_doCommit_89 (v := (v3 + (1 : Int32))) (L' := [some (.inr (30, 0, 0)), some (.inl (.int c1)), some (.inl (.int v3)), some (.inl (.int (v3 + (1 : Int32)))), some (.inl (.int (1 : Int32)))]) rfl rfl (by decide) rfl rfl ?_
                refine tv_goto C (pc := 92) 25 dX7_doCommit_92 (by decide) ?_
                refine tv_drop 4 (L' := [some (.inr (30, 0, 0)), some (.inl (.int c1)), some (.inl (.int v3)), some (.inl (.int (v3 + (1 : Int32)))), none]) rfl ?_
                exact lt_X7_doCommit_25 hl C hdd c1 u hkn n v3 (v3 + (1 : Int32)) q h K
set_option maxRecDepth 100000 in
set_option maxHeartbeats 4000000 in
theorem lt_X7_doCommit_16 {D : va_G} {dT : Nat → ClassId} {sz : Nat} {p : Program} {l : Launch} {e : Env} {R : Room} {s : State} {m : MethodId} {args : Array Value} {below : List Frame} {meth : Method} {c : Code} {d : Nat} {ad : ts_I → Nat} {kk nn : Nat} {Q : State → Prop} (hl : l.stackTraces = false) (C : ts_CX D dT sz p l R s m args meth c RX7 cX7_doCommit 5 none d) (hdd : 2 ≤ d) (c1 : Int32) (hkn : kk ≤ R.cells ∧ nn ≤ R.slots) : ∀ (n : Nat) (v2 : Int32) (u : ts_Mem) (q : (Int32 × ts_Mem)) (h : lp_X7_doCommit_16 c1 n v2 u = some q) (K : ts_V D dT sz p l e R s m args below meth c 5 Q ad ts_lv ts_R0 117 [some (.inr (30, 0, 0)), some (.inl (.int c1)), some (.inl (.int q.1)), none, none] [] q.2 kk nn), ts_V D dT sz p l e R s m args below meth c 5 Q ad ts_lv ts_R0 16 [some (.inr (30, 0, 0)), some (.inl (.int c1)), some (.inl (.int v2)), none, none] [] u kk nn
  | 0, _, _, _, h, _ => by cases h
  | n + 1, v2, u, q, h, K => by
      rw [lp_X7_doCommit_16] at h
      refine tv_iload_n C (pc := 16) dX7_doCommit_16 rfl rfl ?_
      refine tv_iconst C (pc := 17) dX7_doCommit_17 (v := (-1 : Int32)) rfl ?_
      refine tv_icmp_eq C (pc := 18) 117 dX7_doCommit_18 (by decide) (fun hc => ?_) (fun hc => ?_)
      · have h := ts_ifp h hc
        cases h
        exact K
      · have h := ts_ifn h hc
        refine tv_iconst C (pc := 21) dX7_doCommit_21 (v := (-1 : Int32)) rfl ?_
        refine tv_istore_n C (pc := 22) dX7_doCommit_22 (L' := [some (.inr (30, 0, 0)), some (.inl (.int c1)), some (.inl (.int (-1 : Int32))), none, none]) rfl (by decide) rfl rfl ?_
        refine tv_iconst C (pc := 23) dX7_doCommit_23 (v := (0 : Int32)) rfl ?_
        refine tv_istore_n C (pc := 24) dX7_doCommit_24 (L' := [some (.inr (30, 0, 0)), some (.inl (.int c1)), some (.inl (.int (-1 : Int32))), some (.inl (.int (0 : Int32))), none]) rfl (by decide) rfl rfl ?_
        obtain ⟨q8, hq8, h⟩ := ts_bd h
        refine lt_X7_doCommit_25 hl C hdd c1 u hkn ts_fu (-1 : Int32) (0 : Int32) q8 hq8 ?_
        refine tv_iload_n C (pc := 95) dX7_doCommit_95 rfl rfl ?_
        refine tv_iconst C (pc := 96) dX7_doCommit_96 (v := (-1 : Int32)) rfl ?_
        refine tv_icmp_eq C (pc := 97) 16 dX7_doCommit_97 (by decide) (fun hc => ?_) (fun hc => ?_)
        · have h := ts_ifp h hc
          refine tv_drop 3 (L' := [some (.inr (30, 0, 0)), some (.inl (.int c1)), some (.inl (.int q8.1)), none, none]) rfl ?_
          exact lt_X7_doCommit_16 hl C hdd c1 hkn n q8.1 u q h K
        · have h := ts_ifn h hc
          refine tv_aload_n C (pc := 100) dX7_doCommit_100 rfl rfl ?_
          refine tv_getR C (pc := 101) dX7_doCommit_101 fl_X7_21 (ts_live (k := 30) (by decide) (by decide) (by decide)) rfl rfl (i2 := (31, 0, 0)) rfl ?_
          refine tv_iload_n C (pc := 104) dX7_doCommit_104 rfl rfl ?_
          refine tv_iconst C (pc := 105) dX7_doCommit_105 (v := (2 : Int32)) rfl ?_
          obtain ⟨hr9, h⟩ := ts_gd h
          refine tv_iastore C (pc := 106) dX7_doCommit_106 (ts_live (k := 31) (by decide) (by decide) (by decide)) rfl hr9 (j := q8.1.toNatClampNeg) rfl ?_
          refine tv_nu (fun u10 hu10 => ?_)
          have h := ts_lt h hu10
          refine tv_aload_n C (pc := 107) dX7_doCommit_107 rfl rfl ?_
          refine tv_iconst C (pc := 108) dX7_doCommit_108 (v := (5 : Int32)) rfl ?_
          refine tv_iload_n C (pc := 109) dX7_doCommit_109 rfl rfl ?_
          refine tv_iconst C (pc := 110) dX7_doCommit_110 (v := (-1 : Int32)) rfl ?_
          obtain ⟨q11, hq11, h⟩ := ts_bd h
          refine tv_callV C (pc := 111) dX7_doCommit_111 (ci := 7) (q := (RX7, TX7, 37)) rfl yl_X7_109 (m_X7_record (D := D) (dT := dT) (sz := sz) (ad := ad) hl (5 : Int32) q8.1 (-1 : Int32) u10 q11 hq11) (ts_live (k := 30) (by decide) (by decide) (by decide)) rfl (Nat.le_trans (Nat.le_of_ble_eq_true rfl) hdd) (As := [.inl (.int (5 : Int32)), .inl (.int q8.1), .inl (.int (-1 : Int32))]) rfl ⟨hkn.1, hkn.2⟩ (fun _ => Nat.le_of_ble_eq_true rfl) rfl ?_
          refine tv_goto C (pc := 114) 16 dX7_doCommit_114 (by decide) ?_
          refine tv_drop 3 (L' := [some (.inr (30, 0, 0)), some (.inl (.int c1)), some (.inl (.int q8.1)), none, none]) rfl ?_
          exact lt_X7_doCommit_16 hl C hdd c1 hkn n q8.1 q11 q h K
set_option maxRecDepth 100000 in
set_option maxHeartbeats 4000000 in
theorem m_X7_doCommit {l : Launch} {D : va_G} {dT : Nat → ClassId} {sz : Nat} {ad : ts_I → Nat} (hl : l.stackTraces = false) (p1 : Int32) (u : ts_Mem) (r : ts_Mem) (h : f_X7_doCommit p1 u = some r) : ts_M l D dT sz yX7_doCommit wX7_doCommit 2 0 0 ad ts_lv ts_R0 [.inr (30, 0, 0), .inl (.int p1)] u (.inl none) r := by
    unfold f_X7_doCommit at h
    refine ts_enter hl (by decide) rfl rfl (Nat.le_of_ble_eq_true rfl) ?_
    intro p e s m args below meth c C hX hnm
    have C : ts_CX D dT sz p l (ts_rm 2 0 0) s m args meth c RX7 cX7_doCommit 5 none 2 := C
    have hdd : 2 ≤ 2 := Nat.le_refl _
    refine tv_aload_n C (pc := 0) dX7_doCommit_0 rfl rfl ?_
    refine tv_getR C (pc := 1) dX7_doCommit_1 fl_X7_21 (ts_live (k := 30) (by decide) (by decide) (by decide)) rfl rfl (i2 := (31, 0, 0)) rfl ?_
    refine tv_iload_n C (pc := 4) dX7_doCommit_4 rfl rfl ?_
    refine tv_iconst C (pc := 5) dX7_doCommit_5 (v := (2 : Int32)) rfl ?_
    obtain ⟨hr1, h⟩ := ts_gd h
    refine tv_iastore C (pc := 6) dX7_doCommit_6 (ts_live (k := 31) (by decide) (by decide) (by decide)) rfl hr1 (j := p1.toNatClampNeg) rfl ?_
    refine tv_nu (fun u2 hu2 => ?_)
    have h := ts_lt h hu2
    refine tv_aload_n C (pc := 7) dX7_doCommit_7 rfl rfl ?_
    refine tv_iconst C (pc := 8) dX7_doCommit_8 (v := (5 : Int32)) rfl ?_
    refine tv_iload_n C (pc := 9) dX7_doCommit_9 rfl rfl ?_
    refine tv_iconst C (pc := 10) dX7_doCommit_10 (v := (-1 : Int32)) rfl ?_
    obtain ⟨q3, hq3, h⟩ := ts_bd h
    refine tv_callV C (pc := 11) dX7_doCommit_11 (ci := 7) (q := (RX7, TX7, 37)) rfl yl_X7_109 (m_X7_record (D := D) (dT := dT) (sz := sz) (ad := ad) hl (5 : Int32) p1 (-1 : Int32) u2 q3 hq3) (ts_live (k := 30) (by decide) (by decide) (by decide)) rfl (Nat.le_trans (Nat.le_of_ble_eq_true rfl) hdd) (As := [.inl (.int (5 : Int32)), .inl (.int p1), .inl (.int (-1 : Int32))]) rfl ⟨Nat.le_of_ble_eq_true rfl, Nat.le_of_ble_eq_true rfl⟩ (fun _ => Nat.le_of_ble_eq_true rfl) rfl ?_
    refine tv_iload_n C (pc := 14) dX7_doCommit_14 rfl rfl ?_
    refine tv_istore_n C (pc := 15) dX7_doCommit_15 (L' := [some (.inr (30, 0, 0)), some (.inl (.int p1)), some (.inl (.int p1)), none, none]) rfl (by decide) rfl rfl ?_
    obtain ⟨q12, hq12, h⟩ := ts_bd h
    refine lt_X7_doCommit_16 hl C hdd p1 ⟨Nat.le_of_ble_eq_true rfl, Nat.le_of_ble_eq_true rfl⟩ ts_fu p1 q3 q12 hq12 ?_
    cases h
    exact tv_vret C (pc := 117) rfl dX7_doCommit_117 ⟨Nat.le_of_ble_eq_true rfl, Nat.le_of_ble_eq_true rfl⟩
set_option maxRecDepth 100000 in
set_option maxHeartbeats 4000000 in
theorem m_X7_problem {l : Launch} {D : va_G} {dT : Nat → ClassId} {sz : Nat} {ad : ts_I → Nat} (hl : l.stackTraces = false) (p1 : Int32) (u : ts_Mem) (r : Int32) (h : f_X7_problem p1 u = some r) : ts_M l D dT sz yX7_problem wX7_problem 2 0 0 ad ts_lv ts_R0 [.inr (30, 0, 0), .inl (.int p1)] u (.inl (some (.int r))) u := by
    unfold f_X7_problem at h
    refine ts_enter hl (by decide) rfl rfl (Nat.le_of_ble_eq_true rfl) ?_
    intro p e s m args below meth c C hX hnm
    have C : ts_CX D dT sz p l (ts_rm 2 0 0) s m args meth c RX7 cX7_problem 2 (some .int) 2 := C
    have hdd : 2 ≤ 2 := Nat.le_refl _
    refine tv_aload_n C (pc := 0) dX7_problem_0 rfl rfl ?_
    refine tv_iload_n C (pc := 1) dX7_problem_1 rfl rfl ?_
    obtain ⟨q1, hq1, h⟩ := ts_bd h
    refine tv_callV C (pc := 2) dX7_problem_2 (ci := 7) (q := (RX7, TX7, 37)) rfl yl_X7_128 (m_X7_isTransaction (D := D) (dT := dT) (sz := sz) (ad := ad) hl p1 u q1 hq1) (ts_live (k := 30) (by decide) (by decide) (by decide)) rfl (Nat.le_trans (Nat.le_of_ble_eq_true rfl) hdd) (As := [.inl (.int p1)]) rfl ⟨Nat.le_of_ble_eq_true rfl, Nat.le_of_ble_eq_true rfl⟩ (fun _ => Nat.le_of_ble_eq_true rfl) rfl ?_
    refine tv_if_ne C (pc := 5) 12 dX7_problem_5 (by decide) (fun hc => ?_) (fun hc => ?_)
    · have h := ts_ifn h hc
      refine tv_aload_n C (pc := 12) dX7_problem_12 rfl rfl ?_
      refine tv_getR C (pc := 13) dX7_problem_13 fl_X7_21 (ts_live (k := 30) (by decide) (by decide) (by decide)) rfl rfl (i2 := (31, 0, 0)) rfl ?_
      refine tv_iload_n C (pc := 16) dX7_problem_16 rfl rfl ?_
      obtain ⟨hr2, h⟩ := ts_gd h
      refine tv_iaload C (pc := 17) dX7_problem_17 (ts_live (k := 31) (by decide) (by decide) (by decide)) rfl hr2 (j := p1.toNatClampNeg) rfl ?_
      refine tv_if_eq C (pc := 18) 25 dX7_problem_18 (by decide) (fun hc => ?_) (fun hc => ?_)
      · have h := ts_ifp h hc
        refine tv_iconst C (pc := 25) dX7_problem_25 (v := (0 : Int32)) rfl ?_
        cases h
        exact tv_iret C (pc := 26) rfl dX7_problem_26 ⟨Nat.le_of_ble_eq_true rfl, Nat.le_of_ble_eq_true rfl⟩
      · have h := ts_ifn h hc
        refine tv_iconst C (pc := 21) dX7_problem_21 (v := (2 : Int32)) rfl ?_
        refine tv_goto C (pc := 22) 26 dX7_problem_22 (by decide) ?_
        cases h
        exact tv_iret C (pc := 26) rfl dX7_problem_26 ⟨Nat.le_of_ble_eq_true rfl, Nat.le_of_ble_eq_true rfl⟩
    · have h := ts_ifp h hc
      refine tv_iconst C (pc := 8) dX7_problem_8 (v := (1 : Int32)) rfl ?_
      refine tv_goto C (pc := 9) 26 dX7_problem_9 (by decide) ?_
      cases h
      exact tv_iret C (pc := 26) rfl dX7_problem_26 ⟨Nat.le_of_ble_eq_true rfl, Nat.le_of_ble_eq_true rfl⟩
set_option maxRecDepth 100000 in
set_option maxHeartbeats 4000000 in
theorem m_X7_commits {l : Launch} {D : va_G} {dT : Nat → ClassId} {sz : Nat} {ad : ts_I → Nat} (hl : l.stackTraces = false) (p1 : Int32) (u : ts_Mem) (r : (Int32 × ts_Mem)) (h : f_X7_commits p1 u = some r) : ts_M l D dT sz yX7_commits wX7_commits 3 0 0 ad ts_lv ts_R0 [.inr (30, 0, 0), .inl (.int p1)] u (.inl (some (.int r.1))) r.2 := by
    unfold f_X7_commits at h
    refine ts_enter hl (by decide) rfl rfl (Nat.le_of_ble_eq_true rfl) ?_
    intro p e s m args below meth c C hX hnm
    have C : ts_CX D dT sz p l (ts_rm 3 0 0) s m args meth c RX7 cX7_commits 2 (some .boolean) 3 := C
    have hdd : 3 ≤ 3 := Nat.le_refl _
    refine tv_aload_n C (pc := 0) dX7_commits_0 rfl rfl ?_
    refine tv_iload_n C (pc := 1) dX7_commits_1 rfl rfl ?_
    obtain ⟨q1, hq1, h⟩ := ts_bd h
    refine tv_callV C (pc := 2) dX7_commits_2 (ci := 7) (q := (RX7, TX7, 37)) rfl yl_X7_125 (m_X7_waitsFor (D := D) (dT := dT) (sz := sz) (ad := ad) hl p1 u q1 hq1) (ts_live (k := 30) (by decide) (by decide) (by decide)) rfl (Nat.le_trans (Nat.le_of_ble_eq_true rfl) hdd) (As := [.inl (.int p1)]) rfl ⟨Nat.le_of_ble_eq_true rfl, Nat.le_of_ble_eq_true rfl⟩ (fun _ => Nat.le_of_ble_eq_true rfl) rfl ?_
    refine tv_if_ne C (pc := 5) 15 dX7_commits_5 (by decide) (fun hc => ?_) (fun hc => ?_)
    · have h := ts_ifn h hc
      refine tv_aload_n C (pc := 15) dX7_commits_15 rfl rfl ?_
      refine tv_getR C (pc := 16) dX7_commits_16 fl_X7_21 (ts_live (k := 30) (by decide) (by decide) (by decide)) rfl rfl (i2 := (31, 0, 0)) rfl ?_
      refine tv_iload_n C (pc := 19) dX7_commits_19 rfl rfl ?_
      refine tv_iconst C (pc := 20) dX7_commits_20 (v := (1 : Int32)) rfl ?_
      obtain ⟨hr2, h⟩ := ts_gd h
      refine tv_iastore C (pc := 21) dX7_commits_21 (ts_live (k := 31) (by decide) (by decide) (by decide)) rfl hr2 (j := p1.toNatClampNeg) rfl ?_
      refine tv_nu (fun u3 hu3 => ?_)
      have h := ts_lt h hu3
      refine tv_aload_n C (pc := 22) dX7_commits_22 rfl rfl ?_
      refine tv_iconst C (pc := 23) dX7_commits_23 (v := (4 : Int32)) rfl ?_
      refine tv_iload_n C (pc := 24) dX7_commits_24 rfl rfl ?_
      refine tv_iconst C (pc := 25) dX7_commits_25 (v := (-1 : Int32)) rfl ?_
      obtain ⟨q4, hq4, h⟩ := ts_bd h
      refine tv_callV C (pc := 26) dX7_commits_26 (ci := 7) (q := (RX7, TX7, 37)) rfl yl_X7_109 (m_X7_record (D := D) (dT := dT) (sz := sz) (ad := ad) hl (4 : Int32) p1 (-1 : Int32) u3 q4 hq4) (ts_live (k := 30) (by decide) (by decide) (by decide)) rfl (Nat.le_trans (Nat.le_of_ble_eq_true rfl) hdd) (As := [.inl (.int (4 : Int32)), .inl (.int p1), .inl (.int (-1 : Int32))]) rfl ⟨Nat.le_of_ble_eq_true rfl, Nat.le_of_ble_eq_true rfl⟩ (fun _ => Nat.le_of_ble_eq_true rfl) rfl ?_
      refine tv_iconst C (pc := 29) dX7_commits_29 (v := (0 : Int32)) rfl ?_
      cases h
      exact tv_zret C (pc := 30) (v := (0 : Int32)) rfl ts_nz0 dX7_commits_30 ⟨Nat.le_of_ble_eq_true rfl, Nat.le_of_ble_eq_true rfl⟩
    · have h := ts_ifp h hc
      refine tv_aload_n C (pc := 8) dX7_commits_8 rfl rfl ?_
      refine tv_iload_n C (pc := 9) dX7_commits_9 rfl rfl ?_
      obtain ⟨q5, hq5, h⟩ := ts_bd h
      refine tv_callV C (pc := 10) dX7_commits_10 (ci := 7) (q := (RX7, TX7, 37)) rfl yl_X7_131 (m_X7_doCommit (D := D) (dT := dT) (sz := sz) (ad := ad) hl p1 u q5 hq5) (ts_live (k := 30) (by decide) (by decide) (by decide)) rfl (Nat.le_trans (Nat.le_of_ble_eq_true rfl) hdd) (As := [.inl (.int p1)]) rfl ⟨Nat.le_of_ble_eq_true rfl, Nat.le_of_ble_eq_true rfl⟩ (fun _ => Nat.le_of_ble_eq_true rfl) rfl ?_
      refine tv_iconst C (pc := 13) dX7_commits_13 (v := (1 : Int32)) rfl ?_
      cases h
      exact tv_zret C (pc := 14) (v := (1 : Int32)) rfl ts_nz1 dX7_commits_14 ⟨Nat.le_of_ble_eq_true rfl, Nat.le_of_ble_eq_true rfl⟩
set_option maxRecDepth 100000 in
set_option maxHeartbeats 4000000 in
theorem m_X7_commit {l : Launch} {D : va_G} {dT : Nat → ClassId} {sz : Nat} {ad : ts_I → Nat} (hl : l.stackTraces = false) (p1 : Int32) (u : ts_Mem) (r : (Int32 × ts_Mem)) (h : f_X7_commit p1 u = some r) : ts_M l D dT sz yX7_commit wX7_commit 4 0 0 ad ts_lv ts_R0 [.inr (30, 0, 0), .inl (.int p1)] u (.inl (some (.int r.1))) r.2 := by
    unfold f_X7_commit at h
    refine ts_enter hl (by decide) rfl rfl (Nat.le_of_ble_eq_true rfl) ?_
    intro p e s m args below meth c C hX hnm
    have C : ts_CX D dT sz p l (ts_rm 4 0 0) s m args meth c RX7 cX7_commit 2 (some .boolean) 4 := C
    have hdd : 4 ≤ 4 := Nat.le_refl _
    refine tv_aload_n C (pc := 0) dX7_commit_0 rfl rfl ?_
    refine tv_aload_n C (pc := 1) dX7_commit_1 rfl rfl ?_
    refine tv_iload_n C (pc := 2) dX7_commit_2 rfl rfl ?_
    obtain ⟨q1, hq1, h⟩ := ts_bd h
    refine tv_callV C (pc := 3) dX7_commit_3 (ci := 7) (q := (RX7, TX7, 37)) rfl yl_X7_134 (m_X7_problem (D := D) (dT := dT) (sz := sz) (ad := ad) hl p1 u q1 hq1) (ts_live (k := 30) (by decide) (by decide) (by decide)) rfl (Nat.le_trans (Nat.le_of_ble_eq_true rfl) hdd) (As := [.inl (.int p1)]) rfl ⟨Nat.le_of_ble_eq_true rfl, Nat.le_of_ble_eq_true rfl⟩ (fun _ => Nat.le_of_ble_eq_true rfl) rfl ?_
    refine tv_putI C (pc := 6) dX7_commit_6 fp_X7_3 (ts_live (k := 30) (by decide) (by decide) (by decide)) rfl (cd := 0) rfl (by decide) rfl rfl ?_
    refine tv_nu (fun u2 hu2 => ?_)
    have h := ts_lt h hu2
    refine tv_aload_n C (pc := 9) dX7_commit_9 rfl rfl ?_
    refine tv_getI C (pc := 10) dX7_commit_10 fl_X7_3 (ts_live (k := 30) (by decide) (by decide) (by decide)) rfl (cd := 0) rfl (by decide) ?_
    refine tv_if_ne C (pc := 13) 28 dX7_commit_13 (by decide) (fun hc => ?_) (fun hc => ?_)
    · have h := ts_ifn h hc
      refine tv_iconst C (pc := 28) dX7_commit_28 (v := (0 : Int32)) rfl ?_
      cases h
      exact tv_zret C (pc := 29) (v := (0 : Int32)) rfl ts_nz0 dX7_commit_29 ⟨Nat.le_of_ble_eq_true rfl, Nat.le_of_ble_eq_true rfl⟩
    · have h := ts_ifp h hc
      refine tv_aload_n C (pc := 16) dX7_commit_16 rfl rfl ?_
      refine tv_iload_n C (pc := 17) dX7_commit_17 rfl rfl ?_
      obtain ⟨q3, hq3, h⟩ := ts_bd h
      refine tv_callV C (pc := 18) dX7_commit_18 (ci := 7) (q := (RX7, TX7, 37)) rfl yl_X7_137 (m_X7_commits (D := D) (dT := dT) (sz := sz) (ad := ad) hl p1 u2 q3 hq3) (ts_live (k := 30) (by decide) (by decide) (by decide)) rfl (Nat.le_trans (Nat.le_of_ble_eq_true rfl) hdd) (As := [.inl (.int p1)]) rfl ⟨Nat.le_of_ble_eq_true rfl, Nat.le_of_ble_eq_true rfl⟩ (fun _ => Nat.le_of_ble_eq_true rfl) rfl ?_
      refine tv_if_eq C (pc := 21) 28 dX7_commit_21 (by decide) (fun hc => ?_) (fun hc => ?_)
      · have h := ts_ifp h hc
        refine tv_iconst C (pc := 28) dX7_commit_28 (v := (0 : Int32)) rfl ?_
        cases h
        exact tv_zret C (pc := 29) (v := (0 : Int32)) rfl ts_nz0 dX7_commit_29 ⟨Nat.le_of_ble_eq_true rfl, Nat.le_of_ble_eq_true rfl⟩
      · have h := ts_ifn h hc
        refine tv_iconst C (pc := 24) dX7_commit_24 (v := (1 : Int32)) rfl ?_
        refine tv_goto C (pc := 25) 29 dX7_commit_25 (by decide) ?_
        cases h
        exact tv_zret C (pc := 29) (v := (1 : Int32)) rfl ts_nz1 dX7_commit_29 ⟨Nat.le_of_ble_eq_true rfl, Nat.le_of_ble_eq_true rfl⟩
set_option maxRecDepth 100000 in
set_option maxHeartbeats 4000000 in
theorem m_X7_abort {l : Launch} {D : va_G} {dT : Nat → ClassId} {sz : Nat} {ad : ts_I → Nat} (hl : l.stackTraces = false) (p1 : Int32) (u : ts_Mem) (r : (Int32 × ts_Mem)) (h : f_X7_abort p1 u = some r) : ts_M l D dT sz yX7_abort wX7_abort 21 0 0 ad ts_lv ts_R0 [.inr (30, 0, 0), .inl (.int p1)] u (.inl (some (.int r.1))) r.2 := by
    unfold f_X7_abort at h
    refine ts_enter hl (by decide) rfl rfl (Nat.le_of_ble_eq_true rfl) ?_
    intro p e s m args below meth c C hX hnm
    have C : ts_CX D dT sz p l (ts_rm 21 0 0) s m args meth c RX7 cX7_abort 2 (some .int) 21 := C
    have hdd : 21 ≤ 21 := Nat.le_refl _
    refine tv_aload_n C (pc := 0) dX7_abort_0 rfl rfl ?_
    refine tv_aload_n C (pc := 1) dX7_abort_1 rfl rfl ?_
    refine tv_iload_n C (pc := 2) dX7_abort_2 rfl rfl ?_
    obtain ⟨q1, hq1, h⟩ := ts_bd h
    refine tv_callV C (pc := 3) dX7_abort_3 (ci := 7) (q := (RX7, TX7, 37)) rfl yl_X7_128 (m_X7_isTransaction (D := D) (dT := dT) (sz := sz) (ad := ad) hl p1 u q1 hq1) (ts_live (k := 30) (by decide) (by decide) (by decide)) rfl (Nat.le_trans (Nat.le_of_ble_eq_true rfl) hdd) (As := [.inl (.int p1)]) rfl ⟨Nat.le_of_ble_eq_true rfl, Nat.le_of_ble_eq_true rfl⟩ (fun _ => Nat.le_of_ble_eq_true rfl) rfl ?_
    refine tv_if_ne C (pc := 6) 13 dX7_abort_6 (by decide) (fun hc => ?_) (fun hc => ?_)
    · have h := ts_ifn h hc
      refine tv_aload_n C (pc := 13) dX7_abort_13 rfl rfl ?_
      refine tv_iload_n C (pc := 14) dX7_abort_14 rfl rfl ?_
      obtain ⟨q2, hq2, h⟩ := ts_bd h
      refine tv_callV C (pc := 15) dX7_abort_15 (ci := 7) (q := (RX7, TX7, 37)) rfl yl_X7_117 (m_X7_isUncommitted (D := D) (dT := dT) (sz := sz) (ad := ad) hl p1 u q2 hq2) (ts_live (k := 30) (by decide) (by decide) (by decide)) rfl (Nat.le_trans (Nat.le_of_ble_eq_true rfl) hdd) (As := [.inl (.int p1)]) rfl ⟨Nat.le_of_ble_eq_true rfl, Nat.le_of_ble_eq_true rfl⟩ (fun _ => Nat.le_of_ble_eq_true rfl) rfl ?_
      refine tv_if_eq C (pc := 18) 25 dX7_abort_18 (by decide) (fun hc => ?_) (fun hc => ?_)
      · have h := ts_ifp h hc
        refine tv_iconst C (pc := 25) dX7_abort_25 (v := (2 : Int32)) rfl ?_
        refine tv_putI C (pc := 26) dX7_abort_26 fp_X7_3 (ts_live (k := 30) (by decide) (by decide) (by decide)) rfl (cd := 0) rfl (by decide) rfl rfl ?_
        refine tv_nu (fun u3 hu3 => ?_)
        have h := ts_lt h hu3
        refine tv_aload_n C (pc := 29) dX7_abort_29 rfl rfl ?_
        refine tv_getI C (pc := 30) dX7_abort_30 fl_X7_3 (ts_live (k := 30) (by decide) (by decide) (by decide)) rfl (cd := 0) rfl (by decide) ?_
        refine tv_if_ne C (pc := 33) 47 dX7_abort_33 (by decide) (fun hc => ?_) (fun hc => ?_)
        · have h := ts_ifn h hc
          refine tv_iconst C (pc := 47) dX7_abort_47 (v := (0 : Int32)) rfl ?_
          cases h
          exact tv_iret C (pc := 48) rfl dX7_abort_48 ⟨Nat.le_of_ble_eq_true rfl, Nat.le_of_ble_eq_true rfl⟩
        · have h := ts_ifp h hc
          refine tv_aload_n C (pc := 36) dX7_abort_36 rfl rfl ?_
          refine tv_iload_n C (pc := 37) dX7_abort_37 rfl rfl ?_
          refine tv_bipush C (pc := 38) dX7_abort_38 (v := (6 : Int32)) rfl ?_
          refine tv_iconst C (pc := 40) dX7_abort_40 (v := (-1 : Int32)) rfl ?_
          obtain ⟨q4, hq4, h⟩ := ts_bd h
          refine tv_callV C (pc := 41) dX7_abort_41 (ci := 7) (q := (RX7, TX7, 37)) rfl yl_X7_121 (m_X7_doAbort (D := D) (dT := dT) (sz := sz) (ad := ad) hl 17 p1 (6 : Int32) (-1 : Int32) u3 q4 hq4) (ts_live (k := 30) (by decide) (by decide) (by decide)) rfl (Nat.le_trans (Nat.le_of_ble_eq_true rfl) hdd) (As := [.inl (.int p1), .inl (.int (6 : Int32)), .inl (.int (-1 : Int32))]) rfl ⟨Nat.le_of_ble_eq_true rfl, Nat.le_of_ble_eq_true rfl⟩ (fun _ => Nat.le_of_ble_eq_true rfl) rfl ?_
          refine tv_goto C (pc := 44) 48 dX7_abort_44 (by decide) ?_
          cases h
          exact tv_iret C (pc := 48) rfl dX7_abort_48 ⟨Nat.le_of_ble_eq_true rfl, Nat.le_of_ble_eq_true rfl⟩
      · have h := ts_ifn h hc
        refine tv_iconst C (pc := 21) dX7_abort_21 (v := (0 : Int32)) rfl ?_
        refine tv_goto C (pc := 22) 26 dX7_abort_22 (by decide) ?_
        refine tv_putI C (pc := 26) dX7_abort_26 fp_X7_3 (ts_live (k := 30) (by decide) (by decide) (by decide)) rfl (cd := 0) rfl (by decide) rfl rfl ?_
        refine tv_nu (fun u5 hu5 => ?_)
        have h := ts_lt h hu5
        refine tv_aload_n C (pc := 29) dX7_abort_29 rfl rfl ?_
        refine tv_getI C (pc := 30) dX7_abort_30 fl_X7_3 (ts_live (k := 30) (by decide) (by decide) (by decide)) rfl (cd := 0) rfl (by decide) ?_
        refine tv_if_ne C (pc := 33) 47 dX7_abort_33 (by decide) (fun hc => ?_) (fun hc => ?_)
        · have h := ts_ifn h hc
          refine tv_iconst C (pc := 47) dX7_abort_47 (v := (0 : Int32)) rfl ?_
          cases h
          exact tv_iret C (pc := 48) rfl dX7_abort_48 ⟨Nat.le_of_ble_eq_true rfl, Nat.le_of_ble_eq_true rfl⟩
        · have h := ts_ifp h hc
          refine tv_aload_n C (pc := 36) dX7_abort_36 rfl rfl ?_
          refine tv_iload_n C (pc := 37) dX7_abort_37 rfl rfl ?_
          refine tv_bipush C (pc := 38) dX7_abort_38 (v := (6 : Int32)) rfl ?_
          refine tv_iconst C (pc := 40) dX7_abort_40 (v := (-1 : Int32)) rfl ?_
          obtain ⟨q6, hq6, h⟩ := ts_bd h
          refine tv_callV C (pc := 41) dX7_abort_41 (ci := 7) (q := (RX7, TX7, 37)) rfl yl_X7_121 (m_X7_doAbort (D := D) (dT := dT) (sz := sz) (ad := ad) hl 17 p1 (6 : Int32) (-1 : Int32) u5 q6 hq6) (ts_live (k := 30) (by decide) (by decide) (by decide)) rfl (Nat.le_trans (Nat.le_of_ble_eq_true rfl) hdd) (As := [.inl (.int p1), .inl (.int (6 : Int32)), .inl (.int (-1 : Int32))]) rfl ⟨Nat.le_of_ble_eq_true rfl, Nat.le_of_ble_eq_true rfl⟩ (fun _ => Nat.le_of_ble_eq_true rfl) rfl ?_
          refine tv_goto C (pc := 44) 48 dX7_abort_44 (by decide) ?_
          cases h
          exact tv_iret C (pc := 48) rfl dX7_abort_48 ⟨Nat.le_of_ble_eq_true rfl, Nat.le_of_ble_eq_true rfl⟩
    · have h := ts_ifp h hc
      refine tv_iconst C (pc := 9) dX7_abort_9 (v := (1 : Int32)) rfl ?_
      refine tv_goto C (pc := 10) 26 dX7_abort_10 (by decide) ?_
      refine tv_putI C (pc := 26) dX7_abort_26 fp_X7_3 (ts_live (k := 30) (by decide) (by decide) (by decide)) rfl (cd := 0) rfl (by decide) rfl rfl ?_
      refine tv_nu (fun u7 hu7 => ?_)
      have h := ts_lt h hu7
      refine tv_aload_n C (pc := 29) dX7_abort_29 rfl rfl ?_
      refine tv_getI C (pc := 30) dX7_abort_30 fl_X7_3 (ts_live (k := 30) (by decide) (by decide) (by decide)) rfl (cd := 0) rfl (by decide) ?_
      refine tv_if_ne C (pc := 33) 47 dX7_abort_33 (by decide) (fun hc => ?_) (fun hc => ?_)
      · have h := ts_ifn h hc
        refine tv_iconst C (pc := 47) dX7_abort_47 (v := (0 : Int32)) rfl ?_
        cases h
        exact tv_iret C (pc := 48) rfl dX7_abort_48 ⟨Nat.le_of_ble_eq_true rfl, Nat.le_of_ble_eq_true rfl⟩
      · have h := ts_ifp h hc
        refine tv_aload_n C (pc := 36) dX7_abort_36 rfl rfl ?_
        refine tv_iload_n C (pc := 37) dX7_abort_37 rfl rfl ?_
        refine tv_bipush C (pc := 38) dX7_abort_38 (v := (6 : Int32)) rfl ?_
        refine tv_iconst C (pc := 40) dX7_abort_40 (v := (-1 : Int32)) rfl ?_
        obtain ⟨q8, hq8, h⟩ := ts_bd h
        refine tv_callV C (pc := 41) dX7_abort_41 (ci := 7) (q := (RX7, TX7, 37)) rfl yl_X7_121 (m_X7_doAbort (D := D) (dT := dT) (sz := sz) (ad := ad) hl 17 p1 (6 : Int32) (-1 : Int32) u7 q8 hq8) (ts_live (k := 30) (by decide) (by decide) (by decide)) rfl (Nat.le_trans (Nat.le_of_ble_eq_true rfl) hdd) (As := [.inl (.int p1), .inl (.int (6 : Int32)), .inl (.int (-1 : Int32))]) rfl ⟨Nat.le_of_ble_eq_true rfl, Nat.le_of_ble_eq_true rfl⟩ (fun _ => Nat.le_of_ble_eq_true rfl) rfl ?_
        refine tv_goto C (pc := 44) 48 dX7_abort_44 (by decide) ?_
        cases h
        exact tv_iret C (pc := 48) rfl dX7_abort_48 ⟨Nat.le_of_ble_eq_true rfl, Nat.le_of_ble_eq_true rfl⟩
set_option maxRecDepth 100000 in
set_option maxHeartbeats 4000000 in
theorem lt_X7_lastUpTo_5 {D : va_G} {dT : Nat → ClassId} {sz : Nat} {p : Program} {l : Launch} {e : Env} {R : Room} {s : State} {m : MethodId} {args : Array Value} {below : List Frame} {meth : Method} {c : Code} {d : Nat} {ad : ts_I → Nat} {kk nn : Nat} {Q : State → Prop} (hl : l.stackTraces = false) (C : ts_CX D dT sz p l R s m args meth c RX7 cX7_lastUpTo 5 (some .int) d) (hdd : 2 ≤ d) (c1 : Int32) (c2 : Int32) (u : ts_Mem) (hkn : kk ≤ R.cells ∧ nn ≤ R.slots) : ∀ (n : Nat) (v3 : Int32) (v4 : Int32) (q : (Int32 × Int32)) (h : lp_X7_lastUpTo_5 c1 c2 u n v3 v4 = some q) (K : ts_V D dT sz p l e R s m args below meth c 5 Q ad ts_lv ts_R0 40 [some (.inr (30, 0, 0)), some (.inl (.int c1)), some (.inl (.int c2)), some (.inl (.int q.1)), some (.inl (.int q.2))] [] u kk nn), ts_V D dT sz p l e R s m args below meth c 5 Q ad ts_lv ts_R0 5 [some (.inr (30, 0, 0)), some (.inl (.int c1)), some (.inl (.int c2)), some (.inl (.int v3)), some (.inl (.int v4))] [] u kk nn
  | 0, _, _, _, h, _ => by cases h
  | n + 1, v3, v4, q, h, K => by
      rw [lp_X7_lastUpTo_5] at h
      refine tv_iload C (pc := 5) dX7_lastUpTo_5 rfl ?_
      refine tv_aload_n C (pc := 7) dX7_lastUpTo_7 rfl rfl ?_
      refine tv_getR C (pc := 8) dX7_lastUpTo_8 fl_X7_43 (ts_live (k := 30) (by decide) (by decide) (by decide)) rfl rfl (i2 := (38, 0, 0)) rfl ?_
      refine tv_iload_n C (pc := 11) dX7_lastUpTo_11 rfl rfl ?_
      obtain ⟨hr1, h⟩ := ts_gd h
      refine tv_iaload C (pc := 12) dX7_lastUpTo_12 (ts_live (k := 38) (by decide) (by decide) (by decide)) rfl hr1 (j := c1.toNatClampNeg) rfl ?_
      refine tv_icmp_ge C (pc := 13) 40 dX7_lastUpTo_13 (by decide) (fun hc => ?_) (fun hc => ?_)
      · have h := ts_ifp h hc
        cases h
        exact K
      · have h := ts_ifn h hc
        refine tv_aload_n C (pc := 16) dX7_lastUpTo_16 rfl rfl ?_
        refine tv_iload_n C (pc := 17) dX7_lastUpTo_17 rfl rfl ?_
        refine tv_iload C (pc := 18) dX7_lastUpTo_18 rfl ?_
        obtain ⟨q2, hq2, h⟩ := ts_bd h
        refine tv_callV C (pc := 20) dX7_lastUpTo_20 (ci := 7) (q := (RX7, TX7, 37)) rfl yl_X7_140 (m_X7_written (D := D) (dT := dT) (sz := sz) (ad := ad) hl c1 v4 u q2 hq2) (ts_live (k := 30) (by decide) (by decide) (by decide)) rfl (Nat.le_trans (Nat.le_of_ble_eq_true rfl) hdd) (As := [.inl (.int c1), .inl (.int v4)]) rfl ⟨hkn.1, hkn.2⟩ (fun _ => Nat.le_of_ble_eq_true rfl) rfl ?_
        refine tv_iload_n C (pc := 23) dX7_lastUpTo_23 rfl rfl ?_
        refine tv_icmp_gt C (pc := 24) 32 dX7_lastUpTo_24 (by decide) (fun hc => ?_) (fun hc => ?_)
        · have h := ts_ifp h hc
          refine tv_iload_n C (pc := 32) dX7_lastUpTo_32 rfl rfl ?_
          refine tv_istore_n C (pc := 33) dX7_lastUpTo_33 (L' := [some (.inr (30, 0, 0)), some (.inl (.int c1)), some (.inl (.int c2)), some (.inl (.int v3)), some (.inl (.int v4))]) rfl (by decide) rfl rfl ?_
          refine tv_iinc C (pc := 34) dX7_lastUpTo_34 (v := (v4 + (1 : Int32))) (L' := [some (.inr (30, 0, 0)), some (.inl (.int c1)), some (.inl (.int c2)), some (.inl (.int v3)), some (.inl (.int (v4 + (1 : Int32))))]) rfl rfl (by decide) rfl rfl ?_
          refine tv_goto C (pc := 37) 5 dX7_lastUpTo_37 (by decide) ?_
          exact lt_X7_lastUpTo_5 hl C hdd c1 c2 u hkn n v3 (v4 + (1 : Int32)) q h K
        · have h := ts_ifn h hc
          refine tv_iload C (pc := 27) dX7_lastUpTo_27 rfl ?_
          refine tv_goto C (pc := 29) 33 dX7_lastUpTo_29 (by decide) ?_
          refine tv_istore_n C (pc := 33) dX7_lastUpTo_33 (L' := [some (.inr (30, 0, 0)), some (.inl (.int c1)), some (.inl (.int c2)), some (.inl (.int v4)), some (.inl (.int v4))]) rfl (by decide) rfl rfl ?_
          refine tv_iinc C (pc := 34) dX7_lastUpTo_34 (v := (v4 + (1 : Int32))) (L' := [some (.inr (30, 0, 0)), some (.inl (.int c1)), some (.inl (.int c2)), some (.inl (.int v4)), some (.inl (.int (v4 + (1 : Int32))))]) rfl rfl (by decide) rfl rfl ?_
          refine tv_goto C (pc := 37) 5 dX7_lastUpTo_37 (by decide) ?_
          exact lt_X7_lastUpTo_5 hl C hdd c1 c2 u hkn n v4 (v4 + (1 : Int32)) q h K
set_option maxRecDepth 100000 in
set_option maxHeartbeats 4000000 in
theorem m_X7_lastUpTo {l : Launch} {D : va_G} {dT : Nat → ClassId} {sz : Nat} {ad : ts_I → Nat} (hl : l.stackTraces = false) (p1 : Int32) (p2 : Int32) (u : ts_Mem) (r : Int32) (h : f_X7_lastUpTo p1 p2 u = some r) : ts_M l D dT sz yX7_lastUpTo wX7_lastUpTo 2 0 0 ad ts_lv ts_R0 [.inr (30, 0, 0), .inl (.int p1), .inl (.int p2)] u (.inl (some (.int r))) u := by
    unfold f_X7_lastUpTo at h
    refine ts_enter hl (by decide) rfl rfl (Nat.le_of_ble_eq_true rfl) ?_
    intro p e s m args below meth c C hX hnm
    have C : ts_CX D dT sz p l (ts_rm 2 0 0) s m args meth c RX7 cX7_lastUpTo 5 (some .int) 2 := C
    have hdd : 2 ≤ 2 := Nat.le_refl _
    refine tv_iconst C (pc := 0) dX7_lastUpTo_0 (v := (-1 : Int32)) rfl ?_
    refine tv_istore_n C (pc := 1) dX7_lastUpTo_1 (L' := [some (.inr (30, 0, 0)), some (.inl (.int p1)), some (.inl (.int p2)), some (.inl (.int (-1 : Int32))), none]) rfl (by decide) rfl rfl ?_
    refine tv_iconst C (pc := 2) dX7_lastUpTo_2 (v := (0 : Int32)) rfl ?_
    refine tv_istore C (pc := 3) dX7_lastUpTo_3 (L' := [some (.inr (30, 0, 0)), some (.inl (.int p1)), some (.inl (.int p2)), some (.inl (.int (-1 : Int32))), some (.inl (.int (0 : Int32)))]) (by decide) rfl rfl ?_
    obtain ⟨q3, hq3, h⟩ := ts_bd h
    refine lt_X7_lastUpTo_5 hl C hdd p1 p2 u ⟨Nat.le_of_ble_eq_true rfl, Nat.le_of_ble_eq_true rfl⟩ ts_fu (-1 : Int32) (0 : Int32) q3 hq3 ?_
    refine tv_iload_n C (pc := 40) dX7_lastUpTo_40 rfl rfl ?_
    cases h
    exact tv_iret C (pc := 41) rfl dX7_lastUpTo_41 ⟨Nat.le_of_ble_eq_true rfl, Nat.le_of_ble_eq_true rfl⟩
set_option maxRecDepth 100000 in
set_option maxHeartbeats 4000000 in
theorem m_X7_doRead {l : Launch} {D : va_G} {dT : Nat → ClassId} {sz : Nat} {ad : ts_I → Nat} (hl : l.stackTraces = false) (p1 : Int32) (p2 : Int32) (u : ts_Mem) (r : (Int32 × ts_Mem)) (h : f_X7_doRead p1 p2 u = some r) : ts_M l D dT sz yX7_doRead wX7_doRead 21 0 0 ad ts_lv ts_R0 [.inr (30, 0, 0), .inl (.int p1), .inl (.int p2)] u (.inl (some (.int r.1))) r.2 := by
    unfold f_X7_doRead at h
    refine ts_enter hl (by decide) rfl rfl (Nat.le_of_ble_eq_true rfl) ?_
    intro p e s m args below meth c C hX hnm
    have C : ts_CX D dT sz p l (ts_rm 21 0 0) s m args meth c RX7 cX7_doRead 7 (some .boolean) 21 := C
    have hdd : 21 ≤ 21 := Nat.le_refl _
    refine tv_aload_n C (pc := 0) dX7_doRead_0 rfl rfl ?_
    refine tv_getR C (pc := 1) dX7_doRead_1 fl_X7_43 (ts_live (k := 30) (by decide) (by decide) (by decide)) rfl rfl (i2 := (38, 0, 0)) rfl ?_
    refine tv_iload_n C (pc := 4) dX7_doRead_4 rfl rfl ?_
    obtain ⟨hr1, h⟩ := ts_gd h
    refine tv_iaload C (pc := 5) dX7_doRead_5 (ts_live (k := 38) (by decide) (by decide) (by decide)) rfl hr1 (j := p2.toNatClampNeg) rfl ?_
    refine tv_iconst C (pc := 6) dX7_doRead_6 (v := (1 : Int32)) rfl ?_
    refine tv_isub C (pc := 7) dX7_doRead_7 ?_
    refine tv_nmI (fun x2 hx2 => ?_)
    have h := ts_lt h hx2
    refine tv_istore_n C (pc := 8) dX7_doRead_8 (L' := [some (.inr (30, 0, 0)), some (.inl (.int p1)), some (.inl (.int p2)), some (.inl (.int x2)), none, none, none]) rfl (by decide) rfl rfl ?_
    refine tv_aload_n C (pc := 9) dX7_doRead_9 rfl rfl ?_
    refine tv_getI C (pc := 10) dX7_doRead_10 fl_X7_15 (ts_live (k := 30) (by decide) (by decide) (by decide)) rfl (cd := 0) rfl (by decide) ?_
    refine tv_iconst C (pc := 13) dX7_doRead_13 (v := (2 : Int32)) rfl ?_
    refine tv_icmp_ge C (pc := 14) 43 dX7_doRead_14 (by decide) (fun hc => ?_) (fun hc => ?_)
    · have h := ts_ifp h hc
      refine tv_aload_n C (pc := 43) dX7_doRead_43 rfl rfl ?_
      refine tv_getI C (pc := 44) dX7_doRead_44 fl_X7_15 (ts_live (k := 30) (by decide) (by decide) (by decide)) rfl (cd := 0) rfl (by decide) ?_
      refine tv_iconst C (pc := 47) dX7_doRead_47 (v := (2 : Int32)) rfl ?_
      refine tv_icmp_ge C (pc := 48) 55 dX7_doRead_48 (by decide) (fun hc => ?_) (fun hc => ?_)
      · have h := ts_ifp h hc
        refine tv_aload_n C (pc := 55) dX7_doRead_55 rfl rfl ?_
        refine tv_iload_n C (pc := 56) dX7_doRead_56 rfl rfl ?_
        refine tv_aload_n C (pc := 57) dX7_doRead_57 rfl rfl ?_
        refine tv_getR C (pc := 58) dX7_doRead_58 fl_X7_25 (ts_live (k := 30) (by decide) (by decide) (by decide)) rfl rfl (i2 := (32, 0, 0)) rfl ?_
        refine tv_iload_n C (pc := 61) dX7_doRead_61 rfl rfl ?_
        obtain ⟨hr3, h⟩ := ts_gd h
        refine tv_iaload C (pc := 62) dX7_doRead_62 (ts_live (k := 32) (by decide) (by decide) (by decide)) rfl hr3 (j := p1.toNatClampNeg) rfl ?_
        obtain ⟨q4, hq4, h⟩ := ts_bd h
        refine tv_callV C (pc := 63) dX7_doRead_63 (ci := 7) (q := (RX7, TX7, 37)) rfl yl_X7_143 (m_X7_lastUpTo (D := D) (dT := dT) (sz := sz) (ad := ad) hl p2 (ts_gI u (32, 0, 0) p1.toNatClampNeg) u q4 hq4) (ts_live (k := 30) (by decide) (by decide) (by decide)) rfl (Nat.le_trans (Nat.le_of_ble_eq_true rfl) hdd) (As := [.inl (.int p2), .inl (.int (ts_gI u (32, 0, 0) p1.toNatClampNeg))]) rfl ⟨Nat.le_of_ble_eq_true rfl, Nat.le_of_ble_eq_true rfl⟩ (fun _ => Nat.le_of_ble_eq_true rfl) rfl ?_
        refine tv_istore C (pc := 66) dX7_doRead_66 (L' := [some (.inr (30, 0, 0)), some (.inl (.int p1)), some (.inl (.int p2)), some (.inl (.int x2)), some (.inl (.int q4)), none, none]) (by decide) rfl rfl ?_
        refine tv_iload_n C (pc := 68) dX7_doRead_68 rfl rfl ?_
        refine tv_iload C (pc := 69) dX7_doRead_69 rfl ?_
        obtain ⟨q5, hq5, h⟩ := ts_bd h
        refine tv_callS C (pc := 71) dX7_doRead_71 yl_X7_91 (m_X7_place (D := D) (dT := dT) (sz := sz) (ad := ad) hl p2 q4 u q5 hq5) (Nat.le_trans (Nat.le_of_ble_eq_true rfl) hdd) (As := [.inl (.int p2), .inl (.int q4)]) rfl ⟨Nat.le_of_ble_eq_true rfl, Nat.le_of_ble_eq_true rfl⟩ (fun _ => Nat.le_of_ble_eq_true rfl) rfl ?_
        refine tv_istore C (pc := 74) dX7_doRead_74 (L' := [some (.inr (30, 0, 0)), some (.inl (.int p1)), some (.inl (.int p2)), some (.inl (.int x2)), some (.inl (.int q4)), some (.inl (.int q5)), none]) (by decide) rfl rfl ?_
        refine tv_aload_n C (pc := 76) dX7_doRead_76 rfl rfl ?_
        refine tv_getR C (pc := 77) dX7_doRead_77 fl_X7_46 (ts_live (k := 30) (by decide) (by decide) (by decide)) rfl rfl (i2 := (39, 0, 0)) rfl ?_
        refine tv_iload C (pc := 80) dX7_doRead_80 rfl ?_
        refine tv_iconst C (pc := 82) dX7_doRead_82 (v := (1 : Int32)) rfl ?_
        refine tv_iadd C (pc := 83) dX7_doRead_83 ?_
        refine tv_aload_n C (pc := 84) dX7_doRead_84 rfl rfl ?_
        refine tv_getR C (pc := 85) dX7_doRead_85 fl_X7_46 (ts_live (k := 30) (by decide) (by decide) (by decide)) rfl rfl (i2 := (39, 0, 0)) rfl ?_
        refine tv_iload C (pc := 88) dX7_doRead_88 rfl ?_
        refine tv_iconst C (pc := 90) dX7_doRead_90 (v := (1 : Int32)) rfl ?_
        refine tv_iadd C (pc := 91) dX7_doRead_91 ?_
        obtain ⟨hr6, h⟩ := ts_gd h
        refine tv_iaload C (pc := 92) dX7_doRead_92 (ts_live (k := 39) (by decide) (by decide) (by decide)) rfl hr6 (j := ((q5 + (1 : Int32))).toNatClampNeg) rfl ?_
        refine tv_aload_n C (pc := 93) dX7_doRead_93 rfl rfl ?_
        refine tv_getR C (pc := 94) dX7_doRead_94 fl_X7_25 (ts_live (k := 30) (by decide) (by decide) (by decide)) rfl rfl (i2 := (32, 0, 0)) rfl ?_
        refine tv_iload_n C (pc := 97) dX7_doRead_97 rfl rfl ?_
        obtain ⟨hr7, h⟩ := ts_gd h
        refine tv_iaload C (pc := 98) dX7_doRead_98 (ts_live (k := 32) (by decide) (by decide) (by decide)) rfl hr7 (j := p1.toNatClampNeg) rfl ?_
        refine tv_max C (pc := 99) dX7_doRead_99 ml_X7_146 ts_mx ⟨Nat.le_of_ble_eq_true rfl, Nat.le_of_ble_eq_true rfl⟩ (fun _ => Nat.le_of_ble_eq_true rfl) ?_
        obtain ⟨hr8, h⟩ := ts_gd h
        refine tv_iastore C (pc := 102) dX7_doRead_102 (ts_live (k := 39) (by decide) (by decide) (by decide)) rfl hr8 (j := ((q5 + (1 : Int32))).toNatClampNeg) rfl ?_
        refine tv_nu (fun u9 hu9 => ?_)
        have h := ts_lt h hu9
        refine tv_aload_n C (pc := 103) dX7_doRead_103 rfl rfl ?_
        refine tv_getR C (pc := 104) dX7_doRead_104 fl_X7_46 (ts_live (k := 30) (by decide) (by decide) (by decide)) rfl rfl (i2 := (39, 0, 0)) rfl ?_
        refine tv_iload C (pc := 107) dX7_doRead_107 rfl ?_
        refine tv_iconst C (pc := 109) dX7_doRead_109 (v := (3 : Int32)) rfl ?_
        refine tv_iadd C (pc := 110) dX7_doRead_110 ?_
        obtain ⟨hr10, h⟩ := ts_gd h
        refine tv_iaload C (pc := 111) dX7_doRead_111 (ts_live (k := 39) (by decide) (by decide) (by decide)) rfl hr10 (j := ((q5 + (3 : Int32))).toNatClampNeg) rfl ?_
        refine tv_nmI (fun x11 hx11 => ?_)
        have h := ts_lt h hx11
        refine tv_istore C (pc := 112) dX7_doRead_112 (L' := [some (.inr (30, 0, 0)), some (.inl (.int p1)), some (.inl (.int p2)), some (.inl (.int x2)), some (.inl (.int q4)), some (.inl (.int q5)), some (.inl (.int x11))]) (by decide) rfl rfl ?_
        refine tv_iload C (pc := 114) dX7_doRead_114 rfl ?_
        refine tv_iload_n C (pc := 116) dX7_doRead_116 rfl rfl ?_
        refine tv_icmp_eq C (pc := 117) 142 dX7_doRead_117 (by decide) (fun hc => ?_) (fun hc => ?_)
        · have h := ts_ifp h hc
          refine tv_aload_n C (pc := 142) dX7_doRead_142 rfl rfl ?_
          refine tv_aload_n C (pc := 143) dX7_doRead_143 rfl rfl ?_
          refine tv_getR C (pc := 144) dX7_doRead_144 fl_X7_46 (ts_live (k := 30) (by decide) (by decide) (by decide)) rfl rfl (i2 := (39, 0, 0)) rfl ?_
          refine tv_iload C (pc := 147) dX7_doRead_147 rfl ?_
          refine tv_iconst C (pc := 149) dX7_doRead_149 (v := (2 : Int32)) rfl ?_
          refine tv_iadd C (pc := 150) dX7_doRead_150 ?_
          obtain ⟨hr12, h⟩ := ts_gd h
          refine tv_iaload C (pc := 151) dX7_doRead_151 (ts_live (k := 39) (by decide) (by decide) (by decide)) rfl hr12 (j := ((q5 + (2 : Int32))).toNatClampNeg) rfl ?_
          refine tv_putI C (pc := 152) dX7_doRead_152 fp_X7_151 (ts_live (k := 30) (by decide) (by decide) (by decide)) rfl (cd := 0) rfl (by decide) rfl rfl ?_
          refine tv_nu (fun u13 hu13 => ?_)
          have h := ts_lt h hu13
          refine tv_aload_n C (pc := 155) dX7_doRead_155 rfl rfl ?_
          refine tv_iconst C (pc := 156) dX7_doRead_156 (v := (1 : Int32)) rfl ?_
          refine tv_iload_n C (pc := 157) dX7_doRead_157 rfl rfl ?_
          refine tv_iload_n C (pc := 158) dX7_doRead_158 rfl rfl ?_
          obtain ⟨q14, hq14, h⟩ := ts_bd h
          refine tv_callV C (pc := 159) dX7_doRead_159 (ci := 7) (q := (RX7, TX7, 37)) rfl yl_X7_109 (m_X7_record (D := D) (dT := dT) (sz := sz) (ad := ad) hl (1 : Int32) p1 p2 u13 q14 hq14) (ts_live (k := 30) (by decide) (by decide) (by decide)) rfl (Nat.le_trans (Nat.le_of_ble_eq_true rfl) hdd) (As := [.inl (.int (1 : Int32)), .inl (.int p1), .inl (.int p2)]) rfl ⟨Nat.le_of_ble_eq_true rfl, Nat.le_of_ble_eq_true rfl⟩ (fun _ => Nat.le_of_ble_eq_true rfl) rfl ?_
          refine tv_iconst C (pc := 162) dX7_doRead_162 (v := (1 : Int32)) rfl ?_
          cases h
          exact tv_zret C (pc := 163) (v := (1 : Int32)) rfl ts_nz1 dX7_doRead_163 ⟨Nat.le_of_ble_eq_true rfl, Nat.le_of_ble_eq_true rfl⟩
        · have h := ts_ifn h hc
          refine tv_aload_n C (pc := 120) dX7_doRead_120 rfl rfl ?_
          refine tv_iload C (pc := 121) dX7_doRead_121 rfl ?_
          obtain ⟨q15, hq15, h⟩ := ts_bd h
          refine tv_callV C (pc := 123) dX7_doRead_123 (ci := 7) (q := (RX7, TX7, 37)) rfl yl_X7_117 (m_X7_isUncommitted (D := D) (dT := dT) (sz := sz) (ad := ad) hl x11 u9 q15 hq15) (ts_live (k := 30) (by decide) (by decide) (by decide)) rfl (Nat.le_trans (Nat.le_of_ble_eq_true rfl) hdd) (As := [.inl (.int x11)]) rfl ⟨Nat.le_of_ble_eq_true rfl, Nat.le_of_ble_eq_true rfl⟩ (fun _ => Nat.le_of_ble_eq_true rfl) rfl ?_
          refine tv_if_eq C (pc := 126) 142 dX7_doRead_126 (by decide) (fun hc => ?_) (fun hc => ?_)
          · have h := ts_ifp h hc
            refine tv_aload_n C (pc := 142) dX7_doRead_142 rfl rfl ?_
            refine tv_aload_n C (pc := 143) dX7_doRead_143 rfl rfl ?_
            refine tv_getR C (pc := 144) dX7_doRead_144 fl_X7_46 (ts_live (k := 30) (by decide) (by decide) (by decide)) rfl rfl (i2 := (39, 0, 0)) rfl ?_
            refine tv_iload C (pc := 147) dX7_doRead_147 rfl ?_
            refine tv_iconst C (pc := 149) dX7_doRead_149 (v := (2 : Int32)) rfl ?_
            refine tv_iadd C (pc := 150) dX7_doRead_150 ?_
            obtain ⟨hr16, h⟩ := ts_gd h
            refine tv_iaload C (pc := 151) dX7_doRead_151 (ts_live (k := 39) (by decide) (by decide) (by decide)) rfl hr16 (j := ((q5 + (2 : Int32))).toNatClampNeg) rfl ?_
            refine tv_putI C (pc := 152) dX7_doRead_152 fp_X7_151 (ts_live (k := 30) (by decide) (by decide) (by decide)) rfl (cd := 0) rfl (by decide) rfl rfl ?_
            refine tv_nu (fun u17 hu17 => ?_)
            have h := ts_lt h hu17
            refine tv_aload_n C (pc := 155) dX7_doRead_155 rfl rfl ?_
            refine tv_iconst C (pc := 156) dX7_doRead_156 (v := (1 : Int32)) rfl ?_
            refine tv_iload_n C (pc := 157) dX7_doRead_157 rfl rfl ?_
            refine tv_iload_n C (pc := 158) dX7_doRead_158 rfl rfl ?_
            obtain ⟨q18, hq18, h⟩ := ts_bd h
            refine tv_callV C (pc := 159) dX7_doRead_159 (ci := 7) (q := (RX7, TX7, 37)) rfl yl_X7_109 (m_X7_record (D := D) (dT := dT) (sz := sz) (ad := ad) hl (1 : Int32) p1 p2 u17 q18 hq18) (ts_live (k := 30) (by decide) (by decide) (by decide)) rfl (Nat.le_trans (Nat.le_of_ble_eq_true rfl) hdd) (As := [.inl (.int (1 : Int32)), .inl (.int p1), .inl (.int p2)]) rfl ⟨Nat.le_of_ble_eq_true rfl, Nat.le_of_ble_eq_true rfl⟩ (fun _ => Nat.le_of_ble_eq_true rfl) rfl ?_
            refine tv_iconst C (pc := 162) dX7_doRead_162 (v := (1 : Int32)) rfl ?_
            cases h
            exact tv_zret C (pc := 163) (v := (1 : Int32)) rfl ts_nz1 dX7_doRead_163 ⟨Nat.le_of_ble_eq_true rfl, Nat.le_of_ble_eq_true rfl⟩
          · have h := ts_ifn h hc
            refine tv_aload_n C (pc := 129) dX7_doRead_129 rfl rfl ?_
            refine tv_getR C (pc := 130) dX7_doRead_130 fl_X7_40 (ts_live (k := 30) (by decide) (by decide) (by decide)) rfl rfl (i2 := (37, 0, 0)) rfl ?_
            refine tv_iload_n C (pc := 133) dX7_doRead_133 rfl rfl ?_
            refine tv_dup2 C (pc := 134) dX7_doRead_134 (fun _ => ⟨rfl, rfl⟩) ?_
            obtain ⟨hr19, h⟩ := ts_gd h
            refine tv_iaload C (pc := 135) dX7_doRead_135 (ts_live (k := 37) (by decide) (by decide) (by decide)) rfl hr19 (j := p1.toNatClampNeg) rfl ?_
            refine tv_iconst C (pc := 136) dX7_doRead_136 (v := (1 : Int32)) rfl ?_
            refine tv_iload C (pc := 137) dX7_doRead_137 rfl ?_
            refine tv_ishl C (pc := 139) dX7_doRead_139 ?_
            refine tv_ior C (pc := 140) dX7_doRead_140 ?_
            obtain ⟨hr20, h⟩ := ts_gd h
            refine tv_iastore C (pc := 141) dX7_doRead_141 (ts_live (k := 37) (by decide) (by decide) (by decide)) rfl hr20 (j := p1.toNatClampNeg) rfl ?_
            refine tv_nu (fun u21 hu21 => ?_)
            have h := ts_lt h hu21
            refine tv_aload_n C (pc := 142) dX7_doRead_142 rfl rfl ?_
            refine tv_aload_n C (pc := 143) dX7_doRead_143 rfl rfl ?_
            refine tv_getR C (pc := 144) dX7_doRead_144 fl_X7_46 (ts_live (k := 30) (by decide) (by decide) (by decide)) rfl rfl (i2 := (39, 0, 0)) rfl ?_
            refine tv_iload C (pc := 147) dX7_doRead_147 rfl ?_
            refine tv_iconst C (pc := 149) dX7_doRead_149 (v := (2 : Int32)) rfl ?_
            refine tv_iadd C (pc := 150) dX7_doRead_150 ?_
            obtain ⟨hr22, h⟩ := ts_gd h
            refine tv_iaload C (pc := 151) dX7_doRead_151 (ts_live (k := 39) (by decide) (by decide) (by decide)) rfl hr22 (j := ((q5 + (2 : Int32))).toNatClampNeg) rfl ?_
            refine tv_putI C (pc := 152) dX7_doRead_152 fp_X7_151 (ts_live (k := 30) (by decide) (by decide) (by decide)) rfl (cd := 0) rfl (by decide) rfl rfl ?_
            refine tv_nu (fun u23 hu23 => ?_)
            have h := ts_lt h hu23
            refine tv_aload_n C (pc := 155) dX7_doRead_155 rfl rfl ?_
            refine tv_iconst C (pc := 156) dX7_doRead_156 (v := (1 : Int32)) rfl ?_
            refine tv_iload_n C (pc := 157) dX7_doRead_157 rfl rfl ?_
            refine tv_iload_n C (pc := 158) dX7_doRead_158 rfl rfl ?_
            obtain ⟨q24, hq24, h⟩ := ts_bd h
            refine tv_callV C (pc := 159) dX7_doRead_159 (ci := 7) (q := (RX7, TX7, 37)) rfl yl_X7_109 (m_X7_record (D := D) (dT := dT) (sz := sz) (ad := ad) hl (1 : Int32) p1 p2 u23 q24 hq24) (ts_live (k := 30) (by decide) (by decide) (by decide)) rfl (Nat.le_trans (Nat.le_of_ble_eq_true rfl) hdd) (As := [.inl (.int (1 : Int32)), .inl (.int p1), .inl (.int p2)]) rfl ⟨Nat.le_of_ble_eq_true rfl, Nat.le_of_ble_eq_true rfl⟩ (fun _ => Nat.le_of_ble_eq_true rfl) rfl ?_
            refine tv_iconst C (pc := 162) dX7_doRead_162 (v := (1 : Int32)) rfl ?_
            cases h
            exact tv_zret C (pc := 163) (v := (1 : Int32)) rfl ts_nz1 dX7_doRead_163 ⟨Nat.le_of_ble_eq_true rfl, Nat.le_of_ble_eq_true rfl⟩
      · have h := ts_ifn h hc
        refine tv_iload_n C (pc := 51) dX7_doRead_51 rfl rfl ?_
        refine tv_goto C (pc := 52) 66 dX7_doRead_52 (by decide) ?_
        refine tv_istore C (pc := 66) dX7_doRead_66 (L' := [some (.inr (30, 0, 0)), some (.inl (.int p1)), some (.inl (.int p2)), some (.inl (.int x2)), some (.inl (.int x2)), none, none]) (by decide) rfl rfl ?_
        refine tv_iload_n C (pc := 68) dX7_doRead_68 rfl rfl ?_
        refine tv_iload C (pc := 69) dX7_doRead_69 rfl ?_
        obtain ⟨q25, hq25, h⟩ := ts_bd h
        refine tv_callS C (pc := 71) dX7_doRead_71 yl_X7_91 (m_X7_place (D := D) (dT := dT) (sz := sz) (ad := ad) hl p2 x2 u q25 hq25) (Nat.le_trans (Nat.le_of_ble_eq_true rfl) hdd) (As := [.inl (.int p2), .inl (.int x2)]) rfl ⟨Nat.le_of_ble_eq_true rfl, Nat.le_of_ble_eq_true rfl⟩ (fun _ => Nat.le_of_ble_eq_true rfl) rfl ?_
        refine tv_istore C (pc := 74) dX7_doRead_74 (L' := [some (.inr (30, 0, 0)), some (.inl (.int p1)), some (.inl (.int p2)), some (.inl (.int x2)), some (.inl (.int x2)), some (.inl (.int q25)), none]) (by decide) rfl rfl ?_
        refine tv_aload_n C (pc := 76) dX7_doRead_76 rfl rfl ?_
        refine tv_getR C (pc := 77) dX7_doRead_77 fl_X7_46 (ts_live (k := 30) (by decide) (by decide) (by decide)) rfl rfl (i2 := (39, 0, 0)) rfl ?_
        refine tv_iload C (pc := 80) dX7_doRead_80 rfl ?_
        refine tv_iconst C (pc := 82) dX7_doRead_82 (v := (1 : Int32)) rfl ?_
        refine tv_iadd C (pc := 83) dX7_doRead_83 ?_
        refine tv_aload_n C (pc := 84) dX7_doRead_84 rfl rfl ?_
        refine tv_getR C (pc := 85) dX7_doRead_85 fl_X7_46 (ts_live (k := 30) (by decide) (by decide) (by decide)) rfl rfl (i2 := (39, 0, 0)) rfl ?_
        refine tv_iload C (pc := 88) dX7_doRead_88 rfl ?_
        refine tv_iconst C (pc := 90) dX7_doRead_90 (v := (1 : Int32)) rfl ?_
        refine tv_iadd C (pc := 91) dX7_doRead_91 ?_
        obtain ⟨hr26, h⟩ := ts_gd h
        refine tv_iaload C (pc := 92) dX7_doRead_92 (ts_live (k := 39) (by decide) (by decide) (by decide)) rfl hr26 (j := ((q25 + (1 : Int32))).toNatClampNeg) rfl ?_
        refine tv_aload_n C (pc := 93) dX7_doRead_93 rfl rfl ?_
        refine tv_getR C (pc := 94) dX7_doRead_94 fl_X7_25 (ts_live (k := 30) (by decide) (by decide) (by decide)) rfl rfl (i2 := (32, 0, 0)) rfl ?_
        refine tv_iload_n C (pc := 97) dX7_doRead_97 rfl rfl ?_
        obtain ⟨hr27, h⟩ := ts_gd h
        refine tv_iaload C (pc := 98) dX7_doRead_98 (ts_live (k := 32) (by decide) (by decide) (by decide)) rfl hr27 (j := p1.toNatClampNeg) rfl ?_
        refine tv_max C (pc := 99) dX7_doRead_99 ml_X7_146 ts_mx ⟨Nat.le_of_ble_eq_true rfl, Nat.le_of_ble_eq_true rfl⟩ (fun _ => Nat.le_of_ble_eq_true rfl) ?_
        obtain ⟨hr28, h⟩ := ts_gd h
        refine tv_iastore C (pc := 102) dX7_doRead_102 (ts_live (k := 39) (by decide) (by decide) (by decide)) rfl hr28 (j := ((q25 + (1 : Int32))).toNatClampNeg) rfl ?_
        refine tv_nu (fun u29 hu29 => ?_)
        have h := ts_lt h hu29
        refine tv_aload_n C (pc := 103) dX7_doRead_103 rfl rfl ?_
        refine tv_getR C (pc := 104) dX7_doRead_104 fl_X7_46 (ts_live (k := 30) (by decide) (by decide) (by decide)) rfl rfl (i2 := (39, 0, 0)) rfl ?_
        refine tv_iload C (pc := 107) dX7_doRead_107 rfl ?_
        refine tv_iconst C (pc := 109) dX7_doRead_109 (v := (3 : Int32)) rfl ?_
        refine tv_iadd C (pc := 110) dX7_doRead_110 ?_
        obtain ⟨hr30, h⟩ := ts_gd h
        refine tv_iaload C (pc := 111) dX7_doRead_111 (ts_live (k := 39) (by decide) (by decide) (by decide)) rfl hr30 (j := ((q25 + (3 : Int32))).toNatClampNeg) rfl ?_
        refine tv_nmI (fun x31 hx31 => ?_)
        have h := ts_lt h hx31
        refine tv_istore C (pc := 112) dX7_doRead_112 (L' := [some (.inr (30, 0, 0)), some (.inl (.int p1)), some (.inl (.int p2)), some (.inl (.int x2)), some (.inl (.int x2)), some (.inl (.int q25)), some (.inl (.int x31))]) (by decide) rfl rfl ?_
        refine tv_iload C (pc := 114) dX7_doRead_114 rfl ?_
        refine tv_iload_n C (pc := 116) dX7_doRead_116 rfl rfl ?_
        refine tv_icmp_eq C (pc := 117) 142 dX7_doRead_117 (by decide) (fun hc => ?_) (fun hc => ?_)
        · have h := ts_ifp h hc
          refine tv_aload_n C (pc := 142) dX7_doRead_142 rfl rfl ?_
          refine tv_aload_n C (pc := 143) dX7_doRead_143 rfl rfl ?_
          refine tv_getR C (pc := 144) dX7_doRead_144 fl_X7_46 (ts_live (k := 30) (by decide) (by decide) (by decide)) rfl rfl (i2 := (39, 0, 0)) rfl ?_
          refine tv_iload C (pc := 147) dX7_doRead_147 rfl ?_
          refine tv_iconst C (pc := 149) dX7_doRead_149 (v := (2 : Int32)) rfl ?_
          refine tv_iadd C (pc := 150) dX7_doRead_150 ?_
          obtain ⟨hr32, h⟩ := ts_gd h
          refine tv_iaload C (pc := 151) dX7_doRead_151 (ts_live (k := 39) (by decide) (by decide) (by decide)) rfl hr32 (j := ((q25 + (2 : Int32))).toNatClampNeg) rfl ?_
          refine tv_putI C (pc := 152) dX7_doRead_152 fp_X7_151 (ts_live (k := 30) (by decide) (by decide) (by decide)) rfl (cd := 0) rfl (by decide) rfl rfl ?_
          refine tv_nu (fun u33 hu33 => ?_)
          have h := ts_lt h hu33
          refine tv_aload_n C (pc := 155) dX7_doRead_155 rfl rfl ?_
          refine tv_iconst C (pc := 156) dX7_doRead_156 (v := (1 : Int32)) rfl ?_
          refine tv_iload_n C (pc := 157) dX7_doRead_157 rfl rfl ?_
          refine tv_iload_n C (pc := 158) dX7_doRead_158 rfl rfl ?_
          obtain ⟨q34, hq34, h⟩ := ts_bd h
          refine tv_callV C (pc := 159) dX7_doRead_159 (ci := 7) (q := (RX7, TX7, 37)) rfl yl_X7_109 (m_X7_record (D := D) (dT := dT) (sz := sz) (ad := ad) hl (1 : Int32) p1 p2 u33 q34 hq34) (ts_live (k := 30) (by decide) (by decide) (by decide)) rfl (Nat.le_trans (Nat.le_of_ble_eq_true rfl) hdd) (As := [.inl (.int (1 : Int32)), .inl (.int p1), .inl (.int p2)]) rfl ⟨Nat.le_of_ble_eq_true rfl, Nat.le_of_ble_eq_true rfl⟩ (fun _ => Nat.le_of_ble_eq_true rfl) rfl ?_
          refine tv_iconst C (pc := 162) dX7_doRead_162 (v := (1 : Int32)) rfl ?_
          cases h
          exact tv_zret C (pc := 163) (v := (1 : Int32)) rfl ts_nz1 dX7_doRead_163 ⟨Nat.le_of_ble_eq_true rfl, Nat.le_of_ble_eq_true rfl⟩
        · have h := ts_ifn h hc
          refine tv_aload_n C (pc := 120) dX7_doRead_120 rfl rfl ?_
          refine tv_iload C (pc := 121) dX7_doRead_121 rfl ?_
          obtain ⟨q35, hq35, h⟩ := ts_bd h
          refine tv_callV C (pc := 123) dX7_doRead_123 (ci := 7) (q := (RX7, TX7, 37)) rfl yl_X7_117 (m_X7_isUncommitted (D := D) (dT := dT) (sz := sz) (ad := ad) hl x31 u29 q35 hq35) (ts_live (k := 30) (by decide) (by decide) (by decide)) rfl (Nat.le_trans (Nat.le_of_ble_eq_true rfl) hdd) (As := [.inl (.int x31)]) rfl ⟨Nat.le_of_ble_eq_true rfl, Nat.le_of_ble_eq_true rfl⟩ (fun _ => Nat.le_of_ble_eq_true rfl) rfl ?_
          refine tv_if_eq C (pc := 126) 142 dX7_doRead_126 (by decide) (fun hc => ?_) (fun hc => ?_)
          · have h := ts_ifp h hc
            refine tv_aload_n C (pc := 142) dX7_doRead_142 rfl rfl ?_
            refine tv_aload_n C (pc := 143) dX7_doRead_143 rfl rfl ?_
            refine tv_getR C (pc := 144) dX7_doRead_144 fl_X7_46 (ts_live (k := 30) (by decide) (by decide) (by decide)) rfl rfl (i2 := (39, 0, 0)) rfl ?_
            refine tv_iload C (pc := 147) dX7_doRead_147 rfl ?_
            refine tv_iconst C (pc := 149) dX7_doRead_149 (v := (2 : Int32)) rfl ?_
            refine tv_iadd C (pc := 150) dX7_doRead_150 ?_
            obtain ⟨hr36, h⟩ := ts_gd h
            refine tv_iaload C (pc := 151) dX7_doRead_151 (ts_live (k := 39) (by decide) (by decide) (by decide)) rfl hr36 (j := ((q25 + (2 : Int32))).toNatClampNeg) rfl ?_
            refine tv_putI C (pc := 152) dX7_doRead_152 fp_X7_151 (ts_live (k := 30) (by decide) (by decide) (by decide)) rfl (cd := 0) rfl (by decide) rfl rfl ?_
            refine tv_nu (fun u37 hu37 => ?_)
            have h := ts_lt h hu37
            refine tv_aload_n C (pc := 155) dX7_doRead_155 rfl rfl ?_
            refine tv_iconst C (pc := 156) dX7_doRead_156 (v := (1 : Int32)) rfl ?_
            refine tv_iload_n C (pc := 157) dX7_doRead_157 rfl rfl ?_
            refine tv_iload_n C (pc := 158) dX7_doRead_158 rfl rfl ?_
            obtain ⟨q38, hq38, h⟩ := ts_bd h
            refine tv_callV C (pc := 159) dX7_doRead_159 (ci := 7) (q := (RX7, TX7, 37)) rfl yl_X7_109 (m_X7_record (D := D) (dT := dT) (sz := sz) (ad := ad) hl (1 : Int32) p1 p2 u37 q38 hq38) (ts_live (k := 30) (by decide) (by decide) (by decide)) rfl (Nat.le_trans (Nat.le_of_ble_eq_true rfl) hdd) (As := [.inl (.int (1 : Int32)), .inl (.int p1), .inl (.int p2)]) rfl ⟨Nat.le_of_ble_eq_true rfl, Nat.le_of_ble_eq_true rfl⟩ (fun _ => Nat.le_of_ble_eq_true rfl) rfl ?_
            refine tv_iconst C (pc := 162) dX7_doRead_162 (v := (1 : Int32)) rfl ?_
            cases h
            exact tv_zret C (pc := 163) (v := (1 : Int32)) rfl ts_nz1 dX7_doRead_163 ⟨Nat.le_of_ble_eq_true rfl, Nat.le_of_ble_eq_true rfl⟩
          · have h := ts_ifn h hc
            refine tv_aload_n C (pc := 129) dX7_doRead_129 rfl rfl ?_
            refine tv_getR C (pc := 130) dX7_doRead_130 fl_X7_40 (ts_live (k := 30) (by decide) (by decide) (by decide)) rfl rfl (i2 := (37, 0, 0)) rfl ?_
            refine tv_iload_n C (pc := 133) dX7_doRead_133 rfl rfl ?_
            refine tv_dup2 C (pc := 134) dX7_doRead_134 (fun _ => ⟨rfl, rfl⟩) ?_
            obtain ⟨hr39, h⟩ := ts_gd h
            refine tv_iaload C (pc := 135) dX7_doRead_135 (ts_live (k := 37) (by decide) (by decide) (by decide)) rfl hr39 (j := p1.toNatClampNeg) rfl ?_
            refine tv_iconst C (pc := 136) dX7_doRead_136 (v := (1 : Int32)) rfl ?_
            refine tv_iload C (pc := 137) dX7_doRead_137 rfl ?_
            refine tv_ishl C (pc := 139) dX7_doRead_139 ?_
            refine tv_ior C (pc := 140) dX7_doRead_140 ?_
            obtain ⟨hr40, h⟩ := ts_gd h
            refine tv_iastore C (pc := 141) dX7_doRead_141 (ts_live (k := 37) (by decide) (by decide) (by decide)) rfl hr40 (j := p1.toNatClampNeg) rfl ?_
            refine tv_nu (fun u41 hu41 => ?_)
            have h := ts_lt h hu41
            refine tv_aload_n C (pc := 142) dX7_doRead_142 rfl rfl ?_
            refine tv_aload_n C (pc := 143) dX7_doRead_143 rfl rfl ?_
            refine tv_getR C (pc := 144) dX7_doRead_144 fl_X7_46 (ts_live (k := 30) (by decide) (by decide) (by decide)) rfl rfl (i2 := (39, 0, 0)) rfl ?_
            refine tv_iload C (pc := 147) dX7_doRead_147 rfl ?_
            refine tv_iconst C (pc := 149) dX7_doRead_149 (v := (2 : Int32)) rfl ?_
            refine tv_iadd C (pc := 150) dX7_doRead_150 ?_
            obtain ⟨hr42, h⟩ := ts_gd h
            refine tv_iaload C (pc := 151) dX7_doRead_151 (ts_live (k := 39) (by decide) (by decide) (by decide)) rfl hr42 (j := ((q25 + (2 : Int32))).toNatClampNeg) rfl ?_
            refine tv_putI C (pc := 152) dX7_doRead_152 fp_X7_151 (ts_live (k := 30) (by decide) (by decide) (by decide)) rfl (cd := 0) rfl (by decide) rfl rfl ?_
            refine tv_nu (fun u43 hu43 => ?_)
            have h := ts_lt h hu43
            refine tv_aload_n C (pc := 155) dX7_doRead_155 rfl rfl ?_
            refine tv_iconst C (pc := 156) dX7_doRead_156 (v := (1 : Int32)) rfl ?_
            refine tv_iload_n C (pc := 157) dX7_doRead_157 rfl rfl ?_
            refine tv_iload_n C (pc := 158) dX7_doRead_158 rfl rfl ?_
            obtain ⟨q44, hq44, h⟩ := ts_bd h
            refine tv_callV C (pc := 159) dX7_doRead_159 (ci := 7) (q := (RX7, TX7, 37)) rfl yl_X7_109 (m_X7_record (D := D) (dT := dT) (sz := sz) (ad := ad) hl (1 : Int32) p1 p2 u43 q44 hq44) (ts_live (k := 30) (by decide) (by decide) (by decide)) rfl (Nat.le_trans (Nat.le_of_ble_eq_true rfl) hdd) (As := [.inl (.int (1 : Int32)), .inl (.int p1), .inl (.int p2)]) rfl ⟨Nat.le_of_ble_eq_true rfl, Nat.le_of_ble_eq_true rfl⟩ (fun _ => Nat.le_of_ble_eq_true rfl) rfl ?_
            refine tv_iconst C (pc := 162) dX7_doRead_162 (v := (1 : Int32)) rfl ?_
            cases h
            exact tv_zret C (pc := 163) (v := (1 : Int32)) rfl ts_nz1 dX7_doRead_163 ⟨Nat.le_of_ble_eq_true rfl, Nat.le_of_ble_eq_true rfl⟩
    · have h := ts_ifn h hc
      refine tv_aload_n C (pc := 17) dX7_doRead_17 rfl rfl ?_
      refine tv_iload_n C (pc := 18) dX7_doRead_18 rfl rfl ?_
      refine tv_iload_n C (pc := 19) dX7_doRead_19 rfl rfl ?_
      obtain ⟨q45, hq45, h⟩ := ts_bd h
      refine tv_callV C (pc := 20) dX7_doRead_20 (ci := 7) (q := (RX7, TX7, 37)) rfl yl_X7_140 (m_X7_written (D := D) (dT := dT) (sz := sz) (ad := ad) hl p2 x2 u q45 hq45) (ts_live (k := 30) (by decide) (by decide) (by decide)) rfl (Nat.le_trans (Nat.le_of_ble_eq_true rfl) hdd) (As := [.inl (.int p2), .inl (.int x2)]) rfl ⟨Nat.le_of_ble_eq_true rfl, Nat.le_of_ble_eq_true rfl⟩ (fun _ => Nat.le_of_ble_eq_true rfl) rfl ?_
      refine tv_aload_n C (pc := 23) dX7_doRead_23 rfl rfl ?_
      refine tv_getR C (pc := 24) dX7_doRead_24 fl_X7_25 (ts_live (k := 30) (by decide) (by decide) (by decide)) rfl rfl (i2 := (32, 0, 0)) rfl ?_
      refine tv_iload_n C (pc := 27) dX7_doRead_27 rfl rfl ?_
      obtain ⟨hr46, h⟩ := ts_gd h
      refine tv_iaload C (pc := 28) dX7_doRead_28 (ts_live (k := 32) (by decide) (by decide) (by decide)) rfl hr46 (j := p1.toNatClampNeg) rfl ?_
      refine tv_icmp_le C (pc := 29) 43 dX7_doRead_29 (by decide) (fun hc => ?_) (fun hc => ?_)
      · have h := ts_ifp h hc
        refine tv_aload_n C (pc := 43) dX7_doRead_43 rfl rfl ?_
        refine tv_getI C (pc := 44) dX7_doRead_44 fl_X7_15 (ts_live (k := 30) (by decide) (by decide) (by decide)) rfl (cd := 0) rfl (by decide) ?_
        refine tv_iconst C (pc := 47) dX7_doRead_47 (v := (2 : Int32)) rfl ?_
        refine tv_icmp_ge C (pc := 48) 55 dX7_doRead_48 (by decide) (fun hc => ?_) (fun hc => ?_)
        · have h := ts_ifp h hc
          refine tv_aload_n C (pc := 55) dX7_doRead_55 rfl rfl ?_
          refine tv_iload_n C (pc := 56) dX7_doRead_56 rfl rfl ?_
          refine tv_aload_n C (pc := 57) dX7_doRead_57 rfl rfl ?_
          refine tv_getR C (pc := 58) dX7_doRead_58 fl_X7_25 (ts_live (k := 30) (by decide) (by decide) (by decide)) rfl rfl (i2 := (32, 0, 0)) rfl ?_
          refine tv_iload_n C (pc := 61) dX7_doRead_61 rfl rfl ?_
          obtain ⟨hr47, h⟩ := ts_gd h
          refine tv_iaload C (pc := 62) dX7_doRead_62 (ts_live (k := 32) (by decide) (by decide) (by decide)) rfl hr47 (j := p1.toNatClampNeg) rfl ?_
          obtain ⟨q48, hq48, h⟩ := ts_bd h
          refine tv_callV C (pc := 63) dX7_doRead_63 (ci := 7) (q := (RX7, TX7, 37)) rfl yl_X7_143 (m_X7_lastUpTo (D := D) (dT := dT) (sz := sz) (ad := ad) hl p2 (ts_gI u (32, 0, 0) p1.toNatClampNeg) u q48 hq48) (ts_live (k := 30) (by decide) (by decide) (by decide)) rfl (Nat.le_trans (Nat.le_of_ble_eq_true rfl) hdd) (As := [.inl (.int p2), .inl (.int (ts_gI u (32, 0, 0) p1.toNatClampNeg))]) rfl ⟨Nat.le_of_ble_eq_true rfl, Nat.le_of_ble_eq_true rfl⟩ (fun _ => Nat.le_of_ble_eq_true rfl) rfl ?_
          refine tv_istore C (pc := 66) dX7_doRead_66 (L' := [some (.inr (30, 0, 0)), some (.inl (.int p1)), some (.inl (.int p2)), some (.inl (.int x2)), some (.inl (.int q48)), none, none]) (by decide) rfl rfl ?_
          refine tv_iload_n C (pc := 68) dX7_doRead_68 rfl rfl ?_
          refine tv_iload C (pc := 69) dX7_doRead_69 rfl ?_
          obtain ⟨q49, hq49, h⟩ := ts_bd h
          refine tv_callS C (pc := 71) dX7_doRead_71 yl_X7_91 (m_X7_place (D := D) (dT := dT) (sz := sz) (ad := ad) hl p2 q48 u q49 hq49) (Nat.le_trans (Nat.le_of_ble_eq_true rfl) hdd) (As := [.inl (.int p2), .inl (.int q48)]) rfl ⟨Nat.le_of_ble_eq_true rfl, Nat.le_of_ble_eq_true rfl⟩ (fun _ => Nat.le_of_ble_eq_true rfl) rfl ?_
          refine tv_istore C (pc := 74) dX7_doRead_74 (L' := [some (.inr (30, 0, 0)), some (.inl (.int p1)), some (.inl (.int p2)), some (.inl (.int x2)), some (.inl (.int q48)), some (.inl (.int q49)), none]) (by decide) rfl rfl ?_
          refine tv_aload_n C (pc := 76) dX7_doRead_76 rfl rfl ?_
          refine tv_getR C (pc := 77) dX7_doRead_77 fl_X7_46 (ts_live (k := 30) (by decide) (by decide) (by decide)) rfl rfl (i2 := (39, 0, 0)) rfl ?_
          refine tv_iload C (pc := 80) dX7_doRead_80 rfl ?_
          refine tv_iconst C (pc := 82) dX7_doRead_82 (v := (1 : Int32)) rfl ?_
          refine tv_iadd C (pc := 83) dX7_doRead_83 ?_
          refine tv_aload_n C (pc := 84) dX7_doRead_84 rfl rfl ?_
          refine tv_getR C (pc := 85) dX7_doRead_85 fl_X7_46 (ts_live (k := 30) (by decide) (by decide) (by decide)) rfl rfl (i2 := (39, 0, 0)) rfl ?_
          refine tv_iload C (pc := 88) dX7_doRead_88 rfl ?_
          refine tv_iconst C (pc := 90) dX7_doRead_90 (v := (1 : Int32)) rfl ?_
          refine tv_iadd C (pc := 91) dX7_doRead_91 ?_
          obtain ⟨hr50, h⟩ := ts_gd h
          refine tv_iaload C (pc := 92) dX7_doRead_92 (ts_live (k := 39) (by decide) (by decide) (by decide)) rfl hr50 (j := ((q49 + (1 : Int32))).toNatClampNeg) rfl ?_
          refine tv_aload_n C (pc := 93) dX7_doRead_93 rfl rfl ?_
          refine tv_getR C (pc := 94) dX7_doRead_94 fl_X7_25 (ts_live (k := 30) (by decide) (by decide) (by decide)) rfl rfl (i2 := (32, 0, 0)) rfl ?_
          refine tv_iload_n C (pc := 97) dX7_doRead_97 rfl rfl ?_
          obtain ⟨hr51, h⟩ := ts_gd h
          refine tv_iaload C (pc := 98) dX7_doRead_98 (ts_live (k := 32) (by decide) (by decide) (by decide)) rfl hr51 (j := p1.toNatClampNeg) rfl ?_
          refine tv_max C (pc := 99) dX7_doRead_99 ml_X7_146 ts_mx ⟨Nat.le_of_ble_eq_true rfl, Nat.le_of_ble_eq_true rfl⟩ (fun _ => Nat.le_of_ble_eq_true rfl) ?_
          obtain ⟨hr52, h⟩ := ts_gd h
          refine tv_iastore C (pc := 102) dX7_doRead_102 (ts_live (k := 39) (by decide) (by decide) (by decide)) rfl hr52 (j := ((q49 + (1 : Int32))).toNatClampNeg) rfl ?_
          refine tv_nu (fun u53 hu53 => ?_)
          have h := ts_lt h hu53
          refine tv_aload_n C (pc := 103) dX7_doRead_103 rfl rfl ?_
          refine tv_getR C (pc := 104) dX7_doRead_104 fl_X7_46 (ts_live (k := 30) (by decide) (by decide) (by decide)) rfl rfl (i2 := (39, 0, 0)) rfl ?_
          refine tv_iload C (pc := 107) dX7_doRead_107 rfl ?_
          refine tv_iconst C (pc := 109) dX7_doRead_109 (v := (3 : Int32)) rfl ?_
          refine tv_iadd C (pc := 110) dX7_doRead_110 ?_
          obtain ⟨hr54, h⟩ := ts_gd h
          refine tv_iaload C (pc := 111) dX7_doRead_111 (ts_live (k := 39) (by decide) (by decide) (by decide)) rfl hr54 (j := ((q49 + (3 : Int32))).toNatClampNeg) rfl ?_
          refine tv_nmI (fun x55 hx55 => ?_)
          have h := ts_lt h hx55
          refine tv_istore C (pc := 112) dX7_doRead_112 (L' := [some (.inr (30, 0, 0)), some (.inl (.int p1)), some (.inl (.int p2)), some (.inl (.int x2)), some (.inl (.int q48)), some (.inl (.int q49)), some (.inl (.int x55))]) (by decide) rfl rfl ?_
          refine tv_iload C (pc := 114) dX7_doRead_114 rfl ?_
          refine tv_iload_n C (pc := 116) dX7_doRead_116 rfl rfl ?_
          refine tv_icmp_eq C (pc := 117) 142 dX7_doRead_117 (by decide) (fun hc => ?_) (fun hc => ?_)
          · have h := ts_ifp h hc
            refine tv_aload_n C (pc := 142) dX7_doRead_142 rfl rfl ?_
            refine tv_aload_n C (pc := 143) dX7_doRead_143 rfl rfl ?_
            refine tv_getR C (pc := 144) dX7_doRead_144 fl_X7_46 (ts_live (k := 30) (by decide) (by decide) (by decide)) rfl rfl (i2 := (39, 0, 0)) rfl ?_
            refine tv_iload C (pc := 147) dX7_doRead_147 rfl ?_
            refine tv_iconst C (pc := 149) dX7_doRead_149 (v := (2 : Int32)) rfl ?_
            refine tv_iadd C (pc := 150) dX7_doRead_150 ?_
            obtain ⟨hr56, h⟩ := ts_gd h
            refine tv_iaload C (pc := 151) dX7_doRead_151 (ts_live (k := 39) (by decide) (by decide) (by decide)) rfl hr56 (j := ((q49 + (2 : Int32))).toNatClampNeg) rfl ?_
            refine tv_putI C (pc := 152) dX7_doRead_152 fp_X7_151 (ts_live (k := 30) (by decide) (by decide) (by decide)) rfl (cd := 0) rfl (by decide) rfl rfl ?_
            refine tv_nu (fun u57 hu57 => ?_)
            have h := ts_lt h hu57
            refine tv_aload_n C (pc := 155) dX7_doRead_155 rfl rfl ?_
            refine tv_iconst C (pc := 156) dX7_doRead_156 (v := (1 : Int32)) rfl ?_
            refine tv_iload_n C (pc := 157) dX7_doRead_157 rfl rfl ?_
            refine tv_iload_n C (pc := 158) dX7_doRead_158 rfl rfl ?_
            obtain ⟨q58, hq58, h⟩ := ts_bd h
            refine tv_callV C (pc := 159) dX7_doRead_159 (ci := 7) (q := (RX7, TX7, 37)) rfl yl_X7_109 (m_X7_record (D := D) (dT := dT) (sz := sz) (ad := ad) hl (1 : Int32) p1 p2 u57 q58 hq58) (ts_live (k := 30) (by decide) (by decide) (by decide)) rfl (Nat.le_trans (Nat.le_of_ble_eq_true rfl) hdd) (As := [.inl (.int (1 : Int32)), .inl (.int p1), .inl (.int p2)]) rfl ⟨Nat.le_of_ble_eq_true rfl, Nat.le_of_ble_eq_true rfl⟩ (fun _ => Nat.le_of_ble_eq_true rfl) rfl ?_
            refine tv_iconst C (pc := 162) dX7_doRead_162 (v := (1 : Int32)) rfl ?_
            cases h
            exact tv_zret C (pc := 163) (v := (1 : Int32)) rfl ts_nz1 dX7_doRead_163 ⟨Nat.le_of_ble_eq_true rfl, Nat.le_of_ble_eq_true rfl⟩
          · have h := ts_ifn h hc
            refine tv_aload_n C (pc := 120) dX7_doRead_120 rfl rfl ?_
            refine tv_iload C (pc := 121) dX7_doRead_121 rfl ?_
            obtain ⟨q59, hq59, h⟩ := ts_bd h
            refine tv_callV C (pc := 123) dX7_doRead_123 (ci := 7) (q := (RX7, TX7, 37)) rfl yl_X7_117 (m_X7_isUncommitted (D := D) (dT := dT) (sz := sz) (ad := ad) hl x55 u53 q59 hq59) (ts_live (k := 30) (by decide) (by decide) (by decide)) rfl (Nat.le_trans (Nat.le_of_ble_eq_true rfl) hdd) (As := [.inl (.int x55)]) rfl ⟨Nat.le_of_ble_eq_true rfl, Nat.le_of_ble_eq_true rfl⟩ (fun _ => Nat.le_of_ble_eq_true rfl) rfl ?_
            refine tv_if_eq C (pc := 126) 142 dX7_doRead_126 (by decide) (fun hc => ?_) (fun hc => ?_)
            · have h := ts_ifp h hc
              refine tv_aload_n C (pc := 142) dX7_doRead_142 rfl rfl ?_
              refine tv_aload_n C (pc := 143) dX7_doRead_143 rfl rfl ?_
              refine tv_getR C (pc := 144) dX7_doRead_144 fl_X7_46 (ts_live (k := 30) (by decide) (by decide) (by decide)) rfl rfl (i2 := (39, 0, 0)) rfl ?_
              refine tv_iload C (pc := 147) dX7_doRead_147 rfl ?_
              refine tv_iconst C (pc := 149) dX7_doRead_149 (v := (2 : Int32)) rfl ?_
              refine tv_iadd C (pc := 150) dX7_doRead_150 ?_
              obtain ⟨hr60, h⟩ := ts_gd h
              refine tv_iaload C (pc := 151) dX7_doRead_151 (ts_live (k := 39) (by decide) (by decide) (by decide)) rfl hr60 (j := ((q49 + (2 : Int32))).toNatClampNeg) rfl ?_
              refine tv_putI C (pc := 152) dX7_doRead_152 fp_X7_151 (ts_live (k := 30) (by decide) (by decide) (by decide)) rfl (cd := 0) rfl (by decide) rfl rfl ?_
              refine tv_nu (fun u61 hu61 => ?_)
              have h := ts_lt h hu61
              refine tv_aload_n C (pc := 155) dX7_doRead_155 rfl rfl ?_
              refine tv_iconst C (pc := 156) dX7_doRead_156 (v := (1 : Int32)) rfl ?_
              refine tv_iload_n C (pc := 157) dX7_doRead_157 rfl rfl ?_
              refine tv_iload_n C (pc := 158) dX7_doRead_158 rfl rfl ?_
              obtain ⟨q62, hq62, h⟩ := ts_bd h
              refine tv_callV C (pc := 159) dX7_doRead_159 (ci := 7) (q := (RX7, TX7, 37)) rfl yl_X7_109 (m_X7_record (D := D) (dT := dT) (sz := sz) (ad := ad) hl (1 : Int32) p1 p2 u61 q62 hq62) (ts_live (k := 30) (by decide) (by decide) (by decide)) rfl (Nat.le_trans (Nat.le_of_ble_eq_true rfl) hdd) (As := [.inl (.int (1 : Int32)), .inl (.int p1), .inl (.int p2)]) rfl ⟨Nat.le_of_ble_eq_true rfl, Nat.le_of_ble_eq_true rfl⟩ (fun _ => Nat.le_of_ble_eq_true rfl) rfl ?_
              refine tv_iconst C (pc := 162) dX7_doRead_162 (v := (1 : Int32)) rfl ?_
              cases h
              exact tv_zret C (pc := 163) (v := (1 : Int32)) rfl ts_nz1 dX7_doRead_163 ⟨Nat.le_of_ble_eq_true rfl, Nat.le_of_ble_eq_true rfl⟩
            · have h := ts_ifn h hc
              refine tv_aload_n C (pc := 129) dX7_doRead_129 rfl rfl ?_
              refine tv_getR C (pc := 130) dX7_doRead_130 fl_X7_40 (ts_live (k := 30) (by decide) (by decide) (by decide)) rfl rfl (i2 := (37, 0, 0)) rfl ?_
              refine tv_iload_n C (pc := 133) dX7_doRead_133 rfl rfl ?_
              refine tv_dup2 C (pc := 134) dX7_doRead_134 (fun _ => ⟨rfl, rfl⟩) ?_
              obtain ⟨hr63, h⟩ := ts_gd h
              refine tv_iaload C (pc := 135) dX7_doRead_135 (ts_live (k := 37) (by decide) (by decide) (by decide)) rfl hr63 (j := p1.toNatClampNeg) rfl ?_
              refine tv_iconst C (pc := 136) dX7_doRead_136 (v := (1 : Int32)) rfl ?_
              refine tv_iload C (pc := 137) dX7_doRead_137 rfl ?_
              refine tv_ishl C (pc := 139) dX7_doRead_139 ?_
              refine tv_ior C (pc := 140) dX7_doRead_140 ?_
              obtain ⟨hr64, h⟩ := ts_gd h
              refine tv_iastore C (pc := 141) dX7_doRead_141 (ts_live (k := 37) (by decide) (by decide) (by decide)) rfl hr64 (j := p1.toNatClampNeg) rfl ?_
              refine tv_nu (fun u65 hu65 => ?_)
              have h := ts_lt h hu65
              refine tv_aload_n C (pc := 142) dX7_doRead_142 rfl rfl ?_
              refine tv_aload_n C (pc := 143) dX7_doRead_143 rfl rfl ?_
              refine tv_getR C (pc := 144) dX7_doRead_144 fl_X7_46 (ts_live (k := 30) (by decide) (by decide) (by decide)) rfl rfl (i2 := (39, 0, 0)) rfl ?_
              refine tv_iload C (pc := 147) dX7_doRead_147 rfl ?_
              refine tv_iconst C (pc := 149) dX7_doRead_149 (v := (2 : Int32)) rfl ?_
              refine tv_iadd C (pc := 150) dX7_doRead_150 ?_
              obtain ⟨hr66, h⟩ := ts_gd h
              refine tv_iaload C (pc := 151) dX7_doRead_151 (ts_live (k := 39) (by decide) (by decide) (by decide)) rfl hr66 (j := ((q49 + (2 : Int32))).toNatClampNeg) rfl ?_
              refine tv_putI C (pc := 152) dX7_doRead_152 fp_X7_151 (ts_live (k := 30) (by decide) (by decide) (by decide)) rfl (cd := 0) rfl (by decide) rfl rfl ?_
              refine tv_nu (fun u67 hu67 => ?_)
              have h := ts_lt h hu67
              refine tv_aload_n C (pc := 155) dX7_doRead_155 rfl rfl ?_
              refine tv_iconst C (pc := 156) dX7_doRead_156 (v := (1 : Int32)) rfl ?_
              refine tv_iload_n C (pc := 157) dX7_doRead_157 rfl rfl ?_
              refine tv_iload_n C (pc := 158) dX7_doRead_158 rfl rfl ?_
              obtain ⟨q68, hq68, h⟩ := ts_bd h
              refine tv_callV C (pc := 159) dX7_doRead_159 (ci := 7) (q := (RX7, TX7, 37)) rfl yl_X7_109 (m_X7_record (D := D) (dT := dT) (sz := sz) (ad := ad) hl (1 : Int32) p1 p2 u67 q68 hq68) (ts_live (k := 30) (by decide) (by decide) (by decide)) rfl (Nat.le_trans (Nat.le_of_ble_eq_true rfl) hdd) (As := [.inl (.int (1 : Int32)), .inl (.int p1), .inl (.int p2)]) rfl ⟨Nat.le_of_ble_eq_true rfl, Nat.le_of_ble_eq_true rfl⟩ (fun _ => Nat.le_of_ble_eq_true rfl) rfl ?_
              refine tv_iconst C (pc := 162) dX7_doRead_162 (v := (1 : Int32)) rfl ?_
              cases h
              exact tv_zret C (pc := 163) (v := (1 : Int32)) rfl ts_nz1 dX7_doRead_163 ⟨Nat.le_of_ble_eq_true rfl, Nat.le_of_ble_eq_true rfl⟩
        · have h := ts_ifn h hc
          refine tv_iload_n C (pc := 51) dX7_doRead_51 rfl rfl ?_
          refine tv_goto C (pc := 52) 66 dX7_doRead_52 (by decide) ?_
          refine tv_istore C (pc := 66) dX7_doRead_66 (L' := [some (.inr (30, 0, 0)), some (.inl (.int p1)), some (.inl (.int p2)), some (.inl (.int x2)), some (.inl (.int x2)), none, none]) (by decide) rfl rfl ?_
          refine tv_iload_n C (pc := 68) dX7_doRead_68 rfl rfl ?_
          refine tv_iload C (pc := 69) dX7_doRead_69 rfl ?_
          obtain ⟨q69, hq69, h⟩ := ts_bd h
          refine tv_callS C (pc := 71) dX7_doRead_71 yl_X7_91 (m_X7_place (D := D) (dT := dT) (sz := sz) (ad := ad) hl p2 x2 u q69 hq69) (Nat.le_trans (Nat.le_of_ble_eq_true rfl) hdd) (As := [.inl (.int p2), .inl (.int x2)]) rfl ⟨Nat.le_of_ble_eq_true rfl, Nat.le_of_ble_eq_true rfl⟩ (fun _ => Nat.le_of_ble_eq_true rfl) rfl ?_
          refine tv_istore C (pc := 74) dX7_doRead_74 (L' := [some (.inr (30, 0, 0)), some (.inl (.int p1)), some (.inl (.int p2)), some (.inl (.int x2)), some (.inl (.int x2)), some (.inl (.int q69)), none]) (by decide) rfl rfl ?_
          refine tv_aload_n C (pc := 76) dX7_doRead_76 rfl rfl ?_
          refine tv_getR C (pc := 77) dX7_doRead_77 fl_X7_46 (ts_live (k := 30) (by decide) (by decide) (by decide)) rfl rfl (i2 := (39, 0, 0)) rfl ?_
          refine tv_iload C (pc := 80) dX7_doRead_80 rfl ?_
          refine tv_iconst C (pc := 82) dX7_doRead_82 (v := (1 : Int32)) rfl ?_
          refine tv_iadd C (pc := 83) dX7_doRead_83 ?_
          refine tv_aload_n C (pc := 84) dX7_doRead_84 rfl rfl ?_
          refine tv_getR C (pc := 85) dX7_doRead_85 fl_X7_46 (ts_live (k := 30) (by decide) (by decide) (by decide)) rfl rfl (i2 := (39, 0, 0)) rfl ?_
          refine tv_iload C (pc := 88) dX7_doRead_88 rfl ?_
          refine tv_iconst C (pc := 90) dX7_doRead_90 (v := (1 : Int32)) rfl ?_
          refine tv_iadd C (pc := 91) dX7_doRead_91 ?_
          obtain ⟨hr70, h⟩ := ts_gd h
          refine tv_iaload C (pc := 92) dX7_doRead_92 (ts_live (k := 39) (by decide) (by decide) (by decide)) rfl hr70 (j := ((q69 + (1 : Int32))).toNatClampNeg) rfl ?_
          refine tv_aload_n C (pc := 93) dX7_doRead_93 rfl rfl ?_
          refine tv_getR C (pc := 94) dX7_doRead_94 fl_X7_25 (ts_live (k := 30) (by decide) (by decide) (by decide)) rfl rfl (i2 := (32, 0, 0)) rfl ?_
          refine tv_iload_n C (pc := 97) dX7_doRead_97 rfl rfl ?_
          obtain ⟨hr71, h⟩ := ts_gd h
          refine tv_iaload C (pc := 98) dX7_doRead_98 (ts_live (k := 32) (by decide) (by decide) (by decide)) rfl hr71 (j := p1.toNatClampNeg) rfl ?_
          refine tv_max C (pc := 99) dX7_doRead_99 ml_X7_146 ts_mx ⟨Nat.le_of_ble_eq_true rfl, Nat.le_of_ble_eq_true rfl⟩ (fun _ => Nat.le_of_ble_eq_true rfl) ?_
          obtain ⟨hr72, h⟩ := ts_gd h
          refine tv_iastore C (pc := 102) dX7_doRead_102 (ts_live (k := 39) (by decide) (by decide) (by decide)) rfl hr72 (j := ((q69 + (1 : Int32))).toNatClampNeg) rfl ?_
          refine tv_nu (fun u73 hu73 => ?_)
          have h := ts_lt h hu73
          refine tv_aload_n C (pc := 103) dX7_doRead_103 rfl rfl ?_
          refine tv_getR C (pc := 104) dX7_doRead_104 fl_X7_46 (ts_live (k := 30) (by decide) (by decide) (by decide)) rfl rfl (i2 := (39, 0, 0)) rfl ?_
          refine tv_iload C (pc := 107) dX7_doRead_107 rfl ?_
          refine tv_iconst C (pc := 109) dX7_doRead_109 (v := (3 : Int32)) rfl ?_
          refine tv_iadd C (pc := 110) dX7_doRead_110 ?_
          obtain ⟨hr74, h⟩ := ts_gd h
          refine tv_iaload C (pc := 111) dX7_doRead_111 (ts_live (k := 39) (by decide) (by decide) (by decide)) rfl hr74 (j := ((q69 + (3 : Int32))).toNatClampNeg) rfl ?_
          refine tv_nmI (fun x75 hx75 => ?_)
          have h := ts_lt h hx75
          refine tv_istore C (pc := 112) dX7_doRead_112 (L' := [some (.inr (30, 0, 0)), some (.inl (.int p1)), some (.inl (.int p2)), some (.inl (.int x2)), some (.inl (.int x2)), some (.inl (.int q69)), some (.inl (.int x75))]) (by decide) rfl rfl ?_
          refine tv_iload C (pc := 114) dX7_doRead_114 rfl ?_
          refine tv_iload_n C (pc := 116) dX7_doRead_116 rfl rfl ?_
          refine tv_icmp_eq C (pc := 117) 142 dX7_doRead_117 (by decide) (fun hc => ?_) (fun hc => ?_)
          · have h := ts_ifp h hc
            refine tv_aload_n C (pc := 142) dX7_doRead_142 rfl rfl ?_
            refine tv_aload_n C (pc := 143) dX7_doRead_143 rfl rfl ?_
            refine tv_getR C (pc := 144) dX7_doRead_144 fl_X7_46 (ts_live (k := 30) (by decide) (by decide) (by decide)) rfl rfl (i2 := (39, 0, 0)) rfl ?_
            refine tv_iload C (pc := 147) dX7_doRead_147 rfl ?_
            refine tv_iconst C (pc := 149) dX7_doRead_149 (v := (2 : Int32)) rfl ?_
            refine tv_iadd C (pc := 150) dX7_doRead_150 ?_
            obtain ⟨hr76, h⟩ := ts_gd h
            refine tv_iaload C (pc := 151) dX7_doRead_151 (ts_live (k := 39) (by decide) (by decide) (by decide)) rfl hr76 (j := ((q69 + (2 : Int32))).toNatClampNeg) rfl ?_
            refine tv_putI C (pc := 152) dX7_doRead_152 fp_X7_151 (ts_live (k := 30) (by decide) (by decide) (by decide)) rfl (cd := 0) rfl (by decide) rfl rfl ?_
            refine tv_nu (fun u77 hu77 => ?_)
            have h := ts_lt h hu77
            refine tv_aload_n C (pc := 155) dX7_doRead_155 rfl rfl ?_
            refine tv_iconst C (pc := 156) dX7_doRead_156 (v := (1 : Int32)) rfl ?_
            refine tv_iload_n C (pc := 157) dX7_doRead_157 rfl rfl ?_
            refine tv_iload_n C (pc := 158) dX7_doRead_158 rfl rfl ?_
            obtain ⟨q78, hq78, h⟩ := ts_bd h
            refine tv_callV C (pc := 159) dX7_doRead_159 (ci := 7) (q := (RX7, TX7, 37)) rfl yl_X7_109 (m_X7_record (D := D) (dT := dT) (sz := sz) (ad := ad) hl (1 : Int32) p1 p2 u77 q78 hq78) (ts_live (k := 30) (by decide) (by decide) (by decide)) rfl (Nat.le_trans (Nat.le_of_ble_eq_true rfl) hdd) (As := [.inl (.int (1 : Int32)), .inl (.int p1), .inl (.int p2)]) rfl ⟨Nat.le_of_ble_eq_true rfl, Nat.le_of_ble_eq_true rfl⟩ (fun _ => Nat.le_of_ble_eq_true rfl) rfl ?_
            refine tv_iconst C (pc := 162) dX7_doRead_162 (v := (1 : Int32)) rfl ?_
            cases h
            exact tv_zret C (pc := 163) (v := (1 : Int32)) rfl ts_nz1 dX7_doRead_163 ⟨Nat.le_of_ble_eq_true rfl, Nat.le_of_ble_eq_true rfl⟩
          · have h := ts_ifn h hc
            refine tv_aload_n C (pc := 120) dX7_doRead_120 rfl rfl ?_
            refine tv_iload C (pc := 121) dX7_doRead_121 rfl ?_
            obtain ⟨q79, hq79, h⟩ := ts_bd h
            refine tv_callV C (pc := 123) dX7_doRead_123 (ci := 7) (q := (RX7, TX7, 37)) rfl yl_X7_117 (m_X7_isUncommitted (D := D) (dT := dT) (sz := sz) (ad := ad) hl x75 u73 q79 hq79) (ts_live (k := 30) (by decide) (by decide) (by decide)) rfl (Nat.le_trans (Nat.le_of_ble_eq_true rfl) hdd) (As := [.inl (.int x75)]) rfl ⟨Nat.le_of_ble_eq_true rfl, Nat.le_of_ble_eq_true rfl⟩ (fun _ => Nat.le_of_ble_eq_true rfl) rfl ?_
            refine tv_if_eq C (pc := 126) 142 dX7_doRead_126 (by decide) (fun hc => ?_) (fun hc => ?_)
            · have h := ts_ifp h hc
              refine tv_aload_n C (pc := 142) dX7_doRead_142 rfl rfl ?_
              refine tv_aload_n C (pc := 143) dX7_doRead_143 rfl rfl ?_
              refine tv_getR C (pc := 144) dX7_doRead_144 fl_X7_46 (ts_live (k := 30) (by decide) (by decide) (by decide)) rfl rfl (i2 := (39, 0, 0)) rfl ?_
              refine tv_iload C (pc := 147) dX7_doRead_147 rfl ?_
              refine tv_iconst C (pc := 149) dX7_doRead_149 (v := (2 : Int32)) rfl ?_
              refine tv_iadd C (pc := 150) dX7_doRead_150 ?_
              obtain ⟨hr80, h⟩ := ts_gd h
              refine tv_iaload C (pc := 151) dX7_doRead_151 (ts_live (k := 39) (by decide) (by decide) (by decide)) rfl hr80 (j := ((q69 + (2 : Int32))).toNatClampNeg) rfl ?_
              refine tv_putI C (pc := 152) dX7_doRead_152 fp_X7_151 (ts_live (k := 30) (by decide) (by decide) (by decide)) rfl (cd := 0) rfl (by decide) rfl rfl ?_
              refine tv_nu (fun u81 hu81 => ?_)
              have h := ts_lt h hu81
              refine tv_aload_n C (pc := 155) dX7_doRead_155 rfl rfl ?_
              refine tv_iconst C (pc := 156) dX7_doRead_156 (v := (1 : Int32)) rfl ?_
              refine tv_iload_n C (pc := 157) dX7_doRead_157 rfl rfl ?_
              refine tv_iload_n C (pc := 158) dX7_doRead_158 rfl rfl ?_
              obtain ⟨q82, hq82, h⟩ := ts_bd h
              refine tv_callV C (pc := 159) dX7_doRead_159 (ci := 7) (q := (RX7, TX7, 37)) rfl yl_X7_109 (m_X7_record (D := D) (dT := dT) (sz := sz) (ad := ad) hl (1 : Int32) p1 p2 u81 q82 hq82) (ts_live (k := 30) (by decide) (by decide) (by decide)) rfl (Nat.le_trans (Nat.le_of_ble_eq_true rfl) hdd) (As := [.inl (.int (1 : Int32)), .inl (.int p1), .inl (.int p2)]) rfl ⟨Nat.le_of_ble_eq_true rfl, Nat.le_of_ble_eq_true rfl⟩ (fun _ => Nat.le_of_ble_eq_true rfl) rfl ?_
              refine tv_iconst C (pc := 162) dX7_doRead_162 (v := (1 : Int32)) rfl ?_
              cases h
              exact tv_zret C (pc := 163) (v := (1 : Int32)) rfl ts_nz1 dX7_doRead_163 ⟨Nat.le_of_ble_eq_true rfl, Nat.le_of_ble_eq_true rfl⟩
            · have h := ts_ifn h hc
              refine tv_aload_n C (pc := 129) dX7_doRead_129 rfl rfl ?_
              refine tv_getR C (pc := 130) dX7_doRead_130 fl_X7_40 (ts_live (k := 30) (by decide) (by decide) (by decide)) rfl rfl (i2 := (37, 0, 0)) rfl ?_
              refine tv_iload_n C (pc := 133) dX7_doRead_133 rfl rfl ?_
              refine tv_dup2 C (pc := 134) dX7_doRead_134 (fun _ => ⟨rfl, rfl⟩) ?_
              obtain ⟨hr83, h⟩ := ts_gd h
              refine tv_iaload C (pc := 135) dX7_doRead_135 (ts_live (k := 37) (by decide) (by decide) (by decide)) rfl hr83 (j := p1.toNatClampNeg) rfl ?_
              refine tv_iconst C (pc := 136) dX7_doRead_136 (v := (1 : Int32)) rfl ?_
              refine tv_iload C (pc := 137) dX7_doRead_137 rfl ?_
              refine tv_ishl C (pc := 139) dX7_doRead_139 ?_
              refine tv_ior C (pc := 140) dX7_doRead_140 ?_
              obtain ⟨hr84, h⟩ := ts_gd h
              refine tv_iastore C (pc := 141) dX7_doRead_141 (ts_live (k := 37) (by decide) (by decide) (by decide)) rfl hr84 (j := p1.toNatClampNeg) rfl ?_
              refine tv_nu (fun u85 hu85 => ?_)
              have h := ts_lt h hu85
              refine tv_aload_n C (pc := 142) dX7_doRead_142 rfl rfl ?_
              refine tv_aload_n C (pc := 143) dX7_doRead_143 rfl rfl ?_
              refine tv_getR C (pc := 144) dX7_doRead_144 fl_X7_46 (ts_live (k := 30) (by decide) (by decide) (by decide)) rfl rfl (i2 := (39, 0, 0)) rfl ?_
              refine tv_iload C (pc := 147) dX7_doRead_147 rfl ?_
              refine tv_iconst C (pc := 149) dX7_doRead_149 (v := (2 : Int32)) rfl ?_
              refine tv_iadd C (pc := 150) dX7_doRead_150 ?_
              obtain ⟨hr86, h⟩ := ts_gd h
              refine tv_iaload C (pc := 151) dX7_doRead_151 (ts_live (k := 39) (by decide) (by decide) (by decide)) rfl hr86 (j := ((q69 + (2 : Int32))).toNatClampNeg) rfl ?_
              refine tv_putI C (pc := 152) dX7_doRead_152 fp_X7_151 (ts_live (k := 30) (by decide) (by decide) (by decide)) rfl (cd := 0) rfl (by decide) rfl rfl ?_
              refine tv_nu (fun u87 hu87 => ?_)
              have h := ts_lt h hu87
              refine tv_aload_n C (pc := 155) dX7_doRead_155 rfl rfl ?_
              refine tv_iconst C (pc := 156) dX7_doRead_156 (v := (1 : Int32)) rfl ?_
              refine tv_iload_n C (pc := 157) dX7_doRead_157 rfl rfl ?_
              refine tv_iload_n C (pc := 158) dX7_doRead_158 rfl rfl ?_
              obtain ⟨q88, hq88, h⟩ := ts_bd h
              refine tv_callV C (pc := 159) dX7_doRead_159 (ci := 7) (q := (RX7, TX7, 37)) rfl yl_X7_109 (m_X7_record (D := D) (dT := dT) (sz := sz) (ad := ad) hl (1 : Int32) p1 p2 u87 q88 hq88) (ts_live (k := 30) (by decide) (by decide) (by decide)) rfl (Nat.le_trans (Nat.le_of_ble_eq_true rfl) hdd) (As := [.inl (.int (1 : Int32)), .inl (.int p1), .inl (.int p2)]) rfl ⟨Nat.le_of_ble_eq_true rfl, Nat.le_of_ble_eq_true rfl⟩ (fun _ => Nat.le_of_ble_eq_true rfl) rfl ?_
              refine tv_iconst C (pc := 162) dX7_doRead_162 (v := (1 : Int32)) rfl ?_
              cases h
              exact tv_zret C (pc := 163) (v := (1 : Int32)) rfl ts_nz1 dX7_doRead_163 ⟨Nat.le_of_ble_eq_true rfl, Nat.le_of_ble_eq_true rfl⟩
      · have h := ts_ifn h hc
        refine tv_aload_n C (pc := 32) dX7_doRead_32 rfl rfl ?_
        refine tv_iload_n C (pc := 33) dX7_doRead_33 rfl rfl ?_
        refine tv_bipush C (pc := 34) dX7_doRead_34 (v := (6 : Int32)) rfl ?_
        refine tv_iload_n C (pc := 36) dX7_doRead_36 rfl rfl ?_
        obtain ⟨q89, hq89, h⟩ := ts_bd h
        refine tv_callV C (pc := 37) dX7_doRead_37 (ci := 7) (q := (RX7, TX7, 37)) rfl yl_X7_121 (m_X7_doAbort (D := D) (dT := dT) (sz := sz) (ad := ad) hl 17 p1 (6 : Int32) p2 u q89 hq89) (ts_live (k := 30) (by decide) (by decide) (by decide)) rfl (Nat.le_trans (Nat.le_of_ble_eq_true rfl) hdd) (As := [.inl (.int p1), .inl (.int (6 : Int32)), .inl (.int p2)]) rfl ⟨Nat.le_of_ble_eq_true rfl, Nat.le_of_ble_eq_true rfl⟩ (fun _ => Nat.le_of_ble_eq_true rfl) rfl ?_
        refine tv_pop C (pc := 40) dX7_doRead_40 (fun _ => rfl) ?_
        refine tv_iconst C (pc := 41) dX7_doRead_41 (v := (0 : Int32)) rfl ?_
        cases h
        exact tv_zret C (pc := 42) (v := (0 : Int32)) rfl ts_nz0 dX7_doRead_42 ⟨Nat.le_of_ble_eq_true rfl, Nat.le_of_ble_eq_true rfl⟩
set_option maxRecDepth 100000 in
set_option maxHeartbeats 4000000 in
theorem lt_X7_isRefused_83 {D : va_G} {dT : Nat → ClassId} {sz : Nat} {p : Program} {l : Launch} {e : Env} {R : Room} {s : State} {m : MethodId} {args : Array Value} {below : List Frame} {meth : Method} {c : Code} {d : Nat} {ad : ts_I → Nat} {kk nn : Nat} {Q : State → Prop} (hl : l.stackTraces = false) (C : ts_CX D dT sz p l R s m args meth c RX7 cX7_isRefused 5 (some .boolean) d) (hdd : 3 ≤ d) (c1 : Int32) (c2 : Int32) (u : ts_Mem) (hkn : kk ≤ R.cells ∧ nn ≤ R.slots) : ∀ (n : Nat) (v3 : Int32) (v4 : Int32) (q : (Int32 × Int32)) (h : lp_X7_isRefused_83 c1 c2 u n v3 v4 = some q) (K : ts_V D dT sz p l e R s m args below meth c 5 Q ad ts_lv ts_R0 132 [some (.inr (30, 0, 0)), some (.inl (.int c1)), some (.inl (.int c2)), some (.inl (.int q.1)), some (.inl (.int q.2))] [] u kk nn), ts_V D dT sz p l e R s m args below meth c 5 Q ad ts_lv ts_R0 83 [some (.inr (30, 0, 0)), some (.inl (.int c1)), some (.inl (.int c2)), some (.inl (.int v3)), some (.inl (.int v4))] [] u kk nn
  | 0, _, _, _, h, _ => by cases h
  | n + 1, v3, v4, q, h, K => by
      rw [lp_X7_isRefused_83] at h
      refine tv_iload C (pc := 83) dX7_isRefused_83 rfl ?_
      refine tv_aload_n C (pc := 85) dX7_isRefused_85 rfl rfl ?_
      refine tv_getR C (pc := 86) dX7_isRefused_86 fl_X7_43 (ts_live (k := 30) (by decide) (by decide) (by decide)) rfl rfl (i2 := (38, 0, 0)) rfl ?_
      refine tv_iload_n C (pc := 89) dX7_isRefused_89 rfl rfl ?_
      obtain ⟨hr1, h⟩ := ts_gd h
      refine tv_iaload C (pc := 90) dX7_isRefused_90 (ts_live (k := 38) (by decide) (by decide) (by decide)) rfl hr1 (j := c2.toNatClampNeg) rfl ?_
      refine tv_icmp_ge C (pc := 91) 132 dX7_isRefused_91 (by decide) (fun hc => ?_) (fun hc => ?_)
      · have h := ts_ifp h hc
        cases h
        exact K
      · have h := ts_ifn h hc
        refine tv_iload_n C (pc := 94) dX7_isRefused_94 rfl rfl ?_
        refine tv_if_ne C (pc := 95) 120 dX7_isRefused_95 (by decide) (fun hc => ?_) (fun hc => ?_)
        · have h := ts_ifn h hc
          refine tv_iconst C (pc := 120) dX7_isRefused_120 (v := (1 : Int32)) rfl ?_
          refine tv_goto C (pc := 121) 125 dX7_isRefused_121 (by decide) ?_
          refine tv_istore_n C (pc := 125) dX7_isRefused_125 (L' := [some (.inr (30, 0, 0)), some (.inl (.int c1)), some (.inl (.int c2)), some (.inl (.int (1 : Int32))), some (.inl (.int v4))]) rfl (by decide) rfl rfl ?_
          refine tv_iinc C (pc := 126) dX7_isRefused_126 (v := (v4 + (1 : Int32))) (L' := [some (.inr (30, 0, 0)), some (.inl (.int c1)), some (.inl (.int c2)), some (.inl (.int (1 : Int32))), some (.inl (.int (v4 + (1 : Int32))))]) rfl rfl (by decide) rfl rfl ?_
          refine tv_goto C (pc := 129) 83 dX7_isRefused_129 (by decide) ?_
          exact lt_X7_isRefused_83 hl C hdd c1 c2 u hkn n (1 : Int32) (v4 + (1 : Int32)) q h K
        · have h := ts_ifp h hc
          refine tv_aload_n C (pc := 98) dX7_isRefused_98 rfl rfl ?_
          refine tv_getR C (pc := 99) dX7_isRefused_99 fl_X7_46 (ts_live (k := 30) (by decide) (by decide) (by decide)) rfl rfl (i2 := (39, 0, 0)) rfl ?_
          refine tv_iload_n C (pc := 102) dX7_isRefused_102 rfl rfl ?_
          refine tv_iload C (pc := 103) dX7_isRefused_103 rfl ?_
          obtain ⟨q2, hq2, h⟩ := ts_bd h
          refine tv_callS C (pc := 105) dX7_isRefused_105 yl_X7_91 (m_X7_place (D := D) (dT := dT) (sz := sz) (ad := ad) hl c2 v4 u q2 hq2) (Nat.le_trans (Nat.le_of_ble_eq_true rfl) hdd) (As := [.inl (.int c2), .inl (.int v4)]) rfl ⟨hkn.1, hkn.2⟩ (fun _ => Nat.le_of_ble_eq_true rfl) rfl ?_
          refine tv_iconst C (pc := 108) dX7_isRefused_108 (v := (1 : Int32)) rfl ?_
          refine tv_iadd C (pc := 109) dX7_isRefused_109 ?_
          obtain ⟨hr3, h⟩ := ts_gd h
          refine tv_iaload C (pc := 110) dX7_isRefused_110 (ts_live (k := 39) (by decide) (by decide) (by decide)) rfl hr3 (j := ((q2 + (1 : Int32))).toNatClampNeg) rfl ?_
          refine tv_aload_n C (pc := 111) dX7_isRefused_111 rfl rfl ?_
          refine tv_getR C (pc := 112) dX7_isRefused_112 fl_X7_25 (ts_live (k := 30) (by decide) (by decide) (by decide)) rfl rfl (i2 := (32, 0, 0)) rfl ?_
          refine tv_iload_n C (pc := 115) dX7_isRefused_115 rfl rfl ?_
          obtain ⟨hr4, h⟩ := ts_gd h
          refine tv_iaload C (pc := 116) dX7_isRefused_116 (ts_live (k := 32) (by decide) (by decide) (by decide)) rfl hr4 (j := c1.toNatClampNeg) rfl ?_
          refine tv_icmp_le C (pc := 117) 124 dX7_isRefused_117 (by decide) (fun hc => ?_) (fun hc => ?_)
          · have h := ts_ifp h hc
            refine tv_iconst C (pc := 124) dX7_isRefused_124 (v := (0 : Int32)) rfl ?_
            refine tv_istore_n C (pc := 125) dX7_isRefused_125 (L' := [some (.inr (30, 0, 0)), some (.inl (.int c1)), some (.inl (.int c2)), some (.inl (.int (0 : Int32))), some (.inl (.int v4))]) rfl (by decide) rfl rfl ?_
            refine tv_iinc C (pc := 126) dX7_isRefused_126 (v := (v4 + (1 : Int32))) (L' := [some (.inr (30, 0, 0)), some (.inl (.int c1)), some (.inl (.int c2)), some (.inl (.int (0 : Int32))), some (.inl (.int (v4 + (1 : Int32))))]) rfl rfl (by decide) rfl rfl ?_
            refine tv_goto C (pc := 129) 83 dX7_isRefused_129 (by decide) ?_
            exact lt_X7_isRefused_83 hl C hdd c1 c2 u hkn n (0 : Int32) (v4 + (1 : Int32)) q h K
          · have h := ts_ifn h hc
            refine tv_iconst C (pc := 120) dX7_isRefused_120 (v := (1 : Int32)) rfl ?_
            refine tv_goto C (pc := 121) 125 dX7_isRefused_121 (by decide) ?_
            refine tv_istore_n C (pc := 125) dX7_isRefused_125 (L' := [some (.inr (30, 0, 0)), some (.inl (.int c1)), some (.inl (.int c2)), some (.inl (.int (1 : Int32))), some (.inl (.int v4))]) rfl (by decide) rfl rfl ?_
            refine tv_iinc C (pc := 126) dX7_isRefused_126 (v := (v4 + (1 : Int32))) (L' := [some (.inr (30, 0, 0)), some (.inl (.int c1)), some (.inl (.int c2)), some (.inl (.int (1 : Int32))), some (.inl (.int (v4 + (1 : Int32))))]) rfl rfl (by decide) rfl rfl ?_
            refine tv_goto C (pc := 129) 83 dX7_isRefused_129 (by decide) ?_
            exact lt_X7_isRefused_83 hl C hdd c1 c2 u hkn n (1 : Int32) (v4 + (1 : Int32)) q h K
set_option maxRecDepth 100000 in
set_option maxHeartbeats 4000000 in
theorem m_X7_isRefused {l : Launch} {D : va_G} {dT : Nat → ClassId} {sz : Nat} {ad : ts_I → Nat} (hl : l.stackTraces = false) (p1 : Int32) (p2 : Int32) (u : ts_Mem) (r : Int32) (h : f_X7_isRefused p1 p2 u = some r) : ts_M l D dT sz yX7_isRefused wX7_isRefused 3 0 0 ad ts_lv ts_R0 [.inr (30, 0, 0), .inl (.int p1), .inl (.int p2)] u (.inl (some (.int r))) u := by
    unfold f_X7_isRefused at h
    refine ts_enter hl (by decide) rfl rfl (Nat.le_of_ble_eq_true rfl) ?_
    intro p e s m args below meth c C hX hnm
    have C : ts_CX D dT sz p l (ts_rm 3 0 0) s m args meth c RX7 cX7_isRefused 5 (some .boolean) 3 := C
    have hdd : 3 ≤ 3 := Nat.le_refl _
    refine tv_aload_n C (pc := 0) dX7_isRefused_0 rfl rfl ?_
    refine tv_getI C (pc := 1) dX7_isRefused_1 fl_X7_15 (ts_live (k := 30) (by decide) (by decide) (by decide)) rfl (cd := 0) rfl (by decide) ?_
    refine tv_iconst C (pc := 4) dX7_isRefused_4 (v := (2 : Int32)) rfl ?_
    refine tv_icmp_ne C (pc := 5) 45 dX7_isRefused_5 (by decide) (fun hc => ?_) (fun hc => ?_)
    · have h := ts_ifn h hc
      refine tv_aload_n C (pc := 45) dX7_isRefused_45 rfl rfl ?_
      refine tv_getI C (pc := 46) dX7_isRefused_46 fl_X7_15 (ts_live (k := 30) (by decide) (by decide) (by decide)) rfl (cd := 0) rfl (by decide) ?_
      refine tv_if_ne C (pc := 49) 78 dX7_isRefused_49 (by decide) (fun hc => ?_) (fun hc => ?_)
      · have h := ts_ifn h hc
        refine tv_iconst C (pc := 78) dX7_isRefused_78 (v := (0 : Int32)) rfl ?_
        refine tv_istore_n C (pc := 79) dX7_isRefused_79 (L' := [some (.inr (30, 0, 0)), some (.inl (.int p1)), some (.inl (.int p2)), some (.inl (.int (0 : Int32))), none]) rfl (by decide) rfl rfl ?_
        refine tv_iconst C (pc := 80) dX7_isRefused_80 (v := (0 : Int32)) rfl ?_
        refine tv_istore C (pc := 81) dX7_isRefused_81 (L' := [some (.inr (30, 0, 0)), some (.inl (.int p1)), some (.inl (.int p2)), some (.inl (.int (0 : Int32))), some (.inl (.int (0 : Int32)))]) (by decide) rfl rfl ?_
        obtain ⟨q5, hq5, h⟩ := ts_bd h
        refine lt_X7_isRefused_83 hl C hdd p1 p2 u ⟨Nat.le_of_ble_eq_true rfl, Nat.le_of_ble_eq_true rfl⟩ ts_fu (0 : Int32) (0 : Int32) q5 hq5 ?_
        refine tv_iload_n C (pc := 132) dX7_isRefused_132 rfl rfl ?_
        obtain ⟨hgz, h⟩ := ts_gd h
        cases h
        exact tv_zret C (pc := 133) rfl (ts_nz hgz).1 dX7_isRefused_133 ⟨Nat.le_of_ble_eq_true rfl, Nat.le_of_ble_eq_true rfl⟩
      · have h := ts_ifp h hc
        refine tv_aload_n C (pc := 52) dX7_isRefused_52 rfl rfl ?_
        refine tv_iload_n C (pc := 53) dX7_isRefused_53 rfl rfl ?_
        refine tv_aload_n C (pc := 54) dX7_isRefused_54 rfl rfl ?_
        refine tv_getR C (pc := 55) dX7_isRefused_55 fl_X7_43 (ts_live (k := 30) (by decide) (by decide) (by decide)) rfl rfl (i2 := (38, 0, 0)) rfl ?_
        refine tv_iload_n C (pc := 58) dX7_isRefused_58 rfl rfl ?_
        obtain ⟨hr6, h⟩ := ts_gd h
        refine tv_iaload C (pc := 59) dX7_isRefused_59 (ts_live (k := 38) (by decide) (by decide) (by decide)) rfl hr6 (j := p2.toNatClampNeg) rfl ?_
        refine tv_iconst C (pc := 60) dX7_isRefused_60 (v := (1 : Int32)) rfl ?_
        refine tv_isub C (pc := 61) dX7_isRefused_61 ?_
        obtain ⟨q7, hq7, h⟩ := ts_bd h
        refine tv_callV C (pc := 62) dX7_isRefused_62 (ci := 7) (q := (RX7, TX7, 37)) rfl yl_X7_140 (m_X7_written (D := D) (dT := dT) (sz := sz) (ad := ad) hl p2 ((ts_gI u (38, 0, 0) p2.toNatClampNeg) - (1 : Int32)) u q7 hq7) (ts_live (k := 30) (by decide) (by decide) (by decide)) rfl (Nat.le_trans (Nat.le_of_ble_eq_true rfl) hdd) (As := [.inl (.int p2), .inl (.int ((ts_gI u (38, 0, 0) p2.toNatClampNeg) - (1 : Int32)))]) rfl ⟨Nat.le_of_ble_eq_true rfl, Nat.le_of_ble_eq_true rfl⟩ (fun _ => Nat.le_of_ble_eq_true rfl) rfl ?_
        refine tv_aload_n C (pc := 65) dX7_isRefused_65 rfl rfl ?_
        refine tv_getR C (pc := 66) dX7_isRefused_66 fl_X7_25 (ts_live (k := 30) (by decide) (by decide) (by decide)) rfl rfl (i2 := (32, 0, 0)) rfl ?_
        refine tv_iload_n C (pc := 69) dX7_isRefused_69 rfl rfl ?_
        obtain ⟨hr8, h⟩ := ts_gd h
        refine tv_iaload C (pc := 70) dX7_isRefused_70 (ts_live (k := 32) (by decide) (by decide) (by decide)) rfl hr8 (j := p1.toNatClampNeg) rfl ?_
        refine tv_icmp_le C (pc := 71) 78 dX7_isRefused_71 (by decide) (fun hc => ?_) (fun hc => ?_)
        · have h := ts_ifp h hc
          refine tv_iconst C (pc := 78) dX7_isRefused_78 (v := (0 : Int32)) rfl ?_
          refine tv_istore_n C (pc := 79) dX7_isRefused_79 (L' := [some (.inr (30, 0, 0)), some (.inl (.int p1)), some (.inl (.int p2)), some (.inl (.int (0 : Int32))), none]) rfl (by decide) rfl rfl ?_
          refine tv_iconst C (pc := 80) dX7_isRefused_80 (v := (0 : Int32)) rfl ?_
          refine tv_istore C (pc := 81) dX7_isRefused_81 (L' := [some (.inr (30, 0, 0)), some (.inl (.int p1)), some (.inl (.int p2)), some (.inl (.int (0 : Int32))), some (.inl (.int (0 : Int32)))]) (by decide) rfl rfl ?_
          obtain ⟨q13, hq13, h⟩ := ts_bd h
          refine lt_X7_isRefused_83 hl C hdd p1 p2 u ⟨Nat.le_of_ble_eq_true rfl, Nat.le_of_ble_eq_true rfl⟩ ts_fu (0 : Int32) (0 : Int32) q13 hq13 ?_
          refine tv_iload_n C (pc := 132) dX7_isRefused_132 rfl rfl ?_
          obtain ⟨hgz, h⟩ := ts_gd h
          cases h
          exact tv_zret C (pc := 133) rfl (ts_nz hgz).1 dX7_isRefused_133 ⟨Nat.le_of_ble_eq_true rfl, Nat.le_of_ble_eq_true rfl⟩
        · have h := ts_ifn h hc
          refine tv_iconst C (pc := 74) dX7_isRefused_74 (v := (1 : Int32)) rfl ?_
          refine tv_goto C (pc := 75) 79 dX7_isRefused_75 (by decide) ?_
          refine tv_istore_n C (pc := 79) dX7_isRefused_79 (L' := [some (.inr (30, 0, 0)), some (.inl (.int p1)), some (.inl (.int p2)), some (.inl (.int (1 : Int32))), none]) rfl (by decide) rfl rfl ?_
          refine tv_iconst C (pc := 80) dX7_isRefused_80 (v := (0 : Int32)) rfl ?_
          refine tv_istore C (pc := 81) dX7_isRefused_81 (L' := [some (.inr (30, 0, 0)), some (.inl (.int p1)), some (.inl (.int p2)), some (.inl (.int (1 : Int32))), some (.inl (.int (0 : Int32)))]) (by decide) rfl rfl ?_
          obtain ⟨q18, hq18, h⟩ := ts_bd h
          refine lt_X7_isRefused_83 hl C hdd p1 p2 u ⟨Nat.le_of_ble_eq_true rfl, Nat.le_of_ble_eq_true rfl⟩ ts_fu (1 : Int32) (0 : Int32) q18 hq18 ?_
          refine tv_iload_n C (pc := 132) dX7_isRefused_132 rfl rfl ?_
          obtain ⟨hgz, h⟩ := ts_gd h
          cases h
          exact tv_zret C (pc := 133) rfl (ts_nz hgz).1 dX7_isRefused_133 ⟨Nat.le_of_ble_eq_true rfl, Nat.le_of_ble_eq_true rfl⟩
    · have h := ts_ifp h hc
      refine tv_aload_n C (pc := 8) dX7_isRefused_8 rfl rfl ?_
      refine tv_getR C (pc := 9) dX7_isRefused_9 fl_X7_46 (ts_live (k := 30) (by decide) (by decide) (by decide)) rfl rfl (i2 := (39, 0, 0)) rfl ?_
      refine tv_iload_n C (pc := 12) dX7_isRefused_12 rfl rfl ?_
      refine tv_aload_n C (pc := 13) dX7_isRefused_13 rfl rfl ?_
      refine tv_iload_n C (pc := 14) dX7_isRefused_14 rfl rfl ?_
      refine tv_aload_n C (pc := 15) dX7_isRefused_15 rfl rfl ?_
      refine tv_getR C (pc := 16) dX7_isRefused_16 fl_X7_25 (ts_live (k := 30) (by decide) (by decide) (by decide)) rfl rfl (i2 := (32, 0, 0)) rfl ?_
      refine tv_iload_n C (pc := 19) dX7_isRefused_19 rfl rfl ?_
      obtain ⟨hr19, h⟩ := ts_gd h
      refine tv_iaload C (pc := 20) dX7_isRefused_20 (ts_live (k := 32) (by decide) (by decide) (by decide)) rfl hr19 (j := p1.toNatClampNeg) rfl ?_
      obtain ⟨q20, hq20, h⟩ := ts_bd h
      refine tv_callV C (pc := 21) dX7_isRefused_21 (ci := 7) (q := (RX7, TX7, 37)) rfl yl_X7_143 (m_X7_lastUpTo (D := D) (dT := dT) (sz := sz) (ad := ad) hl p2 (ts_gI u (32, 0, 0) p1.toNatClampNeg) u q20 hq20) (ts_live (k := 30) (by decide) (by decide) (by decide)) rfl (Nat.le_trans (Nat.le_of_ble_eq_true rfl) hdd) (As := [.inl (.int p2), .inl (.int (ts_gI u (32, 0, 0) p1.toNatClampNeg))]) rfl ⟨Nat.le_of_ble_eq_true rfl, Nat.le_of_ble_eq_true rfl⟩ (fun _ => Nat.le_of_ble_eq_true rfl) rfl ?_
      obtain ⟨q21, hq21, h⟩ := ts_bd h
      refine tv_callS C (pc := 24) dX7_isRefused_24 yl_X7_91 (m_X7_place (D := D) (dT := dT) (sz := sz) (ad := ad) hl p2 q20 u q21 hq21) (Nat.le_trans (Nat.le_of_ble_eq_true rfl) hdd) (As := [.inl (.int p2), .inl (.int q20)]) rfl ⟨Nat.le_of_ble_eq_true rfl, Nat.le_of_ble_eq_true rfl⟩ (fun _ => Nat.le_of_ble_eq_true rfl) rfl ?_
      refine tv_iconst C (pc := 27) dX7_isRefused_27 (v := (1 : Int32)) rfl ?_
      refine tv_iadd C (pc := 28) dX7_isRefused_28 ?_
      obtain ⟨hr22, h⟩ := ts_gd h
      refine tv_iaload C (pc := 29) dX7_isRefused_29 (ts_live (k := 39) (by decide) (by decide) (by decide)) rfl hr22 (j := ((q21 + (1 : Int32))).toNatClampNeg) rfl ?_
      refine tv_aload_n C (pc := 30) dX7_isRefused_30 rfl rfl ?_
      refine tv_getR C (pc := 31) dX7_isRefused_31 fl_X7_25 (ts_live (k := 30) (by decide) (by decide) (by decide)) rfl rfl (i2 := (32, 0, 0)) rfl ?_
      refine tv_iload_n C (pc := 34) dX7_isRefused_34 rfl rfl ?_
      obtain ⟨hr23, h⟩ := ts_gd h
      refine tv_iaload C (pc := 35) dX7_isRefused_35 (ts_live (k := 32) (by decide) (by decide) (by decide)) rfl hr23 (j := p1.toNatClampNeg) rfl ?_
      refine tv_icmp_le C (pc := 36) 43 dX7_isRefused_36 (by decide) (fun hc => ?_) (fun hc => ?_)
      · have h := ts_ifp h hc
        refine tv_iconst C (pc := 43) dX7_isRefused_43 (v := (0 : Int32)) rfl ?_
        cases h
        exact tv_zret C (pc := 44) (v := (0 : Int32)) rfl ts_nz0 dX7_isRefused_44 ⟨Nat.le_of_ble_eq_true rfl, Nat.le_of_ble_eq_true rfl⟩
      · have h := ts_ifn h hc
        refine tv_iconst C (pc := 39) dX7_isRefused_39 (v := (1 : Int32)) rfl ?_
        refine tv_goto C (pc := 40) 44 dX7_isRefused_40 (by decide) ?_
        cases h
        exact tv_zret C (pc := 44) (v := (1 : Int32)) rfl ts_nz1 dX7_isRefused_44 ⟨Nat.le_of_ble_eq_true rfl, Nat.le_of_ble_eq_true rfl⟩
