set_option maxRecDepth 100000 in
set_option maxHeartbeats 4000000 in
theorem lt_X0_startAnew_17 {D : va_G} {dT : Nat → ClassId} {sz : Nat} {p : Program} {l : Launch} {e : Env} {R : Room} {s : State} {m : MethodId} {args : Array Value} {below : List Frame} {meth : Method} {c : Code} {d : Nat} {ad : ts_I → Nat} {kk nn : Nat} {Q : State → Prop} (hl : l.stackTraces = false) (C : ts_CX D dT sz p l R s m args meth c RX0 cX0_startAnew 3 none d) (hdd : 1 ≤ d) (b0 : Nat) (hb0 : b0 < 2) (c1 : Int32) (hkn : kk ≤ R.cells ∧ nn ≤ R.slots) : ∀ (n : Nat) (v2 : Int32) (u : ts_Mem) (q : (Int32 × ts_Mem)) (h : lp_X0_startAnew_17 b0 c1 n v2 u = some q) (K : ts_V D dT sz p l e R s m args below meth c 3 Q ad ts_lv ts_R0 38 [some (.inr (1, b0, 0)), some (.inl (.int c1)), some (.inl (.int q.1))] [] q.2 kk nn), ts_V D dT sz p l e R s m args below meth c 3 Q ad ts_lv ts_R0 17 [some (.inr (1, b0, 0)), some (.inl (.int c1)), some (.inl (.int v2))] [] u kk nn
  | 0, _, _, _, h, _ => by cases h
  | n + 1, v2, u, q, h, K => by
      rw [lp_X0_startAnew_17] at h
      refine tv_iload_n C (pc := 17) dX0_startAnew_17 rfl rfl ?_
      refine tv_bipush C (pc := 18) dX0_startAnew_18 (v := (8 : Int32)) rfl ?_
      refine tv_icmp_ge C (pc := 20) 38 dX0_startAnew_20 (by decide) (fun hc => ?_) (fun hc => ?_)
      · have h := ts_ifp h hc
        cases h
        exact K
      · have h := ts_ifn h hc
        refine tv_aload_n C (pc := 23) dX0_startAnew_23 rfl rfl ?_
        refine tv_getR C (pc := 24) dX0_startAnew_24 fl_X0_30 (ts_live (k := 1) (by decide) hb0 (by decide)) rfl rfl (i2 := (3, b0, 0)) rfl ?_
        refine tv_iload_n C (pc := 27) dX0_startAnew_27 rfl rfl ?_
        obtain ⟨hr4, h⟩ := ts_gd h
        refine tv_aaload6 C (pc := 28) dX0_startAnew_28 (ts_live (k := 3) (by decide) hb0 (by decide)) rfl hr4 (j := v2.toNatClampNeg) rfl (i2 := (16, b0, v2.toNatClampNeg)) rfl ?_
        obtain ⟨q5, hq5, h⟩ := ts_bd h
        refine tv_callV C (pc := 29) dX0_startAnew_29 (ci := 1) (q := (RX1, TX1, 5)) rfl yl_X0_49 (m_X1_keepFirstVersionOnly (D := D) (dT := dT) (sz := sz) (ad := ad) hl b0 hb0 v2.toNatClampNeg (ts_vin hr4) u q5 hq5) (ts_live (k := 16) (by decide) hb0 (ts_vin hr4)) rfl (Nat.le_trans (Nat.le_of_ble_eq_true rfl) hdd) (As := []) rfl ⟨hkn.1, hkn.2⟩ (fun _ => Nat.le_of_ble_eq_true rfl) rfl ?_
        refine tv_iinc C (pc := 32) dX0_startAnew_32 (v := (v2 + (1 : Int32))) (L' := [some (.inr (1, b0, 0)), some (.inl (.int c1)), some (.inl (.int (v2 + (1 : Int32))))]) rfl rfl (by decide) rfl rfl ?_
        refine tv_goto C (pc := 35) 17 dX0_startAnew_35 (by decide) ?_
        exact lt_X0_startAnew_17 hl C hdd b0 hb0 c1 hkn n (v2 + (1 : Int32)) q5 q h K
set_option maxRecDepth 100000 in
set_option maxHeartbeats 4000000 in
theorem m_X0_startAnew {l : Launch} {D : va_G} {dT : Nat → ClassId} {sz : Nat} {ad : ts_I → Nat} (hl : l.stackTraces = false) (b0 : Nat) (hb0 : b0 < 2) (p1 : Int32) (u : ts_Mem) (r : ts_Mem) (h : f_X0_startAnew b0 p1 u = some r) : ts_M l D dT sz yX0_startAnew wX0_startAnew 1 0 0 ad ts_lv ts_R0 [.inr (1, b0, 0), .inl (.int p1)] u (.inl none) r := by
    unfold f_X0_startAnew at h
    refine ts_enter hl (by decide) rfl rfl (Nat.le_of_ble_eq_true rfl) ?_
    intro p e s m args below meth c C hX hnm
    have C : ts_CX D dT sz p l (ts_rm 1 0 0) s m args meth c RX0 cX0_startAnew 3 none 1 := C
    have hdd : 1 ≤ 1 := Nat.le_refl _
    refine tv_aload_n C (pc := 0) dX0_startAnew_0 rfl rfl ?_
    refine tv_iload_n C (pc := 1) dX0_startAnew_1 rfl rfl ?_
    refine tv_putI C (pc := 2) dX0_startAnew_2 fp_X0_9 (ts_live (k := 1) (by decide) hb0 (by decide)) rfl (cd := 0) rfl (by decide) rfl rfl ?_
    refine tv_nu (fun u1 hu1 => ?_)
    have h := ts_lt h hu1
    refine tv_aload_n C (pc := 5) dX0_startAnew_5 rfl rfl ?_
    refine tv_iconst C (pc := 6) dX0_startAnew_6 (v := (1 : Int32)) rfl ?_
    refine tv_putI C (pc := 7) dX0_startAnew_7 fp_X0_15 (ts_live (k := 1) (by decide) hb0 (by decide)) rfl (cd := 0) rfl (by decide) rfl rfl ?_
    refine tv_nu (fun u2 hu2 => ?_)
    have h := ts_lt h hu2
    refine tv_aload_n C (pc := 10) dX0_startAnew_10 rfl rfl ?_
    refine tv_iconst C (pc := 11) dX0_startAnew_11 (v := (0 : Int32)) rfl ?_
    refine tv_putI C (pc := 12) dX0_startAnew_12 fp_X0_18 (ts_live (k := 1) (by decide) hb0 (by decide)) rfl (cd := 0) rfl (by decide) rfl rfl ?_
    refine tv_nu (fun u3 hu3 => ?_)
    have h := ts_lt h hu3
    refine tv_iconst C (pc := 15) dX0_startAnew_15 (v := (0 : Int32)) rfl ?_
    refine tv_istore_n C (pc := 16) dX0_startAnew_16 (L' := [some (.inr (1, b0, 0)), some (.inl (.int p1)), some (.inl (.int (0 : Int32)))]) rfl (by decide) rfl rfl ?_
    obtain ⟨q6, hq6, h⟩ := ts_bd h
    refine lt_X0_startAnew_17 hl C hdd b0 hb0 p1 ⟨Nat.le_of_ble_eq_true rfl, Nat.le_of_ble_eq_true rfl⟩ ts_fu (0 : Int32) u3 q6 hq6 ?_
    refine tv_aload_n C (pc := 38) dX0_startAnew_38 rfl rfl ?_
    refine tv_getR C (pc := 39) dX0_startAnew_39 fl_X0_38 (ts_live (k := 1) (by decide) hb0 (by decide)) rfl rfl (i2 := (4, b0, 0)) rfl ?_
    obtain ⟨q7, hq7, h⟩ := ts_bd h
    refine tv_callV C (pc := 42) dX0_startAnew_42 (ci := 2) (q := (RX2, TX2, 6)) rfl yl_X0_52 (m_X2_forgetAll (D := D) (dT := dT) (sz := sz) (ad := ad) hl b0 hb0 q6.2 q7 hq7) (ts_live (k := 4) (by decide) hb0 (by decide)) rfl (Nat.le_trans (Nat.le_of_ble_eq_true rfl) hdd) (As := []) rfl ⟨Nat.le_of_ble_eq_true rfl, Nat.le_of_ble_eq_true rfl⟩ (fun _ => Nat.le_of_ble_eq_true rfl) rfl ?_
    cases h
    exact tv_vret C (pc := 45) rfl dX0_startAnew_45 ⟨Nat.le_of_ble_eq_true rfl, Nat.le_of_ble_eq_true rfl⟩
set_option maxRecDepth 100000 in
set_option maxHeartbeats 4000000 in
theorem lt_X0_copyFrom_26 {D : va_G} {dT : Nat → ClassId} {sz : Nat} {p : Program} {l : Launch} {e : Env} {R : Room} {s : State} {m : MethodId} {args : Array Value} {below : List Frame} {meth : Method} {c : Code} {d : Nat} {ad : ts_I → Nat} {kk nn : Nat} {Q : State → Prop} (hl : l.stackTraces = false) (C : ts_CX D dT sz p l R s m args meth c RX0 cX0_copyFrom 3 none d) (hdd : 1 ≤ d) (b0 : Nat) (hb0 : b0 < 2) (b1 : Nat) (hb1 : b1 < 2) (hkn : kk ≤ R.cells ∧ nn ≤ R.slots) : ∀ (n : Nat) (v2 : Int32) (u : ts_Mem) (q : (Int32 × ts_Mem)) (h : lp_X0_copyFrom_26 b0 b1 n v2 u = some q) (K : ts_V D dT sz p l e R s m args below meth c 3 Q ad ts_lv ts_R0 53 [some (.inr (1, b0, 0)), some (.inr (1, b1, 0)), some (.inl (.int q.1))] [] q.2 kk nn), ts_V D dT sz p l e R s m args below meth c 3 Q ad ts_lv ts_R0 26 [some (.inr (1, b0, 0)), some (.inr (1, b1, 0)), some (.inl (.int v2))] [] u kk nn
  | 0, _, _, _, h, _ => by cases h
  | n + 1, v2, u, q, h, K => by
      rw [lp_X0_copyFrom_26] at h
      refine tv_iload_n C (pc := 26) dX0_copyFrom_26 rfl rfl ?_
      refine tv_bipush C (pc := 27) dX0_copyFrom_27 (v := (16 : Int32)) rfl ?_
      refine tv_icmp_ge C (pc := 29) 53 dX0_copyFrom_29 (by decide) (fun hc => ?_) (fun hc => ?_)
      · have h := ts_ifp h hc
        cases h
        exact K
      · have h := ts_ifn h hc
        refine tv_aload_n C (pc := 32) dX0_copyFrom_32 rfl rfl ?_
        refine tv_getR C (pc := 33) dX0_copyFrom_33 fl_X0_23 (ts_live (k := 1) (by decide) hb0 (by decide)) rfl rfl (i2 := (2, b0, 0)) rfl ?_
        refine tv_iload_n C (pc := 36) dX0_copyFrom_36 rfl rfl ?_
        obtain ⟨hr4, h⟩ := ts_gd h
        refine tv_aaload5 C (pc := 37) dX0_copyFrom_37 (ts_live (k := 2) (by decide) hb0 (by decide)) rfl hr4 (j := v2.toNatClampNeg) rfl (i2 := (11, b0, v2.toNatClampNeg)) rfl ?_
        refine tv_aload_n C (pc := 38) dX0_copyFrom_38 rfl rfl ?_
        refine tv_getR C (pc := 39) dX0_copyFrom_39 fl_X0_23 (ts_live (k := 1) (by decide) hb1 (by decide)) rfl rfl (i2 := (2, b1, 0)) rfl ?_
        refine tv_iload_n C (pc := 42) dX0_copyFrom_42 rfl rfl ?_
        obtain ⟨hr5, h⟩ := ts_gd h
        refine tv_aaload5 C (pc := 43) dX0_copyFrom_43 (ts_live (k := 2) (by decide) hb1 (by decide)) rfl hr5 (j := v2.toNatClampNeg) rfl (i2 := (11, b1, v2.toNatClampNeg)) rfl ?_
        obtain ⟨q6, hq6, h⟩ := ts_bd h
        refine tv_callV C (pc := 44) dX0_copyFrom_44 (ci := 5) (q := (RX5, TX5, 10)) rfl yl_X0_55 (m_X5_copyFrom (D := D) (dT := dT) (sz := sz) (ad := ad) hl b0 hb0 v2.toNatClampNeg (ts_vin hr4) b1 hb1 v2.toNatClampNeg (ts_vin hr5) u q6 hq6) (ts_live (k := 11) (by decide) hb0 (ts_vin hr4)) rfl (Nat.le_trans (Nat.le_of_ble_eq_true rfl) hdd) (As := [.inr (11, b1, v2.toNatClampNeg)]) rfl ⟨hkn.1, hkn.2⟩ (fun _ => Nat.le_of_ble_eq_true rfl) rfl ?_
        refine tv_iinc C (pc := 47) dX0_copyFrom_47 (v := (v2 + (1 : Int32))) (L' := [some (.inr (1, b0, 0)), some (.inr (1, b1, 0)), some (.inl (.int (v2 + (1 : Int32))))]) rfl rfl (by decide) rfl rfl ?_
        refine tv_goto C (pc := 50) 26 dX0_copyFrom_50 (by decide) ?_
        exact lt_X0_copyFrom_26 hl C hdd b0 hb0 b1 hb1 hkn n (v2 + (1 : Int32)) q6 q h K
set_option maxRecDepth 100000 in
set_option maxHeartbeats 4000000 in
theorem lt_X0_copyFrom_55 {D : va_G} {dT : Nat → ClassId} {sz : Nat} {p : Program} {l : Launch} {e : Env} {R : Room} {s : State} {m : MethodId} {args : Array Value} {below : List Frame} {meth : Method} {c : Code} {d : Nat} {ad : ts_I → Nat} {kk nn : Nat} {Q : State → Prop} (hl : l.stackTraces = false) (C : ts_CX D dT sz p l R s m args meth c RX0 cX0_copyFrom 3 none d) (hdd : 1 ≤ d) (b0 : Nat) (hb0 : b0 < 2) (b1 : Nat) (hb1 : b1 < 2) (hkn : kk ≤ R.cells ∧ nn ≤ R.slots) : ∀ (n : Nat) (v2 : Int32) (u : ts_Mem) (q : (Int32 × ts_Mem)) (h : lp_X0_copyFrom_55 b0 b1 n v2 u = some q) (K : ts_V D dT sz p l e R s m args below meth c 3 Q ad ts_lv ts_R0 82 [some (.inr (1, b0, 0)), some (.inr (1, b1, 0)), some (.inl (.int q.1))] [] q.2 kk nn), ts_V D dT sz p l e R s m args below meth c 3 Q ad ts_lv ts_R0 55 [some (.inr (1, b0, 0)), some (.inr (1, b1, 0)), some (.inl (.int v2))] [] u kk nn
  | 0, _, _, _, h, _ => by cases h
  | n + 1, v2, u, q, h, K => by
      rw [lp_X0_copyFrom_55] at h
      refine tv_iload_n C (pc := 55) dX0_copyFrom_55 rfl rfl ?_
      refine tv_bipush C (pc := 56) dX0_copyFrom_56 (v := (8 : Int32)) rfl ?_
      refine tv_icmp_ge C (pc := 58) 82 dX0_copyFrom_58 (by decide) (fun hc => ?_) (fun hc => ?_)
      · have h := ts_ifp h hc
        cases h
        exact K
      · have h := ts_ifn h hc
        refine tv_aload_n C (pc := 61) dX0_copyFrom_61 rfl rfl ?_
        refine tv_getR C (pc := 62) dX0_copyFrom_62 fl_X0_30 (ts_live (k := 1) (by decide) hb0 (by decide)) rfl rfl (i2 := (3, b0, 0)) rfl ?_
        refine tv_iload_n C (pc := 65) dX0_copyFrom_65 rfl rfl ?_
        obtain ⟨hr8, h⟩ := ts_gd h
        refine tv_aaload6 C (pc := 66) dX0_copyFrom_66 (ts_live (k := 3) (by decide) hb0 (by decide)) rfl hr8 (j := v2.toNatClampNeg) rfl (i2 := (16, b0, v2.toNatClampNeg)) rfl ?_
        refine tv_aload_n C (pc := 67) dX0_copyFrom_67 rfl rfl ?_
        refine tv_getR C (pc := 68) dX0_copyFrom_68 fl_X0_30 (ts_live (k := 1) (by decide) hb1 (by decide)) rfl rfl (i2 := (3, b1, 0)) rfl ?_
        refine tv_iload_n C (pc := 71) dX0_copyFrom_71 rfl rfl ?_
        obtain ⟨hr9, h⟩ := ts_gd h
        refine tv_aaload6 C (pc := 72) dX0_copyFrom_72 (ts_live (k := 3) (by decide) hb1 (by decide)) rfl hr9 (j := v2.toNatClampNeg) rfl (i2 := (16, b1, v2.toNatClampNeg)) rfl ?_
        obtain ⟨q10, hq10, h⟩ := ts_bd h
        refine tv_callV C (pc := 73) dX0_copyFrom_73 (ci := 1) (q := (RX1, TX1, 5)) rfl yl_X0_59 (m_X1_copyFrom (D := D) (dT := dT) (sz := sz) (ad := ad) hl b0 hb0 v2.toNatClampNeg (ts_vin hr8) b1 hb1 v2.toNatClampNeg (ts_vin hr9) u q10 hq10) (ts_live (k := 16) (by decide) hb0 (ts_vin hr8)) rfl (Nat.le_trans (Nat.le_of_ble_eq_true rfl) hdd) (As := [.inr (16, b1, v2.toNatClampNeg)]) rfl ⟨hkn.1, hkn.2⟩ (fun _ => Nat.le_of_ble_eq_true rfl) rfl ?_
        refine tv_iinc C (pc := 76) dX0_copyFrom_76 (v := (v2 + (1 : Int32))) (L' := [some (.inr (1, b0, 0)), some (.inr (1, b1, 0)), some (.inl (.int (v2 + (1 : Int32))))]) rfl rfl (by decide) rfl rfl ?_
        refine tv_goto C (pc := 79) 55 dX0_copyFrom_79 (by decide) ?_
        exact lt_X0_copyFrom_55 hl C hdd b0 hb0 b1 hb1 hkn n (v2 + (1 : Int32)) q10 q h K
set_option maxRecDepth 100000 in
set_option maxHeartbeats 4000000 in
theorem m_X0_copyFrom {l : Launch} {D : va_G} {dT : Nat → ClassId} {sz : Nat} {ad : ts_I → Nat} (hl : l.stackTraces = false) (b0 : Nat) (hb0 : b0 < 2) (b1 : Nat) (hb1 : b1 < 2) (u : ts_Mem) (r : ts_Mem) (h : f_X0_copyFrom b0 b1 u = some r) : ts_M l D dT sz yX0_copyFrom wX0_copyFrom 1 0 0 ad ts_lv ts_R0 [.inr (1, b0, 0), .inr (1, b1, 0)] u (.inl none) r := by
    unfold f_X0_copyFrom at h
    refine ts_enter hl (by decide) rfl rfl (Nat.le_of_ble_eq_true rfl) ?_
    intro p e s m args below meth c C hX hnm
    have C : ts_CX D dT sz p l (ts_rm 1 0 0) s m args meth c RX0 cX0_copyFrom 3 none 1 := C
    have hdd : 1 ≤ 1 := Nat.le_refl _
    refine tv_aload_n C (pc := 0) dX0_copyFrom_0 rfl rfl ?_
    refine tv_aload_n C (pc := 1) dX0_copyFrom_1 rfl rfl ?_
    refine tv_getI C (pc := 2) dX0_copyFrom_2 fl_X0_9 (ts_live (k := 1) (by decide) hb1 (by decide)) rfl (cd := 0) rfl (by decide) ?_
    refine tv_putI C (pc := 5) dX0_copyFrom_5 fp_X0_9 (ts_live (k := 1) (by decide) hb0 (by decide)) rfl (cd := 0) rfl (by decide) rfl rfl ?_
    refine tv_nu (fun u1 hu1 => ?_)
    have h := ts_lt h hu1
    refine tv_aload_n C (pc := 8) dX0_copyFrom_8 rfl rfl ?_
    refine tv_aload_n C (pc := 9) dX0_copyFrom_9 rfl rfl ?_
    refine tv_getI C (pc := 10) dX0_copyFrom_10 fl_X0_15 (ts_live (k := 1) (by decide) hb1 (by decide)) rfl (cd := 0) rfl (by decide) ?_
    refine tv_putI C (pc := 13) dX0_copyFrom_13 fp_X0_15 (ts_live (k := 1) (by decide) hb0 (by decide)) rfl (cd := 0) rfl (by decide) rfl rfl ?_
    refine tv_nu (fun u2 hu2 => ?_)
    have h := ts_lt h hu2
    refine tv_aload_n C (pc := 16) dX0_copyFrom_16 rfl rfl ?_
    refine tv_aload_n C (pc := 17) dX0_copyFrom_17 rfl rfl ?_
    refine tv_getI C (pc := 18) dX0_copyFrom_18 fl_X0_18 (ts_live (k := 1) (by decide) hb1 (by decide)) rfl (cd := 0) rfl (by decide) ?_
    refine tv_putI C (pc := 21) dX0_copyFrom_21 fp_X0_18 (ts_live (k := 1) (by decide) hb0 (by decide)) rfl (cd := 0) rfl (by decide) rfl rfl ?_
    refine tv_nu (fun u3 hu3 => ?_)
    have h := ts_lt h hu3
    refine tv_iconst C (pc := 24) dX0_copyFrom_24 (v := (0 : Int32)) rfl ?_
    refine tv_istore_n C (pc := 25) dX0_copyFrom_25 (L' := [some (.inr (1, b0, 0)), some (.inr (1, b1, 0)), some (.inl (.int (0 : Int32)))]) rfl (by decide) rfl rfl ?_
    obtain ⟨q7, hq7, h⟩ := ts_bd h
    refine lt_X0_copyFrom_26 hl C hdd b0 hb0 b1 hb1 ⟨Nat.le_of_ble_eq_true rfl, Nat.le_of_ble_eq_true rfl⟩ ts_fu (0 : Int32) u3 q7 hq7 ?_
    refine tv_iconst C (pc := 53) dX0_copyFrom_53 (v := (0 : Int32)) rfl ?_
    refine tv_istore_n C (pc := 54) dX0_copyFrom_54 (L' := [some (.inr (1, b0, 0)), some (.inr (1, b1, 0)), some (.inl (.int (0 : Int32)))]) rfl (by decide) rfl rfl ?_
    obtain ⟨q11, hq11, h⟩ := ts_bd h
    refine lt_X0_copyFrom_55 hl C hdd b0 hb0 b1 hb1 ⟨Nat.le_of_ble_eq_true rfl, Nat.le_of_ble_eq_true rfl⟩ ts_fu (0 : Int32) q7.2 q11 hq11 ?_
    refine tv_aload_n C (pc := 82) dX0_copyFrom_82 rfl rfl ?_
    refine tv_getR C (pc := 83) dX0_copyFrom_83 fl_X0_38 (ts_live (k := 1) (by decide) hb0 (by decide)) rfl rfl (i2 := (4, b0, 0)) rfl ?_
    refine tv_aload_n C (pc := 86) dX0_copyFrom_86 rfl rfl ?_
    refine tv_getR C (pc := 87) dX0_copyFrom_87 fl_X0_38 (ts_live (k := 1) (by decide) hb1 (by decide)) rfl rfl (i2 := (4, b1, 0)) rfl ?_
    obtain ⟨q12, hq12, h⟩ := ts_bd h
    refine tv_callV C (pc := 90) dX0_copyFrom_90 (ci := 2) (q := (RX2, TX2, 6)) rfl yl_X0_62 (m_X2_copyFrom (D := D) (dT := dT) (sz := sz) (ad := ad) hl b0 hb0 b1 hb1 q11.2 q12 hq12) (ts_live (k := 4) (by decide) hb0 (by decide)) rfl (Nat.le_trans (Nat.le_of_ble_eq_true rfl) hdd) (As := [.inr (4, b1, 0)]) rfl ⟨Nat.le_of_ble_eq_true rfl, Nat.le_of_ble_eq_true rfl⟩ (fun _ => Nat.le_of_ble_eq_true rfl) rfl ?_
    cases h
    exact tv_vret C (pc := 93) rfl dX0_copyFrom_93 ⟨Nat.le_of_ble_eq_true rfl, Nat.le_of_ble_eq_true rfl⟩
set_option maxRecDepth 100000 in
set_option maxHeartbeats 4000000 in
theorem m_X0_givenTimestamp {l : Launch} {D : va_G} {dT : Nat → ClassId} {sz : Nat} {ad : ts_I → Nat} (hl : l.stackTraces = false) (b0 : Nat) (hb0 : b0 < 2) (u : ts_Mem) (r : (Int32 × ts_Mem)) (h : f_X0_givenTimestamp b0 u = some r) : ts_M l D dT sz yX0_givenTimestamp wX0_givenTimestamp 0 0 0 ad ts_lv ts_R0 [.inr (1, b0, 0)] u (.inl (some (.int r.1))) r.2 := by
    unfold f_X0_givenTimestamp at h
    refine ts_enter hl (by decide) rfl rfl (Nat.le_of_ble_eq_true rfl) ?_
    intro p e s m args below meth c C hX hnm
    have C : ts_CX D dT sz p l (ts_rm 0 0 0) s m args meth c RX0 cX0_givenTimestamp 2 (some .int) 0 := C
    have hdd : 0 ≤ 0 := Nat.le_refl _
    refine tv_aload_n C (pc := 0) dX0_givenTimestamp_0 rfl rfl ?_
    refine tv_getI C (pc := 1) dX0_givenTimestamp_1 fl_X0_15 (ts_live (k := 1) (by decide) hb0 (by decide)) rfl (cd := 0) rfl (by decide) ?_
    refine tv_nmI (fun x1 hx1 => ?_)
    have h := ts_lt h hx1
    refine tv_istore_n C (pc := 4) dX0_givenTimestamp_4 (L' := [some (.inr (1, b0, 0)), some (.inl (.int x1))]) rfl (by decide) rfl rfl ?_
    refine tv_aload_n C (pc := 5) dX0_givenTimestamp_5 rfl rfl ?_
    refine tv_dup C (pc := 6) dX0_givenTimestamp_6 (fun _ => rfl) ?_
    refine tv_getI C (pc := 7) dX0_givenTimestamp_7 fl_X0_15 (ts_live (k := 1) (by decide) hb0 (by decide)) rfl (cd := 0) rfl (by decide) ?_
    refine tv_iconst C (pc := 10) dX0_givenTimestamp_10 (v := (1 : Int32)) rfl ?_
    refine tv_iadd C (pc := 11) dX0_givenTimestamp_11 ?_
    refine tv_putI C (pc := 12) dX0_givenTimestamp_12 fp_X0_15 (ts_live (k := 1) (by decide) hb0 (by decide)) rfl (cd := 0) rfl (by decide) rfl rfl ?_
    refine tv_nu (fun u2 hu2 => ?_)
    have h := ts_lt h hu2
    refine tv_iload_n C (pc := 15) dX0_givenTimestamp_15 rfl rfl ?_
    cases h
    exact tv_iret C (pc := 16) rfl dX0_givenTimestamp_16 ⟨Nat.le_of_ble_eq_true rfl, Nat.le_of_ble_eq_true rfl⟩
set_option maxRecDepth 100000 in
set_option maxHeartbeats 4000000 in
theorem m_X0_newTransaction {l : Launch} {D : va_G} {dT : Nat → ClassId} {sz : Nat} {ad : ts_I → Nat} (hl : l.stackTraces = false) (b0 : Nat) (hb0 : b0 < 2) (p1 : Int32) (u : ts_Mem) (r : (Int32 × ts_Mem)) (h : f_X0_newTransaction b0 p1 u = some r) : ts_M l D dT sz yX0_newTransaction wX0_newTransaction 1 0 0 ad ts_lv ts_R0 [.inr (1, b0, 0), .inl (.int p1)] u (.inl (some (.int r.1))) r.2 := by
    unfold f_X0_newTransaction at h
    refine ts_enter hl (by decide) rfl rfl (Nat.le_of_ble_eq_true rfl) ?_
    intro p e s m args below meth c C hX hnm
    have C : ts_CX D dT sz p l (ts_rm 1 0 0) s m args meth c RX0 cX0_newTransaction 3 (some .int) 1 := C
    have hdd : 1 ≤ 1 := Nat.le_refl _
    refine tv_aload_n C (pc := 0) dX0_newTransaction_0 rfl rfl ?_
    refine tv_getI C (pc := 1) dX0_newTransaction_1 fl_X0_18 (ts_live (k := 1) (by decide) hb0 (by decide)) rfl (cd := 0) rfl (by decide) ?_
    refine tv_nmI (fun x1 hx1 => ?_)
    have h := ts_lt h hx1
    refine tv_istore_n C (pc := 4) dX0_newTransaction_4 (L' := [some (.inr (1, b0, 0)), some (.inl (.int p1)), some (.inl (.int x1))]) rfl (by decide) rfl rfl ?_
    refine tv_aload_n C (pc := 5) dX0_newTransaction_5 rfl rfl ?_
    refine tv_dup C (pc := 6) dX0_newTransaction_6 (fun _ => rfl) ?_
    refine tv_getI C (pc := 7) dX0_newTransaction_7 fl_X0_18 (ts_live (k := 1) (by decide) hb0 (by decide)) rfl (cd := 0) rfl (by decide) ?_
    refine tv_iconst C (pc := 10) dX0_newTransaction_10 (v := (1 : Int32)) rfl ?_
    refine tv_iadd C (pc := 11) dX0_newTransaction_11 ?_
    refine tv_putI C (pc := 12) dX0_newTransaction_12 fp_X0_18 (ts_live (k := 1) (by decide) hb0 (by decide)) rfl (cd := 0) rfl (by decide) rfl rfl ?_
    refine tv_nu (fun u2 hu2 => ?_)
    have h := ts_lt h hu2
    refine tv_aload_n C (pc := 15) dX0_newTransaction_15 rfl rfl ?_
    refine tv_getR C (pc := 16) dX0_newTransaction_16 fl_X0_23 (ts_live (k := 1) (by decide) hb0 (by decide)) rfl rfl (i2 := (2, b0, 0)) rfl ?_
    refine tv_iload_n C (pc := 19) dX0_newTransaction_19 rfl rfl ?_
    obtain ⟨hr3, h⟩ := ts_gd h
    refine tv_aaload5 C (pc := 20) dX0_newTransaction_20 (ts_live (k := 2) (by decide) hb0 (by decide)) rfl hr3 (j := x1.toNatClampNeg) rfl (i2 := (11, b0, x1.toNatClampNeg)) rfl ?_
    refine tv_iload_n C (pc := 21) dX0_newTransaction_21 rfl rfl ?_
    refine tv_aload_n C (pc := 22) dX0_newTransaction_22 rfl rfl ?_
    obtain ⟨q4, hq4, h⟩ := ts_bd h
    refine tv_callV C (pc := 23) dX0_newTransaction_23 (ci := 0) (q := (RX0, TX0, 8)) rfl yl_X0_65 (m_X0_givenTimestamp (D := D) (dT := dT) (sz := sz) (ad := ad) hl b0 hb0 u2 q4 hq4) (ts_live (k := 1) (by decide) hb0 (by decide)) rfl (Nat.le_trans (Nat.le_of_ble_eq_true rfl) hdd) (As := []) rfl ⟨Nat.le_of_ble_eq_true rfl, Nat.le_of_ble_eq_true rfl⟩ (fun _ => Nat.le_of_ble_eq_true rfl) rfl ?_
    obtain ⟨q5, hq5, h⟩ := ts_bd h
    refine tv_callV C (pc := 26) dX0_newTransaction_26 (ci := 5) (q := (RX5, TX5, 10)) rfl yl_X0_69 (m_X5_start (D := D) (dT := dT) (sz := sz) (ad := ad) hl b0 hb0 x1.toNatClampNeg (ts_vin hr3) p1 q4.1 q4.2 q5 hq5) (ts_live (k := 11) (by decide) hb0 (ts_vin hr3)) rfl (Nat.le_trans (Nat.le_of_ble_eq_true rfl) hdd) (As := [.inl (.int p1), .inl (.int q4.1)]) rfl ⟨Nat.le_of_ble_eq_true rfl, Nat.le_of_ble_eq_true rfl⟩ (fun _ => Nat.le_of_ble_eq_true rfl) rfl ?_
    refine tv_aload_n C (pc := 29) dX0_newTransaction_29 rfl rfl ?_
    refine tv_getR C (pc := 30) dX0_newTransaction_30 fl_X0_38 (ts_live (k := 1) (by decide) hb0 (by decide)) rfl rfl (i2 := (4, b0, 0)) rfl ?_
    refine tv_iconst C (pc := 33) dX0_newTransaction_33 (v := (0 : Int32)) rfl ?_
    refine tv_iload_n C (pc := 34) dX0_newTransaction_34 rfl rfl ?_
    refine tv_iconst C (pc := 35) dX0_newTransaction_35 (v := (-1 : Int32)) rfl ?_
    obtain ⟨q6, hq6, h⟩ := ts_bd h
    refine tv_callV C (pc := 36) dX0_newTransaction_36 (ci := 2) (q := (RX2, TX2, 6)) rfl yl_X0_73 (m_X2_note (D := D) (dT := dT) (sz := sz) (ad := ad) hl b0 hb0 (0 : Int32) x1 (-1 : Int32) q5 q6 hq6) (ts_live (k := 4) (by decide) hb0 (by decide)) rfl (Nat.le_trans (Nat.le_of_ble_eq_true rfl) hdd) (As := [.inl (.int (0 : Int32)), .inl (.int x1), .inl (.int (-1 : Int32))]) rfl ⟨Nat.le_of_ble_eq_true rfl, Nat.le_of_ble_eq_true rfl⟩ (fun _ => Nat.le_of_ble_eq_true rfl) rfl ?_
    refine tv_iload_n C (pc := 39) dX0_newTransaction_39 rfl rfl ?_
    cases h
    exact tv_iret C (pc := 40) rfl dX0_newTransaction_40 ⟨Nat.le_of_ble_eq_true rfl, Nat.le_of_ble_eq_true rfl⟩
set_option maxRecDepth 100000 in
set_option maxHeartbeats 4000000 in
theorem m_X0_isUncommittedWriter {l : Launch} {D : va_G} {dT : Nat → ClassId} {sz : Nat} {ad : ts_I → Nat} (hl : l.stackTraces = false) (b0 : Nat) (hb0 : b0 < 2) (p1 : Int32) (u : ts_Mem) (r : Int32) (h : f_X0_isUncommittedWriter b0 p1 u = some r) : ts_M l D dT sz yX0_isUncommittedWriter wX0_isUncommittedWriter 1 0 0 ad ts_lv ts_R0 [.inr (1, b0, 0), .inl (.int p1)] u (.inl (some (.int r))) u := by
    unfold f_X0_isUncommittedWriter at h
    refine ts_enter hl (by decide) rfl rfl (Nat.le_of_ble_eq_true rfl) ?_
    intro p e s m args below meth c C hX hnm
    have C : ts_CX D dT sz p l (ts_rm 1 0 0) s m args meth c RX0 cX0_isUncommittedWriter 2 (some .boolean) 1 := C
    have hdd : 1 ≤ 1 := Nat.le_refl _
    refine tv_iload_n C (pc := 0) dX0_isUncommittedWriter_0 rfl rfl ?_
    refine tv_if_lt C (pc := 1) 28 dX0_isUncommittedWriter_1 (by decide) (fun hc => ?_) (fun hc => ?_)
    · have h := ts_ifp h hc
      refine tv_iconst C (pc := 28) dX0_isUncommittedWriter_28 (v := (0 : Int32)) rfl ?_
      cases h
      exact tv_zret C (pc := 29) (v := (0 : Int32)) rfl ts_nz0 dX0_isUncommittedWriter_29 ⟨Nat.le_of_ble_eq_true rfl, Nat.le_of_ble_eq_true rfl⟩
    · have h := ts_ifn h hc
      refine tv_iload_n C (pc := 4) dX0_isUncommittedWriter_4 rfl rfl ?_
      refine tv_aload_n C (pc := 5) dX0_isUncommittedWriter_5 rfl rfl ?_
      refine tv_getI C (pc := 6) dX0_isUncommittedWriter_6 fl_X0_18 (ts_live (k := 1) (by decide) hb0 (by decide)) rfl (cd := 0) rfl (by decide) ?_
      refine tv_icmp_ge C (pc := 9) 28 dX0_isUncommittedWriter_9 (by decide) (fun hc => ?_) (fun hc => ?_)
      · have h := ts_ifp h hc
        refine tv_iconst C (pc := 28) dX0_isUncommittedWriter_28 (v := (0 : Int32)) rfl ?_
        cases h
        exact tv_zret C (pc := 29) (v := (0 : Int32)) rfl ts_nz0 dX0_isUncommittedWriter_29 ⟨Nat.le_of_ble_eq_true rfl, Nat.le_of_ble_eq_true rfl⟩
      · have h := ts_ifn h hc
        refine tv_aload_n C (pc := 12) dX0_isUncommittedWriter_12 rfl rfl ?_
        refine tv_getR C (pc := 13) dX0_isUncommittedWriter_13 fl_X0_23 (ts_live (k := 1) (by decide) hb0 (by decide)) rfl rfl (i2 := (2, b0, 0)) rfl ?_
        refine tv_iload_n C (pc := 16) dX0_isUncommittedWriter_16 rfl rfl ?_
        obtain ⟨hr1, h⟩ := ts_gd h
        refine tv_aaload5 C (pc := 17) dX0_isUncommittedWriter_17 (ts_live (k := 2) (by decide) hb0 (by decide)) rfl hr1 (j := p1.toNatClampNeg) rfl (i2 := (11, b0, p1.toNatClampNeg)) rfl ?_
        obtain ⟨q2, hq2, h⟩ := ts_bd h
        refine tv_callV C (pc := 18) dX0_isUncommittedWriter_18 (ci := 5) (q := (RX5, TX5, 10)) rfl yl_X0_182 (m_X5_isUncommitted (D := D) (dT := dT) (sz := sz) (ad := ad) hl b0 hb0 p1.toNatClampNeg (ts_vin hr1) u q2 hq2) (ts_live (k := 11) (by decide) hb0 (ts_vin hr1)) rfl (Nat.le_trans (Nat.le_of_ble_eq_true rfl) hdd) (As := []) rfl ⟨Nat.le_of_ble_eq_true rfl, Nat.le_of_ble_eq_true rfl⟩ (fun _ => Nat.le_of_ble_eq_true rfl) rfl ?_
        refine tv_if_eq C (pc := 21) 28 dX0_isUncommittedWriter_21 (by decide) (fun hc => ?_) (fun hc => ?_)
        · have h := ts_ifp h hc
          refine tv_iconst C (pc := 28) dX0_isUncommittedWriter_28 (v := (0 : Int32)) rfl ?_
          cases h
          exact tv_zret C (pc := 29) (v := (0 : Int32)) rfl ts_nz0 dX0_isUncommittedWriter_29 ⟨Nat.le_of_ble_eq_true rfl, Nat.le_of_ble_eq_true rfl⟩
        · have h := ts_ifn h hc
          refine tv_iconst C (pc := 24) dX0_isUncommittedWriter_24 (v := (1 : Int32)) rfl ?_
          refine tv_goto C (pc := 25) 29 dX0_isUncommittedWriter_25 (by decide) ?_
          cases h
          exact tv_zret C (pc := 29) (v := (1 : Int32)) rfl ts_nz1 dX0_isUncommittedWriter_29 ⟨Nat.le_of_ble_eq_true rfl, Nat.le_of_ble_eq_true rfl⟩
set_option maxRecDepth 100000 in
set_option maxHeartbeats 4000000 in
theorem m_X0_readItem {l : Launch} {D : va_G} {dT : Nat → ClassId} {sz : Nat} {ad : ts_I → Nat} (hl : l.stackTraces = false) (b0 : Nat) (hb0 : b0 < 2) (p1 : Int32) (p2 : Int32) (u : ts_Mem) (r : (Int32 × ts_Mem)) (h : f_X0_readItem b0 p1 p2 u = some r) : ts_M l D dT sz yX0_readItem wX0_readItem 2 0 0 ad ts_lv ts_R0 [.inr (1, b0, 0), .inl (.int p1), .inl (.int p2)] u (.inl (some (.int r.1))) r.2 := by
    unfold f_X0_readItem at h
    refine ts_enter hl (by decide) rfl rfl (Nat.le_of_ble_eq_true rfl) ?_
    intro p e s m args below meth c C hX hnm
    have C : ts_CX D dT sz p l (ts_rm 2 0 0) s m args meth c RX0 cX0_readItem 8 (some .int) 2 := C
    have hdd : 2 ≤ 2 := Nat.le_refl _
    refine tv_aload_n C (pc := 0) dX0_readItem_0 rfl rfl ?_
    refine tv_getR C (pc := 1) dX0_readItem_1 fl_X0_23 (ts_live (k := 1) (by decide) hb0 (by decide)) rfl rfl (i2 := (2, b0, 0)) rfl ?_
    refine tv_iload_n C (pc := 4) dX0_readItem_4 rfl rfl ?_
    obtain ⟨hr1, h⟩ := ts_gd h
    refine tv_aaload5 C (pc := 5) dX0_readItem_5 (ts_live (k := 2) (by decide) hb0 (by decide)) rfl hr1 (j := p1.toNatClampNeg) rfl (i2 := (11, b0, p1.toNatClampNeg)) rfl ?_
    refine tv_astore_n C (pc := 6) dX0_readItem_6 (L' := [some (.inr (1, b0, 0)), some (.inl (.int p1)), some (.inl (.int p2)), some (.inr (11, b0, p1.toNatClampNeg)), none, none, none, none]) rfl (by decide) rfl rfl ?_
    refine tv_aload_n C (pc := 7) dX0_readItem_7 rfl rfl ?_
    refine tv_getR C (pc := 8) dX0_readItem_8 fl_X0_30 (ts_live (k := 1) (by decide) hb0 (by decide)) rfl rfl (i2 := (3, b0, 0)) rfl ?_
    refine tv_iload_n C (pc := 11) dX0_readItem_11 rfl rfl ?_
    obtain ⟨hr2, h⟩ := ts_gd h
    refine tv_aaload6 C (pc := 12) dX0_readItem_12 (ts_live (k := 3) (by decide) hb0 (by decide)) rfl hr2 (j := p2.toNatClampNeg) rfl (i2 := (16, b0, p2.toNatClampNeg)) rfl ?_
    refine tv_astore C (pc := 13) dX0_readItem_13 (L' := [some (.inr (1, b0, 0)), some (.inl (.int p1)), some (.inl (.int p2)), some (.inr (11, b0, p1.toNatClampNeg)), some (.inr (16, b0, p2.toNatClampNeg)), none, none, none]) (by decide) rfl rfl ?_
    refine tv_aload C (pc := 15) dX0_readItem_15 rfl ?_
    refine tv_aload_n C (pc := 17) dX0_readItem_17 rfl rfl ?_
    refine tv_getI C (pc := 18) dX0_readItem_18 fl_X0_110 (ts_live (k := 11) (by decide) hb0 (ts_vin hr1)) rfl (cd := 0) rfl (by decide) ?_
    obtain ⟨q3, hq3, h⟩ := ts_bd h
    refine tv_callV C (pc := 21) dX0_readItem_21 (ci := 1) (q := (RX1, TX1, 5)) rfl yl_X0_113 (m_X1_lastAtMost (D := D) (dT := dT) (sz := sz) (ad := ad) hl b0 hb0 p2.toNatClampNeg (ts_vin hr2) (ts_gI u (11, b0, p1.toNatClampNeg) 1) u q3 hq3) (ts_live (k := 16) (by decide) hb0 (ts_vin hr2)) rfl (Nat.le_trans (Nat.le_of_ble_eq_true rfl) hdd) (As := [.inl (.int (ts_gI u (11, b0, p1.toNatClampNeg) 1))]) rfl ⟨Nat.le_of_ble_eq_true rfl, Nat.le_of_ble_eq_true rfl⟩ (fun _ => Nat.le_of_ble_eq_true rfl) rfl ?_
    refine tv_istore C (pc := 24) dX0_readItem_24 (L' := [some (.inr (1, b0, 0)), some (.inl (.int p1)), some (.inl (.int p2)), some (.inr (11, b0, p1.toNatClampNeg)), some (.inr (16, b0, p2.toNatClampNeg)), some (.inl (.int q3)), none, none]) (by decide) rfl rfl ?_
    refine tv_aload_n C (pc := 26) dX0_readItem_26 rfl rfl ?_
    refine tv_getI C (pc := 27) dX0_readItem_27 fl_X0_9 (ts_live (k := 1) (by decide) hb0 (by decide)) rfl (cd := 0) rfl (by decide) ?_
    refine tv_iconst C (pc := 30) dX0_readItem_30 (v := (2 : Int32)) rfl ?_
    refine tv_icmp_eq C (pc := 31) 50 dX0_readItem_31 (by decide) (fun hc => ?_) (fun hc => ?_)
    · have h := ts_ifp h hc
      refine tv_iconst C (pc := 50) dX0_readItem_50 (v := (0 : Int32)) rfl ?_
      refine tv_istore C (pc := 51) dX0_readItem_51 (L' := [some (.inr (1, b0, 0)), some (.inl (.int p1)), some (.inl (.int p2)), some (.inr (11, b0, p1.toNatClampNeg)), some (.inr (16, b0, p2.toNatClampNeg)), some (.inl (.int q3)), some (.inl (.int (0 : Int32))), none]) (by decide) rfl rfl ?_
      refine tv_iload C (pc := 53) dX0_readItem_53 rfl ?_
      refine tv_if_lt C (pc := 55) 63 dX0_readItem_55 (by decide) (fun hc => ?_) (fun hc => ?_)
      · have h := ts_ifp h hc
        refine tv_iconst C (pc := 63) dX0_readItem_63 (v := (-1 : Int32)) rfl ?_
        cases h
        exact tv_iret C (pc := 64) rfl dX0_readItem_64 ⟨Nat.le_of_ble_eq_true rfl, Nat.le_of_ble_eq_true rfl⟩
      · have h := ts_ifn h hc
        refine tv_iload C (pc := 58) dX0_readItem_58 rfl ?_
        refine tv_if_eq C (pc := 60) 65 dX0_readItem_60 (by decide) (fun _ => ?_) (fun hc => absurd hc (by decide))
        refine tv_aload C (pc := 65) dX0_readItem_65 rfl ?_
        refine tv_iload C (pc := 67) dX0_readItem_67 rfl ?_
        refine tv_aload_n C (pc := 69) dX0_readItem_69 rfl rfl ?_
        refine tv_getI C (pc := 70) dX0_readItem_70 fl_X0_110 (ts_live (k := 11) (by decide) hb0 (ts_vin hr1)) rfl (cd := 0) rfl (by decide) ?_
        obtain ⟨q4, hq4, h⟩ := ts_bd h
        refine tv_callV C (pc := 73) dX0_readItem_73 (ci := 1) (q := (RX1, TX1, 5)) rfl yl_X0_120 (m_X1_raiseReadTime (D := D) (dT := dT) (sz := sz) (ad := ad) hl b0 hb0 p2.toNatClampNeg (ts_vin hr2) q3 (ts_gI u (11, b0, p1.toNatClampNeg) 1) u q4 hq4) (ts_live (k := 16) (by decide) hb0 (ts_vin hr2)) rfl (Nat.le_trans (Nat.le_of_ble_eq_true rfl) hdd) (As := [.inl (.int q3), .inl (.int (ts_gI u (11, b0, p1.toNatClampNeg) 1))]) rfl ⟨Nat.le_of_ble_eq_true rfl, Nat.le_of_ble_eq_true rfl⟩ (fun _ => Nat.le_of_ble_eq_true rfl) rfl ?_
        refine tv_aload C (pc := 76) dX0_readItem_76 rfl ?_
        refine tv_getR C (pc := 78) dX0_readItem_78 fl_X0_123 (ts_live (k := 16) (by decide) hb0 (ts_vin hr2)) rfl rfl (i2 := (20, b0, p2.toNatClampNeg)) rfl ?_
        refine tv_iload C (pc := 81) dX0_readItem_81 rfl ?_
        obtain ⟨hr5, h⟩ := ts_gd h
        refine tv_iaload C (pc := 83) dX0_readItem_83 (ts_live (k := 20) (by decide) hb0 (ts_vin hr2)) rfl hr5 (j := q3.toNatClampNeg) rfl ?_
        refine tv_nmI (fun x6 hx6 => ?_)
        have h := ts_lt h hx6
        refine tv_istore C (pc := 84) dX0_readItem_84 (L' := [some (.inr (1, b0, 0)), some (.inl (.int p1)), some (.inl (.int p2)), some (.inr (11, b0, p1.toNatClampNeg)), some (.inr (16, b0, p2.toNatClampNeg)), some (.inl (.int q3)), some (.inl (.int (0 : Int32))), some (.inl (.int x6))]) (by decide) rfl rfl ?_
        refine tv_iload C (pc := 86) dX0_readItem_86 rfl ?_
        refine tv_iload_n C (pc := 88) dX0_readItem_88 rfl rfl ?_
        refine tv_icmp_eq C (pc := 89) 114 dX0_readItem_89 (by decide) (fun hc => ?_) (fun hc => ?_)
        · have h := ts_ifp h hc
          refine tv_aload_n C (pc := 114) dX0_readItem_114 rfl rfl ?_
          refine tv_getR C (pc := 115) dX0_readItem_115 fl_X0_38 (ts_live (k := 1) (by decide) hb0 (by decide)) rfl rfl (i2 := (4, b0, 0)) rfl ?_
          refine tv_iconst C (pc := 118) dX0_readItem_118 (v := (1 : Int32)) rfl ?_
          refine tv_iload_n C (pc := 119) dX0_readItem_119 rfl rfl ?_
          refine tv_iload_n C (pc := 120) dX0_readItem_120 rfl rfl ?_
          obtain ⟨q7, hq7, h⟩ := ts_bd h
          refine tv_callV C (pc := 121) dX0_readItem_121 (ci := 2) (q := (RX2, TX2, 6)) rfl yl_X0_73 (m_X2_note (D := D) (dT := dT) (sz := sz) (ad := ad) hl b0 hb0 (1 : Int32) p1 p2 q4 q7 hq7) (ts_live (k := 4) (by decide) hb0 (by decide)) rfl (Nat.le_trans (Nat.le_of_ble_eq_true rfl) hdd) (As := [.inl (.int (1 : Int32)), .inl (.int p1), .inl (.int p2)]) rfl ⟨Nat.le_of_ble_eq_true rfl, Nat.le_of_ble_eq_true rfl⟩ (fun _ => Nat.le_of_ble_eq_true rfl) rfl ?_
          refine tv_iload C (pc := 124) dX0_readItem_124 rfl ?_
          cases h
          exact tv_iret C (pc := 126) rfl dX0_readItem_126 ⟨Nat.le_of_ble_eq_true rfl, Nat.le_of_ble_eq_true rfl⟩
        · have h := ts_ifn h hc
          refine tv_aload_n C (pc := 92) dX0_readItem_92 rfl rfl ?_
          refine tv_iload C (pc := 93) dX0_readItem_93 rfl ?_
          obtain ⟨q8, hq8, h⟩ := ts_bd h
          refine tv_callV C (pc := 95) dX0_readItem_95 (ci := 0) (q := (RX0, TX0, 8)) rfl yl_X0_126 (m_X0_isUncommittedWriter (D := D) (dT := dT) (sz := sz) (ad := ad) hl b0 hb0 x6 q4 q8 hq8) (ts_live (k := 1) (by decide) hb0 (by decide)) rfl (Nat.le_trans (Nat.le_of_ble_eq_true rfl) hdd) (As := [.inl (.int x6)]) rfl ⟨Nat.le_of_ble_eq_true rfl, Nat.le_of_ble_eq_true rfl⟩ (fun _ => Nat.le_of_ble_eq_true rfl) rfl ?_
          refine tv_if_eq C (pc := 98) 114 dX0_readItem_98 (by decide) (fun hc => ?_) (fun hc => ?_)
          · have h := ts_ifp h hc
            refine tv_aload_n C (pc := 114) dX0_readItem_114 rfl rfl ?_
            refine tv_getR C (pc := 115) dX0_readItem_115 fl_X0_38 (ts_live (k := 1) (by decide) hb0 (by decide)) rfl rfl (i2 := (4, b0, 0)) rfl ?_
            refine tv_iconst C (pc := 118) dX0_readItem_118 (v := (1 : Int32)) rfl ?_
            refine tv_iload_n C (pc := 119) dX0_readItem_119 rfl rfl ?_
            refine tv_iload_n C (pc := 120) dX0_readItem_120 rfl rfl ?_
            obtain ⟨q9, hq9, h⟩ := ts_bd h
            refine tv_callV C (pc := 121) dX0_readItem_121 (ci := 2) (q := (RX2, TX2, 6)) rfl yl_X0_73 (m_X2_note (D := D) (dT := dT) (sz := sz) (ad := ad) hl b0 hb0 (1 : Int32) p1 p2 q4 q9 hq9) (ts_live (k := 4) (by decide) hb0 (by decide)) rfl (Nat.le_trans (Nat.le_of_ble_eq_true rfl) hdd) (As := [.inl (.int (1 : Int32)), .inl (.int p1), .inl (.int p2)]) rfl ⟨Nat.le_of_ble_eq_true rfl, Nat.le_of_ble_eq_true rfl⟩ (fun _ => Nat.le_of_ble_eq_true rfl) rfl ?_
            refine tv_iload C (pc := 124) dX0_readItem_124 rfl ?_
            cases h
            exact tv_iret C (pc := 126) rfl dX0_readItem_126 ⟨Nat.le_of_ble_eq_true rfl, Nat.le_of_ble_eq_true rfl⟩
          · have h := ts_ifn h hc
            refine tv_aload_n C (pc := 101) dX0_readItem_101 rfl rfl ?_
            refine tv_dup C (pc := 102) dX0_readItem_102 (fun _ => rfl) ?_
            refine tv_getI C (pc := 103) dX0_readItem_103 fl_X0_130 (ts_live (k := 11) (by decide) hb0 (ts_vin hr1)) rfl (cd := 0) rfl (by decide) ?_
            refine tv_iconst C (pc := 106) dX0_readItem_106 (v := (1 : Int32)) rfl ?_
            refine tv_iload C (pc := 107) dX0_readItem_107 rfl ?_
            refine tv_ishl C (pc := 109) dX0_readItem_109 ?_
            refine tv_ior C (pc := 110) dX0_readItem_110 ?_
            refine tv_putI C (pc := 111) dX0_readItem_111 fp_X0_130 (ts_live (k := 11) (by decide) hb0 (ts_vin hr1)) rfl (cd := 0) rfl (by decide) rfl rfl ?_
            refine tv_nu (fun u10 hu10 => ?_)
            have h := ts_lt h hu10
            refine tv_aload_n C (pc := 114) dX0_readItem_114 rfl rfl ?_
            refine tv_getR C (pc := 115) dX0_readItem_115 fl_X0_38 (ts_live (k := 1) (by decide) hb0 (by decide)) rfl rfl (i2 := (4, b0, 0)) rfl ?_
            refine tv_iconst C (pc := 118) dX0_readItem_118 (v := (1 : Int32)) rfl ?_
            refine tv_iload_n C (pc := 119) dX0_readItem_119 rfl rfl ?_
            refine tv_iload_n C (pc := 120) dX0_readItem_120 rfl rfl ?_
            obtain ⟨q11, hq11, h⟩ := ts_bd h
            refine tv_callV C (pc := 121) dX0_readItem_121 (ci := 2) (q := (RX2, TX2, 6)) rfl yl_X0_73 (m_X2_note (D := D) (dT := dT) (sz := sz) (ad := ad) hl b0 hb0 (1 : Int32) p1 p2 u10 q11 hq11) (ts_live (k := 4) (by decide) hb0 (by decide)) rfl (Nat.le_trans (Nat.le_of_ble_eq_true rfl) hdd) (As := [.inl (.int (1 : Int32)), .inl (.int p1), .inl (.int p2)]) rfl ⟨Nat.le_of_ble_eq_true rfl, Nat.le_of_ble_eq_true rfl⟩ (fun _ => Nat.le_of_ble_eq_true rfl) rfl ?_
            refine tv_iload C (pc := 124) dX0_readItem_124 rfl ?_
            cases h
            exact tv_iret C (pc := 126) rfl dX0_readItem_126 ⟨Nat.le_of_ble_eq_true rfl, Nat.le_of_ble_eq_true rfl⟩
    · have h := ts_ifn h hc
      refine tv_iload C (pc := 34) dX0_readItem_34 rfl ?_
      refine tv_aload C (pc := 36) dX0_readItem_36 rfl ?_
      refine tv_getI C (pc := 38) dX0_readItem_38 fl_X0_117 (ts_live (k := 16) (by decide) hb0 (ts_vin hr2)) rfl (cd := 0) rfl (by decide) ?_
      refine tv_iconst C (pc := 41) dX0_readItem_41 (v := (1 : Int32)) rfl ?_
      refine tv_isub C (pc := 42) dX0_readItem_42 ?_
      refine tv_icmp_eq C (pc := 43) 50 dX0_readItem_43 (by decide) (fun hc => ?_) (fun hc => ?_)
      · have h := ts_ifp h hc
        refine tv_iconst C (pc := 50) dX0_readItem_50 (v := (0 : Int32)) rfl ?_
        refine tv_istore C (pc := 51) dX0_readItem_51 (L' := [some (.inr (1, b0, 0)), some (.inl (.int p1)), some (.inl (.int p2)), some (.inr (11, b0, p1.toNatClampNeg)), some (.inr (16, b0, p2.toNatClampNeg)), some (.inl (.int q3)), some (.inl (.int (0 : Int32))), none]) (by decide) rfl rfl ?_
        refine tv_iload C (pc := 53) dX0_readItem_53 rfl ?_
        refine tv_if_lt C (pc := 55) 63 dX0_readItem_55 (by decide) (fun hc => ?_) (fun hc => ?_)
        · have h := ts_ifp h hc
          refine tv_iconst C (pc := 63) dX0_readItem_63 (v := (-1 : Int32)) rfl ?_
          cases h
          exact tv_iret C (pc := 64) rfl dX0_readItem_64 ⟨Nat.le_of_ble_eq_true rfl, Nat.le_of_ble_eq_true rfl⟩
        · have h := ts_ifn h hc
          refine tv_iload C (pc := 58) dX0_readItem_58 rfl ?_
          refine tv_if_eq C (pc := 60) 65 dX0_readItem_60 (by decide) (fun _ => ?_) (fun hc => absurd hc (by decide))
          refine tv_aload C (pc := 65) dX0_readItem_65 rfl ?_
          refine tv_iload C (pc := 67) dX0_readItem_67 rfl ?_
          refine tv_aload_n C (pc := 69) dX0_readItem_69 rfl rfl ?_
          refine tv_getI C (pc := 70) dX0_readItem_70 fl_X0_110 (ts_live (k := 11) (by decide) hb0 (ts_vin hr1)) rfl (cd := 0) rfl (by decide) ?_
          obtain ⟨q12, hq12, h⟩ := ts_bd h
          refine tv_callV C (pc := 73) dX0_readItem_73 (ci := 1) (q := (RX1, TX1, 5)) rfl yl_X0_120 (m_X1_raiseReadTime (D := D) (dT := dT) (sz := sz) (ad := ad) hl b0 hb0 p2.toNatClampNeg (ts_vin hr2) q3 (ts_gI u (11, b0, p1.toNatClampNeg) 1) u q12 hq12) (ts_live (k := 16) (by decide) hb0 (ts_vin hr2)) rfl (Nat.le_trans (Nat.le_of_ble_eq_true rfl) hdd) (As := [.inl (.int q3), .inl (.int (ts_gI u (11, b0, p1.toNatClampNeg) 1))]) rfl ⟨Nat.le_of_ble_eq_true rfl, Nat.le_of_ble_eq_true rfl⟩ (fun _ => Nat.le_of_ble_eq_true rfl) rfl ?_
          refine tv_aload C (pc := 76) dX0_readItem_76 rfl ?_
          refine tv_getR C (pc := 78) dX0_readItem_78 fl_X0_123 (ts_live (k := 16) (by decide) hb0 (ts_vin hr2)) rfl rfl (i2 := (20, b0, p2.toNatClampNeg)) rfl ?_
          refine tv_iload C (pc := 81) dX0_readItem_81 rfl ?_
          obtain ⟨hr13, h⟩ := ts_gd h
          refine tv_iaload C (pc := 83) dX0_readItem_83 (ts_live (k := 20) (by decide) hb0 (ts_vin hr2)) rfl hr13 (j := q3.toNatClampNeg) rfl ?_
          refine tv_nmI (fun x14 hx14 => ?_)
          have h := ts_lt h hx14
          refine tv_istore C (pc := 84) dX0_readItem_84 (L' := [some (.inr (1, b0, 0)), some (.inl (.int p1)), some (.inl (.int p2)), some (.inr (11, b0, p1.toNatClampNeg)), some (.inr (16, b0, p2.toNatClampNeg)), some (.inl (.int q3)), some (.inl (.int (0 : Int32))), some (.inl (.int x14))]) (by decide) rfl rfl ?_
          refine tv_iload C (pc := 86) dX0_readItem_86 rfl ?_
          refine tv_iload_n C (pc := 88) dX0_readItem_88 rfl rfl ?_
          refine tv_icmp_eq C (pc := 89) 114 dX0_readItem_89 (by decide) (fun hc => ?_) (fun hc => ?_)
          · have h := ts_ifp h hc
            refine tv_aload_n C (pc := 114) dX0_readItem_114 rfl rfl ?_
            refine tv_getR C (pc := 115) dX0_readItem_115 fl_X0_38 (ts_live (k := 1) (by decide) hb0 (by decide)) rfl rfl (i2 := (4, b0, 0)) rfl ?_
            refine tv_iconst C (pc := 118) dX0_readItem_118 (v := (1 : Int32)) rfl ?_
            refine tv_iload_n C (pc := 119) dX0_readItem_119 rfl rfl ?_
            refine tv_iload_n C (pc := 120) dX0_readItem_120 rfl rfl ?_
            obtain ⟨q15, hq15, h⟩ := ts_bd h
            refine tv_callV C (pc := 121) dX0_readItem_121 (ci := 2) (q := (RX2, TX2, 6)) rfl yl_X0_73 (m_X2_note (D := D) (dT := dT) (sz := sz) (ad := ad) hl b0 hb0 (1 : Int32) p1 p2 q12 q15 hq15) (ts_live (k := 4) (by decide) hb0 (by decide)) rfl (Nat.le_trans (Nat.le_of_ble_eq_true rfl) hdd) (As := [.inl (.int (1 : Int32)), .inl (.int p1), .inl (.int p2)]) rfl ⟨Nat.le_of_ble_eq_true rfl, Nat.le_of_ble_eq_true rfl⟩ (fun _ => Nat.le_of_ble_eq_true rfl) rfl ?_
            refine tv_iload C (pc := 124) dX0_readItem_124 rfl ?_
            cases h
            exact tv_iret C (pc := 126) rfl dX0_readItem_126 ⟨Nat.le_of_ble_eq_true rfl, Nat.le_of_ble_eq_true rfl⟩
          · have h := ts_ifn h hc
            refine tv_aload_n C (pc := 92) dX0_readItem_92 rfl rfl ?_
            refine tv_iload C (pc := 93) dX0_readItem_93 rfl ?_
            obtain ⟨q16, hq16, h⟩ := ts_bd h
            refine tv_callV C (pc := 95) dX0_readItem_95 (ci := 0) (q := (RX0, TX0, 8)) rfl yl_X0_126 (m_X0_isUncommittedWriter (D := D) (dT := dT) (sz := sz) (ad := ad) hl b0 hb0 x14 q12 q16 hq16) (ts_live (k := 1) (by decide) hb0 (by decide)) rfl (Nat.le_trans (Nat.le_of_ble_eq_true rfl) hdd) (As := [.inl (.int x14)]) rfl ⟨Nat.le_of_ble_eq_true rfl, Nat.le_of_ble_eq_true rfl⟩ (fun _ => Nat.le_of_ble_eq_true rfl) rfl ?_
            refine tv_if_eq C (pc := 98) 114 dX0_readItem_98 (by decide) (fun hc => ?_) (fun hc => ?_)
            · have h := ts_ifp h hc
              refine tv_aload_n C (pc := 114) dX0_readItem_114 rfl rfl ?_
              refine tv_getR C (pc := 115) dX0_readItem_115 fl_X0_38 (ts_live (k := 1) (by decide) hb0 (by decide)) rfl rfl (i2 := (4, b0, 0)) rfl ?_
              refine tv_iconst C (pc := 118) dX0_readItem_118 (v := (1 : Int32)) rfl ?_
              refine tv_iload_n C (pc := 119) dX0_readItem_119 rfl rfl ?_
              refine tv_iload_n C (pc := 120) dX0_readItem_120 rfl rfl ?_
              obtain ⟨q17, hq17, h⟩ := ts_bd h
              refine tv_callV C (pc := 121) dX0_readItem_121 (ci := 2) (q := (RX2, TX2, 6)) rfl yl_X0_73 (m_X2_note (D := D) (dT := dT) (sz := sz) (ad := ad) hl b0 hb0 (1 : Int32) p1 p2 q12 q17 hq17) (ts_live (k := 4) (by decide) hb0 (by decide)) rfl (Nat.le_trans (Nat.le_of_ble_eq_true rfl) hdd) (As := [.inl (.int (1 : Int32)), .inl (.int p1), .inl (.int p2)]) rfl ⟨Nat.le_of_ble_eq_true rfl, Nat.le_of_ble_eq_true rfl⟩ (fun _ => Nat.le_of_ble_eq_true rfl) rfl ?_
              refine tv_iload C (pc := 124) dX0_readItem_124 rfl ?_
              cases h
              exact tv_iret C (pc := 126) rfl dX0_readItem_126 ⟨Nat.le_of_ble_eq_true rfl, Nat.le_of_ble_eq_true rfl⟩
            · have h := ts_ifn h hc
              refine tv_aload_n C (pc := 101) dX0_readItem_101 rfl rfl ?_
              refine tv_dup C (pc := 102) dX0_readItem_102 (fun _ => rfl) ?_
              refine tv_getI C (pc := 103) dX0_readItem_103 fl_X0_130 (ts_live (k := 11) (by decide) hb0 (ts_vin hr1)) rfl (cd := 0) rfl (by decide) ?_
              refine tv_iconst C (pc := 106) dX0_readItem_106 (v := (1 : Int32)) rfl ?_
              refine tv_iload C (pc := 107) dX0_readItem_107 rfl ?_
              refine tv_ishl C (pc := 109) dX0_readItem_109 ?_
              refine tv_ior C (pc := 110) dX0_readItem_110 ?_
              refine tv_putI C (pc := 111) dX0_readItem_111 fp_X0_130 (ts_live (k := 11) (by decide) hb0 (ts_vin hr1)) rfl (cd := 0) rfl (by decide) rfl rfl ?_
              refine tv_nu (fun u18 hu18 => ?_)
              have h := ts_lt h hu18
              refine tv_aload_n C (pc := 114) dX0_readItem_114 rfl rfl ?_
              refine tv_getR C (pc := 115) dX0_readItem_115 fl_X0_38 (ts_live (k := 1) (by decide) hb0 (by decide)) rfl rfl (i2 := (4, b0, 0)) rfl ?_
              refine tv_iconst C (pc := 118) dX0_readItem_118 (v := (1 : Int32)) rfl ?_
              refine tv_iload_n C (pc := 119) dX0_readItem_119 rfl rfl ?_
              refine tv_iload_n C (pc := 120) dX0_readItem_120 rfl rfl ?_
              obtain ⟨q19, hq19, h⟩ := ts_bd h
              refine tv_callV C (pc := 121) dX0_readItem_121 (ci := 2) (q := (RX2, TX2, 6)) rfl yl_X0_73 (m_X2_note (D := D) (dT := dT) (sz := sz) (ad := ad) hl b0 hb0 (1 : Int32) p1 p2 u18 q19 hq19) (ts_live (k := 4) (by decide) hb0 (by decide)) rfl (Nat.le_trans (Nat.le_of_ble_eq_true rfl) hdd) (As := [.inl (.int (1 : Int32)), .inl (.int p1), .inl (.int p2)]) rfl ⟨Nat.le_of_ble_eq_true rfl, Nat.le_of_ble_eq_true rfl⟩ (fun _ => Nat.le_of_ble_eq_true rfl) rfl ?_
              refine tv_iload C (pc := 124) dX0_readItem_124 rfl ?_
              cases h
              exact tv_iret C (pc := 126) rfl dX0_readItem_126 ⟨Nat.le_of_ble_eq_true rfl, Nat.le_of_ble_eq_true rfl⟩
      · have h := ts_ifn h hc
        refine tv_iconst C (pc := 46) dX0_readItem_46 (v := (1 : Int32)) rfl ?_
        refine tv_goto C (pc := 47) 51 dX0_readItem_47 (by decide) ?_
        refine tv_istore C (pc := 51) dX0_readItem_51 (L' := [some (.inr (1, b0, 0)), some (.inl (.int p1)), some (.inl (.int p2)), some (.inr (11, b0, p1.toNatClampNeg)), some (.inr (16, b0, p2.toNatClampNeg)), some (.inl (.int q3)), some (.inl (.int (1 : Int32))), none]) (by decide) rfl rfl ?_
        refine tv_iload C (pc := 53) dX0_readItem_53 rfl ?_
        refine tv_if_lt C (pc := 55) 63 dX0_readItem_55 (by decide) (fun hc => ?_) (fun hc => ?_)
        · have h := ts_ifp h hc
          refine tv_iconst C (pc := 63) dX0_readItem_63 (v := (-1 : Int32)) rfl ?_
          cases h
          exact tv_iret C (pc := 64) rfl dX0_readItem_64 ⟨Nat.le_of_ble_eq_true rfl, Nat.le_of_ble_eq_true rfl⟩
        · have h := ts_ifn h hc
          refine tv_iload C (pc := 58) dX0_readItem_58 rfl ?_
          refine tv_if_eq C (pc := 60) 65 dX0_readItem_60 (by decide) (fun hc => absurd hc (by decide)) (fun _ => ?_)
          refine tv_iconst C (pc := 63) dX0_readItem_63 (v := (-1 : Int32)) rfl ?_
          cases h
          exact tv_iret C (pc := 64) rfl dX0_readItem_64 ⟨Nat.le_of_ble_eq_true rfl, Nat.le_of_ble_eq_true rfl⟩
set_option maxRecDepth 100000 in
set_option maxHeartbeats 4000000 in
theorem lt_X0_abortOne_3 {D : va_G} {dT : Nat → ClassId} {sz : Nat} {p : Program} {l : Launch} {e : Env} {R : Room} {s : State} {m : MethodId} {args : Array Value} {below : List Frame} {meth : Method} {c : Code} {d : Nat} {ad : ts_I → Nat} {kk nn : Nat} {Q : State → Prop} (hl : l.stackTraces = false) (C : ts_CX D dT sz p l R s m args meth c RX0 cX0_abortOne 5 none d) (hdd : 2 ≤ d) (b0 : Nat) (hb0 : b0 < 2) (c1 : Int32) (c2 : Int32) (c3 : Int32) (hkn : kk ≤ R.cells ∧ nn ≤ R.slots) : ∀ (n : Nat) (v4 : Int32) (u : ts_Mem) (q : (Int32 × ts_Mem)) (h : lp_X0_abortOne_3 b0 c1 c2 c3 n v4 u = some q) (K : ts_V D dT sz p l e R s m args below meth c 5 Q ad ts_lv ts_R0 36 [some (.inr (1, b0, 0)), some (.inl (.int c1)), some (.inl (.int c2)), some (.inl (.int c3)), some (.inl (.int q.1))] [] q.2 kk nn), ts_V D dT sz p l e R s m args below meth c 5 Q ad ts_lv ts_R0 3 [some (.inr (1, b0, 0)), some (.inl (.int c1)), some (.inl (.int c2)), some (.inl (.int c3)), some (.inl (.int v4))] [] u kk nn
  | 0, _, _, _, h, _ => by cases h
  | n + 1, v4, u, q, h, K => by
      rw [lp_X0_abortOne_3] at h
      refine tv_iload C (pc := 3) dX0_abortOne_3 rfl ?_
      refine tv_bipush C (pc := 5) dX0_abortOne_5 (v := (8 : Int32)) rfl ?_
      refine tv_icmp_ge C (pc := 7) 36 dX0_abortOne_7 (by decide) (fun hc => ?_) (fun hc => ?_)
      · have h := ts_ifp h hc
        cases h
        exact K
      · have h := ts_ifn h hc
        refine tv_aload_n C (pc := 10) dX0_abortOne_10 rfl rfl ?_
        refine tv_getR C (pc := 11) dX0_abortOne_11 fl_X0_30 (ts_live (k := 1) (by decide) hb0 (by decide)) rfl rfl (i2 := (3, b0, 0)) rfl ?_
        refine tv_iload C (pc := 14) dX0_abortOne_14 rfl ?_
        obtain ⟨hr1, h⟩ := ts_gd h
        refine tv_aaload6 C (pc := 16) dX0_abortOne_16 (ts_live (k := 3) (by decide) hb0 (by decide)) rfl hr1 (j := v4.toNatClampNeg) rfl (i2 := (16, b0, v4.toNatClampNeg)) rfl ?_
        refine tv_iload_n C (pc := 17) dX0_abortOne_17 rfl rfl ?_
        refine tv_aload_n C (pc := 18) dX0_abortOne_18 rfl rfl ?_
        refine tv_getR C (pc := 19) dX0_abortOne_19 fl_X0_23 (ts_live (k := 1) (by decide) hb0 (by decide)) rfl rfl (i2 := (2, b0, 0)) rfl ?_
        refine tv_iload_n C (pc := 22) dX0_abortOne_22 rfl rfl ?_
        obtain ⟨hr2, h⟩ := ts_gd h
        refine tv_aaload5 C (pc := 23) dX0_abortOne_23 (ts_live (k := 2) (by decide) hb0 (by decide)) rfl hr2 (j := c1.toNatClampNeg) rfl (i2 := (11, b0, c1.toNatClampNeg)) rfl ?_
        refine tv_getI C (pc := 24) dX0_abortOne_24 fl_X0_110 (ts_live (k := 11) (by decide) hb0 (ts_vin hr2)) rfl (cd := 0) rfl (by decide) ?_
        obtain ⟨q3, hq3, h⟩ := ts_bd h
        refine tv_callV C (pc := 27) dX0_abortOne_27 (ci := 1) (q := (RX1, TX1, 5)) rfl yl_X0_176 (m_X1_removeVersionOf (D := D) (dT := dT) (sz := sz) (ad := ad) hl b0 hb0 v4.toNatClampNeg (ts_vin hr1) c1 (ts_gI u (11, b0, c1.toNatClampNeg) 1) u q3 hq3) (ts_live (k := 16) (by decide) hb0 (ts_vin hr1)) rfl (Nat.le_trans (Nat.le_of_ble_eq_true rfl) hdd) (As := [.inl (.int c1), .inl (.int (ts_gI u (11, b0, c1.toNatClampNeg) 1))]) rfl ⟨hkn.1, hkn.2⟩ (fun _ => Nat.le_of_ble_eq_true rfl) rfl ?_
        refine tv_iinc C (pc := 30) dX0_abortOne_30 (v := (v4 + (1 : Int32))) (L' := [some (.inr (1, b0, 0)), some (.inl (.int c1)), some (.inl (.int c2)), some (.inl (.int c3)), some (.inl (.int (v4 + (1 : Int32))))]) rfl rfl (by decide) rfl rfl ?_
        refine tv_goto C (pc := 33) 3 dX0_abortOne_33 (by decide) ?_
        exact lt_X0_abortOne_3 hl C hdd b0 hb0 c1 c2 c3 hkn n (v4 + (1 : Int32)) q3 q h K
set_option maxRecDepth 100000 in
set_option maxHeartbeats 4000000 in
theorem m_X0_abortOne {l : Launch} {D : va_G} {dT : Nat → ClassId} {sz : Nat} {ad : ts_I → Nat} (hl : l.stackTraces = false) (b0 : Nat) (hb0 : b0 < 2) (p1 : Int32) (p2 : Int32) (p3 : Int32) (u : ts_Mem) (r : ts_Mem) (h : f_X0_abortOne b0 p1 p2 p3 u = some r) : ts_M l D dT sz yX0_abortOne wX0_abortOne 2 0 0 ad ts_lv ts_R0 [.inr (1, b0, 0), .inl (.int p1), .inl (.int p2), .inl (.int p3)] u (.inl none) r := by
    unfold f_X0_abortOne at h
    refine ts_enter hl (by decide) rfl rfl (Nat.le_of_ble_eq_true rfl) ?_
    intro p e s m args below meth c C hX hnm
    have C : ts_CX D dT sz p l (ts_rm 2 0 0) s m args meth c RX0 cX0_abortOne 5 none 2 := C
    have hdd : 2 ≤ 2 := Nat.le_refl _
    refine tv_iconst C (pc := 0) dX0_abortOne_0 (v := (0 : Int32)) rfl ?_
    refine tv_istore C (pc := 1) dX0_abortOne_1 (L' := [some (.inr (1, b0, 0)), some (.inl (.int p1)), some (.inl (.int p2)), some (.inl (.int p3)), some (.inl (.int (0 : Int32)))]) (by decide) rfl rfl ?_
    obtain ⟨q4, hq4, h⟩ := ts_bd h
    refine lt_X0_abortOne_3 hl C hdd b0 hb0 p1 p2 p3 ⟨Nat.le_of_ble_eq_true rfl, Nat.le_of_ble_eq_true rfl⟩ ts_fu (0 : Int32) u q4 hq4 ?_
    refine tv_aload_n C (pc := 36) dX0_abortOne_36 rfl rfl ?_
    refine tv_getR C (pc := 37) dX0_abortOne_37 fl_X0_23 (ts_live (k := 1) (by decide) hb0 (by decide)) rfl rfl (i2 := (2, b0, 0)) rfl ?_
    refine tv_iload_n C (pc := 40) dX0_abortOne_40 rfl rfl ?_
    obtain ⟨hr5, h⟩ := ts_gd h
    refine tv_aaload5 C (pc := 41) dX0_abortOne_41 (ts_live (k := 2) (by decide) hb0 (by decide)) rfl hr5 (j := p1.toNatClampNeg) rfl (i2 := (11, b0, p1.toNatClampNeg)) rfl ?_
    obtain ⟨q6, hq6, h⟩ := ts_bd h
    refine tv_callV C (pc := 42) dX0_abortOne_42 (ci := 5) (q := (RX5, TX5, 10)) rfl yl_X0_179 (m_X5_endByAbort (D := D) (dT := dT) (sz := sz) (ad := ad) hl b0 hb0 p1.toNatClampNeg (ts_vin hr5) q4.2 q6 hq6) (ts_live (k := 11) (by decide) hb0 (ts_vin hr5)) rfl (Nat.le_trans (Nat.le_of_ble_eq_true rfl) hdd) (As := []) rfl ⟨Nat.le_of_ble_eq_true rfl, Nat.le_of_ble_eq_true rfl⟩ (fun _ => Nat.le_of_ble_eq_true rfl) rfl ?_
    refine tv_aload_n C (pc := 45) dX0_abortOne_45 rfl rfl ?_
    refine tv_getR C (pc := 46) dX0_abortOne_46 fl_X0_38 (ts_live (k := 1) (by decide) hb0 (by decide)) rfl rfl (i2 := (4, b0, 0)) rfl ?_
    refine tv_iload_n C (pc := 49) dX0_abortOne_49 rfl rfl ?_
    refine tv_iload_n C (pc := 50) dX0_abortOne_50 rfl rfl ?_
    refine tv_iload_n C (pc := 51) dX0_abortOne_51 rfl rfl ?_
    obtain ⟨q7, hq7, h⟩ := ts_bd h
    refine tv_callV C (pc := 52) dX0_abortOne_52 (ci := 2) (q := (RX2, TX2, 6)) rfl yl_X0_73 (m_X2_note (D := D) (dT := dT) (sz := sz) (ad := ad) hl b0 hb0 p2 p1 p3 q6 q7 hq7) (ts_live (k := 4) (by decide) hb0 (by decide)) rfl (Nat.le_trans (Nat.le_of_ble_eq_true rfl) hdd) (As := [.inl (.int p2), .inl (.int p1), .inl (.int p3)]) rfl ⟨Nat.le_of_ble_eq_true rfl, Nat.le_of_ble_eq_true rfl⟩ (fun _ => Nat.le_of_ble_eq_true rfl) rfl ?_
    cases h
    exact tv_vret C (pc := 55) rfl dX0_abortOne_55 ⟨Nat.le_of_ble_eq_true rfl, Nat.le_of_ble_eq_true rfl⟩
set_option maxRecDepth 100000 in
set_option maxHeartbeats 4000000 in
theorem lt_X0_firstDependentOn_2 {D : va_G} {dT : Nat → ClassId} {sz : Nat} {p : Program} {l : Launch} {e : Env} {R : Room} {s : State} {m : MethodId} {args : Array Value} {below : List Frame} {meth : Method} {c : Code} {d : Nat} {ad : ts_I → Nat} {kk nn : Nat} {Q : State → Prop} (hl : l.stackTraces = false) (C : ts_CX D dT sz p l R s m args meth c RX0 cX0_firstDependentOn 3 (some .int) d) (hdd : 1 ≤ d) (b0 : Nat) (hb0 : b0 < 2) (c1 : Int32) (u : ts_Mem) (hkn : kk ≤ R.cells ∧ nn ≤ R.slots) : ∀ (n : Nat) (v2 : Int32) (q : Int32) (h : lp_X0_firstDependentOn_2 b0 c1 u n v2 = some (.inl q)) (K : ts_V D dT sz p l e R s m args below meth c 3 Q ad ts_lv ts_R0 46 [some (.inr (1, b0, 0)), some (.inl (.int c1)), some (.inl (.int q))] [] u kk nn), ts_V D dT sz p l e R s m args below meth c 3 Q ad ts_lv ts_R0 2 [some (.inr (1, b0, 0)), some (.inl (.int c1)), some (.inl (.int v2))] [] u kk nn
  | 0, _, _, h, _ => by cases h
  | n + 1, v2, q, h, K => by
      rw [lp_X0_firstDependentOn_2] at h
      refine tv_iload_n C (pc := 2) dX0_firstDependentOn_2 rfl rfl ?_
      refine tv_aload_n C (pc := 3) dX0_firstDependentOn_3 rfl rfl ?_
      refine tv_getI C (pc := 4) dX0_firstDependentOn_4 fl_X0_18 (ts_live (k := 1) (by decide) hb0 (by decide)) rfl (cd := 0) rfl (by decide) ?_
      refine tv_icmp_ge C (pc := 7) 46 dX0_firstDependentOn_7 (by decide) (fun hc => ?_) (fun hc => ?_)
      · have h := ts_ifp h hc
        cases h
        exact K
      · have h := ts_ifn h hc
        refine tv_aload_n C (pc := 10) dX0_firstDependentOn_10 rfl rfl ?_
        refine tv_getR C (pc := 11) dX0_firstDependentOn_11 fl_X0_23 (ts_live (k := 1) (by decide) hb0 (by decide)) rfl rfl (i2 := (2, b0, 0)) rfl ?_
        refine tv_iload_n C (pc := 14) dX0_firstDependentOn_14 rfl rfl ?_
        obtain ⟨hr1, h⟩ := ts_gd h
        refine tv_aaload5 C (pc := 15) dX0_firstDependentOn_15 (ts_live (k := 2) (by decide) hb0 (by decide)) rfl hr1 (j := v2.toNatClampNeg) rfl (i2 := (11, b0, v2.toNatClampNeg)) rfl ?_
        obtain ⟨q2, hq2, h⟩ := ts_bd h
        refine tv_callV C (pc := 16) dX0_firstDependentOn_16 (ci := 5) (q := (RX5, TX5, 10)) rfl yl_X0_182 (m_X5_isUncommitted (D := D) (dT := dT) (sz := sz) (ad := ad) hl b0 hb0 v2.toNatClampNeg (ts_vin hr1) u q2 hq2) (ts_live (k := 11) (by decide) hb0 (ts_vin hr1)) rfl (Nat.le_trans (Nat.le_of_ble_eq_true rfl) hdd) (As := []) rfl ⟨hkn.1, hkn.2⟩ (fun _ => Nat.le_of_ble_eq_true rfl) rfl ?_
        refine tv_if_eq C (pc := 19) 40 dX0_firstDependentOn_19 (by decide) (fun hc => ?_) (fun hc => ?_)
        · have h := ts_ifp h hc
          refine tv_iinc C (pc := 40) dX0_firstDependentOn_40 (v := (v2 + (1 : Int32))) (L' := [some (.inr (1, b0, 0)), some (.inl (.int c1)), some (.inl (.int (v2 + (1 : Int32))))]) rfl rfl (by decide) rfl rfl ?_
          refine tv_goto C (pc := 43) 2 dX0_firstDependentOn_43 (by decide) ?_
          exact lt_X0_firstDependentOn_2 hl C hdd b0 hb0 c1 u hkn n (v2 + (1 : Int32)) q h K
        · have h := ts_ifn h hc
          refine tv_aload_n C (pc := 22) dX0_firstDependentOn_22 rfl rfl ?_
          refine tv_getR C (pc := 23) dX0_firstDependentOn_23 fl_X0_23 (ts_live (k := 1) (by decide) hb0 (by decide)) rfl rfl (i2 := (2, b0, 0)) rfl ?_
          refine tv_iload_n C (pc := 26) dX0_firstDependentOn_26 rfl rfl ?_
          obtain ⟨hr3, h⟩ := ts_gd h
          refine tv_aaload5 C (pc := 27) dX0_firstDependentOn_27 (ts_live (k := 2) (by decide) hb0 (by decide)) rfl hr3 (j := v2.toNatClampNeg) rfl (i2 := (11, b0, v2.toNatClampNeg)) rfl ?_
          refine tv_getI C (pc := 28) dX0_firstDependentOn_28 fl_X0_130 (ts_live (k := 11) (by decide) hb0 (ts_vin hr3)) rfl (cd := 0) rfl (by decide) ?_
          refine tv_iconst C (pc := 31) dX0_firstDependentOn_31 (v := (1 : Int32)) rfl ?_
          refine tv_iload_n C (pc := 32) dX0_firstDependentOn_32 rfl rfl ?_
          refine tv_ishl C (pc := 33) dX0_firstDependentOn_33 ?_
          refine tv_iand C (pc := 34) dX0_firstDependentOn_34 ?_
          refine tv_if_eq C (pc := 35) 40 dX0_firstDependentOn_35 (by decide) (fun hc => ?_) (fun hc => ?_)
          · have h := ts_ifp h hc
            refine tv_iinc C (pc := 40) dX0_firstDependentOn_40 (v := (v2 + (1 : Int32))) (L' := [some (.inr (1, b0, 0)), some (.inl (.int c1)), some (.inl (.int (v2 + (1 : Int32))))]) rfl rfl (by decide) rfl rfl ?_
            refine tv_goto C (pc := 43) 2 dX0_firstDependentOn_43 (by decide) ?_
            exact lt_X0_firstDependentOn_2 hl C hdd b0 hb0 c1 u hkn n (v2 + (1 : Int32)) q h K
          · have h := ts_ifn h hc
            refine tv_iload_n C (pc := 38) dX0_firstDependentOn_38 rfl rfl ?_
            cases h
set_option maxRecDepth 100000 in
set_option maxHeartbeats 4000000 in
theorem lt_X0_firstDependentOn_2r {D : va_G} {dT : Nat → ClassId} {sz : Nat} {p : Program} {l : Launch} {e : Env} {R : Room} {s : State} {m : MethodId} {args : Array Value} {below : List Frame} {meth : Method} {c : Code} {d : Nat} {ad : ts_I → Nat} {kk nn : Nat} {mm nm : Nat} (hl : l.stackTraces = false) (C : ts_CX D dT sz p l R s m args meth c RX0 cX0_firstDependentOn 3 (some .int) d) (hdd : 1 ≤ d) (b0 : Nat) (hb0 : b0 < 2) (c1 : Int32) (u : ts_Mem) (hkn : kk ≤ R.cells ∧ nn ≤ R.slots) (hmm : kk ≤ mm ∧ nn ≤ nm) : ∀ (n : Nat) (v2 : Int32) (q : Int32) (h : lp_X0_firstDependentOn_2 b0 c1 u n v2 = some (.inr q)) (K : True), ts_V D dT sz p l e R s m args below meth c 3 (ts_Q below D dT sz ad ts_lv ts_R0 (.inl (some (.int q))) u args s mm nm) ad ts_lv ts_R0 2 [some (.inr (1, b0, 0)), some (.inl (.int c1)), some (.inl (.int v2))] [] u kk nn
  | 0, _, _, h, _ => by cases h
  | n + 1, v2, q, h, K => by
      rw [lp_X0_firstDependentOn_2] at h
      refine tv_iload_n C (pc := 2) dX0_firstDependentOn_2 rfl rfl ?_
      refine tv_aload_n C (pc := 3) dX0_firstDependentOn_3 rfl rfl ?_
      refine tv_getI C (pc := 4) dX0_firstDependentOn_4 fl_X0_18 (ts_live (k := 1) (by decide) hb0 (by decide)) rfl (cd := 0) rfl (by decide) ?_
      refine tv_icmp_ge C (pc := 7) 46 dX0_firstDependentOn_7 (by decide) (fun hc => ?_) (fun hc => ?_)
      · have h := ts_ifp h hc
        cases h
      · have h := ts_ifn h hc
        refine tv_aload_n C (pc := 10) dX0_firstDependentOn_10 rfl rfl ?_
        refine tv_getR C (pc := 11) dX0_firstDependentOn_11 fl_X0_23 (ts_live (k := 1) (by decide) hb0 (by decide)) rfl rfl (i2 := (2, b0, 0)) rfl ?_
        refine tv_iload_n C (pc := 14) dX0_firstDependentOn_14 rfl rfl ?_
        obtain ⟨hr1, h⟩ := ts_gd h
        refine tv_aaload5 C (pc := 15) dX0_firstDependentOn_15 (ts_live (k := 2) (by decide) hb0 (by decide)) rfl hr1 (j := v2.toNatClampNeg) rfl (i2 := (11, b0, v2.toNatClampNeg)) rfl ?_
        obtain ⟨q2, hq2, h⟩ := ts_bd h
        refine tv_callV C (pc := 16) dX0_firstDependentOn_16 (ci := 5) (q := (RX5, TX5, 10)) rfl yl_X0_182 (m_X5_isUncommitted (D := D) (dT := dT) (sz := sz) (ad := ad) hl b0 hb0 v2.toNatClampNeg (ts_vin hr1) u q2 hq2) (ts_live (k := 11) (by decide) hb0 (ts_vin hr1)) rfl (Nat.le_trans (Nat.le_of_ble_eq_true rfl) hdd) (As := []) rfl ⟨hkn.1, hkn.2⟩ (fun _ => Nat.le_of_ble_eq_true rfl) rfl ?_
        refine tv_if_eq C (pc := 19) 40 dX0_firstDependentOn_19 (by decide) (fun hc => ?_) (fun hc => ?_)
        · have h := ts_ifp h hc
          refine tv_iinc C (pc := 40) dX0_firstDependentOn_40 (v := (v2 + (1 : Int32))) (L' := [some (.inr (1, b0, 0)), some (.inl (.int c1)), some (.inl (.int (v2 + (1 : Int32))))]) rfl rfl (by decide) rfl rfl ?_
          refine tv_goto C (pc := 43) 2 dX0_firstDependentOn_43 (by decide) ?_
          exact lt_X0_firstDependentOn_2r hl C hdd b0 hb0 c1 u hkn hmm n (v2 + (1 : Int32)) q h K
        · have h := ts_ifn h hc
          refine tv_aload_n C (pc := 22) dX0_firstDependentOn_22 rfl rfl ?_
          refine tv_getR C (pc := 23) dX0_firstDependentOn_23 fl_X0_23 (ts_live (k := 1) (by decide) hb0 (by decide)) rfl rfl (i2 := (2, b0, 0)) rfl ?_
          refine tv_iload_n C (pc := 26) dX0_firstDependentOn_26 rfl rfl ?_
          obtain ⟨hr3, h⟩ := ts_gd h
          refine tv_aaload5 C (pc := 27) dX0_firstDependentOn_27 (ts_live (k := 2) (by decide) hb0 (by decide)) rfl hr3 (j := v2.toNatClampNeg) rfl (i2 := (11, b0, v2.toNatClampNeg)) rfl ?_
          refine tv_getI C (pc := 28) dX0_firstDependentOn_28 fl_X0_130 (ts_live (k := 11) (by decide) hb0 (ts_vin hr3)) rfl (cd := 0) rfl (by decide) ?_
          refine tv_iconst C (pc := 31) dX0_firstDependentOn_31 (v := (1 : Int32)) rfl ?_
          refine tv_iload_n C (pc := 32) dX0_firstDependentOn_32 rfl rfl ?_
          refine tv_ishl C (pc := 33) dX0_firstDependentOn_33 ?_
          refine tv_iand C (pc := 34) dX0_firstDependentOn_34 ?_
          refine tv_if_eq C (pc := 35) 40 dX0_firstDependentOn_35 (by decide) (fun hc => ?_) (fun hc => ?_)
          · have h := ts_ifp h hc
            refine tv_iinc C (pc := 40) dX0_firstDependentOn_40 (v := (v2 + (1 : Int32))) (L' := [some (.inr (1, b0, 0)), some (.inl (.int c1)), some (.inl (.int (v2 + (1 : Int32))))]) rfl rfl (by decide) rfl rfl ?_
            refine tv_goto C (pc := 43) 2 dX0_firstDependentOn_43 (by decide) ?_
            exact lt_X0_firstDependentOn_2r hl C hdd b0 hb0 c1 u hkn hmm n (v2 + (1 : Int32)) q h K
          · have h := ts_ifn h hc
            refine tv_iload_n C (pc := 38) dX0_firstDependentOn_38 rfl rfl ?_
            cases h
            exact tv_iret C (pc := 39) rfl dX0_firstDependentOn_39 ⟨hmm.1, hmm.2⟩
set_option maxRecDepth 100000 in
set_option maxHeartbeats 4000000 in
theorem m_X0_firstDependentOn {l : Launch} {D : va_G} {dT : Nat → ClassId} {sz : Nat} {ad : ts_I → Nat} (hl : l.stackTraces = false) (b0 : Nat) (hb0 : b0 < 2) (p1 : Int32) (u : ts_Mem) (r : Int32) (h : f_X0_firstDependentOn b0 p1 u = some r) : ts_M l D dT sz yX0_firstDependentOn wX0_firstDependentOn 1 0 0 ad ts_lv ts_R0 [.inr (1, b0, 0), .inl (.int p1)] u (.inl (some (.int r))) u := by
    unfold f_X0_firstDependentOn at h
    refine ts_enter hl (by decide) rfl rfl (Nat.le_of_ble_eq_true rfl) ?_
    intro p e s m args below meth c C hX hnm
    have C : ts_CX D dT sz p l (ts_rm 1 0 0) s m args meth c RX0 cX0_firstDependentOn 3 (some .int) 1 := C
    have hdd : 1 ≤ 1 := Nat.le_refl _
    refine tv_iconst C (pc := 0) dX0_firstDependentOn_0 (v := (0 : Int32)) rfl ?_
    refine tv_istore_n C (pc := 1) dX0_firstDependentOn_1 (L' := [some (.inr (1, b0, 0)), some (.inl (.int p1)), some (.inl (.int (0 : Int32)))]) rfl (by decide) rfl rfl ?_
    obtain ⟨q4, hq4, h⟩ := ts_bd h
    rcases q4 with w5 | r6
    · have h := ts_eL h
      refine lt_X0_firstDependentOn_2 hl C hdd b0 hb0 p1 u ⟨Nat.le_of_ble_eq_true rfl, Nat.le_of_ble_eq_true rfl⟩ ts_fu (0 : Int32) w5 hq4 ?_
      refine tv_iconst C (pc := 46) dX0_firstDependentOn_46 (v := (-1 : Int32)) rfl ?_
      cases h
      exact tv_iret C (pc := 47) rfl dX0_firstDependentOn_47 ⟨Nat.le_of_ble_eq_true rfl, Nat.le_of_ble_eq_true rfl⟩
    · have h := ts_eR h
      cases h
      exact lt_X0_firstDependentOn_2r hl C hdd b0 hb0 p1 u ⟨Nat.le_of_ble_eq_true rfl, Nat.le_of_ble_eq_true rfl⟩ ⟨Nat.le_of_ble_eq_true rfl, Nat.le_of_ble_eq_true rfl⟩ ts_fu (0 : Int32) _ hq4 trivial
set_option maxRecDepth 100000 in
set_option maxHeartbeats 4000000 in
theorem lt_X0_abortWithDependents_23 {D : va_G} {dT : Nat → ClassId} {sz : Nat} {p : Program} {l : Launch} {e : Env} {R : Room} {s : State} {m : MethodId} {args : Array Value} {below : List Frame} {meth : Method} {c : Code} {d : Nat} {ad : ts_I → Nat} {kk nn : Nat} {Q : State → Prop} (hl : l.stackTraces = false) (C : ts_CX D dT sz p l R s m args meth c RX0 cX0_abortWithDependents 7 (some .int) d) (hdd : 3 ≤ d) (b0 : Nat) (hb0 : b0 < 2) (c1 : Int32) (c2 : Int32) (hkn : kk ≤ R.cells ∧ nn ≤ R.slots) : ∀ (n : Nat) (v3 : Int32) (v4 : Int32) (v5 : Int32) (u : ts_Mem) (q : (Int32 × Int32 × Int32 × ts_Mem)) (h : lp_X0_abortWithDependents_23 b0 c1 c2 n v3 v4 v5 u = some q) (K : ts_V D dT sz p l e R s m args below meth c 7 Q ad ts_lv ts_R0 98 [some (.inr (1, b0, 0)), some (.inl (.int c1)), some (.inl (.int c2)), some (.inl (.int q.1)), some (.inl (.int q.2.1)), some (.inl (.int q.2.2.1)), none] [] q.2.2.2 kk nn), ts_V D dT sz p l e R s m args below meth c 7 Q ad ts_lv ts_R0 23 [some (.inr (1, b0, 0)), some (.inl (.int c1)), some (.inl (.int c2)), some (.inl (.int v3)), some (.inl (.int v4)), some (.inl (.int v5)), none] [] u kk nn
  | 0, _, _, _, _, _, h, _ => by cases h
  | n + 1, v3, v4, v5, u, q, h, K => by
      rw [lp_X0_abortWithDependents_23] at h
      refine tv_iload C (pc := 23) dX0_abortWithDependents_23 rfl ?_
      refine tv_bipush C (pc := 25) dX0_abortWithDependents_25 (v := (32 : Int32)) rfl ?_
      refine tv_icmp_ge C (pc := 27) 98 dX0_abortWithDependents_27 (by decide) (fun hc => ?_) (fun hc => ?_)
      · have h := ts_ifp h hc
        cases h
        exact K
      · have h := ts_ifn h hc
        refine tv_iload C (pc := 30) dX0_abortWithDependents_30 rfl ?_
        refine tv_if_le C (pc := 32) 98 dX0_abortWithDependents_32 (by decide) (fun hc => ?_) (fun hc => ?_)
        · have h := ts_ifp h hc
          cases h
          exact K
        · have h := ts_ifn h hc
          refine tv_aload_n C (pc := 35) dX0_abortWithDependents_35 rfl rfl ?_
          refine tv_aload_n C (pc := 36) dX0_abortWithDependents_36 rfl rfl ?_
          refine tv_getR C (pc := 37) dX0_abortWithDependents_37 fl_X0_46 (ts_live (k := 1) (by decide) hb0 (by decide)) rfl rfl (i2 := (6, b0, 0)) rfl ?_
          refine tv_iload C (pc := 40) dX0_abortWithDependents_40 rfl ?_
          refine tv_iconst C (pc := 42) dX0_abortWithDependents_42 (v := (1 : Int32)) rfl ?_
          refine tv_isub C (pc := 43) dX0_abortWithDependents_43 ?_
          obtain ⟨hr3, h⟩ := ts_gd h
          refine tv_iaload C (pc := 44) dX0_abortWithDependents_44 (ts_live (k := 6) (by decide) hb0 (by decide)) rfl hr3 (j := ((v4 - (1 : Int32))).toNatClampNeg) rfl ?_
          obtain ⟨q4, hq4, h⟩ := ts_bd h
          refine tv_callV C (pc := 45) dX0_abortWithDependents_45 (ci := 0) (q := (RX0, TX0, 8)) rfl yl_X0_173 (m_X0_firstDependentOn (D := D) (dT := dT) (sz := sz) (ad := ad) hl b0 hb0 (ts_gI u (6, b0, 0) ((v4 - (1 : Int32))).toNatClampNeg) u q4 hq4) (ts_live (k := 1) (by decide) hb0 (by decide)) rfl (Nat.le_trans (Nat.le_of_ble_eq_true rfl) hdd) (As := [.inl (.int (ts_gI u (6, b0, 0) ((v4 - (1 : Int32))).toNatClampNeg))]) rfl ⟨hkn.1, hkn.2⟩ (fun _ => Nat.le_of_ble_eq_true rfl) rfl ?_
          refine tv_istore C (pc := 48) dX0_abortWithDependents_48 (L' := [some (.inr (1, b0, 0)), some (.inl (.int c1)), some (.inl (.int c2)), some (.inl (.int v3)), some (.inl (.int v4)), some (.inl (.int v5)), some (.inl (.int q4))]) (by decide) rfl rfl ?_
          refine tv_iload C (pc := 50) dX0_abortWithDependents_50 rfl ?_
          refine tv_if_lt C (pc := 52) 89 dX0_abortWithDependents_52 (by decide) (fun hc => ?_) (fun hc => ?_)
          · have h := ts_ifp h hc
            refine tv_iinc C (pc := 89) dX0_abortWithDependents_89 (v := (v4 + (-1 : Int32))) (L' := [some (.inr (1, b0, 0)), some (.inl (.int c1)), some (.inl (.int c2)), some (.inl (.int v3)), some (.inl (.int (v4 + (-1 : Int32)))), some (.inl (.int v5)), some (.inl (.int q4))]) rfl rfl (by decide) rfl rfl ?_
            refine tv_iinc C (pc := 92) dX0_abortWithDependents_92 (v := (v5 + (1 : Int32))) (L' := [some (.inr (1, b0, 0)), some (.inl (.int c1)), some (.inl (.int c2)), some (.inl (.int v3)), some (.inl (.int (v4 + (-1 : Int32)))), some (.inl (.int (v5 + (1 : Int32)))), some (.inl (.int q4))]) rfl rfl (by decide) rfl rfl ?_
            refine tv_goto C (pc := 95) 23 dX0_abortWithDependents_95 (by decide) ?_
            refine tv_drop 6 (L' := [some (.inr (1, b0, 0)), some (.inl (.int c1)), some (.inl (.int c2)), some (.inl (.int v3)), some (.inl (.int (v4 + (-1 : Int32)))), some (.inl (.int (v5 + (1 : Int32)))), none]) rfl ?_
            exact lt_X0_abortWithDependents_23 hl C hdd b0 hb0 c1 c2 hkn n v3 (v4 + (-1 : Int32)) (v5 + (1 : Int32)) u q h K
          · have h := ts_ifn h hc
            refine tv_iload C (pc := 55) dX0_abortWithDependents_55 rfl ?_
            refine tv_bipush C (pc := 57) dX0_abortWithDependents_57 (v := (16 : Int32)) rfl ?_
            refine tv_icmp_ge C (pc := 59) 89 dX0_abortWithDependents_59 (by decide) (fun hc => ?_) (fun hc => ?_)
            · have h := ts_ifp h hc
              refine tv_iinc C (pc := 89) dX0_abortWithDependents_89 (v := (v4 + (-1 : Int32))) (L' := [some (.inr (1, b0, 0)), some (.inl (.int c1)), some (.inl (.int c2)), some (.inl (.int v3)), some (.inl (.int (v4 + (-1 : Int32)))), some (.inl (.int v5)), some (.inl (.int q4))]) rfl rfl (by decide) rfl rfl ?_
              refine tv_iinc C (pc := 92) dX0_abortWithDependents_92 (v := (v5 + (1 : Int32))) (L' := [some (.inr (1, b0, 0)), some (.inl (.int c1)), some (.inl (.int c2)), some (.inl (.int v3)), some (.inl (.int (v4 + (-1 : Int32)))), some (.inl (.int (v5 + (1 : Int32)))), some (.inl (.int q4))]) rfl rfl (by decide) rfl rfl ?_
              refine tv_goto C (pc := 95) 23 dX0_abortWithDependents_95 (by decide) ?_
              refine tv_drop 6 (L' := [some (.inr (1, b0, 0)), some (.inl (.int c1)), some (.inl (.int c2)), some (.inl (.int v3)), some (.inl (.int (v4 + (-1 : Int32)))), some (.inl (.int (v5 + (1 : Int32)))), none]) rfl ?_
              exact lt_X0_abortWithDependents_23 hl C hdd b0 hb0 c1 c2 hkn n v3 (v4 + (-1 : Int32)) (v5 + (1 : Int32)) u q h K
            · have h := ts_ifn h hc
              refine tv_aload_n C (pc := 62) dX0_abortWithDependents_62 rfl rfl ?_
              refine tv_iload C (pc := 63) dX0_abortWithDependents_63 rfl ?_
              refine tv_bipush C (pc := 65) dX0_abortWithDependents_65 (v := (7 : Int32)) rfl ?_
              refine tv_iconst C (pc := 67) dX0_abortWithDependents_67 (v := (-1 : Int32)) rfl ?_
              obtain ⟨q5, hq5, h⟩ := ts_bd h
              refine tv_callV C (pc := 68) dX0_abortWithDependents_68 (ci := 0) (q := (RX0, TX0, 8)) rfl yl_X0_170 (m_X0_abortOne (D := D) (dT := dT) (sz := sz) (ad := ad) hl b0 hb0 q4 (7 : Int32) (-1 : Int32) u q5 hq5) (ts_live (k := 1) (by decide) hb0 (by decide)) rfl (Nat.le_trans (Nat.le_of_ble_eq_true rfl) hdd) (As := [.inl (.int q4), .inl (.int (7 : Int32)), .inl (.int (-1 : Int32))]) rfl ⟨hkn.1, hkn.2⟩ (fun _ => Nat.le_of_ble_eq_true rfl) rfl ?_
              refine tv_iinc C (pc := 71) dX0_abortWithDependents_71 (v := (v3 + (1 : Int32))) (L' := [some (.inr (1, b0, 0)), some (.inl (.int c1)), some (.inl (.int c2)), some (.inl (.int (v3 + (1 : Int32)))), some (.inl (.int v4)), some (.inl (.int v5)), some (.inl (.int q4))]) rfl rfl (by decide) rfl rfl ?_
              refine tv_aload_n C (pc := 74) dX0_abortWithDependents_74 rfl rfl ?_
              refine tv_getR C (pc := 75) dX0_abortWithDependents_75 fl_X0_46 (ts_live (k := 1) (by decide) hb0 (by decide)) rfl rfl (i2 := (6, b0, 0)) rfl ?_
              refine tv_iload C (pc := 78) dX0_abortWithDependents_78 rfl ?_
              refine tv_iload C (pc := 80) dX0_abortWithDependents_80 rfl ?_
              obtain ⟨hr6, h⟩ := ts_gd h
              refine tv_iastore C (pc := 82) dX0_abortWithDependents_82 (ts_live (k := 6) (by decide) hb0 (by decide)) rfl hr6 (j := v4.toNatClampNeg) rfl ?_
              refine tv_nu (fun u7 hu7 => ?_)
              have h := ts_lt h hu7
              refine tv_iinc C (pc := 83) dX0_abortWithDependents_83 (v := (v4 + (1 : Int32))) (L' := [some (.inr (1, b0, 0)), some (.inl (.int c1)), some (.inl (.int c2)), some (.inl (.int (v3 + (1 : Int32)))), some (.inl (.int (v4 + (1 : Int32)))), some (.inl (.int v5)), some (.inl (.int q4))]) rfl rfl (by decide) rfl rfl ?_
              refine tv_goto C (pc := 86) 92 dX0_abortWithDependents_86 (by decide) ?_
              refine tv_iinc C (pc := 92) dX0_abortWithDependents_92 (v := (v5 + (1 : Int32))) (L' := [some (.inr (1, b0, 0)), some (.inl (.int c1)), some (.inl (.int c2)), some (.inl (.int (v3 + (1 : Int32)))), some (.inl (.int (v4 + (1 : Int32)))), some (.inl (.int (v5 + (1 : Int32)))), some (.inl (.int q4))]) rfl rfl (by decide) rfl rfl ?_
              refine tv_goto C (pc := 95) 23 dX0_abortWithDependents_95 (by decide) ?_
              refine tv_drop 6 (L' := [some (.inr (1, b0, 0)), some (.inl (.int c1)), some (.inl (.int c2)), some (.inl (.int (v3 + (1 : Int32)))), some (.inl (.int (v4 + (1 : Int32)))), some (.inl (.int (v5 + (1 : Int32)))), none]) rfl ?_
              exact lt_X0_abortWithDependents_23 hl C hdd b0 hb0 c1 c2 hkn n (v3 + (1 : Int32)) (v4 + (1 : Int32)) (v5 + (1 : Int32)) u7 q h K
set_option maxRecDepth 100000 in
set_option maxHeartbeats 4000000 in
theorem m_X0_abortWithDependents {l : Launch} {D : va_G} {dT : Nat → ClassId} {sz : Nat} {ad : ts_I → Nat} (hl : l.stackTraces = false) (b0 : Nat) (hb0 : b0 < 2) (p1 : Int32) (p2 : Int32) (u : ts_Mem) (r : (Int32 × ts_Mem)) (h : f_X0_abortWithDependents b0 p1 p2 u = some r) : ts_M l D dT sz yX0_abortWithDependents wX0_abortWithDependents 3 0 0 ad ts_lv ts_R0 [.inr (1, b0, 0), .inl (.int p1), .inl (.int p2)] u (.inl (some (.int r.1))) r.2 := by
    unfold f_X0_abortWithDependents at h
    refine ts_enter hl (by decide) rfl rfl (Nat.le_of_ble_eq_true rfl) ?_
    intro p e s m args below meth c C hX hnm
    have C : ts_CX D dT sz p l (ts_rm 3 0 0) s m args meth c RX0 cX0_abortWithDependents 7 (some .int) 3 := C
    have hdd : 3 ≤ 3 := Nat.le_refl _
    refine tv_aload_n C (pc := 0) dX0_abortWithDependents_0 rfl rfl ?_
    refine tv_iload_n C (pc := 1) dX0_abortWithDependents_1 rfl rfl ?_
    refine tv_bipush C (pc := 2) dX0_abortWithDependents_2 (v := (6 : Int32)) rfl ?_
    refine tv_iload_n C (pc := 4) dX0_abortWithDependents_4 rfl rfl ?_
    obtain ⟨q1, hq1, h⟩ := ts_bd h
    refine tv_callV C (pc := 5) dX0_abortWithDependents_5 (ci := 0) (q := (RX0, TX0, 8)) rfl yl_X0_170 (m_X0_abortOne (D := D) (dT := dT) (sz := sz) (ad := ad) hl b0 hb0 p1 (6 : Int32) p2 u q1 hq1) (ts_live (k := 1) (by decide) hb0 (by decide)) rfl (Nat.le_trans (Nat.le_of_ble_eq_true rfl) hdd) (As := [.inl (.int p1), .inl (.int (6 : Int32)), .inl (.int p2)]) rfl ⟨Nat.le_of_ble_eq_true rfl, Nat.le_of_ble_eq_true rfl⟩ (fun _ => Nat.le_of_ble_eq_true rfl) rfl ?_
    refine tv_iconst C (pc := 8) dX0_abortWithDependents_8 (v := (1 : Int32)) rfl ?_
    refine tv_istore_n C (pc := 9) dX0_abortWithDependents_9 (L' := [some (.inr (1, b0, 0)), some (.inl (.int p1)), some (.inl (.int p2)), some (.inl (.int (1 : Int32))), none, none, none]) rfl (by decide) rfl rfl ?_
    refine tv_iconst C (pc := 10) dX0_abortWithDependents_10 (v := (1 : Int32)) rfl ?_
    refine tv_istore C (pc := 11) dX0_abortWithDependents_11 (L' := [some (.inr (1, b0, 0)), some (.inl (.int p1)), some (.inl (.int p2)), some (.inl (.int (1 : Int32))), some (.inl (.int (1 : Int32))), none, none]) (by decide) rfl rfl ?_
    refine tv_aload_n C (pc := 13) dX0_abortWithDependents_13 rfl rfl ?_
    refine tv_getR C (pc := 14) dX0_abortWithDependents_14 fl_X0_46 (ts_live (k := 1) (by decide) hb0 (by decide)) rfl rfl (i2 := (6, b0, 0)) rfl ?_
    refine tv_iconst C (pc := 17) dX0_abortWithDependents_17 (v := (0 : Int32)) rfl ?_
    refine tv_iload_n C (pc := 18) dX0_abortWithDependents_18 rfl rfl ?_
    refine tv_iastore C (pc := 19) dX0_abortWithDependents_19 (ts_live (k := 6) (by decide) hb0 (by decide)) rfl (by decide) (j := 0) (by decide) ?_
    refine tv_nu (fun u2 hu2 => ?_)
    have h := ts_lt h hu2
    refine tv_iconst C (pc := 20) dX0_abortWithDependents_20 (v := (0 : Int32)) rfl ?_
    refine tv_istore C (pc := 21) dX0_abortWithDependents_21 (L' := [some (.inr (1, b0, 0)), some (.inl (.int p1)), some (.inl (.int p2)), some (.inl (.int (1 : Int32))), some (.inl (.int (1 : Int32))), some (.inl (.int (0 : Int32))), none]) (by decide) rfl rfl ?_
    obtain ⟨q8, hq8, h⟩ := ts_bd h
    refine lt_X0_abortWithDependents_23 hl C hdd b0 hb0 p1 p2 ⟨Nat.le_of_ble_eq_true rfl, Nat.le_of_ble_eq_true rfl⟩ ts_fu (1 : Int32) (1 : Int32) (0 : Int32) u2 q8 hq8 ?_
    refine tv_iload_n C (pc := 98) dX0_abortWithDependents_98 rfl rfl ?_
    cases h
    exact tv_iret C (pc := 99) rfl dX0_abortWithDependents_99 ⟨Nat.le_of_ble_eq_true rfl, Nat.le_of_ble_eq_true rfl⟩
set_option maxRecDepth 100000 in
set_option maxHeartbeats 4000000 in
theorem m_X0_isReadTooLate {l : Launch} {D : va_G} {dT : Nat → ClassId} {sz : Nat} {ad : ts_I → Nat} (hl : l.stackTraces = false) (b0 : Nat) (hb0 : b0 < 2) (b1 : Nat) (hb1 : b1 < 2) (i1 : Nat) (hi1 : i1 < 8) (p2 : Int32) (u : ts_Mem) (r : Int32) (h : f_X0_isReadTooLate b0 b1 i1 p2 u = some r) : ts_M l D dT sz yX0_isReadTooLate wX0_isReadTooLate 1 0 0 ad ts_lv ts_R0 [.inr (1, b0, 0), .inr (16, b1, i1), .inl (.int p2)] u (.inl (some (.int r))) u := by
    unfold f_X0_isReadTooLate at h
    refine ts_enter hl (by decide) rfl rfl (Nat.le_of_ble_eq_true rfl) ?_
    intro p e s m args below meth c C hX hnm
    have C : ts_CX D dT sz p l (ts_rm 1 0 0) s m args meth c RX0 cX0_isReadTooLate 4 (some .boolean) 1 := C
    have hdd : 1 ≤ 1 := Nat.le_refl _
    refine tv_aload_n C (pc := 0) dX0_isReadTooLate_0 rfl rfl ?_
    refine tv_getI C (pc := 1) dX0_isReadTooLate_1 fl_X0_9 (ts_live (k := 1) (by decide) hb0 (by decide)) rfl (cd := 0) rfl (by decide) ?_
    refine tv_iconst C (pc := 4) dX0_isReadTooLate_4 (v := (2 : Int32)) rfl ?_
    refine tv_icmp_eq C (pc := 5) 14 dX0_isReadTooLate_5 (by decide) (fun hc => ?_) (fun hc => ?_)
    · have h := ts_ifp h hc
      refine tv_aload_n C (pc := 14) dX0_isReadTooLate_14 rfl rfl ?_
      refine tv_iload_n C (pc := 15) dX0_isReadTooLate_15 rfl rfl ?_
      obtain ⟨q1, hq1, h⟩ := ts_bd h
      refine tv_callV C (pc := 16) dX0_isReadTooLate_16 (ci := 1) (q := (RX1, TX1, 5)) rfl yl_X0_113 (m_X1_lastAtMost (D := D) (dT := dT) (sz := sz) (ad := ad) hl b1 hb1 i1 hi1 p2 u q1 hq1) (ts_live (k := 16) (by decide) hb1 hi1) rfl (Nat.le_trans (Nat.le_of_ble_eq_true rfl) hdd) (As := [.inl (.int p2)]) rfl ⟨Nat.le_of_ble_eq_true rfl, Nat.le_of_ble_eq_true rfl⟩ (fun _ => Nat.le_of_ble_eq_true rfl) rfl ?_
      refine tv_istore_n C (pc := 19) dX0_isReadTooLate_19 (L' := [some (.inr (1, b0, 0)), some (.inr (16, b1, i1)), some (.inl (.int p2)), some (.inl (.int q1))]) rfl (by decide) rfl rfl ?_
      refine tv_iload_n C (pc := 20) dX0_isReadTooLate_20 rfl rfl ?_
      refine tv_if_lt C (pc := 21) 38 dX0_isReadTooLate_21 (by decide) (fun hc => ?_) (fun hc => ?_)
      · have h := ts_ifp h hc
        refine tv_iconst C (pc := 38) dX0_isReadTooLate_38 (v := (0 : Int32)) rfl ?_
        cases h
        exact tv_zret C (pc := 39) (v := (0 : Int32)) rfl ts_nz0 dX0_isReadTooLate_39 ⟨Nat.le_of_ble_eq_true rfl, Nat.le_of_ble_eq_true rfl⟩
      · have h := ts_ifn h hc
        refine tv_aload_n C (pc := 24) dX0_isReadTooLate_24 rfl rfl ?_
        refine tv_getR C (pc := 25) dX0_isReadTooLate_25 fl_X0_143 (ts_live (k := 16) (by decide) hb1 hi1) rfl rfl (i2 := (18, b1, i1)) rfl ?_
        refine tv_iload_n C (pc := 28) dX0_isReadTooLate_28 rfl rfl ?_
        obtain ⟨hr2, h⟩ := ts_gd h
        refine tv_iaload C (pc := 29) dX0_isReadTooLate_29 (ts_live (k := 18) (by decide) hb1 hi1) rfl hr2 (j := q1.toNatClampNeg) rfl ?_
        refine tv_iload_n C (pc := 30) dX0_isReadTooLate_30 rfl rfl ?_
        refine tv_icmp_le C (pc := 31) 38 dX0_isReadTooLate_31 (by decide) (fun hc => ?_) (fun hc => ?_)
        · have h := ts_ifp h hc
          refine tv_iconst C (pc := 38) dX0_isReadTooLate_38 (v := (0 : Int32)) rfl ?_
          cases h
          exact tv_zret C (pc := 39) (v := (0 : Int32)) rfl ts_nz0 dX0_isReadTooLate_39 ⟨Nat.le_of_ble_eq_true rfl, Nat.le_of_ble_eq_true rfl⟩
        · have h := ts_ifn h hc
          refine tv_iconst C (pc := 34) dX0_isReadTooLate_34 (v := (1 : Int32)) rfl ?_
          refine tv_goto C (pc := 35) 39 dX0_isReadTooLate_35 (by decide) ?_
          cases h
          exact tv_zret C (pc := 39) (v := (1 : Int32)) rfl ts_nz1 dX0_isReadTooLate_39 ⟨Nat.le_of_ble_eq_true rfl, Nat.le_of_ble_eq_true rfl⟩
    · have h := ts_ifn h hc
      refine tv_aload_n C (pc := 8) dX0_isReadTooLate_8 rfl rfl ?_
      refine tv_iload_n C (pc := 9) dX0_isReadTooLate_9 rfl rfl ?_
      obtain ⟨q3, hq3, h⟩ := ts_bd h
      refine tv_callV C (pc := 10) dX0_isReadTooLate_10 (ci := 1) (q := (RX1, TX1, 5)) rfl yl_X0_140 (m_X1_isAnyReadAfter (D := D) (dT := dT) (sz := sz) (ad := ad) hl b1 hb1 i1 hi1 p2 u q3 hq3) (ts_live (k := 16) (by decide) hb1 hi1) rfl (Nat.le_trans (Nat.le_of_ble_eq_true rfl) hdd) (As := [.inl (.int p2)]) rfl ⟨Nat.le_of_ble_eq_true rfl, Nat.le_of_ble_eq_true rfl⟩ (fun _ => Nat.le_of_ble_eq_true rfl) rfl ?_
      obtain ⟨hgz, h⟩ := ts_gd h
      cases h
      exact tv_zret C (pc := 13) rfl (ts_nz hgz).1 dX0_isReadTooLate_13 ⟨Nat.le_of_ble_eq_true rfl, Nat.le_of_ble_eq_true rfl⟩
set_option maxRecDepth 100000 in
set_option maxHeartbeats 4000000 in
theorem m_X0_writeItem {l : Launch} {D : va_G} {dT : Nat → ClassId} {sz : Nat} {ad : ts_I → Nat} (hl : l.stackTraces = false) (b0 : Nat) (hb0 : b0 < 2) (p1 : Int32) (p2 : Int32) (p3 : Int32) (u : ts_Mem) (r : (Int32 × ts_Mem)) (h : f_X0_writeItem b0 p1 p2 p3 u = some r) : ts_M l D dT sz yX0_writeItem wX0_writeItem 2 0 0 ad ts_lv ts_R0 [.inr (1, b0, 0), .inl (.int p1), .inl (.int p2), .inl (.int p3)] u (.inl (some (.int r.1))) r.2 := by
    unfold f_X0_writeItem at h
    refine ts_enter hl (by decide) rfl rfl (Nat.le_of_ble_eq_true rfl) ?_
    intro p e s m args below meth c C hX hnm
    have C : ts_CX D dT sz p l (ts_rm 2 0 0) s m args meth c RX0 cX0_writeItem 7 (some .int) 2 := C
    have hdd : 2 ≤ 2 := Nat.le_refl _
    refine tv_aload_n C (pc := 0) dX0_writeItem_0 rfl rfl ?_
    refine tv_getR C (pc := 1) dX0_writeItem_1 fl_X0_23 (ts_live (k := 1) (by decide) hb0 (by decide)) rfl rfl (i2 := (2, b0, 0)) rfl ?_
    refine tv_iload_n C (pc := 4) dX0_writeItem_4 rfl rfl ?_
    obtain ⟨hr1, h⟩ := ts_gd h
    refine tv_aaload5 C (pc := 5) dX0_writeItem_5 (ts_live (k := 2) (by decide) hb0 (by decide)) rfl hr1 (j := p1.toNatClampNeg) rfl (i2 := (11, b0, p1.toNatClampNeg)) rfl ?_
    refine tv_getI C (pc := 6) dX0_writeItem_6 fl_X0_110 (ts_live (k := 11) (by decide) hb0 (ts_vin hr1)) rfl (cd := 0) rfl (by decide) ?_
    refine tv_nmI (fun x2 hx2 => ?_)
    have h := ts_lt h hx2
    refine tv_istore C (pc := 9) dX0_writeItem_9 (L' := [some (.inr (1, b0, 0)), some (.inl (.int p1)), some (.inl (.int p2)), some (.inl (.int p3)), some (.inl (.int x2)), none, none]) (by decide) rfl rfl ?_
    refine tv_aload_n C (pc := 11) dX0_writeItem_11 rfl rfl ?_
    refine tv_getR C (pc := 12) dX0_writeItem_12 fl_X0_30 (ts_live (k := 1) (by decide) hb0 (by decide)) rfl rfl (i2 := (3, b0, 0)) rfl ?_
    refine tv_iload_n C (pc := 15) dX0_writeItem_15 rfl rfl ?_
    obtain ⟨hr3, h⟩ := ts_gd h
    refine tv_aaload6 C (pc := 16) dX0_writeItem_16 (ts_live (k := 3) (by decide) hb0 (by decide)) rfl hr3 (j := p2.toNatClampNeg) rfl (i2 := (16, b0, p2.toNatClampNeg)) rfl ?_
    refine tv_astore C (pc := 17) dX0_writeItem_17 (L' := [some (.inr (1, b0, 0)), some (.inl (.int p1)), some (.inl (.int p2)), some (.inl (.int p3)), some (.inl (.int x2)), some (.inr (16, b0, p2.toNatClampNeg)), none]) (by decide) rfl rfl ?_
    refine tv_aload_n C (pc := 19) dX0_writeItem_19 rfl rfl ?_
    refine tv_getI C (pc := 20) dX0_writeItem_20 fl_X0_9 (ts_live (k := 1) (by decide) hb0 (by decide)) rfl (cd := 0) rfl (by decide) ?_
    refine tv_iconst C (pc := 23) dX0_writeItem_23 (v := (2 : Int32)) rfl ?_
    refine tv_icmp_eq C (pc := 24) 48 dX0_writeItem_24 (by decide) (fun hc => ?_) (fun hc => ?_)
    · have h := ts_ifp h hc
      refine tv_iconst C (pc := 48) dX0_writeItem_48 (v := (0 : Int32)) rfl ?_
      refine tv_istore C (pc := 49) dX0_writeItem_49 (L' := [some (.inr (1, b0, 0)), some (.inl (.int p1)), some (.inl (.int p2)), some (.inl (.int p3)), some (.inl (.int x2)), some (.inr (16, b0, p2.toNatClampNeg)), some (.inl (.int (0 : Int32)))]) (by decide) rfl rfl ?_
      refine tv_aload_n C (pc := 51) dX0_writeItem_51 rfl rfl ?_
      refine tv_aload C (pc := 52) dX0_writeItem_52 rfl ?_
      refine tv_iload C (pc := 54) dX0_writeItem_54 rfl ?_
      obtain ⟨q4, hq4, h⟩ := ts_bd h
      refine tv_callV C (pc := 56) dX0_writeItem_56 (ci := 0) (q := (RX0, TX0, 8)) rfl yl_X0_133 (m_X0_isReadTooLate (D := D) (dT := dT) (sz := sz) (ad := ad) hl b0 hb0 b0 hb0 p2.toNatClampNeg (ts_vin hr3) x2 u q4 hq4) (ts_live (k := 1) (by decide) hb0 (by decide)) rfl (Nat.le_trans (Nat.le_of_ble_eq_true rfl) hdd) (As := [.inr (16, b0, p2.toNatClampNeg), .inl (.int x2)]) rfl ⟨Nat.le_of_ble_eq_true rfl, Nat.le_of_ble_eq_true rfl⟩ (fun _ => Nat.le_of_ble_eq_true rfl) rfl ?_
      refine tv_if_ne C (pc := 59) 74 dX0_writeItem_59 (by decide) (fun hc => ?_) (fun hc => ?_)
      · have h := ts_ifn h hc
        refine tv_iconst C (pc := 74) dX0_writeItem_74 (v := (-1 : Int32)) rfl ?_
        cases h
        exact tv_iret C (pc := 75) rfl dX0_writeItem_75 ⟨Nat.le_of_ble_eq_true rfl, Nat.le_of_ble_eq_true rfl⟩
      · have h := ts_ifp h hc
        refine tv_iload C (pc := 62) dX0_writeItem_62 rfl ?_
        refine tv_if_eq C (pc := 64) 76 dX0_writeItem_64 (by decide) (fun _ => ?_) (fun hc => absurd hc (by decide))
        refine tv_aload C (pc := 76) dX0_writeItem_76 rfl ?_
        refine tv_iload C (pc := 78) dX0_writeItem_78 rfl ?_
        refine tv_iload_n C (pc := 80) dX0_writeItem_80 rfl rfl ?_
        refine tv_iload_n C (pc := 81) dX0_writeItem_81 rfl rfl ?_
        obtain ⟨q5, hq5, h⟩ := ts_bd h
        refine tv_callV C (pc := 82) dX0_writeItem_82 (ci := 1) (q := (RX1, TX1, 5)) rfl yl_X0_137 (m_X1_putValue (D := D) (dT := dT) (sz := sz) (ad := ad) hl b0 hb0 p2.toNatClampNeg (ts_vin hr3) x2 p1 p3 u q5 hq5) (ts_live (k := 16) (by decide) hb0 (ts_vin hr3)) rfl (Nat.le_trans (Nat.le_of_ble_eq_true rfl) hdd) (As := [.inl (.int x2), .inl (.int p1), .inl (.int p3)]) rfl ⟨Nat.le_of_ble_eq_true rfl, Nat.le_of_ble_eq_true rfl⟩ (fun _ => Nat.le_of_ble_eq_true rfl) rfl ?_
        refine tv_aload_n C (pc := 85) dX0_writeItem_85 rfl rfl ?_
        refine tv_getR C (pc := 86) dX0_writeItem_86 fl_X0_38 (ts_live (k := 1) (by decide) hb0 (by decide)) rfl rfl (i2 := (4, b0, 0)) rfl ?_
        refine tv_iload C (pc := 89) dX0_writeItem_89 rfl ?_
        refine tv_if_eq C (pc := 91) 98 dX0_writeItem_91 (by decide) (fun _ => ?_) (fun hc => absurd hc (by decide))
        refine tv_iconst C (pc := 98) dX0_writeItem_98 (v := (2 : Int32)) rfl ?_
        refine tv_iload_n C (pc := 99) dX0_writeItem_99 rfl rfl ?_
        refine tv_iload_n C (pc := 100) dX0_writeItem_100 rfl rfl ?_
        obtain ⟨q6, hq6, h⟩ := ts_bd h
        refine tv_callV C (pc := 101) dX0_writeItem_101 (ci := 2) (q := (RX2, TX2, 6)) rfl yl_X0_73 (m_X2_note (D := D) (dT := dT) (sz := sz) (ad := ad) hl b0 hb0 (2 : Int32) p1 p2 q5 q6 hq6) (ts_live (k := 4) (by decide) hb0 (by decide)) rfl (Nat.le_trans (Nat.le_of_ble_eq_true rfl) hdd) (As := [.inl (.int (2 : Int32)), .inl (.int p1), .inl (.int p2)]) rfl ⟨Nat.le_of_ble_eq_true rfl, Nat.le_of_ble_eq_true rfl⟩ (fun _ => Nat.le_of_ble_eq_true rfl) rfl ?_
        refine tv_iload C (pc := 104) dX0_writeItem_104 rfl ?_
        refine tv_if_eq C (pc := 106) 113 dX0_writeItem_106 (by decide) (fun _ => ?_) (fun hc => absurd hc (by decide))
        refine tv_iconst C (pc := 113) dX0_writeItem_113 (v := (0 : Int32)) rfl ?_
        cases h
        exact tv_iret C (pc := 114) rfl dX0_writeItem_114 ⟨Nat.le_of_ble_eq_true rfl, Nat.le_of_ble_eq_true rfl⟩
    · have h := ts_ifn h hc
      refine tv_aload C (pc := 27) dX0_writeItem_27 rfl ?_
      refine tv_iload C (pc := 29) dX0_writeItem_29 rfl ?_
      obtain ⟨q7, hq7, h⟩ := ts_bd h
      refine tv_callV C (pc := 31) dX0_writeItem_31 (ci := 1) (q := (RX1, TX1, 5)) rfl yl_X0_113 (m_X1_lastAtMost (D := D) (dT := dT) (sz := sz) (ad := ad) hl b0 hb0 p2.toNatClampNeg (ts_vin hr3) x2 u q7 hq7) (ts_live (k := 16) (by decide) hb0 (ts_vin hr3)) rfl (Nat.le_trans (Nat.le_of_ble_eq_true rfl) hdd) (As := [.inl (.int x2)]) rfl ⟨Nat.le_of_ble_eq_true rfl, Nat.le_of_ble_eq_true rfl⟩ (fun _ => Nat.le_of_ble_eq_true rfl) rfl ?_
      refine tv_aload C (pc := 34) dX0_writeItem_34 rfl ?_
      refine tv_getI C (pc := 36) dX0_writeItem_36 fl_X0_117 (ts_live (k := 16) (by decide) hb0 (ts_vin hr3)) rfl (cd := 0) rfl (by decide) ?_
      refine tv_iconst C (pc := 39) dX0_writeItem_39 (v := (1 : Int32)) rfl ?_
      refine tv_isub C (pc := 40) dX0_writeItem_40 ?_
      refine tv_icmp_eq C (pc := 41) 48 dX0_writeItem_41 (by decide) (fun hc => ?_) (fun hc => ?_)
      · have h := ts_ifp h hc
        refine tv_iconst C (pc := 48) dX0_writeItem_48 (v := (0 : Int32)) rfl ?_
        refine tv_istore C (pc := 49) dX0_writeItem_49 (L' := [some (.inr (1, b0, 0)), some (.inl (.int p1)), some (.inl (.int p2)), some (.inl (.int p3)), some (.inl (.int x2)), some (.inr (16, b0, p2.toNatClampNeg)), some (.inl (.int (0 : Int32)))]) (by decide) rfl rfl ?_
        refine tv_aload_n C (pc := 51) dX0_writeItem_51 rfl rfl ?_
        refine tv_aload C (pc := 52) dX0_writeItem_52 rfl ?_
        refine tv_iload C (pc := 54) dX0_writeItem_54 rfl ?_
        obtain ⟨q8, hq8, h⟩ := ts_bd h
        refine tv_callV C (pc := 56) dX0_writeItem_56 (ci := 0) (q := (RX0, TX0, 8)) rfl yl_X0_133 (m_X0_isReadTooLate (D := D) (dT := dT) (sz := sz) (ad := ad) hl b0 hb0 b0 hb0 p2.toNatClampNeg (ts_vin hr3) x2 u q8 hq8) (ts_live (k := 1) (by decide) hb0 (by decide)) rfl (Nat.le_trans (Nat.le_of_ble_eq_true rfl) hdd) (As := [.inr (16, b0, p2.toNatClampNeg), .inl (.int x2)]) rfl ⟨Nat.le_of_ble_eq_true rfl, Nat.le_of_ble_eq_true rfl⟩ (fun _ => Nat.le_of_ble_eq_true rfl) rfl ?_
        refine tv_if_ne C (pc := 59) 74 dX0_writeItem_59 (by decide) (fun hc => ?_) (fun hc => ?_)
        · have h := ts_ifn h hc
          refine tv_iconst C (pc := 74) dX0_writeItem_74 (v := (-1 : Int32)) rfl ?_
          cases h
          exact tv_iret C (pc := 75) rfl dX0_writeItem_75 ⟨Nat.le_of_ble_eq_true rfl, Nat.le_of_ble_eq_true rfl⟩
        · have h := ts_ifp h hc
          refine tv_iload C (pc := 62) dX0_writeItem_62 rfl ?_
          refine tv_if_eq C (pc := 64) 76 dX0_writeItem_64 (by decide) (fun _ => ?_) (fun hc => absurd hc (by decide))
          refine tv_aload C (pc := 76) dX0_writeItem_76 rfl ?_
          refine tv_iload C (pc := 78) dX0_writeItem_78 rfl ?_
          refine tv_iload_n C (pc := 80) dX0_writeItem_80 rfl rfl ?_
          refine tv_iload_n C (pc := 81) dX0_writeItem_81 rfl rfl ?_
          obtain ⟨q9, hq9, h⟩ := ts_bd h
          refine tv_callV C (pc := 82) dX0_writeItem_82 (ci := 1) (q := (RX1, TX1, 5)) rfl yl_X0_137 (m_X1_putValue (D := D) (dT := dT) (sz := sz) (ad := ad) hl b0 hb0 p2.toNatClampNeg (ts_vin hr3) x2 p1 p3 u q9 hq9) (ts_live (k := 16) (by decide) hb0 (ts_vin hr3)) rfl (Nat.le_trans (Nat.le_of_ble_eq_true rfl) hdd) (As := [.inl (.int x2), .inl (.int p1), .inl (.int p3)]) rfl ⟨Nat.le_of_ble_eq_true rfl, Nat.le_of_ble_eq_true rfl⟩ (fun _ => Nat.le_of_ble_eq_true rfl) rfl ?_
          refine tv_aload_n C (pc := 85) dX0_writeItem_85 rfl rfl ?_
          refine tv_getR C (pc := 86) dX0_writeItem_86 fl_X0_38 (ts_live (k := 1) (by decide) hb0 (by decide)) rfl rfl (i2 := (4, b0, 0)) rfl ?_
          refine tv_iload C (pc := 89) dX0_writeItem_89 rfl ?_
          refine tv_if_eq C (pc := 91) 98 dX0_writeItem_91 (by decide) (fun _ => ?_) (fun hc => absurd hc (by decide))
          refine tv_iconst C (pc := 98) dX0_writeItem_98 (v := (2 : Int32)) rfl ?_
          refine tv_iload_n C (pc := 99) dX0_writeItem_99 rfl rfl ?_
          refine tv_iload_n C (pc := 100) dX0_writeItem_100 rfl rfl ?_
          obtain ⟨q10, hq10, h⟩ := ts_bd h
          refine tv_callV C (pc := 101) dX0_writeItem_101 (ci := 2) (q := (RX2, TX2, 6)) rfl yl_X0_73 (m_X2_note (D := D) (dT := dT) (sz := sz) (ad := ad) hl b0 hb0 (2 : Int32) p1 p2 q9 q10 hq10) (ts_live (k := 4) (by decide) hb0 (by decide)) rfl (Nat.le_trans (Nat.le_of_ble_eq_true rfl) hdd) (As := [.inl (.int (2 : Int32)), .inl (.int p1), .inl (.int p2)]) rfl ⟨Nat.le_of_ble_eq_true rfl, Nat.le_of_ble_eq_true rfl⟩ (fun _ => Nat.le_of_ble_eq_true rfl) rfl ?_
          refine tv_iload C (pc := 104) dX0_writeItem_104 rfl ?_
          refine tv_if_eq C (pc := 106) 113 dX0_writeItem_106 (by decide) (fun _ => ?_) (fun hc => absurd hc (by decide))
          refine tv_iconst C (pc := 113) dX0_writeItem_113 (v := (0 : Int32)) rfl ?_
          cases h
          exact tv_iret C (pc := 114) rfl dX0_writeItem_114 ⟨Nat.le_of_ble_eq_true rfl, Nat.le_of_ble_eq_true rfl⟩
      · have h := ts_ifn h hc
        refine tv_iconst C (pc := 44) dX0_writeItem_44 (v := (1 : Int32)) rfl ?_
        refine tv_goto C (pc := 45) 49 dX0_writeItem_45 (by decide) ?_
        refine tv_istore C (pc := 49) dX0_writeItem_49 (L' := [some (.inr (1, b0, 0)), some (.inl (.int p1)), some (.inl (.int p2)), some (.inl (.int p3)), some (.inl (.int x2)), some (.inr (16, b0, p2.toNatClampNeg)), some (.inl (.int (1 : Int32)))]) (by decide) rfl rfl ?_
        refine tv_aload_n C (pc := 51) dX0_writeItem_51 rfl rfl ?_
        refine tv_aload C (pc := 52) dX0_writeItem_52 rfl ?_
        refine tv_iload C (pc := 54) dX0_writeItem_54 rfl ?_
        obtain ⟨q11, hq11, h⟩ := ts_bd h
        refine tv_callV C (pc := 56) dX0_writeItem_56 (ci := 0) (q := (RX0, TX0, 8)) rfl yl_X0_133 (m_X0_isReadTooLate (D := D) (dT := dT) (sz := sz) (ad := ad) hl b0 hb0 b0 hb0 p2.toNatClampNeg (ts_vin hr3) x2 u q11 hq11) (ts_live (k := 1) (by decide) hb0 (by decide)) rfl (Nat.le_trans (Nat.le_of_ble_eq_true rfl) hdd) (As := [.inr (16, b0, p2.toNatClampNeg), .inl (.int x2)]) rfl ⟨Nat.le_of_ble_eq_true rfl, Nat.le_of_ble_eq_true rfl⟩ (fun _ => Nat.le_of_ble_eq_true rfl) rfl ?_
        refine tv_if_ne C (pc := 59) 74 dX0_writeItem_59 (by decide) (fun hc => ?_) (fun hc => ?_)
        · have h := ts_ifn h hc
          refine tv_iconst C (pc := 74) dX0_writeItem_74 (v := (-1 : Int32)) rfl ?_
          cases h
          exact tv_iret C (pc := 75) rfl dX0_writeItem_75 ⟨Nat.le_of_ble_eq_true rfl, Nat.le_of_ble_eq_true rfl⟩
        · have h := ts_ifp h hc
          refine tv_iload C (pc := 62) dX0_writeItem_62 rfl ?_
          refine tv_if_eq C (pc := 64) 76 dX0_writeItem_64 (by decide) (fun hc => absurd hc (by decide)) (fun _ => ?_)
          refine tv_aload_n C (pc := 67) dX0_writeItem_67 rfl rfl ?_
          refine tv_getI C (pc := 68) dX0_writeItem_68 fl_X0_9 (ts_live (k := 1) (by decide) hb0 (by decide)) rfl (cd := 0) rfl (by decide) ?_
          refine tv_if_ne C (pc := 71) 76 dX0_writeItem_71 (by decide) (fun hc => ?_) (fun hc => ?_)
          · have h := ts_ifn h hc
            refine tv_aload C (pc := 76) dX0_writeItem_76 rfl ?_
            refine tv_iload C (pc := 78) dX0_writeItem_78 rfl ?_
            refine tv_iload_n C (pc := 80) dX0_writeItem_80 rfl rfl ?_
            refine tv_iload_n C (pc := 81) dX0_writeItem_81 rfl rfl ?_
            obtain ⟨q12, hq12, h⟩ := ts_bd h
            refine tv_callV C (pc := 82) dX0_writeItem_82 (ci := 1) (q := (RX1, TX1, 5)) rfl yl_X0_137 (m_X1_putValue (D := D) (dT := dT) (sz := sz) (ad := ad) hl b0 hb0 p2.toNatClampNeg (ts_vin hr3) x2 p1 p3 u q12 hq12) (ts_live (k := 16) (by decide) hb0 (ts_vin hr3)) rfl (Nat.le_trans (Nat.le_of_ble_eq_true rfl) hdd) (As := [.inl (.int x2), .inl (.int p1), .inl (.int p3)]) rfl ⟨Nat.le_of_ble_eq_true rfl, Nat.le_of_ble_eq_true rfl⟩ (fun _ => Nat.le_of_ble_eq_true rfl) rfl ?_
            refine tv_aload_n C (pc := 85) dX0_writeItem_85 rfl rfl ?_
            refine tv_getR C (pc := 86) dX0_writeItem_86 fl_X0_38 (ts_live (k := 1) (by decide) hb0 (by decide)) rfl rfl (i2 := (4, b0, 0)) rfl ?_
            refine tv_iload C (pc := 89) dX0_writeItem_89 rfl ?_
            refine tv_if_eq C (pc := 91) 98 dX0_writeItem_91 (by decide) (fun hc => absurd hc (by decide)) (fun _ => ?_)
            refine tv_iconst C (pc := 94) dX0_writeItem_94 (v := (3 : Int32)) rfl ?_
            refine tv_goto C (pc := 95) 99 dX0_writeItem_95 (by decide) ?_
            refine tv_iload_n C (pc := 99) dX0_writeItem_99 rfl rfl ?_
            refine tv_iload_n C (pc := 100) dX0_writeItem_100 rfl rfl ?_
            obtain ⟨q13, hq13, h⟩ := ts_bd h
            refine tv_callV C (pc := 101) dX0_writeItem_101 (ci := 2) (q := (RX2, TX2, 6)) rfl yl_X0_73 (m_X2_note (D := D) (dT := dT) (sz := sz) (ad := ad) hl b0 hb0 (3 : Int32) p1 p2 q12 q13 hq13) (ts_live (k := 4) (by decide) hb0 (by decide)) rfl (Nat.le_trans (Nat.le_of_ble_eq_true rfl) hdd) (As := [.inl (.int (3 : Int32)), .inl (.int p1), .inl (.int p2)]) rfl ⟨Nat.le_of_ble_eq_true rfl, Nat.le_of_ble_eq_true rfl⟩ (fun _ => Nat.le_of_ble_eq_true rfl) rfl ?_
            refine tv_iload C (pc := 104) dX0_writeItem_104 rfl ?_
            refine tv_if_eq C (pc := 106) 113 dX0_writeItem_106 (by decide) (fun hc => absurd hc (by decide)) (fun _ => ?_)
            refine tv_iconst C (pc := 109) dX0_writeItem_109 (v := (1 : Int32)) rfl ?_
            refine tv_goto C (pc := 110) 114 dX0_writeItem_110 (by decide) ?_
            cases h
            exact tv_iret C (pc := 114) rfl dX0_writeItem_114 ⟨Nat.le_of_ble_eq_true rfl, Nat.le_of_ble_eq_true rfl⟩
          · have h := ts_ifp h hc
            refine tv_iconst C (pc := 74) dX0_writeItem_74 (v := (-1 : Int32)) rfl ?_
            cases h
            exact tv_iret C (pc := 75) rfl dX0_writeItem_75 ⟨Nat.le_of_ble_eq_true rfl, Nat.le_of_ble_eq_true rfl⟩
set_option maxRecDepth 100000 in
set_option maxHeartbeats 4000000 in
theorem m_X0_perform {l : Launch} {D : va_G} {dT : Nat → ClassId} {sz : Nat} {ad : ts_I → Nat} (hl : l.stackTraces = false) (b0 : Nat) (hb0 : b0 < 2) (p1 : Int32) (p2 : Int32) (u : ts_Mem) (r : (Int32 × ts_Mem)) (h : f_X0_perform b0 p1 p2 u = some r) : ts_M l D dT sz yX0_perform wX0_perform 4 0 0 ad ts_lv ts_R0 [.inr (1, b0, 0), .inl (.int p1), .inl (.int p2)] u (.inl (some (.int r.1))) r.2 := by
    unfold f_X0_perform at h
    refine ts_enter hl (by decide) rfl rfl (Nat.le_of_ble_eq_true rfl) ?_
    intro p e s m args below meth c C hX hnm
    have C : ts_CX D dT sz p l (ts_rm 4 0 0) s m args meth c RX0 cX0_perform 10 (some .int) 4 := C
    have hdd : 4 ≤ 4 := Nat.le_refl _
    refine tv_aload_n C (pc := 0) dX0_perform_0 rfl rfl ?_
    refine tv_getR C (pc := 1) dX0_perform_1 fl_X0_23 (ts_live (k := 1) (by decide) hb0 (by decide)) rfl rfl (i2 := (2, b0, 0)) rfl ?_
    refine tv_iload_n C (pc := 4) dX0_perform_4 rfl rfl ?_
    obtain ⟨hr1, h⟩ := ts_gd h
    refine tv_aaload5 C (pc := 5) dX0_perform_5 (ts_live (k := 2) (by decide) hb0 (by decide)) rfl hr1 (j := p1.toNatClampNeg) rfl (i2 := (11, b0, p1.toNatClampNeg)) rfl ?_
    refine tv_astore_n C (pc := 6) dX0_perform_6 (L' := [some (.inr (1, b0, 0)), some (.inl (.int p1)), some (.inl (.int p2)), some (.inr (11, b0, p1.toNatClampNeg)), none, none, none, none, none, none]) rfl (by decide) rfl rfl ?_
    refine tv_aload_n C (pc := 7) dX0_perform_7 rfl rfl ?_
    refine tv_getR C (pc := 8) dX0_perform_8 fl_X0_85 (ts_live (k := 11) (by decide) hb0 (ts_vin hr1)) rfl rfl (i2 := (12, b0, p1.toNatClampNeg)) rfl ?_
    refine tv_iload_n C (pc := 11) dX0_perform_11 rfl rfl ?_
    obtain ⟨hr2, h⟩ := ts_gd h
    refine tv_iaload C (pc := 12) dX0_perform_12 (ts_live (k := 12) (by decide) hb0 (ts_vin hr1)) rfl hr2 (j := p2.toNatClampNeg) rfl ?_
    refine tv_nmI (fun x3 hx3 => ?_)
    have h := ts_lt h hx3
    refine tv_istore C (pc := 13) dX0_perform_13 (L' := [some (.inr (1, b0, 0)), some (.inl (.int p1)), some (.inl (.int p2)), some (.inr (11, b0, p1.toNatClampNeg)), some (.inl (.int x3)), none, none, none, none, none]) (by decide) rfl rfl ?_
    refine tv_aload_n C (pc := 15) dX0_perform_15 rfl rfl ?_
    refine tv_getR C (pc := 16) dX0_perform_16 fl_X0_88 (ts_live (k := 11) (by decide) hb0 (ts_vin hr1)) rfl rfl (i2 := (13, b0, p1.toNatClampNeg)) rfl ?_
    refine tv_iload_n C (pc := 19) dX0_perform_19 rfl rfl ?_
    obtain ⟨hr4, h⟩ := ts_gd h
    refine tv_iaload C (pc := 20) dX0_perform_20 (ts_live (k := 13) (by decide) hb0 (ts_vin hr1)) rfl hr4 (j := p2.toNatClampNeg) rfl ?_
    refine tv_nmI (fun x5 hx5 => ?_)
    have h := ts_lt h hx5
    refine tv_istore C (pc := 21) dX0_perform_21 (L' := [some (.inr (1, b0, 0)), some (.inl (.int p1)), some (.inl (.int p2)), some (.inr (11, b0, p1.toNatClampNeg)), some (.inl (.int x3)), some (.inl (.int x5)), none, none, none, none]) (by decide) rfl rfl ?_
    refine tv_iconst C (pc := 23) dX0_perform_23 (v := (0 : Int32)) rfl ?_
    refine tv_istore C (pc := 24) dX0_perform_24 (L' := [some (.inr (1, b0, 0)), some (.inl (.int p1)), some (.inl (.int p2)), some (.inr (11, b0, p1.toNatClampNeg)), some (.inl (.int x3)), some (.inl (.int x5)), some (.inl (.int (0 : Int32))), none, none, none]) (by decide) rfl rfl ?_
    refine tv_iconst C (pc := 26) dX0_perform_26 (v := (0 : Int32)) rfl ?_
    refine tv_istore C (pc := 27) dX0_perform_27 (L' := [some (.inr (1, b0, 0)), some (.inl (.int p1)), some (.inl (.int p2)), some (.inr (11, b0, p1.toNatClampNeg)), some (.inl (.int x3)), some (.inl (.int x5)), some (.inl (.int (0 : Int32))), some (.inl (.int (0 : Int32))), none, none]) (by decide) rfl rfl ?_
    refine tv_iload C (pc := 29) dX0_perform_29 rfl ?_
    refine tv_iconst C (pc := 31) dX0_perform_31 (v := (1 : Int32)) rfl ?_
    refine tv_icmp_eq C (pc := 32) 79 dX0_perform_32 (by decide) (fun hc => ?_) (fun hc => ?_)
    · have h := ts_ifp h hc
      refine tv_iload C (pc := 79) dX0_perform_79 rfl ?_
      refine tv_if_eq C (pc := 81) 137 dX0_perform_81 (by decide) (fun hc => ?_) (fun hc => ?_)
      · have h := ts_ifp h hc
        refine tv_aload_n C (pc := 137) dX0_perform_137 rfl rfl ?_
        refine tv_getR C (pc := 138) dX0_perform_138 fl_X0_107 (ts_live (k := 11) (by decide) hb0 (ts_vin hr1)) rfl rfl (i2 := (15, b0, p1.toNatClampNeg)) rfl ?_
        refine tv_iload_n C (pc := 141) dX0_perform_141 rfl rfl ?_
        refine tv_iload C (pc := 142) dX0_perform_142 rfl ?_
        obtain ⟨hr6, h⟩ := ts_gd h
        refine tv_iastore C (pc := 144) dX0_perform_144 (ts_live (k := 15) (by decide) hb0 (ts_vin hr1)) rfl hr6 (j := p2.toNatClampNeg) rfl ?_
        refine tv_nu (fun u7 hu7 => ?_)
        have h := ts_lt h hu7
        refine tv_iload C (pc := 145) dX0_perform_145 rfl ?_
        cases h
        exact tv_iret C (pc := 147) rfl dX0_perform_147 ⟨Nat.le_of_ble_eq_true rfl, Nat.le_of_ble_eq_true rfl⟩
      · have h := ts_ifn h hc
        refine tv_iload C (pc := 84) dX0_perform_84 rfl ?_
        refine tv_aload_n C (pc := 86) dX0_perform_86 rfl rfl ?_
        refine tv_getR C (pc := 87) dX0_perform_87 fl_X0_101 (ts_live (k := 11) (by decide) hb0 (ts_vin hr1)) rfl rfl (i2 := (14, b0, p1.toNatClampNeg)) rfl ?_
        refine tv_iload_n C (pc := 90) dX0_perform_90 rfl rfl ?_
        obtain ⟨hr8, h⟩ := ts_gd h
        refine tv_iaload C (pc := 91) dX0_perform_91 (ts_live (k := 14) (by decide) hb0 (ts_vin hr1)) rfl hr8 (j := p2.toNatClampNeg) rfl ?_
        refine tv_iadd C (pc := 92) dX0_perform_92 ?_
        refine tv_nmI (fun x9 hx9 => ?_)
        have h := ts_lt h hx9
        refine tv_istore C (pc := 93) dX0_perform_93 (L' := [some (.inr (1, b0, 0)), some (.inl (.int p1)), some (.inl (.int p2)), some (.inr (11, b0, p1.toNatClampNeg)), some (.inl (.int x3)), some (.inl (.int x5)), some (.inl (.int (0 : Int32))), some (.inl (.int (0 : Int32))), some (.inl (.int x9)), none]) (by decide) rfl rfl ?_
        refine tv_aload_n C (pc := 95) dX0_perform_95 rfl rfl ?_
        refine tv_iload_n C (pc := 96) dX0_perform_96 rfl rfl ?_
        refine tv_iload C (pc := 97) dX0_perform_97 rfl ?_
        refine tv_iload C (pc := 99) dX0_perform_99 rfl ?_
        obtain ⟨q10, hq10, h⟩ := ts_bd h
        refine tv_callV C (pc := 101) dX0_perform_101 (ci := 0) (q := (RX0, TX0, 8)) rfl yl_X0_104 (m_X0_writeItem (D := D) (dT := dT) (sz := sz) (ad := ad) hl b0 hb0 p1 x5 x9 u q10 hq10) (ts_live (k := 1) (by decide) hb0 (by decide)) rfl (Nat.le_trans (Nat.le_of_ble_eq_true rfl) hdd) (As := [.inl (.int p1), .inl (.int x5), .inl (.int x9)]) rfl ⟨Nat.le_of_ble_eq_true rfl, Nat.le_of_ble_eq_true rfl⟩ (fun _ => Nat.le_of_ble_eq_true rfl) rfl ?_
        refine tv_istore C (pc := 104) dX0_perform_104 (L' := [some (.inr (1, b0, 0)), some (.inl (.int p1)), some (.inl (.int p2)), some (.inr (11, b0, p1.toNatClampNeg)), some (.inl (.int x3)), some (.inl (.int x5)), some (.inl (.int (0 : Int32))), some (.inl (.int (0 : Int32))), some (.inl (.int x9)), some (.inl (.int q10.1))]) (by decide) rfl rfl ?_
        refine tv_iload C (pc := 106) dX0_perform_106 rfl ?_
        refine tv_if_ge C (pc := 108) 122 dX0_perform_108 (by decide) (fun hc => ?_) (fun hc => ?_)
        · have h := ts_ifp h hc
          refine tv_iload C (pc := 122) dX0_perform_122 rfl ?_
          refine tv_iconst C (pc := 124) dX0_perform_124 (v := (1 : Int32)) rfl ?_
          refine tv_icmp_ne C (pc := 125) 133 dX0_perform_125 (by decide) (fun hc => ?_) (fun hc => ?_)
          · have h := ts_ifn h hc
            refine tv_iload C (pc := 133) dX0_perform_133 rfl ?_
            refine tv_istore C (pc := 135) dX0_perform_135 (L' := [some (.inr (1, b0, 0)), some (.inl (.int p1)), some (.inl (.int p2)), some (.inr (11, b0, p1.toNatClampNeg)), some (.inl (.int x3)), some (.inl (.int x5)), some (.inl (.int (0 : Int32))), some (.inl (.int x9)), some (.inl (.int x9)), some (.inl (.int q10.1))]) (by decide) rfl rfl ?_
            refine tv_aload_n C (pc := 137) dX0_perform_137 rfl rfl ?_
            refine tv_getR C (pc := 138) dX0_perform_138 fl_X0_107 (ts_live (k := 11) (by decide) hb0 (ts_vin hr1)) rfl rfl (i2 := (15, b0, p1.toNatClampNeg)) rfl ?_
            refine tv_iload_n C (pc := 141) dX0_perform_141 rfl rfl ?_
            refine tv_iload C (pc := 142) dX0_perform_142 rfl ?_
            obtain ⟨hr11, h⟩ := ts_gd h
            refine tv_iastore C (pc := 144) dX0_perform_144 (ts_live (k := 15) (by decide) hb0 (ts_vin hr1)) rfl hr11 (j := p2.toNatClampNeg) rfl ?_
            refine tv_nu (fun u12 hu12 => ?_)
            have h := ts_lt h hu12
            refine tv_iload C (pc := 145) dX0_perform_145 rfl ?_
            cases h
            exact tv_iret C (pc := 147) rfl dX0_perform_147 ⟨Nat.le_of_ble_eq_true rfl, Nat.le_of_ble_eq_true rfl⟩
          · have h := ts_ifp h hc
            refine tv_iload C (pc := 128) dX0_perform_128 rfl ?_
            refine tv_goto C (pc := 130) 135 dX0_perform_130 (by decide) ?_
            refine tv_istore C (pc := 135) dX0_perform_135 (L' := [some (.inr (1, b0, 0)), some (.inl (.int p1)), some (.inl (.int p2)), some (.inr (11, b0, p1.toNatClampNeg)), some (.inl (.int x3)), some (.inl (.int x5)), some (.inl (.int (0 : Int32))), some (.inl (.int q10.1)), some (.inl (.int x9)), some (.inl (.int q10.1))]) (by decide) rfl rfl ?_
            refine tv_aload_n C (pc := 137) dX0_perform_137 rfl rfl ?_
            refine tv_getR C (pc := 138) dX0_perform_138 fl_X0_107 (ts_live (k := 11) (by decide) hb0 (ts_vin hr1)) rfl rfl (i2 := (15, b0, p1.toNatClampNeg)) rfl ?_
            refine tv_iload_n C (pc := 141) dX0_perform_141 rfl rfl ?_
            refine tv_iload C (pc := 142) dX0_perform_142 rfl ?_
            obtain ⟨hr13, h⟩ := ts_gd h
            refine tv_iastore C (pc := 144) dX0_perform_144 (ts_live (k := 15) (by decide) hb0 (ts_vin hr1)) rfl hr13 (j := p2.toNatClampNeg) rfl ?_
            refine tv_nu (fun u14 hu14 => ?_)
            have h := ts_lt h hu14
            refine tv_iload C (pc := 145) dX0_perform_145 rfl ?_
            cases h
            exact tv_iret C (pc := 147) rfl dX0_perform_147 ⟨Nat.le_of_ble_eq_true rfl, Nat.le_of_ble_eq_true rfl⟩
        · have h := ts_ifn h hc
          refine tv_aload_n C (pc := 111) dX0_perform_111 rfl rfl ?_
          refine tv_iload_n C (pc := 112) dX0_perform_112 rfl rfl ?_
          refine tv_iload C (pc := 113) dX0_perform_113 rfl ?_
          obtain ⟨q15, hq15, h⟩ := ts_bd h
          refine tv_callV C (pc := 115) dX0_perform_115 (ci := 0) (q := (RX0, TX0, 8)) rfl yl_X0_94 (m_X0_abortWithDependents (D := D) (dT := dT) (sz := sz) (ad := ad) hl b0 hb0 p1 x5 q10.2 q15 hq15) (ts_live (k := 1) (by decide) hb0 (by decide)) rfl (Nat.le_trans (Nat.le_of_ble_eq_true rfl) hdd) (As := [.inl (.int p1), .inl (.int x5)]) rfl ⟨Nat.le_of_ble_eq_true rfl, Nat.le_of_ble_eq_true rfl⟩ (fun _ => Nat.le_of_ble_eq_true rfl) rfl ?_
          refine tv_pop C (pc := 118) dX0_perform_118 (fun _ => rfl) ?_
          refine tv_ldc C (pc := 119) dX0_perform_119 kc_X0_97 ?_
          cases h
          exact tv_iret C (pc := 121) rfl dX0_perform_121 ⟨Nat.le_of_ble_eq_true rfl, Nat.le_of_ble_eq_true rfl⟩
    · have h := ts_ifn h hc
      refine tv_aload_n C (pc := 35) dX0_perform_35 rfl rfl ?_
      refine tv_iload_n C (pc := 36) dX0_perform_36 rfl rfl ?_
      refine tv_iload C (pc := 37) dX0_perform_37 rfl ?_
      obtain ⟨q16, hq16, h⟩ := ts_bd h
      refine tv_callV C (pc := 39) dX0_perform_39 (ci := 0) (q := (RX0, TX0, 8)) rfl yl_X0_91 (m_X0_readItem (D := D) (dT := dT) (sz := sz) (ad := ad) hl b0 hb0 p1 x5 u q16 hq16) (ts_live (k := 1) (by decide) hb0 (by decide)) rfl (Nat.le_trans (Nat.le_of_ble_eq_true rfl) hdd) (As := [.inl (.int p1), .inl (.int x5)]) rfl ⟨Nat.le_of_ble_eq_true rfl, Nat.le_of_ble_eq_true rfl⟩ (fun _ => Nat.le_of_ble_eq_true rfl) rfl ?_
      refine tv_istore C (pc := 42) dX0_perform_42 (L' := [some (.inr (1, b0, 0)), some (.inl (.int p1)), some (.inl (.int p2)), some (.inr (11, b0, p1.toNatClampNeg)), some (.inl (.int x3)), some (.inl (.int x5)), some (.inl (.int (0 : Int32))), some (.inl (.int (0 : Int32))), some (.inl (.int q16.1)), none]) (by decide) rfl rfl ?_
      refine tv_iload C (pc := 44) dX0_perform_44 rfl ?_
      refine tv_if_ge C (pc := 46) 60 dX0_perform_46 (by decide) (fun hc => ?_) (fun hc => ?_)
      · have h := ts_ifp h hc
        refine tv_aload_n C (pc := 60) dX0_perform_60 rfl rfl ?_
        refine tv_getR C (pc := 61) dX0_perform_61 fl_X0_30 (ts_live (k := 1) (by decide) hb0 (by decide)) rfl rfl (i2 := (3, b0, 0)) rfl ?_
        refine tv_iload C (pc := 64) dX0_perform_64 rfl ?_
        obtain ⟨hr17, h⟩ := ts_gd h
        refine tv_aaload6 C (pc := 66) dX0_perform_66 (ts_live (k := 3) (by decide) hb0 (by decide)) rfl hr17 (j := x5.toNatClampNeg) rfl (i2 := (16, b0, x5.toNatClampNeg)) rfl ?_
        refine tv_getR C (pc := 67) dX0_perform_67 fl_X0_98 (ts_live (k := 16) (by decide) hb0 (ts_vin hr17)) rfl rfl (i2 := (19, b0, x5.toNatClampNeg)) rfl ?_
        refine tv_iload C (pc := 70) dX0_perform_70 rfl ?_
        obtain ⟨hr18, h⟩ := ts_gd h
        refine tv_iaload C (pc := 72) dX0_perform_72 (ts_live (k := 19) (by decide) hb0 (ts_vin hr17)) rfl hr18 (j := q16.1.toNatClampNeg) rfl ?_
        refine tv_nmI (fun x19 hx19 => ?_)
        have h := ts_lt h hx19
        refine tv_istore C (pc := 73) dX0_perform_73 (L' := [some (.inr (1, b0, 0)), some (.inl (.int p1)), some (.inl (.int p2)), some (.inr (11, b0, p1.toNatClampNeg)), some (.inl (.int x3)), some (.inl (.int x5)), some (.inl (.int x19)), some (.inl (.int (0 : Int32))), some (.inl (.int q16.1)), none]) (by decide) rfl rfl ?_
        refine tv_iload C (pc := 75) dX0_perform_75 rfl ?_
        refine tv_istore C (pc := 77) dX0_perform_77 (L' := [some (.inr (1, b0, 0)), some (.inl (.int p1)), some (.inl (.int p2)), some (.inr (11, b0, p1.toNatClampNeg)), some (.inl (.int x3)), some (.inl (.int x5)), some (.inl (.int x19)), some (.inl (.int x19)), some (.inl (.int q16.1)), none]) (by decide) rfl rfl ?_
        refine tv_iload C (pc := 79) dX0_perform_79 rfl ?_
        refine tv_if_eq C (pc := 81) 137 dX0_perform_81 (by decide) (fun hc => ?_) (fun hc => ?_)
        · have h := ts_ifp h hc
          refine tv_aload_n C (pc := 137) dX0_perform_137 rfl rfl ?_
          refine tv_getR C (pc := 138) dX0_perform_138 fl_X0_107 (ts_live (k := 11) (by decide) hb0 (ts_vin hr1)) rfl rfl (i2 := (15, b0, p1.toNatClampNeg)) rfl ?_
          refine tv_iload_n C (pc := 141) dX0_perform_141 rfl rfl ?_
          refine tv_iload C (pc := 142) dX0_perform_142 rfl ?_
          obtain ⟨hr20, h⟩ := ts_gd h
          refine tv_iastore C (pc := 144) dX0_perform_144 (ts_live (k := 15) (by decide) hb0 (ts_vin hr1)) rfl hr20 (j := p2.toNatClampNeg) rfl ?_
          refine tv_nu (fun u21 hu21 => ?_)
          have h := ts_lt h hu21
          refine tv_iload C (pc := 145) dX0_perform_145 rfl ?_
          cases h
          exact tv_iret C (pc := 147) rfl dX0_perform_147 ⟨Nat.le_of_ble_eq_true rfl, Nat.le_of_ble_eq_true rfl⟩
        · have h := ts_ifn h hc
          refine tv_iload C (pc := 84) dX0_perform_84 rfl ?_
          refine tv_aload_n C (pc := 86) dX0_perform_86 rfl rfl ?_
          refine tv_getR C (pc := 87) dX0_perform_87 fl_X0_101 (ts_live (k := 11) (by decide) hb0 (ts_vin hr1)) rfl rfl (i2 := (14, b0, p1.toNatClampNeg)) rfl ?_
          refine tv_iload_n C (pc := 90) dX0_perform_90 rfl rfl ?_
          obtain ⟨hr22, h⟩ := ts_gd h
          refine tv_iaload C (pc := 91) dX0_perform_91 (ts_live (k := 14) (by decide) hb0 (ts_vin hr1)) rfl hr22 (j := p2.toNatClampNeg) rfl ?_
          refine tv_iadd C (pc := 92) dX0_perform_92 ?_
          refine tv_nmI (fun x23 hx23 => ?_)
          have h := ts_lt h hx23
          refine tv_istore C (pc := 93) dX0_perform_93 (L' := [some (.inr (1, b0, 0)), some (.inl (.int p1)), some (.inl (.int p2)), some (.inr (11, b0, p1.toNatClampNeg)), some (.inl (.int x3)), some (.inl (.int x5)), some (.inl (.int x19)), some (.inl (.int x19)), some (.inl (.int x23)), none]) (by decide) rfl rfl ?_
          refine tv_aload_n C (pc := 95) dX0_perform_95 rfl rfl ?_
          refine tv_iload_n C (pc := 96) dX0_perform_96 rfl rfl ?_
          refine tv_iload C (pc := 97) dX0_perform_97 rfl ?_
          refine tv_iload C (pc := 99) dX0_perform_99 rfl ?_
          obtain ⟨q24, hq24, h⟩ := ts_bd h
          refine tv_callV C (pc := 101) dX0_perform_101 (ci := 0) (q := (RX0, TX0, 8)) rfl yl_X0_104 (m_X0_writeItem (D := D) (dT := dT) (sz := sz) (ad := ad) hl b0 hb0 p1 x5 x23 q16.2 q24 hq24) (ts_live (k := 1) (by decide) hb0 (by decide)) rfl (Nat.le_trans (Nat.le_of_ble_eq_true rfl) hdd) (As := [.inl (.int p1), .inl (.int x5), .inl (.int x23)]) rfl ⟨Nat.le_of_ble_eq_true rfl, Nat.le_of_ble_eq_true rfl⟩ (fun _ => Nat.le_of_ble_eq_true rfl) rfl ?_
          refine tv_istore C (pc := 104) dX0_perform_104 (L' := [some (.inr (1, b0, 0)), some (.inl (.int p1)), some (.inl (.int p2)), some (.inr (11, b0, p1.toNatClampNeg)), some (.inl (.int x3)), some (.inl (.int x5)), some (.inl (.int x19)), some (.inl (.int x19)), some (.inl (.int x23)), some (.inl (.int q24.1))]) (by decide) rfl rfl ?_
          refine tv_iload C (pc := 106) dX0_perform_106 rfl ?_
          refine tv_if_ge C (pc := 108) 122 dX0_perform_108 (by decide) (fun hc => ?_) (fun hc => ?_)
          · have h := ts_ifp h hc
            refine tv_iload C (pc := 122) dX0_perform_122 rfl ?_
            refine tv_iconst C (pc := 124) dX0_perform_124 (v := (1 : Int32)) rfl ?_
            refine tv_icmp_ne C (pc := 125) 133 dX0_perform_125 (by decide) (fun hc => ?_) (fun hc => ?_)
            · have h := ts_ifn h hc
              refine tv_iload C (pc := 133) dX0_perform_133 rfl ?_
              refine tv_istore C (pc := 135) dX0_perform_135 (L' := [some (.inr (1, b0, 0)), some (.inl (.int p1)), some (.inl (.int p2)), some (.inr (11, b0, p1.toNatClampNeg)), some (.inl (.int x3)), some (.inl (.int x5)), some (.inl (.int x19)), some (.inl (.int x23)), some (.inl (.int x23)), some (.inl (.int q24.1))]) (by decide) rfl rfl ?_
              refine tv_aload_n C (pc := 137) dX0_perform_137 rfl rfl ?_
              refine tv_getR C (pc := 138) dX0_perform_138 fl_X0_107 (ts_live (k := 11) (by decide) hb0 (ts_vin hr1)) rfl rfl (i2 := (15, b0, p1.toNatClampNeg)) rfl ?_
              refine tv_iload_n C (pc := 141) dX0_perform_141 rfl rfl ?_
              refine tv_iload C (pc := 142) dX0_perform_142 rfl ?_
              obtain ⟨hr25, h⟩ := ts_gd h
              refine tv_iastore C (pc := 144) dX0_perform_144 (ts_live (k := 15) (by decide) hb0 (ts_vin hr1)) rfl hr25 (j := p2.toNatClampNeg) rfl ?_
              refine tv_nu (fun u26 hu26 => ?_)
              have h := ts_lt h hu26
              refine tv_iload C (pc := 145) dX0_perform_145 rfl ?_
              cases h
              exact tv_iret C (pc := 147) rfl dX0_perform_147 ⟨Nat.le_of_ble_eq_true rfl, Nat.le_of_ble_eq_true rfl⟩
            · have h := ts_ifp h hc
              refine tv_iload C (pc := 128) dX0_perform_128 rfl ?_
              refine tv_goto C (pc := 130) 135 dX0_perform_130 (by decide) ?_
              refine tv_istore C (pc := 135) dX0_perform_135 (L' := [some (.inr (1, b0, 0)), some (.inl (.int p1)), some (.inl (.int p2)), some (.inr (11, b0, p1.toNatClampNeg)), some (.inl (.int x3)), some (.inl (.int x5)), some (.inl (.int x19)), some (.inl (.int q24.1)), some (.inl (.int x23)), some (.inl (.int q24.1))]) (by decide) rfl rfl ?_
              refine tv_aload_n C (pc := 137) dX0_perform_137 rfl rfl ?_
              refine tv_getR C (pc := 138) dX0_perform_138 fl_X0_107 (ts_live (k := 11) (by decide) hb0 (ts_vin hr1)) rfl rfl (i2 := (15, b0, p1.toNatClampNeg)) rfl ?_
              refine tv_iload_n C (pc := 141) dX0_perform_141 rfl rfl ?_
              refine tv_iload C (pc := 142) dX0_perform_142 rfl ?_
              obtain ⟨hr27, h⟩ := ts_gd h
              refine tv_iastore C (pc := 144) dX0_perform_144 (ts_live (k := 15) (by decide) hb0 (ts_vin hr1)) rfl hr27 (j := p2.toNatClampNeg) rfl ?_
              refine tv_nu (fun u28 hu28 => ?_)
              have h := ts_lt h hu28
              refine tv_iload C (pc := 145) dX0_perform_145 rfl ?_
              cases h
              exact tv_iret C (pc := 147) rfl dX0_perform_147 ⟨Nat.le_of_ble_eq_true rfl, Nat.le_of_ble_eq_true rfl⟩
          · have h := ts_ifn h hc
            refine tv_aload_n C (pc := 111) dX0_perform_111 rfl rfl ?_
            refine tv_iload_n C (pc := 112) dX0_perform_112 rfl rfl ?_
            refine tv_iload C (pc := 113) dX0_perform_113 rfl ?_
            obtain ⟨q29, hq29, h⟩ := ts_bd h
            refine tv_callV C (pc := 115) dX0_perform_115 (ci := 0) (q := (RX0, TX0, 8)) rfl yl_X0_94 (m_X0_abortWithDependents (D := D) (dT := dT) (sz := sz) (ad := ad) hl b0 hb0 p1 x5 q24.2 q29 hq29) (ts_live (k := 1) (by decide) hb0 (by decide)) rfl (Nat.le_trans (Nat.le_of_ble_eq_true rfl) hdd) (As := [.inl (.int p1), .inl (.int x5)]) rfl ⟨Nat.le_of_ble_eq_true rfl, Nat.le_of_ble_eq_true rfl⟩ (fun _ => Nat.le_of_ble_eq_true rfl) rfl ?_
            refine tv_pop C (pc := 118) dX0_perform_118 (fun _ => rfl) ?_
            refine tv_ldc C (pc := 119) dX0_perform_119 kc_X0_97 ?_
            cases h
            exact tv_iret C (pc := 121) rfl dX0_perform_121 ⟨Nat.le_of_ble_eq_true rfl, Nat.le_of_ble_eq_true rfl⟩
      · have h := ts_ifn h hc
        refine tv_aload_n C (pc := 49) dX0_perform_49 rfl rfl ?_
        refine tv_iload_n C (pc := 50) dX0_perform_50 rfl rfl ?_
        refine tv_iload C (pc := 51) dX0_perform_51 rfl ?_
        obtain ⟨q30, hq30, h⟩ := ts_bd h
        refine tv_callV C (pc := 53) dX0_perform_53 (ci := 0) (q := (RX0, TX0, 8)) rfl yl_X0_94 (m_X0_abortWithDependents (D := D) (dT := dT) (sz := sz) (ad := ad) hl b0 hb0 p1 x5 q16.2 q30 hq30) (ts_live (k := 1) (by decide) hb0 (by decide)) rfl (Nat.le_trans (Nat.le_of_ble_eq_true rfl) hdd) (As := [.inl (.int p1), .inl (.int x5)]) rfl ⟨Nat.le_of_ble_eq_true rfl, Nat.le_of_ble_eq_true rfl⟩ (fun _ => Nat.le_of_ble_eq_true rfl) rfl ?_
        refine tv_pop C (pc := 56) dX0_perform_56 (fun _ => rfl) ?_
        refine tv_ldc C (pc := 57) dX0_perform_57 kc_X0_97 ?_
        cases h
        exact tv_iret C (pc := 59) rfl dX0_perform_59 ⟨Nat.le_of_ble_eq_true rfl, Nat.le_of_ble_eq_true rfl⟩
set_option maxRecDepth 100000 in
set_option maxHeartbeats 4000000 in
theorem m_X0_ask {l : Launch} {D : va_G} {dT : Nat → ClassId} {sz : Nat} {ad : ts_I → Nat} (hl : l.stackTraces = false) (b0 : Nat) (hb0 : b0 < 2) (p1 : Int32) (p2 : Int32) (p3 : Int32) (p4 : Int32) (u : ts_Mem) (r : (Int32 × ts_Mem)) (h : f_X0_ask b0 p1 p2 p3 p4 u = some r) : ts_M l D dT sz yX0_ask wX0_ask 5 0 0 ad ts_lv ts_R0 [.inr (1, b0, 0), .inl (.int p1), .inl (.int p2), .inl (.int p3), .inl (.int p4)] u (.inl (some (.int r.1))) r.2 := by
    unfold f_X0_ask at h
    refine ts_enter hl (by decide) rfl rfl (Nat.le_of_ble_eq_true rfl) ?_
    intro p e s m args below meth c C hX hnm
    have C : ts_CX D dT sz p l (ts_rm 5 0 0) s m args meth c RX0 cX0_ask 6 (some .int) 5 := C
    have hdd : 5 ≤ 5 := Nat.le_refl _
    refine tv_aload_n C (pc := 0) dX0_ask_0 rfl rfl ?_
    refine tv_getR C (pc := 1) dX0_ask_1 fl_X0_23 (ts_live (k := 1) (by decide) hb0 (by decide)) rfl rfl (i2 := (2, b0, 0)) rfl ?_
    refine tv_iload_n C (pc := 4) dX0_ask_4 rfl rfl ?_
    obtain ⟨hr1, h⟩ := ts_gd h
    refine tv_aaload5 C (pc := 5) dX0_ask_5 (ts_live (k := 2) (by decide) hb0 (by decide)) rfl hr1 (j := p1.toNatClampNeg) rfl (i2 := (11, b0, p1.toNatClampNeg)) rfl ?_
    refine tv_iload_n C (pc := 6) dX0_ask_6 rfl rfl ?_
    refine tv_iload_n C (pc := 7) dX0_ask_7 rfl rfl ?_
    refine tv_iload C (pc := 8) dX0_ask_8 rfl ?_
    obtain ⟨q2, hq2, h⟩ := ts_bd h
    refine tv_callV C (pc := 10) dX0_ask_10 (ci := 5) (q := (RX5, TX5, 10)) rfl yl_X0_77 (m_X5_appendOperation (D := D) (dT := dT) (sz := sz) (ad := ad) hl b0 hb0 p1.toNatClampNeg (ts_vin hr1) p2 p3 p4 u q2 hq2) (ts_live (k := 11) (by decide) hb0 (ts_vin hr1)) rfl (Nat.le_trans (Nat.le_of_ble_eq_true rfl) hdd) (As := [.inl (.int p2), .inl (.int p3), .inl (.int p4)]) rfl ⟨Nat.le_of_ble_eq_true rfl, Nat.le_of_ble_eq_true rfl⟩ (fun _ => Nat.le_of_ble_eq_true rfl) rfl ?_
    refine tv_istore C (pc := 13) dX0_ask_13 (L' := [some (.inr (1, b0, 0)), some (.inl (.int p1)), some (.inl (.int p2)), some (.inl (.int p3)), some (.inl (.int p4)), some (.inl (.int q2.1))]) (by decide) rfl rfl ?_
    refine tv_aload_n C (pc := 15) dX0_ask_15 rfl rfl ?_
    refine tv_iload_n C (pc := 16) dX0_ask_16 rfl rfl ?_
    refine tv_iload C (pc := 17) dX0_ask_17 rfl ?_
    obtain ⟨q3, hq3, h⟩ := ts_bd h
    refine tv_callV C (pc := 19) dX0_ask_19 (ci := 0) (q := (RX0, TX0, 8)) rfl yl_X0_81 (m_X0_perform (D := D) (dT := dT) (sz := sz) (ad := ad) hl b0 hb0 p1 q2.1 q2.2 q3 hq3) (ts_live (k := 1) (by decide) hb0 (by decide)) rfl (Nat.le_trans (Nat.le_of_ble_eq_true rfl) hdd) (As := [.inl (.int p1), .inl (.int q2.1)]) rfl ⟨Nat.le_of_ble_eq_true rfl, Nat.le_of_ble_eq_true rfl⟩ (fun _ => Nat.le_of_ble_eq_true rfl) rfl ?_
    cases h
    exact tv_iret C (pc := 22) rfl dX0_ask_22 ⟨Nat.le_of_ble_eq_true rfl, Nat.le_of_ble_eq_true rfl⟩
set_option maxRecDepth 100000 in
set_option maxHeartbeats 4000000 in
theorem lt_X0_finishCommit_12 {D : va_G} {dT : Nat → ClassId} {sz : Nat} {p : Program} {l : Launch} {e : Env} {R : Room} {s : State} {m : MethodId} {args : Array Value} {below : List Frame} {meth : Method} {c : Code} {d : Nat} {ad : ts_I → Nat} {kk nn : Nat} {Q : State → Prop} (hl : l.stackTraces = false) (C : ts_CX D dT sz p l R s m args meth c RX0 cX0_finishCommit 3 none d) (hdd : 1 ≤ d) (b0 : Nat) (hb0 : b0 < 2) (c1 : Int32) (hkn : kk ≤ R.cells ∧ nn ≤ R.slots) : ∀ (n : Nat) (v2 : Int32) (u : ts_Mem) (q : (Int32 × ts_Mem)) (h : lp_X0_finishCommit_12 b0 c1 n v2 u = some q) (K : ts_V D dT sz p l e R s m args below meth c 3 Q ad ts_lv ts_R0 45 [some (.inr (1, b0, 0)), some (.inl (.int c1)), some (.inl (.int q.1))] [] q.2 kk nn), ts_V D dT sz p l e R s m args below meth c 3 Q ad ts_lv ts_R0 12 [some (.inr (1, b0, 0)), some (.inl (.int c1)), some (.inl (.int v2))] [] u kk nn
  | 0, _, _, _, h, _ => by cases h
  | n + 1, v2, u, q, h, K => by
      rw [lp_X0_finishCommit_12] at h
      refine tv_iload_n C (pc := 12) dX0_finishCommit_12 rfl rfl ?_
      refine tv_aload_n C (pc := 13) dX0_finishCommit_13 rfl rfl ?_
      refine tv_getI C (pc := 14) dX0_finishCommit_14 fl_X0_18 (ts_live (k := 1) (by decide) hb0 (by decide)) rfl (cd := 0) rfl (by decide) ?_
      refine tv_icmp_ge C (pc := 17) 45 dX0_finishCommit_17 (by decide) (fun hc => ?_) (fun hc => ?_)
      · have h := ts_ifp h hc
        cases h
        exact K
      · have h := ts_ifn h hc
        refine tv_aload_n C (pc := 20) dX0_finishCommit_20 rfl rfl ?_
        refine tv_getR C (pc := 21) dX0_finishCommit_21 fl_X0_23 (ts_live (k := 1) (by decide) hb0 (by decide)) rfl rfl (i2 := (2, b0, 0)) rfl ?_
        refine tv_iload_n C (pc := 24) dX0_finishCommit_24 rfl rfl ?_
        obtain ⟨hr3, h⟩ := ts_gd h
        refine tv_aaload5 C (pc := 25) dX0_finishCommit_25 (ts_live (k := 2) (by decide) hb0 (by decide)) rfl hr3 (j := v2.toNatClampNeg) rfl (i2 := (11, b0, v2.toNatClampNeg)) rfl ?_
        refine tv_dup C (pc := 26) dX0_finishCommit_26 (fun _ => rfl) ?_
        refine tv_getI C (pc := 27) dX0_finishCommit_27 fl_X0_130 (ts_live (k := 11) (by decide) hb0 (ts_vin hr3)) rfl (cd := 0) rfl (by decide) ?_
        refine tv_iconst C (pc := 30) dX0_finishCommit_30 (v := (1 : Int32)) rfl ?_
        refine tv_iload_n C (pc := 31) dX0_finishCommit_31 rfl rfl ?_
        refine tv_ishl C (pc := 32) dX0_finishCommit_32 ?_
        refine tv_iconst C (pc := 33) dX0_finishCommit_33 (v := (-1 : Int32)) rfl ?_
        refine tv_ixor C (pc := 34) dX0_finishCommit_34 ?_
        refine tv_iand C (pc := 35) dX0_finishCommit_35 ?_
        refine tv_putI C (pc := 36) dX0_finishCommit_36 fp_X0_130 (ts_live (k := 11) (by decide) hb0 (ts_vin hr3)) rfl (cd := 0) rfl (by decide) rfl rfl ?_
        refine tv_nu (fun u4 hu4 => ?_)
        have h := ts_lt h hu4
        refine tv_iinc C (pc := 39) dX0_finishCommit_39 (v := (v2 + (1 : Int32))) (L' := [some (.inr (1, b0, 0)), some (.inl (.int c1)), some (.inl (.int (v2 + (1 : Int32))))]) rfl rfl (by decide) rfl rfl ?_
        refine tv_goto C (pc := 42) 12 dX0_finishCommit_42 (by decide) ?_
        exact lt_X0_finishCommit_12 hl C hdd b0 hb0 c1 hkn n (v2 + (1 : Int32)) u4 q h K
set_option maxRecDepth 100000 in
set_option maxHeartbeats 4000000 in
theorem m_X0_finishCommit {l : Launch} {D : va_G} {dT : Nat → ClassId} {sz : Nat} {ad : ts_I → Nat} (hl : l.stackTraces = false) (b0 : Nat) (hb0 : b0 < 2) (p1 : Int32) (u : ts_Mem) (r : ts_Mem) (h : f_X0_finishCommit b0 p1 u = some r) : ts_M l D dT sz yX0_finishCommit wX0_finishCommit 1 0 0 ad ts_lv ts_R0 [.inr (1, b0, 0), .inl (.int p1)] u (.inl none) r := by
    unfold f_X0_finishCommit at h
    refine ts_enter hl (by decide) rfl rfl (Nat.le_of_ble_eq_true rfl) ?_
    intro p e s m args below meth c C hX hnm
    have C : ts_CX D dT sz p l (ts_rm 1 0 0) s m args meth c RX0 cX0_finishCommit 3 none 1 := C
    have hdd : 1 ≤ 1 := Nat.le_refl _
    refine tv_aload_n C (pc := 0) dX0_finishCommit_0 rfl rfl ?_
    refine tv_getR C (pc := 1) dX0_finishCommit_1 fl_X0_23 (ts_live (k := 1) (by decide) hb0 (by decide)) rfl rfl (i2 := (2, b0, 0)) rfl ?_
    refine tv_iload_n C (pc := 4) dX0_finishCommit_4 rfl rfl ?_
    obtain ⟨hr1, h⟩ := ts_gd h
    refine tv_aaload5 C (pc := 5) dX0_finishCommit_5 (ts_live (k := 2) (by decide) hb0 (by decide)) rfl hr1 (j := p1.toNatClampNeg) rfl (i2 := (11, b0, p1.toNatClampNeg)) rfl ?_
    refine tv_iconst C (pc := 6) dX0_finishCommit_6 (v := (2 : Int32)) rfl ?_
    refine tv_putI C (pc := 7) dX0_finishCommit_7 fp_X0_151 (ts_live (k := 11) (by decide) hb0 (ts_vin hr1)) rfl (cd := 0) rfl (by decide) rfl rfl ?_
    refine tv_nu (fun u2 hu2 => ?_)
    have h := ts_lt h hu2
    refine tv_iconst C (pc := 10) dX0_finishCommit_10 (v := (0 : Int32)) rfl ?_
    refine tv_istore_n C (pc := 11) dX0_finishCommit_11 (L' := [some (.inr (1, b0, 0)), some (.inl (.int p1)), some (.inl (.int (0 : Int32)))]) rfl (by decide) rfl rfl ?_
    obtain ⟨q5, hq5, h⟩ := ts_bd h
    refine lt_X0_finishCommit_12 hl C hdd b0 hb0 p1 ⟨Nat.le_of_ble_eq_true rfl, Nat.le_of_ble_eq_true rfl⟩ ts_fu (0 : Int32) u2 q5 hq5 ?_
    refine tv_aload_n C (pc := 45) dX0_finishCommit_45 rfl rfl ?_
    refine tv_getR C (pc := 46) dX0_finishCommit_46 fl_X0_38 (ts_live (k := 1) (by decide) hb0 (by decide)) rfl rfl (i2 := (4, b0, 0)) rfl ?_
    refine tv_iconst C (pc := 49) dX0_finishCommit_49 (v := (5 : Int32)) rfl ?_
    refine tv_iload_n C (pc := 50) dX0_finishCommit_50 rfl rfl ?_
    refine tv_iconst C (pc := 51) dX0_finishCommit_51 (v := (-1 : Int32)) rfl ?_
    obtain ⟨q6, hq6, h⟩ := ts_bd h
    refine tv_callV C (pc := 52) dX0_finishCommit_52 (ci := 2) (q := (RX2, TX2, 6)) rfl yl_X0_73 (m_X2_note (D := D) (dT := dT) (sz := sz) (ad := ad) hl b0 hb0 (5 : Int32) p1 (-1 : Int32) q5.2 q6 hq6) (ts_live (k := 4) (by decide) hb0 (by decide)) rfl (Nat.le_trans (Nat.le_of_ble_eq_true rfl) hdd) (As := [.inl (.int (5 : Int32)), .inl (.int p1), .inl (.int (-1 : Int32))]) rfl ⟨Nat.le_of_ble_eq_true rfl, Nat.le_of_ble_eq_true rfl⟩ (fun _ => Nat.le_of_ble_eq_true rfl) rfl ?_
    cases h
    exact tv_vret C (pc := 55) rfl dX0_finishCommit_55 ⟨Nat.le_of_ble_eq_true rfl, Nat.le_of_ble_eq_true rfl⟩
set_option maxRecDepth 100000 in
set_option maxHeartbeats 4000000 in
theorem lt_X0_nextPendingToCommit_4 {D : va_G} {dT : Nat → ClassId} {sz : Nat} {p : Program} {l : Launch} {e : Env} {R : Room} {s : State} {m : MethodId} {args : Array Value} {below : List Frame} {meth : Method} {c : Code} {d : Nat} {ad : ts_I → Nat} {kk nn : Nat} {Q : State → Prop} (hl : l.stackTraces = false) (C : ts_CX D dT sz p l R s m args meth c RX0 cX0_nextPendingToCommit 4 (some .int) d) (hdd : 0 ≤ d) (b0 : Nat) (hb0 : b0 < 2) (u : ts_Mem) (hkn : kk ≤ R.cells ∧ nn ≤ R.slots) : ∀ (n : Nat) (v1 : Int32) (v2 : Int32) (q : (Int32 × Int32)) (h : lp_X0_nextPendingToCommit_4 b0 u n v1 v2 = some q) (K : ts_V D dT sz p l e R s m args below meth c 4 Q ad ts_lv ts_R0 62 [some (.inr (1, b0, 0)), some (.inl (.int q.1)), some (.inl (.int q.2)), none] [] u kk nn), ts_V D dT sz p l e R s m args below meth c 4 Q ad ts_lv ts_R0 4 [some (.inr (1, b0, 0)), some (.inl (.int v1)), some (.inl (.int v2)), none] [] u kk nn
  | 0, _, _, _, h, _ => by cases h
  | n + 1, v1, v2, q, h, K => by
      rw [lp_X0_nextPendingToCommit_4] at h
      refine tv_iload_n C (pc := 4) dX0_nextPendingToCommit_4 rfl rfl ?_
      refine tv_aload_n C (pc := 5) dX0_nextPendingToCommit_5 rfl rfl ?_
      refine tv_getI C (pc := 6) dX0_nextPendingToCommit_6 fl_X0_18 (ts_live (k := 1) (by decide) hb0 (by decide)) rfl (cd := 0) rfl (by decide) ?_
      refine tv_icmp_ge C (pc := 9) 62 dX0_nextPendingToCommit_9 (by decide) (fun hc => ?_) (fun hc => ?_)
      · have h := ts_ifp h hc
        cases h
        exact K
      · have h := ts_ifn h hc
        refine tv_aload_n C (pc := 12) dX0_nextPendingToCommit_12 rfl rfl ?_
        refine tv_getR C (pc := 13) dX0_nextPendingToCommit_13 fl_X0_23 (ts_live (k := 1) (by decide) hb0 (by decide)) rfl rfl (i2 := (2, b0, 0)) rfl ?_
        refine tv_iload_n C (pc := 16) dX0_nextPendingToCommit_16 rfl rfl ?_
        obtain ⟨hr1, h⟩ := ts_gd h
        refine tv_aaload5 C (pc := 17) dX0_nextPendingToCommit_17 (ts_live (k := 2) (by decide) hb0 (by decide)) rfl hr1 (j := v2.toNatClampNeg) rfl (i2 := (11, b0, v2.toNatClampNeg)) rfl ?_
        refine tv_astore_n C (pc := 18) dX0_nextPendingToCommit_18 (L' := [some (.inr (1, b0, 0)), some (.inl (.int v1)), some (.inl (.int v2)), some (.inr (11, b0, v2.toNatClampNeg))]) rfl (by decide) rfl rfl ?_
        refine tv_aload_n C (pc := 19) dX0_nextPendingToCommit_19 rfl rfl ?_
        refine tv_getI C (pc := 20) dX0_nextPendingToCommit_20 fl_X0_151 (ts_live (k := 11) (by decide) hb0 (ts_vin hr1)) rfl (cd := 0) rfl (by decide) ?_
        refine tv_iconst C (pc := 23) dX0_nextPendingToCommit_23 (v := (1 : Int32)) rfl ?_
        refine tv_icmp_ne C (pc := 24) 56 dX0_nextPendingToCommit_24 (by decide) (fun hc => ?_) (fun hc => ?_)
        · have h := ts_ifn h hc
          refine tv_iinc C (pc := 56) dX0_nextPendingToCommit_56 (v := (v2 + (1 : Int32))) (L' := [some (.inr (1, b0, 0)), some (.inl (.int v1)), some (.inl (.int (v2 + (1 : Int32)))), some (.inr (11, b0, v2.toNatClampNeg))]) rfl rfl (by decide) rfl rfl ?_
          refine tv_goto C (pc := 59) 4 dX0_nextPendingToCommit_59 (by decide) ?_
          refine tv_drop 3 (L' := [some (.inr (1, b0, 0)), some (.inl (.int v1)), some (.inl (.int (v2 + (1 : Int32)))), none]) rfl ?_
          exact lt_X0_nextPendingToCommit_4 hl C hdd b0 hb0 u hkn n v1 (v2 + (1 : Int32)) q h K
        · have h := ts_ifp h hc
          refine tv_aload_n C (pc := 27) dX0_nextPendingToCommit_27 rfl rfl ?_
          refine tv_getI C (pc := 28) dX0_nextPendingToCommit_28 fl_X0_130 (ts_live (k := 11) (by decide) hb0 (ts_vin hr1)) rfl (cd := 0) rfl (by decide) ?_
          refine tv_if_ne C (pc := 31) 56 dX0_nextPendingToCommit_31 (by decide) (fun hc => ?_) (fun hc => ?_)
          · have h := ts_ifn h hc
            refine tv_iinc C (pc := 56) dX0_nextPendingToCommit_56 (v := (v2 + (1 : Int32))) (L' := [some (.inr (1, b0, 0)), some (.inl (.int v1)), some (.inl (.int (v2 + (1 : Int32)))), some (.inr (11, b0, v2.toNatClampNeg))]) rfl rfl (by decide) rfl rfl ?_
            refine tv_goto C (pc := 59) 4 dX0_nextPendingToCommit_59 (by decide) ?_
            refine tv_drop 3 (L' := [some (.inr (1, b0, 0)), some (.inl (.int v1)), some (.inl (.int (v2 + (1 : Int32)))), none]) rfl ?_
            exact lt_X0_nextPendingToCommit_4 hl C hdd b0 hb0 u hkn n v1 (v2 + (1 : Int32)) q h K
          · have h := ts_ifp h hc
            refine tv_iload_n C (pc := 34) dX0_nextPendingToCommit_34 rfl rfl ?_
            refine tv_if_lt C (pc := 35) 54 dX0_nextPendingToCommit_35 (by decide) (fun hc => ?_) (fun hc => ?_)
            · have h := ts_ifp h hc
              refine tv_iload_n C (pc := 54) dX0_nextPendingToCommit_54 rfl rfl ?_
              refine tv_istore_n C (pc := 55) dX0_nextPendingToCommit_55 (L' := [some (.inr (1, b0, 0)), some (.inl (.int v2)), some (.inl (.int v2)), some (.inr (11, b0, v2.toNatClampNeg))]) rfl (by decide) rfl rfl ?_
              refine tv_iinc C (pc := 56) dX0_nextPendingToCommit_56 (v := (v2 + (1 : Int32))) (L' := [some (.inr (1, b0, 0)), some (.inl (.int v2)), some (.inl (.int (v2 + (1 : Int32)))), some (.inr (11, b0, v2.toNatClampNeg))]) rfl rfl (by decide) rfl rfl ?_
              refine tv_goto C (pc := 59) 4 dX0_nextPendingToCommit_59 (by decide) ?_
              refine tv_drop 3 (L' := [some (.inr (1, b0, 0)), some (.inl (.int v2)), some (.inl (.int (v2 + (1 : Int32)))), none]) rfl ?_
              exact lt_X0_nextPendingToCommit_4 hl C hdd b0 hb0 u hkn n v2 (v2 + (1 : Int32)) q h K
            · have h := ts_ifn h hc
              refine tv_aload_n C (pc := 38) dX0_nextPendingToCommit_38 rfl rfl ?_
              refine tv_getI C (pc := 39) dX0_nextPendingToCommit_39 fl_X0_110 (ts_live (k := 11) (by decide) hb0 (ts_vin hr1)) rfl (cd := 0) rfl (by decide) ?_
              refine tv_aload_n C (pc := 42) dX0_nextPendingToCommit_42 rfl rfl ?_
              refine tv_getR C (pc := 43) dX0_nextPendingToCommit_43 fl_X0_23 (ts_live (k := 1) (by decide) hb0 (by decide)) rfl rfl (i2 := (2, b0, 0)) rfl ?_
              refine tv_iload_n C (pc := 46) dX0_nextPendingToCommit_46 rfl rfl ?_
              obtain ⟨hr2, h⟩ := ts_gd h
              refine tv_aaload5 C (pc := 47) dX0_nextPendingToCommit_47 (ts_live (k := 2) (by decide) hb0 (by decide)) rfl hr2 (j := v1.toNatClampNeg) rfl (i2 := (11, b0, v1.toNatClampNeg)) rfl ?_
              refine tv_getI C (pc := 48) dX0_nextPendingToCommit_48 fl_X0_110 (ts_live (k := 11) (by decide) hb0 (ts_vin hr2)) rfl (cd := 0) rfl (by decide) ?_
              refine tv_icmp_ge C (pc := 51) 56 dX0_nextPendingToCommit_51 (by decide) (fun hc => ?_) (fun hc => ?_)
              · have h := ts_ifp h hc
                refine tv_iinc C (pc := 56) dX0_nextPendingToCommit_56 (v := (v2 + (1 : Int32))) (L' := [some (.inr (1, b0, 0)), some (.inl (.int v1)), some (.inl (.int (v2 + (1 : Int32)))), some (.inr (11, b0, v2.toNatClampNeg))]) rfl rfl (by decide) rfl rfl ?_
                refine tv_goto C (pc := 59) 4 dX0_nextPendingToCommit_59 (by decide) ?_
                refine tv_drop 3 (L' := [some (.inr (1, b0, 0)), some (.inl (.int v1)), some (.inl (.int (v2 + (1 : Int32)))), none]) rfl ?_
                exact lt_X0_nextPendingToCommit_4 hl C hdd b0 hb0 u hkn n v1 (v2 + (1 : Int32)) q h K
              · have h := ts_ifn h hc
                refine tv_iload_n C (pc := 54) dX0_nextPendingToCommit_54 rfl rfl ?_
                refine tv_istore_n C (pc := 55) dX0_nextPendingToCommit_55 (L' := [some (.inr (1, b0, 0)), some (.inl (.int v2)), some (.inl (.int v2)), some (.inr (11, b0, v2.toNatClampNeg))]) rfl (by decide) rfl rfl ?_
                refine tv_iinc C (pc := 56) dX0_nextPendingToCommit_56 (v := (v2 + (1 : Int32))) (L' := [some (.inr (1, b0, 0)), some (.inl (.int v2)), some (.inl (.int (v2 + (1 : Int32)))), some (.inr (11, b0, v2.toNatClampNeg))]) rfl rfl (by decide) rfl rfl ?_
                refine tv_goto C (pc := 59) 4 dX0_nextPendingToCommit_59 (by decide) ?_
                refine tv_drop 3 (L' := [some (.inr (1, b0, 0)), some (.inl (.int v2)), some (.inl (.int (v2 + (1 : Int32)))), none]) rfl ?_
                exact lt_X0_nextPendingToCommit_4 hl C hdd b0 hb0 u hkn n v2 (v2 + (1 : Int32)) q h K
set_option maxRecDepth 100000 in
set_option maxHeartbeats 4000000 in
theorem m_X0_nextPendingToCommit {l : Launch} {D : va_G} {dT : Nat → ClassId} {sz : Nat} {ad : ts_I → Nat} (hl : l.stackTraces = false) (b0 : Nat) (hb0 : b0 < 2) (u : ts_Mem) (r : Int32) (h : f_X0_nextPendingToCommit b0 u = some r) : ts_M l D dT sz yX0_nextPendingToCommit wX0_nextPendingToCommit 0 0 0 ad ts_lv ts_R0 [.inr (1, b0, 0)] u (.inl (some (.int r))) u := by
    unfold f_X0_nextPendingToCommit at h
    refine ts_enter hl (by decide) rfl rfl (Nat.le_of_ble_eq_true rfl) ?_
    intro p e s m args below meth c C hX hnm
    have C : ts_CX D dT sz p l (ts_rm 0 0 0) s m args meth c RX0 cX0_nextPendingToCommit 4 (some .int) 0 := C
    have hdd : 0 ≤ 0 := Nat.le_refl _
    refine tv_iconst C (pc := 0) dX0_nextPendingToCommit_0 (v := (-1 : Int32)) rfl ?_
    refine tv_istore_n C (pc := 1) dX0_nextPendingToCommit_1 (L' := [some (.inr (1, b0, 0)), some (.inl (.int (-1 : Int32))), none, none]) rfl (by decide) rfl rfl ?_
    refine tv_iconst C (pc := 2) dX0_nextPendingToCommit_2 (v := (0 : Int32)) rfl ?_
    refine tv_istore_n C (pc := 3) dX0_nextPendingToCommit_3 (L' := [some (.inr (1, b0, 0)), some (.inl (.int (-1 : Int32))), some (.inl (.int (0 : Int32))), none]) rfl (by decide) rfl rfl ?_
    obtain ⟨q3, hq3, h⟩ := ts_bd h
    refine lt_X0_nextPendingToCommit_4 hl C hdd b0 hb0 u ⟨Nat.le_of_ble_eq_true rfl, Nat.le_of_ble_eq_true rfl⟩ ts_fu (-1 : Int32) (0 : Int32) q3 hq3 ?_
    refine tv_iload_n C (pc := 62) dX0_nextPendingToCommit_62 rfl rfl ?_
    cases h
    exact tv_iret C (pc := 63) rfl dX0_nextPendingToCommit_63 ⟨Nat.le_of_ble_eq_true rfl, Nat.le_of_ble_eq_true rfl⟩
set_option maxRecDepth 100000 in
set_option maxHeartbeats 4000000 in
theorem lt_X0_askCommit_38 {D : va_G} {dT : Nat → ClassId} {sz : Nat} {p : Program} {l : Launch} {e : Env} {R : Room} {s : State} {m : MethodId} {args : Array Value} {below : List Frame} {meth : Method} {c : Code} {d : Nat} {ad : ts_I → Nat} {kk nn : Nat} {Q : State → Prop} (hl : l.stackTraces = false) (C : ts_CX D dT sz p l R s m args meth c RX0 cX0_askCommit 4 (some .boolean) d) (hdd : 2 ≤ d) (b0 : Nat) (hb0 : b0 < 2) (c1 : Int32) (hkn : kk ≤ R.cells ∧ nn ≤ R.slots) : ∀ (n : Nat) (v2 : Int32) (v3 : Int32) (u : ts_Mem) (q : (Int32 × Int32 × ts_Mem)) (h : lp_X0_askCommit_38 b0 c1 n v2 v3 u = some q) (K : ts_V D dT sz p l e R s m args below meth c 4 Q ad ts_lv ts_R0 64 [some (.inr (1, b0, 0)), some (.inl (.int c1)), some (.inl (.int q.1)), some (.inl (.int q.2.1))] [] q.2.2 kk nn), ts_V D dT sz p l e R s m args below meth c 4 Q ad ts_lv ts_R0 38 [some (.inr (1, b0, 0)), some (.inl (.int c1)), some (.inl (.int v2)), some (.inl (.int v3))] [] u kk nn
  | 0, _, _, _, _, h, _ => by cases h
  | n + 1, v2, v3, u, q, h, K => by
      rw [lp_X0_askCommit_38] at h
      refine tv_iload_n C (pc := 38) dX0_askCommit_38 rfl rfl ?_
      refine tv_bipush C (pc := 39) dX0_askCommit_39 (v := (16 : Int32)) rfl ?_
      refine tv_icmp_ge C (pc := 41) 64 dX0_askCommit_41 (by decide) (fun hc => ?_) (fun hc => ?_)
      · have h := ts_ifp h hc
        cases h
        exact K
      · have h := ts_ifn h hc
        refine tv_iload_n C (pc := 44) dX0_askCommit_44 rfl rfl ?_
        refine tv_if_lt C (pc := 45) 64 dX0_askCommit_45 (by decide) (fun hc => ?_) (fun hc => ?_)
        · have h := ts_ifp h hc
          cases h
          exact K
        · have h := ts_ifn h hc
          refine tv_aload_n C (pc := 48) dX0_askCommit_48 rfl rfl ?_
          refine tv_iload_n C (pc := 49) dX0_askCommit_49 rfl rfl ?_
          obtain ⟨q2, hq2, h⟩ := ts_bd h
          refine tv_callV C (pc := 50) dX0_askCommit_50 (ci := 0) (q := (RX0, TX0, 8)) rfl yl_X0_163 (m_X0_finishCommit (D := D) (dT := dT) (sz := sz) (ad := ad) hl b0 hb0 v2 u q2 hq2) (ts_live (k := 1) (by decide) hb0 (by decide)) rfl (Nat.le_trans (Nat.le_of_ble_eq_true rfl) hdd) (As := [.inl (.int v2)]) rfl ⟨hkn.1, hkn.2⟩ (fun _ => Nat.le_of_ble_eq_true rfl) rfl ?_
          refine tv_aload_n C (pc := 53) dX0_askCommit_53 rfl rfl ?_
          obtain ⟨q3, hq3, h⟩ := ts_bd h
          refine tv_callV C (pc := 54) dX0_askCommit_54 (ci := 0) (q := (RX0, TX0, 8)) rfl yl_X0_167 (m_X0_nextPendingToCommit (D := D) (dT := dT) (sz := sz) (ad := ad) hl b0 hb0 q2 q3 hq3) (ts_live (k := 1) (by decide) hb0 (by decide)) rfl (Nat.le_trans (Nat.le_of_ble_eq_true rfl) hdd) (As := []) rfl ⟨hkn.1, hkn.2⟩ (fun _ => Nat.le_of_ble_eq_true rfl) rfl ?_
          refine tv_istore_n C (pc := 57) dX0_askCommit_57 (L' := [some (.inr (1, b0, 0)), some (.inl (.int c1)), some (.inl (.int q3)), some (.inl (.int v3))]) rfl (by decide) rfl rfl ?_
          refine tv_iinc C (pc := 58) dX0_askCommit_58 (v := (v3 + (1 : Int32))) (L' := [some (.inr (1, b0, 0)), some (.inl (.int c1)), some (.inl (.int q3)), some (.inl (.int (v3 + (1 : Int32))))]) rfl rfl (by decide) rfl rfl ?_
          refine tv_goto C (pc := 61) 38 dX0_askCommit_61 (by decide) ?_
          exact lt_X0_askCommit_38 hl C hdd b0 hb0 c1 hkn n q3 (v3 + (1 : Int32)) q2 q h K
set_option maxRecDepth 100000 in
set_option maxHeartbeats 4000000 in
theorem m_X0_askCommit {l : Launch} {D : va_G} {dT : Nat → ClassId} {sz : Nat} {ad : ts_I → Nat} (hl : l.stackTraces = false) (b0 : Nat) (hb0 : b0 < 2) (p1 : Int32) (u : ts_Mem) (r : (Int32 × ts_Mem)) (h : f_X0_askCommit b0 p1 u = some r) : ts_M l D dT sz yX0_askCommit wX0_askCommit 2 0 0 ad ts_lv ts_R0 [.inr (1, b0, 0), .inl (.int p1)] u (.inl (some (.int r.1))) r.2 := by
    unfold f_X0_askCommit at h
    refine ts_enter hl (by decide) rfl rfl (Nat.le_of_ble_eq_true rfl) ?_
    intro p e s m args below meth c C hX hnm
    have C : ts_CX D dT sz p l (ts_rm 2 0 0) s m args meth c RX0 cX0_askCommit 4 (some .boolean) 2 := C
    have hdd : 2 ≤ 2 := Nat.le_refl _
    refine tv_aload_n C (pc := 0) dX0_askCommit_0 rfl rfl ?_
    refine tv_getR C (pc := 1) dX0_askCommit_1 fl_X0_23 (ts_live (k := 1) (by decide) hb0 (by decide)) rfl rfl (i2 := (2, b0, 0)) rfl ?_
    refine tv_iload_n C (pc := 4) dX0_askCommit_4 rfl rfl ?_
    obtain ⟨hr1, h⟩ := ts_gd h
    refine tv_aaload5 C (pc := 5) dX0_askCommit_5 (ts_live (k := 2) (by decide) hb0 (by decide)) rfl hr1 (j := p1.toNatClampNeg) rfl (i2 := (11, b0, p1.toNatClampNeg)) rfl ?_
    refine tv_getI C (pc := 6) dX0_askCommit_6 fl_X0_130 (ts_live (k := 11) (by decide) hb0 (ts_vin hr1)) rfl (cd := 0) rfl (by decide) ?_
    refine tv_if_eq C (pc := 9) 34 dX0_askCommit_9 (by decide) (fun hc => ?_) (fun hc => ?_)
    · have h := ts_ifp h hc
      refine tv_iload_n C (pc := 34) dX0_askCommit_34 rfl rfl ?_
      refine tv_istore_n C (pc := 35) dX0_askCommit_35 (L' := [some (.inr (1, b0, 0)), some (.inl (.int p1)), some (.inl (.int p1)), none]) rfl (by decide) rfl rfl ?_
      refine tv_iconst C (pc := 36) dX0_askCommit_36 (v := (0 : Int32)) rfl ?_
      refine tv_istore_n C (pc := 37) dX0_askCommit_37 (L' := [some (.inr (1, b0, 0)), some (.inl (.int p1)), some (.inl (.int p1)), some (.inl (.int (0 : Int32)))]) rfl (by decide) rfl rfl ?_
      obtain ⟨q4, hq4, h⟩ := ts_bd h
      refine lt_X0_askCommit_38 hl C hdd b0 hb0 p1 ⟨Nat.le_of_ble_eq_true rfl, Nat.le_of_ble_eq_true rfl⟩ ts_fu p1 (0 : Int32) u q4 hq4 ?_
      refine tv_iconst C (pc := 64) dX0_askCommit_64 (v := (1 : Int32)) rfl ?_
      cases h
      exact tv_zret C (pc := 65) (v := (1 : Int32)) rfl ts_nz1 dX0_askCommit_65 ⟨Nat.le_of_ble_eq_true rfl, Nat.le_of_ble_eq_true rfl⟩
    · have h := ts_ifn h hc
      refine tv_aload_n C (pc := 12) dX0_askCommit_12 rfl rfl ?_
      refine tv_getR C (pc := 13) dX0_askCommit_13 fl_X0_23 (ts_live (k := 1) (by decide) hb0 (by decide)) rfl rfl (i2 := (2, b0, 0)) rfl ?_
      refine tv_iload_n C (pc := 16) dX0_askCommit_16 rfl rfl ?_
      obtain ⟨hr5, h⟩ := ts_gd h
      refine tv_aaload5 C (pc := 17) dX0_askCommit_17 (ts_live (k := 2) (by decide) hb0 (by decide)) rfl hr5 (j := p1.toNatClampNeg) rfl (i2 := (11, b0, p1.toNatClampNeg)) rfl ?_
      refine tv_iconst C (pc := 18) dX0_askCommit_18 (v := (1 : Int32)) rfl ?_
      refine tv_putI C (pc := 19) dX0_askCommit_19 fp_X0_151 (ts_live (k := 11) (by decide) hb0 (ts_vin hr5)) rfl (cd := 0) rfl (by decide) rfl rfl ?_
      refine tv_nu (fun u6 hu6 => ?_)
      have h := ts_lt h hu6
      refine tv_aload_n C (pc := 22) dX0_askCommit_22 rfl rfl ?_
      refine tv_getR C (pc := 23) dX0_askCommit_23 fl_X0_38 (ts_live (k := 1) (by decide) hb0 (by decide)) rfl rfl (i2 := (4, b0, 0)) rfl ?_
      refine tv_iconst C (pc := 26) dX0_askCommit_26 (v := (4 : Int32)) rfl ?_
      refine tv_iload_n C (pc := 27) dX0_askCommit_27 rfl rfl ?_
      refine tv_iconst C (pc := 28) dX0_askCommit_28 (v := (-1 : Int32)) rfl ?_
      obtain ⟨q7, hq7, h⟩ := ts_bd h
      refine tv_callV C (pc := 29) dX0_askCommit_29 (ci := 2) (q := (RX2, TX2, 6)) rfl yl_X0_73 (m_X2_note (D := D) (dT := dT) (sz := sz) (ad := ad) hl b0 hb0 (4 : Int32) p1 (-1 : Int32) u6 q7 hq7) (ts_live (k := 4) (by decide) hb0 (by decide)) rfl (Nat.le_trans (Nat.le_of_ble_eq_true rfl) hdd) (As := [.inl (.int (4 : Int32)), .inl (.int p1), .inl (.int (-1 : Int32))]) rfl ⟨Nat.le_of_ble_eq_true rfl, Nat.le_of_ble_eq_true rfl⟩ (fun _ => Nat.le_of_ble_eq_true rfl) rfl ?_
      refine tv_iconst C (pc := 32) dX0_askCommit_32 (v := (0 : Int32)) rfl ?_
      cases h
      exact tv_zret C (pc := 33) (v := (0 : Int32)) rfl ts_nz0 dX0_askCommit_33 ⟨Nat.le_of_ble_eq_true rfl, Nat.le_of_ble_eq_true rfl⟩
set_option maxRecDepth 100000 in
set_option maxHeartbeats 4000000 in
theorem lt_X0_execute_10 {D : va_G} {dT : Nat → ClassId} {sz : Nat} {p : Program} {l : Launch} {e : Env} {R : Room} {s : State} {m : MethodId} {args : Array Value} {below : List Frame} {meth : Method} {c : Code} {d : Nat} {ad : ts_I → Nat} {kk nn : Nat} {Q : State → Prop} (hl : l.stackTraces = false) (C : ts_CX D dT sz p l R s m args meth c RX0 cX0_execute 6 (some .int) d) (hdd : 5 ≤ d) (b0 : Nat) (hb0 : b0 < 2) (c1 : Int32) (b3 : Nat) (hb3 : b3 < 2) (i3 : Nat) (hi3 : i3 < 16) (hkn : kk ≤ R.cells ∧ nn ≤ R.slots) : ∀ (n : Nat) (v4 : Int32) (u : ts_Mem) (q : (Int32 × ts_Mem)) (h : lp_X0_execute_10 b0 c1 b3 i3 n v4 u = some q) (K : ts_V D dT sz p l e R s m args below meth c 6 Q ad ts_lv ts_R0 67 [some (.inr (1, b0, 0)), some (.inl (.int c1)), some (.inr (21, 0, 0)), some (.inr (11, b3, i3)), some (.inl (.int q.1)), none] [] q.2 kk nn), ts_V D dT sz p l e R s m args below meth c 6 Q ad ts_lv ts_R0 10 [some (.inr (1, b0, 0)), some (.inl (.int c1)), some (.inr (21, 0, 0)), some (.inr (11, b3, i3)), some (.inl (.int v4)), none] [] u kk nn
  | 0, _, _, _, h, _ => by cases h
  | n + 1, v4, u, q, h, K => by
      rw [lp_X0_execute_10] at h
      refine tv_iload C (pc := 10) dX0_execute_10 rfl ?_
      refine tv_aload_n C (pc := 12) dX0_execute_12 rfl rfl ?_
      refine tv_getI C (pc := 13) dX0_execute_13 fl_X0_146 (ts_live (k := 21) (by decide) (by decide) (by decide)) rfl (cd := 0) rfl (by decide) ?_
      refine tv_icmp_ge C (pc := 16) 67 dX0_execute_16 (by decide) (fun hc => ?_) (fun hc => ?_)
      · have h := ts_ifp h hc
        cases h
        exact K
      · have h := ts_ifn h hc
        refine tv_aload_n C (pc := 19) dX0_execute_19 rfl rfl ?_
        refine tv_getI C (pc := 20) dX0_execute_20 fl_X0_151 (ts_live (k := 11) (by decide) hb3 hi3) rfl (cd := 0) rfl (by decide) ?_
        refine tv_if_ne C (pc := 23) 67 dX0_execute_23 (by decide) (fun hc => ?_) (fun hc => ?_)
        · have h := ts_ifn h hc
          cases h
          exact K
        · have h := ts_ifp h hc
          refine tv_aload_n C (pc := 26) dX0_execute_26 rfl rfl ?_
          refine tv_aload_n C (pc := 27) dX0_execute_27 rfl rfl ?_
          refine tv_getR C (pc := 28) dX0_execute_28 fl_X0_154 (ts_live (k := 21) (by decide) (by decide) (by decide)) rfl rfl (i2 := (23, 0, 0)) rfl ?_
          refine tv_iload C (pc := 31) dX0_execute_31 rfl ?_
          obtain ⟨hr2, h⟩ := ts_gd h
          refine tv_iaload C (pc := 33) dX0_execute_33 (ts_live (k := 23) (by decide) (by decide) (by decide)) rfl hr2 (j := v4.toNatClampNeg) rfl ?_
          refine tv_aload_n C (pc := 34) dX0_execute_34 rfl rfl ?_
          refine tv_getR C (pc := 35) dX0_execute_35 fl_X0_155 (ts_live (k := 21) (by decide) (by decide) (by decide)) rfl rfl (i2 := (24, 0, 0)) rfl ?_
          refine tv_iload C (pc := 38) dX0_execute_38 rfl ?_
          obtain ⟨hr3, h⟩ := ts_gd h
          refine tv_iaload C (pc := 40) dX0_execute_40 (ts_live (k := 24) (by decide) (by decide) (by decide)) rfl hr3 (j := v4.toNatClampNeg) rfl ?_
          refine tv_aload_n C (pc := 41) dX0_execute_41 rfl rfl ?_
          refine tv_getR C (pc := 42) dX0_execute_42 fl_X0_156 (ts_live (k := 21) (by decide) (by decide) (by decide)) rfl rfl (i2 := (25, 0, 0)) rfl ?_
          refine tv_iload C (pc := 45) dX0_execute_45 rfl ?_
          obtain ⟨hr4, h⟩ := ts_gd h
          refine tv_iaload C (pc := 47) dX0_execute_47 (ts_live (k := 25) (by decide) (by decide) (by decide)) rfl hr4 (j := v4.toNatClampNeg) rfl ?_
          obtain ⟨q5, hq5, h⟩ := ts_bd h
          refine tv_callV C (pc := 48) dX0_execute_48 (ci := 5) (q := (RX5, TX5, 10)) rfl yl_X0_77 (m_X5_appendOperation (D := D) (dT := dT) (sz := sz) (ad := ad) hl b3 hb3 i3 hi3 (ts_gI u (23, 0, 0) v4.toNatClampNeg) (ts_gI u (24, 0, 0) v4.toNatClampNeg) (ts_gI u (25, 0, 0) v4.toNatClampNeg) u q5 hq5) (ts_live (k := 11) (by decide) hb3 hi3) rfl (Nat.le_trans (Nat.le_of_ble_eq_true rfl) hdd) (As := [.inl (.int (ts_gI u (23, 0, 0) v4.toNatClampNeg)), .inl (.int (ts_gI u (24, 0, 0) v4.toNatClampNeg)), .inl (.int (ts_gI u (25, 0, 0) v4.toNatClampNeg))]) rfl ⟨hkn.1, hkn.2⟩ (fun _ => Nat.le_of_ble_eq_true rfl) rfl ?_
          refine tv_istore C (pc := 51) dX0_execute_51 (L' := [some (.inr (1, b0, 0)), some (.inl (.int c1)), some (.inr (21, 0, 0)), some (.inr (11, b3, i3)), some (.inl (.int v4)), some (.inl (.int q5.1))]) (by decide) rfl rfl ?_
          refine tv_aload_n C (pc := 53) dX0_execute_53 rfl rfl ?_
          refine tv_iload_n C (pc := 54) dX0_execute_54 rfl rfl ?_
          refine tv_iload C (pc := 55) dX0_execute_55 rfl ?_
          obtain ⟨q6, hq6, h⟩ := ts_bd h
          refine tv_callV C (pc := 57) dX0_execute_57 (ci := 0) (q := (RX0, TX0, 8)) rfl yl_X0_81 (m_X0_perform (D := D) (dT := dT) (sz := sz) (ad := ad) hl b0 hb0 c1 q5.1 q5.2 q6 hq6) (ts_live (k := 1) (by decide) hb0 (by decide)) rfl (Nat.le_trans (Nat.le_of_ble_eq_true rfl) hdd) (As := [.inl (.int c1), .inl (.int q5.1)]) rfl ⟨hkn.1, hkn.2⟩ (fun _ => Nat.le_of_ble_eq_true rfl) rfl ?_
          refine tv_pop C (pc := 60) dX0_execute_60 (fun _ => rfl) ?_
          refine tv_iinc C (pc := 61) dX0_execute_61 (v := (v4 + (1 : Int32))) (L' := [some (.inr (1, b0, 0)), some (.inl (.int c1)), some (.inr (21, 0, 0)), some (.inr (11, b3, i3)), some (.inl (.int (v4 + (1 : Int32)))), some (.inl (.int q5.1))]) rfl rfl (by decide) rfl rfl ?_
          refine tv_goto C (pc := 64) 10 dX0_execute_64 (by decide) ?_
          refine tv_drop 5 (L' := [some (.inr (1, b0, 0)), some (.inl (.int c1)), some (.inr (21, 0, 0)), some (.inr (11, b3, i3)), some (.inl (.int (v4 + (1 : Int32)))), none]) rfl ?_
          exact lt_X0_execute_10 hl C hdd b0 hb0 c1 b3 hb3 i3 hi3 hkn n (v4 + (1 : Int32)) q6.2 q h K
set_option maxRecDepth 100000 in
set_option maxHeartbeats 4000000 in
theorem m_X0_execute {l : Launch} {D : va_G} {dT : Nat → ClassId} {sz : Nat} {ad : ts_I → Nat} (hl : l.stackTraces = false) (b0 : Nat) (hb0 : b0 < 2) (p1 : Int32) (u : ts_Mem) (r : (Int32 × ts_Mem)) (h : f_X0_execute b0 p1 u = some r) : ts_M l D dT sz yX0_execute wX0_execute 5 0 0 ad ts_lv ts_R0 [.inr (1, b0, 0), .inl (.int p1), .inr (21, 0, 0)] u (.inl (some (.int r.1))) r.2 := by
    unfold f_X0_execute at h
    refine ts_enter hl (by decide) rfl rfl (Nat.le_of_ble_eq_true rfl) ?_
    intro p e s m args below meth c C hX hnm
    have C : ts_CX D dT sz p l (ts_rm 5 0 0) s m args meth c RX0 cX0_execute 6 (some .int) 5 := C
    have hdd : 5 ≤ 5 := Nat.le_refl _
    refine tv_aload_n C (pc := 0) dX0_execute_0 rfl rfl ?_
    refine tv_getR C (pc := 1) dX0_execute_1 fl_X0_23 (ts_live (k := 1) (by decide) hb0 (by decide)) rfl rfl (i2 := (2, b0, 0)) rfl ?_
    refine tv_iload_n C (pc := 4) dX0_execute_4 rfl rfl ?_
    obtain ⟨hr1, h⟩ := ts_gd h
    refine tv_aaload5 C (pc := 5) dX0_execute_5 (ts_live (k := 2) (by decide) hb0 (by decide)) rfl hr1 (j := p1.toNatClampNeg) rfl (i2 := (11, b0, p1.toNatClampNeg)) rfl ?_
    refine tv_astore_n C (pc := 6) dX0_execute_6 (L' := [some (.inr (1, b0, 0)), some (.inl (.int p1)), some (.inr (21, 0, 0)), some (.inr (11, b0, p1.toNatClampNeg)), none, none]) rfl (by decide) rfl rfl ?_
    refine tv_iconst C (pc := 7) dX0_execute_7 (v := (0 : Int32)) rfl ?_
    refine tv_istore C (pc := 8) dX0_execute_8 (L' := [some (.inr (1, b0, 0)), some (.inl (.int p1)), some (.inr (21, 0, 0)), some (.inr (11, b0, p1.toNatClampNeg)), some (.inl (.int (0 : Int32))), none]) (by decide) rfl rfl ?_
    obtain ⟨q7, hq7, h⟩ := ts_bd h
    refine lt_X0_execute_10 hl C hdd b0 hb0 p1 b0 hb0 p1.toNatClampNeg (ts_vin hr1) ⟨Nat.le_of_ble_eq_true rfl, Nat.le_of_ble_eq_true rfl⟩ ts_fu (0 : Int32) u q7 hq7 ?_
    refine tv_aload_n C (pc := 67) dX0_execute_67 rfl rfl ?_
    refine tv_getI C (pc := 68) dX0_execute_68 fl_X0_151 (ts_live (k := 11) (by decide) hb0 (ts_vin hr1)) rfl (cd := 0) rfl (by decide) ?_
    refine tv_if_ne C (pc := 71) 106 dX0_execute_71 (by decide) (fun hc => ?_) (fun hc => ?_)
    · have h := ts_ifn h hc
      refine tv_iload C (pc := 106) dX0_execute_106 rfl ?_
      cases h
      exact tv_iret C (pc := 108) rfl dX0_execute_108 ⟨Nat.le_of_ble_eq_true rfl, Nat.le_of_ble_eq_true rfl⟩
    · have h := ts_ifp h hc
      refine tv_aload_n C (pc := 74) dX0_execute_74 rfl rfl ?_
      refine tv_getI C (pc := 75) dX0_execute_75 fl_X0_157 (ts_live (k := 21) (by decide) (by decide) (by decide)) rfl (cd := 0) rfl (by decide) ?_
      refine tv_iconst C (pc := 78) dX0_execute_78 (v := (1 : Int32)) rfl ?_
      refine tv_icmp_ne C (pc := 79) 91 dX0_execute_79 (by decide) (fun hc => ?_) (fun hc => ?_)
      · have h := ts_ifn h hc
        refine tv_aload_n C (pc := 91) dX0_execute_91 rfl rfl ?_
        refine tv_getI C (pc := 92) dX0_execute_92 fl_X0_157 (ts_live (k := 21) (by decide) (by decide) (by decide)) rfl (cd := 0) rfl (by decide) ?_
        refine tv_iconst C (pc := 95) dX0_execute_95 (v := (2 : Int32)) rfl ?_
        refine tv_icmp_ne C (pc := 96) 106 dX0_execute_96 (by decide) (fun hc => ?_) (fun hc => ?_)
        · have h := ts_ifn h hc
          refine tv_iload C (pc := 106) dX0_execute_106 rfl ?_
          cases h
          exact tv_iret C (pc := 108) rfl dX0_execute_108 ⟨Nat.le_of_ble_eq_true rfl, Nat.le_of_ble_eq_true rfl⟩
        · have h := ts_ifp h hc
          refine tv_aload_n C (pc := 99) dX0_execute_99 rfl rfl ?_
          refine tv_iload_n C (pc := 100) dX0_execute_100 rfl rfl ?_
          refine tv_iconst C (pc := 101) dX0_execute_101 (v := (-1 : Int32)) rfl ?_
          obtain ⟨q8, hq8, h⟩ := ts_bd h
          refine tv_callV C (pc := 102) dX0_execute_102 (ci := 0) (q := (RX0, TX0, 8)) rfl yl_X0_94 (m_X0_abortWithDependents (D := D) (dT := dT) (sz := sz) (ad := ad) hl b0 hb0 p1 (-1 : Int32) q7.2 q8 hq8) (ts_live (k := 1) (by decide) hb0 (by decide)) rfl (Nat.le_trans (Nat.le_of_ble_eq_true rfl) hdd) (As := [.inl (.int p1), .inl (.int (-1 : Int32))]) rfl ⟨Nat.le_of_ble_eq_true rfl, Nat.le_of_ble_eq_true rfl⟩ (fun _ => Nat.le_of_ble_eq_true rfl) rfl ?_
          refine tv_pop C (pc := 105) dX0_execute_105 (fun _ => rfl) ?_
          refine tv_iload C (pc := 106) dX0_execute_106 rfl ?_
          cases h
          exact tv_iret C (pc := 108) rfl dX0_execute_108 ⟨Nat.le_of_ble_eq_true rfl, Nat.le_of_ble_eq_true rfl⟩
      · have h := ts_ifp h hc
        refine tv_aload_n C (pc := 82) dX0_execute_82 rfl rfl ?_
        refine tv_iload_n C (pc := 83) dX0_execute_83 rfl rfl ?_
        obtain ⟨q9, hq9, h⟩ := ts_bd h
        refine tv_callV C (pc := 84) dX0_execute_84 (ci := 0) (q := (RX0, TX0, 8)) rfl yl_X0_160 (m_X0_askCommit (D := D) (dT := dT) (sz := sz) (ad := ad) hl b0 hb0 p1 q7.2 q9 hq9) (ts_live (k := 1) (by decide) hb0 (by decide)) rfl (Nat.le_trans (Nat.le_of_ble_eq_true rfl) hdd) (As := [.inl (.int p1)]) rfl ⟨Nat.le_of_ble_eq_true rfl, Nat.le_of_ble_eq_true rfl⟩ (fun _ => Nat.le_of_ble_eq_true rfl) rfl ?_
        refine tv_pop C (pc := 87) dX0_execute_87 (fun _ => rfl) ?_
        refine tv_goto C (pc := 88) 106 dX0_execute_88 (by decide) ?_
        refine tv_iload C (pc := 106) dX0_execute_106 rfl ?_
        cases h
        exact tv_iret C (pc := 108) rfl dX0_execute_108 ⟨Nat.le_of_ble_eq_true rfl, Nat.le_of_ble_eq_true rfl⟩
set_option maxRecDepth 100000 in
set_option maxHeartbeats 4000000 in
theorem lt_X0_nextToRestart_4 {D : va_G} {dT : Nat → ClassId} {sz : Nat} {p : Program} {l : Launch} {e : Env} {R : Room} {s : State} {m : MethodId} {args : Array Value} {below : List Frame} {meth : Method} {c : Code} {d : Nat} {ad : ts_I → Nat} {kk nn : Nat} {Q : State → Prop} (hl : l.stackTraces = false) (C : ts_CX D dT sz p l R s m args meth c RX0 cX0_nextToRestart 3 (some .int) d) (hdd : 1 ≤ d) (b0 : Nat) (hb0 : b0 < 2) (u : ts_Mem) (hkn : kk ≤ R.cells ∧ nn ≤ R.slots) : ∀ (n : Nat) (v1 : Int32) (v2 : Int32) (q : (Int32 × Int32)) (h : lp_X0_nextToRestart_4 b0 u n v1 v2 = some q) (K : ts_V D dT sz p l e R s m args below meth c 3 Q ad ts_lv ts_R0 55 [some (.inr (1, b0, 0)), some (.inl (.int q.1)), some (.inl (.int q.2))] [] u kk nn), ts_V D dT sz p l e R s m args below meth c 3 Q ad ts_lv ts_R0 4 [some (.inr (1, b0, 0)), some (.inl (.int v1)), some (.inl (.int v2))] [] u kk nn
  | 0, _, _, _, h, _ => by cases h
  | n + 1, v1, v2, q, h, K => by
      rw [lp_X0_nextToRestart_4] at h
      refine tv_iload_n C (pc := 4) dX0_nextToRestart_4 rfl rfl ?_
      refine tv_aload_n C (pc := 5) dX0_nextToRestart_5 rfl rfl ?_
      refine tv_getI C (pc := 6) dX0_nextToRestart_6 fl_X0_18 (ts_live (k := 1) (by decide) hb0 (by decide)) rfl (cd := 0) rfl (by decide) ?_
      refine tv_icmp_ge C (pc := 9) 55 dX0_nextToRestart_9 (by decide) (fun hc => ?_) (fun hc => ?_)
      · have h := ts_ifp h hc
        cases h
        exact K
      · have h := ts_ifn h hc
        refine tv_aload_n C (pc := 12) dX0_nextToRestart_12 rfl rfl ?_
        refine tv_getR C (pc := 13) dX0_nextToRestart_13 fl_X0_23 (ts_live (k := 1) (by decide) hb0 (by decide)) rfl rfl (i2 := (2, b0, 0)) rfl ?_
        refine tv_iload_n C (pc := 16) dX0_nextToRestart_16 rfl rfl ?_
        obtain ⟨hr1, h⟩ := ts_gd h
        refine tv_aaload5 C (pc := 17) dX0_nextToRestart_17 (ts_live (k := 2) (by decide) hb0 (by decide)) rfl hr1 (j := v2.toNatClampNeg) rfl (i2 := (11, b0, v2.toNatClampNeg)) rfl ?_
        refine tv_getI C (pc := 18) dX0_nextToRestart_18 fl_X0_151 (ts_live (k := 11) (by decide) hb0 (ts_vin hr1)) rfl (cd := 0) rfl (by decide) ?_
        refine tv_iconst C (pc := 21) dX0_nextToRestart_21 (v := (3 : Int32)) rfl ?_
        refine tv_icmp_ne C (pc := 22) 49 dX0_nextToRestart_22 (by decide) (fun hc => ?_) (fun hc => ?_)
        · have h := ts_ifn h hc
          refine tv_iinc C (pc := 49) dX0_nextToRestart_49 (v := (v2 + (1 : Int32))) (L' := [some (.inr (1, b0, 0)), some (.inl (.int v1)), some (.inl (.int (v2 + (1 : Int32))))]) rfl rfl (by decide) rfl rfl ?_
          refine tv_goto C (pc := 52) 4 dX0_nextToRestart_52 (by decide) ?_
          exact lt_X0_nextToRestart_4 hl C hdd b0 hb0 u hkn n v1 (v2 + (1 : Int32)) q h K
        · have h := ts_ifp h hc
          refine tv_iload_n C (pc := 25) dX0_nextToRestart_25 rfl rfl ?_
          refine tv_if_lt C (pc := 26) 47 dX0_nextToRestart_26 (by decide) (fun hc => ?_) (fun hc => ?_)
          · have h := ts_ifp h hc
            refine tv_iload_n C (pc := 47) dX0_nextToRestart_47 rfl rfl ?_
            refine tv_istore_n C (pc := 48) dX0_nextToRestart_48 (L' := [some (.inr (1, b0, 0)), some (.inl (.int v2)), some (.inl (.int v2))]) rfl (by decide) rfl rfl ?_
            refine tv_iinc C (pc := 49) dX0_nextToRestart_49 (v := (v2 + (1 : Int32))) (L' := [some (.inr (1, b0, 0)), some (.inl (.int v2)), some (.inl (.int (v2 + (1 : Int32))))]) rfl rfl (by decide) rfl rfl ?_
            refine tv_goto C (pc := 52) 4 dX0_nextToRestart_52 (by decide) ?_
            exact lt_X0_nextToRestart_4 hl C hdd b0 hb0 u hkn n v2 (v2 + (1 : Int32)) q h K
          · have h := ts_ifn h hc
            refine tv_aload_n C (pc := 29) dX0_nextToRestart_29 rfl rfl ?_
            refine tv_getR C (pc := 30) dX0_nextToRestart_30 fl_X0_23 (ts_live (k := 1) (by decide) hb0 (by decide)) rfl rfl (i2 := (2, b0, 0)) rfl ?_
            refine tv_iload_n C (pc := 33) dX0_nextToRestart_33 rfl rfl ?_
            obtain ⟨hr2, h⟩ := ts_gd h
            refine tv_aaload5 C (pc := 34) dX0_nextToRestart_34 (ts_live (k := 2) (by decide) hb0 (by decide)) rfl hr2 (j := v2.toNatClampNeg) rfl (i2 := (11, b0, v2.toNatClampNeg)) rfl ?_
            refine tv_aload_n C (pc := 35) dX0_nextToRestart_35 rfl rfl ?_
            refine tv_getR C (pc := 36) dX0_nextToRestart_36 fl_X0_23 (ts_live (k := 1) (by decide) hb0 (by decide)) rfl rfl (i2 := (2, b0, 0)) rfl ?_
            refine tv_iload_n C (pc := 39) dX0_nextToRestart_39 rfl rfl ?_
            obtain ⟨hr3, h⟩ := ts_gd h
            refine tv_aaload5 C (pc := 40) dX0_nextToRestart_40 (ts_live (k := 2) (by decide) hb0 (by decide)) rfl hr3 (j := v1.toNatClampNeg) rfl (i2 := (11, b0, v1.toNatClampNeg)) rfl ?_
            obtain ⟨q4, hq4, h⟩ := ts_bd h
            refine tv_callV C (pc := 41) dX0_nextToRestart_41 (ci := 5) (q := (RX5, TX5, 10)) rfl yl_X0_186 (m_X5_goesBefore (D := D) (dT := dT) (sz := sz) (ad := ad) hl b0 hb0 v2.toNatClampNeg (ts_vin hr2) b0 hb0 v1.toNatClampNeg (ts_vin hr3) u q4 hq4) (ts_live (k := 11) (by decide) hb0 (ts_vin hr2)) rfl (Nat.le_trans (Nat.le_of_ble_eq_true rfl) hdd) (As := [.inr (11, b0, v1.toNatClampNeg)]) rfl ⟨hkn.1, hkn.2⟩ (fun _ => Nat.le_of_ble_eq_true rfl) rfl ?_
            refine tv_if_eq C (pc := 44) 49 dX0_nextToRestart_44 (by decide) (fun hc => ?_) (fun hc => ?_)
            · have h := ts_ifp h hc
              refine tv_iinc C (pc := 49) dX0_nextToRestart_49 (v := (v2 + (1 : Int32))) (L' := [some (.inr (1, b0, 0)), some (.inl (.int v1)), some (.inl (.int (v2 + (1 : Int32))))]) rfl rfl (by decide) rfl rfl ?_
              refine tv_goto C (pc := 52) 4 dX0_nextToRestart_52 (by decide) ?_
              exact lt_X0_nextToRestart_4 hl C hdd b0 hb0 u hkn n v1 (v2 + (1 : Int32)) q h K
            · have h := ts_ifn h hc
              refine tv_iload_n C (pc := 47) dX0_nextToRestart_47 rfl rfl ?_
              refine tv_istore_n C (pc := 48) dX0_nextToRestart_48 (L' := [some (.inr (1, b0, 0)), some (.inl (.int v2)), some (.inl (.int v2))]) rfl (by decide) rfl rfl ?_
              refine tv_iinc C (pc := 49) dX0_nextToRestart_49 (v := (v2 + (1 : Int32))) (L' := [some (.inr (1, b0, 0)), some (.inl (.int v2)), some (.inl (.int (v2 + (1 : Int32))))]) rfl rfl (by decide) rfl rfl ?_
              refine tv_goto C (pc := 52) 4 dX0_nextToRestart_52 (by decide) ?_
              exact lt_X0_nextToRestart_4 hl C hdd b0 hb0 u hkn n v2 (v2 + (1 : Int32)) q h K
set_option maxRecDepth 100000 in
set_option maxHeartbeats 4000000 in
theorem m_X0_nextToRestart {l : Launch} {D : va_G} {dT : Nat → ClassId} {sz : Nat} {ad : ts_I → Nat} (hl : l.stackTraces = false) (b0 : Nat) (hb0 : b0 < 2) (u : ts_Mem) (r : Int32) (h : f_X0_nextToRestart b0 u = some r) : ts_M l D dT sz yX0_nextToRestart wX0_nextToRestart 1 0 0 ad ts_lv ts_R0 [.inr (1, b0, 0)] u (.inl (some (.int r))) u := by
    unfold f_X0_nextToRestart at h
    refine ts_enter hl (by decide) rfl rfl (Nat.le_of_ble_eq_true rfl) ?_
    intro p e s m args below meth c C hX hnm
    have C : ts_CX D dT sz p l (ts_rm 1 0 0) s m args meth c RX0 cX0_nextToRestart 3 (some .int) 1 := C
    have hdd : 1 ≤ 1 := Nat.le_refl _
    refine tv_iconst C (pc := 0) dX0_nextToRestart_0 (v := (-1 : Int32)) rfl ?_
    refine tv_istore_n C (pc := 1) dX0_nextToRestart_1 (L' := [some (.inr (1, b0, 0)), some (.inl (.int (-1 : Int32))), none]) rfl (by decide) rfl rfl ?_
    refine tv_iconst C (pc := 2) dX0_nextToRestart_2 (v := (0 : Int32)) rfl ?_
    refine tv_istore_n C (pc := 3) dX0_nextToRestart_3 (L' := [some (.inr (1, b0, 0)), some (.inl (.int (-1 : Int32))), some (.inl (.int (0 : Int32)))]) rfl (by decide) rfl rfl ?_
    obtain ⟨q5, hq5, h⟩ := ts_bd h
    refine lt_X0_nextToRestart_4 hl C hdd b0 hb0 u ⟨Nat.le_of_ble_eq_true rfl, Nat.le_of_ble_eq_true rfl⟩ ts_fu (-1 : Int32) (0 : Int32) q5 hq5 ?_
    refine tv_iload_n C (pc := 55) dX0_nextToRestart_55 rfl rfl ?_
    cases h
    exact tv_iret C (pc := 56) rfl dX0_nextToRestart_56 ⟨Nat.le_of_ble_eq_true rfl, Nat.le_of_ble_eq_true rfl⟩
set_option maxRecDepth 100000 in
set_option maxHeartbeats 4000000 in
theorem lt_X0_restartTransaction_33 {D : va_G} {dT : Nat → ClassId} {sz : Nat} {p : Program} {l : Launch} {e : Env} {R : Room} {s : State} {m : MethodId} {args : Array Value} {below : List Frame} {meth : Method} {c : Code} {d : Nat} {ad : ts_I → Nat} {kk nn : Nat} {Q : State → Prop} (hl : l.stackTraces = false) (C : ts_CX D dT sz p l R s m args meth c RX0 cX0_restartTransaction 4 none d) (hdd : 5 ≤ d) (b0 : Nat) (hb0 : b0 < 2) (c1 : Int32) (b2 : Nat) (hb2 : b2 < 2) (i2 : Nat) (hi2 : i2 < 16) (hkn : kk ≤ R.cells ∧ nn ≤ R.slots) : ∀ (n : Nat) (v3 : Int32) (u : ts_Mem) (q : (Int32 × ts_Mem)) (h : lp_X0_restartTransaction_33 b0 c1 b2 i2 n v3 u = some q) (K : ts_V D dT sz p l e R s m args below meth c 4 Q ad ts_lv ts_R0 61 [some (.inr (1, b0, 0)), some (.inl (.int c1)), some (.inr (11, b2, i2)), some (.inl (.int q.1))] [] q.2 kk nn), ts_V D dT sz p l e R s m args below meth c 4 Q ad ts_lv ts_R0 33 [some (.inr (1, b0, 0)), some (.inl (.int c1)), some (.inr (11, b2, i2)), some (.inl (.int v3))] [] u kk nn
  | 0, _, _, _, h, _ => by cases h
  | n + 1, v3, u, q, h, K => by
      rw [lp_X0_restartTransaction_33] at h
      refine tv_iload_n C (pc := 33) dX0_restartTransaction_33 rfl rfl ?_
      refine tv_aload_n C (pc := 34) dX0_restartTransaction_34 rfl rfl ?_
      refine tv_getI C (pc := 35) dX0_restartTransaction_35 fl_X0_190 (ts_live (k := 11) (by decide) hb2 hi2) rfl (cd := 0) rfl (by decide) ?_
      refine tv_icmp_ge C (pc := 38) 61 dX0_restartTransaction_38 (by decide) (fun hc => ?_) (fun hc => ?_)
      · have h := ts_ifp h hc
        cases h
        exact K
      · have h := ts_ifn h hc
        refine tv_aload_n C (pc := 41) dX0_restartTransaction_41 rfl rfl ?_
        refine tv_getI C (pc := 42) dX0_restartTransaction_42 fl_X0_151 (ts_live (k := 11) (by decide) hb2 hi2) rfl (cd := 0) rfl (by decide) ?_
        refine tv_if_ne C (pc := 45) 61 dX0_restartTransaction_45 (by decide) (fun hc => ?_) (fun hc => ?_)
        · have h := ts_ifn h hc
          cases h
          exact K
        · have h := ts_ifp h hc
          refine tv_aload_n C (pc := 48) dX0_restartTransaction_48 rfl rfl ?_
          refine tv_iload_n C (pc := 49) dX0_restartTransaction_49 rfl rfl ?_
          refine tv_iload_n C (pc := 50) dX0_restartTransaction_50 rfl rfl ?_
          obtain ⟨q6, hq6, h⟩ := ts_bd h
          refine tv_callV C (pc := 51) dX0_restartTransaction_51 (ci := 0) (q := (RX0, TX0, 8)) rfl yl_X0_81 (m_X0_perform (D := D) (dT := dT) (sz := sz) (ad := ad) hl b0 hb0 c1 v3 u q6 hq6) (ts_live (k := 1) (by decide) hb0 (by decide)) rfl (Nat.le_trans (Nat.le_of_ble_eq_true rfl) hdd) (As := [.inl (.int c1), .inl (.int v3)]) rfl ⟨hkn.1, hkn.2⟩ (fun _ => Nat.le_of_ble_eq_true rfl) rfl ?_
          refine tv_pop C (pc := 54) dX0_restartTransaction_54 (fun _ => rfl) ?_
          refine tv_iinc C (pc := 55) dX0_restartTransaction_55 (v := (v3 + (1 : Int32))) (L' := [some (.inr (1, b0, 0)), some (.inl (.int c1)), some (.inr (11, b2, i2)), some (.inl (.int (v3 + (1 : Int32))))]) rfl rfl (by decide) rfl rfl ?_
          refine tv_goto C (pc := 58) 33 dX0_restartTransaction_58 (by decide) ?_
          exact lt_X0_restartTransaction_33 hl C hdd b0 hb0 c1 b2 hb2 i2 hi2 hkn n (v3 + (1 : Int32)) q6.2 q h K
set_option maxRecDepth 100000 in
set_option maxHeartbeats 4000000 in
theorem m_X0_restartTransaction {l : Launch} {D : va_G} {dT : Nat → ClassId} {sz : Nat} {ad : ts_I → Nat} (hl : l.stackTraces = false) (b0 : Nat) (hb0 : b0 < 2) (p1 : Int32) (u : ts_Mem) (r : ts_Mem) (h : f_X0_restartTransaction b0 p1 u = some r) : ts_M l D dT sz yX0_restartTransaction wX0_restartTransaction 5 0 0 ad ts_lv ts_R0 [.inr (1, b0, 0), .inl (.int p1)] u (.inl none) r := by
    unfold f_X0_restartTransaction at h
    refine ts_enter hl (by decide) rfl rfl (Nat.le_of_ble_eq_true rfl) ?_
    intro p e s m args below meth c C hX hnm
    have C : ts_CX D dT sz p l (ts_rm 5 0 0) s m args meth c RX0 cX0_restartTransaction 4 none 5 := C
    have hdd : 5 ≤ 5 := Nat.le_refl _
    refine tv_aload_n C (pc := 0) dX0_restartTransaction_0 rfl rfl ?_
    refine tv_getR C (pc := 1) dX0_restartTransaction_1 fl_X0_23 (ts_live (k := 1) (by decide) hb0 (by decide)) rfl rfl (i2 := (2, b0, 0)) rfl ?_
    refine tv_iload_n C (pc := 4) dX0_restartTransaction_4 rfl rfl ?_
    obtain ⟨hr1, h⟩ := ts_gd h
    refine tv_aaload5 C (pc := 5) dX0_restartTransaction_5 (ts_live (k := 2) (by decide) hb0 (by decide)) rfl hr1 (j := p1.toNatClampNeg) rfl (i2 := (11, b0, p1.toNatClampNeg)) rfl ?_
    refine tv_astore_n C (pc := 6) dX0_restartTransaction_6 (L' := [some (.inr (1, b0, 0)), some (.inl (.int p1)), some (.inr (11, b0, p1.toNatClampNeg)), none]) rfl (by decide) rfl rfl ?_
    refine tv_aload_n C (pc := 7) dX0_restartTransaction_7 rfl rfl ?_
    refine tv_aload_n C (pc := 8) dX0_restartTransaction_8 rfl rfl ?_
    obtain ⟨q2, hq2, h⟩ := ts_bd h
    refine tv_callV C (pc := 9) dX0_restartTransaction_9 (ci := 0) (q := (RX0, TX0, 8)) rfl yl_X0_65 (m_X0_givenTimestamp (D := D) (dT := dT) (sz := sz) (ad := ad) hl b0 hb0 u q2 hq2) (ts_live (k := 1) (by decide) hb0 (by decide)) rfl (Nat.le_trans (Nat.le_of_ble_eq_true rfl) hdd) (As := []) rfl ⟨Nat.le_of_ble_eq_true rfl, Nat.le_of_ble_eq_true rfl⟩ (fun _ => Nat.le_of_ble_eq_true rfl) rfl ?_
    refine tv_putI C (pc := 12) dX0_restartTransaction_12 fp_X0_110 (ts_live (k := 11) (by decide) hb0 (ts_vin hr1)) rfl (cd := 0) rfl (by decide) rfl rfl ?_
    refine tv_nu (fun u3 hu3 => ?_)
    have h := ts_lt h hu3
    refine tv_aload_n C (pc := 15) dX0_restartTransaction_15 rfl rfl ?_
    refine tv_iconst C (pc := 16) dX0_restartTransaction_16 (v := (0 : Int32)) rfl ?_
    refine tv_putI C (pc := 17) dX0_restartTransaction_17 fp_X0_151 (ts_live (k := 11) (by decide) hb0 (ts_vin hr1)) rfl (cd := 0) rfl (by decide) rfl rfl ?_
    refine tv_nu (fun u4 hu4 => ?_)
    have h := ts_lt h hu4
    refine tv_aload_n C (pc := 20) dX0_restartTransaction_20 rfl rfl ?_
    refine tv_getR C (pc := 21) dX0_restartTransaction_21 fl_X0_38 (ts_live (k := 1) (by decide) hb0 (by decide)) rfl rfl (i2 := (4, b0, 0)) rfl ?_
    refine tv_bipush C (pc := 24) dX0_restartTransaction_24 (v := (8 : Int32)) rfl ?_
    refine tv_iload_n C (pc := 26) dX0_restartTransaction_26 rfl rfl ?_
    refine tv_iconst C (pc := 27) dX0_restartTransaction_27 (v := (-1 : Int32)) rfl ?_
    obtain ⟨q5, hq5, h⟩ := ts_bd h
    refine tv_callV C (pc := 28) dX0_restartTransaction_28 (ci := 2) (q := (RX2, TX2, 6)) rfl yl_X0_73 (m_X2_note (D := D) (dT := dT) (sz := sz) (ad := ad) hl b0 hb0 (8 : Int32) p1 (-1 : Int32) u4 q5 hq5) (ts_live (k := 4) (by decide) hb0 (by decide)) rfl (Nat.le_trans (Nat.le_of_ble_eq_true rfl) hdd) (As := [.inl (.int (8 : Int32)), .inl (.int p1), .inl (.int (-1 : Int32))]) rfl ⟨Nat.le_of_ble_eq_true rfl, Nat.le_of_ble_eq_true rfl⟩ (fun _ => Nat.le_of_ble_eq_true rfl) rfl ?_
    refine tv_iconst C (pc := 31) dX0_restartTransaction_31 (v := (0 : Int32)) rfl ?_
    refine tv_istore_n C (pc := 32) dX0_restartTransaction_32 (L' := [some (.inr (1, b0, 0)), some (.inl (.int p1)), some (.inr (11, b0, p1.toNatClampNeg)), some (.inl (.int (0 : Int32)))]) rfl (by decide) rfl rfl ?_
    obtain ⟨q7, hq7, h⟩ := ts_bd h
    refine lt_X0_restartTransaction_33 hl C hdd b0 hb0 p1 b0 hb0 p1.toNatClampNeg (ts_vin hr1) ⟨Nat.le_of_ble_eq_true rfl, Nat.le_of_ble_eq_true rfl⟩ ts_fu (0 : Int32) q5 q7 hq7 ?_
    cases h
    exact tv_vret C (pc := 61) rfl dX0_restartTransaction_61 ⟨Nat.le_of_ble_eq_true rfl, Nat.le_of_ble_eq_true rfl⟩
set_option maxRecDepth 100000 in
set_option maxHeartbeats 4000000 in
theorem lt_X0_transactionsAbortedWith_29 {D : va_G} {dT : Nat → ClassId} {sz : Nat} {p : Program} {l : Launch} {e : Env} {R : Room} {s : State} {m : MethodId} {args : Array Value} {below : List Frame} {meth : Method} {c : Code} {d : Nat} {ad : ts_I → Nat} {kk nn : Nat} {Q : State → Prop} (hl : l.stackTraces = false) (C : ts_CX D dT sz p l R s m args meth c RX0 cX0_transactionsAbortedWith 5 (some .int) d) (hdd : 1 ≤ d) (b0 : Nat) (hb0 : b0 < 2) (c1 : Int32) (c3 : Int32) (u : ts_Mem) (hkn : kk ≤ R.cells ∧ nn ≤ R.slots) : ∀ (n : Nat) (v2 : Int32) (v4 : Int32) (q : (Int32 × Int32)) (h : lp_X0_transactionsAbortedWith_29 b0 c1 c3 u n v2 v4 = some q) (K : ts_V D dT sz p l e R s m args below meth c 5 Q ad ts_lv ts_R0 79 [some (.inr (1, b0, 0)), some (.inl (.int c1)), some (.inl (.int q.1)), some (.inl (.int c3)), some (.inl (.int q.2))] [] u kk nn), ts_V D dT sz p l e R s m args below meth c 5 Q ad ts_lv ts_R0 29 [some (.inr (1, b0, 0)), some (.inl (.int c1)), some (.inl (.int v2)), some (.inl (.int c3)), some (.inl (.int v4))] [] u kk nn
  | 0, _, _, _, h, _ => by cases h
  | n + 1, v2, v4, q, h, K => by
      rw [lp_X0_transactionsAbortedWith_29] at h
      refine tv_iload C (pc := 29) dX0_transactionsAbortedWith_29 rfl ?_
      refine tv_aload_n C (pc := 31) dX0_transactionsAbortedWith_31 rfl rfl ?_
      refine tv_getI C (pc := 32) dX0_transactionsAbortedWith_32 fl_X0_18 (ts_live (k := 1) (by decide) hb0 (by decide)) rfl (cd := 0) rfl (by decide) ?_
      refine tv_icmp_ge C (pc := 35) 79 dX0_transactionsAbortedWith_35 (by decide) (fun hc => ?_) (fun hc => ?_)
      · have h := ts_ifp h hc
        cases h
        exact K
      · have h := ts_ifn h hc
        refine tv_aload_n C (pc := 38) dX0_transactionsAbortedWith_38 rfl rfl ?_
        refine tv_getR C (pc := 39) dX0_transactionsAbortedWith_39 fl_X0_23 (ts_live (k := 1) (by decide) hb0 (by decide)) rfl rfl (i2 := (2, b0, 0)) rfl ?_
        refine tv_iload C (pc := 42) dX0_transactionsAbortedWith_42 rfl ?_
        obtain ⟨hr4, h⟩ := ts_gd h
        refine tv_aaload5 C (pc := 44) dX0_transactionsAbortedWith_44 (ts_live (k := 2) (by decide) hb0 (by decide)) rfl hr4 (j := v4.toNatClampNeg) rfl (i2 := (11, b0, v4.toNatClampNeg)) rfl ?_
        obtain ⟨q5, hq5, h⟩ := ts_bd h
        refine tv_callV C (pc := 45) dX0_transactionsAbortedWith_45 (ci := 5) (q := (RX5, TX5, 10)) rfl yl_X0_182 (m_X5_isUncommitted (D := D) (dT := dT) (sz := sz) (ad := ad) hl b0 hb0 v4.toNatClampNeg (ts_vin hr4) u q5 hq5) (ts_live (k := 11) (by decide) hb0 (ts_vin hr4)) rfl (Nat.le_trans (Nat.le_of_ble_eq_true rfl) hdd) (As := []) rfl ⟨hkn.1, hkn.2⟩ (fun _ => Nat.le_of_ble_eq_true rfl) rfl ?_
        refine tv_if_eq C (pc := 48) 73 dX0_transactionsAbortedWith_48 (by decide) (fun hc => ?_) (fun hc => ?_)
        · have h := ts_ifp h hc
          refine tv_iinc C (pc := 73) dX0_transactionsAbortedWith_73 (v := (v4 + (1 : Int32))) (L' := [some (.inr (1, b0, 0)), some (.inl (.int c1)), some (.inl (.int v2)), some (.inl (.int c3)), some (.inl (.int (v4 + (1 : Int32))))]) rfl rfl (by decide) rfl rfl ?_
          refine tv_goto C (pc := 76) 29 dX0_transactionsAbortedWith_76 (by decide) ?_
          exact lt_X0_transactionsAbortedWith_29 hl C hdd b0 hb0 c1 c3 u hkn n v2 (v4 + (1 : Int32)) q h K
        · have h := ts_ifn h hc
          refine tv_aload_n C (pc := 51) dX0_transactionsAbortedWith_51 rfl rfl ?_
          refine tv_getR C (pc := 52) dX0_transactionsAbortedWith_52 fl_X0_23 (ts_live (k := 1) (by decide) hb0 (by decide)) rfl rfl (i2 := (2, b0, 0)) rfl ?_
          refine tv_iload C (pc := 55) dX0_transactionsAbortedWith_55 rfl ?_
          obtain ⟨hr6, h⟩ := ts_gd h
          refine tv_aaload5 C (pc := 57) dX0_transactionsAbortedWith_57 (ts_live (k := 2) (by decide) hb0 (by decide)) rfl hr6 (j := v4.toNatClampNeg) rfl (i2 := (11, b0, v4.toNatClampNeg)) rfl ?_
          refine tv_getI C (pc := 58) dX0_transactionsAbortedWith_58 fl_X0_130 (ts_live (k := 11) (by decide) hb0 (ts_vin hr6)) rfl (cd := 0) rfl (by decide) ?_
          refine tv_iload_n C (pc := 61) dX0_transactionsAbortedWith_61 rfl rfl ?_
          refine tv_iand C (pc := 62) dX0_transactionsAbortedWith_62 ?_
          refine tv_if_eq C (pc := 63) 73 dX0_transactionsAbortedWith_63 (by decide) (fun hc => ?_) (fun hc => ?_)
          · have h := ts_ifp h hc
            refine tv_iinc C (pc := 73) dX0_transactionsAbortedWith_73 (v := (v4 + (1 : Int32))) (L' := [some (.inr (1, b0, 0)), some (.inl (.int c1)), some (.inl (.int v2)), some (.inl (.int c3)), some (.inl (.int (v4 + (1 : Int32))))]) rfl rfl (by decide) rfl rfl ?_
            refine tv_goto C (pc := 76) 29 dX0_transactionsAbortedWith_76 (by decide) ?_
            exact lt_X0_transactionsAbortedWith_29 hl C hdd b0 hb0 c1 c3 u hkn n v2 (v4 + (1 : Int32)) q h K
          · have h := ts_ifn h hc
            refine tv_iload_n C (pc := 66) dX0_transactionsAbortedWith_66 rfl rfl ?_
            refine tv_iconst C (pc := 67) dX0_transactionsAbortedWith_67 (v := (1 : Int32)) rfl ?_
            refine tv_iload C (pc := 68) dX0_transactionsAbortedWith_68 rfl ?_
            refine tv_ishl C (pc := 70) dX0_transactionsAbortedWith_70 ?_
            refine tv_ior C (pc := 71) dX0_transactionsAbortedWith_71 ?_
            refine tv_nmI (fun x7 hx7 => ?_)
            have h := ts_lt h hx7
            refine tv_istore_n C (pc := 72) dX0_transactionsAbortedWith_72 (L' := [some (.inr (1, b0, 0)), some (.inl (.int c1)), some (.inl (.int x7)), some (.inl (.int c3)), some (.inl (.int v4))]) rfl (by decide) rfl rfl ?_
            refine tv_iinc C (pc := 73) dX0_transactionsAbortedWith_73 (v := (v4 + (1 : Int32))) (L' := [some (.inr (1, b0, 0)), some (.inl (.int c1)), some (.inl (.int x7)), some (.inl (.int c3)), some (.inl (.int (v4 + (1 : Int32))))]) rfl rfl (by decide) rfl rfl ?_
            refine tv_goto C (pc := 76) 29 dX0_transactionsAbortedWith_76 (by decide) ?_
            exact lt_X0_transactionsAbortedWith_29 hl C hdd b0 hb0 c1 c3 u hkn n x7 (v4 + (1 : Int32)) q h K
set_option maxRecDepth 100000 in
set_option maxHeartbeats 4000000 in
theorem lt_X0_transactionsAbortedWith_20 {D : va_G} {dT : Nat → ClassId} {sz : Nat} {p : Program} {l : Launch} {e : Env} {R : Room} {s : State} {m : MethodId} {args : Array Value} {below : List Frame} {meth : Method} {c : Code} {d : Nat} {ad : ts_I → Nat} {kk nn : Nat} {Q : State → Prop} (hl : l.stackTraces = false) (C : ts_CX D dT sz p l R s m args meth c RX0 cX0_transactionsAbortedWith 5 (some .int) d) (hdd : 1 ≤ d) (b0 : Nat) (hb0 : b0 < 2) (c1 : Int32) (u : ts_Mem) (hkn : kk ≤ R.cells ∧ nn ≤ R.slots) : ∀ (n : Nat) (v2 : Int32) (v3 : Int32) (q : (Int32 × Int32)) (h : lp_X0_transactionsAbortedWith_20 b0 c1 u n v2 v3 = some q) (K : ts_V D dT sz p l e R s m args below meth c 5 Q ad ts_lv ts_R0 85 [some (.inr (1, b0, 0)), some (.inl (.int c1)), some (.inl (.int q.1)), some (.inl (.int q.2)), none] [] u kk nn), ts_V D dT sz p l e R s m args below meth c 5 Q ad ts_lv ts_R0 20 [some (.inr (1, b0, 0)), some (.inl (.int c1)), some (.inl (.int v2)), some (.inl (.int v3)), none] [] u kk nn
  | 0, _, _, _, h, _ => by cases h
  | n + 1, v2, v3, q, h, K => by
      rw [lp_X0_transactionsAbortedWith_20] at h
      refine tv_iload_n C (pc := 20) dX0_transactionsAbortedWith_20 rfl rfl ?_
      refine tv_bipush C (pc := 21) dX0_transactionsAbortedWith_21 (v := (16 : Int32)) rfl ?_
      refine tv_icmp_ge C (pc := 23) 85 dX0_transactionsAbortedWith_23 (by decide) (fun hc => ?_) (fun hc => ?_)
      · have h := ts_ifp h hc
        cases h
        exact K
      · have h := ts_ifn h hc
        refine tv_iconst C (pc := 26) dX0_transactionsAbortedWith_26 (v := (0 : Int32)) rfl ?_
        refine tv_istore C (pc := 27) dX0_transactionsAbortedWith_27 (L' := [some (.inr (1, b0, 0)), some (.inl (.int c1)), some (.inl (.int v2)), some (.inl (.int v3)), some (.inl (.int (0 : Int32)))]) (by decide) rfl rfl ?_
        obtain ⟨q8, hq8, h⟩ := ts_bd h
        refine lt_X0_transactionsAbortedWith_29 hl C hdd b0 hb0 c1 v3 u hkn ts_fu v2 (0 : Int32) q8 hq8 ?_
        refine tv_iinc C (pc := 79) dX0_transactionsAbortedWith_79 (v := (v3 + (1 : Int32))) (L' := [some (.inr (1, b0, 0)), some (.inl (.int c1)), some (.inl (.int q8.1)), some (.inl (.int (v3 + (1 : Int32)))), some (.inl (.int q8.2))]) rfl rfl (by decide) rfl rfl ?_
        refine tv_goto C (pc := 82) 20 dX0_transactionsAbortedWith_82 (by decide) ?_
        refine tv_drop 4 (L' := [some (.inr (1, b0, 0)), some (.inl (.int c1)), some (.inl (.int q8.1)), some (.inl (.int (v3 + (1 : Int32)))), none]) rfl ?_
        exact lt_X0_transactionsAbortedWith_20 hl C hdd b0 hb0 c1 u hkn n q8.1 (v3 + (1 : Int32)) q h K
set_option maxRecDepth 100000 in
set_option maxHeartbeats 4000000 in
theorem m_X0_transactionsAbortedWith {l : Launch} {D : va_G} {dT : Nat → ClassId} {sz : Nat} {ad : ts_I → Nat} (hl : l.stackTraces = false) (b0 : Nat) (hb0 : b0 < 2) (p1 : Int32) (u : ts_Mem) (r : Int32) (h : f_X0_transactionsAbortedWith b0 p1 u = some r) : ts_M l D dT sz yX0_transactionsAbortedWith wX0_transactionsAbortedWith 1 0 0 ad ts_lv ts_R0 [.inr (1, b0, 0), .inl (.int p1)] u (.inl (some (.int r))) u := by
    unfold f_X0_transactionsAbortedWith at h
    refine ts_enter hl (by decide) rfl rfl (Nat.le_of_ble_eq_true rfl) ?_
    intro p e s m args below meth c C hX hnm
    have C : ts_CX D dT sz p l (ts_rm 1 0 0) s m args meth c RX0 cX0_transactionsAbortedWith 5 (some .int) 1 := C
    have hdd : 1 ≤ 1 := Nat.le_refl _
    refine tv_aload_n C (pc := 0) dX0_transactionsAbortedWith_0 rfl rfl ?_
    refine tv_getR C (pc := 1) dX0_transactionsAbortedWith_1 fl_X0_23 (ts_live (k := 1) (by decide) hb0 (by decide)) rfl rfl (i2 := (2, b0, 0)) rfl ?_
    refine tv_iload_n C (pc := 4) dX0_transactionsAbortedWith_4 rfl rfl ?_
    obtain ⟨hr1, h⟩ := ts_gd h
    refine tv_aaload5 C (pc := 5) dX0_transactionsAbortedWith_5 (ts_live (k := 2) (by decide) hb0 (by decide)) rfl hr1 (j := p1.toNatClampNeg) rfl (i2 := (11, b0, p1.toNatClampNeg)) rfl ?_
    obtain ⟨q2, hq2, h⟩ := ts_bd h
    refine tv_callV C (pc := 6) dX0_transactionsAbortedWith_6 (ci := 5) (q := (RX5, TX5, 10)) rfl yl_X0_182 (m_X5_isUncommitted (D := D) (dT := dT) (sz := sz) (ad := ad) hl b0 hb0 p1.toNatClampNeg (ts_vin hr1) u q2 hq2) (ts_live (k := 11) (by decide) hb0 (ts_vin hr1)) rfl (Nat.le_trans (Nat.le_of_ble_eq_true rfl) hdd) (As := []) rfl ⟨Nat.le_of_ble_eq_true rfl, Nat.le_of_ble_eq_true rfl⟩ (fun _ => Nat.le_of_ble_eq_true rfl) rfl ?_
    refine tv_if_ne C (pc := 9) 14 dX0_transactionsAbortedWith_9 (by decide) (fun hc => ?_) (fun hc => ?_)
    · have h := ts_ifn h hc
      refine tv_iconst C (pc := 14) dX0_transactionsAbortedWith_14 (v := (1 : Int32)) rfl ?_
      refine tv_iload_n C (pc := 15) dX0_transactionsAbortedWith_15 rfl rfl ?_
      refine tv_ishl C (pc := 16) dX0_transactionsAbortedWith_16 ?_
      refine tv_nmI (fun x3 hx3 => ?_)
      have h := ts_lt h hx3
      refine tv_istore_n C (pc := 17) dX0_transactionsAbortedWith_17 (L' := [some (.inr (1, b0, 0)), some (.inl (.int p1)), some (.inl (.int x3)), none, none]) rfl (by decide) rfl rfl ?_
      refine tv_iconst C (pc := 18) dX0_transactionsAbortedWith_18 (v := (0 : Int32)) rfl ?_
      refine tv_istore_n C (pc := 19) dX0_transactionsAbortedWith_19 (L' := [some (.inr (1, b0, 0)), some (.inl (.int p1)), some (.inl (.int x3)), some (.inl (.int (0 : Int32))), none]) rfl (by decide) rfl rfl ?_
      obtain ⟨q9, hq9, h⟩ := ts_bd h
      refine lt_X0_transactionsAbortedWith_20 hl C hdd b0 hb0 p1 u ⟨Nat.le_of_ble_eq_true rfl, Nat.le_of_ble_eq_true rfl⟩ ts_fu x3 (0 : Int32) q9 hq9 ?_
      refine tv_iload_n C (pc := 85) dX0_transactionsAbortedWith_85 rfl rfl ?_
      cases h
      exact tv_iret C (pc := 86) rfl dX0_transactionsAbortedWith_86 ⟨Nat.le_of_ble_eq_true rfl, Nat.le_of_ble_eq_true rfl⟩
    · have h := ts_ifp h hc
      refine tv_iconst C (pc := 12) dX0_transactionsAbortedWith_12 (v := (0 : Int32)) rfl ?_
      cases h
      exact tv_iret C (pc := 13) rfl dX0_transactionsAbortedWith_13 ⟨Nat.le_of_ble_eq_true rfl, Nat.le_of_ble_eq_true rfl⟩
set_option maxRecDepth 100000 in
set_option maxHeartbeats 4000000 in
theorem lt_X0_lastCommittedAtMost_6 {D : va_G} {dT : Nat → ClassId} {sz : Nat} {p : Program} {l : Launch} {e : Env} {R : Room} {s : State} {m : MethodId} {args : Array Value} {below : List Frame} {meth : Method} {c : Code} {d : Nat} {ad : ts_I → Nat} {kk nn : Nat} {Q : State → Prop} (hl : l.stackTraces = false) (C : ts_CX D dT sz p l R s m args meth c RX0 cX0_lastCommittedAtMost 4 (some .int) d) (hdd : 2 ≤ d) (b0 : Nat) (hb0 : b0 < 2) (b1 : Nat) (hb1 : b1 < 2) (i1 : Nat) (hi1 : i1 < 8) (c2 : Int32) (u : ts_Mem) (hkn : kk ≤ R.cells ∧ nn ≤ R.slots) : ∀ (n : Nat) (v3 : Int32) (q : Int32) (h : lp_X0_lastCommittedAtMost_6 b0 b1 i1 c2 u n v3 = some q) (K : ts_V D dT sz p l e R s m args below meth c 4 Q ad ts_lv ts_R0 29 [some (.inr (1, b0, 0)), some (.inr (16, b1, i1)), some (.inl (.int c2)), some (.inl (.int q))] [] u kk nn), ts_V D dT sz p l e R s m args below meth c 4 Q ad ts_lv ts_R0 6 [some (.inr (1, b0, 0)), some (.inr (16, b1, i1)), some (.inl (.int c2)), some (.inl (.int v3))] [] u kk nn
  | 0, _, _, h, _ => by cases h
  | n + 1, v3, q, h, K => by
      rw [lp_X0_lastCommittedAtMost_6] at h
      refine tv_iload_n C (pc := 6) dX0_lastCommittedAtMost_6 rfl rfl ?_
      refine tv_if_lt C (pc := 7) 29 dX0_lastCommittedAtMost_7 (by decide) (fun hc => ?_) (fun hc => ?_)
      · have h := ts_ifp h hc
        cases h
        exact K
      · have h := ts_ifn h hc
        refine tv_aload_n C (pc := 10) dX0_lastCommittedAtMost_10 rfl rfl ?_
        refine tv_aload_n C (pc := 11) dX0_lastCommittedAtMost_11 rfl rfl ?_
        refine tv_getR C (pc := 12) dX0_lastCommittedAtMost_12 fl_X0_123 (ts_live (k := 16) (by decide) hb1 hi1) rfl rfl (i2 := (20, b1, i1)) rfl ?_
        refine tv_iload_n C (pc := 15) dX0_lastCommittedAtMost_15 rfl rfl ?_
        obtain ⟨hr2, h⟩ := ts_gd h
        refine tv_iaload C (pc := 16) dX0_lastCommittedAtMost_16 (ts_live (k := 20) (by decide) hb1 hi1) rfl hr2 (j := v3.toNatClampNeg) rfl ?_
        obtain ⟨q3, hq3, h⟩ := ts_bd h
        refine tv_callV C (pc := 17) dX0_lastCommittedAtMost_17 (ci := 0) (q := (RX0, TX0, 8)) rfl yl_X0_126 (m_X0_isUncommittedWriter (D := D) (dT := dT) (sz := sz) (ad := ad) hl b0 hb0 (ts_gI u (20, b1, i1) v3.toNatClampNeg) u q3 hq3) (ts_live (k := 1) (by decide) hb0 (by decide)) rfl (Nat.le_trans (Nat.le_of_ble_eq_true rfl) hdd) (As := [.inl (.int (ts_gI u (20, b1, i1) v3.toNatClampNeg))]) rfl ⟨hkn.1, hkn.2⟩ (fun _ => Nat.le_of_ble_eq_true rfl) rfl ?_
        refine tv_if_eq C (pc := 20) 29 dX0_lastCommittedAtMost_20 (by decide) (fun hc => ?_) (fun hc => ?_)
        · have h := ts_ifp h hc
          cases h
          exact K
        · have h := ts_ifn h hc
          refine tv_iinc C (pc := 23) dX0_lastCommittedAtMost_23 (v := (v3 + (-1 : Int32))) (L' := [some (.inr (1, b0, 0)), some (.inr (16, b1, i1)), some (.inl (.int c2)), some (.inl (.int (v3 + (-1 : Int32))))]) rfl rfl (by decide) rfl rfl ?_
          refine tv_goto C (pc := 26) 6 dX0_lastCommittedAtMost_26 (by decide) ?_
          exact lt_X0_lastCommittedAtMost_6 hl C hdd b0 hb0 b1 hb1 i1 hi1 c2 u hkn n (v3 + (-1 : Int32)) q h K
set_option maxRecDepth 100000 in
set_option maxHeartbeats 4000000 in
theorem m_X0_lastCommittedAtMost {l : Launch} {D : va_G} {dT : Nat → ClassId} {sz : Nat} {ad : ts_I → Nat} (hl : l.stackTraces = false) (b0 : Nat) (hb0 : b0 < 2) (b1 : Nat) (hb1 : b1 < 2) (i1 : Nat) (hi1 : i1 < 8) (p2 : Int32) (u : ts_Mem) (r : Int32) (h : f_X0_lastCommittedAtMost b0 b1 i1 p2 u = some r) : ts_M l D dT sz yX0_lastCommittedAtMost wX0_lastCommittedAtMost 2 0 0 ad ts_lv ts_R0 [.inr (1, b0, 0), .inr (16, b1, i1), .inl (.int p2)] u (.inl (some (.int r))) u := by
    unfold f_X0_lastCommittedAtMost at h
    refine ts_enter hl (by decide) rfl rfl (Nat.le_of_ble_eq_true rfl) ?_
    intro p e s m args below meth c C hX hnm
    have C : ts_CX D dT sz p l (ts_rm 2 0 0) s m args meth c RX0 cX0_lastCommittedAtMost 4 (some .int) 2 := C
    have hdd : 2 ≤ 2 := Nat.le_refl _
    refine tv_aload_n C (pc := 0) dX0_lastCommittedAtMost_0 rfl rfl ?_
    refine tv_iload_n C (pc := 1) dX0_lastCommittedAtMost_1 rfl rfl ?_
    obtain ⟨q1, hq1, h⟩ := ts_bd h
    refine tv_callV C (pc := 2) dX0_lastCommittedAtMost_2 (ci := 1) (q := (RX1, TX1, 5)) rfl yl_X0_113 (m_X1_lastAtMost (D := D) (dT := dT) (sz := sz) (ad := ad) hl b1 hb1 i1 hi1 p2 u q1 hq1) (ts_live (k := 16) (by decide) hb1 hi1) rfl (Nat.le_trans (Nat.le_of_ble_eq_true rfl) hdd) (As := [.inl (.int p2)]) rfl ⟨Nat.le_of_ble_eq_true rfl, Nat.le_of_ble_eq_true rfl⟩ (fun _ => Nat.le_of_ble_eq_true rfl) rfl ?_
    refine tv_istore_n C (pc := 5) dX0_lastCommittedAtMost_5 (L' := [some (.inr (1, b0, 0)), some (.inr (16, b1, i1)), some (.inl (.int p2)), some (.inl (.int q1))]) rfl (by decide) rfl rfl ?_
    obtain ⟨q4, hq4, h⟩ := ts_bd h
    refine lt_X0_lastCommittedAtMost_6 hl C hdd b0 hb0 b1 hb1 i1 hi1 p2 u ⟨Nat.le_of_ble_eq_true rfl, Nat.le_of_ble_eq_true rfl⟩ ts_fu q1 q4 hq4 ?_
    refine tv_iload_n C (pc := 29) dX0_lastCommittedAtMost_29 rfl rfl ?_
    cases h
    exact tv_iret C (pc := 30) rfl dX0_lastCommittedAtMost_30 ⟨Nat.le_of_ble_eq_true rfl, Nat.le_of_ble_eq_true rfl⟩
set_option maxRecDepth 100000 in
set_option maxHeartbeats 4000000 in
theorem lt_X0_lowestNeededTimestamp_7 {D : va_G} {dT : Nat → ClassId} {sz : Nat} {p : Program} {l : Launch} {e : Env} {R : Room} {s : State} {m : MethodId} {args : Array Value} {below : List Frame} {meth : Method} {c : Code} {d : Nat} {ad : ts_I → Nat} {kk nn : Nat} {Q : State → Prop} (hl : l.stackTraces = false) (C : ts_CX D dT sz p l R s m args meth c RX0 cX0_lowestNeededTimestamp 3 (some .int) d) (hdd : 1 ≤ d) (b0 : Nat) (hb0 : b0 < 2) (u : ts_Mem) (hkn : kk ≤ R.cells ∧ nn ≤ R.slots) : ∀ (n : Nat) (v1 : Int32) (v2 : Int32) (q : (Int32 × Int32)) (h : lp_X0_lowestNeededTimestamp_7 b0 u n v1 v2 = some q) (K : ts_V D dT sz p l e R s m args below meth c 3 Q ad ts_lv ts_R0 47 [some (.inr (1, b0, 0)), some (.inl (.int q.1)), some (.inl (.int q.2))] [] u kk nn), ts_V D dT sz p l e R s m args below meth c 3 Q ad ts_lv ts_R0 7 [some (.inr (1, b0, 0)), some (.inl (.int v1)), some (.inl (.int v2))] [] u kk nn
  | 0, _, _, _, h, _ => by cases h
  | n + 1, v1, v2, q, h, K => by
      rw [lp_X0_lowestNeededTimestamp_7] at h
      refine tv_iload_n C (pc := 7) dX0_lowestNeededTimestamp_7 rfl rfl ?_
      refine tv_aload_n C (pc := 8) dX0_lowestNeededTimestamp_8 rfl rfl ?_
      refine tv_getI C (pc := 9) dX0_lowestNeededTimestamp_9 fl_X0_18 (ts_live (k := 1) (by decide) hb0 (by decide)) rfl (cd := 0) rfl (by decide) ?_
      refine tv_icmp_ge C (pc := 12) 47 dX0_lowestNeededTimestamp_12 (by decide) (fun hc => ?_) (fun hc => ?_)
      · have h := ts_ifp h hc
        cases h
        exact K
      · have h := ts_ifn h hc
        refine tv_aload_n C (pc := 15) dX0_lowestNeededTimestamp_15 rfl rfl ?_
        refine tv_getR C (pc := 16) dX0_lowestNeededTimestamp_16 fl_X0_23 (ts_live (k := 1) (by decide) hb0 (by decide)) rfl rfl (i2 := (2, b0, 0)) rfl ?_
        refine tv_iload_n C (pc := 19) dX0_lowestNeededTimestamp_19 rfl rfl ?_
        obtain ⟨hr2, h⟩ := ts_gd h
        refine tv_aaload5 C (pc := 20) dX0_lowestNeededTimestamp_20 (ts_live (k := 2) (by decide) hb0 (by decide)) rfl hr2 (j := v2.toNatClampNeg) rfl (i2 := (11, b0, v2.toNatClampNeg)) rfl ?_
        obtain ⟨q3, hq3, h⟩ := ts_bd h
        refine tv_callV C (pc := 21) dX0_lowestNeededTimestamp_21 (ci := 5) (q := (RX5, TX5, 10)) rfl yl_X0_182 (m_X5_isUncommitted (D := D) (dT := dT) (sz := sz) (ad := ad) hl b0 hb0 v2.toNatClampNeg (ts_vin hr2) u q3 hq3) (ts_live (k := 11) (by decide) hb0 (ts_vin hr2)) rfl (Nat.le_trans (Nat.le_of_ble_eq_true rfl) hdd) (As := []) rfl ⟨hkn.1, hkn.2⟩ (fun _ => Nat.le_of_ble_eq_true rfl) rfl ?_
        refine tv_if_eq C (pc := 24) 41 dX0_lowestNeededTimestamp_24 (by decide) (fun hc => ?_) (fun hc => ?_)
        · have h := ts_ifp h hc
          refine tv_iinc C (pc := 41) dX0_lowestNeededTimestamp_41 (v := (v2 + (1 : Int32))) (L' := [some (.inr (1, b0, 0)), some (.inl (.int v1)), some (.inl (.int (v2 + (1 : Int32))))]) rfl rfl (by decide) rfl rfl ?_
          refine tv_goto C (pc := 44) 7 dX0_lowestNeededTimestamp_44 (by decide) ?_
          exact lt_X0_lowestNeededTimestamp_7 hl C hdd b0 hb0 u hkn n v1 (v2 + (1 : Int32)) q h K
        · have h := ts_ifn h hc
          refine tv_iload_n C (pc := 27) dX0_lowestNeededTimestamp_27 rfl rfl ?_
          refine tv_aload_n C (pc := 28) dX0_lowestNeededTimestamp_28 rfl rfl ?_
          refine tv_getR C (pc := 29) dX0_lowestNeededTimestamp_29 fl_X0_23 (ts_live (k := 1) (by decide) hb0 (by decide)) rfl rfl (i2 := (2, b0, 0)) rfl ?_
          refine tv_iload_n C (pc := 32) dX0_lowestNeededTimestamp_32 rfl rfl ?_
          obtain ⟨hr4, h⟩ := ts_gd h
          refine tv_aaload5 C (pc := 33) dX0_lowestNeededTimestamp_33 (ts_live (k := 2) (by decide) hb0 (by decide)) rfl hr4 (j := v2.toNatClampNeg) rfl (i2 := (11, b0, v2.toNatClampNeg)) rfl ?_
          refine tv_getI C (pc := 34) dX0_lowestNeededTimestamp_34 fl_X0_110 (ts_live (k := 11) (by decide) hb0 (ts_vin hr4)) rfl (cd := 0) rfl (by decide) ?_
          refine tv_min C (pc := 37) dX0_lowestNeededTimestamp_37 ml_X0_191 ts_mn ⟨hkn.1, hkn.2⟩ (fun _ => Nat.le_of_ble_eq_true rfl) ?_
          refine tv_nmI (fun x5 hx5 => ?_)
          have h := ts_lt h hx5
          refine tv_istore_n C (pc := 40) dX0_lowestNeededTimestamp_40 (L' := [some (.inr (1, b0, 0)), some (.inl (.int x5)), some (.inl (.int v2))]) rfl (by decide) rfl rfl ?_
          refine tv_iinc C (pc := 41) dX0_lowestNeededTimestamp_41 (v := (v2 + (1 : Int32))) (L' := [some (.inr (1, b0, 0)), some (.inl (.int x5)), some (.inl (.int (v2 + (1 : Int32))))]) rfl rfl (by decide) rfl rfl ?_
          refine tv_goto C (pc := 44) 7 dX0_lowestNeededTimestamp_44 (by decide) ?_
          exact lt_X0_lowestNeededTimestamp_7 hl C hdd b0 hb0 u hkn n x5 (v2 + (1 : Int32)) q h K
set_option maxRecDepth 100000 in
set_option maxHeartbeats 4000000 in
theorem m_X0_lowestNeededTimestamp {l : Launch} {D : va_G} {dT : Nat → ClassId} {sz : Nat} {ad : ts_I → Nat} (hl : l.stackTraces = false) (b0 : Nat) (hb0 : b0 < 2) (u : ts_Mem) (r : Int32) (h : f_X0_lowestNeededTimestamp b0 u = some r) : ts_M l D dT sz yX0_lowestNeededTimestamp wX0_lowestNeededTimestamp 1 0 0 ad ts_lv ts_R0 [.inr (1, b0, 0)] u (.inl (some (.int r))) u := by
    unfold f_X0_lowestNeededTimestamp at h
    refine ts_enter hl (by decide) rfl rfl (Nat.le_of_ble_eq_true rfl) ?_
    intro p e s m args below meth c C hX hnm
    have C : ts_CX D dT sz p l (ts_rm 1 0 0) s m args meth c RX0 cX0_lowestNeededTimestamp 3 (some .int) 1 := C
    have hdd : 1 ≤ 1 := Nat.le_refl _
    refine tv_aload_n C (pc := 0) dX0_lowestNeededTimestamp_0 rfl rfl ?_
    refine tv_getI C (pc := 1) dX0_lowestNeededTimestamp_1 fl_X0_15 (ts_live (k := 1) (by decide) hb0 (by decide)) rfl (cd := 0) rfl (by decide) ?_
    refine tv_nmI (fun x1 hx1 => ?_)
    have h := ts_lt h hx1
    refine tv_istore_n C (pc := 4) dX0_lowestNeededTimestamp_4 (L' := [some (.inr (1, b0, 0)), some (.inl (.int x1)), none]) rfl (by decide) rfl rfl ?_
    refine tv_iconst C (pc := 5) dX0_lowestNeededTimestamp_5 (v := (0 : Int32)) rfl ?_
    refine tv_istore_n C (pc := 6) dX0_lowestNeededTimestamp_6 (L' := [some (.inr (1, b0, 0)), some (.inl (.int x1)), some (.inl (.int (0 : Int32)))]) rfl (by decide) rfl rfl ?_
    obtain ⟨q6, hq6, h⟩ := ts_bd h
    refine lt_X0_lowestNeededTimestamp_7 hl C hdd b0 hb0 u ⟨Nat.le_of_ble_eq_true rfl, Nat.le_of_ble_eq_true rfl⟩ ts_fu x1 (0 : Int32) q6 hq6 ?_
    refine tv_iload_n C (pc := 47) dX0_lowestNeededTimestamp_47 rfl rfl ?_
    cases h
    exact tv_iret C (pc := 48) rfl dX0_lowestNeededTimestamp_48 ⟨Nat.le_of_ble_eq_true rfl, Nat.le_of_ble_eq_true rfl⟩
set_option maxRecDepth 100000 in
set_option maxHeartbeats 4000000 in
theorem lt_X0_removeOldVersions_9 {D : va_G} {dT : Nat → ClassId} {sz : Nat} {p : Program} {l : Launch} {e : Env} {R : Room} {s : State} {m : MethodId} {args : Array Value} {below : List Frame} {meth : Method} {c : Code} {d : Nat} {ad : ts_I → Nat} {kk nn : Nat} {Q : State → Prop} (hl : l.stackTraces = false) (C : ts_CX D dT sz p l R s m args meth c RX0 cX0_removeOldVersions 5 (some .int) d) (hdd : 3 ≤ d) (b0 : Nat) (hb0 : b0 < 2) (c1 : Int32) (hkn : kk ≤ R.cells ∧ nn ≤ R.slots) : ∀ (n : Nat) (v2 : Int32) (v3 : Int32) (u : ts_Mem) (q : (Int32 × Int32 × ts_Mem)) (h : lp_X0_removeOldVersions_9 b0 c1 n v2 v3 u = some q) (K : ts_V D dT sz p l e R s m args below meth c 5 Q ad ts_lv ts_R0 55 [some (.inr (1, b0, 0)), some (.inl (.int c1)), some (.inl (.int q.1)), some (.inl (.int q.2.1)), none] [] q.2.2 kk nn), ts_V D dT sz p l e R s m args below meth c 5 Q ad ts_lv ts_R0 9 [some (.inr (1, b0, 0)), some (.inl (.int c1)), some (.inl (.int v2)), some (.inl (.int v3)), none] [] u kk nn
  | 0, _, _, _, _, h, _ => by cases h
  | n + 1, v2, v3, u, q, h, K => by
      rw [lp_X0_removeOldVersions_9] at h
      refine tv_iload_n C (pc := 9) dX0_removeOldVersions_9 rfl rfl ?_
      refine tv_bipush C (pc := 10) dX0_removeOldVersions_10 (v := (8 : Int32)) rfl ?_
      refine tv_icmp_ge C (pc := 12) 55 dX0_removeOldVersions_12 (by decide) (fun hc => ?_) (fun hc => ?_)
      · have h := ts_ifp h hc
        cases h
        exact K
      · have h := ts_ifn h hc
        refine tv_aload_n C (pc := 15) dX0_removeOldVersions_15 rfl rfl ?_
        refine tv_aload_n C (pc := 16) dX0_removeOldVersions_16 rfl rfl ?_
        refine tv_getR C (pc := 17) dX0_removeOldVersions_17 fl_X0_30 (ts_live (k := 1) (by decide) hb0 (by decide)) rfl rfl (i2 := (3, b0, 0)) rfl ?_
        refine tv_iload_n C (pc := 20) dX0_removeOldVersions_20 rfl rfl ?_
        obtain ⟨hr2, h⟩ := ts_gd h
        refine tv_aaload6 C (pc := 21) dX0_removeOldVersions_21 (ts_live (k := 3) (by decide) hb0 (by decide)) rfl hr2 (j := v3.toNatClampNeg) rfl (i2 := (16, b0, v3.toNatClampNeg)) rfl ?_
        refine tv_iload_n C (pc := 22) dX0_removeOldVersions_22 rfl rfl ?_
        obtain ⟨q3, hq3, h⟩ := ts_bd h
        refine tv_callV C (pc := 23) dX0_removeOldVersions_23 (ci := 0) (q := (RX0, TX0, 8)) rfl yl_X0_199 (m_X0_lastCommittedAtMost (D := D) (dT := dT) (sz := sz) (ad := ad) hl b0 hb0 b0 hb0 v3.toNatClampNeg (ts_vin hr2) c1 u q3 hq3) (ts_live (k := 1) (by decide) hb0 (by decide)) rfl (Nat.le_trans (Nat.le_of_ble_eq_true rfl) hdd) (As := [.inr (16, b0, v3.toNatClampNeg), .inl (.int c1)]) rfl ⟨hkn.1, hkn.2⟩ (fun _ => Nat.le_of_ble_eq_true rfl) rfl ?_
        refine tv_istore C (pc := 26) dX0_removeOldVersions_26 (L' := [some (.inr (1, b0, 0)), some (.inl (.int c1)), some (.inl (.int v2)), some (.inl (.int v3)), some (.inl (.int q3))]) (by decide) rfl rfl ?_
        refine tv_iload C (pc := 28) dX0_removeOldVersions_28 rfl ?_
        refine tv_if_le C (pc := 30) 49 dX0_removeOldVersions_30 (by decide) (fun hc => ?_) (fun hc => ?_)
        · have h := ts_ifp h hc
          refine tv_iinc C (pc := 49) dX0_removeOldVersions_49 (v := (v3 + (1 : Int32))) (L' := [some (.inr (1, b0, 0)), some (.inl (.int c1)), some (.inl (.int v2)), some (.inl (.int (v3 + (1 : Int32)))), some (.inl (.int q3))]) rfl rfl (by decide) rfl rfl ?_
          refine tv_goto C (pc := 52) 9 dX0_removeOldVersions_52 (by decide) ?_
          refine tv_drop 4 (L' := [some (.inr (1, b0, 0)), some (.inl (.int c1)), some (.inl (.int v2)), some (.inl (.int (v3 + (1 : Int32)))), none]) rfl ?_
          exact lt_X0_removeOldVersions_9 hl C hdd b0 hb0 c1 hkn n v2 (v3 + (1 : Int32)) u q h K
        · have h := ts_ifn h hc
          refine tv_aload_n C (pc := 33) dX0_removeOldVersions_33 rfl rfl ?_
          refine tv_getR C (pc := 34) dX0_removeOldVersions_34 fl_X0_30 (ts_live (k := 1) (by decide) hb0 (by decide)) rfl rfl (i2 := (3, b0, 0)) rfl ?_
          refine tv_iload_n C (pc := 37) dX0_removeOldVersions_37 rfl rfl ?_
          obtain ⟨hr4, h⟩ := ts_gd h
          refine tv_aaload6 C (pc := 38) dX0_removeOldVersions_38 (ts_live (k := 3) (by decide) hb0 (by decide)) rfl hr4 (j := v3.toNatClampNeg) rfl (i2 := (16, b0, v3.toNatClampNeg)) rfl ?_
          refine tv_iload C (pc := 39) dX0_removeOldVersions_39 rfl ?_
          obtain ⟨q5, hq5, h⟩ := ts_bd h
          refine tv_callV C (pc := 41) dX0_removeOldVersions_41 (ci := 1) (q := (RX1, TX1, 5)) rfl yl_X0_203 (m_X1_removeFirst (D := D) (dT := dT) (sz := sz) (ad := ad) hl b0 hb0 v3.toNatClampNeg (ts_vin hr4) q3 u q5 hq5) (ts_live (k := 16) (by decide) hb0 (ts_vin hr4)) rfl (Nat.le_trans (Nat.le_of_ble_eq_true rfl) hdd) (As := [.inl (.int q3)]) rfl ⟨hkn.1, hkn.2⟩ (fun _ => Nat.le_of_ble_eq_true rfl) rfl ?_
          refine tv_iload_n C (pc := 44) dX0_removeOldVersions_44 rfl rfl ?_
          refine tv_iload C (pc := 45) dX0_removeOldVersions_45 rfl ?_
          refine tv_iadd C (pc := 47) dX0_removeOldVersions_47 ?_
          refine tv_nmI (fun x6 hx6 => ?_)
          have h := ts_lt h hx6
          refine tv_istore_n C (pc := 48) dX0_removeOldVersions_48 (L' := [some (.inr (1, b0, 0)), some (.inl (.int c1)), some (.inl (.int x6)), some (.inl (.int v3)), some (.inl (.int q3))]) rfl (by decide) rfl rfl ?_
          refine tv_iinc C (pc := 49) dX0_removeOldVersions_49 (v := (v3 + (1 : Int32))) (L' := [some (.inr (1, b0, 0)), some (.inl (.int c1)), some (.inl (.int x6)), some (.inl (.int (v3 + (1 : Int32)))), some (.inl (.int q3))]) rfl rfl (by decide) rfl rfl ?_
          refine tv_goto C (pc := 52) 9 dX0_removeOldVersions_52 (by decide) ?_
          refine tv_drop 4 (L' := [some (.inr (1, b0, 0)), some (.inl (.int c1)), some (.inl (.int x6)), some (.inl (.int (v3 + (1 : Int32)))), none]) rfl ?_
          exact lt_X0_removeOldVersions_9 hl C hdd b0 hb0 c1 hkn n x6 (v3 + (1 : Int32)) q5 q h K
set_option maxRecDepth 100000 in
set_option maxHeartbeats 4000000 in
theorem m_X0_removeOldVersions {l : Launch} {D : va_G} {dT : Nat → ClassId} {sz : Nat} {ad : ts_I → Nat} (hl : l.stackTraces = false) (b0 : Nat) (hb0 : b0 < 2) (u : ts_Mem) (r : (Int32 × ts_Mem)) (h : f_X0_removeOldVersions b0 u = some r) : ts_M l D dT sz yX0_removeOldVersions wX0_removeOldVersions 3 0 0 ad ts_lv ts_R0 [.inr (1, b0, 0)] u (.inl (some (.int r.1))) r.2 := by
    unfold f_X0_removeOldVersions at h
    refine ts_enter hl (by decide) rfl rfl (Nat.le_of_ble_eq_true rfl) ?_
    intro p e s m args below meth c C hX hnm
    have C : ts_CX D dT sz p l (ts_rm 3 0 0) s m args meth c RX0 cX0_removeOldVersions 5 (some .int) 3 := C
    have hdd : 3 ≤ 3 := Nat.le_refl _
    refine tv_aload_n C (pc := 0) dX0_removeOldVersions_0 rfl rfl ?_
    obtain ⟨q1, hq1, h⟩ := ts_bd h
    refine tv_callV C (pc := 1) dX0_removeOldVersions_1 (ci := 0) (q := (RX0, TX0, 8)) rfl yl_X0_196 (m_X0_lowestNeededTimestamp (D := D) (dT := dT) (sz := sz) (ad := ad) hl b0 hb0 u q1 hq1) (ts_live (k := 1) (by decide) hb0 (by decide)) rfl (Nat.le_trans (Nat.le_of_ble_eq_true rfl) hdd) (As := []) rfl ⟨Nat.le_of_ble_eq_true rfl, Nat.le_of_ble_eq_true rfl⟩ (fun _ => Nat.le_of_ble_eq_true rfl) rfl ?_
    refine tv_istore_n C (pc := 4) dX0_removeOldVersions_4 (L' := [some (.inr (1, b0, 0)), some (.inl (.int q1)), none, none, none]) rfl (by decide) rfl rfl ?_
    refine tv_iconst C (pc := 5) dX0_removeOldVersions_5 (v := (0 : Int32)) rfl ?_
    refine tv_istore_n C (pc := 6) dX0_removeOldVersions_6 (L' := [some (.inr (1, b0, 0)), some (.inl (.int q1)), some (.inl (.int (0 : Int32))), none, none]) rfl (by decide) rfl rfl ?_
    refine tv_iconst C (pc := 7) dX0_removeOldVersions_7 (v := (0 : Int32)) rfl ?_
    refine tv_istore_n C (pc := 8) dX0_removeOldVersions_8 (L' := [some (.inr (1, b0, 0)), some (.inl (.int q1)), some (.inl (.int (0 : Int32))), some (.inl (.int (0 : Int32))), none]) rfl (by decide) rfl rfl ?_
    obtain ⟨q7, hq7, h⟩ := ts_bd h
    refine lt_X0_removeOldVersions_9 hl C hdd b0 hb0 q1 ⟨Nat.le_of_ble_eq_true rfl, Nat.le_of_ble_eq_true rfl⟩ ts_fu (0 : Int32) (0 : Int32) u q7 hq7 ?_
    refine tv_iload_n C (pc := 55) dX0_removeOldVersions_55 rfl rfl ?_
    cases h
    exact tv_iret C (pc := 56) rfl dX0_removeOldVersions_56 ⟨Nat.le_of_ble_eq_true rfl, Nat.le_of_ble_eq_true rfl⟩
set_option maxRecDepth 100000 in
set_option maxHeartbeats 4000000 in
theorem lt_X0_nextCommittedAfter_4 {D : va_G} {dT : Nat → ClassId} {sz : Nat} {p : Program} {l : Launch} {e : Env} {R : Room} {s : State} {m : MethodId} {args : Array Value} {below : List Frame} {meth : Method} {c : Code} {d : Nat} {ad : ts_I → Nat} {kk nn : Nat} {Q : State → Prop} (hl : l.stackTraces = false) (C : ts_CX D dT sz p l R s m args meth c RX0 cX0_nextCommittedAfter 5 (some .int) d) (hdd : 0 ≤ d) (b0 : Nat) (hb0 : b0 < 2) (c1 : Int32) (u : ts_Mem) (hkn : kk ≤ R.cells ∧ nn ≤ R.slots) : ∀ (n : Nat) (v2 : Int32) (v3 : Int32) (q : (Int32 × Int32)) (h : lp_X0_nextCommittedAfter_4 b0 c1 u n v2 v3 = some q) (K : ts_V D dT sz p l e R s m args below meth c 5 Q ad ts_lv ts_R0 67 [some (.inr (1, b0, 0)), some (.inl (.int c1)), some (.inl (.int q.1)), some (.inl (.int q.2)), none] [] u kk nn), ts_V D dT sz p l e R s m args below meth c 5 Q ad ts_lv ts_R0 4 [some (.inr (1, b0, 0)), some (.inl (.int c1)), some (.inl (.int v2)), some (.inl (.int v3)), none] [] u kk nn
  | 0, _, _, _, h, _ => by cases h
  | n + 1, v2, v3, q, h, K => by
      rw [lp_X0_nextCommittedAfter_4] at h
      refine tv_iload_n C (pc := 4) dX0_nextCommittedAfter_4 rfl rfl ?_
      refine tv_aload_n C (pc := 5) dX0_nextCommittedAfter_5 rfl rfl ?_
      refine tv_getI C (pc := 6) dX0_nextCommittedAfter_6 fl_X0_18 (ts_live (k := 1) (by decide) hb0 (by decide)) rfl (cd := 0) rfl (by decide) ?_
      refine tv_icmp_ge C (pc := 9) 67 dX0_nextCommittedAfter_9 (by decide) (fun hc => ?_) (fun hc => ?_)
      · have h := ts_ifp h hc
        cases h
        exact K
      · have h := ts_ifn h hc
        refine tv_aload_n C (pc := 12) dX0_nextCommittedAfter_12 rfl rfl ?_
        refine tv_getR C (pc := 13) dX0_nextCommittedAfter_13 fl_X0_23 (ts_live (k := 1) (by decide) hb0 (by decide)) rfl rfl (i2 := (2, b0, 0)) rfl ?_
        refine tv_iload_n C (pc := 16) dX0_nextCommittedAfter_16 rfl rfl ?_
        obtain ⟨hr1, h⟩ := ts_gd h
        refine tv_aaload5 C (pc := 17) dX0_nextCommittedAfter_17 (ts_live (k := 2) (by decide) hb0 (by decide)) rfl hr1 (j := v3.toNatClampNeg) rfl (i2 := (11, b0, v3.toNatClampNeg)) rfl ?_
        refine tv_astore C (pc := 18) dX0_nextCommittedAfter_18 (L' := [some (.inr (1, b0, 0)), some (.inl (.int c1)), some (.inl (.int v2)), some (.inl (.int v3)), some (.inr (11, b0, v3.toNatClampNeg))]) (by decide) rfl rfl ?_
        refine tv_aload C (pc := 20) dX0_nextCommittedAfter_20 rfl ?_
        refine tv_getI C (pc := 22) dX0_nextCommittedAfter_22 fl_X0_151 (ts_live (k := 11) (by decide) hb0 (ts_vin hr1)) rfl (cd := 0) rfl (by decide) ?_
        refine tv_iconst C (pc := 25) dX0_nextCommittedAfter_25 (v := (2 : Int32)) rfl ?_
        refine tv_icmp_ne C (pc := 26) 61 dX0_nextCommittedAfter_26 (by decide) (fun hc => ?_) (fun hc => ?_)
        · have h := ts_ifn h hc
          refine tv_iinc C (pc := 61) dX0_nextCommittedAfter_61 (v := (v3 + (1 : Int32))) (L' := [some (.inr (1, b0, 0)), some (.inl (.int c1)), some (.inl (.int v2)), some (.inl (.int (v3 + (1 : Int32)))), some (.inr (11, b0, v3.toNatClampNeg))]) rfl rfl (by decide) rfl rfl ?_
          refine tv_goto C (pc := 64) 4 dX0_nextCommittedAfter_64 (by decide) ?_
          refine tv_drop 4 (L' := [some (.inr (1, b0, 0)), some (.inl (.int c1)), some (.inl (.int v2)), some (.inl (.int (v3 + (1 : Int32)))), none]) rfl ?_
          exact lt_X0_nextCommittedAfter_4 hl C hdd b0 hb0 c1 u hkn n v2 (v3 + (1 : Int32)) q h K
        · have h := ts_ifp h hc
          refine tv_aload C (pc := 29) dX0_nextCommittedAfter_29 rfl ?_
          refine tv_getI C (pc := 31) dX0_nextCommittedAfter_31 fl_X0_110 (ts_live (k := 11) (by decide) hb0 (ts_vin hr1)) rfl (cd := 0) rfl (by decide) ?_
          refine tv_iload_n C (pc := 34) dX0_nextCommittedAfter_34 rfl rfl ?_
          refine tv_icmp_le C (pc := 35) 61 dX0_nextCommittedAfter_35 (by decide) (fun hc => ?_) (fun hc => ?_)
          · have h := ts_ifp h hc
            refine tv_iinc C (pc := 61) dX0_nextCommittedAfter_61 (v := (v3 + (1 : Int32))) (L' := [some (.inr (1, b0, 0)), some (.inl (.int c1)), some (.inl (.int v2)), some (.inl (.int (v3 + (1 : Int32)))), some (.inr (11, b0, v3.toNatClampNeg))]) rfl rfl (by decide) rfl rfl ?_
            refine tv_goto C (pc := 64) 4 dX0_nextCommittedAfter_64 (by decide) ?_
            refine tv_drop 4 (L' := [some (.inr (1, b0, 0)), some (.inl (.int c1)), some (.inl (.int v2)), some (.inl (.int (v3 + (1 : Int32)))), none]) rfl ?_
            exact lt_X0_nextCommittedAfter_4 hl C hdd b0 hb0 c1 u hkn n v2 (v3 + (1 : Int32)) q h K
          · have h := ts_ifn h hc
            refine tv_iload_n C (pc := 38) dX0_nextCommittedAfter_38 rfl rfl ?_
            refine tv_if_lt C (pc := 39) 59 dX0_nextCommittedAfter_39 (by decide) (fun hc => ?_) (fun hc => ?_)
            · have h := ts_ifp h hc
              refine tv_iload_n C (pc := 59) dX0_nextCommittedAfter_59 rfl rfl ?_
              refine tv_istore_n C (pc := 60) dX0_nextCommittedAfter_60 (L' := [some (.inr (1, b0, 0)), some (.inl (.int c1)), some (.inl (.int v3)), some (.inl (.int v3)), some (.inr (11, b0, v3.toNatClampNeg))]) rfl (by decide) rfl rfl ?_
              refine tv_iinc C (pc := 61) dX0_nextCommittedAfter_61 (v := (v3 + (1 : Int32))) (L' := [some (.inr (1, b0, 0)), some (.inl (.int c1)), some (.inl (.int v3)), some (.inl (.int (v3 + (1 : Int32)))), some (.inr (11, b0, v3.toNatClampNeg))]) rfl rfl (by decide) rfl rfl ?_
              refine tv_goto C (pc := 64) 4 dX0_nextCommittedAfter_64 (by decide) ?_
              refine tv_drop 4 (L' := [some (.inr (1, b0, 0)), some (.inl (.int c1)), some (.inl (.int v3)), some (.inl (.int (v3 + (1 : Int32)))), none]) rfl ?_
              exact lt_X0_nextCommittedAfter_4 hl C hdd b0 hb0 c1 u hkn n v3 (v3 + (1 : Int32)) q h K
            · have h := ts_ifn h hc
              refine tv_aload C (pc := 42) dX0_nextCommittedAfter_42 rfl ?_
              refine tv_getI C (pc := 44) dX0_nextCommittedAfter_44 fl_X0_110 (ts_live (k := 11) (by decide) hb0 (ts_vin hr1)) rfl (cd := 0) rfl (by decide) ?_
              refine tv_aload_n C (pc := 47) dX0_nextCommittedAfter_47 rfl rfl ?_
              refine tv_getR C (pc := 48) dX0_nextCommittedAfter_48 fl_X0_23 (ts_live (k := 1) (by decide) hb0 (by decide)) rfl rfl (i2 := (2, b0, 0)) rfl ?_
              refine tv_iload_n C (pc := 51) dX0_nextCommittedAfter_51 rfl rfl ?_
              obtain ⟨hr2, h⟩ := ts_gd h
              refine tv_aaload5 C (pc := 52) dX0_nextCommittedAfter_52 (ts_live (k := 2) (by decide) hb0 (by decide)) rfl hr2 (j := v2.toNatClampNeg) rfl (i2 := (11, b0, v2.toNatClampNeg)) rfl ?_
              refine tv_getI C (pc := 53) dX0_nextCommittedAfter_53 fl_X0_110 (ts_live (k := 11) (by decide) hb0 (ts_vin hr2)) rfl (cd := 0) rfl (by decide) ?_
              refine tv_icmp_ge C (pc := 56) 61 dX0_nextCommittedAfter_56 (by decide) (fun hc => ?_) (fun hc => ?_)
              · have h := ts_ifp h hc
                refine tv_iinc C (pc := 61) dX0_nextCommittedAfter_61 (v := (v3 + (1 : Int32))) (L' := [some (.inr (1, b0, 0)), some (.inl (.int c1)), some (.inl (.int v2)), some (.inl (.int (v3 + (1 : Int32)))), some (.inr (11, b0, v3.toNatClampNeg))]) rfl rfl (by decide) rfl rfl ?_
                refine tv_goto C (pc := 64) 4 dX0_nextCommittedAfter_64 (by decide) ?_
                refine tv_drop 4 (L' := [some (.inr (1, b0, 0)), some (.inl (.int c1)), some (.inl (.int v2)), some (.inl (.int (v3 + (1 : Int32)))), none]) rfl ?_
                exact lt_X0_nextCommittedAfter_4 hl C hdd b0 hb0 c1 u hkn n v2 (v3 + (1 : Int32)) q h K
              · have h := ts_ifn h hc
                refine tv_iload_n C (pc := 59) dX0_nextCommittedAfter_59 rfl rfl ?_
                refine tv_istore_n C (pc := 60) dX0_nextCommittedAfter_60 (L' := [some (.inr (1, b0, 0)), some (.inl (.int c1)), some (.inl (.int v3)), some (.inl (.int v3)), some (.inr (11, b0, v3.toNatClampNeg))]) rfl (by decide) rfl rfl ?_
                refine tv_iinc C (pc := 61) dX0_nextCommittedAfter_61 (v := (v3 + (1 : Int32))) (L' := [some (.inr (1, b0, 0)), some (.inl (.int c1)), some (.inl (.int v3)), some (.inl (.int (v3 + (1 : Int32)))), some (.inr (11, b0, v3.toNatClampNeg))]) rfl rfl (by decide) rfl rfl ?_
                refine tv_goto C (pc := 64) 4 dX0_nextCommittedAfter_64 (by decide) ?_
                refine tv_drop 4 (L' := [some (.inr (1, b0, 0)), some (.inl (.int c1)), some (.inl (.int v3)), some (.inl (.int (v3 + (1 : Int32)))), none]) rfl ?_
                exact lt_X0_nextCommittedAfter_4 hl C hdd b0 hb0 c1 u hkn n v3 (v3 + (1 : Int32)) q h K
set_option maxRecDepth 100000 in
set_option maxHeartbeats 4000000 in
theorem m_X0_nextCommittedAfter {l : Launch} {D : va_G} {dT : Nat → ClassId} {sz : Nat} {ad : ts_I → Nat} (hl : l.stackTraces = false) (b0 : Nat) (hb0 : b0 < 2) (p1 : Int32) (u : ts_Mem) (r : Int32) (h : f_X0_nextCommittedAfter b0 p1 u = some r) : ts_M l D dT sz yX0_nextCommittedAfter wX0_nextCommittedAfter 0 0 0 ad ts_lv ts_R0 [.inr (1, b0, 0), .inl (.int p1)] u (.inl (some (.int r))) u := by
    unfold f_X0_nextCommittedAfter at h
    refine ts_enter hl (by decide) rfl rfl (Nat.le_of_ble_eq_true rfl) ?_
    intro p e s m args below meth c C hX hnm
    have C : ts_CX D dT sz p l (ts_rm 0 0 0) s m args meth c RX0 cX0_nextCommittedAfter 5 (some .int) 0 := C
    have hdd : 0 ≤ 0 := Nat.le_refl _
    refine tv_iconst C (pc := 0) dX0_nextCommittedAfter_0 (v := (-1 : Int32)) rfl ?_
    refine tv_istore_n C (pc := 1) dX0_nextCommittedAfter_1 (L' := [some (.inr (1, b0, 0)), some (.inl (.int p1)), some (.inl (.int (-1 : Int32))), none, none]) rfl (by decide) rfl rfl ?_
    refine tv_iconst C (pc := 2) dX0_nextCommittedAfter_2 (v := (0 : Int32)) rfl ?_
    refine tv_istore_n C (pc := 3) dX0_nextCommittedAfter_3 (L' := [some (.inr (1, b0, 0)), some (.inl (.int p1)), some (.inl (.int (-1 : Int32))), some (.inl (.int (0 : Int32))), none]) rfl (by decide) rfl rfl ?_
    obtain ⟨q3, hq3, h⟩ := ts_bd h
    refine lt_X0_nextCommittedAfter_4 hl C hdd b0 hb0 p1 u ⟨Nat.le_of_ble_eq_true rfl, Nat.le_of_ble_eq_true rfl⟩ ts_fu (-1 : Int32) (0 : Int32) q3 hq3 ?_
    refine tv_iload_n C (pc := 67) dX0_nextCommittedAfter_67 rfl rfl ?_
    cases h
    exact tv_iret C (pc := 68) rfl dX0_nextCommittedAfter_68 ⟨Nat.le_of_ble_eq_true rfl, Nat.le_of_ble_eq_true rfl⟩
set_option maxRecDepth 100000 in
set_option maxHeartbeats 4000000 in
theorem lt_X0_serialDifferences_2 {D : va_G} {dT : Nat → ClassId} {sz : Nat} {p : Program} {l : Launch} {e : Env} {R : Room} {s : State} {m : MethodId} {args : Array Value} {below : List Frame} {meth : Method} {c : Code} {d : Nat} {ad : ts_I → Nat} {kk nn : Nat} {Q : State → Prop} (hl : l.stackTraces = false) (C : ts_CX D dT sz p l R s m args meth c RX0 cX0_serialDifferences 5 (some .int) d) (hdd : 3 ≤ d) (b0 : Nat) (hb0 : b0 < 2) (hkn : kk ≤ R.cells ∧ nn ≤ R.slots) : ∀ (n : Nat) (v1 : Int32) (u : ts_Mem) (q : (Int32 × ts_Mem)) (h : lp_X0_serialDifferences_2 b0 n v1 u = some q) (K : ts_V D dT sz p l e R s m args below meth c 5 Q ad ts_lv ts_R0 21 [some (.inr (1, b0, 0)), some (.inl (.int q.1)), none, none, none] [] q.2 kk nn), ts_V D dT sz p l e R s m args below meth c 5 Q ad ts_lv ts_R0 2 [some (.inr (1, b0, 0)), some (.inl (.int v1)), none, none, none] [] u kk nn
  | 0, _, _, _, h, _ => by cases h
  | n + 1, v1, u, q, h, K => by
      rw [lp_X0_serialDifferences_2] at h
      refine tv_iload_n C (pc := 2) dX0_serialDifferences_2 rfl rfl ?_
      refine tv_bipush C (pc := 3) dX0_serialDifferences_3 (v := (8 : Int32)) rfl ?_
      refine tv_icmp_ge C (pc := 5) 21 dX0_serialDifferences_5 (by decide) (fun hc => ?_) (fun hc => ?_)
      · have h := ts_ifp h hc
        cases h
        exact K
      · have h := ts_ifn h hc
        refine tv_aload_n C (pc := 8) dX0_serialDifferences_8 rfl rfl ?_
        refine tv_getR C (pc := 9) dX0_serialDifferences_9 fl_X0_42 (ts_live (k := 1) (by decide) hb0 (by decide)) rfl rfl (i2 := (5, b0, 0)) rfl ?_
        refine tv_iload_n C (pc := 12) dX0_serialDifferences_12 rfl rfl ?_
        refine tv_iconst C (pc := 13) dX0_serialDifferences_13 (v := (0 : Int32)) rfl ?_
        obtain ⟨hr1, h⟩ := ts_gd h
        refine tv_iastore C (pc := 14) dX0_serialDifferences_14 (ts_live (k := 5) (by decide) hb0 (by decide)) rfl hr1 (j := v1.toNatClampNeg) rfl ?_
        refine tv_nu (fun u2 hu2 => ?_)
        have h := ts_lt h hu2
        refine tv_iinc C (pc := 15) dX0_serialDifferences_15 (v := (v1 + (1 : Int32))) (L' := [some (.inr (1, b0, 0)), some (.inl (.int (v1 + (1 : Int32)))), none, none, none]) rfl rfl (by decide) rfl rfl ?_
        refine tv_goto C (pc := 18) 2 dX0_serialDifferences_18 (by decide) ?_
        exact lt_X0_serialDifferences_2 hl C hdd b0 hb0 hkn n (v1 + (1 : Int32)) u2 q h K
set_option maxRecDepth 100000 in
set_option maxHeartbeats 4000000 in
theorem lt_X0_serialDifferences_31 {D : va_G} {dT : Nat → ClassId} {sz : Nat} {p : Program} {l : Launch} {e : Env} {R : Room} {s : State} {m : MethodId} {args : Array Value} {below : List Frame} {meth : Method} {c : Code} {d : Nat} {ad : ts_I → Nat} {kk nn : Nat} {Q : State → Prop} (hl : l.stackTraces = false) (C : ts_CX D dT sz p l R s m args meth c RX0 cX0_serialDifferences 5 (some .int) d) (hdd : 3 ≤ d) (b0 : Nat) (hb0 : b0 < 2) (hkn : kk ≤ R.cells ∧ nn ≤ R.slots) : ∀ (n : Nat) (v1 : Int32) (v2 : Int32) (v3 : Int32) (u : ts_Mem) (q : (Int32 × Int32 × Int32 × ts_Mem)) (h : lp_X0_serialDifferences_31 b0 n v1 v2 v3 u = some q) (K : ts_V D dT sz p l e R s m args below meth c 5 Q ad ts_lv ts_R0 77 [some (.inr (1, b0, 0)), some (.inl (.int q.1)), some (.inl (.int q.2.1)), some (.inl (.int q.2.2.1)), none] [] q.2.2.2 kk nn), ts_V D dT sz p l e R s m args below meth c 5 Q ad ts_lv ts_R0 31 [some (.inr (1, b0, 0)), some (.inl (.int v1)), some (.inl (.int v2)), some (.inl (.int v3)), none] [] u kk nn
  | 0, _, _, _, _, _, h, _ => by cases h
  | n + 1, v1, v2, v3, u, q, h, K => by
      rw [lp_X0_serialDifferences_31] at h
      refine tv_iload_n C (pc := 31) dX0_serialDifferences_31 rfl rfl ?_
      refine tv_bipush C (pc := 32) dX0_serialDifferences_32 (v := (16 : Int32)) rfl ?_
      refine tv_icmp_ge C (pc := 34) 77 dX0_serialDifferences_34 (by decide) (fun hc => ?_) (fun hc => ?_)
      · have h := ts_ifp h hc
        cases h
        exact K
      · have h := ts_ifn h hc
        refine tv_iload_n C (pc := 37) dX0_serialDifferences_37 rfl rfl ?_
        refine tv_if_lt C (pc := 38) 77 dX0_serialDifferences_38 (by decide) (fun hc => ?_) (fun hc => ?_)
        · have h := ts_ifp h hc
          cases h
          exact K
        · have h := ts_ifn h hc
          refine tv_iload_n C (pc := 41) dX0_serialDifferences_41 rfl rfl ?_
          refine tv_aload_n C (pc := 42) dX0_serialDifferences_42 rfl rfl ?_
          refine tv_getR C (pc := 43) dX0_serialDifferences_43 fl_X0_23 (ts_live (k := 1) (by decide) hb0 (by decide)) rfl rfl (i2 := (2, b0, 0)) rfl ?_
          refine tv_iload_n C (pc := 46) dX0_serialDifferences_46 rfl rfl ?_
          obtain ⟨hr5, h⟩ := ts_gd h
          refine tv_aaload5 C (pc := 47) dX0_serialDifferences_47 (ts_live (k := 2) (by decide) hb0 (by decide)) rfl hr5 (j := v2.toNatClampNeg) rfl (i2 := (11, b0, v2.toNatClampNeg)) rfl ?_
          refine tv_aload_n C (pc := 48) dX0_serialDifferences_48 rfl rfl ?_
          refine tv_getR C (pc := 49) dX0_serialDifferences_49 fl_X0_42 (ts_live (k := 1) (by decide) hb0 (by decide)) rfl rfl (i2 := (5, b0, 0)) rfl ?_
          obtain ⟨q6, hq6, h⟩ := ts_bd h
          refine tv_callV C (pc := 52) dX0_serialDifferences_52 (ci := 5) (q := (RX5, TX5, 10)) rfl yl_X0_209 (m_X5_executeSerially (D := D) (dT := dT) (sz := sz) (ad := ad) hl b0 hb0 v2.toNatClampNeg (ts_vin hr5) b0 hb0 u q6 hq6) (ts_live (k := 11) (by decide) hb0 (ts_vin hr5)) rfl (Nat.le_trans (Nat.le_of_ble_eq_true rfl) hdd) (As := [.inr (5, b0, 0)]) rfl ⟨hkn.1, hkn.2⟩ (fun _ => Nat.le_of_ble_eq_true rfl) rfl ?_
          refine tv_iadd C (pc := 55) dX0_serialDifferences_55 ?_
          refine tv_nmI (fun x7 hx7 => ?_)
          have h := ts_lt h hx7
          refine tv_istore_n C (pc := 56) dX0_serialDifferences_56 (L' := [some (.inr (1, b0, 0)), some (.inl (.int x7)), some (.inl (.int v2)), some (.inl (.int v3)), none]) rfl (by decide) rfl rfl ?_
          refine tv_aload_n C (pc := 57) dX0_serialDifferences_57 rfl rfl ?_
          refine tv_aload_n C (pc := 58) dX0_serialDifferences_58 rfl rfl ?_
          refine tv_getR C (pc := 59) dX0_serialDifferences_59 fl_X0_23 (ts_live (k := 1) (by decide) hb0 (by decide)) rfl rfl (i2 := (2, b0, 0)) rfl ?_
          refine tv_iload_n C (pc := 62) dX0_serialDifferences_62 rfl rfl ?_
          obtain ⟨hr8, h⟩ := ts_gd h
          refine tv_aaload5 C (pc := 63) dX0_serialDifferences_63 (ts_live (k := 2) (by decide) hb0 (by decide)) rfl hr8 (j := v2.toNatClampNeg) rfl (i2 := (11, b0, v2.toNatClampNeg)) rfl ?_
          refine tv_getI C (pc := 64) dX0_serialDifferences_64 fl_X0_110 (ts_live (k := 11) (by decide) hb0 (ts_vin hr8)) rfl (cd := 0) rfl (by decide) ?_
          obtain ⟨q9, hq9, h⟩ := ts_bd h
          refine tv_callV C (pc := 67) dX0_serialDifferences_67 (ci := 0) (q := (RX0, TX0, 8)) rfl yl_X0_206 (m_X0_nextCommittedAfter (D := D) (dT := dT) (sz := sz) (ad := ad) hl b0 hb0 (ts_gI q6.2 (11, b0, v2.toNatClampNeg) 1) q6.2 q9 hq9) (ts_live (k := 1) (by decide) hb0 (by decide)) rfl (Nat.le_trans (Nat.le_of_ble_eq_true rfl) hdd) (As := [.inl (.int (ts_gI q6.2 (11, b0, v2.toNatClampNeg) 1))]) rfl ⟨hkn.1, hkn.2⟩ (fun _ => Nat.le_of_ble_eq_true rfl) rfl ?_
          refine tv_istore_n C (pc := 70) dX0_serialDifferences_70 (L' := [some (.inr (1, b0, 0)), some (.inl (.int x7)), some (.inl (.int q9)), some (.inl (.int v3)), none]) rfl (by decide) rfl rfl ?_
          refine tv_iinc C (pc := 71) dX0_serialDifferences_71 (v := (v3 + (1 : Int32))) (L' := [some (.inr (1, b0, 0)), some (.inl (.int x7)), some (.inl (.int q9)), some (.inl (.int (v3 + (1 : Int32)))), none]) rfl rfl (by decide) rfl rfl ?_
          refine tv_goto C (pc := 74) 31 dX0_serialDifferences_74 (by decide) ?_
          exact lt_X0_serialDifferences_31 hl C hdd b0 hb0 hkn n x7 q9 (v3 + (1 : Int32)) q6.2 q h K
set_option maxRecDepth 100000 in
set_option maxHeartbeats 4000000 in
theorem lt_X0_serialDifferences_79 {D : va_G} {dT : Nat → ClassId} {sz : Nat} {p : Program} {l : Launch} {e : Env} {R : Room} {s : State} {m : MethodId} {args : Array Value} {below : List Frame} {meth : Method} {c : Code} {d : Nat} {ad : ts_I → Nat} {kk nn : Nat} {Q : State → Prop} (hl : l.stackTraces = false) (C : ts_CX D dT sz p l R s m args meth c RX0 cX0_serialDifferences 5 (some .int) d) (hdd : 3 ≤ d) (b0 : Nat) (hb0 : b0 < 2) (c2 : Int32) (u : ts_Mem) (hkn : kk ≤ R.cells ∧ nn ≤ R.slots) : ∀ (n : Nat) (v1 : Int32) (v3 : Int32) (q : (Int32 × Int32)) (h : lp_X0_serialDifferences_79 b0 c2 u n v1 v3 = some q) (K : ts_V D dT sz p l e R s m args below meth c 5 Q ad ts_lv ts_R0 134 [some (.inr (1, b0, 0)), some (.inl (.int q.1)), some (.inl (.int c2)), some (.inl (.int q.2)), none] [] u kk nn), ts_V D dT sz p l e R s m args below meth c 5 Q ad ts_lv ts_R0 79 [some (.inr (1, b0, 0)), some (.inl (.int v1)), some (.inl (.int c2)), some (.inl (.int v3)), none] [] u kk nn
  | 0, _, _, _, h, _ => by cases h
  | n + 1, v1, v3, q, h, K => by
      rw [lp_X0_serialDifferences_79] at h
      refine tv_iload_n C (pc := 79) dX0_serialDifferences_79 rfl rfl ?_
      refine tv_bipush C (pc := 80) dX0_serialDifferences_80 (v := (8 : Int32)) rfl ?_
      refine tv_icmp_ge C (pc := 82) 134 dX0_serialDifferences_82 (by decide) (fun hc => ?_) (fun hc => ?_)
      · have h := ts_ifp h hc
        cases h
        exact K
      · have h := ts_ifn h hc
        refine tv_aload_n C (pc := 85) dX0_serialDifferences_85 rfl rfl ?_
        refine tv_aload_n C (pc := 86) dX0_serialDifferences_86 rfl rfl ?_
        refine tv_getR C (pc := 87) dX0_serialDifferences_87 fl_X0_30 (ts_live (k := 1) (by decide) hb0 (by decide)) rfl rfl (i2 := (3, b0, 0)) rfl ?_
        refine tv_iload_n C (pc := 90) dX0_serialDifferences_90 rfl rfl ?_
        obtain ⟨hr11, h⟩ := ts_gd h
        refine tv_aaload6 C (pc := 91) dX0_serialDifferences_91 (ts_live (k := 3) (by decide) hb0 (by decide)) rfl hr11 (j := v3.toNatClampNeg) rfl (i2 := (16, b0, v3.toNatClampNeg)) rfl ?_
        refine tv_ldc C (pc := 92) dX0_serialDifferences_92 kc_X0_215 ?_
        obtain ⟨q12, hq12, h⟩ := ts_bd h
        refine tv_callV C (pc := 94) dX0_serialDifferences_94 (ci := 0) (q := (RX0, TX0, 8)) rfl yl_X0_199 (m_X0_lastCommittedAtMost (D := D) (dT := dT) (sz := sz) (ad := ad) hl b0 hb0 b0 hb0 v3.toNatClampNeg (ts_vin hr11) (2147483647 : Int32) u q12 hq12) (ts_live (k := 1) (by decide) hb0 (by decide)) rfl (Nat.le_trans (Nat.le_of_ble_eq_true rfl) hdd) (As := [.inr (16, b0, v3.toNatClampNeg), .inl (.int (2147483647 : Int32))]) rfl ⟨hkn.1, hkn.2⟩ (fun _ => Nat.le_of_ble_eq_true rfl) rfl ?_
        refine tv_istore C (pc := 97) dX0_serialDifferences_97 (L' := [some (.inr (1, b0, 0)), some (.inl (.int v1)), some (.inl (.int c2)), some (.inl (.int v3)), some (.inl (.int q12))]) (by decide) rfl rfl ?_
        refine tv_iload C (pc := 99) dX0_serialDifferences_99 rfl ?_
        refine tv_if_lt C (pc := 101) 128 dX0_serialDifferences_101 (by decide) (fun hc => ?_) (fun hc => ?_)
        · have h := ts_ifp h hc
          refine tv_iinc C (pc := 128) dX0_serialDifferences_128 (v := (v3 + (1 : Int32))) (L' := [some (.inr (1, b0, 0)), some (.inl (.int v1)), some (.inl (.int c2)), some (.inl (.int (v3 + (1 : Int32)))), some (.inl (.int q12))]) rfl rfl (by decide) rfl rfl ?_
          refine tv_goto C (pc := 131) 79 dX0_serialDifferences_131 (by decide) ?_
          refine tv_drop 4 (L' := [some (.inr (1, b0, 0)), some (.inl (.int v1)), some (.inl (.int c2)), some (.inl (.int (v3 + (1 : Int32)))), none]) rfl ?_
          exact lt_X0_serialDifferences_79 hl C hdd b0 hb0 c2 u hkn n v1 (v3 + (1 : Int32)) q h K
        · have h := ts_ifn h hc
          refine tv_aload_n C (pc := 104) dX0_serialDifferences_104 rfl rfl ?_
          refine tv_getR C (pc := 105) dX0_serialDifferences_105 fl_X0_30 (ts_live (k := 1) (by decide) hb0 (by decide)) rfl rfl (i2 := (3, b0, 0)) rfl ?_
          refine tv_iload_n C (pc := 108) dX0_serialDifferences_108 rfl rfl ?_
          obtain ⟨hr13, h⟩ := ts_gd h
          refine tv_aaload6 C (pc := 109) dX0_serialDifferences_109 (ts_live (k := 3) (by decide) hb0 (by decide)) rfl hr13 (j := v3.toNatClampNeg) rfl (i2 := (16, b0, v3.toNatClampNeg)) rfl ?_
          refine tv_getR C (pc := 110) dX0_serialDifferences_110 fl_X0_98 (ts_live (k := 16) (by decide) hb0 (ts_vin hr13)) rfl rfl (i2 := (19, b0, v3.toNatClampNeg)) rfl ?_
          refine tv_iload C (pc := 113) dX0_serialDifferences_113 rfl ?_
          obtain ⟨hr14, h⟩ := ts_gd h
          refine tv_iaload C (pc := 115) dX0_serialDifferences_115 (ts_live (k := 19) (by decide) hb0 (ts_vin hr13)) rfl hr14 (j := q12.toNatClampNeg) rfl ?_
          refine tv_aload_n C (pc := 116) dX0_serialDifferences_116 rfl rfl ?_
          refine tv_getR C (pc := 117) dX0_serialDifferences_117 fl_X0_42 (ts_live (k := 1) (by decide) hb0 (by decide)) rfl rfl (i2 := (5, b0, 0)) rfl ?_
          refine tv_iload_n C (pc := 120) dX0_serialDifferences_120 rfl rfl ?_
          obtain ⟨hr15, h⟩ := ts_gd h
          refine tv_iaload C (pc := 121) dX0_serialDifferences_121 (ts_live (k := 5) (by decide) hb0 (by decide)) rfl hr15 (j := v3.toNatClampNeg) rfl ?_
          refine tv_icmp_eq C (pc := 122) 128 dX0_serialDifferences_122 (by decide) (fun hc => ?_) (fun hc => ?_)
          · have h := ts_ifp h hc
            refine tv_iinc C (pc := 128) dX0_serialDifferences_128 (v := (v3 + (1 : Int32))) (L' := [some (.inr (1, b0, 0)), some (.inl (.int v1)), some (.inl (.int c2)), some (.inl (.int (v3 + (1 : Int32)))), some (.inl (.int q12))]) rfl rfl (by decide) rfl rfl ?_
            refine tv_goto C (pc := 131) 79 dX0_serialDifferences_131 (by decide) ?_
            refine tv_drop 4 (L' := [some (.inr (1, b0, 0)), some (.inl (.int v1)), some (.inl (.int c2)), some (.inl (.int (v3 + (1 : Int32)))), none]) rfl ?_
            exact lt_X0_serialDifferences_79 hl C hdd b0 hb0 c2 u hkn n v1 (v3 + (1 : Int32)) q h K
          · have h := ts_ifn h hc
            refine tv_iinc C (pc := 125) dX0_serialDifferences_125 (v := (v1 + (1 : Int32))) (L' := [some (.inr (1, b0, 0)), some (.inl (.int (v1 + (1 : Int32)))), some (.inl (.int c2)), some (.inl (.int v3)), some (.inl (.int q12))]) rfl rfl (by decide) rfl rfl ?_
            refine tv_iinc C (pc := 128) dX0_serialDifferences_128 (v := (v3 + (1 : Int32))) (L' := [some (.inr (1, b0, 0)), some (.inl (.int (v1 + (1 : Int32)))), some (.inl (.int c2)), some (.inl (.int (v3 + (1 : Int32)))), some (.inl (.int q12))]) rfl rfl (by decide) rfl rfl ?_
            refine tv_goto C (pc := 131) 79 dX0_serialDifferences_131 (by decide) ?_
            refine tv_drop 4 (L' := [some (.inr (1, b0, 0)), some (.inl (.int (v1 + (1 : Int32)))), some (.inl (.int c2)), some (.inl (.int (v3 + (1 : Int32)))), none]) rfl ?_
            exact lt_X0_serialDifferences_79 hl C hdd b0 hb0 c2 u hkn n (v1 + (1 : Int32)) (v3 + (1 : Int32)) q h K
set_option maxRecDepth 100000 in
set_option maxHeartbeats 4000000 in
theorem m_X0_serialDifferences {l : Launch} {D : va_G} {dT : Nat → ClassId} {sz : Nat} {ad : ts_I → Nat} (hl : l.stackTraces = false) (b0 : Nat) (hb0 : b0 < 2) (u : ts_Mem) (r : (Int32 × ts_Mem)) (h : f_X0_serialDifferences b0 u = some r) : ts_M l D dT sz yX0_serialDifferences wX0_serialDifferences 3 0 0 ad ts_lv ts_R0 [.inr (1, b0, 0)] u (.inl (some (.int r.1))) r.2 := by
    unfold f_X0_serialDifferences at h
    refine ts_enter hl (by decide) rfl rfl (Nat.le_of_ble_eq_true rfl) ?_
    intro p e s m args below meth c C hX hnm
    have C : ts_CX D dT sz p l (ts_rm 3 0 0) s m args meth c RX0 cX0_serialDifferences 5 (some .int) 3 := C
    have hdd : 3 ≤ 3 := Nat.le_refl _
    refine tv_iconst C (pc := 0) dX0_serialDifferences_0 (v := (0 : Int32)) rfl ?_
    refine tv_istore_n C (pc := 1) dX0_serialDifferences_1 (L' := [some (.inr (1, b0, 0)), some (.inl (.int (0 : Int32))), none, none, none]) rfl (by decide) rfl rfl ?_
    obtain ⟨q3, hq3, h⟩ := ts_bd h
    refine lt_X0_serialDifferences_2 hl C hdd b0 hb0 ⟨Nat.le_of_ble_eq_true rfl, Nat.le_of_ble_eq_true rfl⟩ ts_fu (0 : Int32) u q3 hq3 ?_
    refine tv_iconst C (pc := 21) dX0_serialDifferences_21 (v := (0 : Int32)) rfl ?_
    refine tv_istore_n C (pc := 22) dX0_serialDifferences_22 (L' := [some (.inr (1, b0, 0)), some (.inl (.int (0 : Int32))), none, none, none]) rfl (by decide) rfl rfl ?_
    refine tv_aload_n C (pc := 23) dX0_serialDifferences_23 rfl rfl ?_
    refine tv_iconst C (pc := 24) dX0_serialDifferences_24 (v := (0 : Int32)) rfl ?_
    obtain ⟨q4, hq4, h⟩ := ts_bd h
    refine tv_callV C (pc := 25) dX0_serialDifferences_25 (ci := 0) (q := (RX0, TX0, 8)) rfl yl_X0_206 (m_X0_nextCommittedAfter (D := D) (dT := dT) (sz := sz) (ad := ad) hl b0 hb0 (0 : Int32) q3.2 q4 hq4) (ts_live (k := 1) (by decide) hb0 (by decide)) rfl (Nat.le_trans (Nat.le_of_ble_eq_true rfl) hdd) (As := [.inl (.int (0 : Int32))]) rfl ⟨Nat.le_of_ble_eq_true rfl, Nat.le_of_ble_eq_true rfl⟩ (fun _ => Nat.le_of_ble_eq_true rfl) rfl ?_
    refine tv_istore_n C (pc := 28) dX0_serialDifferences_28 (L' := [some (.inr (1, b0, 0)), some (.inl (.int (0 : Int32))), some (.inl (.int q4)), none, none]) rfl (by decide) rfl rfl ?_
    refine tv_iconst C (pc := 29) dX0_serialDifferences_29 (v := (0 : Int32)) rfl ?_
    refine tv_istore_n C (pc := 30) dX0_serialDifferences_30 (L' := [some (.inr (1, b0, 0)), some (.inl (.int (0 : Int32))), some (.inl (.int q4)), some (.inl (.int (0 : Int32))), none]) rfl (by decide) rfl rfl ?_
    obtain ⟨q10, hq10, h⟩ := ts_bd h
    refine lt_X0_serialDifferences_31 hl C hdd b0 hb0 ⟨Nat.le_of_ble_eq_true rfl, Nat.le_of_ble_eq_true rfl⟩ ts_fu (0 : Int32) q4 (0 : Int32) q3.2 q10 hq10 ?_
    refine tv_iconst C (pc := 77) dX0_serialDifferences_77 (v := (0 : Int32)) rfl ?_
    refine tv_istore_n C (pc := 78) dX0_serialDifferences_78 (L' := [some (.inr (1, b0, 0)), some (.inl (.int q10.1)), some (.inl (.int q10.2.1)), some (.inl (.int (0 : Int32))), none]) rfl (by decide) rfl rfl ?_
    obtain ⟨q16, hq16, h⟩ := ts_bd h
    refine lt_X0_serialDifferences_79 hl C hdd b0 hb0 q10.2.1 q10.2.2.2 ⟨Nat.le_of_ble_eq_true rfl, Nat.le_of_ble_eq_true rfl⟩ ts_fu q10.1 (0 : Int32) q16 hq16 ?_
    refine tv_iload_n C (pc := 134) dX0_serialDifferences_134 rfl rfl ?_
    cases h
    exact tv_iret C (pc := 135) rfl dX0_serialDifferences_135 ⟨Nat.le_of_ble_eq_true rfl, Nat.le_of_ble_eq_true rfl⟩
