set_option maxRecDepth 100000 in
set_option maxHeartbeats 4000000 in
theorem m_X6_copyRow {l : Launch} {D : va_G} {dT : Nat → ClassId} {sz : Nat} {ad : ts_I → Nat} (hl : l.stackTraces = false) (p1 : Int32) (p2 : Int32) (u : ts_Mem) (r : ((Int32 ⊕ String) × ts_Mem)) (h : f_X6_copyRow p1 p2 u = some r) : ts_M l D dT sz yX6_copyRow wX6_copyRow 1 4 24 ad ts_lv ts_R0 [.inr (0, 0, 0), .inl (.int p1), .inl (.int p2)] u (ts_oI r.1) r.2 := by
    unfold f_X6_copyRow at h
    refine ts_enter hl (by decide) rfl rfl (Nat.le_of_ble_eq_true rfl) ?_
    intro p e s m args below meth c C hX hnm
    have C : ts_CX D dT sz p l (ts_rm 1 4 24) s m args meth c RX6 cX6_copyRow 3 (some .int) 1 := C
    have hdd : 1 ≤ 1 := Nat.le_refl _
    refine tv_iload_n C (pc := 0) dX6_copyRow_0 rfl rfl ?_
    obtain ⟨q1, hq1, h⟩ := ts_bd h
    refine tv_callS C (pc := 1) dX6_copyRow_1 yl_X6_200 (m_X6_isSlot (D := D) (dT := dT) (sz := sz) (ad := ad) hl p1 u q1 hq1) (Nat.le_trans (Nat.le_of_ble_eq_true rfl) hdd) (As := [.inl (.int p1)]) rfl ⟨Nat.le_of_ble_eq_true rfl, Nat.le_of_ble_eq_true rfl⟩ (fun _ => Nat.le_of_ble_eq_true rfl) rfl ?_
    refine tv_if_eq C (pc := 4) 18 dX6_copyRow_4 (by decide) (fun hc => ?_) (fun hc => ?_)
    · have h := ts_ifp h hc
      refine tv_iconst C (pc := 18) dX6_copyRow_18 (v := (0 : Int32)) rfl ?_
      obtain ⟨q2, hq2, h⟩ := ts_bd h
      have Mq2 := (m_X6_requireIndex (D := D) (dT := dT) (sz := sz) (ad := ad) hl (0 : Int32) u q2 hq2)
      rcases q2 with v3 | e4
      · have h := ts_eL h
        refine tv_callS C (pc := 19) dX6_copyRow_19 yl_X6_71 Mq2 (Nat.le_trans (Nat.le_of_ble_eq_true rfl) hdd) (As := [.inl (.int (0 : Int32))]) rfl ⟨Nat.le_of_ble_eq_true rfl, Nat.le_of_ble_eq_true rfl⟩ (fun _ => Nat.le_of_ble_eq_true rfl) rfl ?_
        refine tv_aload_n C (pc := 22) dX6_copyRow_22 rfl rfl ?_
        refine tv_getR C (pc := 23) dX6_copyRow_23 fl_X6_38 (ts_live (k := 0) (by decide) (by decide) (by decide)) rfl rfl (i2 := (26, 0, 0)) rfl ?_
        refine tv_iload_n C (pc := 26) dX6_copyRow_26 rfl rfl ?_
        obtain ⟨hr5, h⟩ := ts_gd h
        refine tv_aaload7 C (pc := 27) dX6_copyRow_27 (ts_live (k := 26) (by decide) (by decide) (by decide)) rfl hr5 (j := p1.toNatClampNeg) rfl (i2 := (27, 0, p1.toNatClampNeg)) rfl ?_
        obtain ⟨q6, hq6, h⟩ := ts_bd h
        refine tv_callV C (pc := 28) dX6_copyRow_28 (ci := 4) (q := (RX4, TX4, 4)) rfl yl_X6_206 (m_X4_isUsed (D := D) (dT := dT) (sz := sz) (ad := ad) hl p1.toNatClampNeg (ts_vin hr5) u q6 hq6) (ts_live (k := 27) (by decide) (by decide) (ts_vin hr5)) rfl (Nat.le_trans (Nat.le_of_ble_eq_true rfl) hdd) (As := []) rfl ⟨Nat.le_of_ble_eq_true rfl, Nat.le_of_ble_eq_true rfl⟩ (fun _ => Nat.le_of_ble_eq_true rfl) rfl ?_
        refine tv_if_eq C (pc := 31) 50 dX6_copyRow_31 (by decide) (fun hc => ?_) (fun hc => ?_)
        · have h := ts_ifp h hc
          refine tv_iconst C (pc := 50) dX6_copyRow_50 (v := (0 : Int32)) rfl ?_
          obtain ⟨q7, hq7, h⟩ := ts_bd h
          have Mq7 := (m_X6_requireState (D := D) (dT := dT) (sz := sz) (ad := ad) hl (0 : Int32) u q7 hq7)
          rcases q7 with v8 | e9
          · have h := ts_eL h
            refine tv_callS C (pc := 51) dX6_copyRow_51 yl_X6_57 Mq7 (Nat.le_trans (Nat.le_of_ble_eq_true rfl) hdd) (As := [.inl (.int (0 : Int32))]) rfl ⟨Nat.le_of_ble_eq_true rfl, Nat.le_of_ble_eq_true rfl⟩ (fun _ => Nat.le_of_ble_eq_true rfl) rfl ?_
            refine tv_aload_n C (pc := 54) dX6_copyRow_54 rfl rfl ?_
            refine tv_getR C (pc := 55) dX6_copyRow_55 fl_X6_38 (ts_live (k := 0) (by decide) (by decide) (by decide)) rfl rfl (i2 := (26, 0, 0)) rfl ?_
            refine tv_iload_n C (pc := 58) dX6_copyRow_58 rfl rfl ?_
            obtain ⟨hr10, h⟩ := ts_gd h
            refine tv_aaload7 C (pc := 59) dX6_copyRow_59 (ts_live (k := 26) (by decide) (by decide) (by decide)) rfl hr10 (j := p1.toNatClampNeg) rfl (i2 := (27, 0, p1.toNatClampNeg)) rfl ?_
            refine tv_getI C (pc := 60) dX6_copyRow_60 fl_X6_224 (ts_live (k := 27) (by decide) (by decide) (ts_vin hr10)) rfl (cd := 0) rfl (by decide) ?_
            refine tv_aload_n C (pc := 63) dX6_copyRow_63 rfl rfl ?_
            refine tv_getR C (pc := 64) dX6_copyRow_64 fl_X6_38 (ts_live (k := 0) (by decide) (by decide) (by decide)) rfl rfl (i2 := (26, 0, 0)) rfl ?_
            refine tv_iload_n C (pc := 67) dX6_copyRow_67 rfl rfl ?_
            obtain ⟨hr11, h⟩ := ts_gd h
            refine tv_aaload7 C (pc := 68) dX6_copyRow_68 (ts_live (k := 26) (by decide) (by decide) (by decide)) rfl hr11 (j := p2.toNatClampNeg) rfl (i2 := (27, 0, p2.toNatClampNeg)) rfl ?_
            refine tv_getI C (pc := 69) dX6_copyRow_69 fl_X6_224 (ts_live (k := 27) (by decide) (by decide) (ts_vin hr11)) rfl (cd := 0) rfl (by decide) ?_
            refine tv_icmp_ne C (pc := 72) 79 dX6_copyRow_72 (by decide) (fun hc => ?_) (fun hc => ?_)
            · have h := ts_ifn h hc
              refine tv_iconst C (pc := 79) dX6_copyRow_79 (v := (0 : Int32)) rfl ?_
              obtain ⟨q12, hq12, h⟩ := ts_bd h
              have Mq12 := (m_X6_requireArgument (D := D) (dT := dT) (sz := sz) (ad := ad) hl (0 : Int32) u q12 hq12)
              rcases q12 with v13 | e14
              · have h := ts_eL h
                refine tv_callS C (pc := 80) dX6_copyRow_80 yl_X6_43 Mq12 (Nat.le_trans (Nat.le_of_ble_eq_true rfl) hdd) (As := [.inl (.int (0 : Int32))]) rfl ⟨Nat.le_of_ble_eq_true rfl, Nat.le_of_ble_eq_true rfl⟩ (fun _ => Nat.le_of_ble_eq_true rfl) rfl ?_
                refine tv_aload_n C (pc := 83) dX6_copyRow_83 rfl rfl ?_
                refine tv_getR C (pc := 84) dX6_copyRow_84 fl_X6_38 (ts_live (k := 0) (by decide) (by decide) (by decide)) rfl rfl (i2 := (26, 0, 0)) rfl ?_
                refine tv_iload_n C (pc := 87) dX6_copyRow_87 rfl rfl ?_
                obtain ⟨hr15, h⟩ := ts_gd h
                refine tv_aaload7 C (pc := 88) dX6_copyRow_88 (ts_live (k := 26) (by decide) (by decide) (by decide)) rfl hr15 (j := p2.toNatClampNeg) rfl (i2 := (27, 0, p2.toNatClampNeg)) rfl ?_
                refine tv_getI C (pc := 89) dX6_copyRow_89 fl_X6_213 (ts_live (k := 27) (by decide) (by decide) (ts_vin hr15)) rfl (cd := 0) rfl (by decide) ?_
                refine tv_aload_n C (pc := 92) dX6_copyRow_92 rfl rfl ?_
                refine tv_getR C (pc := 93) dX6_copyRow_93 fl_X6_38 (ts_live (k := 0) (by decide) (by decide) (by decide)) rfl rfl (i2 := (26, 0, 0)) rfl ?_
                refine tv_iload_n C (pc := 96) dX6_copyRow_96 rfl rfl ?_
                obtain ⟨hr16, h⟩ := ts_gd h
                refine tv_aaload7 C (pc := 97) dX6_copyRow_97 (ts_live (k := 26) (by decide) (by decide) (by decide)) rfl hr16 (j := p1.toNatClampNeg) rfl (i2 := (27, 0, p1.toNatClampNeg)) rfl ?_
                refine tv_getI C (pc := 98) dX6_copyRow_98 fl_X6_213 (ts_live (k := 27) (by decide) (by decide) (ts_vin hr16)) rfl (cd := 0) rfl (by decide) ?_
                refine tv_icmp_lt C (pc := 101) 108 dX6_copyRow_101 (by decide) (fun hc => ?_) (fun hc => ?_)
                · have h := ts_ifp h hc
                  refine tv_iconst C (pc := 108) dX6_copyRow_108 (v := (0 : Int32)) rfl ?_
                  obtain ⟨q17, hq17, h⟩ := ts_bd h
                  have Mq17 := (m_X6_requireElement (D := D) (dT := dT) (sz := sz) (ad := ad) hl (0 : Int32) u q17 hq17)
                  rcases q17 with v18 | e19
                  · have h := ts_eL h
                    refine tv_callS C (pc := 109) dX6_copyRow_109 yl_X6_106 Mq17 (Nat.le_trans (Nat.le_of_ble_eq_true rfl) hdd) (As := [.inl (.int (0 : Int32))]) rfl ⟨Nat.le_of_ble_eq_true rfl, Nat.le_of_ble_eq_true rfl⟩ (fun _ => Nat.le_of_ble_eq_true rfl) rfl ?_
                    refine tv_aload_n C (pc := 112) dX6_copyRow_112 rfl rfl ?_
                    refine tv_getR C (pc := 113) dX6_copyRow_113 fl_X6_38 (ts_live (k := 0) (by decide) (by decide) (by decide)) rfl rfl (i2 := (26, 0, 0)) rfl ?_
                    refine tv_iload_n C (pc := 116) dX6_copyRow_116 rfl rfl ?_
                    obtain ⟨hr20, h⟩ := ts_gd h
                    refine tv_aaload7 C (pc := 117) dX6_copyRow_117 (ts_live (k := 26) (by decide) (by decide) (by decide)) rfl hr20 (j := p2.toNatClampNeg) rfl (i2 := (27, 0, p2.toNatClampNeg)) rfl ?_
                    refine tv_aload_n C (pc := 118) dX6_copyRow_118 rfl rfl ?_
                    refine tv_getR C (pc := 119) dX6_copyRow_119 fl_X6_38 (ts_live (k := 0) (by decide) (by decide) (by decide)) rfl rfl (i2 := (26, 0, 0)) rfl ?_
                    refine tv_iload_n C (pc := 122) dX6_copyRow_122 rfl rfl ?_
                    obtain ⟨hr21, h⟩ := ts_gd h
                    refine tv_aaload7 C (pc := 123) dX6_copyRow_123 (ts_live (k := 26) (by decide) (by decide) (by decide)) rfl hr21 (j := p1.toNatClampNeg) rfl (i2 := (27, 0, p1.toNatClampNeg)) rfl ?_
                    obtain ⟨q22, hq22, h⟩ := ts_bd h
                    refine tv_callV C (pc := 124) dX6_copyRow_124 (ci := 4) (q := (RX4, TX4, 4)) rfl yl_X6_227 (m_X4_takeElements (D := D) (dT := dT) (sz := sz) (ad := ad) hl p2.toNatClampNeg (ts_vin hr20) p1.toNatClampNeg (ts_vin hr21) u q22 hq22) (ts_live (k := 27) (by decide) (by decide) (ts_vin hr20)) rfl (Nat.le_trans (Nat.le_of_ble_eq_true rfl) hdd) (As := [.inr (27, 0, p1.toNatClampNeg)]) rfl ⟨Nat.le_of_ble_eq_true rfl, Nat.le_of_ble_eq_true rfl⟩ (fun _ => Nat.le_of_ble_eq_true rfl) rfl ?_
                    refine tv_aload_n C (pc := 127) dX6_copyRow_127 rfl rfl ?_
                    refine tv_getR C (pc := 128) dX6_copyRow_128 fl_X6_38 (ts_live (k := 0) (by decide) (by decide) (by decide)) rfl rfl (i2 := (26, 0, 0)) rfl ?_
                    refine tv_iload_n C (pc := 131) dX6_copyRow_131 rfl rfl ?_
                    obtain ⟨hr23, h⟩ := ts_gd h
                    refine tv_aaload7 C (pc := 132) dX6_copyRow_132 (ts_live (k := 26) (by decide) (by decide) (by decide)) rfl hr23 (j := p1.toNatClampNeg) rfl (i2 := (27, 0, p1.toNatClampNeg)) rfl ?_
                    refine tv_getI C (pc := 133) dX6_copyRow_133 fl_X6_213 (ts_live (k := 27) (by decide) (by decide) (ts_vin hr23)) rfl (cd := 0) rfl (by decide) ?_
                    cases h
                    exact tv_iret C (pc := 136) rfl dX6_copyRow_136 ⟨Nat.le_of_ble_eq_true rfl, Nat.le_of_ble_eq_true rfl⟩
                  · have h := ts_eR h
                    cases h
                    exact tv_callS_thr C (pc := 109) hX dX6_copyRow_109 yl_X6_106 Mq17 (Nat.le_trans (Nat.le_of_ble_eq_true rfl) hdd) (As := [.inl (.int (0 : Int32))]) rfl ⟨Nat.le_of_ble_eq_true rfl, Nat.le_of_ble_eq_true rfl⟩ (fun _ => Nat.le_of_ble_eq_true rfl) rfl ⟨Nat.le_of_ble_eq_true rfl, Nat.le_of_ble_eq_true rfl⟩
                · have h := ts_ifn h hc
                  refine tv_iconst C (pc := 104) dX6_copyRow_104 (v := (1 : Int32)) rfl ?_
                  refine tv_goto C (pc := 105) 109 dX6_copyRow_105 (by decide) ?_
                  obtain ⟨q24, hq24, h⟩ := ts_bd h
                  have Mq24 := (m_X6_requireElement (D := D) (dT := dT) (sz := sz) (ad := ad) hl (1 : Int32) u q24 hq24)
                  rcases q24 with v25 | e26
                  · have h := ts_eL h
                    refine tv_callS C (pc := 109) dX6_copyRow_109 yl_X6_106 Mq24 (Nat.le_trans (Nat.le_of_ble_eq_true rfl) hdd) (As := [.inl (.int (1 : Int32))]) rfl ⟨Nat.le_of_ble_eq_true rfl, Nat.le_of_ble_eq_true rfl⟩ (fun _ => Nat.le_of_ble_eq_true rfl) rfl ?_
                    refine tv_aload_n C (pc := 112) dX6_copyRow_112 rfl rfl ?_
                    refine tv_getR C (pc := 113) dX6_copyRow_113 fl_X6_38 (ts_live (k := 0) (by decide) (by decide) (by decide)) rfl rfl (i2 := (26, 0, 0)) rfl ?_
                    refine tv_iload_n C (pc := 116) dX6_copyRow_116 rfl rfl ?_
                    obtain ⟨hr27, h⟩ := ts_gd h
                    refine tv_aaload7 C (pc := 117) dX6_copyRow_117 (ts_live (k := 26) (by decide) (by decide) (by decide)) rfl hr27 (j := p2.toNatClampNeg) rfl (i2 := (27, 0, p2.toNatClampNeg)) rfl ?_
                    refine tv_aload_n C (pc := 118) dX6_copyRow_118 rfl rfl ?_
                    refine tv_getR C (pc := 119) dX6_copyRow_119 fl_X6_38 (ts_live (k := 0) (by decide) (by decide) (by decide)) rfl rfl (i2 := (26, 0, 0)) rfl ?_
                    refine tv_iload_n C (pc := 122) dX6_copyRow_122 rfl rfl ?_
                    obtain ⟨hr28, h⟩ := ts_gd h
                    refine tv_aaload7 C (pc := 123) dX6_copyRow_123 (ts_live (k := 26) (by decide) (by decide) (by decide)) rfl hr28 (j := p1.toNatClampNeg) rfl (i2 := (27, 0, p1.toNatClampNeg)) rfl ?_
                    obtain ⟨q29, hq29, h⟩ := ts_bd h
                    refine tv_callV C (pc := 124) dX6_copyRow_124 (ci := 4) (q := (RX4, TX4, 4)) rfl yl_X6_227 (m_X4_takeElements (D := D) (dT := dT) (sz := sz) (ad := ad) hl p2.toNatClampNeg (ts_vin hr27) p1.toNatClampNeg (ts_vin hr28) u q29 hq29) (ts_live (k := 27) (by decide) (by decide) (ts_vin hr27)) rfl (Nat.le_trans (Nat.le_of_ble_eq_true rfl) hdd) (As := [.inr (27, 0, p1.toNatClampNeg)]) rfl ⟨Nat.le_of_ble_eq_true rfl, Nat.le_of_ble_eq_true rfl⟩ (fun _ => Nat.le_of_ble_eq_true rfl) rfl ?_
                    refine tv_aload_n C (pc := 127) dX6_copyRow_127 rfl rfl ?_
                    refine tv_getR C (pc := 128) dX6_copyRow_128 fl_X6_38 (ts_live (k := 0) (by decide) (by decide) (by decide)) rfl rfl (i2 := (26, 0, 0)) rfl ?_
                    refine tv_iload_n C (pc := 131) dX6_copyRow_131 rfl rfl ?_
                    obtain ⟨hr30, h⟩ := ts_gd h
                    refine tv_aaload7 C (pc := 132) dX6_copyRow_132 (ts_live (k := 26) (by decide) (by decide) (by decide)) rfl hr30 (j := p1.toNatClampNeg) rfl (i2 := (27, 0, p1.toNatClampNeg)) rfl ?_
                    refine tv_getI C (pc := 133) dX6_copyRow_133 fl_X6_213 (ts_live (k := 27) (by decide) (by decide) (ts_vin hr30)) rfl (cd := 0) rfl (by decide) ?_
                    cases h
                    exact tv_iret C (pc := 136) rfl dX6_copyRow_136 ⟨Nat.le_of_ble_eq_true rfl, Nat.le_of_ble_eq_true rfl⟩
                  · have h := ts_eR h
                    cases h
                    exact tv_callS_thr C (pc := 109) hX dX6_copyRow_109 yl_X6_106 Mq24 (Nat.le_trans (Nat.le_of_ble_eq_true rfl) hdd) (As := [.inl (.int (1 : Int32))]) rfl ⟨Nat.le_of_ble_eq_true rfl, Nat.le_of_ble_eq_true rfl⟩ (fun _ => Nat.le_of_ble_eq_true rfl) rfl ⟨Nat.le_of_ble_eq_true rfl, Nat.le_of_ble_eq_true rfl⟩
              · have h := ts_eR h
                cases h
                exact tv_callS_thr C (pc := 80) hX dX6_copyRow_80 yl_X6_43 Mq12 (Nat.le_trans (Nat.le_of_ble_eq_true rfl) hdd) (As := [.inl (.int (0 : Int32))]) rfl ⟨Nat.le_of_ble_eq_true rfl, Nat.le_of_ble_eq_true rfl⟩ (fun _ => Nat.le_of_ble_eq_true rfl) rfl ⟨Nat.le_of_ble_eq_true rfl, Nat.le_of_ble_eq_true rfl⟩
            · have h := ts_ifp h hc
              refine tv_iconst C (pc := 75) dX6_copyRow_75 (v := (1 : Int32)) rfl ?_
              refine tv_goto C (pc := 76) 80 dX6_copyRow_76 (by decide) ?_
              obtain ⟨q31, hq31, h⟩ := ts_bd h
              have Mq31 := (m_X6_requireArgument (D := D) (dT := dT) (sz := sz) (ad := ad) hl (1 : Int32) u q31 hq31)
              rcases q31 with v32 | e33
              · have h := ts_eL h
                refine tv_callS C (pc := 80) dX6_copyRow_80 yl_X6_43 Mq31 (Nat.le_trans (Nat.le_of_ble_eq_true rfl) hdd) (As := [.inl (.int (1 : Int32))]) rfl ⟨Nat.le_of_ble_eq_true rfl, Nat.le_of_ble_eq_true rfl⟩ (fun _ => Nat.le_of_ble_eq_true rfl) rfl ?_
                refine tv_aload_n C (pc := 83) dX6_copyRow_83 rfl rfl ?_
                refine tv_getR C (pc := 84) dX6_copyRow_84 fl_X6_38 (ts_live (k := 0) (by decide) (by decide) (by decide)) rfl rfl (i2 := (26, 0, 0)) rfl ?_
                refine tv_iload_n C (pc := 87) dX6_copyRow_87 rfl rfl ?_
                obtain ⟨hr34, h⟩ := ts_gd h
                refine tv_aaload7 C (pc := 88) dX6_copyRow_88 (ts_live (k := 26) (by decide) (by decide) (by decide)) rfl hr34 (j := p2.toNatClampNeg) rfl (i2 := (27, 0, p2.toNatClampNeg)) rfl ?_
                refine tv_getI C (pc := 89) dX6_copyRow_89 fl_X6_213 (ts_live (k := 27) (by decide) (by decide) (ts_vin hr34)) rfl (cd := 0) rfl (by decide) ?_
                refine tv_aload_n C (pc := 92) dX6_copyRow_92 rfl rfl ?_
                refine tv_getR C (pc := 93) dX6_copyRow_93 fl_X6_38 (ts_live (k := 0) (by decide) (by decide) (by decide)) rfl rfl (i2 := (26, 0, 0)) rfl ?_
                refine tv_iload_n C (pc := 96) dX6_copyRow_96 rfl rfl ?_
                obtain ⟨hr35, h⟩ := ts_gd h
                refine tv_aaload7 C (pc := 97) dX6_copyRow_97 (ts_live (k := 26) (by decide) (by decide) (by decide)) rfl hr35 (j := p1.toNatClampNeg) rfl (i2 := (27, 0, p1.toNatClampNeg)) rfl ?_
                refine tv_getI C (pc := 98) dX6_copyRow_98 fl_X6_213 (ts_live (k := 27) (by decide) (by decide) (ts_vin hr35)) rfl (cd := 0) rfl (by decide) ?_
                refine tv_icmp_lt C (pc := 101) 108 dX6_copyRow_101 (by decide) (fun hc => ?_) (fun hc => ?_)
                · have h := ts_ifp h hc
                  refine tv_iconst C (pc := 108) dX6_copyRow_108 (v := (0 : Int32)) rfl ?_
                  obtain ⟨q36, hq36, h⟩ := ts_bd h
                  have Mq36 := (m_X6_requireElement (D := D) (dT := dT) (sz := sz) (ad := ad) hl (0 : Int32) u q36 hq36)
                  rcases q36 with v37 | e38
                  · have h := ts_eL h
                    refine tv_callS C (pc := 109) dX6_copyRow_109 yl_X6_106 Mq36 (Nat.le_trans (Nat.le_of_ble_eq_true rfl) hdd) (As := [.inl (.int (0 : Int32))]) rfl ⟨Nat.le_of_ble_eq_true rfl, Nat.le_of_ble_eq_true rfl⟩ (fun _ => Nat.le_of_ble_eq_true rfl) rfl ?_
                    refine tv_aload_n C (pc := 112) dX6_copyRow_112 rfl rfl ?_
                    refine tv_getR C (pc := 113) dX6_copyRow_113 fl_X6_38 (ts_live (k := 0) (by decide) (by decide) (by decide)) rfl rfl (i2 := (26, 0, 0)) rfl ?_
                    refine tv_iload_n C (pc := 116) dX6_copyRow_116 rfl rfl ?_
                    obtain ⟨hr39, h⟩ := ts_gd h
                    refine tv_aaload7 C (pc := 117) dX6_copyRow_117 (ts_live (k := 26) (by decide) (by decide) (by decide)) rfl hr39 (j := p2.toNatClampNeg) rfl (i2 := (27, 0, p2.toNatClampNeg)) rfl ?_
                    refine tv_aload_n C (pc := 118) dX6_copyRow_118 rfl rfl ?_
                    refine tv_getR C (pc := 119) dX6_copyRow_119 fl_X6_38 (ts_live (k := 0) (by decide) (by decide) (by decide)) rfl rfl (i2 := (26, 0, 0)) rfl ?_
                    refine tv_iload_n C (pc := 122) dX6_copyRow_122 rfl rfl ?_
                    obtain ⟨hr40, h⟩ := ts_gd h
                    refine tv_aaload7 C (pc := 123) dX6_copyRow_123 (ts_live (k := 26) (by decide) (by decide) (by decide)) rfl hr40 (j := p1.toNatClampNeg) rfl (i2 := (27, 0, p1.toNatClampNeg)) rfl ?_
                    obtain ⟨q41, hq41, h⟩ := ts_bd h
                    refine tv_callV C (pc := 124) dX6_copyRow_124 (ci := 4) (q := (RX4, TX4, 4)) rfl yl_X6_227 (m_X4_takeElements (D := D) (dT := dT) (sz := sz) (ad := ad) hl p2.toNatClampNeg (ts_vin hr39) p1.toNatClampNeg (ts_vin hr40) u q41 hq41) (ts_live (k := 27) (by decide) (by decide) (ts_vin hr39)) rfl (Nat.le_trans (Nat.le_of_ble_eq_true rfl) hdd) (As := [.inr (27, 0, p1.toNatClampNeg)]) rfl ⟨Nat.le_of_ble_eq_true rfl, Nat.le_of_ble_eq_true rfl⟩ (fun _ => Nat.le_of_ble_eq_true rfl) rfl ?_
                    refine tv_aload_n C (pc := 127) dX6_copyRow_127 rfl rfl ?_
                    refine tv_getR C (pc := 128) dX6_copyRow_128 fl_X6_38 (ts_live (k := 0) (by decide) (by decide) (by decide)) rfl rfl (i2 := (26, 0, 0)) rfl ?_
                    refine tv_iload_n C (pc := 131) dX6_copyRow_131 rfl rfl ?_
                    obtain ⟨hr42, h⟩ := ts_gd h
                    refine tv_aaload7 C (pc := 132) dX6_copyRow_132 (ts_live (k := 26) (by decide) (by decide) (by decide)) rfl hr42 (j := p1.toNatClampNeg) rfl (i2 := (27, 0, p1.toNatClampNeg)) rfl ?_
                    refine tv_getI C (pc := 133) dX6_copyRow_133 fl_X6_213 (ts_live (k := 27) (by decide) (by decide) (ts_vin hr42)) rfl (cd := 0) rfl (by decide) ?_
                    cases h
                    exact tv_iret C (pc := 136) rfl dX6_copyRow_136 ⟨Nat.le_of_ble_eq_true rfl, Nat.le_of_ble_eq_true rfl⟩
                  · have h := ts_eR h
                    cases h
                    exact tv_callS_thr C (pc := 109) hX dX6_copyRow_109 yl_X6_106 Mq36 (Nat.le_trans (Nat.le_of_ble_eq_true rfl) hdd) (As := [.inl (.int (0 : Int32))]) rfl ⟨Nat.le_of_ble_eq_true rfl, Nat.le_of_ble_eq_true rfl⟩ (fun _ => Nat.le_of_ble_eq_true rfl) rfl ⟨Nat.le_of_ble_eq_true rfl, Nat.le_of_ble_eq_true rfl⟩
                · have h := ts_ifn h hc
                  refine tv_iconst C (pc := 104) dX6_copyRow_104 (v := (1 : Int32)) rfl ?_
                  refine tv_goto C (pc := 105) 109 dX6_copyRow_105 (by decide) ?_
                  obtain ⟨q43, hq43, h⟩ := ts_bd h
                  have Mq43 := (m_X6_requireElement (D := D) (dT := dT) (sz := sz) (ad := ad) hl (1 : Int32) u q43 hq43)
                  rcases q43 with v44 | e45
                  · have h := ts_eL h
                    refine tv_callS C (pc := 109) dX6_copyRow_109 yl_X6_106 Mq43 (Nat.le_trans (Nat.le_of_ble_eq_true rfl) hdd) (As := [.inl (.int (1 : Int32))]) rfl ⟨Nat.le_of_ble_eq_true rfl, Nat.le_of_ble_eq_true rfl⟩ (fun _ => Nat.le_of_ble_eq_true rfl) rfl ?_
                    refine tv_aload_n C (pc := 112) dX6_copyRow_112 rfl rfl ?_
                    refine tv_getR C (pc := 113) dX6_copyRow_113 fl_X6_38 (ts_live (k := 0) (by decide) (by decide) (by decide)) rfl rfl (i2 := (26, 0, 0)) rfl ?_
                    refine tv_iload_n C (pc := 116) dX6_copyRow_116 rfl rfl ?_
                    obtain ⟨hr46, h⟩ := ts_gd h
                    refine tv_aaload7 C (pc := 117) dX6_copyRow_117 (ts_live (k := 26) (by decide) (by decide) (by decide)) rfl hr46 (j := p2.toNatClampNeg) rfl (i2 := (27, 0, p2.toNatClampNeg)) rfl ?_
                    refine tv_aload_n C (pc := 118) dX6_copyRow_118 rfl rfl ?_
                    refine tv_getR C (pc := 119) dX6_copyRow_119 fl_X6_38 (ts_live (k := 0) (by decide) (by decide) (by decide)) rfl rfl (i2 := (26, 0, 0)) rfl ?_
                    refine tv_iload_n C (pc := 122) dX6_copyRow_122 rfl rfl ?_
                    obtain ⟨hr47, h⟩ := ts_gd h
                    refine tv_aaload7 C (pc := 123) dX6_copyRow_123 (ts_live (k := 26) (by decide) (by decide) (by decide)) rfl hr47 (j := p1.toNatClampNeg) rfl (i2 := (27, 0, p1.toNatClampNeg)) rfl ?_
                    obtain ⟨q48, hq48, h⟩ := ts_bd h
                    refine tv_callV C (pc := 124) dX6_copyRow_124 (ci := 4) (q := (RX4, TX4, 4)) rfl yl_X6_227 (m_X4_takeElements (D := D) (dT := dT) (sz := sz) (ad := ad) hl p2.toNatClampNeg (ts_vin hr46) p1.toNatClampNeg (ts_vin hr47) u q48 hq48) (ts_live (k := 27) (by decide) (by decide) (ts_vin hr46)) rfl (Nat.le_trans (Nat.le_of_ble_eq_true rfl) hdd) (As := [.inr (27, 0, p1.toNatClampNeg)]) rfl ⟨Nat.le_of_ble_eq_true rfl, Nat.le_of_ble_eq_true rfl⟩ (fun _ => Nat.le_of_ble_eq_true rfl) rfl ?_
                    refine tv_aload_n C (pc := 127) dX6_copyRow_127 rfl rfl ?_
                    refine tv_getR C (pc := 128) dX6_copyRow_128 fl_X6_38 (ts_live (k := 0) (by decide) (by decide) (by decide)) rfl rfl (i2 := (26, 0, 0)) rfl ?_
                    refine tv_iload_n C (pc := 131) dX6_copyRow_131 rfl rfl ?_
                    obtain ⟨hr49, h⟩ := ts_gd h
                    refine tv_aaload7 C (pc := 132) dX6_copyRow_132 (ts_live (k := 26) (by decide) (by decide) (by decide)) rfl hr49 (j := p1.toNatClampNeg) rfl (i2 := (27, 0, p1.toNatClampNeg)) rfl ?_
                    refine tv_getI C (pc := 133) dX6_copyRow_133 fl_X6_213 (ts_live (k := 27) (by decide) (by decide) (ts_vin hr49)) rfl (cd := 0) rfl (by decide) ?_
                    cases h
                    exact tv_iret C (pc := 136) rfl dX6_copyRow_136 ⟨Nat.le_of_ble_eq_true rfl, Nat.le_of_ble_eq_true rfl⟩
                  · have h := ts_eR h
                    cases h
                    exact tv_callS_thr C (pc := 109) hX dX6_copyRow_109 yl_X6_106 Mq43 (Nat.le_trans (Nat.le_of_ble_eq_true rfl) hdd) (As := [.inl (.int (1 : Int32))]) rfl ⟨Nat.le_of_ble_eq_true rfl, Nat.le_of_ble_eq_true rfl⟩ (fun _ => Nat.le_of_ble_eq_true rfl) rfl ⟨Nat.le_of_ble_eq_true rfl, Nat.le_of_ble_eq_true rfl⟩
              · have h := ts_eR h
                cases h
                exact tv_callS_thr C (pc := 80) hX dX6_copyRow_80 yl_X6_43 Mq31 (Nat.le_trans (Nat.le_of_ble_eq_true rfl) hdd) (As := [.inl (.int (1 : Int32))]) rfl ⟨Nat.le_of_ble_eq_true rfl, Nat.le_of_ble_eq_true rfl⟩ (fun _ => Nat.le_of_ble_eq_true rfl) rfl ⟨Nat.le_of_ble_eq_true rfl, Nat.le_of_ble_eq_true rfl⟩
          · have h := ts_eR h
            cases h
            exact tv_callS_thr C (pc := 51) hX dX6_copyRow_51 yl_X6_57 Mq7 (Nat.le_trans (Nat.le_of_ble_eq_true rfl) hdd) (As := [.inl (.int (0 : Int32))]) rfl ⟨Nat.le_of_ble_eq_true rfl, Nat.le_of_ble_eq_true rfl⟩ (fun _ => Nat.le_of_ble_eq_true rfl) rfl ⟨Nat.le_of_ble_eq_true rfl, Nat.le_of_ble_eq_true rfl⟩
        · have h := ts_ifn h hc
          refine tv_aload_n C (pc := 34) dX6_copyRow_34 rfl rfl ?_
          refine tv_getR C (pc := 35) dX6_copyRow_35 fl_X6_38 (ts_live (k := 0) (by decide) (by decide) (by decide)) rfl rfl (i2 := (26, 0, 0)) rfl ?_
          refine tv_iload_n C (pc := 38) dX6_copyRow_38 rfl rfl ?_
          obtain ⟨hr50, h⟩ := ts_gd h
          refine tv_aaload7 C (pc := 39) dX6_copyRow_39 (ts_live (k := 26) (by decide) (by decide) (by decide)) rfl hr50 (j := p2.toNatClampNeg) rfl (i2 := (27, 0, p2.toNatClampNeg)) rfl ?_
          obtain ⟨q51, hq51, h⟩ := ts_bd h
          refine tv_callV C (pc := 40) dX6_copyRow_40 (ci := 4) (q := (RX4, TX4, 4)) rfl yl_X6_206 (m_X4_isUsed (D := D) (dT := dT) (sz := sz) (ad := ad) hl p2.toNatClampNeg (ts_vin hr50) u q51 hq51) (ts_live (k := 27) (by decide) (by decide) (ts_vin hr50)) rfl (Nat.le_trans (Nat.le_of_ble_eq_true rfl) hdd) (As := []) rfl ⟨Nat.le_of_ble_eq_true rfl, Nat.le_of_ble_eq_true rfl⟩ (fun _ => Nat.le_of_ble_eq_true rfl) rfl ?_
          refine tv_if_eq C (pc := 43) 50 dX6_copyRow_43 (by decide) (fun hc => ?_) (fun hc => ?_)
          · have h := ts_ifp h hc
            refine tv_iconst C (pc := 50) dX6_copyRow_50 (v := (0 : Int32)) rfl ?_
            obtain ⟨q52, hq52, h⟩ := ts_bd h
            have Mq52 := (m_X6_requireState (D := D) (dT := dT) (sz := sz) (ad := ad) hl (0 : Int32) u q52 hq52)
            rcases q52 with v53 | e54
            · have h := ts_eL h
              refine tv_callS C (pc := 51) dX6_copyRow_51 yl_X6_57 Mq52 (Nat.le_trans (Nat.le_of_ble_eq_true rfl) hdd) (As := [.inl (.int (0 : Int32))]) rfl ⟨Nat.le_of_ble_eq_true rfl, Nat.le_of_ble_eq_true rfl⟩ (fun _ => Nat.le_of_ble_eq_true rfl) rfl ?_
              refine tv_aload_n C (pc := 54) dX6_copyRow_54 rfl rfl ?_
              refine tv_getR C (pc := 55) dX6_copyRow_55 fl_X6_38 (ts_live (k := 0) (by decide) (by decide) (by decide)) rfl rfl (i2 := (26, 0, 0)) rfl ?_
              refine tv_iload_n C (pc := 58) dX6_copyRow_58 rfl rfl ?_
              obtain ⟨hr55, h⟩ := ts_gd h
              refine tv_aaload7 C (pc := 59) dX6_copyRow_59 (ts_live (k := 26) (by decide) (by decide) (by decide)) rfl hr55 (j := p1.toNatClampNeg) rfl (i2 := (27, 0, p1.toNatClampNeg)) rfl ?_
              refine tv_getI C (pc := 60) dX6_copyRow_60 fl_X6_224 (ts_live (k := 27) (by decide) (by decide) (ts_vin hr55)) rfl (cd := 0) rfl (by decide) ?_
              refine tv_aload_n C (pc := 63) dX6_copyRow_63 rfl rfl ?_
              refine tv_getR C (pc := 64) dX6_copyRow_64 fl_X6_38 (ts_live (k := 0) (by decide) (by decide) (by decide)) rfl rfl (i2 := (26, 0, 0)) rfl ?_
              refine tv_iload_n C (pc := 67) dX6_copyRow_67 rfl rfl ?_
              obtain ⟨hr56, h⟩ := ts_gd h
              refine tv_aaload7 C (pc := 68) dX6_copyRow_68 (ts_live (k := 26) (by decide) (by decide) (by decide)) rfl hr56 (j := p2.toNatClampNeg) rfl (i2 := (27, 0, p2.toNatClampNeg)) rfl ?_
              refine tv_getI C (pc := 69) dX6_copyRow_69 fl_X6_224 (ts_live (k := 27) (by decide) (by decide) (ts_vin hr56)) rfl (cd := 0) rfl (by decide) ?_
              refine tv_icmp_ne C (pc := 72) 79 dX6_copyRow_72 (by decide) (fun hc => ?_) (fun hc => ?_)
              · have h := ts_ifn h hc
                refine tv_iconst C (pc := 79) dX6_copyRow_79 (v := (0 : Int32)) rfl ?_
                obtain ⟨q57, hq57, h⟩ := ts_bd h
                have Mq57 := (m_X6_requireArgument (D := D) (dT := dT) (sz := sz) (ad := ad) hl (0 : Int32) u q57 hq57)
                rcases q57 with v58 | e59
                · have h := ts_eL h
                  refine tv_callS C (pc := 80) dX6_copyRow_80 yl_X6_43 Mq57 (Nat.le_trans (Nat.le_of_ble_eq_true rfl) hdd) (As := [.inl (.int (0 : Int32))]) rfl ⟨Nat.le_of_ble_eq_true rfl, Nat.le_of_ble_eq_true rfl⟩ (fun _ => Nat.le_of_ble_eq_true rfl) rfl ?_
                  refine tv_aload_n C (pc := 83) dX6_copyRow_83 rfl rfl ?_
                  refine tv_getR C (pc := 84) dX6_copyRow_84 fl_X6_38 (ts_live (k := 0) (by decide) (by decide) (by decide)) rfl rfl (i2 := (26, 0, 0)) rfl ?_
                  refine tv_iload_n C (pc := 87) dX6_copyRow_87 rfl rfl ?_
                  obtain ⟨hr60, h⟩ := ts_gd h
                  refine tv_aaload7 C (pc := 88) dX6_copyRow_88 (ts_live (k := 26) (by decide) (by decide) (by decide)) rfl hr60 (j := p2.toNatClampNeg) rfl (i2 := (27, 0, p2.toNatClampNeg)) rfl ?_
                  refine tv_getI C (pc := 89) dX6_copyRow_89 fl_X6_213 (ts_live (k := 27) (by decide) (by decide) (ts_vin hr60)) rfl (cd := 0) rfl (by decide) ?_
                  refine tv_aload_n C (pc := 92) dX6_copyRow_92 rfl rfl ?_
                  refine tv_getR C (pc := 93) dX6_copyRow_93 fl_X6_38 (ts_live (k := 0) (by decide) (by decide) (by decide)) rfl rfl (i2 := (26, 0, 0)) rfl ?_
                  refine tv_iload_n C (pc := 96) dX6_copyRow_96 rfl rfl ?_
                  obtain ⟨hr61, h⟩ := ts_gd h
                  refine tv_aaload7 C (pc := 97) dX6_copyRow_97 (ts_live (k := 26) (by decide) (by decide) (by decide)) rfl hr61 (j := p1.toNatClampNeg) rfl (i2 := (27, 0, p1.toNatClampNeg)) rfl ?_
                  refine tv_getI C (pc := 98) dX6_copyRow_98 fl_X6_213 (ts_live (k := 27) (by decide) (by decide) (ts_vin hr61)) rfl (cd := 0) rfl (by decide) ?_
                  refine tv_icmp_lt C (pc := 101) 108 dX6_copyRow_101 (by decide) (fun hc => ?_) (fun hc => ?_)
                  · have h := ts_ifp h hc
                    refine tv_iconst C (pc := 108) dX6_copyRow_108 (v := (0 : Int32)) rfl ?_
                    obtain ⟨q62, hq62, h⟩ := ts_bd h
                    have Mq62 := (m_X6_requireElement (D := D) (dT := dT) (sz := sz) (ad := ad) hl (0 : Int32) u q62 hq62)
                    rcases q62 with v63 | e64
                    · have h := ts_eL h
                      refine tv_callS C (pc := 109) dX6_copyRow_109 yl_X6_106 Mq62 (Nat.le_trans (Nat.le_of_ble_eq_true rfl) hdd) (As := [.inl (.int (0 : Int32))]) rfl ⟨Nat.le_of_ble_eq_true rfl, Nat.le_of_ble_eq_true rfl⟩ (fun _ => Nat.le_of_ble_eq_true rfl) rfl ?_
                      refine tv_aload_n C (pc := 112) dX6_copyRow_112 rfl rfl ?_
                      refine tv_getR C (pc := 113) dX6_copyRow_113 fl_X6_38 (ts_live (k := 0) (by decide) (by decide) (by decide)) rfl rfl (i2 := (26, 0, 0)) rfl ?_
                      refine tv_iload_n C (pc := 116) dX6_copyRow_116 rfl rfl ?_
                      obtain ⟨hr65, h⟩ := ts_gd h
                      refine tv_aaload7 C (pc := 117) dX6_copyRow_117 (ts_live (k := 26) (by decide) (by decide) (by decide)) rfl hr65 (j := p2.toNatClampNeg) rfl (i2 := (27, 0, p2.toNatClampNeg)) rfl ?_
                      refine tv_aload_n C (pc := 118) dX6_copyRow_118 rfl rfl ?_
                      refine tv_getR C (pc := 119) dX6_copyRow_119 fl_X6_38 (ts_live (k := 0) (by decide) (by decide) (by decide)) rfl rfl (i2 := (26, 0, 0)) rfl ?_
                      refine tv_iload_n C (pc := 122) dX6_copyRow_122 rfl rfl ?_
                      obtain ⟨hr66, h⟩ := ts_gd h
                      refine tv_aaload7 C (pc := 123) dX6_copyRow_123 (ts_live (k := 26) (by decide) (by decide) (by decide)) rfl hr66 (j := p1.toNatClampNeg) rfl (i2 := (27, 0, p1.toNatClampNeg)) rfl ?_
                      obtain ⟨q67, hq67, h⟩ := ts_bd h
                      refine tv_callV C (pc := 124) dX6_copyRow_124 (ci := 4) (q := (RX4, TX4, 4)) rfl yl_X6_227 (m_X4_takeElements (D := D) (dT := dT) (sz := sz) (ad := ad) hl p2.toNatClampNeg (ts_vin hr65) p1.toNatClampNeg (ts_vin hr66) u q67 hq67) (ts_live (k := 27) (by decide) (by decide) (ts_vin hr65)) rfl (Nat.le_trans (Nat.le_of_ble_eq_true rfl) hdd) (As := [.inr (27, 0, p1.toNatClampNeg)]) rfl ⟨Nat.le_of_ble_eq_true rfl, Nat.le_of_ble_eq_true rfl⟩ (fun _ => Nat.le_of_ble_eq_true rfl) rfl ?_
                      refine tv_aload_n C (pc := 127) dX6_copyRow_127 rfl rfl ?_
                      refine tv_getR C (pc := 128) dX6_copyRow_128 fl_X6_38 (ts_live (k := 0) (by decide) (by decide) (by decide)) rfl rfl (i2 := (26, 0, 0)) rfl ?_
                      refine tv_iload_n C (pc := 131) dX6_copyRow_131 rfl rfl ?_
                      obtain ⟨hr68, h⟩ := ts_gd h
                      refine tv_aaload7 C (pc := 132) dX6_copyRow_132 (ts_live (k := 26) (by decide) (by decide) (by decide)) rfl hr68 (j := p1.toNatClampNeg) rfl (i2 := (27, 0, p1.toNatClampNeg)) rfl ?_
                      refine tv_getI C (pc := 133) dX6_copyRow_133 fl_X6_213 (ts_live (k := 27) (by decide) (by decide) (ts_vin hr68)) rfl (cd := 0) rfl (by decide) ?_
                      cases h
                      exact tv_iret C (pc := 136) rfl dX6_copyRow_136 ⟨Nat.le_of_ble_eq_true rfl, Nat.le_of_ble_eq_true rfl⟩
                    · have h := ts_eR h
                      cases h
                      exact tv_callS_thr C (pc := 109) hX dX6_copyRow_109 yl_X6_106 Mq62 (Nat.le_trans (Nat.le_of_ble_eq_true rfl) hdd) (As := [.inl (.int (0 : Int32))]) rfl ⟨Nat.le_of_ble_eq_true rfl, Nat.le_of_ble_eq_true rfl⟩ (fun _ => Nat.le_of_ble_eq_true rfl) rfl ⟨Nat.le_of_ble_eq_true rfl, Nat.le_of_ble_eq_true rfl⟩
                  · have h := ts_ifn h hc
                    refine tv_iconst C (pc := 104) dX6_copyRow_104 (v := (1 : Int32)) rfl ?_
                    refine tv_goto C (pc := 105) 109 dX6_copyRow_105 (by decide) ?_
                    obtain ⟨q69, hq69, h⟩ := ts_bd h
                    have Mq69 := (m_X6_requireElement (D := D) (dT := dT) (sz := sz) (ad := ad) hl (1 : Int32) u q69 hq69)
                    rcases q69 with v70 | e71
                    · have h := ts_eL h
                      refine tv_callS C (pc := 109) dX6_copyRow_109 yl_X6_106 Mq69 (Nat.le_trans (Nat.le_of_ble_eq_true rfl) hdd) (As := [.inl (.int (1 : Int32))]) rfl ⟨Nat.le_of_ble_eq_true rfl, Nat.le_of_ble_eq_true rfl⟩ (fun _ => Nat.le_of_ble_eq_true rfl) rfl ?_
                      refine tv_aload_n C (pc := 112) dX6_copyRow_112 rfl rfl ?_
                      refine tv_getR C (pc := 113) dX6_copyRow_113 fl_X6_38 (ts_live (k := 0) (by decide) (by decide) (by decide)) rfl rfl (i2 := (26, 0, 0)) rfl ?_
                      refine tv_iload_n C (pc := 116) dX6_copyRow_116 rfl rfl ?_
                      obtain ⟨hr72, h⟩ := ts_gd h
                      refine tv_aaload7 C (pc := 117) dX6_copyRow_117 (ts_live (k := 26) (by decide) (by decide) (by decide)) rfl hr72 (j := p2.toNatClampNeg) rfl (i2 := (27, 0, p2.toNatClampNeg)) rfl ?_
                      refine tv_aload_n C (pc := 118) dX6_copyRow_118 rfl rfl ?_
                      refine tv_getR C (pc := 119) dX6_copyRow_119 fl_X6_38 (ts_live (k := 0) (by decide) (by decide) (by decide)) rfl rfl (i2 := (26, 0, 0)) rfl ?_
                      refine tv_iload_n C (pc := 122) dX6_copyRow_122 rfl rfl ?_
                      obtain ⟨hr73, h⟩ := ts_gd h
                      refine tv_aaload7 C (pc := 123) dX6_copyRow_123 (ts_live (k := 26) (by decide) (by decide) (by decide)) rfl hr73 (j := p1.toNatClampNeg) rfl (i2 := (27, 0, p1.toNatClampNeg)) rfl ?_
                      obtain ⟨q74, hq74, h⟩ := ts_bd h
                      refine tv_callV C (pc := 124) dX6_copyRow_124 (ci := 4) (q := (RX4, TX4, 4)) rfl yl_X6_227 (m_X4_takeElements (D := D) (dT := dT) (sz := sz) (ad := ad) hl p2.toNatClampNeg (ts_vin hr72) p1.toNatClampNeg (ts_vin hr73) u q74 hq74) (ts_live (k := 27) (by decide) (by decide) (ts_vin hr72)) rfl (Nat.le_trans (Nat.le_of_ble_eq_true rfl) hdd) (As := [.inr (27, 0, p1.toNatClampNeg)]) rfl ⟨Nat.le_of_ble_eq_true rfl, Nat.le_of_ble_eq_true rfl⟩ (fun _ => Nat.le_of_ble_eq_true rfl) rfl ?_
                      refine tv_aload_n C (pc := 127) dX6_copyRow_127 rfl rfl ?_
                      refine tv_getR C (pc := 128) dX6_copyRow_128 fl_X6_38 (ts_live (k := 0) (by decide) (by decide) (by decide)) rfl rfl (i2 := (26, 0, 0)) rfl ?_
                      refine tv_iload_n C (pc := 131) dX6_copyRow_131 rfl rfl ?_
                      obtain ⟨hr75, h⟩ := ts_gd h
                      refine tv_aaload7 C (pc := 132) dX6_copyRow_132 (ts_live (k := 26) (by decide) (by decide) (by decide)) rfl hr75 (j := p1.toNatClampNeg) rfl (i2 := (27, 0, p1.toNatClampNeg)) rfl ?_
                      refine tv_getI C (pc := 133) dX6_copyRow_133 fl_X6_213 (ts_live (k := 27) (by decide) (by decide) (ts_vin hr75)) rfl (cd := 0) rfl (by decide) ?_
                      cases h
                      exact tv_iret C (pc := 136) rfl dX6_copyRow_136 ⟨Nat.le_of_ble_eq_true rfl, Nat.le_of_ble_eq_true rfl⟩
                    · have h := ts_eR h
                      cases h
                      exact tv_callS_thr C (pc := 109) hX dX6_copyRow_109 yl_X6_106 Mq69 (Nat.le_trans (Nat.le_of_ble_eq_true rfl) hdd) (As := [.inl (.int (1 : Int32))]) rfl ⟨Nat.le_of_ble_eq_true rfl, Nat.le_of_ble_eq_true rfl⟩ (fun _ => Nat.le_of_ble_eq_true rfl) rfl ⟨Nat.le_of_ble_eq_true rfl, Nat.le_of_ble_eq_true rfl⟩
                · have h := ts_eR h
                  cases h
                  exact tv_callS_thr C (pc := 80) hX dX6_copyRow_80 yl_X6_43 Mq57 (Nat.le_trans (Nat.le_of_ble_eq_true rfl) hdd) (As := [.inl (.int (0 : Int32))]) rfl ⟨Nat.le_of_ble_eq_true rfl, Nat.le_of_ble_eq_true rfl⟩ (fun _ => Nat.le_of_ble_eq_true rfl) rfl ⟨Nat.le_of_ble_eq_true rfl, Nat.le_of_ble_eq_true rfl⟩
              · have h := ts_ifp h hc
                refine tv_iconst C (pc := 75) dX6_copyRow_75 (v := (1 : Int32)) rfl ?_
                refine tv_goto C (pc := 76) 80 dX6_copyRow_76 (by decide) ?_
                obtain ⟨q76, hq76, h⟩ := ts_bd h
                have Mq76 := (m_X6_requireArgument (D := D) (dT := dT) (sz := sz) (ad := ad) hl (1 : Int32) u q76 hq76)
                rcases q76 with v77 | e78
                · have h := ts_eL h
                  refine tv_callS C (pc := 80) dX6_copyRow_80 yl_X6_43 Mq76 (Nat.le_trans (Nat.le_of_ble_eq_true rfl) hdd) (As := [.inl (.int (1 : Int32))]) rfl ⟨Nat.le_of_ble_eq_true rfl, Nat.le_of_ble_eq_true rfl⟩ (fun _ => Nat.le_of_ble_eq_true rfl) rfl ?_
                  refine tv_aload_n C (pc := 83) dX6_copyRow_83 rfl rfl ?_
                  refine tv_getR C (pc := 84) dX6_copyRow_84 fl_X6_38 (ts_live (k := 0) (by decide) (by decide) (by decide)) rfl rfl (i2 := (26, 0, 0)) rfl ?_
                  refine tv_iload_n C (pc := 87) dX6_copyRow_87 rfl rfl ?_
                  obtain ⟨hr79, h⟩ := ts_gd h
                  refine tv_aaload7 C (pc := 88) dX6_copyRow_88 (ts_live (k := 26) (by decide) (by decide) (by decide)) rfl hr79 (j := p2.toNatClampNeg) rfl (i2 := (27, 0, p2.toNatClampNeg)) rfl ?_
                  refine tv_getI C (pc := 89) dX6_copyRow_89 fl_X6_213 (ts_live (k := 27) (by decide) (by decide) (ts_vin hr79)) rfl (cd := 0) rfl (by decide) ?_
                  refine tv_aload_n C (pc := 92) dX6_copyRow_92 rfl rfl ?_
                  refine tv_getR C (pc := 93) dX6_copyRow_93 fl_X6_38 (ts_live (k := 0) (by decide) (by decide) (by decide)) rfl rfl (i2 := (26, 0, 0)) rfl ?_
                  refine tv_iload_n C (pc := 96) dX6_copyRow_96 rfl rfl ?_
                  obtain ⟨hr80, h⟩ := ts_gd h
                  refine tv_aaload7 C (pc := 97) dX6_copyRow_97 (ts_live (k := 26) (by decide) (by decide) (by decide)) rfl hr80 (j := p1.toNatClampNeg) rfl (i2 := (27, 0, p1.toNatClampNeg)) rfl ?_
                  refine tv_getI C (pc := 98) dX6_copyRow_98 fl_X6_213 (ts_live (k := 27) (by decide) (by decide) (ts_vin hr80)) rfl (cd := 0) rfl (by decide) ?_
                  refine tv_icmp_lt C (pc := 101) 108 dX6_copyRow_101 (by decide) (fun hc => ?_) (fun hc => ?_)
                  · have h := ts_ifp h hc
                    refine tv_iconst C (pc := 108) dX6_copyRow_108 (v := (0 : Int32)) rfl ?_
                    obtain ⟨q81, hq81, h⟩ := ts_bd h
                    have Mq81 := (m_X6_requireElement (D := D) (dT := dT) (sz := sz) (ad := ad) hl (0 : Int32) u q81 hq81)
                    rcases q81 with v82 | e83
                    · have h := ts_eL h
                      refine tv_callS C (pc := 109) dX6_copyRow_109 yl_X6_106 Mq81 (Nat.le_trans (Nat.le_of_ble_eq_true rfl) hdd) (As := [.inl (.int (0 : Int32))]) rfl ⟨Nat.le_of_ble_eq_true rfl, Nat.le_of_ble_eq_true rfl⟩ (fun _ => Nat.le_of_ble_eq_true rfl) rfl ?_
                      refine tv_aload_n C (pc := 112) dX6_copyRow_112 rfl rfl ?_
                      refine tv_getR C (pc := 113) dX6_copyRow_113 fl_X6_38 (ts_live (k := 0) (by decide) (by decide) (by decide)) rfl rfl (i2 := (26, 0, 0)) rfl ?_
                      refine tv_iload_n C (pc := 116) dX6_copyRow_116 rfl rfl ?_
                      obtain ⟨hr84, h⟩ := ts_gd h
                      refine tv_aaload7 C (pc := 117) dX6_copyRow_117 (ts_live (k := 26) (by decide) (by decide) (by decide)) rfl hr84 (j := p2.toNatClampNeg) rfl (i2 := (27, 0, p2.toNatClampNeg)) rfl ?_
                      refine tv_aload_n C (pc := 118) dX6_copyRow_118 rfl rfl ?_
                      refine tv_getR C (pc := 119) dX6_copyRow_119 fl_X6_38 (ts_live (k := 0) (by decide) (by decide) (by decide)) rfl rfl (i2 := (26, 0, 0)) rfl ?_
                      refine tv_iload_n C (pc := 122) dX6_copyRow_122 rfl rfl ?_
                      obtain ⟨hr85, h⟩ := ts_gd h
                      refine tv_aaload7 C (pc := 123) dX6_copyRow_123 (ts_live (k := 26) (by decide) (by decide) (by decide)) rfl hr85 (j := p1.toNatClampNeg) rfl (i2 := (27, 0, p1.toNatClampNeg)) rfl ?_
                      obtain ⟨q86, hq86, h⟩ := ts_bd h
                      refine tv_callV C (pc := 124) dX6_copyRow_124 (ci := 4) (q := (RX4, TX4, 4)) rfl yl_X6_227 (m_X4_takeElements (D := D) (dT := dT) (sz := sz) (ad := ad) hl p2.toNatClampNeg (ts_vin hr84) p1.toNatClampNeg (ts_vin hr85) u q86 hq86) (ts_live (k := 27) (by decide) (by decide) (ts_vin hr84)) rfl (Nat.le_trans (Nat.le_of_ble_eq_true rfl) hdd) (As := [.inr (27, 0, p1.toNatClampNeg)]) rfl ⟨Nat.le_of_ble_eq_true rfl, Nat.le_of_ble_eq_true rfl⟩ (fun _ => Nat.le_of_ble_eq_true rfl) rfl ?_
                      refine tv_aload_n C (pc := 127) dX6_copyRow_127 rfl rfl ?_
                      refine tv_getR C (pc := 128) dX6_copyRow_128 fl_X6_38 (ts_live (k := 0) (by decide) (by decide) (by decide)) rfl rfl (i2 := (26, 0, 0)) rfl ?_
                      refine tv_iload_n C (pc := 131) dX6_copyRow_131 rfl rfl ?_
                      obtain ⟨hr87, h⟩ := ts_gd h
                      refine tv_aaload7 C (pc := 132) dX6_copyRow_132 (ts_live (k := 26) (by decide) (by decide) (by decide)) rfl hr87 (j := p1.toNatClampNeg) rfl (i2 := (27, 0, p1.toNatClampNeg)) rfl ?_
                      refine tv_getI C (pc := 133) dX6_copyRow_133 fl_X6_213 (ts_live (k := 27) (by decide) (by decide) (ts_vin hr87)) rfl (cd := 0) rfl (by decide) ?_
                      cases h
                      exact tv_iret C (pc := 136) rfl dX6_copyRow_136 ⟨Nat.le_of_ble_eq_true rfl, Nat.le_of_ble_eq_true rfl⟩
                    · have h := ts_eR h
                      cases h
                      exact tv_callS_thr C (pc := 109) hX dX6_copyRow_109 yl_X6_106 Mq81 (Nat.le_trans (Nat.le_of_ble_eq_true rfl) hdd) (As := [.inl (.int (0 : Int32))]) rfl ⟨Nat.le_of_ble_eq_true rfl, Nat.le_of_ble_eq_true rfl⟩ (fun _ => Nat.le_of_ble_eq_true rfl) rfl ⟨Nat.le_of_ble_eq_true rfl, Nat.le_of_ble_eq_true rfl⟩
                  · have h := ts_ifn h hc
                    refine tv_iconst C (pc := 104) dX6_copyRow_104 (v := (1 : Int32)) rfl ?_
                    refine tv_goto C (pc := 105) 109 dX6_copyRow_105 (by decide) ?_
                    obtain ⟨q88, hq88, h⟩ := ts_bd h
                    have Mq88 := (m_X6_requireElement (D := D) (dT := dT) (sz := sz) (ad := ad) hl (1 : Int32) u q88 hq88)
                    rcases q88 with v89 | e90
                    · have h := ts_eL h
                      refine tv_callS C (pc := 109) dX6_copyRow_109 yl_X6_106 Mq88 (Nat.le_trans (Nat.le_of_ble_eq_true rfl) hdd) (As := [.inl (.int (1 : Int32))]) rfl ⟨Nat.le_of_ble_eq_true rfl, Nat.le_of_ble_eq_true rfl⟩ (fun _ => Nat.le_of_ble_eq_true rfl) rfl ?_
                      refine tv_aload_n C (pc := 112) dX6_copyRow_112 rfl rfl ?_
                      refine tv_getR C (pc := 113) dX6_copyRow_113 fl_X6_38 (ts_live (k := 0) (by decide) (by decide) (by decide)) rfl rfl (i2 := (26, 0, 0)) rfl ?_
                      refine tv_iload_n C (pc := 116) dX6_copyRow_116 rfl rfl ?_
                      obtain ⟨hr91, h⟩ := ts_gd h
                      refine tv_aaload7 C (pc := 117) dX6_copyRow_117 (ts_live (k := 26) (by decide) (by decide) (by decide)) rfl hr91 (j := p2.toNatClampNeg) rfl (i2 := (27, 0, p2.toNatClampNeg)) rfl ?_
                      refine tv_aload_n C (pc := 118) dX6_copyRow_118 rfl rfl ?_
                      refine tv_getR C (pc := 119) dX6_copyRow_119 fl_X6_38 (ts_live (k := 0) (by decide) (by decide) (by decide)) rfl rfl (i2 := (26, 0, 0)) rfl ?_
                      refine tv_iload_n C (pc := 122) dX6_copyRow_122 rfl rfl ?_
                      obtain ⟨hr92, h⟩ := ts_gd h
                      refine tv_aaload7 C (pc := 123) dX6_copyRow_123 (ts_live (k := 26) (by decide) (by decide) (by decide)) rfl hr92 (j := p1.toNatClampNeg) rfl (i2 := (27, 0, p1.toNatClampNeg)) rfl ?_
                      obtain ⟨q93, hq93, h⟩ := ts_bd h
                      refine tv_callV C (pc := 124) dX6_copyRow_124 (ci := 4) (q := (RX4, TX4, 4)) rfl yl_X6_227 (m_X4_takeElements (D := D) (dT := dT) (sz := sz) (ad := ad) hl p2.toNatClampNeg (ts_vin hr91) p1.toNatClampNeg (ts_vin hr92) u q93 hq93) (ts_live (k := 27) (by decide) (by decide) (ts_vin hr91)) rfl (Nat.le_trans (Nat.le_of_ble_eq_true rfl) hdd) (As := [.inr (27, 0, p1.toNatClampNeg)]) rfl ⟨Nat.le_of_ble_eq_true rfl, Nat.le_of_ble_eq_true rfl⟩ (fun _ => Nat.le_of_ble_eq_true rfl) rfl ?_
                      refine tv_aload_n C (pc := 127) dX6_copyRow_127 rfl rfl ?_
                      refine tv_getR C (pc := 128) dX6_copyRow_128 fl_X6_38 (ts_live (k := 0) (by decide) (by decide) (by decide)) rfl rfl (i2 := (26, 0, 0)) rfl ?_
                      refine tv_iload_n C (pc := 131) dX6_copyRow_131 rfl rfl ?_
                      obtain ⟨hr94, h⟩ := ts_gd h
                      refine tv_aaload7 C (pc := 132) dX6_copyRow_132 (ts_live (k := 26) (by decide) (by decide) (by decide)) rfl hr94 (j := p1.toNatClampNeg) rfl (i2 := (27, 0, p1.toNatClampNeg)) rfl ?_
                      refine tv_getI C (pc := 133) dX6_copyRow_133 fl_X6_213 (ts_live (k := 27) (by decide) (by decide) (ts_vin hr94)) rfl (cd := 0) rfl (by decide) ?_
                      cases h
                      exact tv_iret C (pc := 136) rfl dX6_copyRow_136 ⟨Nat.le_of_ble_eq_true rfl, Nat.le_of_ble_eq_true rfl⟩
                    · have h := ts_eR h
                      cases h
                      exact tv_callS_thr C (pc := 109) hX dX6_copyRow_109 yl_X6_106 Mq88 (Nat.le_trans (Nat.le_of_ble_eq_true rfl) hdd) (As := [.inl (.int (1 : Int32))]) rfl ⟨Nat.le_of_ble_eq_true rfl, Nat.le_of_ble_eq_true rfl⟩ (fun _ => Nat.le_of_ble_eq_true rfl) rfl ⟨Nat.le_of_ble_eq_true rfl, Nat.le_of_ble_eq_true rfl⟩
                · have h := ts_eR h
                  cases h
                  exact tv_callS_thr C (pc := 80) hX dX6_copyRow_80 yl_X6_43 Mq76 (Nat.le_trans (Nat.le_of_ble_eq_true rfl) hdd) (As := [.inl (.int (1 : Int32))]) rfl ⟨Nat.le_of_ble_eq_true rfl, Nat.le_of_ble_eq_true rfl⟩ (fun _ => Nat.le_of_ble_eq_true rfl) rfl ⟨Nat.le_of_ble_eq_true rfl, Nat.le_of_ble_eq_true rfl⟩
            · have h := ts_eR h
              cases h
              exact tv_callS_thr C (pc := 51) hX dX6_copyRow_51 yl_X6_57 Mq52 (Nat.le_trans (Nat.le_of_ble_eq_true rfl) hdd) (As := [.inl (.int (0 : Int32))]) rfl ⟨Nat.le_of_ble_eq_true rfl, Nat.le_of_ble_eq_true rfl⟩ (fun _ => Nat.le_of_ble_eq_true rfl) rfl ⟨Nat.le_of_ble_eq_true rfl, Nat.le_of_ble_eq_true rfl⟩
          · have h := ts_ifn h hc
            refine tv_iconst C (pc := 46) dX6_copyRow_46 (v := (1 : Int32)) rfl ?_
            refine tv_goto C (pc := 47) 51 dX6_copyRow_47 (by decide) ?_
            obtain ⟨q95, hq95, h⟩ := ts_bd h
            have Mq95 := (m_X6_requireState (D := D) (dT := dT) (sz := sz) (ad := ad) hl (1 : Int32) u q95 hq95)
            rcases q95 with v96 | e97
            · have h := ts_eL h
              refine tv_callS C (pc := 51) dX6_copyRow_51 yl_X6_57 Mq95 (Nat.le_trans (Nat.le_of_ble_eq_true rfl) hdd) (As := [.inl (.int (1 : Int32))]) rfl ⟨Nat.le_of_ble_eq_true rfl, Nat.le_of_ble_eq_true rfl⟩ (fun _ => Nat.le_of_ble_eq_true rfl) rfl ?_
              refine tv_aload_n C (pc := 54) dX6_copyRow_54 rfl rfl ?_
              refine tv_getR C (pc := 55) dX6_copyRow_55 fl_X6_38 (ts_live (k := 0) (by decide) (by decide) (by decide)) rfl rfl (i2 := (26, 0, 0)) rfl ?_
              refine tv_iload_n C (pc := 58) dX6_copyRow_58 rfl rfl ?_
              obtain ⟨hr98, h⟩ := ts_gd h
              refine tv_aaload7 C (pc := 59) dX6_copyRow_59 (ts_live (k := 26) (by decide) (by decide) (by decide)) rfl hr98 (j := p1.toNatClampNeg) rfl (i2 := (27, 0, p1.toNatClampNeg)) rfl ?_
              refine tv_getI C (pc := 60) dX6_copyRow_60 fl_X6_224 (ts_live (k := 27) (by decide) (by decide) (ts_vin hr98)) rfl (cd := 0) rfl (by decide) ?_
              refine tv_aload_n C (pc := 63) dX6_copyRow_63 rfl rfl ?_
              refine tv_getR C (pc := 64) dX6_copyRow_64 fl_X6_38 (ts_live (k := 0) (by decide) (by decide) (by decide)) rfl rfl (i2 := (26, 0, 0)) rfl ?_
              refine tv_iload_n C (pc := 67) dX6_copyRow_67 rfl rfl ?_
              obtain ⟨hr99, h⟩ := ts_gd h
              refine tv_aaload7 C (pc := 68) dX6_copyRow_68 (ts_live (k := 26) (by decide) (by decide) (by decide)) rfl hr99 (j := p2.toNatClampNeg) rfl (i2 := (27, 0, p2.toNatClampNeg)) rfl ?_
              refine tv_getI C (pc := 69) dX6_copyRow_69 fl_X6_224 (ts_live (k := 27) (by decide) (by decide) (ts_vin hr99)) rfl (cd := 0) rfl (by decide) ?_
              refine tv_icmp_ne C (pc := 72) 79 dX6_copyRow_72 (by decide) (fun hc => ?_) (fun hc => ?_)
              · have h := ts_ifn h hc
                refine tv_iconst C (pc := 79) dX6_copyRow_79 (v := (0 : Int32)) rfl ?_
                obtain ⟨q100, hq100, h⟩ := ts_bd h
                have Mq100 := (m_X6_requireArgument (D := D) (dT := dT) (sz := sz) (ad := ad) hl (0 : Int32) u q100 hq100)
                rcases q100 with v101 | e102
                · have h := ts_eL h
                  refine tv_callS C (pc := 80) dX6_copyRow_80 yl_X6_43 Mq100 (Nat.le_trans (Nat.le_of_ble_eq_true rfl) hdd) (As := [.inl (.int (0 : Int32))]) rfl ⟨Nat.le_of_ble_eq_true rfl, Nat.le_of_ble_eq_true rfl⟩ (fun _ => Nat.le_of_ble_eq_true rfl) rfl ?_
                  refine tv_aload_n C (pc := 83) dX6_copyRow_83 rfl rfl ?_
                  refine tv_getR C (pc := 84) dX6_copyRow_84 fl_X6_38 (ts_live (k := 0) (by decide) (by decide) (by decide)) rfl rfl (i2 := (26, 0, 0)) rfl ?_
                  refine tv_iload_n C (pc := 87) dX6_copyRow_87 rfl rfl ?_
                  obtain ⟨hr103, h⟩ := ts_gd h
                  refine tv_aaload7 C (pc := 88) dX6_copyRow_88 (ts_live (k := 26) (by decide) (by decide) (by decide)) rfl hr103 (j := p2.toNatClampNeg) rfl (i2 := (27, 0, p2.toNatClampNeg)) rfl ?_
                  refine tv_getI C (pc := 89) dX6_copyRow_89 fl_X6_213 (ts_live (k := 27) (by decide) (by decide) (ts_vin hr103)) rfl (cd := 0) rfl (by decide) ?_
                  refine tv_aload_n C (pc := 92) dX6_copyRow_92 rfl rfl ?_
                  refine tv_getR C (pc := 93) dX6_copyRow_93 fl_X6_38 (ts_live (k := 0) (by decide) (by decide) (by decide)) rfl rfl (i2 := (26, 0, 0)) rfl ?_
                  refine tv_iload_n C (pc := 96) dX6_copyRow_96 rfl rfl ?_
                  obtain ⟨hr104, h⟩ := ts_gd h
                  refine tv_aaload7 C (pc := 97) dX6_copyRow_97 (ts_live (k := 26) (by decide) (by decide) (by decide)) rfl hr104 (j := p1.toNatClampNeg) rfl (i2 := (27, 0, p1.toNatClampNeg)) rfl ?_
                  refine tv_getI C (pc := 98) dX6_copyRow_98 fl_X6_213 (ts_live (k := 27) (by decide) (by decide) (ts_vin hr104)) rfl (cd := 0) rfl (by decide) ?_
                  refine tv_icmp_lt C (pc := 101) 108 dX6_copyRow_101 (by decide) (fun hc => ?_) (fun hc => ?_)
                  · have h := ts_ifp h hc
                    refine tv_iconst C (pc := 108) dX6_copyRow_108 (v := (0 : Int32)) rfl ?_
                    obtain ⟨q105, hq105, h⟩ := ts_bd h
                    have Mq105 := (m_X6_requireElement (D := D) (dT := dT) (sz := sz) (ad := ad) hl (0 : Int32) u q105 hq105)
                    rcases q105 with v106 | e107
                    · have h := ts_eL h
                      refine tv_callS C (pc := 109) dX6_copyRow_109 yl_X6_106 Mq105 (Nat.le_trans (Nat.le_of_ble_eq_true rfl) hdd) (As := [.inl (.int (0 : Int32))]) rfl ⟨Nat.le_of_ble_eq_true rfl, Nat.le_of_ble_eq_true rfl⟩ (fun _ => Nat.le_of_ble_eq_true rfl) rfl ?_
                      refine tv_aload_n C (pc := 112) dX6_copyRow_112 rfl rfl ?_
                      refine tv_getR C (pc := 113) dX6_copyRow_113 fl_X6_38 (ts_live (k := 0) (by decide) (by decide) (by decide)) rfl rfl (i2 := (26, 0, 0)) rfl ?_
                      refine tv_iload_n C (pc := 116) dX6_copyRow_116 rfl rfl ?_
                      obtain ⟨hr108, h⟩ := ts_gd h
                      refine tv_aaload7 C (pc := 117) dX6_copyRow_117 (ts_live (k := 26) (by decide) (by decide) (by decide)) rfl hr108 (j := p2.toNatClampNeg) rfl (i2 := (27, 0, p2.toNatClampNeg)) rfl ?_
                      refine tv_aload_n C (pc := 118) dX6_copyRow_118 rfl rfl ?_
                      refine tv_getR C (pc := 119) dX6_copyRow_119 fl_X6_38 (ts_live (k := 0) (by decide) (by decide) (by decide)) rfl rfl (i2 := (26, 0, 0)) rfl ?_
                      refine tv_iload_n C (pc := 122) dX6_copyRow_122 rfl rfl ?_
                      obtain ⟨hr109, h⟩ := ts_gd h
                      refine tv_aaload7 C (pc := 123) dX6_copyRow_123 (ts_live (k := 26) (by decide) (by decide) (by decide)) rfl hr109 (j := p1.toNatClampNeg) rfl (i2 := (27, 0, p1.toNatClampNeg)) rfl ?_
                      obtain ⟨q110, hq110, h⟩ := ts_bd h
                      refine tv_callV C (pc := 124) dX6_copyRow_124 (ci := 4) (q := (RX4, TX4, 4)) rfl yl_X6_227 (m_X4_takeElements (D := D) (dT := dT) (sz := sz) (ad := ad) hl p2.toNatClampNeg (ts_vin hr108) p1.toNatClampNeg (ts_vin hr109) u q110 hq110) (ts_live (k := 27) (by decide) (by decide) (ts_vin hr108)) rfl (Nat.le_trans (Nat.le_of_ble_eq_true rfl) hdd) (As := [.inr (27, 0, p1.toNatClampNeg)]) rfl ⟨Nat.le_of_ble_eq_true rfl, Nat.le_of_ble_eq_true rfl⟩ (fun _ => Nat.le_of_ble_eq_true rfl) rfl ?_
                      refine tv_aload_n C (pc := 127) dX6_copyRow_127 rfl rfl ?_
                      refine tv_getR C (pc := 128) dX6_copyRow_128 fl_X6_38 (ts_live (k := 0) (by decide) (by decide) (by decide)) rfl rfl (i2 := (26, 0, 0)) rfl ?_
                      refine tv_iload_n C (pc := 131) dX6_copyRow_131 rfl rfl ?_
                      obtain ⟨hr111, h⟩ := ts_gd h
                      refine tv_aaload7 C (pc := 132) dX6_copyRow_132 (ts_live (k := 26) (by decide) (by decide) (by decide)) rfl hr111 (j := p1.toNatClampNeg) rfl (i2 := (27, 0, p1.toNatClampNeg)) rfl ?_
                      refine tv_getI C (pc := 133) dX6_copyRow_133 fl_X6_213 (ts_live (k := 27) (by decide) (by decide) (ts_vin hr111)) rfl (cd := 0) rfl (by decide) ?_
                      cases h
                      exact tv_iret C (pc := 136) rfl dX6_copyRow_136 ⟨Nat.le_of_ble_eq_true rfl, Nat.le_of_ble_eq_true rfl⟩
                    · have h := ts_eR h
                      cases h
                      exact tv_callS_thr C (pc := 109) hX dX6_copyRow_109 yl_X6_106 Mq105 (Nat.le_trans (Nat.le_of_ble_eq_true rfl) hdd) (As := [.inl (.int (0 : Int32))]) rfl ⟨Nat.le_of_ble_eq_true rfl, Nat.le_of_ble_eq_true rfl⟩ (fun _ => Nat.le_of_ble_eq_true rfl) rfl ⟨Nat.le_of_ble_eq_true rfl, Nat.le_of_ble_eq_true rfl⟩
                  · have h := ts_ifn h hc
                    refine tv_iconst C (pc := 104) dX6_copyRow_104 (v := (1 : Int32)) rfl ?_
                    refine tv_goto C (pc := 105) 109 dX6_copyRow_105 (by decide) ?_
                    obtain ⟨q112, hq112, h⟩ := ts_bd h
                    have Mq112 := (m_X6_requireElement (D := D) (dT := dT) (sz := sz) (ad := ad) hl (1 : Int32) u q112 hq112)
                    rcases q112 with v113 | e114
                    · have h := ts_eL h
                      refine tv_callS C (pc := 109) dX6_copyRow_109 yl_X6_106 Mq112 (Nat.le_trans (Nat.le_of_ble_eq_true rfl) hdd) (As := [.inl (.int (1 : Int32))]) rfl ⟨Nat.le_of_ble_eq_true rfl, Nat.le_of_ble_eq_true rfl⟩ (fun _ => Nat.le_of_ble_eq_true rfl) rfl ?_
                      refine tv_aload_n C (pc := 112) dX6_copyRow_112 rfl rfl ?_
                      refine tv_getR C (pc := 113) dX6_copyRow_113 fl_X6_38 (ts_live (k := 0) (by decide) (by decide) (by decide)) rfl rfl (i2 := (26, 0, 0)) rfl ?_
                      refine tv_iload_n C (pc := 116) dX6_copyRow_116 rfl rfl ?_
                      obtain ⟨hr115, h⟩ := ts_gd h
                      refine tv_aaload7 C (pc := 117) dX6_copyRow_117 (ts_live (k := 26) (by decide) (by decide) (by decide)) rfl hr115 (j := p2.toNatClampNeg) rfl (i2 := (27, 0, p2.toNatClampNeg)) rfl ?_
                      refine tv_aload_n C (pc := 118) dX6_copyRow_118 rfl rfl ?_
                      refine tv_getR C (pc := 119) dX6_copyRow_119 fl_X6_38 (ts_live (k := 0) (by decide) (by decide) (by decide)) rfl rfl (i2 := (26, 0, 0)) rfl ?_
                      refine tv_iload_n C (pc := 122) dX6_copyRow_122 rfl rfl ?_
                      obtain ⟨hr116, h⟩ := ts_gd h
                      refine tv_aaload7 C (pc := 123) dX6_copyRow_123 (ts_live (k := 26) (by decide) (by decide) (by decide)) rfl hr116 (j := p1.toNatClampNeg) rfl (i2 := (27, 0, p1.toNatClampNeg)) rfl ?_
                      obtain ⟨q117, hq117, h⟩ := ts_bd h
                      refine tv_callV C (pc := 124) dX6_copyRow_124 (ci := 4) (q := (RX4, TX4, 4)) rfl yl_X6_227 (m_X4_takeElements (D := D) (dT := dT) (sz := sz) (ad := ad) hl p2.toNatClampNeg (ts_vin hr115) p1.toNatClampNeg (ts_vin hr116) u q117 hq117) (ts_live (k := 27) (by decide) (by decide) (ts_vin hr115)) rfl (Nat.le_trans (Nat.le_of_ble_eq_true rfl) hdd) (As := [.inr (27, 0, p1.toNatClampNeg)]) rfl ⟨Nat.le_of_ble_eq_true rfl, Nat.le_of_ble_eq_true rfl⟩ (fun _ => Nat.le_of_ble_eq_true rfl) rfl ?_
                      refine tv_aload_n C (pc := 127) dX6_copyRow_127 rfl rfl ?_
                      refine tv_getR C (pc := 128) dX6_copyRow_128 fl_X6_38 (ts_live (k := 0) (by decide) (by decide) (by decide)) rfl rfl (i2 := (26, 0, 0)) rfl ?_
                      refine tv_iload_n C (pc := 131) dX6_copyRow_131 rfl rfl ?_
                      obtain ⟨hr118, h⟩ := ts_gd h
                      refine tv_aaload7 C (pc := 132) dX6_copyRow_132 (ts_live (k := 26) (by decide) (by decide) (by decide)) rfl hr118 (j := p1.toNatClampNeg) rfl (i2 := (27, 0, p1.toNatClampNeg)) rfl ?_
                      refine tv_getI C (pc := 133) dX6_copyRow_133 fl_X6_213 (ts_live (k := 27) (by decide) (by decide) (ts_vin hr118)) rfl (cd := 0) rfl (by decide) ?_
                      cases h
                      exact tv_iret C (pc := 136) rfl dX6_copyRow_136 ⟨Nat.le_of_ble_eq_true rfl, Nat.le_of_ble_eq_true rfl⟩
                    · have h := ts_eR h
                      cases h
                      exact tv_callS_thr C (pc := 109) hX dX6_copyRow_109 yl_X6_106 Mq112 (Nat.le_trans (Nat.le_of_ble_eq_true rfl) hdd) (As := [.inl (.int (1 : Int32))]) rfl ⟨Nat.le_of_ble_eq_true rfl, Nat.le_of_ble_eq_true rfl⟩ (fun _ => Nat.le_of_ble_eq_true rfl) rfl ⟨Nat.le_of_ble_eq_true rfl, Nat.le_of_ble_eq_true rfl⟩
                · have h := ts_eR h
                  cases h
                  exact tv_callS_thr C (pc := 80) hX dX6_copyRow_80 yl_X6_43 Mq100 (Nat.le_trans (Nat.le_of_ble_eq_true rfl) hdd) (As := [.inl (.int (0 : Int32))]) rfl ⟨Nat.le_of_ble_eq_true rfl, Nat.le_of_ble_eq_true rfl⟩ (fun _ => Nat.le_of_ble_eq_true rfl) rfl ⟨Nat.le_of_ble_eq_true rfl, Nat.le_of_ble_eq_true rfl⟩
              · have h := ts_ifp h hc
                refine tv_iconst C (pc := 75) dX6_copyRow_75 (v := (1 : Int32)) rfl ?_
                refine tv_goto C (pc := 76) 80 dX6_copyRow_76 (by decide) ?_
                obtain ⟨q119, hq119, h⟩ := ts_bd h
                have Mq119 := (m_X6_requireArgument (D := D) (dT := dT) (sz := sz) (ad := ad) hl (1 : Int32) u q119 hq119)
                rcases q119 with v120 | e121
                · have h := ts_eL h
                  refine tv_callS C (pc := 80) dX6_copyRow_80 yl_X6_43 Mq119 (Nat.le_trans (Nat.le_of_ble_eq_true rfl) hdd) (As := [.inl (.int (1 : Int32))]) rfl ⟨Nat.le_of_ble_eq_true rfl, Nat.le_of_ble_eq_true rfl⟩ (fun _ => Nat.le_of_ble_eq_true rfl) rfl ?_
                  refine tv_aload_n C (pc := 83) dX6_copyRow_83 rfl rfl ?_
                  refine tv_getR C (pc := 84) dX6_copyRow_84 fl_X6_38 (ts_live (k := 0) (by decide) (by decide) (by decide)) rfl rfl (i2 := (26, 0, 0)) rfl ?_
                  refine tv_iload_n C (pc := 87) dX6_copyRow_87 rfl rfl ?_
                  obtain ⟨hr122, h⟩ := ts_gd h
                  refine tv_aaload7 C (pc := 88) dX6_copyRow_88 (ts_live (k := 26) (by decide) (by decide) (by decide)) rfl hr122 (j := p2.toNatClampNeg) rfl (i2 := (27, 0, p2.toNatClampNeg)) rfl ?_
                  refine tv_getI C (pc := 89) dX6_copyRow_89 fl_X6_213 (ts_live (k := 27) (by decide) (by decide) (ts_vin hr122)) rfl (cd := 0) rfl (by decide) ?_
                  refine tv_aload_n C (pc := 92) dX6_copyRow_92 rfl rfl ?_
                  refine tv_getR C (pc := 93) dX6_copyRow_93 fl_X6_38 (ts_live (k := 0) (by decide) (by decide) (by decide)) rfl rfl (i2 := (26, 0, 0)) rfl ?_
                  refine tv_iload_n C (pc := 96) dX6_copyRow_96 rfl rfl ?_
                  obtain ⟨hr123, h⟩ := ts_gd h
                  refine tv_aaload7 C (pc := 97) dX6_copyRow_97 (ts_live (k := 26) (by decide) (by decide) (by decide)) rfl hr123 (j := p1.toNatClampNeg) rfl (i2 := (27, 0, p1.toNatClampNeg)) rfl ?_
                  refine tv_getI C (pc := 98) dX6_copyRow_98 fl_X6_213 (ts_live (k := 27) (by decide) (by decide) (ts_vin hr123)) rfl (cd := 0) rfl (by decide) ?_
                  refine tv_icmp_lt C (pc := 101) 108 dX6_copyRow_101 (by decide) (fun hc => ?_) (fun hc => ?_)
                  · have h := ts_ifp h hc
                    refine tv_iconst C (pc := 108) dX6_copyRow_108 (v := (0 : Int32)) rfl ?_
                    obtain ⟨q124, hq124, h⟩ := ts_bd h
                    have Mq124 := (m_X6_requireElement (D := D) (dT := dT) (sz := sz) (ad := ad) hl (0 : Int32) u q124 hq124)
                    rcases q124 with v125 | e126
                    · have h := ts_eL h
                      refine tv_callS C (pc := 109) dX6_copyRow_109 yl_X6_106 Mq124 (Nat.le_trans (Nat.le_of_ble_eq_true rfl) hdd) (As := [.inl (.int (0 : Int32))]) rfl ⟨Nat.le_of_ble_eq_true rfl, Nat.le_of_ble_eq_true rfl⟩ (fun _ => Nat.le_of_ble_eq_true rfl) rfl ?_
                      refine tv_aload_n C (pc := 112) dX6_copyRow_112 rfl rfl ?_
                      refine tv_getR C (pc := 113) dX6_copyRow_113 fl_X6_38 (ts_live (k := 0) (by decide) (by decide) (by decide)) rfl rfl (i2 := (26, 0, 0)) rfl ?_
                      refine tv_iload_n C (pc := 116) dX6_copyRow_116 rfl rfl ?_
                      obtain ⟨hr127, h⟩ := ts_gd h
                      refine tv_aaload7 C (pc := 117) dX6_copyRow_117 (ts_live (k := 26) (by decide) (by decide) (by decide)) rfl hr127 (j := p2.toNatClampNeg) rfl (i2 := (27, 0, p2.toNatClampNeg)) rfl ?_
                      refine tv_aload_n C (pc := 118) dX6_copyRow_118 rfl rfl ?_
                      refine tv_getR C (pc := 119) dX6_copyRow_119 fl_X6_38 (ts_live (k := 0) (by decide) (by decide) (by decide)) rfl rfl (i2 := (26, 0, 0)) rfl ?_
                      refine tv_iload_n C (pc := 122) dX6_copyRow_122 rfl rfl ?_
                      obtain ⟨hr128, h⟩ := ts_gd h
                      refine tv_aaload7 C (pc := 123) dX6_copyRow_123 (ts_live (k := 26) (by decide) (by decide) (by decide)) rfl hr128 (j := p1.toNatClampNeg) rfl (i2 := (27, 0, p1.toNatClampNeg)) rfl ?_
                      obtain ⟨q129, hq129, h⟩ := ts_bd h
                      refine tv_callV C (pc := 124) dX6_copyRow_124 (ci := 4) (q := (RX4, TX4, 4)) rfl yl_X6_227 (m_X4_takeElements (D := D) (dT := dT) (sz := sz) (ad := ad) hl p2.toNatClampNeg (ts_vin hr127) p1.toNatClampNeg (ts_vin hr128) u q129 hq129) (ts_live (k := 27) (by decide) (by decide) (ts_vin hr127)) rfl (Nat.le_trans (Nat.le_of_ble_eq_true rfl) hdd) (As := [.inr (27, 0, p1.toNatClampNeg)]) rfl ⟨Nat.le_of_ble_eq_true rfl, Nat.le_of_ble_eq_true rfl⟩ (fun _ => Nat.le_of_ble_eq_true rfl) rfl ?_
                      refine tv_aload_n C (pc := 127) dX6_copyRow_127 rfl rfl ?_
                      refine tv_getR C (pc := 128) dX6_copyRow_128 fl_X6_38 (ts_live (k := 0) (by decide) (by decide) (by decide)) rfl rfl (i2 := (26, 0, 0)) rfl ?_
                      refine tv_iload_n C (pc := 131) dX6_copyRow_131 rfl rfl ?_
                      obtain ⟨hr130, h⟩ := ts_gd h
                      refine tv_aaload7 C (pc := 132) dX6_copyRow_132 (ts_live (k := 26) (by decide) (by decide) (by decide)) rfl hr130 (j := p1.toNatClampNeg) rfl (i2 := (27, 0, p1.toNatClampNeg)) rfl ?_
                      refine tv_getI C (pc := 133) dX6_copyRow_133 fl_X6_213 (ts_live (k := 27) (by decide) (by decide) (ts_vin hr130)) rfl (cd := 0) rfl (by decide) ?_
                      cases h
                      exact tv_iret C (pc := 136) rfl dX6_copyRow_136 ⟨Nat.le_of_ble_eq_true rfl, Nat.le_of_ble_eq_true rfl⟩
                    · have h := ts_eR h
                      cases h
                      exact tv_callS_thr C (pc := 109) hX dX6_copyRow_109 yl_X6_106 Mq124 (Nat.le_trans (Nat.le_of_ble_eq_true rfl) hdd) (As := [.inl (.int (0 : Int32))]) rfl ⟨Nat.le_of_ble_eq_true rfl, Nat.le_of_ble_eq_true rfl⟩ (fun _ => Nat.le_of_ble_eq_true rfl) rfl ⟨Nat.le_of_ble_eq_true rfl, Nat.le_of_ble_eq_true rfl⟩
                  · have h := ts_ifn h hc
                    refine tv_iconst C (pc := 104) dX6_copyRow_104 (v := (1 : Int32)) rfl ?_
                    refine tv_goto C (pc := 105) 109 dX6_copyRow_105 (by decide) ?_
                    obtain ⟨q131, hq131, h⟩ := ts_bd h
                    have Mq131 := (m_X6_requireElement (D := D) (dT := dT) (sz := sz) (ad := ad) hl (1 : Int32) u q131 hq131)
                    rcases q131 with v132 | e133
                    · have h := ts_eL h
                      refine tv_callS C (pc := 109) dX6_copyRow_109 yl_X6_106 Mq131 (Nat.le_trans (Nat.le_of_ble_eq_true rfl) hdd) (As := [.inl (.int (1 : Int32))]) rfl ⟨Nat.le_of_ble_eq_true rfl, Nat.le_of_ble_eq_true rfl⟩ (fun _ => Nat.le_of_ble_eq_true rfl) rfl ?_
                      refine tv_aload_n C (pc := 112) dX6_copyRow_112 rfl rfl ?_
                      refine tv_getR C (pc := 113) dX6_copyRow_113 fl_X6_38 (ts_live (k := 0) (by decide) (by decide) (by decide)) rfl rfl (i2 := (26, 0, 0)) rfl ?_
                      refine tv_iload_n C (pc := 116) dX6_copyRow_116 rfl rfl ?_
                      obtain ⟨hr134, h⟩ := ts_gd h
                      refine tv_aaload7 C (pc := 117) dX6_copyRow_117 (ts_live (k := 26) (by decide) (by decide) (by decide)) rfl hr134 (j := p2.toNatClampNeg) rfl (i2 := (27, 0, p2.toNatClampNeg)) rfl ?_
                      refine tv_aload_n C (pc := 118) dX6_copyRow_118 rfl rfl ?_
                      refine tv_getR C (pc := 119) dX6_copyRow_119 fl_X6_38 (ts_live (k := 0) (by decide) (by decide) (by decide)) rfl rfl (i2 := (26, 0, 0)) rfl ?_
                      refine tv_iload_n C (pc := 122) dX6_copyRow_122 rfl rfl ?_
                      obtain ⟨hr135, h⟩ := ts_gd h
                      refine tv_aaload7 C (pc := 123) dX6_copyRow_123 (ts_live (k := 26) (by decide) (by decide) (by decide)) rfl hr135 (j := p1.toNatClampNeg) rfl (i2 := (27, 0, p1.toNatClampNeg)) rfl ?_
                      obtain ⟨q136, hq136, h⟩ := ts_bd h
                      refine tv_callV C (pc := 124) dX6_copyRow_124 (ci := 4) (q := (RX4, TX4, 4)) rfl yl_X6_227 (m_X4_takeElements (D := D) (dT := dT) (sz := sz) (ad := ad) hl p2.toNatClampNeg (ts_vin hr134) p1.toNatClampNeg (ts_vin hr135) u q136 hq136) (ts_live (k := 27) (by decide) (by decide) (ts_vin hr134)) rfl (Nat.le_trans (Nat.le_of_ble_eq_true rfl) hdd) (As := [.inr (27, 0, p1.toNatClampNeg)]) rfl ⟨Nat.le_of_ble_eq_true rfl, Nat.le_of_ble_eq_true rfl⟩ (fun _ => Nat.le_of_ble_eq_true rfl) rfl ?_
                      refine tv_aload_n C (pc := 127) dX6_copyRow_127 rfl rfl ?_
                      refine tv_getR C (pc := 128) dX6_copyRow_128 fl_X6_38 (ts_live (k := 0) (by decide) (by decide) (by decide)) rfl rfl (i2 := (26, 0, 0)) rfl ?_
                      refine tv_iload_n C (pc := 131) dX6_copyRow_131 rfl rfl ?_
                      obtain ⟨hr137, h⟩ := ts_gd h
                      refine tv_aaload7 C (pc := 132) dX6_copyRow_132 (ts_live (k := 26) (by decide) (by decide) (by decide)) rfl hr137 (j := p1.toNatClampNeg) rfl (i2 := (27, 0, p1.toNatClampNeg)) rfl ?_
                      refine tv_getI C (pc := 133) dX6_copyRow_133 fl_X6_213 (ts_live (k := 27) (by decide) (by decide) (ts_vin hr137)) rfl (cd := 0) rfl (by decide) ?_
                      cases h
                      exact tv_iret C (pc := 136) rfl dX6_copyRow_136 ⟨Nat.le_of_ble_eq_true rfl, Nat.le_of_ble_eq_true rfl⟩
                    · have h := ts_eR h
                      cases h
                      exact tv_callS_thr C (pc := 109) hX dX6_copyRow_109 yl_X6_106 Mq131 (Nat.le_trans (Nat.le_of_ble_eq_true rfl) hdd) (As := [.inl (.int (1 : Int32))]) rfl ⟨Nat.le_of_ble_eq_true rfl, Nat.le_of_ble_eq_true rfl⟩ (fun _ => Nat.le_of_ble_eq_true rfl) rfl ⟨Nat.le_of_ble_eq_true rfl, Nat.le_of_ble_eq_true rfl⟩
                · have h := ts_eR h
                  cases h
                  exact tv_callS_thr C (pc := 80) hX dX6_copyRow_80 yl_X6_43 Mq119 (Nat.le_trans (Nat.le_of_ble_eq_true rfl) hdd) (As := [.inl (.int (1 : Int32))]) rfl ⟨Nat.le_of_ble_eq_true rfl, Nat.le_of_ble_eq_true rfl⟩ (fun _ => Nat.le_of_ble_eq_true rfl) rfl ⟨Nat.le_of_ble_eq_true rfl, Nat.le_of_ble_eq_true rfl⟩
            · have h := ts_eR h
              cases h
              exact tv_callS_thr C (pc := 51) hX dX6_copyRow_51 yl_X6_57 Mq95 (Nat.le_trans (Nat.le_of_ble_eq_true rfl) hdd) (As := [.inl (.int (1 : Int32))]) rfl ⟨Nat.le_of_ble_eq_true rfl, Nat.le_of_ble_eq_true rfl⟩ (fun _ => Nat.le_of_ble_eq_true rfl) rfl ⟨Nat.le_of_ble_eq_true rfl, Nat.le_of_ble_eq_true rfl⟩
      · have h := ts_eR h
        cases h
        exact tv_callS_thr C (pc := 19) hX dX6_copyRow_19 yl_X6_71 Mq2 (Nat.le_trans (Nat.le_of_ble_eq_true rfl) hdd) (As := [.inl (.int (0 : Int32))]) rfl ⟨Nat.le_of_ble_eq_true rfl, Nat.le_of_ble_eq_true rfl⟩ (fun _ => Nat.le_of_ble_eq_true rfl) rfl ⟨Nat.le_of_ble_eq_true rfl, Nat.le_of_ble_eq_true rfl⟩
    · have h := ts_ifn h hc
      refine tv_iload_n C (pc := 7) dX6_copyRow_7 rfl rfl ?_
      obtain ⟨q138, hq138, h⟩ := ts_bd h
      refine tv_callS C (pc := 8) dX6_copyRow_8 yl_X6_200 (m_X6_isSlot (D := D) (dT := dT) (sz := sz) (ad := ad) hl p2 u q138 hq138) (Nat.le_trans (Nat.le_of_ble_eq_true rfl) hdd) (As := [.inl (.int p2)]) rfl ⟨Nat.le_of_ble_eq_true rfl, Nat.le_of_ble_eq_true rfl⟩ (fun _ => Nat.le_of_ble_eq_true rfl) rfl ?_
      refine tv_if_eq C (pc := 11) 18 dX6_copyRow_11 (by decide) (fun hc => ?_) (fun hc => ?_)
      · have h := ts_ifp h hc
        refine tv_iconst C (pc := 18) dX6_copyRow_18 (v := (0 : Int32)) rfl ?_
        obtain ⟨q139, hq139, h⟩ := ts_bd h
        have Mq139 := (m_X6_requireIndex (D := D) (dT := dT) (sz := sz) (ad := ad) hl (0 : Int32) u q139 hq139)
        rcases q139 with v140 | e141
        · have h := ts_eL h
          refine tv_callS C (pc := 19) dX6_copyRow_19 yl_X6_71 Mq139 (Nat.le_trans (Nat.le_of_ble_eq_true rfl) hdd) (As := [.inl (.int (0 : Int32))]) rfl ⟨Nat.le_of_ble_eq_true rfl, Nat.le_of_ble_eq_true rfl⟩ (fun _ => Nat.le_of_ble_eq_true rfl) rfl ?_
          refine tv_aload_n C (pc := 22) dX6_copyRow_22 rfl rfl ?_
          refine tv_getR C (pc := 23) dX6_copyRow_23 fl_X6_38 (ts_live (k := 0) (by decide) (by decide) (by decide)) rfl rfl (i2 := (26, 0, 0)) rfl ?_
          refine tv_iload_n C (pc := 26) dX6_copyRow_26 rfl rfl ?_
          obtain ⟨hr142, h⟩ := ts_gd h
          refine tv_aaload7 C (pc := 27) dX6_copyRow_27 (ts_live (k := 26) (by decide) (by decide) (by decide)) rfl hr142 (j := p1.toNatClampNeg) rfl (i2 := (27, 0, p1.toNatClampNeg)) rfl ?_
          obtain ⟨q143, hq143, h⟩ := ts_bd h
          refine tv_callV C (pc := 28) dX6_copyRow_28 (ci := 4) (q := (RX4, TX4, 4)) rfl yl_X6_206 (m_X4_isUsed (D := D) (dT := dT) (sz := sz) (ad := ad) hl p1.toNatClampNeg (ts_vin hr142) u q143 hq143) (ts_live (k := 27) (by decide) (by decide) (ts_vin hr142)) rfl (Nat.le_trans (Nat.le_of_ble_eq_true rfl) hdd) (As := []) rfl ⟨Nat.le_of_ble_eq_true rfl, Nat.le_of_ble_eq_true rfl⟩ (fun _ => Nat.le_of_ble_eq_true rfl) rfl ?_
          refine tv_if_eq C (pc := 31) 50 dX6_copyRow_31 (by decide) (fun hc => ?_) (fun hc => ?_)
          · have h := ts_ifp h hc
            refine tv_iconst C (pc := 50) dX6_copyRow_50 (v := (0 : Int32)) rfl ?_
            obtain ⟨q144, hq144, h⟩ := ts_bd h
            have Mq144 := (m_X6_requireState (D := D) (dT := dT) (sz := sz) (ad := ad) hl (0 : Int32) u q144 hq144)
            rcases q144 with v145 | e146
            · have h := ts_eL h
              refine tv_callS C (pc := 51) dX6_copyRow_51 yl_X6_57 Mq144 (Nat.le_trans (Nat.le_of_ble_eq_true rfl) hdd) (As := [.inl (.int (0 : Int32))]) rfl ⟨Nat.le_of_ble_eq_true rfl, Nat.le_of_ble_eq_true rfl⟩ (fun _ => Nat.le_of_ble_eq_true rfl) rfl ?_
              refine tv_aload_n C (pc := 54) dX6_copyRow_54 rfl rfl ?_
              refine tv_getR C (pc := 55) dX6_copyRow_55 fl_X6_38 (ts_live (k := 0) (by decide) (by decide) (by decide)) rfl rfl (i2 := (26, 0, 0)) rfl ?_
              refine tv_iload_n C (pc := 58) dX6_copyRow_58 rfl rfl ?_
              obtain ⟨hr147, h⟩ := ts_gd h
              refine tv_aaload7 C (pc := 59) dX6_copyRow_59 (ts_live (k := 26) (by decide) (by decide) (by decide)) rfl hr147 (j := p1.toNatClampNeg) rfl (i2 := (27, 0, p1.toNatClampNeg)) rfl ?_
              refine tv_getI C (pc := 60) dX6_copyRow_60 fl_X6_224 (ts_live (k := 27) (by decide) (by decide) (ts_vin hr147)) rfl (cd := 0) rfl (by decide) ?_
              refine tv_aload_n C (pc := 63) dX6_copyRow_63 rfl rfl ?_
              refine tv_getR C (pc := 64) dX6_copyRow_64 fl_X6_38 (ts_live (k := 0) (by decide) (by decide) (by decide)) rfl rfl (i2 := (26, 0, 0)) rfl ?_
              refine tv_iload_n C (pc := 67) dX6_copyRow_67 rfl rfl ?_
              obtain ⟨hr148, h⟩ := ts_gd h
              refine tv_aaload7 C (pc := 68) dX6_copyRow_68 (ts_live (k := 26) (by decide) (by decide) (by decide)) rfl hr148 (j := p2.toNatClampNeg) rfl (i2 := (27, 0, p2.toNatClampNeg)) rfl ?_
              refine tv_getI C (pc := 69) dX6_copyRow_69 fl_X6_224 (ts_live (k := 27) (by decide) (by decide) (ts_vin hr148)) rfl (cd := 0) rfl (by decide) ?_
              refine tv_icmp_ne C (pc := 72) 79 dX6_copyRow_72 (by decide) (fun hc => ?_) (fun hc => ?_)
              · have h := ts_ifn h hc
                refine tv_iconst C (pc := 79) dX6_copyRow_79 (v := (0 : Int32)) rfl ?_
                obtain ⟨q149, hq149, h⟩ := ts_bd h
                have Mq149 := (m_X6_requireArgument (D := D) (dT := dT) (sz := sz) (ad := ad) hl (0 : Int32) u q149 hq149)
                rcases q149 with v150 | e151
                · have h := ts_eL h
                  refine tv_callS C (pc := 80) dX6_copyRow_80 yl_X6_43 Mq149 (Nat.le_trans (Nat.le_of_ble_eq_true rfl) hdd) (As := [.inl (.int (0 : Int32))]) rfl ⟨Nat.le_of_ble_eq_true rfl, Nat.le_of_ble_eq_true rfl⟩ (fun _ => Nat.le_of_ble_eq_true rfl) rfl ?_
                  refine tv_aload_n C (pc := 83) dX6_copyRow_83 rfl rfl ?_
                  refine tv_getR C (pc := 84) dX6_copyRow_84 fl_X6_38 (ts_live (k := 0) (by decide) (by decide) (by decide)) rfl rfl (i2 := (26, 0, 0)) rfl ?_
                  refine tv_iload_n C (pc := 87) dX6_copyRow_87 rfl rfl ?_
                  obtain ⟨hr152, h⟩ := ts_gd h
                  refine tv_aaload7 C (pc := 88) dX6_copyRow_88 (ts_live (k := 26) (by decide) (by decide) (by decide)) rfl hr152 (j := p2.toNatClampNeg) rfl (i2 := (27, 0, p2.toNatClampNeg)) rfl ?_
                  refine tv_getI C (pc := 89) dX6_copyRow_89 fl_X6_213 (ts_live (k := 27) (by decide) (by decide) (ts_vin hr152)) rfl (cd := 0) rfl (by decide) ?_
                  refine tv_aload_n C (pc := 92) dX6_copyRow_92 rfl rfl ?_
                  refine tv_getR C (pc := 93) dX6_copyRow_93 fl_X6_38 (ts_live (k := 0) (by decide) (by decide) (by decide)) rfl rfl (i2 := (26, 0, 0)) rfl ?_
                  refine tv_iload_n C (pc := 96) dX6_copyRow_96 rfl rfl ?_
                  obtain ⟨hr153, h⟩ := ts_gd h
                  refine tv_aaload7 C (pc := 97) dX6_copyRow_97 (ts_live (k := 26) (by decide) (by decide) (by decide)) rfl hr153 (j := p1.toNatClampNeg) rfl (i2 := (27, 0, p1.toNatClampNeg)) rfl ?_
                  refine tv_getI C (pc := 98) dX6_copyRow_98 fl_X6_213 (ts_live (k := 27) (by decide) (by decide) (ts_vin hr153)) rfl (cd := 0) rfl (by decide) ?_
                  refine tv_icmp_lt C (pc := 101) 108 dX6_copyRow_101 (by decide) (fun hc => ?_) (fun hc => ?_)
                  · have h := ts_ifp h hc
                    refine tv_iconst C (pc := 108) dX6_copyRow_108 (v := (0 : Int32)) rfl ?_
                    obtain ⟨q154, hq154, h⟩ := ts_bd h
                    have Mq154 := (m_X6_requireElement (D := D) (dT := dT) (sz := sz) (ad := ad) hl (0 : Int32) u q154 hq154)
                    rcases q154 with v155 | e156
                    · have h := ts_eL h
                      refine tv_callS C (pc := 109) dX6_copyRow_109 yl_X6_106 Mq154 (Nat.le_trans (Nat.le_of_ble_eq_true rfl) hdd) (As := [.inl (.int (0 : Int32))]) rfl ⟨Nat.le_of_ble_eq_true rfl, Nat.le_of_ble_eq_true rfl⟩ (fun _ => Nat.le_of_ble_eq_true rfl) rfl ?_
                      refine tv_aload_n C (pc := 112) dX6_copyRow_112 rfl rfl ?_
                      refine tv_getR C (pc := 113) dX6_copyRow_113 fl_X6_38 (ts_live (k := 0) (by decide) (by decide) (by decide)) rfl rfl (i2 := (26, 0, 0)) rfl ?_
                      refine tv_iload_n C (pc := 116) dX6_copyRow_116 rfl rfl ?_
                      obtain ⟨hr157, h⟩ := ts_gd h
                      refine tv_aaload7 C (pc := 117) dX6_copyRow_117 (ts_live (k := 26) (by decide) (by decide) (by decide)) rfl hr157 (j := p2.toNatClampNeg) rfl (i2 := (27, 0, p2.toNatClampNeg)) rfl ?_
                      refine tv_aload_n C (pc := 118) dX6_copyRow_118 rfl rfl ?_
                      refine tv_getR C (pc := 119) dX6_copyRow_119 fl_X6_38 (ts_live (k := 0) (by decide) (by decide) (by decide)) rfl rfl (i2 := (26, 0, 0)) rfl ?_
                      refine tv_iload_n C (pc := 122) dX6_copyRow_122 rfl rfl ?_
                      obtain ⟨hr158, h⟩ := ts_gd h
                      refine tv_aaload7 C (pc := 123) dX6_copyRow_123 (ts_live (k := 26) (by decide) (by decide) (by decide)) rfl hr158 (j := p1.toNatClampNeg) rfl (i2 := (27, 0, p1.toNatClampNeg)) rfl ?_
                      obtain ⟨q159, hq159, h⟩ := ts_bd h
                      refine tv_callV C (pc := 124) dX6_copyRow_124 (ci := 4) (q := (RX4, TX4, 4)) rfl yl_X6_227 (m_X4_takeElements (D := D) (dT := dT) (sz := sz) (ad := ad) hl p2.toNatClampNeg (ts_vin hr157) p1.toNatClampNeg (ts_vin hr158) u q159 hq159) (ts_live (k := 27) (by decide) (by decide) (ts_vin hr157)) rfl (Nat.le_trans (Nat.le_of_ble_eq_true rfl) hdd) (As := [.inr (27, 0, p1.toNatClampNeg)]) rfl ⟨Nat.le_of_ble_eq_true rfl, Nat.le_of_ble_eq_true rfl⟩ (fun _ => Nat.le_of_ble_eq_true rfl) rfl ?_
                      refine tv_aload_n C (pc := 127) dX6_copyRow_127 rfl rfl ?_
                      refine tv_getR C (pc := 128) dX6_copyRow_128 fl_X6_38 (ts_live (k := 0) (by decide) (by decide) (by decide)) rfl rfl (i2 := (26, 0, 0)) rfl ?_
                      refine tv_iload_n C (pc := 131) dX6_copyRow_131 rfl rfl ?_
                      obtain ⟨hr160, h⟩ := ts_gd h
                      refine tv_aaload7 C (pc := 132) dX6_copyRow_132 (ts_live (k := 26) (by decide) (by decide) (by decide)) rfl hr160 (j := p1.toNatClampNeg) rfl (i2 := (27, 0, p1.toNatClampNeg)) rfl ?_
                      refine tv_getI C (pc := 133) dX6_copyRow_133 fl_X6_213 (ts_live (k := 27) (by decide) (by decide) (ts_vin hr160)) rfl (cd := 0) rfl (by decide) ?_
                      cases h
                      exact tv_iret C (pc := 136) rfl dX6_copyRow_136 ⟨Nat.le_of_ble_eq_true rfl, Nat.le_of_ble_eq_true rfl⟩
                    · have h := ts_eR h
                      cases h
                      exact tv_callS_thr C (pc := 109) hX dX6_copyRow_109 yl_X6_106 Mq154 (Nat.le_trans (Nat.le_of_ble_eq_true rfl) hdd) (As := [.inl (.int (0 : Int32))]) rfl ⟨Nat.le_of_ble_eq_true rfl, Nat.le_of_ble_eq_true rfl⟩ (fun _ => Nat.le_of_ble_eq_true rfl) rfl ⟨Nat.le_of_ble_eq_true rfl, Nat.le_of_ble_eq_true rfl⟩
                  · have h := ts_ifn h hc
                    refine tv_iconst C (pc := 104) dX6_copyRow_104 (v := (1 : Int32)) rfl ?_
                    refine tv_goto C (pc := 105) 109 dX6_copyRow_105 (by decide) ?_
                    obtain ⟨q161, hq161, h⟩ := ts_bd h
                    have Mq161 := (m_X6_requireElement (D := D) (dT := dT) (sz := sz) (ad := ad) hl (1 : Int32) u q161 hq161)
                    rcases q161 with v162 | e163
                    · have h := ts_eL h
                      refine tv_callS C (pc := 109) dX6_copyRow_109 yl_X6_106 Mq161 (Nat.le_trans (Nat.le_of_ble_eq_true rfl) hdd) (As := [.inl (.int (1 : Int32))]) rfl ⟨Nat.le_of_ble_eq_true rfl, Nat.le_of_ble_eq_true rfl⟩ (fun _ => Nat.le_of_ble_eq_true rfl) rfl ?_
                      refine tv_aload_n C (pc := 112) dX6_copyRow_112 rfl rfl ?_
                      refine tv_getR C (pc := 113) dX6_copyRow_113 fl_X6_38 (ts_live (k := 0) (by decide) (by decide) (by decide)) rfl rfl (i2 := (26, 0, 0)) rfl ?_
                      refine tv_iload_n C (pc := 116) dX6_copyRow_116 rfl rfl ?_
                      obtain ⟨hr164, h⟩ := ts_gd h
                      refine tv_aaload7 C (pc := 117) dX6_copyRow_117 (ts_live (k := 26) (by decide) (by decide) (by decide)) rfl hr164 (j := p2.toNatClampNeg) rfl (i2 := (27, 0, p2.toNatClampNeg)) rfl ?_
                      refine tv_aload_n C (pc := 118) dX6_copyRow_118 rfl rfl ?_
                      refine tv_getR C (pc := 119) dX6_copyRow_119 fl_X6_38 (ts_live (k := 0) (by decide) (by decide) (by decide)) rfl rfl (i2 := (26, 0, 0)) rfl ?_
                      refine tv_iload_n C (pc := 122) dX6_copyRow_122 rfl rfl ?_
                      obtain ⟨hr165, h⟩ := ts_gd h
                      refine tv_aaload7 C (pc := 123) dX6_copyRow_123 (ts_live (k := 26) (by decide) (by decide) (by decide)) rfl hr165 (j := p1.toNatClampNeg) rfl (i2 := (27, 0, p1.toNatClampNeg)) rfl ?_
                      obtain ⟨q166, hq166, h⟩ := ts_bd h
                      refine tv_callV C (pc := 124) dX6_copyRow_124 (ci := 4) (q := (RX4, TX4, 4)) rfl yl_X6_227 (m_X4_takeElements (D := D) (dT := dT) (sz := sz) (ad := ad) hl p2.toNatClampNeg (ts_vin hr164) p1.toNatClampNeg (ts_vin hr165) u q166 hq166) (ts_live (k := 27) (by decide) (by decide) (ts_vin hr164)) rfl (Nat.le_trans (Nat.le_of_ble_eq_true rfl) hdd) (As := [.inr (27, 0, p1.toNatClampNeg)]) rfl ⟨Nat.le_of_ble_eq_true rfl, Nat.le_of_ble_eq_true rfl⟩ (fun _ => Nat.le_of_ble_eq_true rfl) rfl ?_
                      refine tv_aload_n C (pc := 127) dX6_copyRow_127 rfl rfl ?_
                      refine tv_getR C (pc := 128) dX6_copyRow_128 fl_X6_38 (ts_live (k := 0) (by decide) (by decide) (by decide)) rfl rfl (i2 := (26, 0, 0)) rfl ?_
                      refine tv_iload_n C (pc := 131) dX6_copyRow_131 rfl rfl ?_
                      obtain ⟨hr167, h⟩ := ts_gd h
                      refine tv_aaload7 C (pc := 132) dX6_copyRow_132 (ts_live (k := 26) (by decide) (by decide) (by decide)) rfl hr167 (j := p1.toNatClampNeg) rfl (i2 := (27, 0, p1.toNatClampNeg)) rfl ?_
                      refine tv_getI C (pc := 133) dX6_copyRow_133 fl_X6_213 (ts_live (k := 27) (by decide) (by decide) (ts_vin hr167)) rfl (cd := 0) rfl (by decide) ?_
                      cases h
                      exact tv_iret C (pc := 136) rfl dX6_copyRow_136 ⟨Nat.le_of_ble_eq_true rfl, Nat.le_of_ble_eq_true rfl⟩
                    · have h := ts_eR h
                      cases h
                      exact tv_callS_thr C (pc := 109) hX dX6_copyRow_109 yl_X6_106 Mq161 (Nat.le_trans (Nat.le_of_ble_eq_true rfl) hdd) (As := [.inl (.int (1 : Int32))]) rfl ⟨Nat.le_of_ble_eq_true rfl, Nat.le_of_ble_eq_true rfl⟩ (fun _ => Nat.le_of_ble_eq_true rfl) rfl ⟨Nat.le_of_ble_eq_true rfl, Nat.le_of_ble_eq_true rfl⟩
                · have h := ts_eR h
                  cases h
                  exact tv_callS_thr C (pc := 80) hX dX6_copyRow_80 yl_X6_43 Mq149 (Nat.le_trans (Nat.le_of_ble_eq_true rfl) hdd) (As := [.inl (.int (0 : Int32))]) rfl ⟨Nat.le_of_ble_eq_true rfl, Nat.le_of_ble_eq_true rfl⟩ (fun _ => Nat.le_of_ble_eq_true rfl) rfl ⟨Nat.le_of_ble_eq_true rfl, Nat.le_of_ble_eq_true rfl⟩
              · have h := ts_ifp h hc
                refine tv_iconst C (pc := 75) dX6_copyRow_75 (v := (1 : Int32)) rfl ?_
                refine tv_goto C (pc := 76) 80 dX6_copyRow_76 (by decide) ?_
                obtain ⟨q168, hq168, h⟩ := ts_bd h
                have Mq168 := (m_X6_requireArgument (D := D) (dT := dT) (sz := sz) (ad := ad) hl (1 : Int32) u q168 hq168)
                rcases q168 with v169 | e170
                · have h := ts_eL h
                  refine tv_callS C (pc := 80) dX6_copyRow_80 yl_X6_43 Mq168 (Nat.le_trans (Nat.le_of_ble_eq_true rfl) hdd) (As := [.inl (.int (1 : Int32))]) rfl ⟨Nat.le_of_ble_eq_true rfl, Nat.le_of_ble_eq_true rfl⟩ (fun _ => Nat.le_of_ble_eq_true rfl) rfl ?_
                  refine tv_aload_n C (pc := 83) dX6_copyRow_83 rfl rfl ?_
                  refine tv_getR C (pc := 84) dX6_copyRow_84 fl_X6_38 (ts_live (k := 0) (by decide) (by decide) (by decide)) rfl rfl (i2 := (26, 0, 0)) rfl ?_
                  refine tv_iload_n C (pc := 87) dX6_copyRow_87 rfl rfl ?_
                  obtain ⟨hr171, h⟩ := ts_gd h
                  refine tv_aaload7 C (pc := 88) dX6_copyRow_88 (ts_live (k := 26) (by decide) (by decide) (by decide)) rfl hr171 (j := p2.toNatClampNeg) rfl (i2 := (27, 0, p2.toNatClampNeg)) rfl ?_
                  refine tv_getI C (pc := 89) dX6_copyRow_89 fl_X6_213 (ts_live (k := 27) (by decide) (by decide) (ts_vin hr171)) rfl (cd := 0) rfl (by decide) ?_
                  refine tv_aload_n C (pc := 92) dX6_copyRow_92 rfl rfl ?_
                  refine tv_getR C (pc := 93) dX6_copyRow_93 fl_X6_38 (ts_live (k := 0) (by decide) (by decide) (by decide)) rfl rfl (i2 := (26, 0, 0)) rfl ?_
                  refine tv_iload_n C (pc := 96) dX6_copyRow_96 rfl rfl ?_
                  obtain ⟨hr172, h⟩ := ts_gd h
                  refine tv_aaload7 C (pc := 97) dX6_copyRow_97 (ts_live (k := 26) (by decide) (by decide) (by decide)) rfl hr172 (j := p1.toNatClampNeg) rfl (i2 := (27, 0, p1.toNatClampNeg)) rfl ?_
                  refine tv_getI C (pc := 98) dX6_copyRow_98 fl_X6_213 (ts_live (k := 27) (by decide) (by decide) (ts_vin hr172)) rfl (cd := 0) rfl (by decide) ?_
                  refine tv_icmp_lt C (pc := 101) 108 dX6_copyRow_101 (by decide) (fun hc => ?_) (fun hc => ?_)
                  · have h := ts_ifp h hc
                    refine tv_iconst C (pc := 108) dX6_copyRow_108 (v := (0 : Int32)) rfl ?_
                    obtain ⟨q173, hq173, h⟩ := ts_bd h
                    have Mq173 := (m_X6_requireElement (D := D) (dT := dT) (sz := sz) (ad := ad) hl (0 : Int32) u q173 hq173)
                    rcases q173 with v174 | e175
                    · have h := ts_eL h
                      refine tv_callS C (pc := 109) dX6_copyRow_109 yl_X6_106 Mq173 (Nat.le_trans (Nat.le_of_ble_eq_true rfl) hdd) (As := [.inl (.int (0 : Int32))]) rfl ⟨Nat.le_of_ble_eq_true rfl, Nat.le_of_ble_eq_true rfl⟩ (fun _ => Nat.le_of_ble_eq_true rfl) rfl ?_
                      refine tv_aload_n C (pc := 112) dX6_copyRow_112 rfl rfl ?_
                      refine tv_getR C (pc := 113) dX6_copyRow_113 fl_X6_38 (ts_live (k := 0) (by decide) (by decide) (by decide)) rfl rfl (i2 := (26, 0, 0)) rfl ?_
                      refine tv_iload_n C (pc := 116) dX6_copyRow_116 rfl rfl ?_
                      obtain ⟨hr176, h⟩ := ts_gd h
                      refine tv_aaload7 C (pc := 117) dX6_copyRow_117 (ts_live (k := 26) (by decide) (by decide) (by decide)) rfl hr176 (j := p2.toNatClampNeg) rfl (i2 := (27, 0, p2.toNatClampNeg)) rfl ?_
                      refine tv_aload_n C (pc := 118) dX6_copyRow_118 rfl rfl ?_
                      refine tv_getR C (pc := 119) dX6_copyRow_119 fl_X6_38 (ts_live (k := 0) (by decide) (by decide) (by decide)) rfl rfl (i2 := (26, 0, 0)) rfl ?_
                      refine tv_iload_n C (pc := 122) dX6_copyRow_122 rfl rfl ?_
                      obtain ⟨hr177, h⟩ := ts_gd h
                      refine tv_aaload7 C (pc := 123) dX6_copyRow_123 (ts_live (k := 26) (by decide) (by decide) (by decide)) rfl hr177 (j := p1.toNatClampNeg) rfl (i2 := (27, 0, p1.toNatClampNeg)) rfl ?_
                      obtain ⟨q178, hq178, h⟩ := ts_bd h
                      refine tv_callV C (pc := 124) dX6_copyRow_124 (ci := 4) (q := (RX4, TX4, 4)) rfl yl_X6_227 (m_X4_takeElements (D := D) (dT := dT) (sz := sz) (ad := ad) hl p2.toNatClampNeg (ts_vin hr176) p1.toNatClampNeg (ts_vin hr177) u q178 hq178) (ts_live (k := 27) (by decide) (by decide) (ts_vin hr176)) rfl (Nat.le_trans (Nat.le_of_ble_eq_true rfl) hdd) (As := [.inr (27, 0, p1.toNatClampNeg)]) rfl ⟨Nat.le_of_ble_eq_true rfl, Nat.le_of_ble_eq_true rfl⟩ (fun _ => Nat.le_of_ble_eq_true rfl) rfl ?_
                      refine tv_aload_n C (pc := 127) dX6_copyRow_127 rfl rfl ?_
                      refine tv_getR C (pc := 128) dX6_copyRow_128 fl_X6_38 (ts_live (k := 0) (by decide) (by decide) (by decide)) rfl rfl (i2 := (26, 0, 0)) rfl ?_
                      refine tv_iload_n C (pc := 131) dX6_copyRow_131 rfl rfl ?_
                      obtain ⟨hr179, h⟩ := ts_gd h
                      refine tv_aaload7 C (pc := 132) dX6_copyRow_132 (ts_live (k := 26) (by decide) (by decide) (by decide)) rfl hr179 (j := p1.toNatClampNeg) rfl (i2 := (27, 0, p1.toNatClampNeg)) rfl ?_
                      refine tv_getI C (pc := 133) dX6_copyRow_133 fl_X6_213 (ts_live (k := 27) (by decide) (by decide) (ts_vin hr179)) rfl (cd := 0) rfl (by decide) ?_
                      cases h
                      exact tv_iret C (pc := 136) rfl dX6_copyRow_136 ⟨Nat.le_of_ble_eq_true rfl, Nat.le_of_ble_eq_true rfl⟩
                    · have h := ts_eR h
                      cases h
                      exact tv_callS_thr C (pc := 109) hX dX6_copyRow_109 yl_X6_106 Mq173 (Nat.le_trans (Nat.le_of_ble_eq_true rfl) hdd) (As := [.inl (.int (0 : Int32))]) rfl ⟨Nat.le_of_ble_eq_true rfl, Nat.le_of_ble_eq_true rfl⟩ (fun _ => Nat.le_of_ble_eq_true rfl) rfl ⟨Nat.le_of_ble_eq_true rfl, Nat.le_of_ble_eq_true rfl⟩
                  · have h := ts_ifn h hc
                    refine tv_iconst C (pc := 104) dX6_copyRow_104 (v := (1 : Int32)) rfl ?_
                    refine tv_goto C (pc := 105) 109 dX6_copyRow_105 (by decide) ?_
                    obtain ⟨q180, hq180, h⟩ := ts_bd h
                    have Mq180 := (m_X6_requireElement (D := D) (dT := dT) (sz := sz) (ad := ad) hl (1 : Int32) u q180 hq180)
                    rcases q180 with v181 | e182
                    · have h := ts_eL h
                      refine tv_callS C (pc := 109) dX6_copyRow_109 yl_X6_106 Mq180 (Nat.le_trans (Nat.le_of_ble_eq_true rfl) hdd) (As := [.inl (.int (1 : Int32))]) rfl ⟨Nat.le_of_ble_eq_true rfl, Nat.le_of_ble_eq_true rfl⟩ (fun _ => Nat.le_of_ble_eq_true rfl) rfl ?_
                      refine tv_aload_n C (pc := 112) dX6_copyRow_112 rfl rfl ?_
                      refine tv_getR C (pc := 113) dX6_copyRow_113 fl_X6_38 (ts_live (k := 0) (by decide) (by decide) (by decide)) rfl rfl (i2 := (26, 0, 0)) rfl ?_
                      refine tv_iload_n C (pc := 116) dX6_copyRow_116 rfl rfl ?_
                      obtain ⟨hr183, h⟩ := ts_gd h
                      refine tv_aaload7 C (pc := 117) dX6_copyRow_117 (ts_live (k := 26) (by decide) (by decide) (by decide)) rfl hr183 (j := p2.toNatClampNeg) rfl (i2 := (27, 0, p2.toNatClampNeg)) rfl ?_
                      refine tv_aload_n C (pc := 118) dX6_copyRow_118 rfl rfl ?_
                      refine tv_getR C (pc := 119) dX6_copyRow_119 fl_X6_38 (ts_live (k := 0) (by decide) (by decide) (by decide)) rfl rfl (i2 := (26, 0, 0)) rfl ?_
                      refine tv_iload_n C (pc := 122) dX6_copyRow_122 rfl rfl ?_
                      obtain ⟨hr184, h⟩ := ts_gd h
                      refine tv_aaload7 C (pc := 123) dX6_copyRow_123 (ts_live (k := 26) (by decide) (by decide) (by decide)) rfl hr184 (j := p1.toNatClampNeg) rfl (i2 := (27, 0, p1.toNatClampNeg)) rfl ?_
                      obtain ⟨q185, hq185, h⟩ := ts_bd h
                      refine tv_callV C (pc := 124) dX6_copyRow_124 (ci := 4) (q := (RX4, TX4, 4)) rfl yl_X6_227 (m_X4_takeElements (D := D) (dT := dT) (sz := sz) (ad := ad) hl p2.toNatClampNeg (ts_vin hr183) p1.toNatClampNeg (ts_vin hr184) u q185 hq185) (ts_live (k := 27) (by decide) (by decide) (ts_vin hr183)) rfl (Nat.le_trans (Nat.le_of_ble_eq_true rfl) hdd) (As := [.inr (27, 0, p1.toNatClampNeg)]) rfl ⟨Nat.le_of_ble_eq_true rfl, Nat.le_of_ble_eq_true rfl⟩ (fun _ => Nat.le_of_ble_eq_true rfl) rfl ?_
                      refine tv_aload_n C (pc := 127) dX6_copyRow_127 rfl rfl ?_
                      refine tv_getR C (pc := 128) dX6_copyRow_128 fl_X6_38 (ts_live (k := 0) (by decide) (by decide) (by decide)) rfl rfl (i2 := (26, 0, 0)) rfl ?_
                      refine tv_iload_n C (pc := 131) dX6_copyRow_131 rfl rfl ?_
                      obtain ⟨hr186, h⟩ := ts_gd h
                      refine tv_aaload7 C (pc := 132) dX6_copyRow_132 (ts_live (k := 26) (by decide) (by decide) (by decide)) rfl hr186 (j := p1.toNatClampNeg) rfl (i2 := (27, 0, p1.toNatClampNeg)) rfl ?_
                      refine tv_getI C (pc := 133) dX6_copyRow_133 fl_X6_213 (ts_live (k := 27) (by decide) (by decide) (ts_vin hr186)) rfl (cd := 0) rfl (by decide) ?_
                      cases h
                      exact tv_iret C (pc := 136) rfl dX6_copyRow_136 ⟨Nat.le_of_ble_eq_true rfl, Nat.le_of_ble_eq_true rfl⟩
                    · have h := ts_eR h
                      cases h
                      exact tv_callS_thr C (pc := 109) hX dX6_copyRow_109 yl_X6_106 Mq180 (Nat.le_trans (Nat.le_of_ble_eq_true rfl) hdd) (As := [.inl (.int (1 : Int32))]) rfl ⟨Nat.le_of_ble_eq_true rfl, Nat.le_of_ble_eq_true rfl⟩ (fun _ => Nat.le_of_ble_eq_true rfl) rfl ⟨Nat.le_of_ble_eq_true rfl, Nat.le_of_ble_eq_true rfl⟩
                · have h := ts_eR h
                  cases h
                  exact tv_callS_thr C (pc := 80) hX dX6_copyRow_80 yl_X6_43 Mq168 (Nat.le_trans (Nat.le_of_ble_eq_true rfl) hdd) (As := [.inl (.int (1 : Int32))]) rfl ⟨Nat.le_of_ble_eq_true rfl, Nat.le_of_ble_eq_true rfl⟩ (fun _ => Nat.le_of_ble_eq_true rfl) rfl ⟨Nat.le_of_ble_eq_true rfl, Nat.le_of_ble_eq_true rfl⟩
            · have h := ts_eR h
              cases h
              exact tv_callS_thr C (pc := 51) hX dX6_copyRow_51 yl_X6_57 Mq144 (Nat.le_trans (Nat.le_of_ble_eq_true rfl) hdd) (As := [.inl (.int (0 : Int32))]) rfl ⟨Nat.le_of_ble_eq_true rfl, Nat.le_of_ble_eq_true rfl⟩ (fun _ => Nat.le_of_ble_eq_true rfl) rfl ⟨Nat.le_of_ble_eq_true rfl, Nat.le_of_ble_eq_true rfl⟩
          · have h := ts_ifn h hc
            refine tv_aload_n C (pc := 34) dX6_copyRow_34 rfl rfl ?_
            refine tv_getR C (pc := 35) dX6_copyRow_35 fl_X6_38 (ts_live (k := 0) (by decide) (by decide) (by decide)) rfl rfl (i2 := (26, 0, 0)) rfl ?_
            refine tv_iload_n C (pc := 38) dX6_copyRow_38 rfl rfl ?_
            obtain ⟨hr187, h⟩ := ts_gd h
            refine tv_aaload7 C (pc := 39) dX6_copyRow_39 (ts_live (k := 26) (by decide) (by decide) (by decide)) rfl hr187 (j := p2.toNatClampNeg) rfl (i2 := (27, 0, p2.toNatClampNeg)) rfl ?_
            obtain ⟨q188, hq188, h⟩ := ts_bd h
            refine tv_callV C (pc := 40) dX6_copyRow_40 (ci := 4) (q := (RX4, TX4, 4)) rfl yl_X6_206 (m_X4_isUsed (D := D) (dT := dT) (sz := sz) (ad := ad) hl p2.toNatClampNeg (ts_vin hr187) u q188 hq188) (ts_live (k := 27) (by decide) (by decide) (ts_vin hr187)) rfl (Nat.le_trans (Nat.le_of_ble_eq_true rfl) hdd) (As := []) rfl ⟨Nat.le_of_ble_eq_true rfl, Nat.le_of_ble_eq_true rfl⟩ (fun _ => Nat.le_of_ble_eq_true rfl) rfl ?_
            refine tv_if_eq C (pc := 43) 50 dX6_copyRow_43 (by decide) (fun hc => ?_) (fun hc => ?_)
            · have h := ts_ifp h hc
              refine tv_iconst C (pc := 50) dX6_copyRow_50 (v := (0 : Int32)) rfl ?_
              obtain ⟨q189, hq189, h⟩ := ts_bd h
              have Mq189 := (m_X6_requireState (D := D) (dT := dT) (sz := sz) (ad := ad) hl (0 : Int32) u q189 hq189)
              rcases q189 with v190 | e191
              · have h := ts_eL h
                refine tv_callS C (pc := 51) dX6_copyRow_51 yl_X6_57 Mq189 (Nat.le_trans (Nat.le_of_ble_eq_true rfl) hdd) (As := [.inl (.int (0 : Int32))]) rfl ⟨Nat.le_of_ble_eq_true rfl, Nat.le_of_ble_eq_true rfl⟩ (fun _ => Nat.le_of_ble_eq_true rfl) rfl ?_
                refine tv_aload_n C (pc := 54) dX6_copyRow_54 rfl rfl ?_
                refine tv_getR C (pc := 55) dX6_copyRow_55 fl_X6_38 (ts_live (k := 0) (by decide) (by decide) (by decide)) rfl rfl (i2 := (26, 0, 0)) rfl ?_
                refine tv_iload_n C (pc := 58) dX6_copyRow_58 rfl rfl ?_
                obtain ⟨hr192, h⟩ := ts_gd h
                refine tv_aaload7 C (pc := 59) dX6_copyRow_59 (ts_live (k := 26) (by decide) (by decide) (by decide)) rfl hr192 (j := p1.toNatClampNeg) rfl (i2 := (27, 0, p1.toNatClampNeg)) rfl ?_
                refine tv_getI C (pc := 60) dX6_copyRow_60 fl_X6_224 (ts_live (k := 27) (by decide) (by decide) (ts_vin hr192)) rfl (cd := 0) rfl (by decide) ?_
                refine tv_aload_n C (pc := 63) dX6_copyRow_63 rfl rfl ?_
                refine tv_getR C (pc := 64) dX6_copyRow_64 fl_X6_38 (ts_live (k := 0) (by decide) (by decide) (by decide)) rfl rfl (i2 := (26, 0, 0)) rfl ?_
                refine tv_iload_n C (pc := 67) dX6_copyRow_67 rfl rfl ?_
                obtain ⟨hr193, h⟩ := ts_gd h
                refine tv_aaload7 C (pc := 68) dX6_copyRow_68 (ts_live (k := 26) (by decide) (by decide) (by decide)) rfl hr193 (j := p2.toNatClampNeg) rfl (i2 := (27, 0, p2.toNatClampNeg)) rfl ?_
                refine tv_getI C (pc := 69) dX6_copyRow_69 fl_X6_224 (ts_live (k := 27) (by decide) (by decide) (ts_vin hr193)) rfl (cd := 0) rfl (by decide) ?_
                refine tv_icmp_ne C (pc := 72) 79 dX6_copyRow_72 (by decide) (fun hc => ?_) (fun hc => ?_)
                · have h := ts_ifn h hc
                  refine tv_iconst C (pc := 79) dX6_copyRow_79 (v := (0 : Int32)) rfl ?_
                  obtain ⟨q194, hq194, h⟩ := ts_bd h
                  have Mq194 := (m_X6_requireArgument (D := D) (dT := dT) (sz := sz) (ad := ad) hl (0 : Int32) u q194 hq194)
                  rcases q194 with v195 | e196
                  · have h := ts_eL h
                    refine tv_callS C (pc := 80) dX6_copyRow_80 yl_X6_43 Mq194 (Nat.le_trans (Nat.le_of_ble_eq_true rfl) hdd) (As := [.inl (.int (0 : Int32))]) rfl ⟨Nat.le_of_ble_eq_true rfl, Nat.le_of_ble_eq_true rfl⟩ (fun _ => Nat.le_of_ble_eq_true rfl) rfl ?_
                    refine tv_aload_n C (pc := 83) dX6_copyRow_83 rfl rfl ?_
                    refine tv_getR C (pc := 84) dX6_copyRow_84 fl_X6_38 (ts_live (k := 0) (by decide) (by decide) (by decide)) rfl rfl (i2 := (26, 0, 0)) rfl ?_
                    refine tv_iload_n C (pc := 87) dX6_copyRow_87 rfl rfl ?_
                    obtain ⟨hr197, h⟩ := ts_gd h
                    refine tv_aaload7 C (pc := 88) dX6_copyRow_88 (ts_live (k := 26) (by decide) (by decide) (by decide)) rfl hr197 (j := p2.toNatClampNeg) rfl (i2 := (27, 0, p2.toNatClampNeg)) rfl ?_
                    refine tv_getI C (pc := 89) dX6_copyRow_89 fl_X6_213 (ts_live (k := 27) (by decide) (by decide) (ts_vin hr197)) rfl (cd := 0) rfl (by decide) ?_
                    refine tv_aload_n C (pc := 92) dX6_copyRow_92 rfl rfl ?_
                    refine tv_getR C (pc := 93) dX6_copyRow_93 fl_X6_38 (ts_live (k := 0) (by decide) (by decide) (by decide)) rfl rfl (i2 := (26, 0, 0)) rfl ?_
                    refine tv_iload_n C (pc := 96) dX6_copyRow_96 rfl rfl ?_
                    obtain ⟨hr198, h⟩ := ts_gd h
                    refine tv_aaload7 C (pc := 97) dX6_copyRow_97 (ts_live (k := 26) (by decide) (by decide) (by decide)) rfl hr198 (j := p1.toNatClampNeg) rfl (i2 := (27, 0, p1.toNatClampNeg)) rfl ?_
                    refine tv_getI C (pc := 98) dX6_copyRow_98 fl_X6_213 (ts_live (k := 27) (by decide) (by decide) (ts_vin hr198)) rfl (cd := 0) rfl (by decide) ?_
                    refine tv_icmp_lt C (pc := 101) 108 dX6_copyRow_101 (by decide) (fun hc => ?_) (fun hc => ?_)
                    · have h := ts_ifp h hc
                      refine tv_iconst C (pc := 108) dX6_copyRow_108 (v := (0 : Int32)) rfl ?_
                      obtain ⟨q199, hq199, h⟩ := ts_bd h
                      have Mq199 := (m_X6_requireElement (D := D) (dT := dT) (sz := sz) (ad := ad) hl (0 : Int32) u q199 hq199)
                      rcases q199 with v200 | e201
                      · have h := ts_eL h
                        refine tv_callS C (pc := 109) dX6_copyRow_109 yl_X6_106 Mq199 (Nat.le_trans (Nat.le_of_ble_eq_true rfl) hdd) (As := [.inl (.int (0 : Int32))]) rfl ⟨Nat.le_of_ble_eq_true rfl, Nat.le_of_ble_eq_true rfl⟩ (fun _ => Nat.le_of_ble_eq_true rfl) rfl ?_
                        refine tv_aload_n C (pc := 112) dX6_copyRow_112 rfl rfl ?_
                        refine tv_getR C (pc := 113) dX6_copyRow_113 fl_X6_38 (ts_live (k := 0) (by decide) (by decide) (by decide)) rfl rfl (i2 := (26, 0, 0)) rfl ?_
                        refine tv_iload_n C (pc := 116) dX6_copyRow_116 rfl rfl ?_
                        obtain ⟨hr202, h⟩ := ts_gd h
                        refine tv_aaload7 C (pc := 117) dX6_copyRow_117 (ts_live (k := 26) (by decide) (by decide) (by decide)) rfl hr202 (j := p2.toNatClampNeg) rfl (i2 := (27, 0, p2.toNatClampNeg)) rfl ?_
                        refine tv_aload_n C (pc := 118) dX6_copyRow_118 rfl rfl ?_
                        refine tv_getR C (pc := 119) dX6_copyRow_119 fl_X6_38 (ts_live (k := 0) (by decide) (by decide) (by decide)) rfl rfl (i2 := (26, 0, 0)) rfl ?_
                        refine tv_iload_n C (pc := 122) dX6_copyRow_122 rfl rfl ?_
                        obtain ⟨hr203, h⟩ := ts_gd h
                        refine tv_aaload7 C (pc := 123) dX6_copyRow_123 (ts_live (k := 26) (by decide) (by decide) (by decide)) rfl hr203 (j := p1.toNatClampNeg) rfl (i2 := (27, 0, p1.toNatClampNeg)) rfl ?_
                        obtain ⟨q204, hq204, h⟩ := ts_bd h
                        refine tv_callV C (pc := 124) dX6_copyRow_124 (ci := 4) (q := (RX4, TX4, 4)) rfl yl_X6_227 (m_X4_takeElements (D := D) (dT := dT) (sz := sz) (ad := ad) hl p2.toNatClampNeg (ts_vin hr202) p1.toNatClampNeg (ts_vin hr203) u q204 hq204) (ts_live (k := 27) (by decide) (by decide) (ts_vin hr202)) rfl (Nat.le_trans (Nat.le_of_ble_eq_true rfl) hdd) (As := [.inr (27, 0, p1.toNatClampNeg)]) rfl ⟨Nat.le_of_ble_eq_true rfl, Nat.le_of_ble_eq_true rfl⟩ (fun _ => Nat.le_of_ble_eq_true rfl) rfl ?_
                        refine tv_aload_n C (pc := 127) dX6_copyRow_127 rfl rfl ?_
                        refine tv_getR C (pc := 128) dX6_copyRow_128 fl_X6_38 (ts_live (k := 0) (by decide) (by decide) (by decide)) rfl rfl (i2 := (26, 0, 0)) rfl ?_
                        refine tv_iload_n C (pc := 131) dX6_copyRow_131 rfl rfl ?_
                        obtain ⟨hr205, h⟩ := ts_gd h
                        refine tv_aaload7 C (pc := 132) dX6_copyRow_132 (ts_live (k := 26) (by decide) (by decide) (by decide)) rfl hr205 (j := p1.toNatClampNeg) rfl (i2 := (27, 0, p1.toNatClampNeg)) rfl ?_
                        refine tv_getI C (pc := 133) dX6_copyRow_133 fl_X6_213 (ts_live (k := 27) (by decide) (by decide) (ts_vin hr205)) rfl (cd := 0) rfl (by decide) ?_
                        cases h
                        exact tv_iret C (pc := 136) rfl dX6_copyRow_136 ⟨Nat.le_of_ble_eq_true rfl, Nat.le_of_ble_eq_true rfl⟩
                      · have h := ts_eR h
                        cases h
                        exact tv_callS_thr C (pc := 109) hX dX6_copyRow_109 yl_X6_106 Mq199 (Nat.le_trans (Nat.le_of_ble_eq_true rfl) hdd) (As := [.inl (.int (0 : Int32))]) rfl ⟨Nat.le_of_ble_eq_true rfl, Nat.le_of_ble_eq_true rfl⟩ (fun _ => Nat.le_of_ble_eq_true rfl) rfl ⟨Nat.le_of_ble_eq_true rfl, Nat.le_of_ble_eq_true rfl⟩
                    · have h := ts_ifn h hc
                      refine tv_iconst C (pc := 104) dX6_copyRow_104 (v := (1 : Int32)) rfl ?_
                      refine tv_goto C (pc := 105) 109 dX6_copyRow_105 (by decide) ?_
                      obtain ⟨q206, hq206, h⟩ := ts_bd h
                      have Mq206 := (m_X6_requireElement (D := D) (dT := dT) (sz := sz) (ad := ad) hl (1 : Int32) u q206 hq206)
                      rcases q206 with v207 | e208
                      · have h := ts_eL h
                        refine tv_callS C (pc := 109) dX6_copyRow_109 yl_X6_106 Mq206 (Nat.le_trans (Nat.le_of_ble_eq_true rfl) hdd) (As := [.inl (.int (1 : Int32))]) rfl ⟨Nat.le_of_ble_eq_true rfl, Nat.le_of_ble_eq_true rfl⟩ (fun _ => Nat.le_of_ble_eq_true rfl) rfl ?_
                        refine tv_aload_n C (pc := 112) dX6_copyRow_112 rfl rfl ?_
                        refine tv_getR C (pc := 113) dX6_copyRow_113 fl_X6_38 (ts_live (k := 0) (by decide) (by decide) (by decide)) rfl rfl (i2 := (26, 0, 0)) rfl ?_
                        refine tv_iload_n C (pc := 116) dX6_copyRow_116 rfl rfl ?_
                        obtain ⟨hr209, h⟩ := ts_gd h
                        refine tv_aaload7 C (pc := 117) dX6_copyRow_117 (ts_live (k := 26) (by decide) (by decide) (by decide)) rfl hr209 (j := p2.toNatClampNeg) rfl (i2 := (27, 0, p2.toNatClampNeg)) rfl ?_
                        refine tv_aload_n C (pc := 118) dX6_copyRow_118 rfl rfl ?_
                        refine tv_getR C (pc := 119) dX6_copyRow_119 fl_X6_38 (ts_live (k := 0) (by decide) (by decide) (by decide)) rfl rfl (i2 := (26, 0, 0)) rfl ?_
                        refine tv_iload_n C (pc := 122) dX6_copyRow_122 rfl rfl ?_
                        obtain ⟨hr210, h⟩ := ts_gd h
                        refine tv_aaload7 C (pc := 123) dX6_copyRow_123 (ts_live (k := 26) (by decide) (by decide) (by decide)) rfl hr210 (j := p1.toNatClampNeg) rfl (i2 := (27, 0, p1.toNatClampNeg)) rfl ?_
                        obtain ⟨q211, hq211, h⟩ := ts_bd h
                        refine tv_callV C (pc := 124) dX6_copyRow_124 (ci := 4) (q := (RX4, TX4, 4)) rfl yl_X6_227 (m_X4_takeElements (D := D) (dT := dT) (sz := sz) (ad := ad) hl p2.toNatClampNeg (ts_vin hr209) p1.toNatClampNeg (ts_vin hr210) u q211 hq211) (ts_live (k := 27) (by decide) (by decide) (ts_vin hr209)) rfl (Nat.le_trans (Nat.le_of_ble_eq_true rfl) hdd) (As := [.inr (27, 0, p1.toNatClampNeg)]) rfl ⟨Nat.le_of_ble_eq_true rfl, Nat.le_of_ble_eq_true rfl⟩ (fun _ => Nat.le_of_ble_eq_true rfl) rfl ?_
                        refine tv_aload_n C (pc := 127) dX6_copyRow_127 rfl rfl ?_
                        refine tv_getR C (pc := 128) dX6_copyRow_128 fl_X6_38 (ts_live (k := 0) (by decide) (by decide) (by decide)) rfl rfl (i2 := (26, 0, 0)) rfl ?_
                        refine tv_iload_n C (pc := 131) dX6_copyRow_131 rfl rfl ?_
                        obtain ⟨hr212, h⟩ := ts_gd h
                        refine tv_aaload7 C (pc := 132) dX6_copyRow_132 (ts_live (k := 26) (by decide) (by decide) (by decide)) rfl hr212 (j := p1.toNatClampNeg) rfl (i2 := (27, 0, p1.toNatClampNeg)) rfl ?_
                        refine tv_getI C (pc := 133) dX6_copyRow_133 fl_X6_213 (ts_live (k := 27) (by decide) (by decide) (ts_vin hr212)) rfl (cd := 0) rfl (by decide) ?_
                        cases h
                        exact tv_iret C (pc := 136) rfl dX6_copyRow_136 ⟨Nat.le_of_ble_eq_true rfl, Nat.le_of_ble_eq_true rfl⟩
                      · have h := ts_eR h
                        cases h
                        exact tv_callS_thr C (pc := 109) hX dX6_copyRow_109 yl_X6_106 Mq206 (Nat.le_trans (Nat.le_of_ble_eq_true rfl) hdd) (As := [.inl (.int (1 : Int32))]) rfl ⟨Nat.le_of_ble_eq_true rfl, Nat.le_of_ble_eq_true rfl⟩ (fun _ => Nat.le_of_ble_eq_true rfl) rfl ⟨Nat.le_of_ble_eq_true rfl, Nat.le_of_ble_eq_true rfl⟩
                  · have h := ts_eR h
                    cases h
                    exact tv_callS_thr C (pc := 80) hX dX6_copyRow_80 yl_X6_43 Mq194 (Nat.le_trans (Nat.le_of_ble_eq_true rfl) hdd) (As := [.inl (.int (0 : Int32))]) rfl ⟨Nat.le_of_ble_eq_true rfl, Nat.le_of_ble_eq_true rfl⟩ (fun _ => Nat.le_of_ble_eq_true rfl) rfl ⟨Nat.le_of_ble_eq_true rfl, Nat.le_of_ble_eq_true rfl⟩
                · have h := ts_ifp h hc
                  refine tv_iconst C (pc := 75) dX6_copyRow_75 (v := (1 : Int32)) rfl ?_
                  refine tv_goto C (pc := 76) 80 dX6_copyRow_76 (by decide) ?_
                  obtain ⟨q213, hq213, h⟩ := ts_bd h
                  have Mq213 := (m_X6_requireArgument (D := D) (dT := dT) (sz := sz) (ad := ad) hl (1 : Int32) u q213 hq213)
                  rcases q213 with v214 | e215
                  · have h := ts_eL h
                    refine tv_callS C (pc := 80) dX6_copyRow_80 yl_X6_43 Mq213 (Nat.le_trans (Nat.le_of_ble_eq_true rfl) hdd) (As := [.inl (.int (1 : Int32))]) rfl ⟨Nat.le_of_ble_eq_true rfl, Nat.le_of_ble_eq_true rfl⟩ (fun _ => Nat.le_of_ble_eq_true rfl) rfl ?_
                    refine tv_aload_n C (pc := 83) dX6_copyRow_83 rfl rfl ?_
                    refine tv_getR C (pc := 84) dX6_copyRow_84 fl_X6_38 (ts_live (k := 0) (by decide) (by decide) (by decide)) rfl rfl (i2 := (26, 0, 0)) rfl ?_
                    refine tv_iload_n C (pc := 87) dX6_copyRow_87 rfl rfl ?_
                    obtain ⟨hr216, h⟩ := ts_gd h
                    refine tv_aaload7 C (pc := 88) dX6_copyRow_88 (ts_live (k := 26) (by decide) (by decide) (by decide)) rfl hr216 (j := p2.toNatClampNeg) rfl (i2 := (27, 0, p2.toNatClampNeg)) rfl ?_
                    refine tv_getI C (pc := 89) dX6_copyRow_89 fl_X6_213 (ts_live (k := 27) (by decide) (by decide) (ts_vin hr216)) rfl (cd := 0) rfl (by decide) ?_
                    refine tv_aload_n C (pc := 92) dX6_copyRow_92 rfl rfl ?_
                    refine tv_getR C (pc := 93) dX6_copyRow_93 fl_X6_38 (ts_live (k := 0) (by decide) (by decide) (by decide)) rfl rfl (i2 := (26, 0, 0)) rfl ?_
                    refine tv_iload_n C (pc := 96) dX6_copyRow_96 rfl rfl ?_
                    obtain ⟨hr217, h⟩ := ts_gd h
                    refine tv_aaload7 C (pc := 97) dX6_copyRow_97 (ts_live (k := 26) (by decide) (by decide) (by decide)) rfl hr217 (j := p1.toNatClampNeg) rfl (i2 := (27, 0, p1.toNatClampNeg)) rfl ?_
                    refine tv_getI C (pc := 98) dX6_copyRow_98 fl_X6_213 (ts_live (k := 27) (by decide) (by decide) (ts_vin hr217)) rfl (cd := 0) rfl (by decide) ?_
                    refine tv_icmp_lt C (pc := 101) 108 dX6_copyRow_101 (by decide) (fun hc => ?_) (fun hc => ?_)
                    · have h := ts_ifp h hc
                      refine tv_iconst C (pc := 108) dX6_copyRow_108 (v := (0 : Int32)) rfl ?_
                      obtain ⟨q218, hq218, h⟩ := ts_bd h
                      have Mq218 := (m_X6_requireElement (D := D) (dT := dT) (sz := sz) (ad := ad) hl (0 : Int32) u q218 hq218)
                      rcases q218 with v219 | e220
                      · have h := ts_eL h
                        refine tv_callS C (pc := 109) dX6_copyRow_109 yl_X6_106 Mq218 (Nat.le_trans (Nat.le_of_ble_eq_true rfl) hdd) (As := [.inl (.int (0 : Int32))]) rfl ⟨Nat.le_of_ble_eq_true rfl, Nat.le_of_ble_eq_true rfl⟩ (fun _ => Nat.le_of_ble_eq_true rfl) rfl ?_
                        refine tv_aload_n C (pc := 112) dX6_copyRow_112 rfl rfl ?_
                        refine tv_getR C (pc := 113) dX6_copyRow_113 fl_X6_38 (ts_live (k := 0) (by decide) (by decide) (by decide)) rfl rfl (i2 := (26, 0, 0)) rfl ?_
                        refine tv_iload_n C (pc := 116) dX6_copyRow_116 rfl rfl ?_
                        obtain ⟨hr221, h⟩ := ts_gd h
                        refine tv_aaload7 C (pc := 117) dX6_copyRow_117 (ts_live (k := 26) (by decide) (by decide) (by decide)) rfl hr221 (j := p2.toNatClampNeg) rfl (i2 := (27, 0, p2.toNatClampNeg)) rfl ?_
                        refine tv_aload_n C (pc := 118) dX6_copyRow_118 rfl rfl ?_
                        refine tv_getR C (pc := 119) dX6_copyRow_119 fl_X6_38 (ts_live (k := 0) (by decide) (by decide) (by decide)) rfl rfl (i2 := (26, 0, 0)) rfl ?_
                        refine tv_iload_n C (pc := 122) dX6_copyRow_122 rfl rfl ?_
                        obtain ⟨hr222, h⟩ := ts_gd h
                        refine tv_aaload7 C (pc := 123) dX6_copyRow_123 (ts_live (k := 26) (by decide) (by decide) (by decide)) rfl hr222 (j := p1.toNatClampNeg) rfl (i2 := (27, 0, p1.toNatClampNeg)) rfl ?_
                        obtain ⟨q223, hq223, h⟩ := ts_bd h
                        refine tv_callV C (pc := 124) dX6_copyRow_124 (ci := 4) (q := (RX4, TX4, 4)) rfl yl_X6_227 (m_X4_takeElements (D := D) (dT := dT) (sz := sz) (ad := ad) hl p2.toNatClampNeg (ts_vin hr221) p1.toNatClampNeg (ts_vin hr222) u q223 hq223) (ts_live (k := 27) (by decide) (by decide) (ts_vin hr221)) rfl (Nat.le_trans (Nat.le_of_ble_eq_true rfl) hdd) (As := [.inr (27, 0, p1.toNatClampNeg)]) rfl ⟨Nat.le_of_ble_eq_true rfl, Nat.le_of_ble_eq_true rfl⟩ (fun _ => Nat.le_of_ble_eq_true rfl) rfl ?_
                        refine tv_aload_n C (pc := 127) dX6_copyRow_127 rfl rfl ?_
                        refine tv_getR C (pc := 128) dX6_copyRow_128 fl_X6_38 (ts_live (k := 0) (by decide) (by decide) (by decide)) rfl rfl (i2 := (26, 0, 0)) rfl ?_
                        refine tv_iload_n C (pc := 131) dX6_copyRow_131 rfl rfl ?_
                        obtain ⟨hr224, h⟩ := ts_gd h
                        refine tv_aaload7 C (pc := 132) dX6_copyRow_132 (ts_live (k := 26) (by decide) (by decide) (by decide)) rfl hr224 (j := p1.toNatClampNeg) rfl (i2 := (27, 0, p1.toNatClampNeg)) rfl ?_
                        refine tv_getI C (pc := 133) dX6_copyRow_133 fl_X6_213 (ts_live (k := 27) (by decide) (by decide) (ts_vin hr224)) rfl (cd := 0) rfl (by decide) ?_
                        cases h
                        exact tv_iret C (pc := 136) rfl dX6_copyRow_136 ⟨Nat.le_of_ble_eq_true rfl, Nat.le_of_ble_eq_true rfl⟩
                      · have h := ts_eR h
                        cases h
                        exact tv_callS_thr C (pc := 109) hX dX6_copyRow_109 yl_X6_106 Mq218 (Nat.le_trans (Nat.le_of_ble_eq_true rfl) hdd) (As := [.inl (.int (0 : Int32))]) rfl ⟨Nat.le_of_ble_eq_true rfl, Nat.le_of_ble_eq_true rfl⟩ (fun _ => Nat.le_of_ble_eq_true rfl) rfl ⟨Nat.le_of_ble_eq_true rfl, Nat.le_of_ble_eq_true rfl⟩
                    · have h := ts_ifn h hc
                      refine tv_iconst C (pc := 104) dX6_copyRow_104 (v := (1 : Int32)) rfl ?_
                      refine tv_goto C (pc := 105) 109 dX6_copyRow_105 (by decide) ?_
                      obtain ⟨q225, hq225, h⟩ := ts_bd h
                      have Mq225 := (m_X6_requireElement (D := D) (dT := dT) (sz := sz) (ad := ad) hl (1 : Int32) u q225 hq225)
                      rcases q225 with v226 | e227
                      · have h := ts_eL h
                        refine tv_callS C (pc := 109) dX6_copyRow_109 yl_X6_106 Mq225 (Nat.le_trans (Nat.le_of_ble_eq_true rfl) hdd) (As := [.inl (.int (1 : Int32))]) rfl ⟨Nat.le_of_ble_eq_true rfl, Nat.le_of_ble_eq_true rfl⟩ (fun _ => Nat.le_of_ble_eq_true rfl) rfl ?_
                        refine tv_aload_n C (pc := 112) dX6_copyRow_112 rfl rfl ?_
                        refine tv_getR C (pc := 113) dX6_copyRow_113 fl_X6_38 (ts_live (k := 0) (by decide) (by decide) (by decide)) rfl rfl (i2 := (26, 0, 0)) rfl ?_
                        refine tv_iload_n C (pc := 116) dX6_copyRow_116 rfl rfl ?_
                        obtain ⟨hr228, h⟩ := ts_gd h
                        refine tv_aaload7 C (pc := 117) dX6_copyRow_117 (ts_live (k := 26) (by decide) (by decide) (by decide)) rfl hr228 (j := p2.toNatClampNeg) rfl (i2 := (27, 0, p2.toNatClampNeg)) rfl ?_
                        refine tv_aload_n C (pc := 118) dX6_copyRow_118 rfl rfl ?_
                        refine tv_getR C (pc := 119) dX6_copyRow_119 fl_X6_38 (ts_live (k := 0) (by decide) (by decide) (by decide)) rfl rfl (i2 := (26, 0, 0)) rfl ?_
                        refine tv_iload_n C (pc := 122) dX6_copyRow_122 rfl rfl ?_
                        obtain ⟨hr229, h⟩ := ts_gd h
                        refine tv_aaload7 C (pc := 123) dX6_copyRow_123 (ts_live (k := 26) (by decide) (by decide) (by decide)) rfl hr229 (j := p1.toNatClampNeg) rfl (i2 := (27, 0, p1.toNatClampNeg)) rfl ?_
                        obtain ⟨q230, hq230, h⟩ := ts_bd h
                        refine tv_callV C (pc := 124) dX6_copyRow_124 (ci := 4) (q := (RX4, TX4, 4)) rfl yl_X6_227 (m_X4_takeElements (D := D) (dT := dT) (sz := sz) (ad := ad) hl p2.toNatClampNeg (ts_vin hr228) p1.toNatClampNeg (ts_vin hr229) u q230 hq230) (ts_live (k := 27) (by decide) (by decide) (ts_vin hr228)) rfl (Nat.le_trans (Nat.le_of_ble_eq_true rfl) hdd) (As := [.inr (27, 0, p1.toNatClampNeg)]) rfl ⟨Nat.le_of_ble_eq_true rfl, Nat.le_of_ble_eq_true rfl⟩ (fun _ => Nat.le_of_ble_eq_true rfl) rfl ?_
                        refine tv_aload_n C (pc := 127) dX6_copyRow_127 rfl rfl ?_
                        refine tv_getR C (pc := 128) dX6_copyRow_128 fl_X6_38 (ts_live (k := 0) (by decide) (by decide) (by decide)) rfl rfl (i2 := (26, 0, 0)) rfl ?_
                        refine tv_iload_n C (pc := 131) dX6_copyRow_131 rfl rfl ?_
                        obtain ⟨hr231, h⟩ := ts_gd h
                        refine tv_aaload7 C (pc := 132) dX6_copyRow_132 (ts_live (k := 26) (by decide) (by decide) (by decide)) rfl hr231 (j := p1.toNatClampNeg) rfl (i2 := (27, 0, p1.toNatClampNeg)) rfl ?_
                        refine tv_getI C (pc := 133) dX6_copyRow_133 fl_X6_213 (ts_live (k := 27) (by decide) (by decide) (ts_vin hr231)) rfl (cd := 0) rfl (by decide) ?_
                        cases h
                        exact tv_iret C (pc := 136) rfl dX6_copyRow_136 ⟨Nat.le_of_ble_eq_true rfl, Nat.le_of_ble_eq_true rfl⟩
                      · have h := ts_eR h
                        cases h
                        exact tv_callS_thr C (pc := 109) hX dX6_copyRow_109 yl_X6_106 Mq225 (Nat.le_trans (Nat.le_of_ble_eq_true rfl) hdd) (As := [.inl (.int (1 : Int32))]) rfl ⟨Nat.le_of_ble_eq_true rfl, Nat.le_of_ble_eq_true rfl⟩ (fun _ => Nat.le_of_ble_eq_true rfl) rfl ⟨Nat.le_of_ble_eq_true rfl, Nat.le_of_ble_eq_true rfl⟩
                  · have h := ts_eR h
                    cases h
                    exact tv_callS_thr C (pc := 80) hX dX6_copyRow_80 yl_X6_43 Mq213 (Nat.le_trans (Nat.le_of_ble_eq_true rfl) hdd) (As := [.inl (.int (1 : Int32))]) rfl ⟨Nat.le_of_ble_eq_true rfl, Nat.le_of_ble_eq_true rfl⟩ (fun _ => Nat.le_of_ble_eq_true rfl) rfl ⟨Nat.le_of_ble_eq_true rfl, Nat.le_of_ble_eq_true rfl⟩
              · have h := ts_eR h
                cases h
                exact tv_callS_thr C (pc := 51) hX dX6_copyRow_51 yl_X6_57 Mq189 (Nat.le_trans (Nat.le_of_ble_eq_true rfl) hdd) (As := [.inl (.int (0 : Int32))]) rfl ⟨Nat.le_of_ble_eq_true rfl, Nat.le_of_ble_eq_true rfl⟩ (fun _ => Nat.le_of_ble_eq_true rfl) rfl ⟨Nat.le_of_ble_eq_true rfl, Nat.le_of_ble_eq_true rfl⟩
            · have h := ts_ifn h hc
              refine tv_iconst C (pc := 46) dX6_copyRow_46 (v := (1 : Int32)) rfl ?_
              refine tv_goto C (pc := 47) 51 dX6_copyRow_47 (by decide) ?_
              obtain ⟨q232, hq232, h⟩ := ts_bd h
              have Mq232 := (m_X6_requireState (D := D) (dT := dT) (sz := sz) (ad := ad) hl (1 : Int32) u q232 hq232)
              rcases q232 with v233 | e234
              · have h := ts_eL h
                refine tv_callS C (pc := 51) dX6_copyRow_51 yl_X6_57 Mq232 (Nat.le_trans (Nat.le_of_ble_eq_true rfl) hdd) (As := [.inl (.int (1 : Int32))]) rfl ⟨Nat.le_of_ble_eq_true rfl, Nat.le_of_ble_eq_true rfl⟩ (fun _ => Nat.le_of_ble_eq_true rfl) rfl ?_
                refine tv_aload_n C (pc := 54) dX6_copyRow_54 rfl rfl ?_
                refine tv_getR C (pc := 55) dX6_copyRow_55 fl_X6_38 (ts_live (k := 0) (by decide) (by decide) (by decide)) rfl rfl (i2 := (26, 0, 0)) rfl ?_
                refine tv_iload_n C (pc := 58) dX6_copyRow_58 rfl rfl ?_
                obtain ⟨hr235, h⟩ := ts_gd h
                refine tv_aaload7 C (pc := 59) dX6_copyRow_59 (ts_live (k := 26) (by decide) (by decide) (by decide)) rfl hr235 (j := p1.toNatClampNeg) rfl (i2 := (27, 0, p1.toNatClampNeg)) rfl ?_
                refine tv_getI C (pc := 60) dX6_copyRow_60 fl_X6_224 (ts_live (k := 27) (by decide) (by decide) (ts_vin hr235)) rfl (cd := 0) rfl (by decide) ?_
                refine tv_aload_n C (pc := 63) dX6_copyRow_63 rfl rfl ?_
                refine tv_getR C (pc := 64) dX6_copyRow_64 fl_X6_38 (ts_live (k := 0) (by decide) (by decide) (by decide)) rfl rfl (i2 := (26, 0, 0)) rfl ?_
                refine tv_iload_n C (pc := 67) dX6_copyRow_67 rfl rfl ?_
                obtain ⟨hr236, h⟩ := ts_gd h
                refine tv_aaload7 C (pc := 68) dX6_copyRow_68 (ts_live (k := 26) (by decide) (by decide) (by decide)) rfl hr236 (j := p2.toNatClampNeg) rfl (i2 := (27, 0, p2.toNatClampNeg)) rfl ?_
                refine tv_getI C (pc := 69) dX6_copyRow_69 fl_X6_224 (ts_live (k := 27) (by decide) (by decide) (ts_vin hr236)) rfl (cd := 0) rfl (by decide) ?_
                refine tv_icmp_ne C (pc := 72) 79 dX6_copyRow_72 (by decide) (fun hc => ?_) (fun hc => ?_)
                · have h := ts_ifn h hc
                  refine tv_iconst C (pc := 79) dX6_copyRow_79 (v := (0 : Int32)) rfl ?_
                  obtain ⟨q237, hq237, h⟩ := ts_bd h
                  have Mq237 := (m_X6_requireArgument (D := D) (dT := dT) (sz := sz) (ad := ad) hl (0 : Int32) u q237 hq237)
                  rcases q237 with v238 | e239
                  · have h := ts_eL h
                    refine tv_callS C (pc := 80) dX6_copyRow_80 yl_X6_43 Mq237 (Nat.le_trans (Nat.le_of_ble_eq_true rfl) hdd) (As := [.inl (.int (0 : Int32))]) rfl ⟨Nat.le_of_ble_eq_true rfl, Nat.le_of_ble_eq_true rfl⟩ (fun _ => Nat.le_of_ble_eq_true rfl) rfl ?_
                    refine tv_aload_n C (pc := 83) dX6_copyRow_83 rfl rfl ?_
                    refine tv_getR C (pc := 84) dX6_copyRow_84 fl_X6_38 (ts_live (k := 0) (by decide) (by decide) (by decide)) rfl rfl (i2 := (26, 0, 0)) rfl ?_
                    refine tv_iload_n C (pc := 87) dX6_copyRow_87 rfl rfl ?_
                    obtain ⟨hr240, h⟩ := ts_gd h
                    refine tv_aaload7 C (pc := 88) dX6_copyRow_88 (ts_live (k := 26) (by decide) (by decide) (by decide)) rfl hr240 (j := p2.toNatClampNeg) rfl (i2 := (27, 0, p2.toNatClampNeg)) rfl ?_
                    refine tv_getI C (pc := 89) dX6_copyRow_89 fl_X6_213 (ts_live (k := 27) (by decide) (by decide) (ts_vin hr240)) rfl (cd := 0) rfl (by decide) ?_
                    refine tv_aload_n C (pc := 92) dX6_copyRow_92 rfl rfl ?_
                    refine tv_getR C (pc := 93) dX6_copyRow_93 fl_X6_38 (ts_live (k := 0) (by decide) (by decide) (by decide)) rfl rfl (i2 := (26, 0, 0)) rfl ?_
                    refine tv_iload_n C (pc := 96) dX6_copyRow_96 rfl rfl ?_
                    obtain ⟨hr241, h⟩ := ts_gd h
                    refine tv_aaload7 C (pc := 97) dX6_copyRow_97 (ts_live (k := 26) (by decide) (by decide) (by decide)) rfl hr241 (j := p1.toNatClampNeg) rfl (i2 := (27, 0, p1.toNatClampNeg)) rfl ?_
                    refine tv_getI C (pc := 98) dX6_copyRow_98 fl_X6_213 (ts_live (k := 27) (by decide) (by decide) (ts_vin hr241)) rfl (cd := 0) rfl (by decide) ?_
                    refine tv_icmp_lt C (pc := 101) 108 dX6_copyRow_101 (by decide) (fun hc => ?_) (fun hc => ?_)
                    · have h := ts_ifp h hc
                      refine tv_iconst C (pc := 108) dX6_copyRow_108 (v := (0 : Int32)) rfl ?_
                      obtain ⟨q242, hq242, h⟩ := ts_bd h
                      have Mq242 := (m_X6_requireElement (D := D) (dT := dT) (sz := sz) (ad := ad) hl (0 : Int32) u q242 hq242)
                      rcases q242 with v243 | e244
                      · have h := ts_eL h
                        refine tv_callS C (pc := 109) dX6_copyRow_109 yl_X6_106 Mq242 (Nat.le_trans (Nat.le_of_ble_eq_true rfl) hdd) (As := [.inl (.int (0 : Int32))]) rfl ⟨Nat.le_of_ble_eq_true rfl, Nat.le_of_ble_eq_true rfl⟩ (fun _ => Nat.le_of_ble_eq_true rfl) rfl ?_
                        refine tv_aload_n C (pc := 112) dX6_copyRow_112 rfl rfl ?_
                        refine tv_getR C (pc := 113) dX6_copyRow_113 fl_X6_38 (ts_live (k := 0) (by decide) (by decide) (by decide)) rfl rfl (i2 := (26, 0, 0)) rfl ?_
                        refine tv_iload_n C (pc := 116) dX6_copyRow_116 rfl rfl ?_
                        obtain ⟨hr245, h⟩ := ts_gd h
                        refine tv_aaload7 C (pc := 117) dX6_copyRow_117 (ts_live (k := 26) (by decide) (by decide) (by decide)) rfl hr245 (j := p2.toNatClampNeg) rfl (i2 := (27, 0, p2.toNatClampNeg)) rfl ?_
                        refine tv_aload_n C (pc := 118) dX6_copyRow_118 rfl rfl ?_
                        refine tv_getR C (pc := 119) dX6_copyRow_119 fl_X6_38 (ts_live (k := 0) (by decide) (by decide) (by decide)) rfl rfl (i2 := (26, 0, 0)) rfl ?_
                        refine tv_iload_n C (pc := 122) dX6_copyRow_122 rfl rfl ?_
                        obtain ⟨hr246, h⟩ := ts_gd h
                        refine tv_aaload7 C (pc := 123) dX6_copyRow_123 (ts_live (k := 26) (by decide) (by decide) (by decide)) rfl hr246 (j := p1.toNatClampNeg) rfl (i2 := (27, 0, p1.toNatClampNeg)) rfl ?_
                        obtain ⟨q247, hq247, h⟩ := ts_bd h
                        refine tv_callV C (pc := 124) dX6_copyRow_124 (ci := 4) (q := (RX4, TX4, 4)) rfl yl_X6_227 (m_X4_takeElements (D := D) (dT := dT) (sz := sz) (ad := ad) hl p2.toNatClampNeg (ts_vin hr245) p1.toNatClampNeg (ts_vin hr246) u q247 hq247) (ts_live (k := 27) (by decide) (by decide) (ts_vin hr245)) rfl (Nat.le_trans (Nat.le_of_ble_eq_true rfl) hdd) (As := [.inr (27, 0, p1.toNatClampNeg)]) rfl ⟨Nat.le_of_ble_eq_true rfl, Nat.le_of_ble_eq_true rfl⟩ (fun _ => Nat.le_of_ble_eq_true rfl) rfl ?_
                        refine tv_aload_n C (pc := 127) dX6_copyRow_127 rfl rfl ?_
                        refine tv_getR C (pc := 128) dX6_copyRow_128 fl_X6_38 (ts_live (k := 0) (by decide) (by decide) (by decide)) rfl rfl (i2 := (26, 0, 0)) rfl ?_
                        refine tv_iload_n C (pc := 131) dX6_copyRow_131 rfl rfl ?_
                        obtain ⟨hr248, h⟩ := ts_gd h
                        refine tv_aaload7 C (pc := 132) dX6_copyRow_132 (ts_live (k := 26) (by decide) (by decide) (by decide)) rfl hr248 (j := p1.toNatClampNeg) rfl (i2 := (27, 0, p1.toNatClampNeg)) rfl ?_
                        refine tv_getI C (pc := 133) dX6_copyRow_133 fl_X6_213 (ts_live (k := 27) (by decide) (by decide) (ts_vin hr248)) rfl (cd := 0) rfl (by decide) ?_
                        cases h
                        exact tv_iret C (pc := 136) rfl dX6_copyRow_136 ⟨Nat.le_of_ble_eq_true rfl, Nat.le_of_ble_eq_true rfl⟩
                      · have h := ts_eR h
                        cases h
                        exact tv_callS_thr C (pc := 109) hX dX6_copyRow_109 yl_X6_106 Mq242 (Nat.le_trans (Nat.le_of_ble_eq_true rfl) hdd) (As := [.inl (.int (0 : Int32))]) rfl ⟨Nat.le_of_ble_eq_true rfl, Nat.le_of_ble_eq_true rfl⟩ (fun _ => Nat.le_of_ble_eq_true rfl) rfl ⟨Nat.le_of_ble_eq_true rfl, Nat.le_of_ble_eq_true rfl⟩
                    · have h := ts_ifn h hc
                      refine tv_iconst C (pc := 104) dX6_copyRow_104 (v := (1 : Int32)) rfl ?_
                      refine tv_goto C (pc := 105) 109 dX6_copyRow_105 (by decide) ?_
                      obtain ⟨q249, hq249, h⟩ := ts_bd h
                      have Mq249 := (m_X6_requireElement (D := D) (dT := dT) (sz := sz) (ad := ad) hl (1 : Int32) u q249 hq249)
                      rcases q249 with v250 | e251
                      · have h := ts_eL h
                        refine tv_callS C (pc := 109) dX6_copyRow_109 yl_X6_106 Mq249 (Nat.le_trans (Nat.le_of_ble_eq_true rfl) hdd) (As := [.inl (.int (1 : Int32))]) rfl ⟨Nat.le_of_ble_eq_true rfl, Nat.le_of_ble_eq_true rfl⟩ (fun _ => Nat.le_of_ble_eq_true rfl) rfl ?_
                        refine tv_aload_n C (pc := 112) dX6_copyRow_112 rfl rfl ?_
                        refine tv_getR C (pc := 113) dX6_copyRow_113 fl_X6_38 (ts_live (k := 0) (by decide) (by decide) (by decide)) rfl rfl (i2 := (26, 0, 0)) rfl ?_
                        refine tv_iload_n C (pc := 116) dX6_copyRow_116 rfl rfl ?_
                        obtain ⟨hr252, h⟩ := ts_gd h
                        refine tv_aaload7 C (pc := 117) dX6_copyRow_117 (ts_live (k := 26) (by decide) (by decide) (by decide)) rfl hr252 (j := p2.toNatClampNeg) rfl (i2 := (27, 0, p2.toNatClampNeg)) rfl ?_
                        refine tv_aload_n C (pc := 118) dX6_copyRow_118 rfl rfl ?_
                        refine tv_getR C (pc := 119) dX6_copyRow_119 fl_X6_38 (ts_live (k := 0) (by decide) (by decide) (by decide)) rfl rfl (i2 := (26, 0, 0)) rfl ?_
                        refine tv_iload_n C (pc := 122) dX6_copyRow_122 rfl rfl ?_
                        obtain ⟨hr253, h⟩ := ts_gd h
                        refine tv_aaload7 C (pc := 123) dX6_copyRow_123 (ts_live (k := 26) (by decide) (by decide) (by decide)) rfl hr253 (j := p1.toNatClampNeg) rfl (i2 := (27, 0, p1.toNatClampNeg)) rfl ?_
                        obtain ⟨q254, hq254, h⟩ := ts_bd h
                        refine tv_callV C (pc := 124) dX6_copyRow_124 (ci := 4) (q := (RX4, TX4, 4)) rfl yl_X6_227 (m_X4_takeElements (D := D) (dT := dT) (sz := sz) (ad := ad) hl p2.toNatClampNeg (ts_vin hr252) p1.toNatClampNeg (ts_vin hr253) u q254 hq254) (ts_live (k := 27) (by decide) (by decide) (ts_vin hr252)) rfl (Nat.le_trans (Nat.le_of_ble_eq_true rfl) hdd) (As := [.inr (27, 0, p1.toNatClampNeg)]) rfl ⟨Nat.le_of_ble_eq_true rfl, Nat.le_of_ble_eq_true rfl⟩ (fun _ => Nat.le_of_ble_eq_true rfl) rfl ?_
                        refine tv_aload_n C (pc := 127) dX6_copyRow_127 rfl rfl ?_
                        refine tv_getR C (pc := 128) dX6_copyRow_128 fl_X6_38 (ts_live (k := 0) (by decide) (by decide) (by decide)) rfl rfl (i2 := (26, 0, 0)) rfl ?_
                        refine tv_iload_n C (pc := 131) dX6_copyRow_131 rfl rfl ?_
                        obtain ⟨hr255, h⟩ := ts_gd h
                        refine tv_aaload7 C (pc := 132) dX6_copyRow_132 (ts_live (k := 26) (by decide) (by decide) (by decide)) rfl hr255 (j := p1.toNatClampNeg) rfl (i2 := (27, 0, p1.toNatClampNeg)) rfl ?_
                        refine tv_getI C (pc := 133) dX6_copyRow_133 fl_X6_213 (ts_live (k := 27) (by decide) (by decide) (ts_vin hr255)) rfl (cd := 0) rfl (by decide) ?_
                        cases h
                        exact tv_iret C (pc := 136) rfl dX6_copyRow_136 ⟨Nat.le_of_ble_eq_true rfl, Nat.le_of_ble_eq_true rfl⟩
                      · have h := ts_eR h
                        cases h
                        exact tv_callS_thr C (pc := 109) hX dX6_copyRow_109 yl_X6_106 Mq249 (Nat.le_trans (Nat.le_of_ble_eq_true rfl) hdd) (As := [.inl (.int (1 : Int32))]) rfl ⟨Nat.le_of_ble_eq_true rfl, Nat.le_of_ble_eq_true rfl⟩ (fun _ => Nat.le_of_ble_eq_true rfl) rfl ⟨Nat.le_of_ble_eq_true rfl, Nat.le_of_ble_eq_true rfl⟩
                  · have h := ts_eR h
                    cases h
                    exact tv_callS_thr C (pc := 80) hX dX6_copyRow_80 yl_X6_43 Mq237 (Nat.le_trans (Nat.le_of_ble_eq_true rfl) hdd) (As := [.inl (.int (0 : Int32))]) rfl ⟨Nat.le_of_ble_eq_true rfl, Nat.le_of_ble_eq_true rfl⟩ (fun _ => Nat.le_of_ble_eq_true rfl) rfl ⟨Nat.le_of_ble_eq_true rfl, Nat.le_of_ble_eq_true rfl⟩
                · have h := ts_ifp h hc
                  refine tv_iconst C (pc := 75) dX6_copyRow_75 (v := (1 : Int32)) rfl ?_
                  refine tv_goto C (pc := 76) 80 dX6_copyRow_76 (by decide) ?_
                  obtain ⟨q256, hq256, h⟩ := ts_bd h
                  have Mq256 := (m_X6_requireArgument (D := D) (dT := dT) (sz := sz) (ad := ad) hl (1 : Int32) u q256 hq256)
                  rcases q256 with v257 | e258
                  · have h := ts_eL h
                    refine tv_callS C (pc := 80) dX6_copyRow_80 yl_X6_43 Mq256 (Nat.le_trans (Nat.le_of_ble_eq_true rfl) hdd) (As := [.inl (.int (1 : Int32))]) rfl ⟨Nat.le_of_ble_eq_true rfl, Nat.le_of_ble_eq_true rfl⟩ (fun _ => Nat.le_of_ble_eq_true rfl) rfl ?_
                    refine tv_aload_n C (pc := 83) dX6_copyRow_83 rfl rfl ?_
                    refine tv_getR C (pc := 84) dX6_copyRow_84 fl_X6_38 (ts_live (k := 0) (by decide) (by decide) (by decide)) rfl rfl (i2 := (26, 0, 0)) rfl ?_
                    refine tv_iload_n C (pc := 87) dX6_copyRow_87 rfl rfl ?_
                    obtain ⟨hr259, h⟩ := ts_gd h
                    refine tv_aaload7 C (pc := 88) dX6_copyRow_88 (ts_live (k := 26) (by decide) (by decide) (by decide)) rfl hr259 (j := p2.toNatClampNeg) rfl (i2 := (27, 0, p2.toNatClampNeg)) rfl ?_
                    refine tv_getI C (pc := 89) dX6_copyRow_89 fl_X6_213 (ts_live (k := 27) (by decide) (by decide) (ts_vin hr259)) rfl (cd := 0) rfl (by decide) ?_
                    refine tv_aload_n C (pc := 92) dX6_copyRow_92 rfl rfl ?_
                    refine tv_getR C (pc := 93) dX6_copyRow_93 fl_X6_38 (ts_live (k := 0) (by decide) (by decide) (by decide)) rfl rfl (i2 := (26, 0, 0)) rfl ?_
                    refine tv_iload_n C (pc := 96) dX6_copyRow_96 rfl rfl ?_
                    obtain ⟨hr260, h⟩ := ts_gd h
                    refine tv_aaload7 C (pc := 97) dX6_copyRow_97 (ts_live (k := 26) (by decide) (by decide) (by decide)) rfl hr260 (j := p1.toNatClampNeg) rfl (i2 := (27, 0, p1.toNatClampNeg)) rfl ?_
                    refine tv_getI C (pc := 98) dX6_copyRow_98 fl_X6_213 (ts_live (k := 27) (by decide) (by decide) (ts_vin hr260)) rfl (cd := 0) rfl (by decide) ?_
                    refine tv_icmp_lt C (pc := 101) 108 dX6_copyRow_101 (by decide) (fun hc => ?_) (fun hc => ?_)
                    · have h := ts_ifp h hc
                      refine tv_iconst C (pc := 108) dX6_copyRow_108 (v := (0 : Int32)) rfl ?_
                      obtain ⟨q261, hq261, h⟩ := ts_bd h
                      have Mq261 := (m_X6_requireElement (D := D) (dT := dT) (sz := sz) (ad := ad) hl (0 : Int32) u q261 hq261)
                      rcases q261 with v262 | e263
                      · have h := ts_eL h
                        refine tv_callS C (pc := 109) dX6_copyRow_109 yl_X6_106 Mq261 (Nat.le_trans (Nat.le_of_ble_eq_true rfl) hdd) (As := [.inl (.int (0 : Int32))]) rfl ⟨Nat.le_of_ble_eq_true rfl, Nat.le_of_ble_eq_true rfl⟩ (fun _ => Nat.le_of_ble_eq_true rfl) rfl ?_
                        refine tv_aload_n C (pc := 112) dX6_copyRow_112 rfl rfl ?_
                        refine tv_getR C (pc := 113) dX6_copyRow_113 fl_X6_38 (ts_live (k := 0) (by decide) (by decide) (by decide)) rfl rfl (i2 := (26, 0, 0)) rfl ?_
                        refine tv_iload_n C (pc := 116) dX6_copyRow_116 rfl rfl ?_
                        obtain ⟨hr264, h⟩ := ts_gd h
                        refine tv_aaload7 C (pc := 117) dX6_copyRow_117 (ts_live (k := 26) (by decide) (by decide) (by decide)) rfl hr264 (j := p2.toNatClampNeg) rfl (i2 := (27, 0, p2.toNatClampNeg)) rfl ?_
                        refine tv_aload_n C (pc := 118) dX6_copyRow_118 rfl rfl ?_
                        refine tv_getR C (pc := 119) dX6_copyRow_119 fl_X6_38 (ts_live (k := 0) (by decide) (by decide) (by decide)) rfl rfl (i2 := (26, 0, 0)) rfl ?_
                        refine tv_iload_n C (pc := 122) dX6_copyRow_122 rfl rfl ?_
                        obtain ⟨hr265, h⟩ := ts_gd h
                        refine tv_aaload7 C (pc := 123) dX6_copyRow_123 (ts_live (k := 26) (by decide) (by decide) (by decide)) rfl hr265 (j := p1.toNatClampNeg) rfl (i2 := (27, 0, p1.toNatClampNeg)) rfl ?_
                        obtain ⟨q266, hq266, h⟩ := ts_bd h
                        refine tv_callV C (pc := 124) dX6_copyRow_124 (ci := 4) (q := (RX4, TX4, 4)) rfl yl_X6_227 (m_X4_takeElements (D := D) (dT := dT) (sz := sz) (ad := ad) hl p2.toNatClampNeg (ts_vin hr264) p1.toNatClampNeg (ts_vin hr265) u q266 hq266) (ts_live (k := 27) (by decide) (by decide) (ts_vin hr264)) rfl (Nat.le_trans (Nat.le_of_ble_eq_true rfl) hdd) (As := [.inr (27, 0, p1.toNatClampNeg)]) rfl ⟨Nat.le_of_ble_eq_true rfl, Nat.le_of_ble_eq_true rfl⟩ (fun _ => Nat.le_of_ble_eq_true rfl) rfl ?_
                        refine tv_aload_n C (pc := 127) dX6_copyRow_127 rfl rfl ?_
                        refine tv_getR C (pc := 128) dX6_copyRow_128 fl_X6_38 (ts_live (k := 0) (by decide) (by decide) (by decide)) rfl rfl (i2 := (26, 0, 0)) rfl ?_
                        refine tv_iload_n C (pc := 131) dX6_copyRow_131 rfl rfl ?_
                        obtain ⟨hr267, h⟩ := ts_gd h
                        refine tv_aaload7 C (pc := 132) dX6_copyRow_132 (ts_live (k := 26) (by decide) (by decide) (by decide)) rfl hr267 (j := p1.toNatClampNeg) rfl (i2 := (27, 0, p1.toNatClampNeg)) rfl ?_
                        refine tv_getI C (pc := 133) dX6_copyRow_133 fl_X6_213 (ts_live (k := 27) (by decide) (by decide) (ts_vin hr267)) rfl (cd := 0) rfl (by decide) ?_
                        cases h
                        exact tv_iret C (pc := 136) rfl dX6_copyRow_136 ⟨Nat.le_of_ble_eq_true rfl, Nat.le_of_ble_eq_true rfl⟩
                      · have h := ts_eR h
                        cases h
                        exact tv_callS_thr C (pc := 109) hX dX6_copyRow_109 yl_X6_106 Mq261 (Nat.le_trans (Nat.le_of_ble_eq_true rfl) hdd) (As := [.inl (.int (0 : Int32))]) rfl ⟨Nat.le_of_ble_eq_true rfl, Nat.le_of_ble_eq_true rfl⟩ (fun _ => Nat.le_of_ble_eq_true rfl) rfl ⟨Nat.le_of_ble_eq_true rfl, Nat.le_of_ble_eq_true rfl⟩
                    · have h := ts_ifn h hc
                      refine tv_iconst C (pc := 104) dX6_copyRow_104 (v := (1 : Int32)) rfl ?_
                      refine tv_goto C (pc := 105) 109 dX6_copyRow_105 (by decide) ?_
                      obtain ⟨q268, hq268, h⟩ := ts_bd h
                      have Mq268 := (m_X6_requireElement (D := D) (dT := dT) (sz := sz) (ad := ad) hl (1 : Int32) u q268 hq268)
                      rcases q268 with v269 | e270
                      · have h := ts_eL h
                        refine tv_callS C (pc := 109) dX6_copyRow_109 yl_X6_106 Mq268 (Nat.le_trans (Nat.le_of_ble_eq_true rfl) hdd) (As := [.inl (.int (1 : Int32))]) rfl ⟨Nat.le_of_ble_eq_true rfl, Nat.le_of_ble_eq_true rfl⟩ (fun _ => Nat.le_of_ble_eq_true rfl) rfl ?_
                        refine tv_aload_n C (pc := 112) dX6_copyRow_112 rfl rfl ?_
                        refine tv_getR C (pc := 113) dX6_copyRow_113 fl_X6_38 (ts_live (k := 0) (by decide) (by decide) (by decide)) rfl rfl (i2 := (26, 0, 0)) rfl ?_
                        refine tv_iload_n C (pc := 116) dX6_copyRow_116 rfl rfl ?_
                        obtain ⟨hr271, h⟩ := ts_gd h
                        refine tv_aaload7 C (pc := 117) dX6_copyRow_117 (ts_live (k := 26) (by decide) (by decide) (by decide)) rfl hr271 (j := p2.toNatClampNeg) rfl (i2 := (27, 0, p2.toNatClampNeg)) rfl ?_
                        refine tv_aload_n C (pc := 118) dX6_copyRow_118 rfl rfl ?_
                        refine tv_getR C (pc := 119) dX6_copyRow_119 fl_X6_38 (ts_live (k := 0) (by decide) (by decide) (by decide)) rfl rfl (i2 := (26, 0, 0)) rfl ?_
                        refine tv_iload_n C (pc := 122) dX6_copyRow_122 rfl rfl ?_
                        obtain ⟨hr272, h⟩ := ts_gd h
                        refine tv_aaload7 C (pc := 123) dX6_copyRow_123 (ts_live (k := 26) (by decide) (by decide) (by decide)) rfl hr272 (j := p1.toNatClampNeg) rfl (i2 := (27, 0, p1.toNatClampNeg)) rfl ?_
                        obtain ⟨q273, hq273, h⟩ := ts_bd h
                        refine tv_callV C (pc := 124) dX6_copyRow_124 (ci := 4) (q := (RX4, TX4, 4)) rfl yl_X6_227 (m_X4_takeElements (D := D) (dT := dT) (sz := sz) (ad := ad) hl p2.toNatClampNeg (ts_vin hr271) p1.toNatClampNeg (ts_vin hr272) u q273 hq273) (ts_live (k := 27) (by decide) (by decide) (ts_vin hr271)) rfl (Nat.le_trans (Nat.le_of_ble_eq_true rfl) hdd) (As := [.inr (27, 0, p1.toNatClampNeg)]) rfl ⟨Nat.le_of_ble_eq_true rfl, Nat.le_of_ble_eq_true rfl⟩ (fun _ => Nat.le_of_ble_eq_true rfl) rfl ?_
                        refine tv_aload_n C (pc := 127) dX6_copyRow_127 rfl rfl ?_
                        refine tv_getR C (pc := 128) dX6_copyRow_128 fl_X6_38 (ts_live (k := 0) (by decide) (by decide) (by decide)) rfl rfl (i2 := (26, 0, 0)) rfl ?_
                        refine tv_iload_n C (pc := 131) dX6_copyRow_131 rfl rfl ?_
                        obtain ⟨hr274, h⟩ := ts_gd h
                        refine tv_aaload7 C (pc := 132) dX6_copyRow_132 (ts_live (k := 26) (by decide) (by decide) (by decide)) rfl hr274 (j := p1.toNatClampNeg) rfl (i2 := (27, 0, p1.toNatClampNeg)) rfl ?_
                        refine tv_getI C (pc := 133) dX6_copyRow_133 fl_X6_213 (ts_live (k := 27) (by decide) (by decide) (ts_vin hr274)) rfl (cd := 0) rfl (by decide) ?_
                        cases h
                        exact tv_iret C (pc := 136) rfl dX6_copyRow_136 ⟨Nat.le_of_ble_eq_true rfl, Nat.le_of_ble_eq_true rfl⟩
                      · have h := ts_eR h
                        cases h
                        exact tv_callS_thr C (pc := 109) hX dX6_copyRow_109 yl_X6_106 Mq268 (Nat.le_trans (Nat.le_of_ble_eq_true rfl) hdd) (As := [.inl (.int (1 : Int32))]) rfl ⟨Nat.le_of_ble_eq_true rfl, Nat.le_of_ble_eq_true rfl⟩ (fun _ => Nat.le_of_ble_eq_true rfl) rfl ⟨Nat.le_of_ble_eq_true rfl, Nat.le_of_ble_eq_true rfl⟩
                  · have h := ts_eR h
                    cases h
                    exact tv_callS_thr C (pc := 80) hX dX6_copyRow_80 yl_X6_43 Mq256 (Nat.le_trans (Nat.le_of_ble_eq_true rfl) hdd) (As := [.inl (.int (1 : Int32))]) rfl ⟨Nat.le_of_ble_eq_true rfl, Nat.le_of_ble_eq_true rfl⟩ (fun _ => Nat.le_of_ble_eq_true rfl) rfl ⟨Nat.le_of_ble_eq_true rfl, Nat.le_of_ble_eq_true rfl⟩
              · have h := ts_eR h
                cases h
                exact tv_callS_thr C (pc := 51) hX dX6_copyRow_51 yl_X6_57 Mq232 (Nat.le_trans (Nat.le_of_ble_eq_true rfl) hdd) (As := [.inl (.int (1 : Int32))]) rfl ⟨Nat.le_of_ble_eq_true rfl, Nat.le_of_ble_eq_true rfl⟩ (fun _ => Nat.le_of_ble_eq_true rfl) rfl ⟨Nat.le_of_ble_eq_true rfl, Nat.le_of_ble_eq_true rfl⟩
        · have h := ts_eR h
          cases h
          exact tv_callS_thr C (pc := 19) hX dX6_copyRow_19 yl_X6_71 Mq139 (Nat.le_trans (Nat.le_of_ble_eq_true rfl) hdd) (As := [.inl (.int (0 : Int32))]) rfl ⟨Nat.le_of_ble_eq_true rfl, Nat.le_of_ble_eq_true rfl⟩ (fun _ => Nat.le_of_ble_eq_true rfl) rfl ⟨Nat.le_of_ble_eq_true rfl, Nat.le_of_ble_eq_true rfl⟩
      · have h := ts_ifn h hc
        refine tv_iconst C (pc := 14) dX6_copyRow_14 (v := (1 : Int32)) rfl ?_
        refine tv_goto C (pc := 15) 19 dX6_copyRow_15 (by decide) ?_
        obtain ⟨q275, hq275, h⟩ := ts_bd h
        have Mq275 := (m_X6_requireIndex (D := D) (dT := dT) (sz := sz) (ad := ad) hl (1 : Int32) u q275 hq275)
        rcases q275 with v276 | e277
        · have h := ts_eL h
          refine tv_callS C (pc := 19) dX6_copyRow_19 yl_X6_71 Mq275 (Nat.le_trans (Nat.le_of_ble_eq_true rfl) hdd) (As := [.inl (.int (1 : Int32))]) rfl ⟨Nat.le_of_ble_eq_true rfl, Nat.le_of_ble_eq_true rfl⟩ (fun _ => Nat.le_of_ble_eq_true rfl) rfl ?_
          refine tv_aload_n C (pc := 22) dX6_copyRow_22 rfl rfl ?_
          refine tv_getR C (pc := 23) dX6_copyRow_23 fl_X6_38 (ts_live (k := 0) (by decide) (by decide) (by decide)) rfl rfl (i2 := (26, 0, 0)) rfl ?_
          refine tv_iload_n C (pc := 26) dX6_copyRow_26 rfl rfl ?_
          obtain ⟨hr278, h⟩ := ts_gd h
          refine tv_aaload7 C (pc := 27) dX6_copyRow_27 (ts_live (k := 26) (by decide) (by decide) (by decide)) rfl hr278 (j := p1.toNatClampNeg) rfl (i2 := (27, 0, p1.toNatClampNeg)) rfl ?_
          obtain ⟨q279, hq279, h⟩ := ts_bd h
          refine tv_callV C (pc := 28) dX6_copyRow_28 (ci := 4) (q := (RX4, TX4, 4)) rfl yl_X6_206 (m_X4_isUsed (D := D) (dT := dT) (sz := sz) (ad := ad) hl p1.toNatClampNeg (ts_vin hr278) u q279 hq279) (ts_live (k := 27) (by decide) (by decide) (ts_vin hr278)) rfl (Nat.le_trans (Nat.le_of_ble_eq_true rfl) hdd) (As := []) rfl ⟨Nat.le_of_ble_eq_true rfl, Nat.le_of_ble_eq_true rfl⟩ (fun _ => Nat.le_of_ble_eq_true rfl) rfl ?_
          refine tv_if_eq C (pc := 31) 50 dX6_copyRow_31 (by decide) (fun hc => ?_) (fun hc => ?_)
          · have h := ts_ifp h hc
            refine tv_iconst C (pc := 50) dX6_copyRow_50 (v := (0 : Int32)) rfl ?_
            obtain ⟨q280, hq280, h⟩ := ts_bd h
            have Mq280 := (m_X6_requireState (D := D) (dT := dT) (sz := sz) (ad := ad) hl (0 : Int32) u q280 hq280)
            rcases q280 with v281 | e282
            · have h := ts_eL h
              refine tv_callS C (pc := 51) dX6_copyRow_51 yl_X6_57 Mq280 (Nat.le_trans (Nat.le_of_ble_eq_true rfl) hdd) (As := [.inl (.int (0 : Int32))]) rfl ⟨Nat.le_of_ble_eq_true rfl, Nat.le_of_ble_eq_true rfl⟩ (fun _ => Nat.le_of_ble_eq_true rfl) rfl ?_
              refine tv_aload_n C (pc := 54) dX6_copyRow_54 rfl rfl ?_
              refine tv_getR C (pc := 55) dX6_copyRow_55 fl_X6_38 (ts_live (k := 0) (by decide) (by decide) (by decide)) rfl rfl (i2 := (26, 0, 0)) rfl ?_
              refine tv_iload_n C (pc := 58) dX6_copyRow_58 rfl rfl ?_
              obtain ⟨hr283, h⟩ := ts_gd h
              refine tv_aaload7 C (pc := 59) dX6_copyRow_59 (ts_live (k := 26) (by decide) (by decide) (by decide)) rfl hr283 (j := p1.toNatClampNeg) rfl (i2 := (27, 0, p1.toNatClampNeg)) rfl ?_
              refine tv_getI C (pc := 60) dX6_copyRow_60 fl_X6_224 (ts_live (k := 27) (by decide) (by decide) (ts_vin hr283)) rfl (cd := 0) rfl (by decide) ?_
              refine tv_aload_n C (pc := 63) dX6_copyRow_63 rfl rfl ?_
              refine tv_getR C (pc := 64) dX6_copyRow_64 fl_X6_38 (ts_live (k := 0) (by decide) (by decide) (by decide)) rfl rfl (i2 := (26, 0, 0)) rfl ?_
              refine tv_iload_n C (pc := 67) dX6_copyRow_67 rfl rfl ?_
              obtain ⟨hr284, h⟩ := ts_gd h
              refine tv_aaload7 C (pc := 68) dX6_copyRow_68 (ts_live (k := 26) (by decide) (by decide) (by decide)) rfl hr284 (j := p2.toNatClampNeg) rfl (i2 := (27, 0, p2.toNatClampNeg)) rfl ?_
              refine tv_getI C (pc := 69) dX6_copyRow_69 fl_X6_224 (ts_live (k := 27) (by decide) (by decide) (ts_vin hr284)) rfl (cd := 0) rfl (by decide) ?_
              refine tv_icmp_ne C (pc := 72) 79 dX6_copyRow_72 (by decide) (fun hc => ?_) (fun hc => ?_)
              · have h := ts_ifn h hc
                refine tv_iconst C (pc := 79) dX6_copyRow_79 (v := (0 : Int32)) rfl ?_
                obtain ⟨q285, hq285, h⟩ := ts_bd h
                have Mq285 := (m_X6_requireArgument (D := D) (dT := dT) (sz := sz) (ad := ad) hl (0 : Int32) u q285 hq285)
                rcases q285 with v286 | e287
                · have h := ts_eL h
                  refine tv_callS C (pc := 80) dX6_copyRow_80 yl_X6_43 Mq285 (Nat.le_trans (Nat.le_of_ble_eq_true rfl) hdd) (As := [.inl (.int (0 : Int32))]) rfl ⟨Nat.le_of_ble_eq_true rfl, Nat.le_of_ble_eq_true rfl⟩ (fun _ => Nat.le_of_ble_eq_true rfl) rfl ?_
                  refine tv_aload_n C (pc := 83) dX6_copyRow_83 rfl rfl ?_
                  refine tv_getR C (pc := 84) dX6_copyRow_84 fl_X6_38 (ts_live (k := 0) (by decide) (by decide) (by decide)) rfl rfl (i2 := (26, 0, 0)) rfl ?_
                  refine tv_iload_n C (pc := 87) dX6_copyRow_87 rfl rfl ?_
                  obtain ⟨hr288, h⟩ := ts_gd h
                  refine tv_aaload7 C (pc := 88) dX6_copyRow_88 (ts_live (k := 26) (by decide) (by decide) (by decide)) rfl hr288 (j := p2.toNatClampNeg) rfl (i2 := (27, 0, p2.toNatClampNeg)) rfl ?_
                  refine tv_getI C (pc := 89) dX6_copyRow_89 fl_X6_213 (ts_live (k := 27) (by decide) (by decide) (ts_vin hr288)) rfl (cd := 0) rfl (by decide) ?_
                  refine tv_aload_n C (pc := 92) dX6_copyRow_92 rfl rfl ?_
                  refine tv_getR C (pc := 93) dX6_copyRow_93 fl_X6_38 (ts_live (k := 0) (by decide) (by decide) (by decide)) rfl rfl (i2 := (26, 0, 0)) rfl ?_
                  refine tv_iload_n C (pc := 96) dX6_copyRow_96 rfl rfl ?_
                  obtain ⟨hr289, h⟩ := ts_gd h
                  refine tv_aaload7 C (pc := 97) dX6_copyRow_97 (ts_live (k := 26) (by decide) (by decide) (by decide)) rfl hr289 (j := p1.toNatClampNeg) rfl (i2 := (27, 0, p1.toNatClampNeg)) rfl ?_
                  refine tv_getI C (pc := 98) dX6_copyRow_98 fl_X6_213 (ts_live (k := 27) (by decide) (by decide) (ts_vin hr289)) rfl (cd := 0) rfl (by decide) ?_
                  refine tv_icmp_lt C (pc := 101) 108 dX6_copyRow_101 (by decide) (fun hc => ?_) (fun hc => ?_)
                  · have h := ts_ifp h hc
                    refine tv_iconst C (pc := 108) dX6_copyRow_108 (v := (0 : Int32)) rfl ?_
                    obtain ⟨q290, hq290, h⟩ := ts_bd h
                    have Mq290 := (m_X6_requireElement (D := D) (dT := dT) (sz := sz) (ad := ad) hl (0 : Int32) u q290 hq290)
                    rcases q290 with v291 | e292
                    · have h := ts_eL h
                      refine tv_callS C (pc := 109) dX6_copyRow_109 yl_X6_106 Mq290 (Nat.le_trans (Nat.le_of_ble_eq_true rfl) hdd) (As := [.inl (.int (0 : Int32))]) rfl ⟨Nat.le_of_ble_eq_true rfl, Nat.le_of_ble_eq_true rfl⟩ (fun _ => Nat.le_of_ble_eq_true rfl) rfl ?_
                      refine tv_aload_n C (pc := 112) dX6_copyRow_112 rfl rfl ?_
                      refine tv_getR C (pc := 113) dX6_copyRow_113 fl_X6_38 (ts_live (k := 0) (by decide) (by decide) (by decide)) rfl rfl (i2 := (26, 0, 0)) rfl ?_
                      refine tv_iload_n C (pc := 116) dX6_copyRow_116 rfl rfl ?_
                      obtain ⟨hr293, h⟩ := ts_gd h
                      refine tv_aaload7 C (pc := 117) dX6_copyRow_117 (ts_live (k := 26) (by decide) (by decide) (by decide)) rfl hr293 (j := p2.toNatClampNeg) rfl (i2 := (27, 0, p2.toNatClampNeg)) rfl ?_
                      refine tv_aload_n C (pc := 118) dX6_copyRow_118 rfl rfl ?_
                      refine tv_getR C (pc := 119) dX6_copyRow_119 fl_X6_38 (ts_live (k := 0) (by decide) (by decide) (by decide)) rfl rfl (i2 := (26, 0, 0)) rfl ?_
                      refine tv_iload_n C (pc := 122) dX6_copyRow_122 rfl rfl ?_
                      obtain ⟨hr294, h⟩ := ts_gd h
                      refine tv_aaload7 C (pc := 123) dX6_copyRow_123 (ts_live (k := 26) (by decide) (by decide) (by decide)) rfl hr294 (j := p1.toNatClampNeg) rfl (i2 := (27, 0, p1.toNatClampNeg)) rfl ?_
                      obtain ⟨q295, hq295, h⟩ := ts_bd h
                      refine tv_callV C (pc := 124) dX6_copyRow_124 (ci := 4) (q := (RX4, TX4, 4)) rfl yl_X6_227 (m_X4_takeElements (D := D) (dT := dT) (sz := sz) (ad := ad) hl p2.toNatClampNeg (ts_vin hr293) p1.toNatClampNeg (ts_vin hr294) u q295 hq295) (ts_live (k := 27) (by decide) (by decide) (ts_vin hr293)) rfl (Nat.le_trans (Nat.le_of_ble_eq_true rfl) hdd) (As := [.inr (27, 0, p1.toNatClampNeg)]) rfl ⟨Nat.le_of_ble_eq_true rfl, Nat.le_of_ble_eq_true rfl⟩ (fun _ => Nat.le_of_ble_eq_true rfl) rfl ?_
                      refine tv_aload_n C (pc := 127) dX6_copyRow_127 rfl rfl ?_
                      refine tv_getR C (pc := 128) dX6_copyRow_128 fl_X6_38 (ts_live (k := 0) (by decide) (by decide) (by decide)) rfl rfl (i2 := (26, 0, 0)) rfl ?_
                      refine tv_iload_n C (pc := 131) dX6_copyRow_131 rfl rfl ?_
                      obtain ⟨hr296, h⟩ := ts_gd h
                      refine tv_aaload7 C (pc := 132) dX6_copyRow_132 (ts_live (k := 26) (by decide) (by decide) (by decide)) rfl hr296 (j := p1.toNatClampNeg) rfl (i2 := (27, 0, p1.toNatClampNeg)) rfl ?_
                      refine tv_getI C (pc := 133) dX6_copyRow_133 fl_X6_213 (ts_live (k := 27) (by decide) (by decide) (ts_vin hr296)) rfl (cd := 0) rfl (by decide) ?_
                      cases h
                      exact tv_iret C (pc := 136) rfl dX6_copyRow_136 ⟨Nat.le_of_ble_eq_true rfl, Nat.le_of_ble_eq_true rfl⟩
                    · have h := ts_eR h
                      cases h
                      exact tv_callS_thr C (pc := 109) hX dX6_copyRow_109 yl_X6_106 Mq290 (Nat.le_trans (Nat.le_of_ble_eq_true rfl) hdd) (As := [.inl (.int (0 : Int32))]) rfl ⟨Nat.le_of_ble_eq_true rfl, Nat.le_of_ble_eq_true rfl⟩ (fun _ => Nat.le_of_ble_eq_true rfl) rfl ⟨Nat.le_of_ble_eq_true rfl, Nat.le_of_ble_eq_true rfl⟩
                  · have h := ts_ifn h hc
                    refine tv_iconst C (pc := 104) dX6_copyRow_104 (v := (1 : Int32)) rfl ?_
                    refine tv_goto C (pc := 105) 109 dX6_copyRow_105 (by decide) ?_
                    obtain ⟨q297, hq297, h⟩ := ts_bd h
                    have Mq297 := (m_X6_requireElement (D := D) (dT := dT) (sz := sz) (ad := ad) hl (1 : Int32) u q297 hq297)
                    rcases q297 with v298 | e299
                    · have h := ts_eL h
                      refine tv_callS C (pc := 109) dX6_copyRow_109 yl_X6_106 Mq297 (Nat.le_trans (Nat.le_of_ble_eq_true rfl) hdd) (As := [.inl (.int (1 : Int32))]) rfl ⟨Nat.le_of_ble_eq_true rfl, Nat.le_of_ble_eq_true rfl⟩ (fun _ => Nat.le_of_ble_eq_true rfl) rfl ?_
                      refine tv_aload_n C (pc := 112) dX6_copyRow_112 rfl rfl ?_
                      refine tv_getR C (pc := 113) dX6_copyRow_113 fl_X6_38 (ts_live (k := 0) (by decide) (by decide) (by decide)) rfl rfl (i2 := (26, 0, 0)) rfl ?_
                      refine tv_iload_n C (pc := 116) dX6_copyRow_116 rfl rfl ?_
                      obtain ⟨hr300, h⟩ := ts_gd h
                      refine tv_aaload7 C (pc := 117) dX6_copyRow_117 (ts_live (k := 26) (by decide) (by decide) (by decide)) rfl hr300 (j := p2.toNatClampNeg) rfl (i2 := (27, 0, p2.toNatClampNeg)) rfl ?_
                      refine tv_aload_n C (pc := 118) dX6_copyRow_118 rfl rfl ?_
                      refine tv_getR C (pc := 119) dX6_copyRow_119 fl_X6_38 (ts_live (k := 0) (by decide) (by decide) (by decide)) rfl rfl (i2 := (26, 0, 0)) rfl ?_
                      refine tv_iload_n C (pc := 122) dX6_copyRow_122 rfl rfl ?_
                      obtain ⟨hr301, h⟩ := ts_gd h
                      refine tv_aaload7 C (pc := 123) dX6_copyRow_123 (ts_live (k := 26) (by decide) (by decide) (by decide)) rfl hr301 (j := p1.toNatClampNeg) rfl (i2 := (27, 0, p1.toNatClampNeg)) rfl ?_
                      obtain ⟨q302, hq302, h⟩ := ts_bd h
                      refine tv_callV C (pc := 124) dX6_copyRow_124 (ci := 4) (q := (RX4, TX4, 4)) rfl yl_X6_227 (m_X4_takeElements (D := D) (dT := dT) (sz := sz) (ad := ad) hl p2.toNatClampNeg (ts_vin hr300) p1.toNatClampNeg (ts_vin hr301) u q302 hq302) (ts_live (k := 27) (by decide) (by decide) (ts_vin hr300)) rfl (Nat.le_trans (Nat.le_of_ble_eq_true rfl) hdd) (As := [.inr (27, 0, p1.toNatClampNeg)]) rfl ⟨Nat.le_of_ble_eq_true rfl, Nat.le_of_ble_eq_true rfl⟩ (fun _ => Nat.le_of_ble_eq_true rfl) rfl ?_
                      refine tv_aload_n C (pc := 127) dX6_copyRow_127 rfl rfl ?_
                      refine tv_getR C (pc := 128) dX6_copyRow_128 fl_X6_38 (ts_live (k := 0) (by decide) (by decide) (by decide)) rfl rfl (i2 := (26, 0, 0)) rfl ?_
                      refine tv_iload_n C (pc := 131) dX6_copyRow_131 rfl rfl ?_
                      obtain ⟨hr303, h⟩ := ts_gd h
                      refine tv_aaload7 C (pc := 132) dX6_copyRow_132 (ts_live (k := 26) (by decide) (by decide) (by decide)) rfl hr303 (j := p1.toNatClampNeg) rfl (i2 := (27, 0, p1.toNatClampNeg)) rfl ?_
                      refine tv_getI C (pc := 133) dX6_copyRow_133 fl_X6_213 (ts_live (k := 27) (by decide) (by decide) (ts_vin hr303)) rfl (cd := 0) rfl (by decide) ?_
                      cases h
                      exact tv_iret C (pc := 136) rfl dX6_copyRow_136 ⟨Nat.le_of_ble_eq_true rfl, Nat.le_of_ble_eq_true rfl⟩
                    · have h := ts_eR h
                      cases h
                      exact tv_callS_thr C (pc := 109) hX dX6_copyRow_109 yl_X6_106 Mq297 (Nat.le_trans (Nat.le_of_ble_eq_true rfl) hdd) (As := [.inl (.int (1 : Int32))]) rfl ⟨Nat.le_of_ble_eq_true rfl, Nat.le_of_ble_eq_true rfl⟩ (fun _ => Nat.le_of_ble_eq_true rfl) rfl ⟨Nat.le_of_ble_eq_true rfl, Nat.le_of_ble_eq_true rfl⟩
                · have h := ts_eR h
                  cases h
                  exact tv_callS_thr C (pc := 80) hX dX6_copyRow_80 yl_X6_43 Mq285 (Nat.le_trans (Nat.le_of_ble_eq_true rfl) hdd) (As := [.inl (.int (0 : Int32))]) rfl ⟨Nat.le_of_ble_eq_true rfl, Nat.le_of_ble_eq_true rfl⟩ (fun _ => Nat.le_of_ble_eq_true rfl) rfl ⟨Nat.le_of_ble_eq_true rfl, Nat.le_of_ble_eq_true rfl⟩
              · have h := ts_ifp h hc
                refine tv_iconst C (pc := 75) dX6_copyRow_75 (v := (1 : Int32)) rfl ?_
                refine tv_goto C (pc := 76) 80 dX6_copyRow_76 (by decide) ?_
                obtain ⟨q304, hq304, h⟩ := ts_bd h
                have Mq304 := (m_X6_requireArgument (D := D) (dT := dT) (sz := sz) (ad := ad) hl (1 : Int32) u q304 hq304)
                rcases q304 with v305 | e306
                · have h := ts_eL h
                  refine tv_callS C (pc := 80) dX6_copyRow_80 yl_X6_43 Mq304 (Nat.le_trans (Nat.le_of_ble_eq_true rfl) hdd) (As := [.inl (.int (1 : Int32))]) rfl ⟨Nat.le_of_ble_eq_true rfl, Nat.le_of_ble_eq_true rfl⟩ (fun _ => Nat.le_of_ble_eq_true rfl) rfl ?_
                  refine tv_aload_n C (pc := 83) dX6_copyRow_83 rfl rfl ?_
                  refine tv_getR C (pc := 84) dX6_copyRow_84 fl_X6_38 (ts_live (k := 0) (by decide) (by decide) (by decide)) rfl rfl (i2 := (26, 0, 0)) rfl ?_
                  refine tv_iload_n C (pc := 87) dX6_copyRow_87 rfl rfl ?_
                  obtain ⟨hr307, h⟩ := ts_gd h
                  refine tv_aaload7 C (pc := 88) dX6_copyRow_88 (ts_live (k := 26) (by decide) (by decide) (by decide)) rfl hr307 (j := p2.toNatClampNeg) rfl (i2 := (27, 0, p2.toNatClampNeg)) rfl ?_
                  refine tv_getI C (pc := 89) dX6_copyRow_89 fl_X6_213 (ts_live (k := 27) (by decide) (by decide) (ts_vin hr307)) rfl (cd := 0) rfl (by decide) ?_
                  refine tv_aload_n C (pc := 92) dX6_copyRow_92 rfl rfl ?_
                  refine tv_getR C (pc := 93) dX6_copyRow_93 fl_X6_38 (ts_live (k := 0) (by decide) (by decide) (by decide)) rfl rfl (i2 := (26, 0, 0)) rfl ?_
                  refine tv_iload_n C (pc := 96) dX6_copyRow_96 rfl rfl ?_
                  obtain ⟨hr308, h⟩ := ts_gd h
                  refine tv_aaload7 C (pc := 97) dX6_copyRow_97 (ts_live (k := 26) (by decide) (by decide) (by decide)) rfl hr308 (j := p1.toNatClampNeg) rfl (i2 := (27, 0, p1.toNatClampNeg)) rfl ?_
                  refine tv_getI C (pc := 98) dX6_copyRow_98 fl_X6_213 (ts_live (k := 27) (by decide) (by decide) (ts_vin hr308)) rfl (cd := 0) rfl (by decide) ?_
                  refine tv_icmp_lt C (pc := 101) 108 dX6_copyRow_101 (by decide) (fun hc => ?_) (fun hc => ?_)
                  · have h := ts_ifp h hc
                    refine tv_iconst C (pc := 108) dX6_copyRow_108 (v := (0 : Int32)) rfl ?_
                    obtain ⟨q309, hq309, h⟩ := ts_bd h
                    have Mq309 := (m_X6_requireElement (D := D) (dT := dT) (sz := sz) (ad := ad) hl (0 : Int32) u q309 hq309)
                    rcases q309 with v310 | e311
                    · have h := ts_eL h
                      refine tv_callS C (pc := 109) dX6_copyRow_109 yl_X6_106 Mq309 (Nat.le_trans (Nat.le_of_ble_eq_true rfl) hdd) (As := [.inl (.int (0 : Int32))]) rfl ⟨Nat.le_of_ble_eq_true rfl, Nat.le_of_ble_eq_true rfl⟩ (fun _ => Nat.le_of_ble_eq_true rfl) rfl ?_
                      refine tv_aload_n C (pc := 112) dX6_copyRow_112 rfl rfl ?_
                      refine tv_getR C (pc := 113) dX6_copyRow_113 fl_X6_38 (ts_live (k := 0) (by decide) (by decide) (by decide)) rfl rfl (i2 := (26, 0, 0)) rfl ?_
                      refine tv_iload_n C (pc := 116) dX6_copyRow_116 rfl rfl ?_
                      obtain ⟨hr312, h⟩ := ts_gd h
                      refine tv_aaload7 C (pc := 117) dX6_copyRow_117 (ts_live (k := 26) (by decide) (by decide) (by decide)) rfl hr312 (j := p2.toNatClampNeg) rfl (i2 := (27, 0, p2.toNatClampNeg)) rfl ?_
                      refine tv_aload_n C (pc := 118) dX6_copyRow_118 rfl rfl ?_
                      refine tv_getR C (pc := 119) dX6_copyRow_119 fl_X6_38 (ts_live (k := 0) (by decide) (by decide) (by decide)) rfl rfl (i2 := (26, 0, 0)) rfl ?_
                      refine tv_iload_n C (pc := 122) dX6_copyRow_122 rfl rfl ?_
                      obtain ⟨hr313, h⟩ := ts_gd h
                      refine tv_aaload7 C (pc := 123) dX6_copyRow_123 (ts_live (k := 26) (by decide) (by decide) (by decide)) rfl hr313 (j := p1.toNatClampNeg) rfl (i2 := (27, 0, p1.toNatClampNeg)) rfl ?_
                      obtain ⟨q314, hq314, h⟩ := ts_bd h
                      refine tv_callV C (pc := 124) dX6_copyRow_124 (ci := 4) (q := (RX4, TX4, 4)) rfl yl_X6_227 (m_X4_takeElements (D := D) (dT := dT) (sz := sz) (ad := ad) hl p2.toNatClampNeg (ts_vin hr312) p1.toNatClampNeg (ts_vin hr313) u q314 hq314) (ts_live (k := 27) (by decide) (by decide) (ts_vin hr312)) rfl (Nat.le_trans (Nat.le_of_ble_eq_true rfl) hdd) (As := [.inr (27, 0, p1.toNatClampNeg)]) rfl ⟨Nat.le_of_ble_eq_true rfl, Nat.le_of_ble_eq_true rfl⟩ (fun _ => Nat.le_of_ble_eq_true rfl) rfl ?_
                      refine tv_aload_n C (pc := 127) dX6_copyRow_127 rfl rfl ?_
                      refine tv_getR C (pc := 128) dX6_copyRow_128 fl_X6_38 (ts_live (k := 0) (by decide) (by decide) (by decide)) rfl rfl (i2 := (26, 0, 0)) rfl ?_
                      refine tv_iload_n C (pc := 131) dX6_copyRow_131 rfl rfl ?_
                      obtain ⟨hr315, h⟩ := ts_gd h
                      refine tv_aaload7 C (pc := 132) dX6_copyRow_132 (ts_live (k := 26) (by decide) (by decide) (by decide)) rfl hr315 (j := p1.toNatClampNeg) rfl (i2 := (27, 0, p1.toNatClampNeg)) rfl ?_
                      refine tv_getI C (pc := 133) dX6_copyRow_133 fl_X6_213 (ts_live (k := 27) (by decide) (by decide) (ts_vin hr315)) rfl (cd := 0) rfl (by decide) ?_
                      cases h
                      exact tv_iret C (pc := 136) rfl dX6_copyRow_136 ⟨Nat.le_of_ble_eq_true rfl, Nat.le_of_ble_eq_true rfl⟩
                    · have h := ts_eR h
                      cases h
                      exact tv_callS_thr C (pc := 109) hX dX6_copyRow_109 yl_X6_106 Mq309 (Nat.le_trans (Nat.le_of_ble_eq_true rfl) hdd) (As := [.inl (.int (0 : Int32))]) rfl ⟨Nat.le_of_ble_eq_true rfl, Nat.le_of_ble_eq_true rfl⟩ (fun _ => Nat.le_of_ble_eq_true rfl) rfl ⟨Nat.le_of_ble_eq_true rfl, Nat.le_of_ble_eq_true rfl⟩
                  · have h := ts_ifn h hc
                    refine tv_iconst C (pc := 104) dX6_copyRow_104 (v := (1 : Int32)) rfl ?_
                    refine tv_goto C (pc := 105) 109 dX6_copyRow_105 (by decide) ?_
                    obtain ⟨q316, hq316, h⟩ := ts_bd h
                    have Mq316 := (m_X6_requireElement (D := D) (dT := dT) (sz := sz) (ad := ad) hl (1 : Int32) u q316 hq316)
                    rcases q316 with v317 | e318
                    · have h := ts_eL h
                      refine tv_callS C (pc := 109) dX6_copyRow_109 yl_X6_106 Mq316 (Nat.le_trans (Nat.le_of_ble_eq_true rfl) hdd) (As := [.inl (.int (1 : Int32))]) rfl ⟨Nat.le_of_ble_eq_true rfl, Nat.le_of_ble_eq_true rfl⟩ (fun _ => Nat.le_of_ble_eq_true rfl) rfl ?_
                      refine tv_aload_n C (pc := 112) dX6_copyRow_112 rfl rfl ?_
                      refine tv_getR C (pc := 113) dX6_copyRow_113 fl_X6_38 (ts_live (k := 0) (by decide) (by decide) (by decide)) rfl rfl (i2 := (26, 0, 0)) rfl ?_
                      refine tv_iload_n C (pc := 116) dX6_copyRow_116 rfl rfl ?_
                      obtain ⟨hr319, h⟩ := ts_gd h
                      refine tv_aaload7 C (pc := 117) dX6_copyRow_117 (ts_live (k := 26) (by decide) (by decide) (by decide)) rfl hr319 (j := p2.toNatClampNeg) rfl (i2 := (27, 0, p2.toNatClampNeg)) rfl ?_
                      refine tv_aload_n C (pc := 118) dX6_copyRow_118 rfl rfl ?_
                      refine tv_getR C (pc := 119) dX6_copyRow_119 fl_X6_38 (ts_live (k := 0) (by decide) (by decide) (by decide)) rfl rfl (i2 := (26, 0, 0)) rfl ?_
                      refine tv_iload_n C (pc := 122) dX6_copyRow_122 rfl rfl ?_
                      obtain ⟨hr320, h⟩ := ts_gd h
                      refine tv_aaload7 C (pc := 123) dX6_copyRow_123 (ts_live (k := 26) (by decide) (by decide) (by decide)) rfl hr320 (j := p1.toNatClampNeg) rfl (i2 := (27, 0, p1.toNatClampNeg)) rfl ?_
                      obtain ⟨q321, hq321, h⟩ := ts_bd h
                      refine tv_callV C (pc := 124) dX6_copyRow_124 (ci := 4) (q := (RX4, TX4, 4)) rfl yl_X6_227 (m_X4_takeElements (D := D) (dT := dT) (sz := sz) (ad := ad) hl p2.toNatClampNeg (ts_vin hr319) p1.toNatClampNeg (ts_vin hr320) u q321 hq321) (ts_live (k := 27) (by decide) (by decide) (ts_vin hr319)) rfl (Nat.le_trans (Nat.le_of_ble_eq_true rfl) hdd) (As := [.inr (27, 0, p1.toNatClampNeg)]) rfl ⟨Nat.le_of_ble_eq_true rfl, Nat.le_of_ble_eq_true rfl⟩ (fun _ => Nat.le_of_ble_eq_true rfl) rfl ?_
                      refine tv_aload_n C (pc := 127) dX6_copyRow_127 rfl rfl ?_
                      refine tv_getR C (pc := 128) dX6_copyRow_128 fl_X6_38 (ts_live (k := 0) (by decide) (by decide) (by decide)) rfl rfl (i2 := (26, 0, 0)) rfl ?_
                      refine tv_iload_n C (pc := 131) dX6_copyRow_131 rfl rfl ?_
                      obtain ⟨hr322, h⟩ := ts_gd h
                      refine tv_aaload7 C (pc := 132) dX6_copyRow_132 (ts_live (k := 26) (by decide) (by decide) (by decide)) rfl hr322 (j := p1.toNatClampNeg) rfl (i2 := (27, 0, p1.toNatClampNeg)) rfl ?_
                      refine tv_getI C (pc := 133) dX6_copyRow_133 fl_X6_213 (ts_live (k := 27) (by decide) (by decide) (ts_vin hr322)) rfl (cd := 0) rfl (by decide) ?_
                      cases h
                      exact tv_iret C (pc := 136) rfl dX6_copyRow_136 ⟨Nat.le_of_ble_eq_true rfl, Nat.le_of_ble_eq_true rfl⟩
                    · have h := ts_eR h
                      cases h
                      exact tv_callS_thr C (pc := 109) hX dX6_copyRow_109 yl_X6_106 Mq316 (Nat.le_trans (Nat.le_of_ble_eq_true rfl) hdd) (As := [.inl (.int (1 : Int32))]) rfl ⟨Nat.le_of_ble_eq_true rfl, Nat.le_of_ble_eq_true rfl⟩ (fun _ => Nat.le_of_ble_eq_true rfl) rfl ⟨Nat.le_of_ble_eq_true rfl, Nat.le_of_ble_eq_true rfl⟩
                · have h := ts_eR h
                  cases h
                  exact tv_callS_thr C (pc := 80) hX dX6_copyRow_80 yl_X6_43 Mq304 (Nat.le_trans (Nat.le_of_ble_eq_true rfl) hdd) (As := [.inl (.int (1 : Int32))]) rfl ⟨Nat.le_of_ble_eq_true rfl, Nat.le_of_ble_eq_true rfl⟩ (fun _ => Nat.le_of_ble_eq_true rfl) rfl ⟨Nat.le_of_ble_eq_true rfl, Nat.le_of_ble_eq_true rfl⟩
            · have h := ts_eR h
              cases h
              exact tv_callS_thr C (pc := 51) hX dX6_copyRow_51 yl_X6_57 Mq280 (Nat.le_trans (Nat.le_of_ble_eq_true rfl) hdd) (As := [.inl (.int (0 : Int32))]) rfl ⟨Nat.le_of_ble_eq_true rfl, Nat.le_of_ble_eq_true rfl⟩ (fun _ => Nat.le_of_ble_eq_true rfl) rfl ⟨Nat.le_of_ble_eq_true rfl, Nat.le_of_ble_eq_true rfl⟩
          · have h := ts_ifn h hc
            refine tv_aload_n C (pc := 34) dX6_copyRow_34 rfl rfl ?_
            refine tv_getR C (pc := 35) dX6_copyRow_35 fl_X6_38 (ts_live (k := 0) (by decide) (by decide) (by decide)) rfl rfl (i2 := (26, 0, 0)) rfl ?_
            refine tv_iload_n C (pc := 38) dX6_copyRow_38 rfl rfl ?_
            obtain ⟨hr323, h⟩ := ts_gd h
            refine tv_aaload7 C (pc := 39) dX6_copyRow_39 (ts_live (k := 26) (by decide) (by decide) (by decide)) rfl hr323 (j := p2.toNatClampNeg) rfl (i2 := (27, 0, p2.toNatClampNeg)) rfl ?_
            obtain ⟨q324, hq324, h⟩ := ts_bd h
            refine tv_callV C (pc := 40) dX6_copyRow_40 (ci := 4) (q := (RX4, TX4, 4)) rfl yl_X6_206 (m_X4_isUsed (D := D) (dT := dT) (sz := sz) (ad := ad) hl p2.toNatClampNeg (ts_vin hr323) u q324 hq324) (ts_live (k := 27) (by decide) (by decide) (ts_vin hr323)) rfl (Nat.le_trans (Nat.le_of_ble_eq_true rfl) hdd) (As := []) rfl ⟨Nat.le_of_ble_eq_true rfl, Nat.le_of_ble_eq_true rfl⟩ (fun _ => Nat.le_of_ble_eq_true rfl) rfl ?_
            refine tv_if_eq C (pc := 43) 50 dX6_copyRow_43 (by decide) (fun hc => ?_) (fun hc => ?_)
            · have h := ts_ifp h hc
              refine tv_iconst C (pc := 50) dX6_copyRow_50 (v := (0 : Int32)) rfl ?_
              obtain ⟨q325, hq325, h⟩ := ts_bd h
              have Mq325 := (m_X6_requireState (D := D) (dT := dT) (sz := sz) (ad := ad) hl (0 : Int32) u q325 hq325)
              rcases q325 with v326 | e327
              · have h := ts_eL h
                refine tv_callS C (pc := 51) dX6_copyRow_51 yl_X6_57 Mq325 (Nat.le_trans (Nat.le_of_ble_eq_true rfl) hdd) (As := [.inl (.int (0 : Int32))]) rfl ⟨Nat.le_of_ble_eq_true rfl, Nat.le_of_ble_eq_true rfl⟩ (fun _ => Nat.le_of_ble_eq_true rfl) rfl ?_
                refine tv_aload_n C (pc := 54) dX6_copyRow_54 rfl rfl ?_
                refine tv_getR C (pc := 55) dX6_copyRow_55 fl_X6_38 (ts_live (k := 0) (by decide) (by decide) (by decide)) rfl rfl (i2 := (26, 0, 0)) rfl ?_
                refine tv_iload_n C (pc := 58) dX6_copyRow_58 rfl rfl ?_
                obtain ⟨hr328, h⟩ := ts_gd h
                refine tv_aaload7 C (pc := 59) dX6_copyRow_59 (ts_live (k := 26) (by decide) (by decide) (by decide)) rfl hr328 (j := p1.toNatClampNeg) rfl (i2 := (27, 0, p1.toNatClampNeg)) rfl ?_
                refine tv_getI C (pc := 60) dX6_copyRow_60 fl_X6_224 (ts_live (k := 27) (by decide) (by decide) (ts_vin hr328)) rfl (cd := 0) rfl (by decide) ?_
                refine tv_aload_n C (pc := 63) dX6_copyRow_63 rfl rfl ?_
                refine tv_getR C (pc := 64) dX6_copyRow_64 fl_X6_38 (ts_live (k := 0) (by decide) (by decide) (by decide)) rfl rfl (i2 := (26, 0, 0)) rfl ?_
                refine tv_iload_n C (pc := 67) dX6_copyRow_67 rfl rfl ?_
                obtain ⟨hr329, h⟩ := ts_gd h
                refine tv_aaload7 C (pc := 68) dX6_copyRow_68 (ts_live (k := 26) (by decide) (by decide) (by decide)) rfl hr329 (j := p2.toNatClampNeg) rfl (i2 := (27, 0, p2.toNatClampNeg)) rfl ?_
                refine tv_getI C (pc := 69) dX6_copyRow_69 fl_X6_224 (ts_live (k := 27) (by decide) (by decide) (ts_vin hr329)) rfl (cd := 0) rfl (by decide) ?_
                refine tv_icmp_ne C (pc := 72) 79 dX6_copyRow_72 (by decide) (fun hc => ?_) (fun hc => ?_)
                · have h := ts_ifn h hc
                  refine tv_iconst C (pc := 79) dX6_copyRow_79 (v := (0 : Int32)) rfl ?_
                  obtain ⟨q330, hq330, h⟩ := ts_bd h
                  have Mq330 := (m_X6_requireArgument (D := D) (dT := dT) (sz := sz) (ad := ad) hl (0 : Int32) u q330 hq330)
                  rcases q330 with v331 | e332
                  · have h := ts_eL h
                    refine tv_callS C (pc := 80) dX6_copyRow_80 yl_X6_43 Mq330 (Nat.le_trans (Nat.le_of_ble_eq_true rfl) hdd) (As := [.inl (.int (0 : Int32))]) rfl ⟨Nat.le_of_ble_eq_true rfl, Nat.le_of_ble_eq_true rfl⟩ (fun _ => Nat.le_of_ble_eq_true rfl) rfl ?_
                    refine tv_aload_n C (pc := 83) dX6_copyRow_83 rfl rfl ?_
                    refine tv_getR C (pc := 84) dX6_copyRow_84 fl_X6_38 (ts_live (k := 0) (by decide) (by decide) (by decide)) rfl rfl (i2 := (26, 0, 0)) rfl ?_
                    refine tv_iload_n C (pc := 87) dX6_copyRow_87 rfl rfl ?_
                    obtain ⟨hr333, h⟩ := ts_gd h
                    refine tv_aaload7 C (pc := 88) dX6_copyRow_88 (ts_live (k := 26) (by decide) (by decide) (by decide)) rfl hr333 (j := p2.toNatClampNeg) rfl (i2 := (27, 0, p2.toNatClampNeg)) rfl ?_
                    refine tv_getI C (pc := 89) dX6_copyRow_89 fl_X6_213 (ts_live (k := 27) (by decide) (by decide) (ts_vin hr333)) rfl (cd := 0) rfl (by decide) ?_
                    refine tv_aload_n C (pc := 92) dX6_copyRow_92 rfl rfl ?_
                    refine tv_getR C (pc := 93) dX6_copyRow_93 fl_X6_38 (ts_live (k := 0) (by decide) (by decide) (by decide)) rfl rfl (i2 := (26, 0, 0)) rfl ?_
                    refine tv_iload_n C (pc := 96) dX6_copyRow_96 rfl rfl ?_
                    obtain ⟨hr334, h⟩ := ts_gd h
                    refine tv_aaload7 C (pc := 97) dX6_copyRow_97 (ts_live (k := 26) (by decide) (by decide) (by decide)) rfl hr334 (j := p1.toNatClampNeg) rfl (i2 := (27, 0, p1.toNatClampNeg)) rfl ?_
                    refine tv_getI C (pc := 98) dX6_copyRow_98 fl_X6_213 (ts_live (k := 27) (by decide) (by decide) (ts_vin hr334)) rfl (cd := 0) rfl (by decide) ?_
                    refine tv_icmp_lt C (pc := 101) 108 dX6_copyRow_101 (by decide) (fun hc => ?_) (fun hc => ?_)
                    · have h := ts_ifp h hc
                      refine tv_iconst C (pc := 108) dX6_copyRow_108 (v := (0 : Int32)) rfl ?_
                      obtain ⟨q335, hq335, h⟩ := ts_bd h
                      have Mq335 := (m_X6_requireElement (D := D) (dT := dT) (sz := sz) (ad := ad) hl (0 : Int32) u q335 hq335)
                      rcases q335 with v336 | e337
                      · have h := ts_eL h
                        refine tv_callS C (pc := 109) dX6_copyRow_109 yl_X6_106 Mq335 (Nat.le_trans (Nat.le_of_ble_eq_true rfl) hdd) (As := [.inl (.int (0 : Int32))]) rfl ⟨Nat.le_of_ble_eq_true rfl, Nat.le_of_ble_eq_true rfl⟩ (fun _ => Nat.le_of_ble_eq_true rfl) rfl ?_
                        refine tv_aload_n C (pc := 112) dX6_copyRow_112 rfl rfl ?_
                        refine tv_getR C (pc := 113) dX6_copyRow_113 fl_X6_38 (ts_live (k := 0) (by decide) (by decide) (by decide)) rfl rfl (i2 := (26, 0, 0)) rfl ?_
                        refine tv_iload_n C (pc := 116) dX6_copyRow_116 rfl rfl ?_
                        obtain ⟨hr338, h⟩ := ts_gd h
                        refine tv_aaload7 C (pc := 117) dX6_copyRow_117 (ts_live (k := 26) (by decide) (by decide) (by decide)) rfl hr338 (j := p2.toNatClampNeg) rfl (i2 := (27, 0, p2.toNatClampNeg)) rfl ?_
                        refine tv_aload_n C (pc := 118) dX6_copyRow_118 rfl rfl ?_
                        refine tv_getR C (pc := 119) dX6_copyRow_119 fl_X6_38 (ts_live (k := 0) (by decide) (by decide) (by decide)) rfl rfl (i2 := (26, 0, 0)) rfl ?_
                        refine tv_iload_n C (pc := 122) dX6_copyRow_122 rfl rfl ?_
                        obtain ⟨hr339, h⟩ := ts_gd h
                        refine tv_aaload7 C (pc := 123) dX6_copyRow_123 (ts_live (k := 26) (by decide) (by decide) (by decide)) rfl hr339 (j := p1.toNatClampNeg) rfl (i2 := (27, 0, p1.toNatClampNeg)) rfl ?_
                        obtain ⟨q340, hq340, h⟩ := ts_bd h
                        refine tv_callV C (pc := 124) dX6_copyRow_124 (ci := 4) (q := (RX4, TX4, 4)) rfl yl_X6_227 (m_X4_takeElements (D := D) (dT := dT) (sz := sz) (ad := ad) hl p2.toNatClampNeg (ts_vin hr338) p1.toNatClampNeg (ts_vin hr339) u q340 hq340) (ts_live (k := 27) (by decide) (by decide) (ts_vin hr338)) rfl (Nat.le_trans (Nat.le_of_ble_eq_true rfl) hdd) (As := [.inr (27, 0, p1.toNatClampNeg)]) rfl ⟨Nat.le_of_ble_eq_true rfl, Nat.le_of_ble_eq_true rfl⟩ (fun _ => Nat.le_of_ble_eq_true rfl) rfl ?_
                        refine tv_aload_n C (pc := 127) dX6_copyRow_127 rfl rfl ?_
                        refine tv_getR C (pc := 128) dX6_copyRow_128 fl_X6_38 (ts_live (k := 0) (by decide) (by decide) (by decide)) rfl rfl (i2 := (26, 0, 0)) rfl ?_
                        refine tv_iload_n C (pc := 131) dX6_copyRow_131 rfl rfl ?_
                        obtain ⟨hr341, h⟩ := ts_gd h
                        refine tv_aaload7 C (pc := 132) dX6_copyRow_132 (ts_live (k := 26) (by decide) (by decide) (by decide)) rfl hr341 (j := p1.toNatClampNeg) rfl (i2 := (27, 0, p1.toNatClampNeg)) rfl ?_
                        refine tv_getI C (pc := 133) dX6_copyRow_133 fl_X6_213 (ts_live (k := 27) (by decide) (by decide) (ts_vin hr341)) rfl (cd := 0) rfl (by decide) ?_
                        cases h
                        exact tv_iret C (pc := 136) rfl dX6_copyRow_136 ⟨Nat.le_of_ble_eq_true rfl, Nat.le_of_ble_eq_true rfl⟩
                      · have h := ts_eR h
                        cases h
                        exact tv_callS_thr C (pc := 109) hX dX6_copyRow_109 yl_X6_106 Mq335 (Nat.le_trans (Nat.le_of_ble_eq_true rfl) hdd) (As := [.inl (.int (0 : Int32))]) rfl ⟨Nat.le_of_ble_eq_true rfl, Nat.le_of_ble_eq_true rfl⟩ (fun _ => Nat.le_of_ble_eq_true rfl) rfl ⟨Nat.le_of_ble_eq_true rfl, Nat.le_of_ble_eq_true rfl⟩
                    · have h := ts_ifn h hc
                      refine tv_iconst C (pc := 104) dX6_copyRow_104 (v := (1 : Int32)) rfl ?_
                      refine tv_goto C (pc := 105) 109 dX6_copyRow_105 (by decide) ?_
                      obtain ⟨q342, hq342, h⟩ := ts_bd h
                      have Mq342 := (m_X6_requireElement (D := D) (dT := dT) (sz := sz) (ad := ad) hl (1 : Int32) u q342 hq342)
                      rcases q342 with v343 | e344
                      · have h := ts_eL h
                        refine tv_callS C (pc := 109) dX6_copyRow_109 yl_X6_106 Mq342 (Nat.le_trans (Nat.le_of_ble_eq_true rfl) hdd) (As := [.inl (.int (1 : Int32))]) rfl ⟨Nat.le_of_ble_eq_true rfl, Nat.le_of_ble_eq_true rfl⟩ (fun _ => Nat.le_of_ble_eq_true rfl) rfl ?_
                        refine tv_aload_n C (pc := 112) dX6_copyRow_112 rfl rfl ?_
                        refine tv_getR C (pc := 113) dX6_copyRow_113 fl_X6_38 (ts_live (k := 0) (by decide) (by decide) (by decide)) rfl rfl (i2 := (26, 0, 0)) rfl ?_
                        refine tv_iload_n C (pc := 116) dX6_copyRow_116 rfl rfl ?_
                        obtain ⟨hr345, h⟩ := ts_gd h
                        refine tv_aaload7 C (pc := 117) dX6_copyRow_117 (ts_live (k := 26) (by decide) (by decide) (by decide)) rfl hr345 (j := p2.toNatClampNeg) rfl (i2 := (27, 0, p2.toNatClampNeg)) rfl ?_
                        refine tv_aload_n C (pc := 118) dX6_copyRow_118 rfl rfl ?_
                        refine tv_getR C (pc := 119) dX6_copyRow_119 fl_X6_38 (ts_live (k := 0) (by decide) (by decide) (by decide)) rfl rfl (i2 := (26, 0, 0)) rfl ?_
                        refine tv_iload_n C (pc := 122) dX6_copyRow_122 rfl rfl ?_
                        obtain ⟨hr346, h⟩ := ts_gd h
                        refine tv_aaload7 C (pc := 123) dX6_copyRow_123 (ts_live (k := 26) (by decide) (by decide) (by decide)) rfl hr346 (j := p1.toNatClampNeg) rfl (i2 := (27, 0, p1.toNatClampNeg)) rfl ?_
                        obtain ⟨q347, hq347, h⟩ := ts_bd h
                        refine tv_callV C (pc := 124) dX6_copyRow_124 (ci := 4) (q := (RX4, TX4, 4)) rfl yl_X6_227 (m_X4_takeElements (D := D) (dT := dT) (sz := sz) (ad := ad) hl p2.toNatClampNeg (ts_vin hr345) p1.toNatClampNeg (ts_vin hr346) u q347 hq347) (ts_live (k := 27) (by decide) (by decide) (ts_vin hr345)) rfl (Nat.le_trans (Nat.le_of_ble_eq_true rfl) hdd) (As := [.inr (27, 0, p1.toNatClampNeg)]) rfl ⟨Nat.le_of_ble_eq_true rfl, Nat.le_of_ble_eq_true rfl⟩ (fun _ => Nat.le_of_ble_eq_true rfl) rfl ?_
                        refine tv_aload_n C (pc := 127) dX6_copyRow_127 rfl rfl ?_
                        refine tv_getR C (pc := 128) dX6_copyRow_128 fl_X6_38 (ts_live (k := 0) (by decide) (by decide) (by decide)) rfl rfl (i2 := (26, 0, 0)) rfl ?_
                        refine tv_iload_n C (pc := 131) dX6_copyRow_131 rfl rfl ?_
                        obtain ⟨hr348, h⟩ := ts_gd h
                        refine tv_aaload7 C (pc := 132) dX6_copyRow_132 (ts_live (k := 26) (by decide) (by decide) (by decide)) rfl hr348 (j := p1.toNatClampNeg) rfl (i2 := (27, 0, p1.toNatClampNeg)) rfl ?_
                        refine tv_getI C (pc := 133) dX6_copyRow_133 fl_X6_213 (ts_live (k := 27) (by decide) (by decide) (ts_vin hr348)) rfl (cd := 0) rfl (by decide) ?_
                        cases h
                        exact tv_iret C (pc := 136) rfl dX6_copyRow_136 ⟨Nat.le_of_ble_eq_true rfl, Nat.le_of_ble_eq_true rfl⟩
                      · have h := ts_eR h
                        cases h
                        exact tv_callS_thr C (pc := 109) hX dX6_copyRow_109 yl_X6_106 Mq342 (Nat.le_trans (Nat.le_of_ble_eq_true rfl) hdd) (As := [.inl (.int (1 : Int32))]) rfl ⟨Nat.le_of_ble_eq_true rfl, Nat.le_of_ble_eq_true rfl⟩ (fun _ => Nat.le_of_ble_eq_true rfl) rfl ⟨Nat.le_of_ble_eq_true rfl, Nat.le_of_ble_eq_true rfl⟩
                  · have h := ts_eR h
                    cases h
                    exact tv_callS_thr C (pc := 80) hX dX6_copyRow_80 yl_X6_43 Mq330 (Nat.le_trans (Nat.le_of_ble_eq_true rfl) hdd) (As := [.inl (.int (0 : Int32))]) rfl ⟨Nat.le_of_ble_eq_true rfl, Nat.le_of_ble_eq_true rfl⟩ (fun _ => Nat.le_of_ble_eq_true rfl) rfl ⟨Nat.le_of_ble_eq_true rfl, Nat.le_of_ble_eq_true rfl⟩
                · have h := ts_ifp h hc
                  refine tv_iconst C (pc := 75) dX6_copyRow_75 (v := (1 : Int32)) rfl ?_
                  refine tv_goto C (pc := 76) 80 dX6_copyRow_76 (by decide) ?_
                  obtain ⟨q349, hq349, h⟩ := ts_bd h
                  have Mq349 := (m_X6_requireArgument (D := D) (dT := dT) (sz := sz) (ad := ad) hl (1 : Int32) u q349 hq349)
                  rcases q349 with v350 | e351
                  · have h := ts_eL h
                    refine tv_callS C (pc := 80) dX6_copyRow_80 yl_X6_43 Mq349 (Nat.le_trans (Nat.le_of_ble_eq_true rfl) hdd) (As := [.inl (.int (1 : Int32))]) rfl ⟨Nat.le_of_ble_eq_true rfl, Nat.le_of_ble_eq_true rfl⟩ (fun _ => Nat.le_of_ble_eq_true rfl) rfl ?_
                    refine tv_aload_n C (pc := 83) dX6_copyRow_83 rfl rfl ?_
                    refine tv_getR C (pc := 84) dX6_copyRow_84 fl_X6_38 (ts_live (k := 0) (by decide) (by decide) (by decide)) rfl rfl (i2 := (26, 0, 0)) rfl ?_
                    refine tv_iload_n C (pc := 87) dX6_copyRow_87 rfl rfl ?_
                    obtain ⟨hr352, h⟩ := ts_gd h
                    refine tv_aaload7 C (pc := 88) dX6_copyRow_88 (ts_live (k := 26) (by decide) (by decide) (by decide)) rfl hr352 (j := p2.toNatClampNeg) rfl (i2 := (27, 0, p2.toNatClampNeg)) rfl ?_
                    refine tv_getI C (pc := 89) dX6_copyRow_89 fl_X6_213 (ts_live (k := 27) (by decide) (by decide) (ts_vin hr352)) rfl (cd := 0) rfl (by decide) ?_
                    refine tv_aload_n C (pc := 92) dX6_copyRow_92 rfl rfl ?_
                    refine tv_getR C (pc := 93) dX6_copyRow_93 fl_X6_38 (ts_live (k := 0) (by decide) (by decide) (by decide)) rfl rfl (i2 := (26, 0, 0)) rfl ?_
                    refine tv_iload_n C (pc := 96) dX6_copyRow_96 rfl rfl ?_
                    obtain ⟨hr353, h⟩ := ts_gd h
                    refine tv_aaload7 C (pc := 97) dX6_copyRow_97 (ts_live (k := 26) (by decide) (by decide) (by decide)) rfl hr353 (j := p1.toNatClampNeg) rfl (i2 := (27, 0, p1.toNatClampNeg)) rfl ?_
                    refine tv_getI C (pc := 98) dX6_copyRow_98 fl_X6_213 (ts_live (k := 27) (by decide) (by decide) (ts_vin hr353)) rfl (cd := 0) rfl (by decide) ?_
                    refine tv_icmp_lt C (pc := 101) 108 dX6_copyRow_101 (by decide) (fun hc => ?_) (fun hc => ?_)
                    · have h := ts_ifp h hc
                      refine tv_iconst C (pc := 108) dX6_copyRow_108 (v := (0 : Int32)) rfl ?_
                      obtain ⟨q354, hq354, h⟩ := ts_bd h
                      have Mq354 := (m_X6_requireElement (D := D) (dT := dT) (sz := sz) (ad := ad) hl (0 : Int32) u q354 hq354)
                      rcases q354 with v355 | e356
                      · have h := ts_eL h
                        refine tv_callS C (pc := 109) dX6_copyRow_109 yl_X6_106 Mq354 (Nat.le_trans (Nat.le_of_ble_eq_true rfl) hdd) (As := [.inl (.int (0 : Int32))]) rfl ⟨Nat.le_of_ble_eq_true rfl, Nat.le_of_ble_eq_true rfl⟩ (fun _ => Nat.le_of_ble_eq_true rfl) rfl ?_
                        refine tv_aload_n C (pc := 112) dX6_copyRow_112 rfl rfl ?_
                        refine tv_getR C (pc := 113) dX6_copyRow_113 fl_X6_38 (ts_live (k := 0) (by decide) (by decide) (by decide)) rfl rfl (i2 := (26, 0, 0)) rfl ?_
                        refine tv_iload_n C (pc := 116) dX6_copyRow_116 rfl rfl ?_
                        obtain ⟨hr357, h⟩ := ts_gd h
                        refine tv_aaload7 C (pc := 117) dX6_copyRow_117 (ts_live (k := 26) (by decide) (by decide) (by decide)) rfl hr357 (j := p2.toNatClampNeg) rfl (i2 := (27, 0, p2.toNatClampNeg)) rfl ?_
                        refine tv_aload_n C (pc := 118) dX6_copyRow_118 rfl rfl ?_
                        refine tv_getR C (pc := 119) dX6_copyRow_119 fl_X6_38 (ts_live (k := 0) (by decide) (by decide) (by decide)) rfl rfl (i2 := (26, 0, 0)) rfl ?_
                        refine tv_iload_n C (pc := 122) dX6_copyRow_122 rfl rfl ?_
                        obtain ⟨hr358, h⟩ := ts_gd h
                        refine tv_aaload7 C (pc := 123) dX6_copyRow_123 (ts_live (k := 26) (by decide) (by decide) (by decide)) rfl hr358 (j := p1.toNatClampNeg) rfl (i2 := (27, 0, p1.toNatClampNeg)) rfl ?_
                        obtain ⟨q359, hq359, h⟩ := ts_bd h
                        refine tv_callV C (pc := 124) dX6_copyRow_124 (ci := 4) (q := (RX4, TX4, 4)) rfl yl_X6_227 (m_X4_takeElements (D := D) (dT := dT) (sz := sz) (ad := ad) hl p2.toNatClampNeg (ts_vin hr357) p1.toNatClampNeg (ts_vin hr358) u q359 hq359) (ts_live (k := 27) (by decide) (by decide) (ts_vin hr357)) rfl (Nat.le_trans (Nat.le_of_ble_eq_true rfl) hdd) (As := [.inr (27, 0, p1.toNatClampNeg)]) rfl ⟨Nat.le_of_ble_eq_true rfl, Nat.le_of_ble_eq_true rfl⟩ (fun _ => Nat.le_of_ble_eq_true rfl) rfl ?_
                        refine tv_aload_n C (pc := 127) dX6_copyRow_127 rfl rfl ?_
                        refine tv_getR C (pc := 128) dX6_copyRow_128 fl_X6_38 (ts_live (k := 0) (by decide) (by decide) (by decide)) rfl rfl (i2 := (26, 0, 0)) rfl ?_
                        refine tv_iload_n C (pc := 131) dX6_copyRow_131 rfl rfl ?_
                        obtain ⟨hr360, h⟩ := ts_gd h
                        refine tv_aaload7 C (pc := 132) dX6_copyRow_132 (ts_live (k := 26) (by decide) (by decide) (by decide)) rfl hr360 (j := p1.toNatClampNeg) rfl (i2 := (27, 0, p1.toNatClampNeg)) rfl ?_
                        refine tv_getI C (pc := 133) dX6_copyRow_133 fl_X6_213 (ts_live (k := 27) (by decide) (by decide) (ts_vin hr360)) rfl (cd := 0) rfl (by decide) ?_
                        cases h
                        exact tv_iret C (pc := 136) rfl dX6_copyRow_136 ⟨Nat.le_of_ble_eq_true rfl, Nat.le_of_ble_eq_true rfl⟩
                      · have h := ts_eR h
                        cases h
                        exact tv_callS_thr C (pc := 109) hX dX6_copyRow_109 yl_X6_106 Mq354 (Nat.le_trans (Nat.le_of_ble_eq_true rfl) hdd) (As := [.inl (.int (0 : Int32))]) rfl ⟨Nat.le_of_ble_eq_true rfl, Nat.le_of_ble_eq_true rfl⟩ (fun _ => Nat.le_of_ble_eq_true rfl) rfl ⟨Nat.le_of_ble_eq_true rfl, Nat.le_of_ble_eq_true rfl⟩
                    · have h := ts_ifn h hc
                      refine tv_iconst C (pc := 104) dX6_copyRow_104 (v := (1 : Int32)) rfl ?_
                      refine tv_goto C (pc := 105) 109 dX6_copyRow_105 (by decide) ?_
                      obtain ⟨q361, hq361, h⟩ := ts_bd h
                      have Mq361 := (m_X6_requireElement (D := D) (dT := dT) (sz := sz) (ad := ad) hl (1 : Int32) u q361 hq361)
                      rcases q361 with v362 | e363
                      · have h := ts_eL h
                        refine tv_callS C (pc := 109) dX6_copyRow_109 yl_X6_106 Mq361 (Nat.le_trans (Nat.le_of_ble_eq_true rfl) hdd) (As := [.inl (.int (1 : Int32))]) rfl ⟨Nat.le_of_ble_eq_true rfl, Nat.le_of_ble_eq_true rfl⟩ (fun _ => Nat.le_of_ble_eq_true rfl) rfl ?_
                        refine tv_aload_n C (pc := 112) dX6_copyRow_112 rfl rfl ?_
                        refine tv_getR C (pc := 113) dX6_copyRow_113 fl_X6_38 (ts_live (k := 0) (by decide) (by decide) (by decide)) rfl rfl (i2 := (26, 0, 0)) rfl ?_
                        refine tv_iload_n C (pc := 116) dX6_copyRow_116 rfl rfl ?_
                        obtain ⟨hr364, h⟩ := ts_gd h
                        refine tv_aaload7 C (pc := 117) dX6_copyRow_117 (ts_live (k := 26) (by decide) (by decide) (by decide)) rfl hr364 (j := p2.toNatClampNeg) rfl (i2 := (27, 0, p2.toNatClampNeg)) rfl ?_
                        refine tv_aload_n C (pc := 118) dX6_copyRow_118 rfl rfl ?_
                        refine tv_getR C (pc := 119) dX6_copyRow_119 fl_X6_38 (ts_live (k := 0) (by decide) (by decide) (by decide)) rfl rfl (i2 := (26, 0, 0)) rfl ?_
                        refine tv_iload_n C (pc := 122) dX6_copyRow_122 rfl rfl ?_
                        obtain ⟨hr365, h⟩ := ts_gd h
                        refine tv_aaload7 C (pc := 123) dX6_copyRow_123 (ts_live (k := 26) (by decide) (by decide) (by decide)) rfl hr365 (j := p1.toNatClampNeg) rfl (i2 := (27, 0, p1.toNatClampNeg)) rfl ?_
                        obtain ⟨q366, hq366, h⟩ := ts_bd h
                        refine tv_callV C (pc := 124) dX6_copyRow_124 (ci := 4) (q := (RX4, TX4, 4)) rfl yl_X6_227 (m_X4_takeElements (D := D) (dT := dT) (sz := sz) (ad := ad) hl p2.toNatClampNeg (ts_vin hr364) p1.toNatClampNeg (ts_vin hr365) u q366 hq366) (ts_live (k := 27) (by decide) (by decide) (ts_vin hr364)) rfl (Nat.le_trans (Nat.le_of_ble_eq_true rfl) hdd) (As := [.inr (27, 0, p1.toNatClampNeg)]) rfl ⟨Nat.le_of_ble_eq_true rfl, Nat.le_of_ble_eq_true rfl⟩ (fun _ => Nat.le_of_ble_eq_true rfl) rfl ?_
                        refine tv_aload_n C (pc := 127) dX6_copyRow_127 rfl rfl ?_
                        refine tv_getR C (pc := 128) dX6_copyRow_128 fl_X6_38 (ts_live (k := 0) (by decide) (by decide) (by decide)) rfl rfl (i2 := (26, 0, 0)) rfl ?_
                        refine tv_iload_n C (pc := 131) dX6_copyRow_131 rfl rfl ?_
                        obtain ⟨hr367, h⟩ := ts_gd h
                        refine tv_aaload7 C (pc := 132) dX6_copyRow_132 (ts_live (k := 26) (by decide) (by decide) (by decide)) rfl hr367 (j := p1.toNatClampNeg) rfl (i2 := (27, 0, p1.toNatClampNeg)) rfl ?_
                        refine tv_getI C (pc := 133) dX6_copyRow_133 fl_X6_213 (ts_live (k := 27) (by decide) (by decide) (ts_vin hr367)) rfl (cd := 0) rfl (by decide) ?_
                        cases h
                        exact tv_iret C (pc := 136) rfl dX6_copyRow_136 ⟨Nat.le_of_ble_eq_true rfl, Nat.le_of_ble_eq_true rfl⟩
                      · have h := ts_eR h
                        cases h
                        exact tv_callS_thr C (pc := 109) hX dX6_copyRow_109 yl_X6_106 Mq361 (Nat.le_trans (Nat.le_of_ble_eq_true rfl) hdd) (As := [.inl (.int (1 : Int32))]) rfl ⟨Nat.le_of_ble_eq_true rfl, Nat.le_of_ble_eq_true rfl⟩ (fun _ => Nat.le_of_ble_eq_true rfl) rfl ⟨Nat.le_of_ble_eq_true rfl, Nat.le_of_ble_eq_true rfl⟩
                  · have h := ts_eR h
                    cases h
                    exact tv_callS_thr C (pc := 80) hX dX6_copyRow_80 yl_X6_43 Mq349 (Nat.le_trans (Nat.le_of_ble_eq_true rfl) hdd) (As := [.inl (.int (1 : Int32))]) rfl ⟨Nat.le_of_ble_eq_true rfl, Nat.le_of_ble_eq_true rfl⟩ (fun _ => Nat.le_of_ble_eq_true rfl) rfl ⟨Nat.le_of_ble_eq_true rfl, Nat.le_of_ble_eq_true rfl⟩
              · have h := ts_eR h
                cases h
                exact tv_callS_thr C (pc := 51) hX dX6_copyRow_51 yl_X6_57 Mq325 (Nat.le_trans (Nat.le_of_ble_eq_true rfl) hdd) (As := [.inl (.int (0 : Int32))]) rfl ⟨Nat.le_of_ble_eq_true rfl, Nat.le_of_ble_eq_true rfl⟩ (fun _ => Nat.le_of_ble_eq_true rfl) rfl ⟨Nat.le_of_ble_eq_true rfl, Nat.le_of_ble_eq_true rfl⟩
            · have h := ts_ifn h hc
              refine tv_iconst C (pc := 46) dX6_copyRow_46 (v := (1 : Int32)) rfl ?_
              refine tv_goto C (pc := 47) 51 dX6_copyRow_47 (by decide) ?_
              obtain ⟨q368, hq368, h⟩ := ts_bd h
              have Mq368 := (m_X6_requireState (D := D) (dT := dT) (sz := sz) (ad := ad) hl (1 : Int32) u q368 hq368)
              rcases q368 with v369 | e370
              · have h := ts_eL h
                refine tv_callS C (pc := 51) dX6_copyRow_51 yl_X6_57 Mq368 (Nat.le_trans (Nat.le_of_ble_eq_true rfl) hdd) (As := [.inl (.int (1 : Int32))]) rfl ⟨Nat.le_of_ble_eq_true rfl, Nat.le_of_ble_eq_true rfl⟩ (fun _ => Nat.le_of_ble_eq_true rfl) rfl ?_
                refine tv_aload_n C (pc := 54) dX6_copyRow_54 rfl rfl ?_
                refine tv_getR C (pc := 55) dX6_copyRow_55 fl_X6_38 (ts_live (k := 0) (by decide) (by decide) (by decide)) rfl rfl (i2 := (26, 0, 0)) rfl ?_
                refine tv_iload_n C (pc := 58) dX6_copyRow_58 rfl rfl ?_
                obtain ⟨hr371, h⟩ := ts_gd h
                refine tv_aaload7 C (pc := 59) dX6_copyRow_59 (ts_live (k := 26) (by decide) (by decide) (by decide)) rfl hr371 (j := p1.toNatClampNeg) rfl (i2 := (27, 0, p1.toNatClampNeg)) rfl ?_
                refine tv_getI C (pc := 60) dX6_copyRow_60 fl_X6_224 (ts_live (k := 27) (by decide) (by decide) (ts_vin hr371)) rfl (cd := 0) rfl (by decide) ?_
                refine tv_aload_n C (pc := 63) dX6_copyRow_63 rfl rfl ?_
                refine tv_getR C (pc := 64) dX6_copyRow_64 fl_X6_38 (ts_live (k := 0) (by decide) (by decide) (by decide)) rfl rfl (i2 := (26, 0, 0)) rfl ?_
                refine tv_iload_n C (pc := 67) dX6_copyRow_67 rfl rfl ?_
                obtain ⟨hr372, h⟩ := ts_gd h
                refine tv_aaload7 C (pc := 68) dX6_copyRow_68 (ts_live (k := 26) (by decide) (by decide) (by decide)) rfl hr372 (j := p2.toNatClampNeg) rfl (i2 := (27, 0, p2.toNatClampNeg)) rfl ?_
                refine tv_getI C (pc := 69) dX6_copyRow_69 fl_X6_224 (ts_live (k := 27) (by decide) (by decide) (ts_vin hr372)) rfl (cd := 0) rfl (by decide) ?_
                refine tv_icmp_ne C (pc := 72) 79 dX6_copyRow_72 (by decide) (fun hc => ?_) (fun hc => ?_)
                · have h := ts_ifn h hc
                  refine tv_iconst C (pc := 79) dX6_copyRow_79 (v := (0 : Int32)) rfl ?_
                  obtain ⟨q373, hq373, h⟩ := ts_bd h
                  have Mq373 := (m_X6_requireArgument (D := D) (dT := dT) (sz := sz) (ad := ad) hl (0 : Int32) u q373 hq373)
                  rcases q373 with v374 | e375
                  · have h := ts_eL h
                    refine tv_callS C (pc := 80) dX6_copyRow_80 yl_X6_43 Mq373 (Nat.le_trans (Nat.le_of_ble_eq_true rfl) hdd) (As := [.inl (.int (0 : Int32))]) rfl ⟨Nat.le_of_ble_eq_true rfl, Nat.le_of_ble_eq_true rfl⟩ (fun _ => Nat.le_of_ble_eq_true rfl) rfl ?_
                    refine tv_aload_n C (pc := 83) dX6_copyRow_83 rfl rfl ?_
                    refine tv_getR C (pc := 84) dX6_copyRow_84 fl_X6_38 (ts_live (k := 0) (by decide) (by decide) (by decide)) rfl rfl (i2 := (26, 0, 0)) rfl ?_
                    refine tv_iload_n C (pc := 87) dX6_copyRow_87 rfl rfl ?_
                    obtain ⟨hr376, h⟩ := ts_gd h
                    refine tv_aaload7 C (pc := 88) dX6_copyRow_88 (ts_live (k := 26) (by decide) (by decide) (by decide)) rfl hr376 (j := p2.toNatClampNeg) rfl (i2 := (27, 0, p2.toNatClampNeg)) rfl ?_
                    refine tv_getI C (pc := 89) dX6_copyRow_89 fl_X6_213 (ts_live (k := 27) (by decide) (by decide) (ts_vin hr376)) rfl (cd := 0) rfl (by decide) ?_
                    refine tv_aload_n C (pc := 92) dX6_copyRow_92 rfl rfl ?_
                    refine tv_getR C (pc := 93) dX6_copyRow_93 fl_X6_38 (ts_live (k := 0) (by decide) (by decide) (by decide)) rfl rfl (i2 := (26, 0, 0)) rfl ?_
                    refine tv_iload_n C (pc := 96) dX6_copyRow_96 rfl rfl ?_
                    obtain ⟨hr377, h⟩ := ts_gd h
                    refine tv_aaload7 C (pc := 97) dX6_copyRow_97 (ts_live (k := 26) (by decide) (by decide) (by decide)) rfl hr377 (j := p1.toNatClampNeg) rfl (i2 := (27, 0, p1.toNatClampNeg)) rfl ?_
                    refine tv_getI C (pc := 98) dX6_copyRow_98 fl_X6_213 (ts_live (k := 27) (by decide) (by decide) (ts_vin hr377)) rfl (cd := 0) rfl (by decide) ?_
                    refine tv_icmp_lt C (pc := 101) 108 dX6_copyRow_101 (by decide) (fun hc => ?_) (fun hc => ?_)
                    · have h := ts_ifp h hc
                      refine tv_iconst C (pc := 108) dX6_copyRow_108 (v := (0 : Int32)) rfl ?_
                      obtain ⟨q378, hq378, h⟩ := ts_bd h
                      have Mq378 := (m_X6_requireElement (D := D) (dT := dT) (sz := sz) (ad := ad) hl (0 : Int32) u q378 hq378)
                      rcases q378 with v379 | e380
                      · have h := ts_eL h
                        refine tv_callS C (pc := 109) dX6_copyRow_109 yl_X6_106 Mq378 (Nat.le_trans (Nat.le_of_ble_eq_true rfl) hdd) (As := [.inl (.int (0 : Int32))]) rfl ⟨Nat.le_of_ble_eq_true rfl, Nat.le_of_ble_eq_true rfl⟩ (fun _ => Nat.le_of_ble_eq_true rfl) rfl ?_
                        refine tv_aload_n C (pc := 112) dX6_copyRow_112 rfl rfl ?_
                        refine tv_getR C (pc := 113) dX6_copyRow_113 fl_X6_38 (ts_live (k := 0) (by decide) (by decide) (by decide)) rfl rfl (i2 := (26, 0, 0)) rfl ?_
                        refine tv_iload_n C (pc := 116) dX6_copyRow_116 rfl rfl ?_
                        obtain ⟨hr381, h⟩ := ts_gd h
                        refine tv_aaload7 C (pc := 117) dX6_copyRow_117 (ts_live (k := 26) (by decide) (by decide) (by decide)) rfl hr381 (j := p2.toNatClampNeg) rfl (i2 := (27, 0, p2.toNatClampNeg)) rfl ?_
                        refine tv_aload_n C (pc := 118) dX6_copyRow_118 rfl rfl ?_
                        refine tv_getR C (pc := 119) dX6_copyRow_119 fl_X6_38 (ts_live (k := 0) (by decide) (by decide) (by decide)) rfl rfl (i2 := (26, 0, 0)) rfl ?_
                        refine tv_iload_n C (pc := 122) dX6_copyRow_122 rfl rfl ?_
                        obtain ⟨hr382, h⟩ := ts_gd h
                        refine tv_aaload7 C (pc := 123) dX6_copyRow_123 (ts_live (k := 26) (by decide) (by decide) (by decide)) rfl hr382 (j := p1.toNatClampNeg) rfl (i2 := (27, 0, p1.toNatClampNeg)) rfl ?_
                        obtain ⟨q383, hq383, h⟩ := ts_bd h
                        refine tv_callV C (pc := 124) dX6_copyRow_124 (ci := 4) (q := (RX4, TX4, 4)) rfl yl_X6_227 (m_X4_takeElements (D := D) (dT := dT) (sz := sz) (ad := ad) hl p2.toNatClampNeg (ts_vin hr381) p1.toNatClampNeg (ts_vin hr382) u q383 hq383) (ts_live (k := 27) (by decide) (by decide) (ts_vin hr381)) rfl (Nat.le_trans (Nat.le_of_ble_eq_true rfl) hdd) (As := [.inr (27, 0, p1.toNatClampNeg)]) rfl ⟨Nat.le_of_ble_eq_true rfl, Nat.le_of_ble_eq_true rfl⟩ (fun _ => Nat.le_of_ble_eq_true rfl) rfl ?_
                        refine tv_aload_n C (pc := 127) dX6_copyRow_127 rfl rfl ?_
                        refine tv_getR C (pc := 128) dX6_copyRow_128 fl_X6_38 (ts_live (k := 0) (by decide) (by decide) (by decide)) rfl rfl (i2 := (26, 0, 0)) rfl ?_
                        refine tv_iload_n C (pc := 131) dX6_copyRow_131 rfl rfl ?_
                        obtain ⟨hr384, h⟩ := ts_gd h
                        refine tv_aaload7 C (pc := 132) dX6_copyRow_132 (ts_live (k := 26) (by decide) (by decide) (by decide)) rfl hr384 (j := p1.toNatClampNeg) rfl (i2 := (27, 0, p1.toNatClampNeg)) rfl ?_
                        refine tv_getI C (pc := 133) dX6_copyRow_133 fl_X6_213 (ts_live (k := 27) (by decide) (by decide) (ts_vin hr384)) rfl (cd := 0) rfl (by decide) ?_
                        cases h
                        exact tv_iret C (pc := 136) rfl dX6_copyRow_136 ⟨Nat.le_of_ble_eq_true rfl, Nat.le_of_ble_eq_true rfl⟩
                      · have h := ts_eR h
                        cases h
                        exact tv_callS_thr C (pc := 109) hX dX6_copyRow_109 yl_X6_106 Mq378 (Nat.le_trans (Nat.le_of_ble_eq_true rfl) hdd) (As := [.inl (.int (0 : Int32))]) rfl ⟨Nat.le_of_ble_eq_true rfl, Nat.le_of_ble_eq_true rfl⟩ (fun _ => Nat.le_of_ble_eq_true rfl) rfl ⟨Nat.le_of_ble_eq_true rfl, Nat.le_of_ble_eq_true rfl⟩
                    · have h := ts_ifn h hc
                      refine tv_iconst C (pc := 104) dX6_copyRow_104 (v := (1 : Int32)) rfl ?_
                      refine tv_goto C (pc := 105) 109 dX6_copyRow_105 (by decide) ?_
                      obtain ⟨q385, hq385, h⟩ := ts_bd h
                      have Mq385 := (m_X6_requireElement (D := D) (dT := dT) (sz := sz) (ad := ad) hl (1 : Int32) u q385 hq385)
                      rcases q385 with v386 | e387
                      · have h := ts_eL h
                        refine tv_callS C (pc := 109) dX6_copyRow_109 yl_X6_106 Mq385 (Nat.le_trans (Nat.le_of_ble_eq_true rfl) hdd) (As := [.inl (.int (1 : Int32))]) rfl ⟨Nat.le_of_ble_eq_true rfl, Nat.le_of_ble_eq_true rfl⟩ (fun _ => Nat.le_of_ble_eq_true rfl) rfl ?_
                        refine tv_aload_n C (pc := 112) dX6_copyRow_112 rfl rfl ?_
                        refine tv_getR C (pc := 113) dX6_copyRow_113 fl_X6_38 (ts_live (k := 0) (by decide) (by decide) (by decide)) rfl rfl (i2 := (26, 0, 0)) rfl ?_
                        refine tv_iload_n C (pc := 116) dX6_copyRow_116 rfl rfl ?_
                        obtain ⟨hr388, h⟩ := ts_gd h
                        refine tv_aaload7 C (pc := 117) dX6_copyRow_117 (ts_live (k := 26) (by decide) (by decide) (by decide)) rfl hr388 (j := p2.toNatClampNeg) rfl (i2 := (27, 0, p2.toNatClampNeg)) rfl ?_
                        refine tv_aload_n C (pc := 118) dX6_copyRow_118 rfl rfl ?_
                        refine tv_getR C (pc := 119) dX6_copyRow_119 fl_X6_38 (ts_live (k := 0) (by decide) (by decide) (by decide)) rfl rfl (i2 := (26, 0, 0)) rfl ?_
                        refine tv_iload_n C (pc := 122) dX6_copyRow_122 rfl rfl ?_
                        obtain ⟨hr389, h⟩ := ts_gd h
                        refine tv_aaload7 C (pc := 123) dX6_copyRow_123 (ts_live (k := 26) (by decide) (by decide) (by decide)) rfl hr389 (j := p1.toNatClampNeg) rfl (i2 := (27, 0, p1.toNatClampNeg)) rfl ?_
                        obtain ⟨q390, hq390, h⟩ := ts_bd h
                        refine tv_callV C (pc := 124) dX6_copyRow_124 (ci := 4) (q := (RX4, TX4, 4)) rfl yl_X6_227 (m_X4_takeElements (D := D) (dT := dT) (sz := sz) (ad := ad) hl p2.toNatClampNeg (ts_vin hr388) p1.toNatClampNeg (ts_vin hr389) u q390 hq390) (ts_live (k := 27) (by decide) (by decide) (ts_vin hr388)) rfl (Nat.le_trans (Nat.le_of_ble_eq_true rfl) hdd) (As := [.inr (27, 0, p1.toNatClampNeg)]) rfl ⟨Nat.le_of_ble_eq_true rfl, Nat.le_of_ble_eq_true rfl⟩ (fun _ => Nat.le_of_ble_eq_true rfl) rfl ?_
                        refine tv_aload_n C (pc := 127) dX6_copyRow_127 rfl rfl ?_
                        refine tv_getR C (pc := 128) dX6_copyRow_128 fl_X6_38 (ts_live (k := 0) (by decide) (by decide) (by decide)) rfl rfl (i2 := (26, 0, 0)) rfl ?_
                        refine tv_iload_n C (pc := 131) dX6_copyRow_131 rfl rfl ?_
                        obtain ⟨hr391, h⟩ := ts_gd h
                        refine tv_aaload7 C (pc := 132) dX6_copyRow_132 (ts_live (k := 26) (by decide) (by decide) (by decide)) rfl hr391 (j := p1.toNatClampNeg) rfl (i2 := (27, 0, p1.toNatClampNeg)) rfl ?_
                        refine tv_getI C (pc := 133) dX6_copyRow_133 fl_X6_213 (ts_live (k := 27) (by decide) (by decide) (ts_vin hr391)) rfl (cd := 0) rfl (by decide) ?_
                        cases h
                        exact tv_iret C (pc := 136) rfl dX6_copyRow_136 ⟨Nat.le_of_ble_eq_true rfl, Nat.le_of_ble_eq_true rfl⟩
                      · have h := ts_eR h
                        cases h
                        exact tv_callS_thr C (pc := 109) hX dX6_copyRow_109 yl_X6_106 Mq385 (Nat.le_trans (Nat.le_of_ble_eq_true rfl) hdd) (As := [.inl (.int (1 : Int32))]) rfl ⟨Nat.le_of_ble_eq_true rfl, Nat.le_of_ble_eq_true rfl⟩ (fun _ => Nat.le_of_ble_eq_true rfl) rfl ⟨Nat.le_of_ble_eq_true rfl, Nat.le_of_ble_eq_true rfl⟩
                  · have h := ts_eR h
                    cases h
                    exact tv_callS_thr C (pc := 80) hX dX6_copyRow_80 yl_X6_43 Mq373 (Nat.le_trans (Nat.le_of_ble_eq_true rfl) hdd) (As := [.inl (.int (0 : Int32))]) rfl ⟨Nat.le_of_ble_eq_true rfl, Nat.le_of_ble_eq_true rfl⟩ (fun _ => Nat.le_of_ble_eq_true rfl) rfl ⟨Nat.le_of_ble_eq_true rfl, Nat.le_of_ble_eq_true rfl⟩
                · have h := ts_ifp h hc
                  refine tv_iconst C (pc := 75) dX6_copyRow_75 (v := (1 : Int32)) rfl ?_
                  refine tv_goto C (pc := 76) 80 dX6_copyRow_76 (by decide) ?_
                  obtain ⟨q392, hq392, h⟩ := ts_bd h
                  have Mq392 := (m_X6_requireArgument (D := D) (dT := dT) (sz := sz) (ad := ad) hl (1 : Int32) u q392 hq392)
                  rcases q392 with v393 | e394
                  · have h := ts_eL h
                    refine tv_callS C (pc := 80) dX6_copyRow_80 yl_X6_43 Mq392 (Nat.le_trans (Nat.le_of_ble_eq_true rfl) hdd) (As := [.inl (.int (1 : Int32))]) rfl ⟨Nat.le_of_ble_eq_true rfl, Nat.le_of_ble_eq_true rfl⟩ (fun _ => Nat.le_of_ble_eq_true rfl) rfl ?_
                    refine tv_aload_n C (pc := 83) dX6_copyRow_83 rfl rfl ?_
                    refine tv_getR C (pc := 84) dX6_copyRow_84 fl_X6_38 (ts_live (k := 0) (by decide) (by decide) (by decide)) rfl rfl (i2 := (26, 0, 0)) rfl ?_
                    refine tv_iload_n C (pc := 87) dX6_copyRow_87 rfl rfl ?_
                    obtain ⟨hr395, h⟩ := ts_gd h
                    refine tv_aaload7 C (pc := 88) dX6_copyRow_88 (ts_live (k := 26) (by decide) (by decide) (by decide)) rfl hr395 (j := p2.toNatClampNeg) rfl (i2 := (27, 0, p2.toNatClampNeg)) rfl ?_
                    refine tv_getI C (pc := 89) dX6_copyRow_89 fl_X6_213 (ts_live (k := 27) (by decide) (by decide) (ts_vin hr395)) rfl (cd := 0) rfl (by decide) ?_
                    refine tv_aload_n C (pc := 92) dX6_copyRow_92 rfl rfl ?_
                    refine tv_getR C (pc := 93) dX6_copyRow_93 fl_X6_38 (ts_live (k := 0) (by decide) (by decide) (by decide)) rfl rfl (i2 := (26, 0, 0)) rfl ?_
                    refine tv_iload_n C (pc := 96) dX6_copyRow_96 rfl rfl ?_
                    obtain ⟨hr396, h⟩ := ts_gd h
                    refine tv_aaload7 C (pc := 97) dX6_copyRow_97 (ts_live (k := 26) (by decide) (by decide) (by decide)) rfl hr396 (j := p1.toNatClampNeg) rfl (i2 := (27, 0, p1.toNatClampNeg)) rfl ?_
                    refine tv_getI C (pc := 98) dX6_copyRow_98 fl_X6_213 (ts_live (k := 27) (by decide) (by decide) (ts_vin hr396)) rfl (cd := 0) rfl (by decide) ?_
                    refine tv_icmp_lt C (pc := 101) 108 dX6_copyRow_101 (by decide) (fun hc => ?_) (fun hc => ?_)
                    · have h := ts_ifp h hc
                      refine tv_iconst C (pc := 108) dX6_copyRow_108 (v := (0 : Int32)) rfl ?_
                      obtain ⟨q397, hq397, h⟩ := ts_bd h
                      have Mq397 := (m_X6_requireElement (D := D) (dT := dT) (sz := sz) (ad := ad) hl (0 : Int32) u q397 hq397)
                      rcases q397 with v398 | e399
                      · have h := ts_eL h
                        refine tv_callS C (pc := 109) dX6_copyRow_109 yl_X6_106 Mq397 (Nat.le_trans (Nat.le_of_ble_eq_true rfl) hdd) (As := [.inl (.int (0 : Int32))]) rfl ⟨Nat.le_of_ble_eq_true rfl, Nat.le_of_ble_eq_true rfl⟩ (fun _ => Nat.le_of_ble_eq_true rfl) rfl ?_
                        refine tv_aload_n C (pc := 112) dX6_copyRow_112 rfl rfl ?_
                        refine tv_getR C (pc := 113) dX6_copyRow_113 fl_X6_38 (ts_live (k := 0) (by decide) (by decide) (by decide)) rfl rfl (i2 := (26, 0, 0)) rfl ?_
                        refine tv_iload_n C (pc := 116) dX6_copyRow_116 rfl rfl ?_
                        obtain ⟨hr400, h⟩ := ts_gd h
                        refine tv_aaload7 C (pc := 117) dX6_copyRow_117 (ts_live (k := 26) (by decide) (by decide) (by decide)) rfl hr400 (j := p2.toNatClampNeg) rfl (i2 := (27, 0, p2.toNatClampNeg)) rfl ?_
                        refine tv_aload_n C (pc := 118) dX6_copyRow_118 rfl rfl ?_
                        refine tv_getR C (pc := 119) dX6_copyRow_119 fl_X6_38 (ts_live (k := 0) (by decide) (by decide) (by decide)) rfl rfl (i2 := (26, 0, 0)) rfl ?_
                        refine tv_iload_n C (pc := 122) dX6_copyRow_122 rfl rfl ?_
                        obtain ⟨hr401, h⟩ := ts_gd h
                        refine tv_aaload7 C (pc := 123) dX6_copyRow_123 (ts_live (k := 26) (by decide) (by decide) (by decide)) rfl hr401 (j := p1.toNatClampNeg) rfl (i2 := (27, 0, p1.toNatClampNeg)) rfl ?_
                        obtain ⟨q402, hq402, h⟩ := ts_bd h
                        refine tv_callV C (pc := 124) dX6_copyRow_124 (ci := 4) (q := (RX4, TX4, 4)) rfl yl_X6_227 (m_X4_takeElements (D := D) (dT := dT) (sz := sz) (ad := ad) hl p2.toNatClampNeg (ts_vin hr400) p1.toNatClampNeg (ts_vin hr401) u q402 hq402) (ts_live (k := 27) (by decide) (by decide) (ts_vin hr400)) rfl (Nat.le_trans (Nat.le_of_ble_eq_true rfl) hdd) (As := [.inr (27, 0, p1.toNatClampNeg)]) rfl ⟨Nat.le_of_ble_eq_true rfl, Nat.le_of_ble_eq_true rfl⟩ (fun _ => Nat.le_of_ble_eq_true rfl) rfl ?_
                        refine tv_aload_n C (pc := 127) dX6_copyRow_127 rfl rfl ?_
                        refine tv_getR C (pc := 128) dX6_copyRow_128 fl_X6_38 (ts_live (k := 0) (by decide) (by decide) (by decide)) rfl rfl (i2 := (26, 0, 0)) rfl ?_
                        refine tv_iload_n C (pc := 131) dX6_copyRow_131 rfl rfl ?_
                        obtain ⟨hr403, h⟩ := ts_gd h
                        refine tv_aaload7 C (pc := 132) dX6_copyRow_132 (ts_live (k := 26) (by decide) (by decide) (by decide)) rfl hr403 (j := p1.toNatClampNeg) rfl (i2 := (27, 0, p1.toNatClampNeg)) rfl ?_
                        refine tv_getI C (pc := 133) dX6_copyRow_133 fl_X6_213 (ts_live (k := 27) (by decide) (by decide) (ts_vin hr403)) rfl (cd := 0) rfl (by decide) ?_
                        cases h
                        exact tv_iret C (pc := 136) rfl dX6_copyRow_136 ⟨Nat.le_of_ble_eq_true rfl, Nat.le_of_ble_eq_true rfl⟩
                      · have h := ts_eR h
                        cases h
                        exact tv_callS_thr C (pc := 109) hX dX6_copyRow_109 yl_X6_106 Mq397 (Nat.le_trans (Nat.le_of_ble_eq_true rfl) hdd) (As := [.inl (.int (0 : Int32))]) rfl ⟨Nat.le_of_ble_eq_true rfl, Nat.le_of_ble_eq_true rfl⟩ (fun _ => Nat.le_of_ble_eq_true rfl) rfl ⟨Nat.le_of_ble_eq_true rfl, Nat.le_of_ble_eq_true rfl⟩
                    · have h := ts_ifn h hc
                      refine tv_iconst C (pc := 104) dX6_copyRow_104 (v := (1 : Int32)) rfl ?_
                      refine tv_goto C (pc := 105) 109 dX6_copyRow_105 (by decide) ?_
                      obtain ⟨q404, hq404, h⟩ := ts_bd h
                      have Mq404 := (m_X6_requireElement (D := D) (dT := dT) (sz := sz) (ad := ad) hl (1 : Int32) u q404 hq404)
                      rcases q404 with v405 | e406
                      · have h := ts_eL h
                        refine tv_callS C (pc := 109) dX6_copyRow_109 yl_X6_106 Mq404 (Nat.le_trans (Nat.le_of_ble_eq_true rfl) hdd) (As := [.inl (.int (1 : Int32))]) rfl ⟨Nat.le_of_ble_eq_true rfl, Nat.le_of_ble_eq_true rfl⟩ (fun _ => Nat.le_of_ble_eq_true rfl) rfl ?_
                        refine tv_aload_n C (pc := 112) dX6_copyRow_112 rfl rfl ?_
                        refine tv_getR C (pc := 113) dX6_copyRow_113 fl_X6_38 (ts_live (k := 0) (by decide) (by decide) (by decide)) rfl rfl (i2 := (26, 0, 0)) rfl ?_
                        refine tv_iload_n C (pc := 116) dX6_copyRow_116 rfl rfl ?_
                        obtain ⟨hr407, h⟩ := ts_gd h
                        refine tv_aaload7 C (pc := 117) dX6_copyRow_117 (ts_live (k := 26) (by decide) (by decide) (by decide)) rfl hr407 (j := p2.toNatClampNeg) rfl (i2 := (27, 0, p2.toNatClampNeg)) rfl ?_
                        refine tv_aload_n C (pc := 118) dX6_copyRow_118 rfl rfl ?_
                        refine tv_getR C (pc := 119) dX6_copyRow_119 fl_X6_38 (ts_live (k := 0) (by decide) (by decide) (by decide)) rfl rfl (i2 := (26, 0, 0)) rfl ?_
                        refine tv_iload_n C (pc := 122) dX6_copyRow_122 rfl rfl ?_
                        obtain ⟨hr408, h⟩ := ts_gd h
                        refine tv_aaload7 C (pc := 123) dX6_copyRow_123 (ts_live (k := 26) (by decide) (by decide) (by decide)) rfl hr408 (j := p1.toNatClampNeg) rfl (i2 := (27, 0, p1.toNatClampNeg)) rfl ?_
                        obtain ⟨q409, hq409, h⟩ := ts_bd h
                        refine tv_callV C (pc := 124) dX6_copyRow_124 (ci := 4) (q := (RX4, TX4, 4)) rfl yl_X6_227 (m_X4_takeElements (D := D) (dT := dT) (sz := sz) (ad := ad) hl p2.toNatClampNeg (ts_vin hr407) p1.toNatClampNeg (ts_vin hr408) u q409 hq409) (ts_live (k := 27) (by decide) (by decide) (ts_vin hr407)) rfl (Nat.le_trans (Nat.le_of_ble_eq_true rfl) hdd) (As := [.inr (27, 0, p1.toNatClampNeg)]) rfl ⟨Nat.le_of_ble_eq_true rfl, Nat.le_of_ble_eq_true rfl⟩ (fun _ => Nat.le_of_ble_eq_true rfl) rfl ?_
                        refine tv_aload_n C (pc := 127) dX6_copyRow_127 rfl rfl ?_
                        refine tv_getR C (pc := 128) dX6_copyRow_128 fl_X6_38 (ts_live (k := 0) (by decide) (by decide) (by decide)) rfl rfl (i2 := (26, 0, 0)) rfl ?_
                        refine tv_iload_n C (pc := 131) dX6_copyRow_131 rfl rfl ?_
                        obtain ⟨hr410, h⟩ := ts_gd h
                        refine tv_aaload7 C (pc := 132) dX6_copyRow_132 (ts_live (k := 26) (by decide) (by decide) (by decide)) rfl hr410 (j := p1.toNatClampNeg) rfl (i2 := (27, 0, p1.toNatClampNeg)) rfl ?_
                        refine tv_getI C (pc := 133) dX6_copyRow_133 fl_X6_213 (ts_live (k := 27) (by decide) (by decide) (ts_vin hr410)) rfl (cd := 0) rfl (by decide) ?_
                        cases h
                        exact tv_iret C (pc := 136) rfl dX6_copyRow_136 ⟨Nat.le_of_ble_eq_true rfl, Nat.le_of_ble_eq_true rfl⟩
                      · have h := ts_eR h
                        cases h
                        exact tv_callS_thr C (pc := 109) hX dX6_copyRow_109 yl_X6_106 Mq404 (Nat.le_trans (Nat.le_of_ble_eq_true rfl) hdd) (As := [.inl (.int (1 : Int32))]) rfl ⟨Nat.le_of_ble_eq_true rfl, Nat.le_of_ble_eq_true rfl⟩ (fun _ => Nat.le_of_ble_eq_true rfl) rfl ⟨Nat.le_of_ble_eq_true rfl, Nat.le_of_ble_eq_true rfl⟩
                  · have h := ts_eR h
                    cases h
                    exact tv_callS_thr C (pc := 80) hX dX6_copyRow_80 yl_X6_43 Mq392 (Nat.le_trans (Nat.le_of_ble_eq_true rfl) hdd) (As := [.inl (.int (1 : Int32))]) rfl ⟨Nat.le_of_ble_eq_true rfl, Nat.le_of_ble_eq_true rfl⟩ (fun _ => Nat.le_of_ble_eq_true rfl) rfl ⟨Nat.le_of_ble_eq_true rfl, Nat.le_of_ble_eq_true rfl⟩
              · have h := ts_eR h
                cases h
                exact tv_callS_thr C (pc := 51) hX dX6_copyRow_51 yl_X6_57 Mq368 (Nat.le_trans (Nat.le_of_ble_eq_true rfl) hdd) (As := [.inl (.int (1 : Int32))]) rfl ⟨Nat.le_of_ble_eq_true rfl, Nat.le_of_ble_eq_true rfl⟩ (fun _ => Nat.le_of_ble_eq_true rfl) rfl ⟨Nat.le_of_ble_eq_true rfl, Nat.le_of_ble_eq_true rfl⟩
        · have h := ts_eR h
          cases h
          exact tv_callS_thr C (pc := 19) hX dX6_copyRow_19 yl_X6_71 Mq275 (Nat.le_trans (Nat.le_of_ble_eq_true rfl) hdd) (As := [.inl (.int (1 : Int32))]) rfl ⟨Nat.le_of_ble_eq_true rfl, Nat.le_of_ble_eq_true rfl⟩ (fun _ => Nat.le_of_ble_eq_true rfl) rfl ⟨Nat.le_of_ble_eq_true rfl, Nat.le_of_ble_eq_true rfl⟩
set_option maxRecDepth 100000 in
set_option maxHeartbeats 4000000 in
theorem m_X6_snapshot {l : Launch} {D : va_G} {dT : Nat → ClassId} {sz : Nat} {ad : ts_I → Nat} (hl : l.stackTraces = false)  (u : ts_Mem) (r : (Int32 × ts_Mem)) (h : f_X6_snapshot  u = some r) : ts_M l D dT sz yX6_snapshot wX6_snapshot 2 0 0 ad ts_lv ts_R0 [.inr (0, 0, 0)] u (.inl (some (.int r.1))) r.2 := by
    unfold f_X6_snapshot at h
    refine ts_enter hl (by decide) rfl rfl (Nat.le_of_ble_eq_true rfl) ?_
    intro p e s m args below meth c C hX hnm
    have C : ts_CX D dT sz p l (ts_rm 2 0 0) s m args meth c RX6 cX6_snapshot 1 (some .int) 2 := C
    have hdd : 2 ≤ 2 := Nat.le_refl _
    refine tv_aload_n C (pc := 0) dX6_snapshot_0 rfl rfl ?_
    refine tv_getR C (pc := 1) dX6_snapshot_1 fl_X6_18 (ts_live (k := 0) (by decide) (by decide) (by decide)) rfl rfl (i2 := (1, 1, 0)) rfl ?_
    refine tv_aload_n C (pc := 4) dX6_snapshot_4 rfl rfl ?_
    refine tv_getR C (pc := 5) dX6_snapshot_5 fl_X6_12 (ts_live (k := 0) (by decide) (by decide) (by decide)) rfl rfl (i2 := (1, 0, 0)) rfl ?_
    obtain ⟨q1, hq1, h⟩ := ts_bd h
    refine tv_callV C (pc := 8) dX6_snapshot_8 (ci := 0) (q := (RX0, TX0, 8)) rfl yl_X6_230 (m_X0_copyFrom (D := D) (dT := dT) (sz := sz) (ad := ad) hl 1 (by decide) 0 (by decide) u q1 hq1) (ts_live (k := 1) (by decide) (by decide) (by decide)) rfl (Nat.le_trans (Nat.le_of_ble_eq_true rfl) hdd) (As := [.inr (1, 0, 0)]) rfl ⟨Nat.le_of_ble_eq_true rfl, Nat.le_of_ble_eq_true rfl⟩ (fun _ => Nat.le_of_ble_eq_true rfl) rfl ?_
    refine tv_aload_n C (pc := 11) dX6_snapshot_11 rfl rfl ?_
    refine tv_iconst C (pc := 12) dX6_snapshot_12 (v := (1 : Int32)) rfl ?_
    refine tv_putI C (pc := 13) dX6_snapshot_13 fp_X6_21 (ts_live (k := 0) (by decide) (by decide) (by decide)) rfl (cd := 2) rfl (by decide) rfl rfl ?_
    refine tv_nu (fun u2 hu2 => ?_)
    have h := ts_lt h hu2
    refine tv_aload_n C (pc := 16) dX6_snapshot_16 rfl rfl ?_
    refine tv_getR C (pc := 17) dX6_snapshot_17 fl_X6_12 (ts_live (k := 0) (by decide) (by decide) (by decide)) rfl rfl (i2 := (1, 0, 0)) rfl ?_
    refine tv_getI C (pc := 20) dX6_snapshot_20 fl_X6_54 (ts_live (k := 1) (by decide) (by decide) (by decide)) rfl (cd := 0) rfl (by decide) ?_
    cases h
    exact tv_iret C (pc := 23) rfl dX6_snapshot_23 ⟨Nat.le_of_ble_eq_true rfl, Nat.le_of_ble_eq_true rfl⟩
set_option maxRecDepth 100000 in
set_option maxHeartbeats 4000000 in
theorem m_X6_restore {l : Launch} {D : va_G} {dT : Nat → ClassId} {sz : Nat} {ad : ts_I → Nat} (hl : l.stackTraces = false)  (u : ts_Mem) (r : ((Int32 ⊕ String) × ts_Mem)) (h : f_X6_restore  u = some r) : ts_M l D dT sz yX6_restore wX6_restore 2 1 6 ad ts_lv ts_R0 [.inr (0, 0, 0)] u (ts_oI r.1) r.2 := by
    unfold f_X6_restore at h
    refine ts_enter hl (by decide) rfl rfl (Nat.le_of_ble_eq_true rfl) ?_
    intro p e s m args below meth c C hX hnm
    have C : ts_CX D dT sz p l (ts_rm 2 1 6) s m args meth c RX6 cX6_restore 1 (some .int) 2 := C
    have hdd : 2 ≤ 2 := Nat.le_refl _
    refine tv_aload_n C (pc := 0) dX6_restore_0 rfl rfl ?_
    refine tv_getI C (pc := 1) dX6_restore_1 fl_X6_21 (ts_live (k := 0) (by decide) (by decide) (by decide)) rfl (cd := 2) rfl (by decide) ?_
    obtain ⟨q1, hq1, h⟩ := ts_bd h
    have Mq1 := (m_X6_requireState (D := D) (dT := dT) (sz := sz) (ad := ad) hl (ts_gI u (0, 0, 0) 2) u q1 hq1)
    rcases q1 with v2 | e3
    · have h := ts_eL h
      refine tv_callS C (pc := 4) dX6_restore_4 yl_X6_57 Mq1 (Nat.le_trans (Nat.le_of_ble_eq_true rfl) hdd) (As := [.inl (.int (ts_gI u (0, 0, 0) 2))]) rfl ⟨Nat.le_of_ble_eq_true rfl, Nat.le_of_ble_eq_true rfl⟩ (fun _ => Nat.le_of_ble_eq_true rfl) rfl ?_
      refine tv_aload_n C (pc := 7) dX6_restore_7 rfl rfl ?_
      refine tv_getR C (pc := 8) dX6_restore_8 fl_X6_12 (ts_live (k := 0) (by decide) (by decide) (by decide)) rfl rfl (i2 := (1, 0, 0)) rfl ?_
      refine tv_aload_n C (pc := 11) dX6_restore_11 rfl rfl ?_
      refine tv_getR C (pc := 12) dX6_restore_12 fl_X6_18 (ts_live (k := 0) (by decide) (by decide) (by decide)) rfl rfl (i2 := (1, 1, 0)) rfl ?_
      obtain ⟨q4, hq4, h⟩ := ts_bd h
      refine tv_callV C (pc := 15) dX6_restore_15 (ci := 0) (q := (RX0, TX0, 8)) rfl yl_X6_230 (m_X0_copyFrom (D := D) (dT := dT) (sz := sz) (ad := ad) hl 0 (by decide) 1 (by decide) u q4 hq4) (ts_live (k := 1) (by decide) (by decide) (by decide)) rfl (Nat.le_trans (Nat.le_of_ble_eq_true rfl) hdd) (As := [.inr (1, 1, 0)]) rfl ⟨Nat.le_of_ble_eq_true rfl, Nat.le_of_ble_eq_true rfl⟩ (fun _ => Nat.le_of_ble_eq_true rfl) rfl ?_
      refine tv_aload_n C (pc := 18) dX6_restore_18 rfl rfl ?_
      refine tv_getR C (pc := 19) dX6_restore_19 fl_X6_12 (ts_live (k := 0) (by decide) (by decide) (by decide)) rfl rfl (i2 := (1, 0, 0)) rfl ?_
      refine tv_getI C (pc := 22) dX6_restore_22 fl_X6_54 (ts_live (k := 1) (by decide) (by decide) (by decide)) rfl (cd := 0) rfl (by decide) ?_
      cases h
      exact tv_iret C (pc := 25) rfl dX6_restore_25 ⟨Nat.le_of_ble_eq_true rfl, Nat.le_of_ble_eq_true rfl⟩
    · have h := ts_eR h
      cases h
      exact tv_callS_thr C (pc := 4) hX dX6_restore_4 yl_X6_57 Mq1 (Nat.le_trans (Nat.le_of_ble_eq_true rfl) hdd) (As := [.inl (.int (ts_gI u (0, 0, 0) 2))]) rfl ⟨Nat.le_of_ble_eq_true rfl, Nat.le_of_ble_eq_true rfl⟩ (fun _ => Nat.le_of_ble_eq_true rfl) rfl ⟨Nat.le_of_ble_eq_true rfl, Nat.le_of_ble_eq_true rfl⟩
