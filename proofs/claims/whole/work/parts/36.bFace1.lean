set_option maxRecDepth 100000 in
set_option maxHeartbeats 4000000 in
theorem m_X6_version {l : Launch} {D : va_G} {dT : Nat → ClassId} {sz : Nat} {ad : ts_I → Nat} (hl : l.stackTraces = false) (p1 : Int32) (p2 : Int32) (p3 : Int32) (u : ts_Mem) (r : (Int32 ⊕ String)) (h : f_X6_version p1 p2 p3 u = some r) : ts_M l D dT sz yX6_version wX6_version 2 3 18 ad ts_lv ts_R0 [.inr (0, 0, 0), .inl (.int p1), .inl (.int p2), .inl (.int p3)] u (ts_oI r) u := by
    unfold f_X6_version at h
    refine ts_enter hl (by decide) rfl rfl (Nat.le_of_ble_eq_true rfl) ?_
    intro p e s m args below meth c C hX hnm
    have C : ts_CX D dT sz p l (ts_rm 2 3 18) s m args meth c RX6 cX6_version 4 (some .int) 2 := C
    have hdd : 2 ≤ 2 := Nat.le_refl _
    refine tv_iload_n C (pc := 0) dX6_version_0 rfl rfl ?_
    obtain ⟨q1, hq1, h⟩ := ts_bd h
    refine tv_callS C (pc := 1) dX6_version_1 yl_X6_68 (m_X6_isItem (D := D) (dT := dT) (sz := sz) (ad := ad) hl p1 u q1 hq1) (Nat.le_trans (Nat.le_of_ble_eq_true rfl) hdd) (As := [.inl (.int p1)]) rfl ⟨Nat.le_of_ble_eq_true rfl, Nat.le_of_ble_eq_true rfl⟩ (fun _ => Nat.le_of_ble_eq_true rfl) rfl ?_
    obtain ⟨q2, hq2, h⟩ := ts_bd h
    have Mq2 := (m_X6_requireIndex (D := D) (dT := dT) (sz := sz) (ad := ad) hl q1 u q2 hq2)
    rcases q2 with v3 | e4
    · have h := ts_eL h
      refine tv_callS C (pc := 4) dX6_version_4 yl_X6_71 Mq2 (Nat.le_trans (Nat.le_of_ble_eq_true rfl) hdd) (As := [.inl (.int q1)]) rfl ⟨Nat.le_of_ble_eq_true rfl, Nat.le_of_ble_eq_true rfl⟩ (fun _ => Nat.le_of_ble_eq_true rfl) rfl ?_
      refine tv_iload_n C (pc := 7) dX6_version_7 rfl rfl ?_
      refine tv_if_lt C (pc := 8) 31 dX6_version_8 (by decide) (fun hc => ?_) (fun hc => ?_)
      · have h := ts_ifp h hc
        refine tv_iconst C (pc := 31) dX6_version_31 (v := (0 : Int32)) rfl ?_
        obtain ⟨q5, hq5, h⟩ := ts_bd h
        have Mq5 := (m_X6_requireIndex (D := D) (dT := dT) (sz := sz) (ad := ad) hl (0 : Int32) u q5 hq5)
        rcases q5 with v6 | e7
        · have h := ts_eL h
          refine tv_callS C (pc := 32) dX6_version_32 yl_X6_71 Mq5 (Nat.le_trans (Nat.le_of_ble_eq_true rfl) hdd) (As := [.inl (.int (0 : Int32))]) rfl ⟨Nat.le_of_ble_eq_true rfl, Nat.le_of_ble_eq_true rfl⟩ (fun _ => Nat.le_of_ble_eq_true rfl) rfl ?_
          refine tv_iload_n C (pc := 35) dX6_version_35 rfl rfl ?_
          refine tv_if_lt C (pc := 36) 48 dX6_version_36 (by decide) (fun hc => ?_) (fun hc => ?_)
          · have h := ts_ifp h hc
            refine tv_iconst C (pc := 48) dX6_version_48 (v := (0 : Int32)) rfl ?_
            obtain ⟨q8, hq8, h⟩ := ts_bd h
            have Mq8 := (m_X6_requireArgument (D := D) (dT := dT) (sz := sz) (ad := ad) hl (0 : Int32) u q8 hq8)
            rcases q8 with v9 | e10
            · have h := ts_eL h
              refine tv_callS C (pc := 49) dX6_version_49 yl_X6_43 Mq8 (Nat.le_trans (Nat.le_of_ble_eq_true rfl) hdd) (As := [.inl (.int (0 : Int32))]) rfl ⟨Nat.le_of_ble_eq_true rfl, Nat.le_of_ble_eq_true rfl⟩ (fun _ => Nat.le_of_ble_eq_true rfl) rfl ?_
              refine tv_iload_n C (pc := 52) dX6_version_52 rfl rfl ?_
              refine tv_iconst C (pc := 53) dX6_version_53 (v := (4 : Int32)) rfl ?_
              refine tv_icmp_ne C (pc := 54) 87 dX6_version_54 (by decide) (fun hc => ?_) (fun hc => ?_)
              · have h := ts_ifn h hc
                refine tv_aload_n C (pc := 87) dX6_version_87 rfl rfl ?_
                refine tv_getR C (pc := 88) dX6_version_88 fl_X6_12 (ts_live (k := 0) (by decide) (by decide) (by decide)) rfl rfl (i2 := (1, 0, 0)) rfl ?_
                refine tv_getR C (pc := 91) dX6_version_91 fl_X6_142 (ts_live (k := 1) (by decide) (by decide) (by decide)) rfl rfl (i2 := (3, 0, 0)) rfl ?_
                refine tv_iload_n C (pc := 94) dX6_version_94 rfl rfl ?_
                obtain ⟨hr11, h⟩ := ts_gd h
                refine tv_aaload6 C (pc := 95) dX6_version_95 (ts_live (k := 3) (by decide) (by decide) (by decide)) rfl hr11 (j := p1.toNatClampNeg) rfl (i2 := (16, 0, p1.toNatClampNeg)) rfl ?_
                refine tv_iload_n C (pc := 96) dX6_version_96 rfl rfl ?_
                refine tv_iload_n C (pc := 97) dX6_version_97 rfl rfl ?_
                obtain ⟨q12, hq12, h⟩ := ts_bd h
                refine tv_callV C (pc := 98) dX6_version_98 (ci := 1) (q := (RX1, TX1, 5)) rfl yl_X6_158 (m_X1_versionNumber (D := D) (dT := dT) (sz := sz) (ad := ad) hl 0 (by decide) p1.toNatClampNeg (ts_vin hr11) p2 p3 u q12 hq12) (ts_live (k := 16) (by decide) (by decide) (ts_vin hr11)) rfl (Nat.le_trans (Nat.le_of_ble_eq_true rfl) hdd) (As := [.inl (.int p2), .inl (.int p3)]) rfl ⟨Nat.le_of_ble_eq_true rfl, Nat.le_of_ble_eq_true rfl⟩ (fun _ => Nat.le_of_ble_eq_true rfl) rfl ?_
                cases h
                exact tv_iret C (pc := 101) rfl dX6_version_101 ⟨Nat.le_of_ble_eq_true rfl, Nat.le_of_ble_eq_true rfl⟩
              · have h := ts_ifp h hc
                refine tv_aload_n C (pc := 57) dX6_version_57 rfl rfl ?_
                refine tv_getR C (pc := 58) dX6_version_58 fl_X6_12 (ts_live (k := 0) (by decide) (by decide) (by decide)) rfl rfl (i2 := (1, 0, 0)) rfl ?_
                refine tv_aload_n C (pc := 61) dX6_version_61 rfl rfl ?_
                refine tv_getR C (pc := 62) dX6_version_62 fl_X6_12 (ts_live (k := 0) (by decide) (by decide) (by decide)) rfl rfl (i2 := (1, 0, 0)) rfl ?_
                refine tv_getR C (pc := 65) dX6_version_65 fl_X6_142 (ts_live (k := 1) (by decide) (by decide) (by decide)) rfl rfl (i2 := (3, 0, 0)) rfl ?_
                refine tv_iload_n C (pc := 68) dX6_version_68 rfl rfl ?_
                obtain ⟨hr13, h⟩ := ts_gd h
                refine tv_aaload6 C (pc := 69) dX6_version_69 (ts_live (k := 3) (by decide) (by decide) (by decide)) rfl hr13 (j := p1.toNatClampNeg) rfl (i2 := (16, 0, p1.toNatClampNeg)) rfl ?_
                refine tv_getR C (pc := 70) dX6_version_70 fl_X6_151 (ts_live (k := 16) (by decide) (by decide) (ts_vin hr13)) rfl rfl (i2 := (20, 0, p1.toNatClampNeg)) rfl ?_
                refine tv_iload_n C (pc := 73) dX6_version_73 rfl rfl ?_
                obtain ⟨hr14, h⟩ := ts_gd h
                refine tv_iaload C (pc := 74) dX6_version_74 (ts_live (k := 20) (by decide) (by decide) (ts_vin hr13)) rfl hr14 (j := p2.toNatClampNeg) rfl ?_
                obtain ⟨q15, hq15, h⟩ := ts_bd h
                refine tv_callV C (pc := 75) dX6_version_75 (ci := 0) (q := (RX0, TX0, 8)) rfl yl_X6_155 (m_X0_isUncommittedWriter (D := D) (dT := dT) (sz := sz) (ad := ad) hl 0 (by decide) (ts_gI u (20, 0, p1.toNatClampNeg) p2.toNatClampNeg) u q15 hq15) (ts_live (k := 1) (by decide) (by decide) (by decide)) rfl (Nat.le_trans (Nat.le_of_ble_eq_true rfl) hdd) (As := [.inl (.int (ts_gI u (20, 0, p1.toNatClampNeg) p2.toNatClampNeg))]) rfl ⟨Nat.le_of_ble_eq_true rfl, Nat.le_of_ble_eq_true rfl⟩ (fun _ => Nat.le_of_ble_eq_true rfl) rfl ?_
                refine tv_if_eq C (pc := 78) 85 dX6_version_78 (by decide) (fun hc => ?_) (fun hc => ?_)
                · have h := ts_ifp h hc
                  refine tv_iconst C (pc := 85) dX6_version_85 (v := (1 : Int32)) rfl ?_
                  cases h
                  exact tv_iret C (pc := 86) rfl dX6_version_86 ⟨Nat.le_of_ble_eq_true rfl, Nat.le_of_ble_eq_true rfl⟩
                · have h := ts_ifn h hc
                  refine tv_iconst C (pc := 81) dX6_version_81 (v := (0 : Int32)) rfl ?_
                  refine tv_goto C (pc := 82) 86 dX6_version_82 (by decide) ?_
                  cases h
                  exact tv_iret C (pc := 86) rfl dX6_version_86 ⟨Nat.le_of_ble_eq_true rfl, Nat.le_of_ble_eq_true rfl⟩
            · have h := ts_eR h
              cases h
              exact tv_callS_thr C (pc := 49) hX dX6_version_49 yl_X6_43 Mq8 (Nat.le_trans (Nat.le_of_ble_eq_true rfl) hdd) (As := [.inl (.int (0 : Int32))]) rfl ⟨Nat.le_of_ble_eq_true rfl, Nat.le_of_ble_eq_true rfl⟩ (fun _ => Nat.le_of_ble_eq_true rfl) rfl ⟨Nat.le_of_ble_eq_true rfl, Nat.le_of_ble_eq_true rfl⟩
          · have h := ts_ifn h hc
            refine tv_iload_n C (pc := 39) dX6_version_39 rfl rfl ?_
            refine tv_iconst C (pc := 40) dX6_version_40 (v := (4 : Int32)) rfl ?_
            refine tv_icmp_gt C (pc := 41) 48 dX6_version_41 (by decide) (fun hc => ?_) (fun hc => ?_)
            · have h := ts_ifp h hc
              refine tv_iconst C (pc := 48) dX6_version_48 (v := (0 : Int32)) rfl ?_
              obtain ⟨q16, hq16, h⟩ := ts_bd h
              have Mq16 := (m_X6_requireArgument (D := D) (dT := dT) (sz := sz) (ad := ad) hl (0 : Int32) u q16 hq16)
              rcases q16 with v17 | e18
              · have h := ts_eL h
                refine tv_callS C (pc := 49) dX6_version_49 yl_X6_43 Mq16 (Nat.le_trans (Nat.le_of_ble_eq_true rfl) hdd) (As := [.inl (.int (0 : Int32))]) rfl ⟨Nat.le_of_ble_eq_true rfl, Nat.le_of_ble_eq_true rfl⟩ (fun _ => Nat.le_of_ble_eq_true rfl) rfl ?_
                refine tv_iload_n C (pc := 52) dX6_version_52 rfl rfl ?_
                refine tv_iconst C (pc := 53) dX6_version_53 (v := (4 : Int32)) rfl ?_
                refine tv_icmp_ne C (pc := 54) 87 dX6_version_54 (by decide) (fun hc => ?_) (fun hc => ?_)
                · have h := ts_ifn h hc
                  refine tv_aload_n C (pc := 87) dX6_version_87 rfl rfl ?_
                  refine tv_getR C (pc := 88) dX6_version_88 fl_X6_12 (ts_live (k := 0) (by decide) (by decide) (by decide)) rfl rfl (i2 := (1, 0, 0)) rfl ?_
                  refine tv_getR C (pc := 91) dX6_version_91 fl_X6_142 (ts_live (k := 1) (by decide) (by decide) (by decide)) rfl rfl (i2 := (3, 0, 0)) rfl ?_
                  refine tv_iload_n C (pc := 94) dX6_version_94 rfl rfl ?_
                  obtain ⟨hr19, h⟩ := ts_gd h
                  refine tv_aaload6 C (pc := 95) dX6_version_95 (ts_live (k := 3) (by decide) (by decide) (by decide)) rfl hr19 (j := p1.toNatClampNeg) rfl (i2 := (16, 0, p1.toNatClampNeg)) rfl ?_
                  refine tv_iload_n C (pc := 96) dX6_version_96 rfl rfl ?_
                  refine tv_iload_n C (pc := 97) dX6_version_97 rfl rfl ?_
                  obtain ⟨q20, hq20, h⟩ := ts_bd h
                  refine tv_callV C (pc := 98) dX6_version_98 (ci := 1) (q := (RX1, TX1, 5)) rfl yl_X6_158 (m_X1_versionNumber (D := D) (dT := dT) (sz := sz) (ad := ad) hl 0 (by decide) p1.toNatClampNeg (ts_vin hr19) p2 p3 u q20 hq20) (ts_live (k := 16) (by decide) (by decide) (ts_vin hr19)) rfl (Nat.le_trans (Nat.le_of_ble_eq_true rfl) hdd) (As := [.inl (.int p2), .inl (.int p3)]) rfl ⟨Nat.le_of_ble_eq_true rfl, Nat.le_of_ble_eq_true rfl⟩ (fun _ => Nat.le_of_ble_eq_true rfl) rfl ?_
                  cases h
                  exact tv_iret C (pc := 101) rfl dX6_version_101 ⟨Nat.le_of_ble_eq_true rfl, Nat.le_of_ble_eq_true rfl⟩
                · have h := ts_ifp h hc
                  refine tv_aload_n C (pc := 57) dX6_version_57 rfl rfl ?_
                  refine tv_getR C (pc := 58) dX6_version_58 fl_X6_12 (ts_live (k := 0) (by decide) (by decide) (by decide)) rfl rfl (i2 := (1, 0, 0)) rfl ?_
                  refine tv_aload_n C (pc := 61) dX6_version_61 rfl rfl ?_
                  refine tv_getR C (pc := 62) dX6_version_62 fl_X6_12 (ts_live (k := 0) (by decide) (by decide) (by decide)) rfl rfl (i2 := (1, 0, 0)) rfl ?_
                  refine tv_getR C (pc := 65) dX6_version_65 fl_X6_142 (ts_live (k := 1) (by decide) (by decide) (by decide)) rfl rfl (i2 := (3, 0, 0)) rfl ?_
                  refine tv_iload_n C (pc := 68) dX6_version_68 rfl rfl ?_
                  obtain ⟨hr21, h⟩ := ts_gd h
                  refine tv_aaload6 C (pc := 69) dX6_version_69 (ts_live (k := 3) (by decide) (by decide) (by decide)) rfl hr21 (j := p1.toNatClampNeg) rfl (i2 := (16, 0, p1.toNatClampNeg)) rfl ?_
                  refine tv_getR C (pc := 70) dX6_version_70 fl_X6_151 (ts_live (k := 16) (by decide) (by decide) (ts_vin hr21)) rfl rfl (i2 := (20, 0, p1.toNatClampNeg)) rfl ?_
                  refine tv_iload_n C (pc := 73) dX6_version_73 rfl rfl ?_
                  obtain ⟨hr22, h⟩ := ts_gd h
                  refine tv_iaload C (pc := 74) dX6_version_74 (ts_live (k := 20) (by decide) (by decide) (ts_vin hr21)) rfl hr22 (j := p2.toNatClampNeg) rfl ?_
                  obtain ⟨q23, hq23, h⟩ := ts_bd h
                  refine tv_callV C (pc := 75) dX6_version_75 (ci := 0) (q := (RX0, TX0, 8)) rfl yl_X6_155 (m_X0_isUncommittedWriter (D := D) (dT := dT) (sz := sz) (ad := ad) hl 0 (by decide) (ts_gI u (20, 0, p1.toNatClampNeg) p2.toNatClampNeg) u q23 hq23) (ts_live (k := 1) (by decide) (by decide) (by decide)) rfl (Nat.le_trans (Nat.le_of_ble_eq_true rfl) hdd) (As := [.inl (.int (ts_gI u (20, 0, p1.toNatClampNeg) p2.toNatClampNeg))]) rfl ⟨Nat.le_of_ble_eq_true rfl, Nat.le_of_ble_eq_true rfl⟩ (fun _ => Nat.le_of_ble_eq_true rfl) rfl ?_
                  refine tv_if_eq C (pc := 78) 85 dX6_version_78 (by decide) (fun hc => ?_) (fun hc => ?_)
                  · have h := ts_ifp h hc
                    refine tv_iconst C (pc := 85) dX6_version_85 (v := (1 : Int32)) rfl ?_
                    cases h
                    exact tv_iret C (pc := 86) rfl dX6_version_86 ⟨Nat.le_of_ble_eq_true rfl, Nat.le_of_ble_eq_true rfl⟩
                  · have h := ts_ifn h hc
                    refine tv_iconst C (pc := 81) dX6_version_81 (v := (0 : Int32)) rfl ?_
                    refine tv_goto C (pc := 82) 86 dX6_version_82 (by decide) ?_
                    cases h
                    exact tv_iret C (pc := 86) rfl dX6_version_86 ⟨Nat.le_of_ble_eq_true rfl, Nat.le_of_ble_eq_true rfl⟩
              · have h := ts_eR h
                cases h
                exact tv_callS_thr C (pc := 49) hX dX6_version_49 yl_X6_43 Mq16 (Nat.le_trans (Nat.le_of_ble_eq_true rfl) hdd) (As := [.inl (.int (0 : Int32))]) rfl ⟨Nat.le_of_ble_eq_true rfl, Nat.le_of_ble_eq_true rfl⟩ (fun _ => Nat.le_of_ble_eq_true rfl) rfl ⟨Nat.le_of_ble_eq_true rfl, Nat.le_of_ble_eq_true rfl⟩
            · have h := ts_ifn h hc
              refine tv_iconst C (pc := 44) dX6_version_44 (v := (1 : Int32)) rfl ?_
              refine tv_goto C (pc := 45) 49 dX6_version_45 (by decide) ?_
              obtain ⟨q24, hq24, h⟩ := ts_bd h
              have Mq24 := (m_X6_requireArgument (D := D) (dT := dT) (sz := sz) (ad := ad) hl (1 : Int32) u q24 hq24)
              rcases q24 with v25 | e26
              · have h := ts_eL h
                refine tv_callS C (pc := 49) dX6_version_49 yl_X6_43 Mq24 (Nat.le_trans (Nat.le_of_ble_eq_true rfl) hdd) (As := [.inl (.int (1 : Int32))]) rfl ⟨Nat.le_of_ble_eq_true rfl, Nat.le_of_ble_eq_true rfl⟩ (fun _ => Nat.le_of_ble_eq_true rfl) rfl ?_
                refine tv_iload_n C (pc := 52) dX6_version_52 rfl rfl ?_
                refine tv_iconst C (pc := 53) dX6_version_53 (v := (4 : Int32)) rfl ?_
                refine tv_icmp_ne C (pc := 54) 87 dX6_version_54 (by decide) (fun hc => ?_) (fun hc => ?_)
                · have h := ts_ifn h hc
                  refine tv_aload_n C (pc := 87) dX6_version_87 rfl rfl ?_
                  refine tv_getR C (pc := 88) dX6_version_88 fl_X6_12 (ts_live (k := 0) (by decide) (by decide) (by decide)) rfl rfl (i2 := (1, 0, 0)) rfl ?_
                  refine tv_getR C (pc := 91) dX6_version_91 fl_X6_142 (ts_live (k := 1) (by decide) (by decide) (by decide)) rfl rfl (i2 := (3, 0, 0)) rfl ?_
                  refine tv_iload_n C (pc := 94) dX6_version_94 rfl rfl ?_
                  obtain ⟨hr27, h⟩ := ts_gd h
                  refine tv_aaload6 C (pc := 95) dX6_version_95 (ts_live (k := 3) (by decide) (by decide) (by decide)) rfl hr27 (j := p1.toNatClampNeg) rfl (i2 := (16, 0, p1.toNatClampNeg)) rfl ?_
                  refine tv_iload_n C (pc := 96) dX6_version_96 rfl rfl ?_
                  refine tv_iload_n C (pc := 97) dX6_version_97 rfl rfl ?_
                  obtain ⟨q28, hq28, h⟩ := ts_bd h
                  refine tv_callV C (pc := 98) dX6_version_98 (ci := 1) (q := (RX1, TX1, 5)) rfl yl_X6_158 (m_X1_versionNumber (D := D) (dT := dT) (sz := sz) (ad := ad) hl 0 (by decide) p1.toNatClampNeg (ts_vin hr27) p2 p3 u q28 hq28) (ts_live (k := 16) (by decide) (by decide) (ts_vin hr27)) rfl (Nat.le_trans (Nat.le_of_ble_eq_true rfl) hdd) (As := [.inl (.int p2), .inl (.int p3)]) rfl ⟨Nat.le_of_ble_eq_true rfl, Nat.le_of_ble_eq_true rfl⟩ (fun _ => Nat.le_of_ble_eq_true rfl) rfl ?_
                  cases h
                  exact tv_iret C (pc := 101) rfl dX6_version_101 ⟨Nat.le_of_ble_eq_true rfl, Nat.le_of_ble_eq_true rfl⟩
                · have h := ts_ifp h hc
                  refine tv_aload_n C (pc := 57) dX6_version_57 rfl rfl ?_
                  refine tv_getR C (pc := 58) dX6_version_58 fl_X6_12 (ts_live (k := 0) (by decide) (by decide) (by decide)) rfl rfl (i2 := (1, 0, 0)) rfl ?_
                  refine tv_aload_n C (pc := 61) dX6_version_61 rfl rfl ?_
                  refine tv_getR C (pc := 62) dX6_version_62 fl_X6_12 (ts_live (k := 0) (by decide) (by decide) (by decide)) rfl rfl (i2 := (1, 0, 0)) rfl ?_
                  refine tv_getR C (pc := 65) dX6_version_65 fl_X6_142 (ts_live (k := 1) (by decide) (by decide) (by decide)) rfl rfl (i2 := (3, 0, 0)) rfl ?_
                  refine tv_iload_n C (pc := 68) dX6_version_68 rfl rfl ?_
                  obtain ⟨hr29, h⟩ := ts_gd h
                  refine tv_aaload6 C (pc := 69) dX6_version_69 (ts_live (k := 3) (by decide) (by decide) (by decide)) rfl hr29 (j := p1.toNatClampNeg) rfl (i2 := (16, 0, p1.toNatClampNeg)) rfl ?_
                  refine tv_getR C (pc := 70) dX6_version_70 fl_X6_151 (ts_live (k := 16) (by decide) (by decide) (ts_vin hr29)) rfl rfl (i2 := (20, 0, p1.toNatClampNeg)) rfl ?_
                  refine tv_iload_n C (pc := 73) dX6_version_73 rfl rfl ?_
                  obtain ⟨hr30, h⟩ := ts_gd h
                  refine tv_iaload C (pc := 74) dX6_version_74 (ts_live (k := 20) (by decide) (by decide) (ts_vin hr29)) rfl hr30 (j := p2.toNatClampNeg) rfl ?_
                  obtain ⟨q31, hq31, h⟩ := ts_bd h
                  refine tv_callV C (pc := 75) dX6_version_75 (ci := 0) (q := (RX0, TX0, 8)) rfl yl_X6_155 (m_X0_isUncommittedWriter (D := D) (dT := dT) (sz := sz) (ad := ad) hl 0 (by decide) (ts_gI u (20, 0, p1.toNatClampNeg) p2.toNatClampNeg) u q31 hq31) (ts_live (k := 1) (by decide) (by decide) (by decide)) rfl (Nat.le_trans (Nat.le_of_ble_eq_true rfl) hdd) (As := [.inl (.int (ts_gI u (20, 0, p1.toNatClampNeg) p2.toNatClampNeg))]) rfl ⟨Nat.le_of_ble_eq_true rfl, Nat.le_of_ble_eq_true rfl⟩ (fun _ => Nat.le_of_ble_eq_true rfl) rfl ?_
                  refine tv_if_eq C (pc := 78) 85 dX6_version_78 (by decide) (fun hc => ?_) (fun hc => ?_)
                  · have h := ts_ifp h hc
                    refine tv_iconst C (pc := 85) dX6_version_85 (v := (1 : Int32)) rfl ?_
                    cases h
                    exact tv_iret C (pc := 86) rfl dX6_version_86 ⟨Nat.le_of_ble_eq_true rfl, Nat.le_of_ble_eq_true rfl⟩
                  · have h := ts_ifn h hc
                    refine tv_iconst C (pc := 81) dX6_version_81 (v := (0 : Int32)) rfl ?_
                    refine tv_goto C (pc := 82) 86 dX6_version_82 (by decide) ?_
                    cases h
                    exact tv_iret C (pc := 86) rfl dX6_version_86 ⟨Nat.le_of_ble_eq_true rfl, Nat.le_of_ble_eq_true rfl⟩
              · have h := ts_eR h
                cases h
                exact tv_callS_thr C (pc := 49) hX dX6_version_49 yl_X6_43 Mq24 (Nat.le_trans (Nat.le_of_ble_eq_true rfl) hdd) (As := [.inl (.int (1 : Int32))]) rfl ⟨Nat.le_of_ble_eq_true rfl, Nat.le_of_ble_eq_true rfl⟩ (fun _ => Nat.le_of_ble_eq_true rfl) rfl ⟨Nat.le_of_ble_eq_true rfl, Nat.le_of_ble_eq_true rfl⟩
        · have h := ts_eR h
          cases h
          exact tv_callS_thr C (pc := 32) hX dX6_version_32 yl_X6_71 Mq5 (Nat.le_trans (Nat.le_of_ble_eq_true rfl) hdd) (As := [.inl (.int (0 : Int32))]) rfl ⟨Nat.le_of_ble_eq_true rfl, Nat.le_of_ble_eq_true rfl⟩ (fun _ => Nat.le_of_ble_eq_true rfl) rfl ⟨Nat.le_of_ble_eq_true rfl, Nat.le_of_ble_eq_true rfl⟩
      · have h := ts_ifn h hc
        refine tv_iload_n C (pc := 11) dX6_version_11 rfl rfl ?_
        refine tv_aload_n C (pc := 12) dX6_version_12 rfl rfl ?_
        refine tv_getR C (pc := 13) dX6_version_13 fl_X6_12 (ts_live (k := 0) (by decide) (by decide) (by decide)) rfl rfl (i2 := (1, 0, 0)) rfl ?_
        refine tv_getR C (pc := 16) dX6_version_16 fl_X6_142 (ts_live (k := 1) (by decide) (by decide) (by decide)) rfl rfl (i2 := (3, 0, 0)) rfl ?_
        refine tv_iload_n C (pc := 19) dX6_version_19 rfl rfl ?_
        obtain ⟨hr32, h⟩ := ts_gd h
        refine tv_aaload6 C (pc := 20) dX6_version_20 (ts_live (k := 3) (by decide) (by decide) (by decide)) rfl hr32 (j := p1.toNatClampNeg) rfl (i2 := (16, 0, p1.toNatClampNeg)) rfl ?_
        refine tv_getI C (pc := 21) dX6_version_21 fl_X6_146 (ts_live (k := 16) (by decide) (by decide) (ts_vin hr32)) rfl (cd := 0) rfl (by decide) ?_
        refine tv_icmp_ge C (pc := 24) 31 dX6_version_24 (by decide) (fun hc => ?_) (fun hc => ?_)
        · have h := ts_ifp h hc
          refine tv_iconst C (pc := 31) dX6_version_31 (v := (0 : Int32)) rfl ?_
          obtain ⟨q33, hq33, h⟩ := ts_bd h
          have Mq33 := (m_X6_requireIndex (D := D) (dT := dT) (sz := sz) (ad := ad) hl (0 : Int32) u q33 hq33)
          rcases q33 with v34 | e35
          · have h := ts_eL h
            refine tv_callS C (pc := 32) dX6_version_32 yl_X6_71 Mq33 (Nat.le_trans (Nat.le_of_ble_eq_true rfl) hdd) (As := [.inl (.int (0 : Int32))]) rfl ⟨Nat.le_of_ble_eq_true rfl, Nat.le_of_ble_eq_true rfl⟩ (fun _ => Nat.le_of_ble_eq_true rfl) rfl ?_
            refine tv_iload_n C (pc := 35) dX6_version_35 rfl rfl ?_
            refine tv_if_lt C (pc := 36) 48 dX6_version_36 (by decide) (fun hc => ?_) (fun hc => ?_)
            · have h := ts_ifp h hc
              refine tv_iconst C (pc := 48) dX6_version_48 (v := (0 : Int32)) rfl ?_
              obtain ⟨q36, hq36, h⟩ := ts_bd h
              have Mq36 := (m_X6_requireArgument (D := D) (dT := dT) (sz := sz) (ad := ad) hl (0 : Int32) u q36 hq36)
              rcases q36 with v37 | e38
              · have h := ts_eL h
                refine tv_callS C (pc := 49) dX6_version_49 yl_X6_43 Mq36 (Nat.le_trans (Nat.le_of_ble_eq_true rfl) hdd) (As := [.inl (.int (0 : Int32))]) rfl ⟨Nat.le_of_ble_eq_true rfl, Nat.le_of_ble_eq_true rfl⟩ (fun _ => Nat.le_of_ble_eq_true rfl) rfl ?_
                refine tv_iload_n C (pc := 52) dX6_version_52 rfl rfl ?_
                refine tv_iconst C (pc := 53) dX6_version_53 (v := (4 : Int32)) rfl ?_
                refine tv_icmp_ne C (pc := 54) 87 dX6_version_54 (by decide) (fun hc => ?_) (fun hc => ?_)
                · have h := ts_ifn h hc
                  refine tv_aload_n C (pc := 87) dX6_version_87 rfl rfl ?_
                  refine tv_getR C (pc := 88) dX6_version_88 fl_X6_12 (ts_live (k := 0) (by decide) (by decide) (by decide)) rfl rfl (i2 := (1, 0, 0)) rfl ?_
                  refine tv_getR C (pc := 91) dX6_version_91 fl_X6_142 (ts_live (k := 1) (by decide) (by decide) (by decide)) rfl rfl (i2 := (3, 0, 0)) rfl ?_
                  refine tv_iload_n C (pc := 94) dX6_version_94 rfl rfl ?_
                  obtain ⟨hr39, h⟩ := ts_gd h
                  refine tv_aaload6 C (pc := 95) dX6_version_95 (ts_live (k := 3) (by decide) (by decide) (by decide)) rfl hr39 (j := p1.toNatClampNeg) rfl (i2 := (16, 0, p1.toNatClampNeg)) rfl ?_
                  refine tv_iload_n C (pc := 96) dX6_version_96 rfl rfl ?_
                  refine tv_iload_n C (pc := 97) dX6_version_97 rfl rfl ?_
                  obtain ⟨q40, hq40, h⟩ := ts_bd h
                  refine tv_callV C (pc := 98) dX6_version_98 (ci := 1) (q := (RX1, TX1, 5)) rfl yl_X6_158 (m_X1_versionNumber (D := D) (dT := dT) (sz := sz) (ad := ad) hl 0 (by decide) p1.toNatClampNeg (ts_vin hr39) p2 p3 u q40 hq40) (ts_live (k := 16) (by decide) (by decide) (ts_vin hr39)) rfl (Nat.le_trans (Nat.le_of_ble_eq_true rfl) hdd) (As := [.inl (.int p2), .inl (.int p3)]) rfl ⟨Nat.le_of_ble_eq_true rfl, Nat.le_of_ble_eq_true rfl⟩ (fun _ => Nat.le_of_ble_eq_true rfl) rfl ?_
                  cases h
                  exact tv_iret C (pc := 101) rfl dX6_version_101 ⟨Nat.le_of_ble_eq_true rfl, Nat.le_of_ble_eq_true rfl⟩
                · have h := ts_ifp h hc
                  refine tv_aload_n C (pc := 57) dX6_version_57 rfl rfl ?_
                  refine tv_getR C (pc := 58) dX6_version_58 fl_X6_12 (ts_live (k := 0) (by decide) (by decide) (by decide)) rfl rfl (i2 := (1, 0, 0)) rfl ?_
                  refine tv_aload_n C (pc := 61) dX6_version_61 rfl rfl ?_
                  refine tv_getR C (pc := 62) dX6_version_62 fl_X6_12 (ts_live (k := 0) (by decide) (by decide) (by decide)) rfl rfl (i2 := (1, 0, 0)) rfl ?_
                  refine tv_getR C (pc := 65) dX6_version_65 fl_X6_142 (ts_live (k := 1) (by decide) (by decide) (by decide)) rfl rfl (i2 := (3, 0, 0)) rfl ?_
                  refine tv_iload_n C (pc := 68) dX6_version_68 rfl rfl ?_
                  obtain ⟨hr41, h⟩ := ts_gd h
                  refine tv_aaload6 C (pc := 69) dX6_version_69 (ts_live (k := 3) (by decide) (by decide) (by decide)) rfl hr41 (j := p1.toNatClampNeg) rfl (i2 := (16, 0, p1.toNatClampNeg)) rfl ?_
                  refine tv_getR C (pc := 70) dX6_version_70 fl_X6_151 (ts_live (k := 16) (by decide) (by decide) (ts_vin hr41)) rfl rfl (i2 := (20, 0, p1.toNatClampNeg)) rfl ?_
                  refine tv_iload_n C (pc := 73) dX6_version_73 rfl rfl ?_
                  obtain ⟨hr42, h⟩ := ts_gd h
                  refine tv_iaload C (pc := 74) dX6_version_74 (ts_live (k := 20) (by decide) (by decide) (ts_vin hr41)) rfl hr42 (j := p2.toNatClampNeg) rfl ?_
                  obtain ⟨q43, hq43, h⟩ := ts_bd h
                  refine tv_callV C (pc := 75) dX6_version_75 (ci := 0) (q := (RX0, TX0, 8)) rfl yl_X6_155 (m_X0_isUncommittedWriter (D := D) (dT := dT) (sz := sz) (ad := ad) hl 0 (by decide) (ts_gI u (20, 0, p1.toNatClampNeg) p2.toNatClampNeg) u q43 hq43) (ts_live (k := 1) (by decide) (by decide) (by decide)) rfl (Nat.le_trans (Nat.le_of_ble_eq_true rfl) hdd) (As := [.inl (.int (ts_gI u (20, 0, p1.toNatClampNeg) p2.toNatClampNeg))]) rfl ⟨Nat.le_of_ble_eq_true rfl, Nat.le_of_ble_eq_true rfl⟩ (fun _ => Nat.le_of_ble_eq_true rfl) rfl ?_
                  refine tv_if_eq C (pc := 78) 85 dX6_version_78 (by decide) (fun hc => ?_) (fun hc => ?_)
                  · have h := ts_ifp h hc
                    refine tv_iconst C (pc := 85) dX6_version_85 (v := (1 : Int32)) rfl ?_
                    cases h
                    exact tv_iret C (pc := 86) rfl dX6_version_86 ⟨Nat.le_of_ble_eq_true rfl, Nat.le_of_ble_eq_true rfl⟩
                  · have h := ts_ifn h hc
                    refine tv_iconst C (pc := 81) dX6_version_81 (v := (0 : Int32)) rfl ?_
                    refine tv_goto C (pc := 82) 86 dX6_version_82 (by decide) ?_
                    cases h
                    exact tv_iret C (pc := 86) rfl dX6_version_86 ⟨Nat.le_of_ble_eq_true rfl, Nat.le_of_ble_eq_true rfl⟩
              · have h := ts_eR h
                cases h
                exact tv_callS_thr C (pc := 49) hX dX6_version_49 yl_X6_43 Mq36 (Nat.le_trans (Nat.le_of_ble_eq_true rfl) hdd) (As := [.inl (.int (0 : Int32))]) rfl ⟨Nat.le_of_ble_eq_true rfl, Nat.le_of_ble_eq_true rfl⟩ (fun _ => Nat.le_of_ble_eq_true rfl) rfl ⟨Nat.le_of_ble_eq_true rfl, Nat.le_of_ble_eq_true rfl⟩
            · have h := ts_ifn h hc
              refine tv_iload_n C (pc := 39) dX6_version_39 rfl rfl ?_
              refine tv_iconst C (pc := 40) dX6_version_40 (v := (4 : Int32)) rfl ?_
              refine tv_icmp_gt C (pc := 41) 48 dX6_version_41 (by decide) (fun hc => ?_) (fun hc => ?_)
              · have h := ts_ifp h hc
                refine tv_iconst C (pc := 48) dX6_version_48 (v := (0 : Int32)) rfl ?_
                obtain ⟨q44, hq44, h⟩ := ts_bd h
                have Mq44 := (m_X6_requireArgument (D := D) (dT := dT) (sz := sz) (ad := ad) hl (0 : Int32) u q44 hq44)
                rcases q44 with v45 | e46
                · have h := ts_eL h
                  refine tv_callS C (pc := 49) dX6_version_49 yl_X6_43 Mq44 (Nat.le_trans (Nat.le_of_ble_eq_true rfl) hdd) (As := [.inl (.int (0 : Int32))]) rfl ⟨Nat.le_of_ble_eq_true rfl, Nat.le_of_ble_eq_true rfl⟩ (fun _ => Nat.le_of_ble_eq_true rfl) rfl ?_
                  refine tv_iload_n C (pc := 52) dX6_version_52 rfl rfl ?_
                  refine tv_iconst C (pc := 53) dX6_version_53 (v := (4 : Int32)) rfl ?_
                  refine tv_icmp_ne C (pc := 54) 87 dX6_version_54 (by decide) (fun hc => ?_) (fun hc => ?_)
                  · have h := ts_ifn h hc
                    refine tv_aload_n C (pc := 87) dX6_version_87 rfl rfl ?_
                    refine tv_getR C (pc := 88) dX6_version_88 fl_X6_12 (ts_live (k := 0) (by decide) (by decide) (by decide)) rfl rfl (i2 := (1, 0, 0)) rfl ?_
                    refine tv_getR C (pc := 91) dX6_version_91 fl_X6_142 (ts_live (k := 1) (by decide) (by decide) (by decide)) rfl rfl (i2 := (3, 0, 0)) rfl ?_
                    refine tv_iload_n C (pc := 94) dX6_version_94 rfl rfl ?_
                    obtain ⟨hr47, h⟩ := ts_gd h
                    refine tv_aaload6 C (pc := 95) dX6_version_95 (ts_live (k := 3) (by decide) (by decide) (by decide)) rfl hr47 (j := p1.toNatClampNeg) rfl (i2 := (16, 0, p1.toNatClampNeg)) rfl ?_
                    refine tv_iload_n C (pc := 96) dX6_version_96 rfl rfl ?_
                    refine tv_iload_n C (pc := 97) dX6_version_97 rfl rfl ?_
                    obtain ⟨q48, hq48, h⟩ := ts_bd h
                    refine tv_callV C (pc := 98) dX6_version_98 (ci := 1) (q := (RX1, TX1, 5)) rfl yl_X6_158 (m_X1_versionNumber (D := D) (dT := dT) (sz := sz) (ad := ad) hl 0 (by decide) p1.toNatClampNeg (ts_vin hr47) p2 p3 u q48 hq48) (ts_live (k := 16) (by decide) (by decide) (ts_vin hr47)) rfl (Nat.le_trans (Nat.le_of_ble_eq_true rfl) hdd) (As := [.inl (.int p2), .inl (.int p3)]) rfl ⟨Nat.le_of_ble_eq_true rfl, Nat.le_of_ble_eq_true rfl⟩ (fun _ => Nat.le_of_ble_eq_true rfl) rfl ?_
                    cases h
                    exact tv_iret C (pc := 101) rfl dX6_version_101 ⟨Nat.le_of_ble_eq_true rfl, Nat.le_of_ble_eq_true rfl⟩
                  · have h := ts_ifp h hc
                    refine tv_aload_n C (pc := 57) dX6_version_57 rfl rfl ?_
                    refine tv_getR C (pc := 58) dX6_version_58 fl_X6_12 (ts_live (k := 0) (by decide) (by decide) (by decide)) rfl rfl (i2 := (1, 0, 0)) rfl ?_
                    refine tv_aload_n C (pc := 61) dX6_version_61 rfl rfl ?_
                    refine tv_getR C (pc := 62) dX6_version_62 fl_X6_12 (ts_live (k := 0) (by decide) (by decide) (by decide)) rfl rfl (i2 := (1, 0, 0)) rfl ?_
                    refine tv_getR C (pc := 65) dX6_version_65 fl_X6_142 (ts_live (k := 1) (by decide) (by decide) (by decide)) rfl rfl (i2 := (3, 0, 0)) rfl ?_
                    refine tv_iload_n C (pc := 68) dX6_version_68 rfl rfl ?_
                    obtain ⟨hr49, h⟩ := ts_gd h
                    refine tv_aaload6 C (pc := 69) dX6_version_69 (ts_live (k := 3) (by decide) (by decide) (by decide)) rfl hr49 (j := p1.toNatClampNeg) rfl (i2 := (16, 0, p1.toNatClampNeg)) rfl ?_
                    refine tv_getR C (pc := 70) dX6_version_70 fl_X6_151 (ts_live (k := 16) (by decide) (by decide) (ts_vin hr49)) rfl rfl (i2 := (20, 0, p1.toNatClampNeg)) rfl ?_
                    refine tv_iload_n C (pc := 73) dX6_version_73 rfl rfl ?_
                    obtain ⟨hr50, h⟩ := ts_gd h
                    refine tv_iaload C (pc := 74) dX6_version_74 (ts_live (k := 20) (by decide) (by decide) (ts_vin hr49)) rfl hr50 (j := p2.toNatClampNeg) rfl ?_
                    obtain ⟨q51, hq51, h⟩ := ts_bd h
                    refine tv_callV C (pc := 75) dX6_version_75 (ci := 0) (q := (RX0, TX0, 8)) rfl yl_X6_155 (m_X0_isUncommittedWriter (D := D) (dT := dT) (sz := sz) (ad := ad) hl 0 (by decide) (ts_gI u (20, 0, p1.toNatClampNeg) p2.toNatClampNeg) u q51 hq51) (ts_live (k := 1) (by decide) (by decide) (by decide)) rfl (Nat.le_trans (Nat.le_of_ble_eq_true rfl) hdd) (As := [.inl (.int (ts_gI u (20, 0, p1.toNatClampNeg) p2.toNatClampNeg))]) rfl ⟨Nat.le_of_ble_eq_true rfl, Nat.le_of_ble_eq_true rfl⟩ (fun _ => Nat.le_of_ble_eq_true rfl) rfl ?_
                    refine tv_if_eq C (pc := 78) 85 dX6_version_78 (by decide) (fun hc => ?_) (fun hc => ?_)
                    · have h := ts_ifp h hc
                      refine tv_iconst C (pc := 85) dX6_version_85 (v := (1 : Int32)) rfl ?_
                      cases h
                      exact tv_iret C (pc := 86) rfl dX6_version_86 ⟨Nat.le_of_ble_eq_true rfl, Nat.le_of_ble_eq_true rfl⟩
                    · have h := ts_ifn h hc
                      refine tv_iconst C (pc := 81) dX6_version_81 (v := (0 : Int32)) rfl ?_
                      refine tv_goto C (pc := 82) 86 dX6_version_82 (by decide) ?_
                      cases h
                      exact tv_iret C (pc := 86) rfl dX6_version_86 ⟨Nat.le_of_ble_eq_true rfl, Nat.le_of_ble_eq_true rfl⟩
                · have h := ts_eR h
                  cases h
                  exact tv_callS_thr C (pc := 49) hX dX6_version_49 yl_X6_43 Mq44 (Nat.le_trans (Nat.le_of_ble_eq_true rfl) hdd) (As := [.inl (.int (0 : Int32))]) rfl ⟨Nat.le_of_ble_eq_true rfl, Nat.le_of_ble_eq_true rfl⟩ (fun _ => Nat.le_of_ble_eq_true rfl) rfl ⟨Nat.le_of_ble_eq_true rfl, Nat.le_of_ble_eq_true rfl⟩
              · have h := ts_ifn h hc
                refine tv_iconst C (pc := 44) dX6_version_44 (v := (1 : Int32)) rfl ?_
                refine tv_goto C (pc := 45) 49 dX6_version_45 (by decide) ?_
                obtain ⟨q52, hq52, h⟩ := ts_bd h
                have Mq52 := (m_X6_requireArgument (D := D) (dT := dT) (sz := sz) (ad := ad) hl (1 : Int32) u q52 hq52)
                rcases q52 with v53 | e54
                · have h := ts_eL h
                  refine tv_callS C (pc := 49) dX6_version_49 yl_X6_43 Mq52 (Nat.le_trans (Nat.le_of_ble_eq_true rfl) hdd) (As := [.inl (.int (1 : Int32))]) rfl ⟨Nat.le_of_ble_eq_true rfl, Nat.le_of_ble_eq_true rfl⟩ (fun _ => Nat.le_of_ble_eq_true rfl) rfl ?_
                  refine tv_iload_n C (pc := 52) dX6_version_52 rfl rfl ?_
                  refine tv_iconst C (pc := 53) dX6_version_53 (v := (4 : Int32)) rfl ?_
                  refine tv_icmp_ne C (pc := 54) 87 dX6_version_54 (by decide) (fun hc => ?_) (fun hc => ?_)
                  · have h := ts_ifn h hc
                    refine tv_aload_n C (pc := 87) dX6_version_87 rfl rfl ?_
                    refine tv_getR C (pc := 88) dX6_version_88 fl_X6_12 (ts_live (k := 0) (by decide) (by decide) (by decide)) rfl rfl (i2 := (1, 0, 0)) rfl ?_
                    refine tv_getR C (pc := 91) dX6_version_91 fl_X6_142 (ts_live (k := 1) (by decide) (by decide) (by decide)) rfl rfl (i2 := (3, 0, 0)) rfl ?_
                    refine tv_iload_n C (pc := 94) dX6_version_94 rfl rfl ?_
                    obtain ⟨hr55, h⟩ := ts_gd h
                    refine tv_aaload6 C (pc := 95) dX6_version_95 (ts_live (k := 3) (by decide) (by decide) (by decide)) rfl hr55 (j := p1.toNatClampNeg) rfl (i2 := (16, 0, p1.toNatClampNeg)) rfl ?_
                    refine tv_iload_n C (pc := 96) dX6_version_96 rfl rfl ?_
                    refine tv_iload_n C (pc := 97) dX6_version_97 rfl rfl ?_
                    obtain ⟨q56, hq56, h⟩ := ts_bd h
                    refine tv_callV C (pc := 98) dX6_version_98 (ci := 1) (q := (RX1, TX1, 5)) rfl yl_X6_158 (m_X1_versionNumber (D := D) (dT := dT) (sz := sz) (ad := ad) hl 0 (by decide) p1.toNatClampNeg (ts_vin hr55) p2 p3 u q56 hq56) (ts_live (k := 16) (by decide) (by decide) (ts_vin hr55)) rfl (Nat.le_trans (Nat.le_of_ble_eq_true rfl) hdd) (As := [.inl (.int p2), .inl (.int p3)]) rfl ⟨Nat.le_of_ble_eq_true rfl, Nat.le_of_ble_eq_true rfl⟩ (fun _ => Nat.le_of_ble_eq_true rfl) rfl ?_
                    cases h
                    exact tv_iret C (pc := 101) rfl dX6_version_101 ⟨Nat.le_of_ble_eq_true rfl, Nat.le_of_ble_eq_true rfl⟩
                  · have h := ts_ifp h hc
                    refine tv_aload_n C (pc := 57) dX6_version_57 rfl rfl ?_
                    refine tv_getR C (pc := 58) dX6_version_58 fl_X6_12 (ts_live (k := 0) (by decide) (by decide) (by decide)) rfl rfl (i2 := (1, 0, 0)) rfl ?_
                    refine tv_aload_n C (pc := 61) dX6_version_61 rfl rfl ?_
                    refine tv_getR C (pc := 62) dX6_version_62 fl_X6_12 (ts_live (k := 0) (by decide) (by decide) (by decide)) rfl rfl (i2 := (1, 0, 0)) rfl ?_
                    refine tv_getR C (pc := 65) dX6_version_65 fl_X6_142 (ts_live (k := 1) (by decide) (by decide) (by decide)) rfl rfl (i2 := (3, 0, 0)) rfl ?_
                    refine tv_iload_n C (pc := 68) dX6_version_68 rfl rfl ?_
                    obtain ⟨hr57, h⟩ := ts_gd h
                    refine tv_aaload6 C (pc := 69) dX6_version_69 (ts_live (k := 3) (by decide) (by decide) (by decide)) rfl hr57 (j := p1.toNatClampNeg) rfl (i2 := (16, 0, p1.toNatClampNeg)) rfl ?_
                    refine tv_getR C (pc := 70) dX6_version_70 fl_X6_151 (ts_live (k := 16) (by decide) (by decide) (ts_vin hr57)) rfl rfl (i2 := (20, 0, p1.toNatClampNeg)) rfl ?_
                    refine tv_iload_n C (pc := 73) dX6_version_73 rfl rfl ?_
                    obtain ⟨hr58, h⟩ := ts_gd h
                    refine tv_iaload C (pc := 74) dX6_version_74 (ts_live (k := 20) (by decide) (by decide) (ts_vin hr57)) rfl hr58 (j := p2.toNatClampNeg) rfl ?_
                    obtain ⟨q59, hq59, h⟩ := ts_bd h
                    refine tv_callV C (pc := 75) dX6_version_75 (ci := 0) (q := (RX0, TX0, 8)) rfl yl_X6_155 (m_X0_isUncommittedWriter (D := D) (dT := dT) (sz := sz) (ad := ad) hl 0 (by decide) (ts_gI u (20, 0, p1.toNatClampNeg) p2.toNatClampNeg) u q59 hq59) (ts_live (k := 1) (by decide) (by decide) (by decide)) rfl (Nat.le_trans (Nat.le_of_ble_eq_true rfl) hdd) (As := [.inl (.int (ts_gI u (20, 0, p1.toNatClampNeg) p2.toNatClampNeg))]) rfl ⟨Nat.le_of_ble_eq_true rfl, Nat.le_of_ble_eq_true rfl⟩ (fun _ => Nat.le_of_ble_eq_true rfl) rfl ?_
                    refine tv_if_eq C (pc := 78) 85 dX6_version_78 (by decide) (fun hc => ?_) (fun hc => ?_)
                    · have h := ts_ifp h hc
                      refine tv_iconst C (pc := 85) dX6_version_85 (v := (1 : Int32)) rfl ?_
                      cases h
                      exact tv_iret C (pc := 86) rfl dX6_version_86 ⟨Nat.le_of_ble_eq_true rfl, Nat.le_of_ble_eq_true rfl⟩
                    · have h := ts_ifn h hc
                      refine tv_iconst C (pc := 81) dX6_version_81 (v := (0 : Int32)) rfl ?_
                      refine tv_goto C (pc := 82) 86 dX6_version_82 (by decide) ?_
                      cases h
                      exact tv_iret C (pc := 86) rfl dX6_version_86 ⟨Nat.le_of_ble_eq_true rfl, Nat.le_of_ble_eq_true rfl⟩
                · have h := ts_eR h
                  cases h
                  exact tv_callS_thr C (pc := 49) hX dX6_version_49 yl_X6_43 Mq52 (Nat.le_trans (Nat.le_of_ble_eq_true rfl) hdd) (As := [.inl (.int (1 : Int32))]) rfl ⟨Nat.le_of_ble_eq_true rfl, Nat.le_of_ble_eq_true rfl⟩ (fun _ => Nat.le_of_ble_eq_true rfl) rfl ⟨Nat.le_of_ble_eq_true rfl, Nat.le_of_ble_eq_true rfl⟩
          · have h := ts_eR h
            cases h
            exact tv_callS_thr C (pc := 32) hX dX6_version_32 yl_X6_71 Mq33 (Nat.le_trans (Nat.le_of_ble_eq_true rfl) hdd) (As := [.inl (.int (0 : Int32))]) rfl ⟨Nat.le_of_ble_eq_true rfl, Nat.le_of_ble_eq_true rfl⟩ (fun _ => Nat.le_of_ble_eq_true rfl) rfl ⟨Nat.le_of_ble_eq_true rfl, Nat.le_of_ble_eq_true rfl⟩
        · have h := ts_ifn h hc
          refine tv_iconst C (pc := 27) dX6_version_27 (v := (1 : Int32)) rfl ?_
          refine tv_goto C (pc := 28) 32 dX6_version_28 (by decide) ?_
          obtain ⟨q60, hq60, h⟩ := ts_bd h
          have Mq60 := (m_X6_requireIndex (D := D) (dT := dT) (sz := sz) (ad := ad) hl (1 : Int32) u q60 hq60)
          rcases q60 with v61 | e62
          · have h := ts_eL h
            refine tv_callS C (pc := 32) dX6_version_32 yl_X6_71 Mq60 (Nat.le_trans (Nat.le_of_ble_eq_true rfl) hdd) (As := [.inl (.int (1 : Int32))]) rfl ⟨Nat.le_of_ble_eq_true rfl, Nat.le_of_ble_eq_true rfl⟩ (fun _ => Nat.le_of_ble_eq_true rfl) rfl ?_
            refine tv_iload_n C (pc := 35) dX6_version_35 rfl rfl ?_
            refine tv_if_lt C (pc := 36) 48 dX6_version_36 (by decide) (fun hc => ?_) (fun hc => ?_)
            · have h := ts_ifp h hc
              refine tv_iconst C (pc := 48) dX6_version_48 (v := (0 : Int32)) rfl ?_
              obtain ⟨q63, hq63, h⟩ := ts_bd h
              have Mq63 := (m_X6_requireArgument (D := D) (dT := dT) (sz := sz) (ad := ad) hl (0 : Int32) u q63 hq63)
              rcases q63 with v64 | e65
              · have h := ts_eL h
                refine tv_callS C (pc := 49) dX6_version_49 yl_X6_43 Mq63 (Nat.le_trans (Nat.le_of_ble_eq_true rfl) hdd) (As := [.inl (.int (0 : Int32))]) rfl ⟨Nat.le_of_ble_eq_true rfl, Nat.le_of_ble_eq_true rfl⟩ (fun _ => Nat.le_of_ble_eq_true rfl) rfl ?_
                refine tv_iload_n C (pc := 52) dX6_version_52 rfl rfl ?_
                refine tv_iconst C (pc := 53) dX6_version_53 (v := (4 : Int32)) rfl ?_
                refine tv_icmp_ne C (pc := 54) 87 dX6_version_54 (by decide) (fun hc => ?_) (fun hc => ?_)
                · have h := ts_ifn h hc
                  refine tv_aload_n C (pc := 87) dX6_version_87 rfl rfl ?_
                  refine tv_getR C (pc := 88) dX6_version_88 fl_X6_12 (ts_live (k := 0) (by decide) (by decide) (by decide)) rfl rfl (i2 := (1, 0, 0)) rfl ?_
                  refine tv_getR C (pc := 91) dX6_version_91 fl_X6_142 (ts_live (k := 1) (by decide) (by decide) (by decide)) rfl rfl (i2 := (3, 0, 0)) rfl ?_
                  refine tv_iload_n C (pc := 94) dX6_version_94 rfl rfl ?_
                  obtain ⟨hr66, h⟩ := ts_gd h
                  refine tv_aaload6 C (pc := 95) dX6_version_95 (ts_live (k := 3) (by decide) (by decide) (by decide)) rfl hr66 (j := p1.toNatClampNeg) rfl (i2 := (16, 0, p1.toNatClampNeg)) rfl ?_
                  refine tv_iload_n C (pc := 96) dX6_version_96 rfl rfl ?_
                  refine tv_iload_n C (pc := 97) dX6_version_97 rfl rfl ?_
                  obtain ⟨q67, hq67, h⟩ := ts_bd h
                  refine tv_callV C (pc := 98) dX6_version_98 (ci := 1) (q := (RX1, TX1, 5)) rfl yl_X6_158 (m_X1_versionNumber (D := D) (dT := dT) (sz := sz) (ad := ad) hl 0 (by decide) p1.toNatClampNeg (ts_vin hr66) p2 p3 u q67 hq67) (ts_live (k := 16) (by decide) (by decide) (ts_vin hr66)) rfl (Nat.le_trans (Nat.le_of_ble_eq_true rfl) hdd) (As := [.inl (.int p2), .inl (.int p3)]) rfl ⟨Nat.le_of_ble_eq_true rfl, Nat.le_of_ble_eq_true rfl⟩ (fun _ => Nat.le_of_ble_eq_true rfl) rfl ?_
                  cases h
                  exact tv_iret C (pc := 101) rfl dX6_version_101 ⟨Nat.le_of_ble_eq_true rfl, Nat.le_of_ble_eq_true rfl⟩
                · have h := ts_ifp h hc
                  refine tv_aload_n C (pc := 57) dX6_version_57 rfl rfl ?_
                  refine tv_getR C (pc := 58) dX6_version_58 fl_X6_12 (ts_live (k := 0) (by decide) (by decide) (by decide)) rfl rfl (i2 := (1, 0, 0)) rfl ?_
                  refine tv_aload_n C (pc := 61) dX6_version_61 rfl rfl ?_
                  refine tv_getR C (pc := 62) dX6_version_62 fl_X6_12 (ts_live (k := 0) (by decide) (by decide) (by decide)) rfl rfl (i2 := (1, 0, 0)) rfl ?_
                  refine tv_getR C (pc := 65) dX6_version_65 fl_X6_142 (ts_live (k := 1) (by decide) (by decide) (by decide)) rfl rfl (i2 := (3, 0, 0)) rfl ?_
                  refine tv_iload_n C (pc := 68) dX6_version_68 rfl rfl ?_
                  obtain ⟨hr68, h⟩ := ts_gd h
                  refine tv_aaload6 C (pc := 69) dX6_version_69 (ts_live (k := 3) (by decide) (by decide) (by decide)) rfl hr68 (j := p1.toNatClampNeg) rfl (i2 := (16, 0, p1.toNatClampNeg)) rfl ?_
                  refine tv_getR C (pc := 70) dX6_version_70 fl_X6_151 (ts_live (k := 16) (by decide) (by decide) (ts_vin hr68)) rfl rfl (i2 := (20, 0, p1.toNatClampNeg)) rfl ?_
                  refine tv_iload_n C (pc := 73) dX6_version_73 rfl rfl ?_
                  obtain ⟨hr69, h⟩ := ts_gd h
                  refine tv_iaload C (pc := 74) dX6_version_74 (ts_live (k := 20) (by decide) (by decide) (ts_vin hr68)) rfl hr69 (j := p2.toNatClampNeg) rfl ?_
                  obtain ⟨q70, hq70, h⟩ := ts_bd h
                  refine tv_callV C (pc := 75) dX6_version_75 (ci := 0) (q := (RX0, TX0, 8)) rfl yl_X6_155 (m_X0_isUncommittedWriter (D := D) (dT := dT) (sz := sz) (ad := ad) hl 0 (by decide) (ts_gI u (20, 0, p1.toNatClampNeg) p2.toNatClampNeg) u q70 hq70) (ts_live (k := 1) (by decide) (by decide) (by decide)) rfl (Nat.le_trans (Nat.le_of_ble_eq_true rfl) hdd) (As := [.inl (.int (ts_gI u (20, 0, p1.toNatClampNeg) p2.toNatClampNeg))]) rfl ⟨Nat.le_of_ble_eq_true rfl, Nat.le_of_ble_eq_true rfl⟩ (fun _ => Nat.le_of_ble_eq_true rfl) rfl ?_
                  refine tv_if_eq C (pc := 78) 85 dX6_version_78 (by decide) (fun hc => ?_) (fun hc => ?_)
                  · have h := ts_ifp h hc
                    refine tv_iconst C (pc := 85) dX6_version_85 (v := (1 : Int32)) rfl ?_
                    cases h
                    exact tv_iret C (pc := 86) rfl dX6_version_86 ⟨Nat.le_of_ble_eq_true rfl, Nat.le_of_ble_eq_true rfl⟩
                  · have h := ts_ifn h hc
                    refine tv_iconst C (pc := 81) dX6_version_81 (v := (0 : Int32)) rfl ?_
                    refine tv_goto C (pc := 82) 86 dX6_version_82 (by decide) ?_
                    cases h
                    exact tv_iret C (pc := 86) rfl dX6_version_86 ⟨Nat.le_of_ble_eq_true rfl, Nat.le_of_ble_eq_true rfl⟩
              · have h := ts_eR h
                cases h
                exact tv_callS_thr C (pc := 49) hX dX6_version_49 yl_X6_43 Mq63 (Nat.le_trans (Nat.le_of_ble_eq_true rfl) hdd) (As := [.inl (.int (0 : Int32))]) rfl ⟨Nat.le_of_ble_eq_true rfl, Nat.le_of_ble_eq_true rfl⟩ (fun _ => Nat.le_of_ble_eq_true rfl) rfl ⟨Nat.le_of_ble_eq_true rfl, Nat.le_of_ble_eq_true rfl⟩
            · have h := ts_ifn h hc
              refine tv_iload_n C (pc := 39) dX6_version_39 rfl rfl ?_
              refine tv_iconst C (pc := 40) dX6_version_40 (v := (4 : Int32)) rfl ?_
              refine tv_icmp_gt C (pc := 41) 48 dX6_version_41 (by decide) (fun hc => ?_) (fun hc => ?_)
              · have h := ts_ifp h hc
                refine tv_iconst C (pc := 48) dX6_version_48 (v := (0 : Int32)) rfl ?_
                obtain ⟨q71, hq71, h⟩ := ts_bd h
                have Mq71 := (m_X6_requireArgument (D := D) (dT := dT) (sz := sz) (ad := ad) hl (0 : Int32) u q71 hq71)
                rcases q71 with v72 | e73
                · have h := ts_eL h
                  refine tv_callS C (pc := 49) dX6_version_49 yl_X6_43 Mq71 (Nat.le_trans (Nat.le_of_ble_eq_true rfl) hdd) (As := [.inl (.int (0 : Int32))]) rfl ⟨Nat.le_of_ble_eq_true rfl, Nat.le_of_ble_eq_true rfl⟩ (fun _ => Nat.le_of_ble_eq_true rfl) rfl ?_
                  refine tv_iload_n C (pc := 52) dX6_version_52 rfl rfl ?_
                  refine tv_iconst C (pc := 53) dX6_version_53 (v := (4 : Int32)) rfl ?_
                  refine tv_icmp_ne C (pc := 54) 87 dX6_version_54 (by decide) (fun hc => ?_) (fun hc => ?_)
                  · have h := ts_ifn h hc
                    refine tv_aload_n C (pc := 87) dX6_version_87 rfl rfl ?_
                    refine tv_getR C (pc := 88) dX6_version_88 fl_X6_12 (ts_live (k := 0) (by decide) (by decide) (by decide)) rfl rfl (i2 := (1, 0, 0)) rfl ?_
                    refine tv_getR C (pc := 91) dX6_version_91 fl_X6_142 (ts_live (k := 1) (by decide) (by decide) (by decide)) rfl rfl (i2 := (3, 0, 0)) rfl ?_
                    refine tv_iload_n C (pc := 94) dX6_version_94 rfl rfl ?_
                    obtain ⟨hr74, h⟩ := ts_gd h
                    refine tv_aaload6 C (pc := 95) dX6_version_95 (ts_live (k := 3) (by decide) (by decide) (by decide)) rfl hr74 (j := p1.toNatClampNeg) rfl (i2 := (16, 0, p1.toNatClampNeg)) rfl ?_
                    refine tv_iload_n C (pc := 96) dX6_version_96 rfl rfl ?_
                    refine tv_iload_n C (pc := 97) dX6_version_97 rfl rfl ?_
                    obtain ⟨q75, hq75, h⟩ := ts_bd h
                    refine tv_callV C (pc := 98) dX6_version_98 (ci := 1) (q := (RX1, TX1, 5)) rfl yl_X6_158 (m_X1_versionNumber (D := D) (dT := dT) (sz := sz) (ad := ad) hl 0 (by decide) p1.toNatClampNeg (ts_vin hr74) p2 p3 u q75 hq75) (ts_live (k := 16) (by decide) (by decide) (ts_vin hr74)) rfl (Nat.le_trans (Nat.le_of_ble_eq_true rfl) hdd) (As := [.inl (.int p2), .inl (.int p3)]) rfl ⟨Nat.le_of_ble_eq_true rfl, Nat.le_of_ble_eq_true rfl⟩ (fun _ => Nat.le_of_ble_eq_true rfl) rfl ?_
                    cases h
                    exact tv_iret C (pc := 101) rfl dX6_version_101 ⟨Nat.le_of_ble_eq_true rfl, Nat.le_of_ble_eq_true rfl⟩
                  · have h := ts_ifp h hc
                    refine tv_aload_n C (pc := 57) dX6_version_57 rfl rfl ?_
                    refine tv_getR C (pc := 58) dX6_version_58 fl_X6_12 (ts_live (k := 0) (by decide) (by decide) (by decide)) rfl rfl (i2 := (1, 0, 0)) rfl ?_
                    refine tv_aload_n C (pc := 61) dX6_version_61 rfl rfl ?_
                    refine tv_getR C (pc := 62) dX6_version_62 fl_X6_12 (ts_live (k := 0) (by decide) (by decide) (by decide)) rfl rfl (i2 := (1, 0, 0)) rfl ?_
                    refine tv_getR C (pc := 65) dX6_version_65 fl_X6_142 (ts_live (k := 1) (by decide) (by decide) (by decide)) rfl rfl (i2 := (3, 0, 0)) rfl ?_
                    refine tv_iload_n C (pc := 68) dX6_version_68 rfl rfl ?_
                    obtain ⟨hr76, h⟩ := ts_gd h
                    refine tv_aaload6 C (pc := 69) dX6_version_69 (ts_live (k := 3) (by decide) (by decide) (by decide)) rfl hr76 (j := p1.toNatClampNeg) rfl (i2 := (16, 0, p1.toNatClampNeg)) rfl ?_
                    refine tv_getR C (pc := 70) dX6_version_70 fl_X6_151 (ts_live (k := 16) (by decide) (by decide) (ts_vin hr76)) rfl rfl (i2 := (20, 0, p1.toNatClampNeg)) rfl ?_
                    refine tv_iload_n C (pc := 73) dX6_version_73 rfl rfl ?_
                    obtain ⟨hr77, h⟩ := ts_gd h
                    refine tv_iaload C (pc := 74) dX6_version_74 (ts_live (k := 20) (by decide) (by decide) (ts_vin hr76)) rfl hr77 (j := p2.toNatClampNeg) rfl ?_
                    obtain ⟨q78, hq78, h⟩ := ts_bd h
                    refine tv_callV C (pc := 75) dX6_version_75 (ci := 0) (q := (RX0, TX0, 8)) rfl yl_X6_155 (m_X0_isUncommittedWriter (D := D) (dT := dT) (sz := sz) (ad := ad) hl 0 (by decide) (ts_gI u (20, 0, p1.toNatClampNeg) p2.toNatClampNeg) u q78 hq78) (ts_live (k := 1) (by decide) (by decide) (by decide)) rfl (Nat.le_trans (Nat.le_of_ble_eq_true rfl) hdd) (As := [.inl (.int (ts_gI u (20, 0, p1.toNatClampNeg) p2.toNatClampNeg))]) rfl ⟨Nat.le_of_ble_eq_true rfl, Nat.le_of_ble_eq_true rfl⟩ (fun _ => Nat.le_of_ble_eq_true rfl) rfl ?_
                    refine tv_if_eq C (pc := 78) 85 dX6_version_78 (by decide) (fun hc => ?_) (fun hc => ?_)
                    · have h := ts_ifp h hc
                      refine tv_iconst C (pc := 85) dX6_version_85 (v := (1 : Int32)) rfl ?_
                      cases h
                      exact tv_iret C (pc := 86) rfl dX6_version_86 ⟨Nat.le_of_ble_eq_true rfl, Nat.le_of_ble_eq_true rfl⟩
                    · have h := ts_ifn h hc
                      refine tv_iconst C (pc := 81) dX6_version_81 (v := (0 : Int32)) rfl ?_
                      refine tv_goto C (pc := 82) 86 dX6_version_82 (by decide) ?_
                      cases h
                      exact tv_iret C (pc := 86) rfl dX6_version_86 ⟨Nat.le_of_ble_eq_true rfl, Nat.le_of_ble_eq_true rfl⟩
                · have h := ts_eR h
                  cases h
                  exact tv_callS_thr C (pc := 49) hX dX6_version_49 yl_X6_43 Mq71 (Nat.le_trans (Nat.le_of_ble_eq_true rfl) hdd) (As := [.inl (.int (0 : Int32))]) rfl ⟨Nat.le_of_ble_eq_true rfl, Nat.le_of_ble_eq_true rfl⟩ (fun _ => Nat.le_of_ble_eq_true rfl) rfl ⟨Nat.le_of_ble_eq_true rfl, Nat.le_of_ble_eq_true rfl⟩
              · have h := ts_ifn h hc
                refine tv_iconst C (pc := 44) dX6_version_44 (v := (1 : Int32)) rfl ?_
                refine tv_goto C (pc := 45) 49 dX6_version_45 (by decide) ?_
                obtain ⟨q79, hq79, h⟩ := ts_bd h
                have Mq79 := (m_X6_requireArgument (D := D) (dT := dT) (sz := sz) (ad := ad) hl (1 : Int32) u q79 hq79)
                rcases q79 with v80 | e81
                · have h := ts_eL h
                  refine tv_callS C (pc := 49) dX6_version_49 yl_X6_43 Mq79 (Nat.le_trans (Nat.le_of_ble_eq_true rfl) hdd) (As := [.inl (.int (1 : Int32))]) rfl ⟨Nat.le_of_ble_eq_true rfl, Nat.le_of_ble_eq_true rfl⟩ (fun _ => Nat.le_of_ble_eq_true rfl) rfl ?_
                  refine tv_iload_n C (pc := 52) dX6_version_52 rfl rfl ?_
                  refine tv_iconst C (pc := 53) dX6_version_53 (v := (4 : Int32)) rfl ?_
                  refine tv_icmp_ne C (pc := 54) 87 dX6_version_54 (by decide) (fun hc => ?_) (fun hc => ?_)
                  · have h := ts_ifn h hc
                    refine tv_aload_n C (pc := 87) dX6_version_87 rfl rfl ?_
                    refine tv_getR C (pc := 88) dX6_version_88 fl_X6_12 (ts_live (k := 0) (by decide) (by decide) (by decide)) rfl rfl (i2 := (1, 0, 0)) rfl ?_
                    refine tv_getR C (pc := 91) dX6_version_91 fl_X6_142 (ts_live (k := 1) (by decide) (by decide) (by decide)) rfl rfl (i2 := (3, 0, 0)) rfl ?_
                    refine tv_iload_n C (pc := 94) dX6_version_94 rfl rfl ?_
                    obtain ⟨hr82, h⟩ := ts_gd h
                    refine tv_aaload6 C (pc := 95) dX6_version_95 (ts_live (k := 3) (by decide) (by decide) (by decide)) rfl hr82 (j := p1.toNatClampNeg) rfl (i2 := (16, 0, p1.toNatClampNeg)) rfl ?_
                    refine tv_iload_n C (pc := 96) dX6_version_96 rfl rfl ?_
                    refine tv_iload_n C (pc := 97) dX6_version_97 rfl rfl ?_
                    obtain ⟨q83, hq83, h⟩ := ts_bd h
                    refine tv_callV C (pc := 98) dX6_version_98 (ci := 1) (q := (RX1, TX1, 5)) rfl yl_X6_158 (m_X1_versionNumber (D := D) (dT := dT) (sz := sz) (ad := ad) hl 0 (by decide) p1.toNatClampNeg (ts_vin hr82) p2 p3 u q83 hq83) (ts_live (k := 16) (by decide) (by decide) (ts_vin hr82)) rfl (Nat.le_trans (Nat.le_of_ble_eq_true rfl) hdd) (As := [.inl (.int p2), .inl (.int p3)]) rfl ⟨Nat.le_of_ble_eq_true rfl, Nat.le_of_ble_eq_true rfl⟩ (fun _ => Nat.le_of_ble_eq_true rfl) rfl ?_
                    cases h
                    exact tv_iret C (pc := 101) rfl dX6_version_101 ⟨Nat.le_of_ble_eq_true rfl, Nat.le_of_ble_eq_true rfl⟩
                  · have h := ts_ifp h hc
                    refine tv_aload_n C (pc := 57) dX6_version_57 rfl rfl ?_
                    refine tv_getR C (pc := 58) dX6_version_58 fl_X6_12 (ts_live (k := 0) (by decide) (by decide) (by decide)) rfl rfl (i2 := (1, 0, 0)) rfl ?_
                    refine tv_aload_n C (pc := 61) dX6_version_61 rfl rfl ?_
                    refine tv_getR C (pc := 62) dX6_version_62 fl_X6_12 (ts_live (k := 0) (by decide) (by decide) (by decide)) rfl rfl (i2 := (1, 0, 0)) rfl ?_
                    refine tv_getR C (pc := 65) dX6_version_65 fl_X6_142 (ts_live (k := 1) (by decide) (by decide) (by decide)) rfl rfl (i2 := (3, 0, 0)) rfl ?_
                    refine tv_iload_n C (pc := 68) dX6_version_68 rfl rfl ?_
                    obtain ⟨hr84, h⟩ := ts_gd h
                    refine tv_aaload6 C (pc := 69) dX6_version_69 (ts_live (k := 3) (by decide) (by decide) (by decide)) rfl hr84 (j := p1.toNatClampNeg) rfl (i2 := (16, 0, p1.toNatClampNeg)) rfl ?_
                    refine tv_getR C (pc := 70) dX6_version_70 fl_X6_151 (ts_live (k := 16) (by decide) (by decide) (ts_vin hr84)) rfl rfl (i2 := (20, 0, p1.toNatClampNeg)) rfl ?_
                    refine tv_iload_n C (pc := 73) dX6_version_73 rfl rfl ?_
                    obtain ⟨hr85, h⟩ := ts_gd h
                    refine tv_iaload C (pc := 74) dX6_version_74 (ts_live (k := 20) (by decide) (by decide) (ts_vin hr84)) rfl hr85 (j := p2.toNatClampNeg) rfl ?_
                    obtain ⟨q86, hq86, h⟩ := ts_bd h
                    refine tv_callV C (pc := 75) dX6_version_75 (ci := 0) (q := (RX0, TX0, 8)) rfl yl_X6_155 (m_X0_isUncommittedWriter (D := D) (dT := dT) (sz := sz) (ad := ad) hl 0 (by decide) (ts_gI u (20, 0, p1.toNatClampNeg) p2.toNatClampNeg) u q86 hq86) (ts_live (k := 1) (by decide) (by decide) (by decide)) rfl (Nat.le_trans (Nat.le_of_ble_eq_true rfl) hdd) (As := [.inl (.int (ts_gI u (20, 0, p1.toNatClampNeg) p2.toNatClampNeg))]) rfl ⟨Nat.le_of_ble_eq_true rfl, Nat.le_of_ble_eq_true rfl⟩ (fun _ => Nat.le_of_ble_eq_true rfl) rfl ?_
                    refine tv_if_eq C (pc := 78) 85 dX6_version_78 (by decide) (fun hc => ?_) (fun hc => ?_)
                    · have h := ts_ifp h hc
                      refine tv_iconst C (pc := 85) dX6_version_85 (v := (1 : Int32)) rfl ?_
                      cases h
                      exact tv_iret C (pc := 86) rfl dX6_version_86 ⟨Nat.le_of_ble_eq_true rfl, Nat.le_of_ble_eq_true rfl⟩
                    · have h := ts_ifn h hc
                      refine tv_iconst C (pc := 81) dX6_version_81 (v := (0 : Int32)) rfl ?_
                      refine tv_goto C (pc := 82) 86 dX6_version_82 (by decide) ?_
                      cases h
                      exact tv_iret C (pc := 86) rfl dX6_version_86 ⟨Nat.le_of_ble_eq_true rfl, Nat.le_of_ble_eq_true rfl⟩
                · have h := ts_eR h
                  cases h
                  exact tv_callS_thr C (pc := 49) hX dX6_version_49 yl_X6_43 Mq79 (Nat.le_trans (Nat.le_of_ble_eq_true rfl) hdd) (As := [.inl (.int (1 : Int32))]) rfl ⟨Nat.le_of_ble_eq_true rfl, Nat.le_of_ble_eq_true rfl⟩ (fun _ => Nat.le_of_ble_eq_true rfl) rfl ⟨Nat.le_of_ble_eq_true rfl, Nat.le_of_ble_eq_true rfl⟩
          · have h := ts_eR h
            cases h
            exact tv_callS_thr C (pc := 32) hX dX6_version_32 yl_X6_71 Mq60 (Nat.le_trans (Nat.le_of_ble_eq_true rfl) hdd) (As := [.inl (.int (1 : Int32))]) rfl ⟨Nat.le_of_ble_eq_true rfl, Nat.le_of_ble_eq_true rfl⟩ (fun _ => Nat.le_of_ble_eq_true rfl) rfl ⟨Nat.le_of_ble_eq_true rfl, Nat.le_of_ble_eq_true rfl⟩
    · have h := ts_eR h
      cases h
      exact tv_callS_thr C (pc := 4) hX dX6_version_4 yl_X6_71 Mq2 (Nat.le_trans (Nat.le_of_ble_eq_true rfl) hdd) (As := [.inl (.int q1)]) rfl ⟨Nat.le_of_ble_eq_true rfl, Nat.le_of_ble_eq_true rfl⟩ (fun _ => Nat.le_of_ble_eq_true rfl) rfl ⟨Nat.le_of_ble_eq_true rfl, Nat.le_of_ble_eq_true rfl⟩
set_option maxRecDepth 100000 in
set_option maxHeartbeats 4000000 in
theorem m_X6_valueAt {l : Launch} {D : va_G} {dT : Nat → ClassId} {sz : Nat} {ad : ts_I → Nat} (hl : l.stackTraces = false) (p1 : Int32) (p2 : Int32) (u : ts_Mem) (r : (Int32 ⊕ String)) (h : f_X6_valueAt p1 p2 u = some r) : ts_M l D dT sz yX6_valueAt wX6_valueAt 3 2 12 ad ts_lv ts_R0 [.inr (0, 0, 0), .inl (.int p1), .inl (.int p2)] u (ts_oI r) u := by
    unfold f_X6_valueAt at h
    refine ts_enter hl (by decide) rfl rfl (Nat.le_of_ble_eq_true rfl) ?_
    intro p e s m args below meth c C hX hnm
    have C : ts_CX D dT sz p l (ts_rm 3 2 12) s m args meth c RX6 cX6_valueAt 4 (some .int) 3 := C
    have hdd : 3 ≤ 3 := Nat.le_refl _
    refine tv_iload_n C (pc := 0) dX6_valueAt_0 rfl rfl ?_
    obtain ⟨q1, hq1, h⟩ := ts_bd h
    refine tv_callS C (pc := 1) dX6_valueAt_1 yl_X6_68 (m_X6_isItem (D := D) (dT := dT) (sz := sz) (ad := ad) hl p1 u q1 hq1) (Nat.le_trans (Nat.le_of_ble_eq_true rfl) hdd) (As := [.inl (.int p1)]) rfl ⟨Nat.le_of_ble_eq_true rfl, Nat.le_of_ble_eq_true rfl⟩ (fun _ => Nat.le_of_ble_eq_true rfl) rfl ?_
    obtain ⟨q2, hq2, h⟩ := ts_bd h
    have Mq2 := (m_X6_requireIndex (D := D) (dT := dT) (sz := sz) (ad := ad) hl q1 u q2 hq2)
    rcases q2 with v3 | e4
    · have h := ts_eL h
      refine tv_callS C (pc := 4) dX6_valueAt_4 yl_X6_71 Mq2 (Nat.le_trans (Nat.le_of_ble_eq_true rfl) hdd) (As := [.inl (.int q1)]) rfl ⟨Nat.le_of_ble_eq_true rfl, Nat.le_of_ble_eq_true rfl⟩ (fun _ => Nat.le_of_ble_eq_true rfl) rfl ?_
      refine tv_aload_n C (pc := 7) dX6_valueAt_7 rfl rfl ?_
      refine tv_getR C (pc := 8) dX6_valueAt_8 fl_X6_12 (ts_live (k := 0) (by decide) (by decide) (by decide)) rfl rfl (i2 := (1, 0, 0)) rfl ?_
      refine tv_aload_n C (pc := 11) dX6_valueAt_11 rfl rfl ?_
      refine tv_getR C (pc := 12) dX6_valueAt_12 fl_X6_12 (ts_live (k := 0) (by decide) (by decide) (by decide)) rfl rfl (i2 := (1, 0, 0)) rfl ?_
      refine tv_getR C (pc := 15) dX6_valueAt_15 fl_X6_142 (ts_live (k := 1) (by decide) (by decide) (by decide)) rfl rfl (i2 := (3, 0, 0)) rfl ?_
      refine tv_iload_n C (pc := 18) dX6_valueAt_18 rfl rfl ?_
      obtain ⟨hr5, h⟩ := ts_gd h
      refine tv_aaload6 C (pc := 19) dX6_valueAt_19 (ts_live (k := 3) (by decide) (by decide) (by decide)) rfl hr5 (j := p1.toNatClampNeg) rfl (i2 := (16, 0, p1.toNatClampNeg)) rfl ?_
      refine tv_iload_n C (pc := 20) dX6_valueAt_20 rfl rfl ?_
      obtain ⟨q6, hq6, h⟩ := ts_bd h
      refine tv_callV C (pc := 21) dX6_valueAt_21 (ci := 0) (q := (RX0, TX0, 8)) rfl yl_X6_161 (m_X0_lastCommittedAtMost (D := D) (dT := dT) (sz := sz) (ad := ad) hl 0 (by decide) 0 (by decide) p1.toNatClampNeg (ts_vin hr5) p2 u q6 hq6) (ts_live (k := 1) (by decide) (by decide) (by decide)) rfl (Nat.le_trans (Nat.le_of_ble_eq_true rfl) hdd) (As := [.inr (16, 0, p1.toNatClampNeg), .inl (.int p2)]) rfl ⟨Nat.le_of_ble_eq_true rfl, Nat.le_of_ble_eq_true rfl⟩ (fun _ => Nat.le_of_ble_eq_true rfl) rfl ?_
      refine tv_istore_n C (pc := 24) dX6_valueAt_24 (L' := [some (.inr (0, 0, 0)), some (.inl (.int p1)), some (.inl (.int p2)), some (.inl (.int q6))]) rfl (by decide) rfl rfl ?_
      refine tv_iload_n C (pc := 25) dX6_valueAt_25 rfl rfl ?_
      refine tv_if_lt C (pc := 26) 33 dX6_valueAt_26 (by decide) (fun hc => ?_) (fun hc => ?_)
      · have h := ts_ifp h hc
        refine tv_iconst C (pc := 33) dX6_valueAt_33 (v := (0 : Int32)) rfl ?_
        obtain ⟨q7, hq7, h⟩ := ts_bd h
        have Mq7 := (m_X6_requireElement (D := D) (dT := dT) (sz := sz) (ad := ad) hl (0 : Int32) u q7 hq7)
        rcases q7 with v8 | e9
        · have h := ts_eL h
          refine tv_callS C (pc := 34) dX6_valueAt_34 yl_X6_106 Mq7 (Nat.le_trans (Nat.le_of_ble_eq_true rfl) hdd) (As := [.inl (.int (0 : Int32))]) rfl ⟨Nat.le_of_ble_eq_true rfl, Nat.le_of_ble_eq_true rfl⟩ (fun _ => Nat.le_of_ble_eq_true rfl) rfl ?_
          refine tv_aload_n C (pc := 37) dX6_valueAt_37 rfl rfl ?_
          refine tv_getR C (pc := 38) dX6_valueAt_38 fl_X6_12 (ts_live (k := 0) (by decide) (by decide) (by decide)) rfl rfl (i2 := (1, 0, 0)) rfl ?_
          refine tv_getR C (pc := 41) dX6_valueAt_41 fl_X6_142 (ts_live (k := 1) (by decide) (by decide) (by decide)) rfl rfl (i2 := (3, 0, 0)) rfl ?_
          refine tv_iload_n C (pc := 44) dX6_valueAt_44 rfl rfl ?_
          obtain ⟨hr10, h⟩ := ts_gd h
          refine tv_aaload6 C (pc := 45) dX6_valueAt_45 (ts_live (k := 3) (by decide) (by decide) (by decide)) rfl hr10 (j := p1.toNatClampNeg) rfl (i2 := (16, 0, p1.toNatClampNeg)) rfl ?_
          refine tv_getR C (pc := 46) dX6_valueAt_46 fl_X6_165 (ts_live (k := 16) (by decide) (by decide) (ts_vin hr10)) rfl rfl (i2 := (19, 0, p1.toNatClampNeg)) rfl ?_
          refine tv_iload_n C (pc := 49) dX6_valueAt_49 rfl rfl ?_
          obtain ⟨hr11, h⟩ := ts_gd h
          refine tv_iaload C (pc := 50) dX6_valueAt_50 (ts_live (k := 19) (by decide) (by decide) (ts_vin hr10)) rfl hr11 (j := q6.toNatClampNeg) rfl ?_
          cases h
          exact tv_iret C (pc := 51) rfl dX6_valueAt_51 ⟨Nat.le_of_ble_eq_true rfl, Nat.le_of_ble_eq_true rfl⟩
        · have h := ts_eR h
          cases h
          exact tv_callS_thr C (pc := 34) hX dX6_valueAt_34 yl_X6_106 Mq7 (Nat.le_trans (Nat.le_of_ble_eq_true rfl) hdd) (As := [.inl (.int (0 : Int32))]) rfl ⟨Nat.le_of_ble_eq_true rfl, Nat.le_of_ble_eq_true rfl⟩ (fun _ => Nat.le_of_ble_eq_true rfl) rfl ⟨Nat.le_of_ble_eq_true rfl, Nat.le_of_ble_eq_true rfl⟩
      · have h := ts_ifn h hc
        refine tv_iconst C (pc := 29) dX6_valueAt_29 (v := (1 : Int32)) rfl ?_
        refine tv_goto C (pc := 30) 34 dX6_valueAt_30 (by decide) ?_
        obtain ⟨q12, hq12, h⟩ := ts_bd h
        have Mq12 := (m_X6_requireElement (D := D) (dT := dT) (sz := sz) (ad := ad) hl (1 : Int32) u q12 hq12)
        rcases q12 with v13 | e14
        · have h := ts_eL h
          refine tv_callS C (pc := 34) dX6_valueAt_34 yl_X6_106 Mq12 (Nat.le_trans (Nat.le_of_ble_eq_true rfl) hdd) (As := [.inl (.int (1 : Int32))]) rfl ⟨Nat.le_of_ble_eq_true rfl, Nat.le_of_ble_eq_true rfl⟩ (fun _ => Nat.le_of_ble_eq_true rfl) rfl ?_
          refine tv_aload_n C (pc := 37) dX6_valueAt_37 rfl rfl ?_
          refine tv_getR C (pc := 38) dX6_valueAt_38 fl_X6_12 (ts_live (k := 0) (by decide) (by decide) (by decide)) rfl rfl (i2 := (1, 0, 0)) rfl ?_
          refine tv_getR C (pc := 41) dX6_valueAt_41 fl_X6_142 (ts_live (k := 1) (by decide) (by decide) (by decide)) rfl rfl (i2 := (3, 0, 0)) rfl ?_
          refine tv_iload_n C (pc := 44) dX6_valueAt_44 rfl rfl ?_
          obtain ⟨hr15, h⟩ := ts_gd h
          refine tv_aaload6 C (pc := 45) dX6_valueAt_45 (ts_live (k := 3) (by decide) (by decide) (by decide)) rfl hr15 (j := p1.toNatClampNeg) rfl (i2 := (16, 0, p1.toNatClampNeg)) rfl ?_
          refine tv_getR C (pc := 46) dX6_valueAt_46 fl_X6_165 (ts_live (k := 16) (by decide) (by decide) (ts_vin hr15)) rfl rfl (i2 := (19, 0, p1.toNatClampNeg)) rfl ?_
          refine tv_iload_n C (pc := 49) dX6_valueAt_49 rfl rfl ?_
          obtain ⟨hr16, h⟩ := ts_gd h
          refine tv_iaload C (pc := 50) dX6_valueAt_50 (ts_live (k := 19) (by decide) (by decide) (ts_vin hr15)) rfl hr16 (j := q6.toNatClampNeg) rfl ?_
          cases h
          exact tv_iret C (pc := 51) rfl dX6_valueAt_51 ⟨Nat.le_of_ble_eq_true rfl, Nat.le_of_ble_eq_true rfl⟩
        · have h := ts_eR h
          cases h
          exact tv_callS_thr C (pc := 34) hX dX6_valueAt_34 yl_X6_106 Mq12 (Nat.le_trans (Nat.le_of_ble_eq_true rfl) hdd) (As := [.inl (.int (1 : Int32))]) rfl ⟨Nat.le_of_ble_eq_true rfl, Nat.le_of_ble_eq_true rfl⟩ (fun _ => Nat.le_of_ble_eq_true rfl) rfl ⟨Nat.le_of_ble_eq_true rfl, Nat.le_of_ble_eq_true rfl⟩
    · have h := ts_eR h
      cases h
      exact tv_callS_thr C (pc := 4) hX dX6_valueAt_4 yl_X6_71 Mq2 (Nat.le_trans (Nat.le_of_ble_eq_true rfl) hdd) (As := [.inl (.int q1)]) rfl ⟨Nat.le_of_ble_eq_true rfl, Nat.le_of_ble_eq_true rfl⟩ (fun _ => Nat.le_of_ble_eq_true rfl) rfl ⟨Nat.le_of_ble_eq_true rfl, Nat.le_of_ble_eq_true rfl⟩
set_option maxRecDepth 100000 in
set_option maxHeartbeats 4000000 in
theorem m_X6_collect {l : Launch} {D : va_G} {dT : Nat → ClassId} {sz : Nat} {ad : ts_I → Nat} (hl : l.stackTraces = false)  (u : ts_Mem) (r : (Int32 × ts_Mem)) (h : f_X6_collect  u = some r) : ts_M l D dT sz yX6_collect wX6_collect 4 0 0 ad ts_lv ts_R0 [.inr (0, 0, 0)] u (.inl (some (.int r.1))) r.2 := by
    unfold f_X6_collect at h
    refine ts_enter hl (by decide) rfl rfl (Nat.le_of_ble_eq_true rfl) ?_
    intro p e s m args below meth c C hX hnm
    have C : ts_CX D dT sz p l (ts_rm 4 0 0) s m args meth c RX6 cX6_collect 1 (some .int) 4 := C
    have hdd : 4 ≤ 4 := Nat.le_refl _
    refine tv_aload_n C (pc := 0) dX6_collect_0 rfl rfl ?_
    refine tv_getR C (pc := 1) dX6_collect_1 fl_X6_12 (ts_live (k := 0) (by decide) (by decide) (by decide)) rfl rfl (i2 := (1, 0, 0)) rfl ?_
    obtain ⟨q1, hq1, h⟩ := ts_bd h
    refine tv_callV C (pc := 4) dX6_collect_4 (ci := 0) (q := (RX0, TX0, 8)) rfl yl_X6_168 (m_X0_removeOldVersions (D := D) (dT := dT) (sz := sz) (ad := ad) hl 0 (by decide) u q1 hq1) (ts_live (k := 1) (by decide) (by decide) (by decide)) rfl (Nat.le_trans (Nat.le_of_ble_eq_true rfl) hdd) (As := []) rfl ⟨Nat.le_of_ble_eq_true rfl, Nat.le_of_ble_eq_true rfl⟩ (fun _ => Nat.le_of_ble_eq_true rfl) rfl ?_
    cases h
    exact tv_iret C (pc := 7) rfl dX6_collect_7 ⟨Nat.le_of_ble_eq_true rfl, Nat.le_of_ble_eq_true rfl⟩
set_option maxRecDepth 100000 in
set_option maxHeartbeats 4000000 in
theorem m_X6_horizon {l : Launch} {D : va_G} {dT : Nat → ClassId} {sz : Nat} {ad : ts_I → Nat} (hl : l.stackTraces = false)  (u : ts_Mem) (r : Int32) (h : f_X6_horizon  u = some r) : ts_M l D dT sz yX6_horizon wX6_horizon 2 0 0 ad ts_lv ts_R0 [.inr (0, 0, 0)] u (.inl (some (.int r))) u := by
    unfold f_X6_horizon at h
    refine ts_enter hl (by decide) rfl rfl (Nat.le_of_ble_eq_true rfl) ?_
    intro p e s m args below meth c C hX hnm
    have C : ts_CX D dT sz p l (ts_rm 2 0 0) s m args meth c RX6 cX6_horizon 1 (some .int) 2 := C
    have hdd : 2 ≤ 2 := Nat.le_refl _
    refine tv_aload_n C (pc := 0) dX6_horizon_0 rfl rfl ?_
    refine tv_getR C (pc := 1) dX6_horizon_1 fl_X6_12 (ts_live (k := 0) (by decide) (by decide) (by decide)) rfl rfl (i2 := (1, 0, 0)) rfl ?_
    obtain ⟨q1, hq1, h⟩ := ts_bd h
    refine tv_callV C (pc := 4) dX6_horizon_4 (ci := 0) (q := (RX0, TX0, 8)) rfl yl_X6_171 (m_X0_lowestNeededTimestamp (D := D) (dT := dT) (sz := sz) (ad := ad) hl 0 (by decide) u q1 hq1) (ts_live (k := 1) (by decide) (by decide) (by decide)) rfl (Nat.le_trans (Nat.le_of_ble_eq_true rfl) hdd) (As := []) rfl ⟨Nat.le_of_ble_eq_true rfl, Nat.le_of_ble_eq_true rfl⟩ (fun _ => Nat.le_of_ble_eq_true rfl) rfl ?_
    cases h
    exact tv_iret C (pc := 7) rfl dX6_horizon_7 ⟨Nat.le_of_ble_eq_true rfl, Nat.le_of_ble_eq_true rfl⟩
set_option maxRecDepth 100000 in
set_option maxHeartbeats 4000000 in
theorem m_X6_check {l : Launch} {D : va_G} {dT : Nat → ClassId} {sz : Nat} {ad : ts_I → Nat} (hl : l.stackTraces = false)  (u : ts_Mem) (r : (Int32 × ts_Mem)) (h : f_X6_check  u = some r) : ts_M l D dT sz yX6_check wX6_check 4 0 0 ad ts_lv ts_R0 [.inr (0, 0, 0)] u (.inl (some (.int r.1))) r.2 := by
    unfold f_X6_check at h
    refine ts_enter hl (by decide) rfl rfl (Nat.le_of_ble_eq_true rfl) ?_
    intro p e s m args below meth c C hX hnm
    have C : ts_CX D dT sz p l (ts_rm 4 0 0) s m args meth c RX6 cX6_check 1 (some .int) 4 := C
    have hdd : 4 ≤ 4 := Nat.le_refl _
    refine tv_aload_n C (pc := 0) dX6_check_0 rfl rfl ?_
    refine tv_getR C (pc := 1) dX6_check_1 fl_X6_12 (ts_live (k := 0) (by decide) (by decide) (by decide)) rfl rfl (i2 := (1, 0, 0)) rfl ?_
    obtain ⟨q1, hq1, h⟩ := ts_bd h
    refine tv_callV C (pc := 4) dX6_check_4 (ci := 0) (q := (RX0, TX0, 8)) rfl yl_X6_174 (m_X0_serialDifferences (D := D) (dT := dT) (sz := sz) (ad := ad) hl 0 (by decide) u q1 hq1) (ts_live (k := 1) (by decide) (by decide) (by decide)) rfl (Nat.le_trans (Nat.le_of_ble_eq_true rfl) hdd) (As := []) rfl ⟨Nat.le_of_ble_eq_true rfl, Nat.le_of_ble_eq_true rfl⟩ (fun _ => Nat.le_of_ble_eq_true rfl) rfl ?_
    cases h
    exact tv_iret C (pc := 7) rfl dX6_check_7 ⟨Nat.le_of_ble_eq_true rfl, Nat.le_of_ble_eq_true rfl⟩
set_option maxRecDepth 100000 in
set_option maxHeartbeats 4000000 in
theorem m_X6_eventCount {l : Launch} {D : va_G} {dT : Nat → ClassId} {sz : Nat} {ad : ts_I → Nat} (hl : l.stackTraces = false)  (u : ts_Mem) (r : Int32) (h : f_X6_eventCount  u = some r) : ts_M l D dT sz yX6_eventCount wX6_eventCount 0 0 0 ad ts_lv ts_R0 [.inr (0, 0, 0)] u (.inl (some (.int r))) u := by
    unfold f_X6_eventCount at h
    refine ts_enter hl (by decide) rfl rfl (Nat.le_of_ble_eq_true rfl) ?_
    intro p e s m args below meth c C hX hnm
    have C : ts_CX D dT sz p l (ts_rm 0 0 0) s m args meth c RX6 cX6_eventCount 1 (some .int) 0 := C
    have hdd : 0 ≤ 0 := Nat.le_refl _
    refine tv_aload_n C (pc := 0) dX6_eventCount_0 rfl rfl ?_
    refine tv_getR C (pc := 1) dX6_eventCount_1 fl_X6_12 (ts_live (k := 0) (by decide) (by decide) (by decide)) rfl rfl (i2 := (1, 0, 0)) rfl ?_
    refine tv_getR C (pc := 4) dX6_eventCount_4 fl_X6_177 (ts_live (k := 1) (by decide) (by decide) (by decide)) rfl rfl (i2 := (4, 0, 0)) rfl ?_
    refine tv_getI C (pc := 7) dX6_eventCount_7 fl_X6_181 (ts_live (k := 4) (by decide) (by decide) (by decide)) rfl (cd := 0) rfl (by decide) ?_
    cases h
    exact tv_iret C (pc := 10) rfl dX6_eventCount_10 ⟨Nat.le_of_ble_eq_true rfl, Nat.le_of_ble_eq_true rfl⟩
set_option maxRecDepth 100000 in
set_option maxHeartbeats 4000000 in
theorem m_X6_event {l : Launch} {D : va_G} {dT : Nat → ClassId} {sz : Nat} {ad : ts_I → Nat} (hl : l.stackTraces = false) (p1 : Int32) (p2 : Int32) (u : ts_Mem) (r : (Int32 ⊕ String)) (h : f_X6_event p1 p2 u = some r) : ts_M l D dT sz yX6_event wX6_event 1 1 6 ad ts_lv ts_R0 [.inr (0, 0, 0), .inl (.int p1), .inl (.int p2)] u (ts_oI r) u := by
    unfold f_X6_event at h
    refine ts_enter hl (by decide) rfl rfl (Nat.le_of_ble_eq_true rfl) ?_
    intro p e s m args below meth c C hX hnm
    have C : ts_CX D dT sz p l (ts_rm 1 1 6) s m args meth c RX6 cX6_event 3 (some .int) 1 := C
    have hdd : 1 ≤ 1 := Nat.le_refl _
    refine tv_iload_n C (pc := 0) dX6_event_0 rfl rfl ?_
    refine tv_if_lt C (pc := 1) 31 dX6_event_1 (by decide) (fun hc => ?_) (fun hc => ?_)
    · have h := ts_ifp h hc
      refine tv_iconst C (pc := 31) dX6_event_31 (v := (0 : Int32)) rfl ?_
      obtain ⟨q1, hq1, h⟩ := ts_bd h
      have Mq1 := (m_X6_requireIndex (D := D) (dT := dT) (sz := sz) (ad := ad) hl (0 : Int32) u q1 hq1)
      rcases q1 with v2 | e3
      · have h := ts_eL h
        refine tv_callS C (pc := 32) dX6_event_32 yl_X6_71 Mq1 (Nat.le_trans (Nat.le_of_ble_eq_true rfl) hdd) (As := [.inl (.int (0 : Int32))]) rfl ⟨Nat.le_of_ble_eq_true rfl, Nat.le_of_ble_eq_true rfl⟩ (fun _ => Nat.le_of_ble_eq_true rfl) rfl ?_
        refine tv_aload_n C (pc := 35) dX6_event_35 rfl rfl ?_
        refine tv_getR C (pc := 36) dX6_event_36 fl_X6_12 (ts_live (k := 0) (by decide) (by decide) (by decide)) rfl rfl (i2 := (1, 0, 0)) rfl ?_
        refine tv_getR C (pc := 39) dX6_event_39 fl_X6_177 (ts_live (k := 1) (by decide) (by decide) (by decide)) rfl rfl (i2 := (4, 0, 0)) rfl ?_
        refine tv_iload_n C (pc := 42) dX6_event_42 rfl rfl ?_
        refine tv_iload_n C (pc := 43) dX6_event_43 rfl rfl ?_
        obtain ⟨q4, hq4, h⟩ := ts_bd h
        refine tv_callV C (pc := 44) dX6_event_44 (ci := 2) (q := (RX2, TX2, 6)) rfl yl_X6_184 (m_X2_column (D := D) (dT := dT) (sz := sz) (ad := ad) hl 0 (by decide) p1 p2 u q4 hq4) (ts_live (k := 4) (by decide) (by decide) (by decide)) rfl (Nat.le_trans (Nat.le_of_ble_eq_true rfl) hdd) (As := [.inl (.int p1), .inl (.int p2)]) rfl ⟨Nat.le_of_ble_eq_true rfl, Nat.le_of_ble_eq_true rfl⟩ (fun _ => Nat.le_of_ble_eq_true rfl) rfl ?_
        cases h
        exact tv_iret C (pc := 47) rfl dX6_event_47 ⟨Nat.le_of_ble_eq_true rfl, Nat.le_of_ble_eq_true rfl⟩
      · have h := ts_eR h
        cases h
        exact tv_callS_thr C (pc := 32) hX dX6_event_32 yl_X6_71 Mq1 (Nat.le_trans (Nat.le_of_ble_eq_true rfl) hdd) (As := [.inl (.int (0 : Int32))]) rfl ⟨Nat.le_of_ble_eq_true rfl, Nat.le_of_ble_eq_true rfl⟩ (fun _ => Nat.le_of_ble_eq_true rfl) rfl ⟨Nat.le_of_ble_eq_true rfl, Nat.le_of_ble_eq_true rfl⟩
    · have h := ts_ifn h hc
      refine tv_iload_n C (pc := 4) dX6_event_4 rfl rfl ?_
      refine tv_aload_n C (pc := 5) dX6_event_5 rfl rfl ?_
      refine tv_getR C (pc := 6) dX6_event_6 fl_X6_12 (ts_live (k := 0) (by decide) (by decide) (by decide)) rfl rfl (i2 := (1, 0, 0)) rfl ?_
      refine tv_getR C (pc := 9) dX6_event_9 fl_X6_177 (ts_live (k := 1) (by decide) (by decide) (by decide)) rfl rfl (i2 := (4, 0, 0)) rfl ?_
      refine tv_getI C (pc := 12) dX6_event_12 fl_X6_181 (ts_live (k := 4) (by decide) (by decide) (by decide)) rfl (cd := 0) rfl (by decide) ?_
      refine tv_icmp_ge C (pc := 15) 31 dX6_event_15 (by decide) (fun hc => ?_) (fun hc => ?_)
      · have h := ts_ifp h hc
        refine tv_iconst C (pc := 31) dX6_event_31 (v := (0 : Int32)) rfl ?_
        obtain ⟨q5, hq5, h⟩ := ts_bd h
        have Mq5 := (m_X6_requireIndex (D := D) (dT := dT) (sz := sz) (ad := ad) hl (0 : Int32) u q5 hq5)
        rcases q5 with v6 | e7
        · have h := ts_eL h
          refine tv_callS C (pc := 32) dX6_event_32 yl_X6_71 Mq5 (Nat.le_trans (Nat.le_of_ble_eq_true rfl) hdd) (As := [.inl (.int (0 : Int32))]) rfl ⟨Nat.le_of_ble_eq_true rfl, Nat.le_of_ble_eq_true rfl⟩ (fun _ => Nat.le_of_ble_eq_true rfl) rfl ?_
          refine tv_aload_n C (pc := 35) dX6_event_35 rfl rfl ?_
          refine tv_getR C (pc := 36) dX6_event_36 fl_X6_12 (ts_live (k := 0) (by decide) (by decide) (by decide)) rfl rfl (i2 := (1, 0, 0)) rfl ?_
          refine tv_getR C (pc := 39) dX6_event_39 fl_X6_177 (ts_live (k := 1) (by decide) (by decide) (by decide)) rfl rfl (i2 := (4, 0, 0)) rfl ?_
          refine tv_iload_n C (pc := 42) dX6_event_42 rfl rfl ?_
          refine tv_iload_n C (pc := 43) dX6_event_43 rfl rfl ?_
          obtain ⟨q8, hq8, h⟩ := ts_bd h
          refine tv_callV C (pc := 44) dX6_event_44 (ci := 2) (q := (RX2, TX2, 6)) rfl yl_X6_184 (m_X2_column (D := D) (dT := dT) (sz := sz) (ad := ad) hl 0 (by decide) p1 p2 u q8 hq8) (ts_live (k := 4) (by decide) (by decide) (by decide)) rfl (Nat.le_trans (Nat.le_of_ble_eq_true rfl) hdd) (As := [.inl (.int p1), .inl (.int p2)]) rfl ⟨Nat.le_of_ble_eq_true rfl, Nat.le_of_ble_eq_true rfl⟩ (fun _ => Nat.le_of_ble_eq_true rfl) rfl ?_
          cases h
          exact tv_iret C (pc := 47) rfl dX6_event_47 ⟨Nat.le_of_ble_eq_true rfl, Nat.le_of_ble_eq_true rfl⟩
        · have h := ts_eR h
          cases h
          exact tv_callS_thr C (pc := 32) hX dX6_event_32 yl_X6_71 Mq5 (Nat.le_trans (Nat.le_of_ble_eq_true rfl) hdd) (As := [.inl (.int (0 : Int32))]) rfl ⟨Nat.le_of_ble_eq_true rfl, Nat.le_of_ble_eq_true rfl⟩ (fun _ => Nat.le_of_ble_eq_true rfl) rfl ⟨Nat.le_of_ble_eq_true rfl, Nat.le_of_ble_eq_true rfl⟩
      · have h := ts_ifn h hc
        refine tv_iload_n C (pc := 18) dX6_event_18 rfl rfl ?_
        refine tv_if_lt C (pc := 19) 31 dX6_event_19 (by decide) (fun hc => ?_) (fun hc => ?_)
        · have h := ts_ifp h hc
          refine tv_iconst C (pc := 31) dX6_event_31 (v := (0 : Int32)) rfl ?_
          obtain ⟨q9, hq9, h⟩ := ts_bd h
          have Mq9 := (m_X6_requireIndex (D := D) (dT := dT) (sz := sz) (ad := ad) hl (0 : Int32) u q9 hq9)
          rcases q9 with v10 | e11
          · have h := ts_eL h
            refine tv_callS C (pc := 32) dX6_event_32 yl_X6_71 Mq9 (Nat.le_trans (Nat.le_of_ble_eq_true rfl) hdd) (As := [.inl (.int (0 : Int32))]) rfl ⟨Nat.le_of_ble_eq_true rfl, Nat.le_of_ble_eq_true rfl⟩ (fun _ => Nat.le_of_ble_eq_true rfl) rfl ?_
            refine tv_aload_n C (pc := 35) dX6_event_35 rfl rfl ?_
            refine tv_getR C (pc := 36) dX6_event_36 fl_X6_12 (ts_live (k := 0) (by decide) (by decide) (by decide)) rfl rfl (i2 := (1, 0, 0)) rfl ?_
            refine tv_getR C (pc := 39) dX6_event_39 fl_X6_177 (ts_live (k := 1) (by decide) (by decide) (by decide)) rfl rfl (i2 := (4, 0, 0)) rfl ?_
            refine tv_iload_n C (pc := 42) dX6_event_42 rfl rfl ?_
            refine tv_iload_n C (pc := 43) dX6_event_43 rfl rfl ?_
            obtain ⟨q12, hq12, h⟩ := ts_bd h
            refine tv_callV C (pc := 44) dX6_event_44 (ci := 2) (q := (RX2, TX2, 6)) rfl yl_X6_184 (m_X2_column (D := D) (dT := dT) (sz := sz) (ad := ad) hl 0 (by decide) p1 p2 u q12 hq12) (ts_live (k := 4) (by decide) (by decide) (by decide)) rfl (Nat.le_trans (Nat.le_of_ble_eq_true rfl) hdd) (As := [.inl (.int p1), .inl (.int p2)]) rfl ⟨Nat.le_of_ble_eq_true rfl, Nat.le_of_ble_eq_true rfl⟩ (fun _ => Nat.le_of_ble_eq_true rfl) rfl ?_
            cases h
            exact tv_iret C (pc := 47) rfl dX6_event_47 ⟨Nat.le_of_ble_eq_true rfl, Nat.le_of_ble_eq_true rfl⟩
          · have h := ts_eR h
            cases h
            exact tv_callS_thr C (pc := 32) hX dX6_event_32 yl_X6_71 Mq9 (Nat.le_trans (Nat.le_of_ble_eq_true rfl) hdd) (As := [.inl (.int (0 : Int32))]) rfl ⟨Nat.le_of_ble_eq_true rfl, Nat.le_of_ble_eq_true rfl⟩ (fun _ => Nat.le_of_ble_eq_true rfl) rfl ⟨Nat.le_of_ble_eq_true rfl, Nat.le_of_ble_eq_true rfl⟩
        · have h := ts_ifn h hc
          refine tv_iload_n C (pc := 22) dX6_event_22 rfl rfl ?_
          refine tv_iconst C (pc := 23) dX6_event_23 (v := (2 : Int32)) rfl ?_
          refine tv_icmp_gt C (pc := 24) 31 dX6_event_24 (by decide) (fun hc => ?_) (fun hc => ?_)
          · have h := ts_ifp h hc
            refine tv_iconst C (pc := 31) dX6_event_31 (v := (0 : Int32)) rfl ?_
            obtain ⟨q13, hq13, h⟩ := ts_bd h
            have Mq13 := (m_X6_requireIndex (D := D) (dT := dT) (sz := sz) (ad := ad) hl (0 : Int32) u q13 hq13)
            rcases q13 with v14 | e15
            · have h := ts_eL h
              refine tv_callS C (pc := 32) dX6_event_32 yl_X6_71 Mq13 (Nat.le_trans (Nat.le_of_ble_eq_true rfl) hdd) (As := [.inl (.int (0 : Int32))]) rfl ⟨Nat.le_of_ble_eq_true rfl, Nat.le_of_ble_eq_true rfl⟩ (fun _ => Nat.le_of_ble_eq_true rfl) rfl ?_
              refine tv_aload_n C (pc := 35) dX6_event_35 rfl rfl ?_
              refine tv_getR C (pc := 36) dX6_event_36 fl_X6_12 (ts_live (k := 0) (by decide) (by decide) (by decide)) rfl rfl (i2 := (1, 0, 0)) rfl ?_
              refine tv_getR C (pc := 39) dX6_event_39 fl_X6_177 (ts_live (k := 1) (by decide) (by decide) (by decide)) rfl rfl (i2 := (4, 0, 0)) rfl ?_
              refine tv_iload_n C (pc := 42) dX6_event_42 rfl rfl ?_
              refine tv_iload_n C (pc := 43) dX6_event_43 rfl rfl ?_
              obtain ⟨q16, hq16, h⟩ := ts_bd h
              refine tv_callV C (pc := 44) dX6_event_44 (ci := 2) (q := (RX2, TX2, 6)) rfl yl_X6_184 (m_X2_column (D := D) (dT := dT) (sz := sz) (ad := ad) hl 0 (by decide) p1 p2 u q16 hq16) (ts_live (k := 4) (by decide) (by decide) (by decide)) rfl (Nat.le_trans (Nat.le_of_ble_eq_true rfl) hdd) (As := [.inl (.int p1), .inl (.int p2)]) rfl ⟨Nat.le_of_ble_eq_true rfl, Nat.le_of_ble_eq_true rfl⟩ (fun _ => Nat.le_of_ble_eq_true rfl) rfl ?_
              cases h
              exact tv_iret C (pc := 47) rfl dX6_event_47 ⟨Nat.le_of_ble_eq_true rfl, Nat.le_of_ble_eq_true rfl⟩
            · have h := ts_eR h
              cases h
              exact tv_callS_thr C (pc := 32) hX dX6_event_32 yl_X6_71 Mq13 (Nat.le_trans (Nat.le_of_ble_eq_true rfl) hdd) (As := [.inl (.int (0 : Int32))]) rfl ⟨Nat.le_of_ble_eq_true rfl, Nat.le_of_ble_eq_true rfl⟩ (fun _ => Nat.le_of_ble_eq_true rfl) rfl ⟨Nat.le_of_ble_eq_true rfl, Nat.le_of_ble_eq_true rfl⟩
          · have h := ts_ifn h hc
            refine tv_iconst C (pc := 27) dX6_event_27 (v := (1 : Int32)) rfl ?_
            refine tv_goto C (pc := 28) 32 dX6_event_28 (by decide) ?_
            obtain ⟨q17, hq17, h⟩ := ts_bd h
            have Mq17 := (m_X6_requireIndex (D := D) (dT := dT) (sz := sz) (ad := ad) hl (1 : Int32) u q17 hq17)
            rcases q17 with v18 | e19
            · have h := ts_eL h
              refine tv_callS C (pc := 32) dX6_event_32 yl_X6_71 Mq17 (Nat.le_trans (Nat.le_of_ble_eq_true rfl) hdd) (As := [.inl (.int (1 : Int32))]) rfl ⟨Nat.le_of_ble_eq_true rfl, Nat.le_of_ble_eq_true rfl⟩ (fun _ => Nat.le_of_ble_eq_true rfl) rfl ?_
              refine tv_aload_n C (pc := 35) dX6_event_35 rfl rfl ?_
              refine tv_getR C (pc := 36) dX6_event_36 fl_X6_12 (ts_live (k := 0) (by decide) (by decide) (by decide)) rfl rfl (i2 := (1, 0, 0)) rfl ?_
              refine tv_getR C (pc := 39) dX6_event_39 fl_X6_177 (ts_live (k := 1) (by decide) (by decide) (by decide)) rfl rfl (i2 := (4, 0, 0)) rfl ?_
              refine tv_iload_n C (pc := 42) dX6_event_42 rfl rfl ?_
              refine tv_iload_n C (pc := 43) dX6_event_43 rfl rfl ?_
              obtain ⟨q20, hq20, h⟩ := ts_bd h
              refine tv_callV C (pc := 44) dX6_event_44 (ci := 2) (q := (RX2, TX2, 6)) rfl yl_X6_184 (m_X2_column (D := D) (dT := dT) (sz := sz) (ad := ad) hl 0 (by decide) p1 p2 u q20 hq20) (ts_live (k := 4) (by decide) (by decide) (by decide)) rfl (Nat.le_trans (Nat.le_of_ble_eq_true rfl) hdd) (As := [.inl (.int p1), .inl (.int p2)]) rfl ⟨Nat.le_of_ble_eq_true rfl, Nat.le_of_ble_eq_true rfl⟩ (fun _ => Nat.le_of_ble_eq_true rfl) rfl ?_
              cases h
              exact tv_iret C (pc := 47) rfl dX6_event_47 ⟨Nat.le_of_ble_eq_true rfl, Nat.le_of_ble_eq_true rfl⟩
            · have h := ts_eR h
              cases h
              exact tv_callS_thr C (pc := 32) hX dX6_event_32 yl_X6_71 Mq17 (Nat.le_trans (Nat.le_of_ble_eq_true rfl) hdd) (As := [.inl (.int (1 : Int32))]) rfl ⟨Nat.le_of_ble_eq_true rfl, Nat.le_of_ble_eq_true rfl⟩ (fun _ => Nat.le_of_ble_eq_true rfl) rfl ⟨Nat.le_of_ble_eq_true rfl, Nat.le_of_ble_eq_true rfl⟩
set_option maxRecDepth 100000 in
set_option maxHeartbeats 4000000 in
theorem m_X6_total {l : Launch} {D : va_G} {dT : Nat → ClassId} {sz : Nat} {ad : ts_I → Nat} (hl : l.stackTraces = false) (p1 : Int32) (u : ts_Mem) (r : (Int32 ⊕ String)) (h : f_X6_total p1 u = some r) : ts_M l D dT sz yX6_total wX6_total 1 1 6 ad ts_lv ts_R0 [.inr (0, 0, 0), .inl (.int p1)] u (ts_oI r) u := by
    unfold f_X6_total at h
    refine ts_enter hl (by decide) rfl rfl (Nat.le_of_ble_eq_true rfl) ?_
    intro p e s m args below meth c C hX hnm
    have C : ts_CX D dT sz p l (ts_rm 1 1 6) s m args meth c RX6 cX6_total 2 (some .int) 1 := C
    have hdd : 1 ≤ 1 := Nat.le_refl _
    refine tv_iload_n C (pc := 0) dX6_total_0 rfl rfl ?_
    refine tv_if_lt C (pc := 1) 14 dX6_total_1 (by decide) (fun hc => ?_) (fun hc => ?_)
    · have h := ts_ifp h hc
      refine tv_iconst C (pc := 14) dX6_total_14 (v := (0 : Int32)) rfl ?_
      obtain ⟨q1, hq1, h⟩ := ts_bd h
      have Mq1 := (m_X6_requireArgument (D := D) (dT := dT) (sz := sz) (ad := ad) hl (0 : Int32) u q1 hq1)
      rcases q1 with v2 | e3
      · have h := ts_eL h
        refine tv_callS C (pc := 15) dX6_total_15 yl_X6_43 Mq1 (Nat.le_trans (Nat.le_of_ble_eq_true rfl) hdd) (As := [.inl (.int (0 : Int32))]) rfl ⟨Nat.le_of_ble_eq_true rfl, Nat.le_of_ble_eq_true rfl⟩ (fun _ => Nat.le_of_ble_eq_true rfl) rfl ?_
        refine tv_aload_n C (pc := 18) dX6_total_18 rfl rfl ?_
        refine tv_getR C (pc := 19) dX6_total_19 fl_X6_12 (ts_live (k := 0) (by decide) (by decide) (by decide)) rfl rfl (i2 := (1, 0, 0)) rfl ?_
        refine tv_getR C (pc := 22) dX6_total_22 fl_X6_177 (ts_live (k := 1) (by decide) (by decide) (by decide)) rfl rfl (i2 := (4, 0, 0)) rfl ?_
        refine tv_getR C (pc := 25) dX6_total_25 fl_X6_187 (ts_live (k := 4) (by decide) (by decide) (by decide)) rfl rfl (i2 := (10, 0, 0)) rfl ?_
        refine tv_iload_n C (pc := 28) dX6_total_28 rfl rfl ?_
        obtain ⟨hr4, h⟩ := ts_gd h
        refine tv_iaload C (pc := 29) dX6_total_29 (ts_live (k := 10) (by decide) (by decide) (by decide)) rfl hr4 (j := p1.toNatClampNeg) rfl ?_
        cases h
        exact tv_iret C (pc := 30) rfl dX6_total_30 ⟨Nat.le_of_ble_eq_true rfl, Nat.le_of_ble_eq_true rfl⟩
      · have h := ts_eR h
        cases h
        exact tv_callS_thr C (pc := 15) hX dX6_total_15 yl_X6_43 Mq1 (Nat.le_trans (Nat.le_of_ble_eq_true rfl) hdd) (As := [.inl (.int (0 : Int32))]) rfl ⟨Nat.le_of_ble_eq_true rfl, Nat.le_of_ble_eq_true rfl⟩ (fun _ => Nat.le_of_ble_eq_true rfl) rfl ⟨Nat.le_of_ble_eq_true rfl, Nat.le_of_ble_eq_true rfl⟩
    · have h := ts_ifn h hc
      refine tv_iload_n C (pc := 4) dX6_total_4 rfl rfl ?_
      refine tv_bipush C (pc := 5) dX6_total_5 (v := (9 : Int32)) rfl ?_
      refine tv_icmp_ge C (pc := 7) 14 dX6_total_7 (by decide) (fun hc => ?_) (fun hc => ?_)
      · have h := ts_ifp h hc
        refine tv_iconst C (pc := 14) dX6_total_14 (v := (0 : Int32)) rfl ?_
        obtain ⟨q5, hq5, h⟩ := ts_bd h
        have Mq5 := (m_X6_requireArgument (D := D) (dT := dT) (sz := sz) (ad := ad) hl (0 : Int32) u q5 hq5)
        rcases q5 with v6 | e7
        · have h := ts_eL h
          refine tv_callS C (pc := 15) dX6_total_15 yl_X6_43 Mq5 (Nat.le_trans (Nat.le_of_ble_eq_true rfl) hdd) (As := [.inl (.int (0 : Int32))]) rfl ⟨Nat.le_of_ble_eq_true rfl, Nat.le_of_ble_eq_true rfl⟩ (fun _ => Nat.le_of_ble_eq_true rfl) rfl ?_
          refine tv_aload_n C (pc := 18) dX6_total_18 rfl rfl ?_
          refine tv_getR C (pc := 19) dX6_total_19 fl_X6_12 (ts_live (k := 0) (by decide) (by decide) (by decide)) rfl rfl (i2 := (1, 0, 0)) rfl ?_
          refine tv_getR C (pc := 22) dX6_total_22 fl_X6_177 (ts_live (k := 1) (by decide) (by decide) (by decide)) rfl rfl (i2 := (4, 0, 0)) rfl ?_
          refine tv_getR C (pc := 25) dX6_total_25 fl_X6_187 (ts_live (k := 4) (by decide) (by decide) (by decide)) rfl rfl (i2 := (10, 0, 0)) rfl ?_
          refine tv_iload_n C (pc := 28) dX6_total_28 rfl rfl ?_
          obtain ⟨hr8, h⟩ := ts_gd h
          refine tv_iaload C (pc := 29) dX6_total_29 (ts_live (k := 10) (by decide) (by decide) (by decide)) rfl hr8 (j := p1.toNatClampNeg) rfl ?_
          cases h
          exact tv_iret C (pc := 30) rfl dX6_total_30 ⟨Nat.le_of_ble_eq_true rfl, Nat.le_of_ble_eq_true rfl⟩
        · have h := ts_eR h
          cases h
          exact tv_callS_thr C (pc := 15) hX dX6_total_15 yl_X6_43 Mq5 (Nat.le_trans (Nat.le_of_ble_eq_true rfl) hdd) (As := [.inl (.int (0 : Int32))]) rfl ⟨Nat.le_of_ble_eq_true rfl, Nat.le_of_ble_eq_true rfl⟩ (fun _ => Nat.le_of_ble_eq_true rfl) rfl ⟨Nat.le_of_ble_eq_true rfl, Nat.le_of_ble_eq_true rfl⟩
      · have h := ts_ifn h hc
        refine tv_iconst C (pc := 10) dX6_total_10 (v := (1 : Int32)) rfl ?_
        refine tv_goto C (pc := 11) 15 dX6_total_11 (by decide) ?_
        obtain ⟨q9, hq9, h⟩ := ts_bd h
        have Mq9 := (m_X6_requireArgument (D := D) (dT := dT) (sz := sz) (ad := ad) hl (1 : Int32) u q9 hq9)
        rcases q9 with v10 | e11
        · have h := ts_eL h
          refine tv_callS C (pc := 15) dX6_total_15 yl_X6_43 Mq9 (Nat.le_trans (Nat.le_of_ble_eq_true rfl) hdd) (As := [.inl (.int (1 : Int32))]) rfl ⟨Nat.le_of_ble_eq_true rfl, Nat.le_of_ble_eq_true rfl⟩ (fun _ => Nat.le_of_ble_eq_true rfl) rfl ?_
          refine tv_aload_n C (pc := 18) dX6_total_18 rfl rfl ?_
          refine tv_getR C (pc := 19) dX6_total_19 fl_X6_12 (ts_live (k := 0) (by decide) (by decide) (by decide)) rfl rfl (i2 := (1, 0, 0)) rfl ?_
          refine tv_getR C (pc := 22) dX6_total_22 fl_X6_177 (ts_live (k := 1) (by decide) (by decide) (by decide)) rfl rfl (i2 := (4, 0, 0)) rfl ?_
          refine tv_getR C (pc := 25) dX6_total_25 fl_X6_187 (ts_live (k := 4) (by decide) (by decide) (by decide)) rfl rfl (i2 := (10, 0, 0)) rfl ?_
          refine tv_iload_n C (pc := 28) dX6_total_28 rfl rfl ?_
          obtain ⟨hr12, h⟩ := ts_gd h
          refine tv_iaload C (pc := 29) dX6_total_29 (ts_live (k := 10) (by decide) (by decide) (by decide)) rfl hr12 (j := p1.toNatClampNeg) rfl ?_
          cases h
          exact tv_iret C (pc := 30) rfl dX6_total_30 ⟨Nat.le_of_ble_eq_true rfl, Nat.le_of_ble_eq_true rfl⟩
        · have h := ts_eR h
          cases h
          exact tv_callS_thr C (pc := 15) hX dX6_total_15 yl_X6_43 Mq9 (Nat.le_trans (Nat.le_of_ble_eq_true rfl) hdd) (As := [.inl (.int (1 : Int32))]) rfl ⟨Nat.le_of_ble_eq_true rfl, Nat.le_of_ble_eq_true rfl⟩ (fun _ => Nat.le_of_ble_eq_true rfl) rfl ⟨Nat.le_of_ble_eq_true rfl, Nat.le_of_ble_eq_true rfl⟩
set_option maxRecDepth 100000 in
set_option maxHeartbeats 4000000 in
theorem m_X6_abortShare {l : Launch} {D : va_G} {dT : Nat → ClassId} {sz : Nat} {ad : ts_I → Nat} (hl : l.stackTraces = false)  (u : ts_Mem) (r : (UInt64 ⊕ String)) (h : f_X6_abortShare  u = some r) : ts_M l D dT sz yX6_abortShare wX6_abortShare 0 1 6 ad ts_lv ts_R0 [.inr (0, 0, 0)] u (ts_oD r) u := by
    unfold f_X6_abortShare at h
    refine ts_enter hl (by decide) rfl rfl (Nat.le_of_ble_eq_true rfl) ?_
    intro p e s m args below meth c C hX hnm
    have C : ts_CX D dT sz p l (ts_rm 0 1 6) s m args meth c RX6 cX6_abortShare 3 (some .double) 0 := C
    have hdd : 0 ≤ 0 := Nat.le_refl _
    refine tv_aload_n C (pc := 0) dX6_abortShare_0 rfl rfl ?_
    refine tv_getR C (pc := 1) dX6_abortShare_1 fl_X6_12 (ts_live (k := 0) (by decide) (by decide) (by decide)) rfl rfl (i2 := (1, 0, 0)) rfl ?_
    refine tv_getI C (pc := 4) dX6_abortShare_4 fl_X6_190 (ts_live (k := 1) (by decide) (by decide) (by decide)) rfl (cd := 0) rfl (by decide) ?_
    refine tv_iconst C (pc := 7) dX6_abortShare_7 (v := (1 : Int32)) rfl ?_
    refine tv_isub C (pc := 8) dX6_abortShare_8 ?_
    refine tv_nmI (fun x1 hx1 => ?_)
    have h := ts_lt h hx1
    refine tv_istore_n C (pc := 9) dX6_abortShare_9 (L' := [some (.inr (0, 0, 0)), some (.inl (.int x1)), none]) rfl (by decide) rfl rfl ?_
    refine tv_iload_n C (pc := 10) dX6_abortShare_10 rfl rfl ?_
    refine tv_if_ne C (pc := 11) 24 dX6_abortShare_11 (by decide) (fun hc => ?_) (fun hc => ?_)
    · have h := ts_ifn h hc
      refine tv_aload_n C (pc := 24) dX6_abortShare_24 rfl rfl ?_
      refine tv_getR C (pc := 25) dX6_abortShare_25 fl_X6_12 (ts_live (k := 0) (by decide) (by decide) (by decide)) rfl rfl (i2 := (1, 0, 0)) rfl ?_
      refine tv_getR C (pc := 28) dX6_abortShare_28 fl_X6_177 (ts_live (k := 1) (by decide) (by decide) (by decide)) rfl rfl (i2 := (4, 0, 0)) rfl ?_
      refine tv_getR C (pc := 31) dX6_abortShare_31 fl_X6_187 (ts_live (k := 4) (by decide) (by decide) (by decide)) rfl rfl (i2 := (10, 0, 0)) rfl ?_
      refine tv_bipush C (pc := 34) dX6_abortShare_34 (v := (6 : Int32)) rfl ?_
      refine tv_iaload C (pc := 36) dX6_abortShare_36 (ts_live (k := 10) (by decide) (by decide) (by decide)) rfl (by decide) (j := 6) (by decide) ?_
      refine tv_aload_n C (pc := 37) dX6_abortShare_37 rfl rfl ?_
      refine tv_getR C (pc := 38) dX6_abortShare_38 fl_X6_12 (ts_live (k := 0) (by decide) (by decide) (by decide)) rfl rfl (i2 := (1, 0, 0)) rfl ?_
      refine tv_getR C (pc := 41) dX6_abortShare_41 fl_X6_177 (ts_live (k := 1) (by decide) (by decide) (by decide)) rfl rfl (i2 := (4, 0, 0)) rfl ?_
      refine tv_getR C (pc := 44) dX6_abortShare_44 fl_X6_187 (ts_live (k := 4) (by decide) (by decide) (by decide)) rfl rfl (i2 := (10, 0, 0)) rfl ?_
      refine tv_bipush C (pc := 47) dX6_abortShare_47 (v := (7 : Int32)) rfl ?_
      refine tv_iaload C (pc := 49) dX6_abortShare_49 (ts_live (k := 10) (by decide) (by decide) (by decide)) rfl (by decide) (j := 7) (by decide) ?_
      refine tv_iadd C (pc := 50) dX6_abortShare_50 ?_
      refine tv_nmI (fun x2 hx2 => ?_)
      have h := ts_lt h hx2
      refine tv_istore_n C (pc := 51) dX6_abortShare_51 (L' := [some (.inr (0, 0, 0)), some (.inl (.int x1)), some (.inl (.int x2))]) rfl (by decide) rfl rfl ?_
      refine tv_iload_n C (pc := 52) dX6_abortShare_52 rfl rfl ?_
      refine tv_i2d C (pc := 53) dX6_abortShare_53 ?_
      refine tv_iload_n C (pc := 54) dX6_abortShare_54 rfl rfl ?_
      refine tv_i2d C (pc := 55) dX6_abortShare_55 ?_
      obtain ⟨hg3, h⟩ := ts_gd h
      refine tv_ddiv C (pc := 56) dX6_abortShare_56 hg3 ?_
      cases h
      exact tv_dret C (pc := 57) rfl dX6_abortShare_57 ⟨Nat.le_of_ble_eq_true rfl, Nat.le_of_ble_eq_true rfl⟩
    · have h := ts_ifp h hc
      cases h
      exact tv_throw C (pc := 14) hX th_X6_193_195 dX6_abortShare_14 dX6_abortShare_17 dX6_abortShare_18 dX6_abortShare_20 dX6_abortShare_23 ⟨Nat.le_of_ble_eq_true rfl, Nat.le_of_ble_eq_true rfl⟩ (fun _ => Nat.le_of_ble_eq_true rfl) ⟨Nat.le_of_ble_eq_true rfl, Nat.le_of_ble_eq_true rfl⟩
set_option maxRecDepth 100000 in
set_option maxHeartbeats 4000000 in
theorem m_X6_isSlot {l : Launch} {D : va_G} {dT : Nat → ClassId} {sz : Nat} {ad : ts_I → Nat} (hl : l.stackTraces = false) (p0 : Int32) (u : ts_Mem) (r : Int32) (h : f_X6_isSlot p0 u = some r) : ts_M l D dT sz yX6_isSlot wX6_isSlot 0 0 0 ad ts_lv ts_R0 [.inl (.int p0)] u (.inl (some (.int r))) u := by
    unfold f_X6_isSlot at h
    refine ts_enter hl (by decide) rfl rfl (Nat.le_of_ble_eq_true rfl) ?_
    intro p e s m args below meth c C hX hnm
    have C : ts_CX D dT sz p l (ts_rm 0 0 0) s m args meth c RX6 cX6_isSlot 1 (some .boolean) 0 := C
    have hdd : 0 ≤ 0 := Nat.le_refl _
    refine tv_iload_n C (pc := 0) dX6_isSlot_0 rfl rfl ?_
    refine tv_if_lt C (pc := 1) 13 dX6_isSlot_1 (by decide) (fun hc => ?_) (fun hc => ?_)
    · have h := ts_ifp h hc
      refine tv_iconst C (pc := 13) dX6_isSlot_13 (v := (0 : Int32)) rfl ?_
      cases h
      exact tv_zret C (pc := 14) (v := (0 : Int32)) rfl ts_nz0 dX6_isSlot_14 ⟨Nat.le_of_ble_eq_true rfl, Nat.le_of_ble_eq_true rfl⟩
    · have h := ts_ifn h hc
      refine tv_iload_n C (pc := 4) dX6_isSlot_4 rfl rfl ?_
      refine tv_iconst C (pc := 5) dX6_isSlot_5 (v := (3 : Int32)) rfl ?_
      refine tv_icmp_ge C (pc := 6) 13 dX6_isSlot_6 (by decide) (fun hc => ?_) (fun hc => ?_)
      · have h := ts_ifp h hc
        refine tv_iconst C (pc := 13) dX6_isSlot_13 (v := (0 : Int32)) rfl ?_
        cases h
        exact tv_zret C (pc := 14) (v := (0 : Int32)) rfl ts_nz0 dX6_isSlot_14 ⟨Nat.le_of_ble_eq_true rfl, Nat.le_of_ble_eq_true rfl⟩
      · have h := ts_ifn h hc
        refine tv_iconst C (pc := 9) dX6_isSlot_9 (v := (1 : Int32)) rfl ?_
        refine tv_goto C (pc := 10) 14 dX6_isSlot_10 (by decide) ?_
        cases h
        exact tv_zret C (pc := 14) (v := (1 : Int32)) rfl ts_nz1 dX6_isSlot_14 ⟨Nat.le_of_ble_eq_true rfl, Nat.le_of_ble_eq_true rfl⟩
set_option maxRecDepth 100000 in
set_option maxHeartbeats 4000000 in
theorem m_X6_allocate {l : Launch} {D : va_G} {dT : Nat → ClassId} {sz : Nat} {ad : ts_I → Nat} (hl : l.stackTraces = false) (p1 : Int32) (p2 : Int32) (p3 : Int32) (u : ts_Mem) (r : ((Unit ⊕ String) × ts_Mem)) (h : f_X6_allocate p1 p2 p3 u = some r) : ts_M l D dT sz yX6_allocate wX6_allocate 1 3 18 ad ts_lv ts_R0 [.inr (0, 0, 0), .inl (.int p1), .inl (.int p2), .inl (.int p3)] u (ts_oU r.1) r.2 := by
    unfold f_X6_allocate at h
    refine ts_enter hl (by decide) rfl rfl (Nat.le_of_ble_eq_true rfl) ?_
    intro p e s m args below meth c C hX hnm
    have C : ts_CX D dT sz p l (ts_rm 1 3 18) s m args meth c RX6 cX6_allocate 4 none 1 := C
    have hdd : 1 ≤ 1 := Nat.le_refl _
    refine tv_iload_n C (pc := 0) dX6_allocate_0 rfl rfl ?_
    obtain ⟨q1, hq1, h⟩ := ts_bd h
    refine tv_callS C (pc := 1) dX6_allocate_1 yl_X6_200 (m_X6_isSlot (D := D) (dT := dT) (sz := sz) (ad := ad) hl p1 u q1 hq1) (Nat.le_trans (Nat.le_of_ble_eq_true rfl) hdd) (As := [.inl (.int p1)]) rfl ⟨Nat.le_of_ble_eq_true rfl, Nat.le_of_ble_eq_true rfl⟩ (fun _ => Nat.le_of_ble_eq_true rfl) rfl ?_
    obtain ⟨q2, hq2, h⟩ := ts_bd h
    have Mq2 := (m_X6_requireIndex (D := D) (dT := dT) (sz := sz) (ad := ad) hl q1 u q2 hq2)
    rcases q2 with v3 | e4
    · have h := ts_eL h
      refine tv_callS C (pc := 4) dX6_allocate_4 yl_X6_71 Mq2 (Nat.le_trans (Nat.le_of_ble_eq_true rfl) hdd) (As := [.inl (.int q1)]) rfl ⟨Nat.le_of_ble_eq_true rfl, Nat.le_of_ble_eq_true rfl⟩ (fun _ => Nat.le_of_ble_eq_true rfl) rfl ?_
      refine tv_iload_n C (pc := 7) dX6_allocate_7 rfl rfl ?_
      refine tv_if_eq C (pc := 8) 16 dX6_allocate_8 (by decide) (fun hc => ?_) (fun hc => ?_)
      · have h := ts_ifp h hc
        refine tv_iconst C (pc := 16) dX6_allocate_16 (v := (1 : Int32)) rfl ?_
        refine tv_goto C (pc := 17) 21 dX6_allocate_17 (by decide) ?_
        obtain ⟨q5, hq5, h⟩ := ts_bd h
        have Mq5 := (m_X6_requireArgument (D := D) (dT := dT) (sz := sz) (ad := ad) hl (1 : Int32) u q5 hq5)
        rcases q5 with v6 | e7
        · have h := ts_eL h
          refine tv_callS C (pc := 21) dX6_allocate_21 yl_X6_43 Mq5 (Nat.le_trans (Nat.le_of_ble_eq_true rfl) hdd) (As := [.inl (.int (1 : Int32))]) rfl ⟨Nat.le_of_ble_eq_true rfl, Nat.le_of_ble_eq_true rfl⟩ (fun _ => Nat.le_of_ble_eq_true rfl) rfl ?_
          refine tv_iload_n C (pc := 24) dX6_allocate_24 rfl rfl ?_
          refine tv_if_lt C (pc := 25) 38 dX6_allocate_25 (by decide) (fun hc => ?_) (fun hc => ?_)
          · have h := ts_ifp h hc
            refine tv_iconst C (pc := 38) dX6_allocate_38 (v := (0 : Int32)) rfl ?_
            obtain ⟨q8, hq8, h⟩ := ts_bd h
            have Mq8 := (m_X6_requireArgument (D := D) (dT := dT) (sz := sz) (ad := ad) hl (0 : Int32) u q8 hq8)
            rcases q8 with v9 | e10
            · have h := ts_eL h
              refine tv_callS C (pc := 39) dX6_allocate_39 yl_X6_43 Mq8 (Nat.le_trans (Nat.le_of_ble_eq_true rfl) hdd) (As := [.inl (.int (0 : Int32))]) rfl ⟨Nat.le_of_ble_eq_true rfl, Nat.le_of_ble_eq_true rfl⟩ (fun _ => Nat.le_of_ble_eq_true rfl) rfl ?_
              refine tv_aload_n C (pc := 42) dX6_allocate_42 rfl rfl ?_
              refine tv_getR C (pc := 43) dX6_allocate_43 fl_X6_38 (ts_live (k := 0) (by decide) (by decide) (by decide)) rfl rfl (i2 := (26, 0, 0)) rfl ?_
              refine tv_iload_n C (pc := 46) dX6_allocate_46 rfl rfl ?_
              obtain ⟨hr11, h⟩ := ts_gd h
              refine tv_aaload7 C (pc := 47) dX6_allocate_47 (ts_live (k := 26) (by decide) (by decide) (by decide)) rfl hr11 (j := p1.toNatClampNeg) rfl (i2 := (27, 0, p1.toNatClampNeg)) rfl ?_
              refine tv_iload_n C (pc := 48) dX6_allocate_48 rfl rfl ?_
              refine tv_iload_n C (pc := 49) dX6_allocate_49 rfl rfl ?_
              obtain ⟨q12, hq12, h⟩ := ts_bd h
              refine tv_callV C (pc := 50) dX6_allocate_50 (ci := 4) (q := (RX4, TX4, 4)) rfl yl_X6_203 (m_X4_makeNew (D := D) (dT := dT) (sz := sz) (ad := ad) hl p1.toNatClampNeg (ts_vin hr11) p2 p3 u q12 hq12) (ts_live (k := 27) (by decide) (by decide) (ts_vin hr11)) rfl (Nat.le_trans (Nat.le_of_ble_eq_true rfl) hdd) (As := [.inl (.int p2), .inl (.int p3)]) rfl ⟨Nat.le_of_ble_eq_true rfl, Nat.le_of_ble_eq_true rfl⟩ (fun _ => Nat.le_of_ble_eq_true rfl) rfl ?_
              cases h
              exact tv_vret C (pc := 53) rfl dX6_allocate_53 ⟨Nat.le_of_ble_eq_true rfl, Nat.le_of_ble_eq_true rfl⟩
            · have h := ts_eR h
              cases h
              exact tv_callS_thr C (pc := 39) hX dX6_allocate_39 yl_X6_43 Mq8 (Nat.le_trans (Nat.le_of_ble_eq_true rfl) hdd) (As := [.inl (.int (0 : Int32))]) rfl ⟨Nat.le_of_ble_eq_true rfl, Nat.le_of_ble_eq_true rfl⟩ (fun _ => Nat.le_of_ble_eq_true rfl) rfl ⟨Nat.le_of_ble_eq_true rfl, Nat.le_of_ble_eq_true rfl⟩
          · have h := ts_ifn h hc
            refine tv_iload_n C (pc := 28) dX6_allocate_28 rfl rfl ?_
            refine tv_bipush C (pc := 29) dX6_allocate_29 (v := (30 : Int32)) rfl ?_
            refine tv_icmp_gt C (pc := 31) 38 dX6_allocate_31 (by decide) (fun hc => ?_) (fun hc => ?_)
            · have h := ts_ifp h hc
              refine tv_iconst C (pc := 38) dX6_allocate_38 (v := (0 : Int32)) rfl ?_
              obtain ⟨q13, hq13, h⟩ := ts_bd h
              have Mq13 := (m_X6_requireArgument (D := D) (dT := dT) (sz := sz) (ad := ad) hl (0 : Int32) u q13 hq13)
              rcases q13 with v14 | e15
              · have h := ts_eL h
                refine tv_callS C (pc := 39) dX6_allocate_39 yl_X6_43 Mq13 (Nat.le_trans (Nat.le_of_ble_eq_true rfl) hdd) (As := [.inl (.int (0 : Int32))]) rfl ⟨Nat.le_of_ble_eq_true rfl, Nat.le_of_ble_eq_true rfl⟩ (fun _ => Nat.le_of_ble_eq_true rfl) rfl ?_
                refine tv_aload_n C (pc := 42) dX6_allocate_42 rfl rfl ?_
                refine tv_getR C (pc := 43) dX6_allocate_43 fl_X6_38 (ts_live (k := 0) (by decide) (by decide) (by decide)) rfl rfl (i2 := (26, 0, 0)) rfl ?_
                refine tv_iload_n C (pc := 46) dX6_allocate_46 rfl rfl ?_
                obtain ⟨hr16, h⟩ := ts_gd h
                refine tv_aaload7 C (pc := 47) dX6_allocate_47 (ts_live (k := 26) (by decide) (by decide) (by decide)) rfl hr16 (j := p1.toNatClampNeg) rfl (i2 := (27, 0, p1.toNatClampNeg)) rfl ?_
                refine tv_iload_n C (pc := 48) dX6_allocate_48 rfl rfl ?_
                refine tv_iload_n C (pc := 49) dX6_allocate_49 rfl rfl ?_
                obtain ⟨q17, hq17, h⟩ := ts_bd h
                refine tv_callV C (pc := 50) dX6_allocate_50 (ci := 4) (q := (RX4, TX4, 4)) rfl yl_X6_203 (m_X4_makeNew (D := D) (dT := dT) (sz := sz) (ad := ad) hl p1.toNatClampNeg (ts_vin hr16) p2 p3 u q17 hq17) (ts_live (k := 27) (by decide) (by decide) (ts_vin hr16)) rfl (Nat.le_trans (Nat.le_of_ble_eq_true rfl) hdd) (As := [.inl (.int p2), .inl (.int p3)]) rfl ⟨Nat.le_of_ble_eq_true rfl, Nat.le_of_ble_eq_true rfl⟩ (fun _ => Nat.le_of_ble_eq_true rfl) rfl ?_
                cases h
                exact tv_vret C (pc := 53) rfl dX6_allocate_53 ⟨Nat.le_of_ble_eq_true rfl, Nat.le_of_ble_eq_true rfl⟩
              · have h := ts_eR h
                cases h
                exact tv_callS_thr C (pc := 39) hX dX6_allocate_39 yl_X6_43 Mq13 (Nat.le_trans (Nat.le_of_ble_eq_true rfl) hdd) (As := [.inl (.int (0 : Int32))]) rfl ⟨Nat.le_of_ble_eq_true rfl, Nat.le_of_ble_eq_true rfl⟩ (fun _ => Nat.le_of_ble_eq_true rfl) rfl ⟨Nat.le_of_ble_eq_true rfl, Nat.le_of_ble_eq_true rfl⟩
            · have h := ts_ifn h hc
              refine tv_iconst C (pc := 34) dX6_allocate_34 (v := (1 : Int32)) rfl ?_
              refine tv_goto C (pc := 35) 39 dX6_allocate_35 (by decide) ?_
              obtain ⟨q18, hq18, h⟩ := ts_bd h
              have Mq18 := (m_X6_requireArgument (D := D) (dT := dT) (sz := sz) (ad := ad) hl (1 : Int32) u q18 hq18)
              rcases q18 with v19 | e20
              · have h := ts_eL h
                refine tv_callS C (pc := 39) dX6_allocate_39 yl_X6_43 Mq18 (Nat.le_trans (Nat.le_of_ble_eq_true rfl) hdd) (As := [.inl (.int (1 : Int32))]) rfl ⟨Nat.le_of_ble_eq_true rfl, Nat.le_of_ble_eq_true rfl⟩ (fun _ => Nat.le_of_ble_eq_true rfl) rfl ?_
                refine tv_aload_n C (pc := 42) dX6_allocate_42 rfl rfl ?_
                refine tv_getR C (pc := 43) dX6_allocate_43 fl_X6_38 (ts_live (k := 0) (by decide) (by decide) (by decide)) rfl rfl (i2 := (26, 0, 0)) rfl ?_
                refine tv_iload_n C (pc := 46) dX6_allocate_46 rfl rfl ?_
                obtain ⟨hr21, h⟩ := ts_gd h
                refine tv_aaload7 C (pc := 47) dX6_allocate_47 (ts_live (k := 26) (by decide) (by decide) (by decide)) rfl hr21 (j := p1.toNatClampNeg) rfl (i2 := (27, 0, p1.toNatClampNeg)) rfl ?_
                refine tv_iload_n C (pc := 48) dX6_allocate_48 rfl rfl ?_
                refine tv_iload_n C (pc := 49) dX6_allocate_49 rfl rfl ?_
                obtain ⟨q22, hq22, h⟩ := ts_bd h
                refine tv_callV C (pc := 50) dX6_allocate_50 (ci := 4) (q := (RX4, TX4, 4)) rfl yl_X6_203 (m_X4_makeNew (D := D) (dT := dT) (sz := sz) (ad := ad) hl p1.toNatClampNeg (ts_vin hr21) p2 p3 u q22 hq22) (ts_live (k := 27) (by decide) (by decide) (ts_vin hr21)) rfl (Nat.le_trans (Nat.le_of_ble_eq_true rfl) hdd) (As := [.inl (.int p2), .inl (.int p3)]) rfl ⟨Nat.le_of_ble_eq_true rfl, Nat.le_of_ble_eq_true rfl⟩ (fun _ => Nat.le_of_ble_eq_true rfl) rfl ?_
                cases h
                exact tv_vret C (pc := 53) rfl dX6_allocate_53 ⟨Nat.le_of_ble_eq_true rfl, Nat.le_of_ble_eq_true rfl⟩
              · have h := ts_eR h
                cases h
                exact tv_callS_thr C (pc := 39) hX dX6_allocate_39 yl_X6_43 Mq18 (Nat.le_trans (Nat.le_of_ble_eq_true rfl) hdd) (As := [.inl (.int (1 : Int32))]) rfl ⟨Nat.le_of_ble_eq_true rfl, Nat.le_of_ble_eq_true rfl⟩ (fun _ => Nat.le_of_ble_eq_true rfl) rfl ⟨Nat.le_of_ble_eq_true rfl, Nat.le_of_ble_eq_true rfl⟩
        · have h := ts_eR h
          cases h
          exact tv_callS_thr C (pc := 21) hX dX6_allocate_21 yl_X6_43 Mq5 (Nat.le_trans (Nat.le_of_ble_eq_true rfl) hdd) (As := [.inl (.int (1 : Int32))]) rfl ⟨Nat.le_of_ble_eq_true rfl, Nat.le_of_ble_eq_true rfl⟩ (fun _ => Nat.le_of_ble_eq_true rfl) rfl ⟨Nat.le_of_ble_eq_true rfl, Nat.le_of_ble_eq_true rfl⟩
      · have h := ts_ifn h hc
        refine tv_iload_n C (pc := 11) dX6_allocate_11 rfl rfl ?_
        refine tv_iconst C (pc := 12) dX6_allocate_12 (v := (1 : Int32)) rfl ?_
        refine tv_icmp_ne C (pc := 13) 20 dX6_allocate_13 (by decide) (fun hc => ?_) (fun hc => ?_)
        · have h := ts_ifn h hc
          refine tv_iconst C (pc := 20) dX6_allocate_20 (v := (0 : Int32)) rfl ?_
          obtain ⟨q23, hq23, h⟩ := ts_bd h
          have Mq23 := (m_X6_requireArgument (D := D) (dT := dT) (sz := sz) (ad := ad) hl (0 : Int32) u q23 hq23)
          rcases q23 with v24 | e25
          · have h := ts_eL h
            refine tv_callS C (pc := 21) dX6_allocate_21 yl_X6_43 Mq23 (Nat.le_trans (Nat.le_of_ble_eq_true rfl) hdd) (As := [.inl (.int (0 : Int32))]) rfl ⟨Nat.le_of_ble_eq_true rfl, Nat.le_of_ble_eq_true rfl⟩ (fun _ => Nat.le_of_ble_eq_true rfl) rfl ?_
            refine tv_iload_n C (pc := 24) dX6_allocate_24 rfl rfl ?_
            refine tv_if_lt C (pc := 25) 38 dX6_allocate_25 (by decide) (fun hc => ?_) (fun hc => ?_)
            · have h := ts_ifp h hc
              refine tv_iconst C (pc := 38) dX6_allocate_38 (v := (0 : Int32)) rfl ?_
              obtain ⟨q26, hq26, h⟩ := ts_bd h
              have Mq26 := (m_X6_requireArgument (D := D) (dT := dT) (sz := sz) (ad := ad) hl (0 : Int32) u q26 hq26)
              rcases q26 with v27 | e28
              · have h := ts_eL h
                refine tv_callS C (pc := 39) dX6_allocate_39 yl_X6_43 Mq26 (Nat.le_trans (Nat.le_of_ble_eq_true rfl) hdd) (As := [.inl (.int (0 : Int32))]) rfl ⟨Nat.le_of_ble_eq_true rfl, Nat.le_of_ble_eq_true rfl⟩ (fun _ => Nat.le_of_ble_eq_true rfl) rfl ?_
                refine tv_aload_n C (pc := 42) dX6_allocate_42 rfl rfl ?_
                refine tv_getR C (pc := 43) dX6_allocate_43 fl_X6_38 (ts_live (k := 0) (by decide) (by decide) (by decide)) rfl rfl (i2 := (26, 0, 0)) rfl ?_
                refine tv_iload_n C (pc := 46) dX6_allocate_46 rfl rfl ?_
                obtain ⟨hr29, h⟩ := ts_gd h
                refine tv_aaload7 C (pc := 47) dX6_allocate_47 (ts_live (k := 26) (by decide) (by decide) (by decide)) rfl hr29 (j := p1.toNatClampNeg) rfl (i2 := (27, 0, p1.toNatClampNeg)) rfl ?_
                refine tv_iload_n C (pc := 48) dX6_allocate_48 rfl rfl ?_
                refine tv_iload_n C (pc := 49) dX6_allocate_49 rfl rfl ?_
                obtain ⟨q30, hq30, h⟩ := ts_bd h
                refine tv_callV C (pc := 50) dX6_allocate_50 (ci := 4) (q := (RX4, TX4, 4)) rfl yl_X6_203 (m_X4_makeNew (D := D) (dT := dT) (sz := sz) (ad := ad) hl p1.toNatClampNeg (ts_vin hr29) p2 p3 u q30 hq30) (ts_live (k := 27) (by decide) (by decide) (ts_vin hr29)) rfl (Nat.le_trans (Nat.le_of_ble_eq_true rfl) hdd) (As := [.inl (.int p2), .inl (.int p3)]) rfl ⟨Nat.le_of_ble_eq_true rfl, Nat.le_of_ble_eq_true rfl⟩ (fun _ => Nat.le_of_ble_eq_true rfl) rfl ?_
                cases h
                exact tv_vret C (pc := 53) rfl dX6_allocate_53 ⟨Nat.le_of_ble_eq_true rfl, Nat.le_of_ble_eq_true rfl⟩
              · have h := ts_eR h
                cases h
                exact tv_callS_thr C (pc := 39) hX dX6_allocate_39 yl_X6_43 Mq26 (Nat.le_trans (Nat.le_of_ble_eq_true rfl) hdd) (As := [.inl (.int (0 : Int32))]) rfl ⟨Nat.le_of_ble_eq_true rfl, Nat.le_of_ble_eq_true rfl⟩ (fun _ => Nat.le_of_ble_eq_true rfl) rfl ⟨Nat.le_of_ble_eq_true rfl, Nat.le_of_ble_eq_true rfl⟩
            · have h := ts_ifn h hc
              refine tv_iload_n C (pc := 28) dX6_allocate_28 rfl rfl ?_
              refine tv_bipush C (pc := 29) dX6_allocate_29 (v := (30 : Int32)) rfl ?_
              refine tv_icmp_gt C (pc := 31) 38 dX6_allocate_31 (by decide) (fun hc => ?_) (fun hc => ?_)
              · have h := ts_ifp h hc
                refine tv_iconst C (pc := 38) dX6_allocate_38 (v := (0 : Int32)) rfl ?_
                obtain ⟨q31, hq31, h⟩ := ts_bd h
                have Mq31 := (m_X6_requireArgument (D := D) (dT := dT) (sz := sz) (ad := ad) hl (0 : Int32) u q31 hq31)
                rcases q31 with v32 | e33
                · have h := ts_eL h
                  refine tv_callS C (pc := 39) dX6_allocate_39 yl_X6_43 Mq31 (Nat.le_trans (Nat.le_of_ble_eq_true rfl) hdd) (As := [.inl (.int (0 : Int32))]) rfl ⟨Nat.le_of_ble_eq_true rfl, Nat.le_of_ble_eq_true rfl⟩ (fun _ => Nat.le_of_ble_eq_true rfl) rfl ?_
                  refine tv_aload_n C (pc := 42) dX6_allocate_42 rfl rfl ?_
                  refine tv_getR C (pc := 43) dX6_allocate_43 fl_X6_38 (ts_live (k := 0) (by decide) (by decide) (by decide)) rfl rfl (i2 := (26, 0, 0)) rfl ?_
                  refine tv_iload_n C (pc := 46) dX6_allocate_46 rfl rfl ?_
                  obtain ⟨hr34, h⟩ := ts_gd h
                  refine tv_aaload7 C (pc := 47) dX6_allocate_47 (ts_live (k := 26) (by decide) (by decide) (by decide)) rfl hr34 (j := p1.toNatClampNeg) rfl (i2 := (27, 0, p1.toNatClampNeg)) rfl ?_
                  refine tv_iload_n C (pc := 48) dX6_allocate_48 rfl rfl ?_
                  refine tv_iload_n C (pc := 49) dX6_allocate_49 rfl rfl ?_
                  obtain ⟨q35, hq35, h⟩ := ts_bd h
                  refine tv_callV C (pc := 50) dX6_allocate_50 (ci := 4) (q := (RX4, TX4, 4)) rfl yl_X6_203 (m_X4_makeNew (D := D) (dT := dT) (sz := sz) (ad := ad) hl p1.toNatClampNeg (ts_vin hr34) p2 p3 u q35 hq35) (ts_live (k := 27) (by decide) (by decide) (ts_vin hr34)) rfl (Nat.le_trans (Nat.le_of_ble_eq_true rfl) hdd) (As := [.inl (.int p2), .inl (.int p3)]) rfl ⟨Nat.le_of_ble_eq_true rfl, Nat.le_of_ble_eq_true rfl⟩ (fun _ => Nat.le_of_ble_eq_true rfl) rfl ?_
                  cases h
                  exact tv_vret C (pc := 53) rfl dX6_allocate_53 ⟨Nat.le_of_ble_eq_true rfl, Nat.le_of_ble_eq_true rfl⟩
                · have h := ts_eR h
                  cases h
                  exact tv_callS_thr C (pc := 39) hX dX6_allocate_39 yl_X6_43 Mq31 (Nat.le_trans (Nat.le_of_ble_eq_true rfl) hdd) (As := [.inl (.int (0 : Int32))]) rfl ⟨Nat.le_of_ble_eq_true rfl, Nat.le_of_ble_eq_true rfl⟩ (fun _ => Nat.le_of_ble_eq_true rfl) rfl ⟨Nat.le_of_ble_eq_true rfl, Nat.le_of_ble_eq_true rfl⟩
              · have h := ts_ifn h hc
                refine tv_iconst C (pc := 34) dX6_allocate_34 (v := (1 : Int32)) rfl ?_
                refine tv_goto C (pc := 35) 39 dX6_allocate_35 (by decide) ?_
                obtain ⟨q36, hq36, h⟩ := ts_bd h
                have Mq36 := (m_X6_requireArgument (D := D) (dT := dT) (sz := sz) (ad := ad) hl (1 : Int32) u q36 hq36)
                rcases q36 with v37 | e38
                · have h := ts_eL h
                  refine tv_callS C (pc := 39) dX6_allocate_39 yl_X6_43 Mq36 (Nat.le_trans (Nat.le_of_ble_eq_true rfl) hdd) (As := [.inl (.int (1 : Int32))]) rfl ⟨Nat.le_of_ble_eq_true rfl, Nat.le_of_ble_eq_true rfl⟩ (fun _ => Nat.le_of_ble_eq_true rfl) rfl ?_
                  refine tv_aload_n C (pc := 42) dX6_allocate_42 rfl rfl ?_
                  refine tv_getR C (pc := 43) dX6_allocate_43 fl_X6_38 (ts_live (k := 0) (by decide) (by decide) (by decide)) rfl rfl (i2 := (26, 0, 0)) rfl ?_
                  refine tv_iload_n C (pc := 46) dX6_allocate_46 rfl rfl ?_
                  obtain ⟨hr39, h⟩ := ts_gd h
                  refine tv_aaload7 C (pc := 47) dX6_allocate_47 (ts_live (k := 26) (by decide) (by decide) (by decide)) rfl hr39 (j := p1.toNatClampNeg) rfl (i2 := (27, 0, p1.toNatClampNeg)) rfl ?_
                  refine tv_iload_n C (pc := 48) dX6_allocate_48 rfl rfl ?_
                  refine tv_iload_n C (pc := 49) dX6_allocate_49 rfl rfl ?_
                  obtain ⟨q40, hq40, h⟩ := ts_bd h
                  refine tv_callV C (pc := 50) dX6_allocate_50 (ci := 4) (q := (RX4, TX4, 4)) rfl yl_X6_203 (m_X4_makeNew (D := D) (dT := dT) (sz := sz) (ad := ad) hl p1.toNatClampNeg (ts_vin hr39) p2 p3 u q40 hq40) (ts_live (k := 27) (by decide) (by decide) (ts_vin hr39)) rfl (Nat.le_trans (Nat.le_of_ble_eq_true rfl) hdd) (As := [.inl (.int p2), .inl (.int p3)]) rfl ⟨Nat.le_of_ble_eq_true rfl, Nat.le_of_ble_eq_true rfl⟩ (fun _ => Nat.le_of_ble_eq_true rfl) rfl ?_
                  cases h
                  exact tv_vret C (pc := 53) rfl dX6_allocate_53 ⟨Nat.le_of_ble_eq_true rfl, Nat.le_of_ble_eq_true rfl⟩
                · have h := ts_eR h
                  cases h
                  exact tv_callS_thr C (pc := 39) hX dX6_allocate_39 yl_X6_43 Mq36 (Nat.le_trans (Nat.le_of_ble_eq_true rfl) hdd) (As := [.inl (.int (1 : Int32))]) rfl ⟨Nat.le_of_ble_eq_true rfl, Nat.le_of_ble_eq_true rfl⟩ (fun _ => Nat.le_of_ble_eq_true rfl) rfl ⟨Nat.le_of_ble_eq_true rfl, Nat.le_of_ble_eq_true rfl⟩
          · have h := ts_eR h
            cases h
            exact tv_callS_thr C (pc := 21) hX dX6_allocate_21 yl_X6_43 Mq23 (Nat.le_trans (Nat.le_of_ble_eq_true rfl) hdd) (As := [.inl (.int (0 : Int32))]) rfl ⟨Nat.le_of_ble_eq_true rfl, Nat.le_of_ble_eq_true rfl⟩ (fun _ => Nat.le_of_ble_eq_true rfl) rfl ⟨Nat.le_of_ble_eq_true rfl, Nat.le_of_ble_eq_true rfl⟩
        · have h := ts_ifp h hc
          refine tv_iconst C (pc := 16) dX6_allocate_16 (v := (1 : Int32)) rfl ?_
          refine tv_goto C (pc := 17) 21 dX6_allocate_17 (by decide) ?_
          obtain ⟨q41, hq41, h⟩ := ts_bd h
          have Mq41 := (m_X6_requireArgument (D := D) (dT := dT) (sz := sz) (ad := ad) hl (1 : Int32) u q41 hq41)
          rcases q41 with v42 | e43
          · have h := ts_eL h
            refine tv_callS C (pc := 21) dX6_allocate_21 yl_X6_43 Mq41 (Nat.le_trans (Nat.le_of_ble_eq_true rfl) hdd) (As := [.inl (.int (1 : Int32))]) rfl ⟨Nat.le_of_ble_eq_true rfl, Nat.le_of_ble_eq_true rfl⟩ (fun _ => Nat.le_of_ble_eq_true rfl) rfl ?_
            refine tv_iload_n C (pc := 24) dX6_allocate_24 rfl rfl ?_
            refine tv_if_lt C (pc := 25) 38 dX6_allocate_25 (by decide) (fun hc => ?_) (fun hc => ?_)
            · have h := ts_ifp h hc
              refine tv_iconst C (pc := 38) dX6_allocate_38 (v := (0 : Int32)) rfl ?_
              obtain ⟨q44, hq44, h⟩ := ts_bd h
              have Mq44 := (m_X6_requireArgument (D := D) (dT := dT) (sz := sz) (ad := ad) hl (0 : Int32) u q44 hq44)
              rcases q44 with v45 | e46
              · have h := ts_eL h
                refine tv_callS C (pc := 39) dX6_allocate_39 yl_X6_43 Mq44 (Nat.le_trans (Nat.le_of_ble_eq_true rfl) hdd) (As := [.inl (.int (0 : Int32))]) rfl ⟨Nat.le_of_ble_eq_true rfl, Nat.le_of_ble_eq_true rfl⟩ (fun _ => Nat.le_of_ble_eq_true rfl) rfl ?_
                refine tv_aload_n C (pc := 42) dX6_allocate_42 rfl rfl ?_
                refine tv_getR C (pc := 43) dX6_allocate_43 fl_X6_38 (ts_live (k := 0) (by decide) (by decide) (by decide)) rfl rfl (i2 := (26, 0, 0)) rfl ?_
                refine tv_iload_n C (pc := 46) dX6_allocate_46 rfl rfl ?_
                obtain ⟨hr47, h⟩ := ts_gd h
                refine tv_aaload7 C (pc := 47) dX6_allocate_47 (ts_live (k := 26) (by decide) (by decide) (by decide)) rfl hr47 (j := p1.toNatClampNeg) rfl (i2 := (27, 0, p1.toNatClampNeg)) rfl ?_
                refine tv_iload_n C (pc := 48) dX6_allocate_48 rfl rfl ?_
                refine tv_iload_n C (pc := 49) dX6_allocate_49 rfl rfl ?_
                obtain ⟨q48, hq48, h⟩ := ts_bd h
                refine tv_callV C (pc := 50) dX6_allocate_50 (ci := 4) (q := (RX4, TX4, 4)) rfl yl_X6_203 (m_X4_makeNew (D := D) (dT := dT) (sz := sz) (ad := ad) hl p1.toNatClampNeg (ts_vin hr47) p2 p3 u q48 hq48) (ts_live (k := 27) (by decide) (by decide) (ts_vin hr47)) rfl (Nat.le_trans (Nat.le_of_ble_eq_true rfl) hdd) (As := [.inl (.int p2), .inl (.int p3)]) rfl ⟨Nat.le_of_ble_eq_true rfl, Nat.le_of_ble_eq_true rfl⟩ (fun _ => Nat.le_of_ble_eq_true rfl) rfl ?_
                cases h
                exact tv_vret C (pc := 53) rfl dX6_allocate_53 ⟨Nat.le_of_ble_eq_true rfl, Nat.le_of_ble_eq_true rfl⟩
              · have h := ts_eR h
                cases h
                exact tv_callS_thr C (pc := 39) hX dX6_allocate_39 yl_X6_43 Mq44 (Nat.le_trans (Nat.le_of_ble_eq_true rfl) hdd) (As := [.inl (.int (0 : Int32))]) rfl ⟨Nat.le_of_ble_eq_true rfl, Nat.le_of_ble_eq_true rfl⟩ (fun _ => Nat.le_of_ble_eq_true rfl) rfl ⟨Nat.le_of_ble_eq_true rfl, Nat.le_of_ble_eq_true rfl⟩
            · have h := ts_ifn h hc
              refine tv_iload_n C (pc := 28) dX6_allocate_28 rfl rfl ?_
              refine tv_bipush C (pc := 29) dX6_allocate_29 (v := (30 : Int32)) rfl ?_
              refine tv_icmp_gt C (pc := 31) 38 dX6_allocate_31 (by decide) (fun hc => ?_) (fun hc => ?_)
              · have h := ts_ifp h hc
                refine tv_iconst C (pc := 38) dX6_allocate_38 (v := (0 : Int32)) rfl ?_
                obtain ⟨q49, hq49, h⟩ := ts_bd h
                have Mq49 := (m_X6_requireArgument (D := D) (dT := dT) (sz := sz) (ad := ad) hl (0 : Int32) u q49 hq49)
                rcases q49 with v50 | e51
                · have h := ts_eL h
                  refine tv_callS C (pc := 39) dX6_allocate_39 yl_X6_43 Mq49 (Nat.le_trans (Nat.le_of_ble_eq_true rfl) hdd) (As := [.inl (.int (0 : Int32))]) rfl ⟨Nat.le_of_ble_eq_true rfl, Nat.le_of_ble_eq_true rfl⟩ (fun _ => Nat.le_of_ble_eq_true rfl) rfl ?_
                  refine tv_aload_n C (pc := 42) dX6_allocate_42 rfl rfl ?_
                  refine tv_getR C (pc := 43) dX6_allocate_43 fl_X6_38 (ts_live (k := 0) (by decide) (by decide) (by decide)) rfl rfl (i2 := (26, 0, 0)) rfl ?_
                  refine tv_iload_n C (pc := 46) dX6_allocate_46 rfl rfl ?_
                  obtain ⟨hr52, h⟩ := ts_gd h
                  refine tv_aaload7 C (pc := 47) dX6_allocate_47 (ts_live (k := 26) (by decide) (by decide) (by decide)) rfl hr52 (j := p1.toNatClampNeg) rfl (i2 := (27, 0, p1.toNatClampNeg)) rfl ?_
                  refine tv_iload_n C (pc := 48) dX6_allocate_48 rfl rfl ?_
                  refine tv_iload_n C (pc := 49) dX6_allocate_49 rfl rfl ?_
                  obtain ⟨q53, hq53, h⟩ := ts_bd h
                  refine tv_callV C (pc := 50) dX6_allocate_50 (ci := 4) (q := (RX4, TX4, 4)) rfl yl_X6_203 (m_X4_makeNew (D := D) (dT := dT) (sz := sz) (ad := ad) hl p1.toNatClampNeg (ts_vin hr52) p2 p3 u q53 hq53) (ts_live (k := 27) (by decide) (by decide) (ts_vin hr52)) rfl (Nat.le_trans (Nat.le_of_ble_eq_true rfl) hdd) (As := [.inl (.int p2), .inl (.int p3)]) rfl ⟨Nat.le_of_ble_eq_true rfl, Nat.le_of_ble_eq_true rfl⟩ (fun _ => Nat.le_of_ble_eq_true rfl) rfl ?_
                  cases h
                  exact tv_vret C (pc := 53) rfl dX6_allocate_53 ⟨Nat.le_of_ble_eq_true rfl, Nat.le_of_ble_eq_true rfl⟩
                · have h := ts_eR h
                  cases h
                  exact tv_callS_thr C (pc := 39) hX dX6_allocate_39 yl_X6_43 Mq49 (Nat.le_trans (Nat.le_of_ble_eq_true rfl) hdd) (As := [.inl (.int (0 : Int32))]) rfl ⟨Nat.le_of_ble_eq_true rfl, Nat.le_of_ble_eq_true rfl⟩ (fun _ => Nat.le_of_ble_eq_true rfl) rfl ⟨Nat.le_of_ble_eq_true rfl, Nat.le_of_ble_eq_true rfl⟩
              · have h := ts_ifn h hc
                refine tv_iconst C (pc := 34) dX6_allocate_34 (v := (1 : Int32)) rfl ?_
                refine tv_goto C (pc := 35) 39 dX6_allocate_35 (by decide) ?_
                obtain ⟨q54, hq54, h⟩ := ts_bd h
                have Mq54 := (m_X6_requireArgument (D := D) (dT := dT) (sz := sz) (ad := ad) hl (1 : Int32) u q54 hq54)
                rcases q54 with v55 | e56
                · have h := ts_eL h
                  refine tv_callS C (pc := 39) dX6_allocate_39 yl_X6_43 Mq54 (Nat.le_trans (Nat.le_of_ble_eq_true rfl) hdd) (As := [.inl (.int (1 : Int32))]) rfl ⟨Nat.le_of_ble_eq_true rfl, Nat.le_of_ble_eq_true rfl⟩ (fun _ => Nat.le_of_ble_eq_true rfl) rfl ?_
                  refine tv_aload_n C (pc := 42) dX6_allocate_42 rfl rfl ?_
                  refine tv_getR C (pc := 43) dX6_allocate_43 fl_X6_38 (ts_live (k := 0) (by decide) (by decide) (by decide)) rfl rfl (i2 := (26, 0, 0)) rfl ?_
                  refine tv_iload_n C (pc := 46) dX6_allocate_46 rfl rfl ?_
                  obtain ⟨hr57, h⟩ := ts_gd h
                  refine tv_aaload7 C (pc := 47) dX6_allocate_47 (ts_live (k := 26) (by decide) (by decide) (by decide)) rfl hr57 (j := p1.toNatClampNeg) rfl (i2 := (27, 0, p1.toNatClampNeg)) rfl ?_
                  refine tv_iload_n C (pc := 48) dX6_allocate_48 rfl rfl ?_
                  refine tv_iload_n C (pc := 49) dX6_allocate_49 rfl rfl ?_
                  obtain ⟨q58, hq58, h⟩ := ts_bd h
                  refine tv_callV C (pc := 50) dX6_allocate_50 (ci := 4) (q := (RX4, TX4, 4)) rfl yl_X6_203 (m_X4_makeNew (D := D) (dT := dT) (sz := sz) (ad := ad) hl p1.toNatClampNeg (ts_vin hr57) p2 p3 u q58 hq58) (ts_live (k := 27) (by decide) (by decide) (ts_vin hr57)) rfl (Nat.le_trans (Nat.le_of_ble_eq_true rfl) hdd) (As := [.inl (.int p2), .inl (.int p3)]) rfl ⟨Nat.le_of_ble_eq_true rfl, Nat.le_of_ble_eq_true rfl⟩ (fun _ => Nat.le_of_ble_eq_true rfl) rfl ?_
                  cases h
                  exact tv_vret C (pc := 53) rfl dX6_allocate_53 ⟨Nat.le_of_ble_eq_true rfl, Nat.le_of_ble_eq_true rfl⟩
                · have h := ts_eR h
                  cases h
                  exact tv_callS_thr C (pc := 39) hX dX6_allocate_39 yl_X6_43 Mq54 (Nat.le_trans (Nat.le_of_ble_eq_true rfl) hdd) (As := [.inl (.int (1 : Int32))]) rfl ⟨Nat.le_of_ble_eq_true rfl, Nat.le_of_ble_eq_true rfl⟩ (fun _ => Nat.le_of_ble_eq_true rfl) rfl ⟨Nat.le_of_ble_eq_true rfl, Nat.le_of_ble_eq_true rfl⟩
          · have h := ts_eR h
            cases h
            exact tv_callS_thr C (pc := 21) hX dX6_allocate_21 yl_X6_43 Mq41 (Nat.le_trans (Nat.le_of_ble_eq_true rfl) hdd) (As := [.inl (.int (1 : Int32))]) rfl ⟨Nat.le_of_ble_eq_true rfl, Nat.le_of_ble_eq_true rfl⟩ (fun _ => Nat.le_of_ble_eq_true rfl) rfl ⟨Nat.le_of_ble_eq_true rfl, Nat.le_of_ble_eq_true rfl⟩
    · have h := ts_eR h
      cases h
      exact tv_callS_thr C (pc := 4) hX dX6_allocate_4 yl_X6_71 Mq2 (Nat.le_trans (Nat.le_of_ble_eq_true rfl) hdd) (As := [.inl (.int q1)]) rfl ⟨Nat.le_of_ble_eq_true rfl, Nat.le_of_ble_eq_true rfl⟩ (fun _ => Nat.le_of_ble_eq_true rfl) rfl ⟨Nat.le_of_ble_eq_true rfl, Nat.le_of_ble_eq_true rfl⟩
set_option maxRecDepth 100000 in
set_option maxHeartbeats 4000000 in
theorem m_X6_export {l : Launch} {D : va_G} {dT : Nat → ClassId} {sz : Nat} {ad : ts_I → Nat} (hl : l.stackTraces = false) (p1 : Int32) (p2 : Int32) (u : ts_Mem) (r : ((Int32 ⊕ String) × ts_Mem)) (h : f_X6_export p1 p2 u = some r) : ts_M l D dT sz yX6_export wX6_export 1 3 18 ad ts_lv ts_R0 [.inr (0, 0, 0), .inl (.int p1), .inl (.int p2)] u (ts_oI r.1) r.2 := by
    unfold f_X6_export at h
    refine ts_enter hl (by decide) rfl rfl (Nat.le_of_ble_eq_true rfl) ?_
    intro p e s m args below meth c C hX hnm
    have C : ts_CX D dT sz p l (ts_rm 1 3 18) s m args meth c RX6 cX6_export 4 (some .int) 1 := C
    have hdd : 1 ≤ 1 := Nat.le_refl _
    refine tv_iload_n C (pc := 0) dX6_export_0 rfl rfl ?_
    obtain ⟨q1, hq1, h⟩ := ts_bd h
    refine tv_callS C (pc := 1) dX6_export_1 yl_X6_200 (m_X6_isSlot (D := D) (dT := dT) (sz := sz) (ad := ad) hl p1 u q1 hq1) (Nat.le_trans (Nat.le_of_ble_eq_true rfl) hdd) (As := [.inl (.int p1)]) rfl ⟨Nat.le_of_ble_eq_true rfl, Nat.le_of_ble_eq_true rfl⟩ (fun _ => Nat.le_of_ble_eq_true rfl) rfl ?_
    refine tv_if_eq C (pc := 4) 18 dX6_export_4 (by decide) (fun hc => ?_) (fun hc => ?_)
    · have h := ts_ifp h hc
      refine tv_iconst C (pc := 18) dX6_export_18 (v := (0 : Int32)) rfl ?_
      obtain ⟨q2, hq2, h⟩ := ts_bd h
      have Mq2 := (m_X6_requireIndex (D := D) (dT := dT) (sz := sz) (ad := ad) hl (0 : Int32) u q2 hq2)
      rcases q2 with v3 | e4
      · have h := ts_eL h
        refine tv_callS C (pc := 19) dX6_export_19 yl_X6_71 Mq2 (Nat.le_trans (Nat.le_of_ble_eq_true rfl) hdd) (As := [.inl (.int (0 : Int32))]) rfl ⟨Nat.le_of_ble_eq_true rfl, Nat.le_of_ble_eq_true rfl⟩ (fun _ => Nat.le_of_ble_eq_true rfl) rfl ?_
        refine tv_aload_n C (pc := 22) dX6_export_22 rfl rfl ?_
        refine tv_getR C (pc := 23) dX6_export_23 fl_X6_38 (ts_live (k := 0) (by decide) (by decide) (by decide)) rfl rfl (i2 := (26, 0, 0)) rfl ?_
        refine tv_iload_n C (pc := 26) dX6_export_26 rfl rfl ?_
        obtain ⟨hr5, h⟩ := ts_gd h
        refine tv_aaload7 C (pc := 27) dX6_export_27 (ts_live (k := 26) (by decide) (by decide) (by decide)) rfl hr5 (j := p1.toNatClampNeg) rfl (i2 := (27, 0, p1.toNatClampNeg)) rfl ?_
        obtain ⟨q6, hq6, h⟩ := ts_bd h
        refine tv_callV C (pc := 28) dX6_export_28 (ci := 4) (q := (RX4, TX4, 4)) rfl yl_X6_206 (m_X4_isUsed (D := D) (dT := dT) (sz := sz) (ad := ad) hl p1.toNatClampNeg (ts_vin hr5) u q6 hq6) (ts_live (k := 27) (by decide) (by decide) (ts_vin hr5)) rfl (Nat.le_trans (Nat.le_of_ble_eq_true rfl) hdd) (As := []) rfl ⟨Nat.le_of_ble_eq_true rfl, Nat.le_of_ble_eq_true rfl⟩ (fun _ => Nat.le_of_ble_eq_true rfl) rfl ?_
        obtain ⟨q7, hq7, h⟩ := ts_bd h
        have Mq7 := (m_X6_requireState (D := D) (dT := dT) (sz := sz) (ad := ad) hl q6 u q7 hq7)
        rcases q7 with v8 | e9
        · have h := ts_eL h
          refine tv_callS C (pc := 31) dX6_export_31 yl_X6_57 Mq7 (Nat.le_trans (Nat.le_of_ble_eq_true rfl) hdd) (As := [.inl (.int q6)]) rfl ⟨Nat.le_of_ble_eq_true rfl, Nat.le_of_ble_eq_true rfl⟩ (fun _ => Nat.le_of_ble_eq_true rfl) rfl ?_
          refine tv_aload_n C (pc := 34) dX6_export_34 rfl rfl ?_
          refine tv_getR C (pc := 35) dX6_export_35 fl_X6_12 (ts_live (k := 0) (by decide) (by decide) (by decide)) rfl rfl (i2 := (1, 0, 0)) rfl ?_
          refine tv_getR C (pc := 38) dX6_export_38 fl_X6_142 (ts_live (k := 1) (by decide) (by decide) (by decide)) rfl rfl (i2 := (3, 0, 0)) rfl ?_
          refine tv_iload_n C (pc := 41) dX6_export_41 rfl rfl ?_
          obtain ⟨hr10, h⟩ := ts_gd h
          refine tv_aaload6 C (pc := 42) dX6_export_42 (ts_live (k := 3) (by decide) (by decide) (by decide)) rfl hr10 (j := p2.toNatClampNeg) rfl (i2 := (16, 0, p2.toNatClampNeg)) rfl ?_
          refine tv_astore_n C (pc := 43) dX6_export_43 (L' := [some (.inr (0, 0, 0)), some (.inl (.int p1)), some (.inl (.int p2)), some (.inr (16, 0, p2.toNatClampNeg))]) rfl (by decide) rfl rfl ?_
          refine tv_aload_n C (pc := 44) dX6_export_44 rfl rfl ?_
          refine tv_getR C (pc := 45) dX6_export_45 fl_X6_38 (ts_live (k := 0) (by decide) (by decide) (by decide)) rfl rfl (i2 := (26, 0, 0)) rfl ?_
          refine tv_iload_n C (pc := 48) dX6_export_48 rfl rfl ?_
          obtain ⟨hr11, h⟩ := ts_gd h
          refine tv_aaload7 C (pc := 49) dX6_export_49 (ts_live (k := 26) (by decide) (by decide) (by decide)) rfl hr11 (j := p1.toNatClampNeg) rfl (i2 := (27, 0, p1.toNatClampNeg)) rfl ?_
          refine tv_aload_n C (pc := 50) dX6_export_50 rfl rfl ?_
          obtain ⟨q12, hq12, h⟩ := ts_bd h
          refine tv_callV C (pc := 51) dX6_export_51 (ci := 4) (q := (RX4, TX4, 4)) rfl yl_X6_209 (m_X4_takeValues (D := D) (dT := dT) (sz := sz) (ad := ad) hl p1.toNatClampNeg (ts_vin hr11) 0 (by decide) p2.toNatClampNeg (ts_vin hr10) u q12 hq12) (ts_live (k := 27) (by decide) (by decide) (ts_vin hr11)) rfl (Nat.le_trans (Nat.le_of_ble_eq_true rfl) hdd) (As := [.inr (16, 0, p2.toNatClampNeg)]) rfl ⟨Nat.le_of_ble_eq_true rfl, Nat.le_of_ble_eq_true rfl⟩ (fun _ => Nat.le_of_ble_eq_true rfl) rfl ?_
          refine tv_aload_n C (pc := 54) dX6_export_54 rfl rfl ?_
          refine tv_getR C (pc := 55) dX6_export_55 fl_X6_38 (ts_live (k := 0) (by decide) (by decide) (by decide)) rfl rfl (i2 := (26, 0, 0)) rfl ?_
          refine tv_iload_n C (pc := 58) dX6_export_58 rfl rfl ?_
          obtain ⟨hr13, h⟩ := ts_gd h
          refine tv_aaload7 C (pc := 59) dX6_export_59 (ts_live (k := 26) (by decide) (by decide) (by decide)) rfl hr13 (j := p1.toNatClampNeg) rfl (i2 := (27, 0, p1.toNatClampNeg)) rfl ?_
          refine tv_getI C (pc := 60) dX6_export_60 fl_X6_213 (ts_live (k := 27) (by decide) (by decide) (ts_vin hr13)) rfl (cd := 0) rfl (by decide) ?_
          refine tv_aload_n C (pc := 63) dX6_export_63 rfl rfl ?_
          refine tv_getI C (pc := 64) dX6_export_64 fl_X6_146 (ts_live (k := 16) (by decide) (by decide) (ts_vin hr10)) rfl (cd := 0) rfl (by decide) ?_
          refine tv_icmp_lt C (pc := 67) 74 dX6_export_67 (by decide) (fun hc => ?_) (fun hc => ?_)
          · have h := ts_ifp h hc
            refine tv_iconst C (pc := 74) dX6_export_74 (v := (0 : Int32)) rfl ?_
            obtain ⟨q14, hq14, h⟩ := ts_bd h
            have Mq14 := (m_X6_requireIndex (D := D) (dT := dT) (sz := sz) (ad := ad) hl (0 : Int32) q12 q14 hq14)
            rcases q14 with v15 | e16
            · have h := ts_eL h
              refine tv_callS C (pc := 75) dX6_export_75 yl_X6_71 Mq14 (Nat.le_trans (Nat.le_of_ble_eq_true rfl) hdd) (As := [.inl (.int (0 : Int32))]) rfl ⟨Nat.le_of_ble_eq_true rfl, Nat.le_of_ble_eq_true rfl⟩ (fun _ => Nat.le_of_ble_eq_true rfl) rfl ?_
              refine tv_aload_n C (pc := 78) dX6_export_78 rfl rfl ?_
              refine tv_getI C (pc := 79) dX6_export_79 fl_X6_146 (ts_live (k := 16) (by decide) (by decide) (ts_vin hr10)) rfl (cd := 0) rfl (by decide) ?_
              cases h
              exact tv_iret C (pc := 82) rfl dX6_export_82 ⟨Nat.le_of_ble_eq_true rfl, Nat.le_of_ble_eq_true rfl⟩
            · have h := ts_eR h
              cases h
              exact tv_callS_thr C (pc := 75) hX dX6_export_75 yl_X6_71 Mq14 (Nat.le_trans (Nat.le_of_ble_eq_true rfl) hdd) (As := [.inl (.int (0 : Int32))]) rfl ⟨Nat.le_of_ble_eq_true rfl, Nat.le_of_ble_eq_true rfl⟩ (fun _ => Nat.le_of_ble_eq_true rfl) rfl ⟨Nat.le_of_ble_eq_true rfl, Nat.le_of_ble_eq_true rfl⟩
          · have h := ts_ifn h hc
            refine tv_iconst C (pc := 70) dX6_export_70 (v := (1 : Int32)) rfl ?_
            refine tv_goto C (pc := 71) 75 dX6_export_71 (by decide) ?_
            obtain ⟨q17, hq17, h⟩ := ts_bd h
            have Mq17 := (m_X6_requireIndex (D := D) (dT := dT) (sz := sz) (ad := ad) hl (1 : Int32) q12 q17 hq17)
            rcases q17 with v18 | e19
            · have h := ts_eL h
              refine tv_callS C (pc := 75) dX6_export_75 yl_X6_71 Mq17 (Nat.le_trans (Nat.le_of_ble_eq_true rfl) hdd) (As := [.inl (.int (1 : Int32))]) rfl ⟨Nat.le_of_ble_eq_true rfl, Nat.le_of_ble_eq_true rfl⟩ (fun _ => Nat.le_of_ble_eq_true rfl) rfl ?_
              refine tv_aload_n C (pc := 78) dX6_export_78 rfl rfl ?_
              refine tv_getI C (pc := 79) dX6_export_79 fl_X6_146 (ts_live (k := 16) (by decide) (by decide) (ts_vin hr10)) rfl (cd := 0) rfl (by decide) ?_
              cases h
              exact tv_iret C (pc := 82) rfl dX6_export_82 ⟨Nat.le_of_ble_eq_true rfl, Nat.le_of_ble_eq_true rfl⟩
            · have h := ts_eR h
              cases h
              exact tv_callS_thr C (pc := 75) hX dX6_export_75 yl_X6_71 Mq17 (Nat.le_trans (Nat.le_of_ble_eq_true rfl) hdd) (As := [.inl (.int (1 : Int32))]) rfl ⟨Nat.le_of_ble_eq_true rfl, Nat.le_of_ble_eq_true rfl⟩ (fun _ => Nat.le_of_ble_eq_true rfl) rfl ⟨Nat.le_of_ble_eq_true rfl, Nat.le_of_ble_eq_true rfl⟩
        · have h := ts_eR h
          cases h
          exact tv_callS_thr C (pc := 31) hX dX6_export_31 yl_X6_57 Mq7 (Nat.le_trans (Nat.le_of_ble_eq_true rfl) hdd) (As := [.inl (.int q6)]) rfl ⟨Nat.le_of_ble_eq_true rfl, Nat.le_of_ble_eq_true rfl⟩ (fun _ => Nat.le_of_ble_eq_true rfl) rfl ⟨Nat.le_of_ble_eq_true rfl, Nat.le_of_ble_eq_true rfl⟩
      · have h := ts_eR h
        cases h
        exact tv_callS_thr C (pc := 19) hX dX6_export_19 yl_X6_71 Mq2 (Nat.le_trans (Nat.le_of_ble_eq_true rfl) hdd) (As := [.inl (.int (0 : Int32))]) rfl ⟨Nat.le_of_ble_eq_true rfl, Nat.le_of_ble_eq_true rfl⟩ (fun _ => Nat.le_of_ble_eq_true rfl) rfl ⟨Nat.le_of_ble_eq_true rfl, Nat.le_of_ble_eq_true rfl⟩
    · have h := ts_ifn h hc
      refine tv_iload_n C (pc := 7) dX6_export_7 rfl rfl ?_
      obtain ⟨q20, hq20, h⟩ := ts_bd h
      refine tv_callS C (pc := 8) dX6_export_8 yl_X6_68 (m_X6_isItem (D := D) (dT := dT) (sz := sz) (ad := ad) hl p2 u q20 hq20) (Nat.le_trans (Nat.le_of_ble_eq_true rfl) hdd) (As := [.inl (.int p2)]) rfl ⟨Nat.le_of_ble_eq_true rfl, Nat.le_of_ble_eq_true rfl⟩ (fun _ => Nat.le_of_ble_eq_true rfl) rfl ?_
      refine tv_if_eq C (pc := 11) 18 dX6_export_11 (by decide) (fun hc => ?_) (fun hc => ?_)
      · have h := ts_ifp h hc
        refine tv_iconst C (pc := 18) dX6_export_18 (v := (0 : Int32)) rfl ?_
        obtain ⟨q21, hq21, h⟩ := ts_bd h
        have Mq21 := (m_X6_requireIndex (D := D) (dT := dT) (sz := sz) (ad := ad) hl (0 : Int32) u q21 hq21)
        rcases q21 with v22 | e23
        · have h := ts_eL h
          refine tv_callS C (pc := 19) dX6_export_19 yl_X6_71 Mq21 (Nat.le_trans (Nat.le_of_ble_eq_true rfl) hdd) (As := [.inl (.int (0 : Int32))]) rfl ⟨Nat.le_of_ble_eq_true rfl, Nat.le_of_ble_eq_true rfl⟩ (fun _ => Nat.le_of_ble_eq_true rfl) rfl ?_
          refine tv_aload_n C (pc := 22) dX6_export_22 rfl rfl ?_
          refine tv_getR C (pc := 23) dX6_export_23 fl_X6_38 (ts_live (k := 0) (by decide) (by decide) (by decide)) rfl rfl (i2 := (26, 0, 0)) rfl ?_
          refine tv_iload_n C (pc := 26) dX6_export_26 rfl rfl ?_
          obtain ⟨hr24, h⟩ := ts_gd h
          refine tv_aaload7 C (pc := 27) dX6_export_27 (ts_live (k := 26) (by decide) (by decide) (by decide)) rfl hr24 (j := p1.toNatClampNeg) rfl (i2 := (27, 0, p1.toNatClampNeg)) rfl ?_
          obtain ⟨q25, hq25, h⟩ := ts_bd h
          refine tv_callV C (pc := 28) dX6_export_28 (ci := 4) (q := (RX4, TX4, 4)) rfl yl_X6_206 (m_X4_isUsed (D := D) (dT := dT) (sz := sz) (ad := ad) hl p1.toNatClampNeg (ts_vin hr24) u q25 hq25) (ts_live (k := 27) (by decide) (by decide) (ts_vin hr24)) rfl (Nat.le_trans (Nat.le_of_ble_eq_true rfl) hdd) (As := []) rfl ⟨Nat.le_of_ble_eq_true rfl, Nat.le_of_ble_eq_true rfl⟩ (fun _ => Nat.le_of_ble_eq_true rfl) rfl ?_
          obtain ⟨q26, hq26, h⟩ := ts_bd h
          have Mq26 := (m_X6_requireState (D := D) (dT := dT) (sz := sz) (ad := ad) hl q25 u q26 hq26)
          rcases q26 with v27 | e28
          · have h := ts_eL h
            refine tv_callS C (pc := 31) dX6_export_31 yl_X6_57 Mq26 (Nat.le_trans (Nat.le_of_ble_eq_true rfl) hdd) (As := [.inl (.int q25)]) rfl ⟨Nat.le_of_ble_eq_true rfl, Nat.le_of_ble_eq_true rfl⟩ (fun _ => Nat.le_of_ble_eq_true rfl) rfl ?_
            refine tv_aload_n C (pc := 34) dX6_export_34 rfl rfl ?_
            refine tv_getR C (pc := 35) dX6_export_35 fl_X6_12 (ts_live (k := 0) (by decide) (by decide) (by decide)) rfl rfl (i2 := (1, 0, 0)) rfl ?_
            refine tv_getR C (pc := 38) dX6_export_38 fl_X6_142 (ts_live (k := 1) (by decide) (by decide) (by decide)) rfl rfl (i2 := (3, 0, 0)) rfl ?_
            refine tv_iload_n C (pc := 41) dX6_export_41 rfl rfl ?_
            obtain ⟨hr29, h⟩ := ts_gd h
            refine tv_aaload6 C (pc := 42) dX6_export_42 (ts_live (k := 3) (by decide) (by decide) (by decide)) rfl hr29 (j := p2.toNatClampNeg) rfl (i2 := (16, 0, p2.toNatClampNeg)) rfl ?_
            refine tv_astore_n C (pc := 43) dX6_export_43 (L' := [some (.inr (0, 0, 0)), some (.inl (.int p1)), some (.inl (.int p2)), some (.inr (16, 0, p2.toNatClampNeg))]) rfl (by decide) rfl rfl ?_
            refine tv_aload_n C (pc := 44) dX6_export_44 rfl rfl ?_
            refine tv_getR C (pc := 45) dX6_export_45 fl_X6_38 (ts_live (k := 0) (by decide) (by decide) (by decide)) rfl rfl (i2 := (26, 0, 0)) rfl ?_
            refine tv_iload_n C (pc := 48) dX6_export_48 rfl rfl ?_
            obtain ⟨hr30, h⟩ := ts_gd h
            refine tv_aaload7 C (pc := 49) dX6_export_49 (ts_live (k := 26) (by decide) (by decide) (by decide)) rfl hr30 (j := p1.toNatClampNeg) rfl (i2 := (27, 0, p1.toNatClampNeg)) rfl ?_
            refine tv_aload_n C (pc := 50) dX6_export_50 rfl rfl ?_
            obtain ⟨q31, hq31, h⟩ := ts_bd h
            refine tv_callV C (pc := 51) dX6_export_51 (ci := 4) (q := (RX4, TX4, 4)) rfl yl_X6_209 (m_X4_takeValues (D := D) (dT := dT) (sz := sz) (ad := ad) hl p1.toNatClampNeg (ts_vin hr30) 0 (by decide) p2.toNatClampNeg (ts_vin hr29) u q31 hq31) (ts_live (k := 27) (by decide) (by decide) (ts_vin hr30)) rfl (Nat.le_trans (Nat.le_of_ble_eq_true rfl) hdd) (As := [.inr (16, 0, p2.toNatClampNeg)]) rfl ⟨Nat.le_of_ble_eq_true rfl, Nat.le_of_ble_eq_true rfl⟩ (fun _ => Nat.le_of_ble_eq_true rfl) rfl ?_
            refine tv_aload_n C (pc := 54) dX6_export_54 rfl rfl ?_
            refine tv_getR C (pc := 55) dX6_export_55 fl_X6_38 (ts_live (k := 0) (by decide) (by decide) (by decide)) rfl rfl (i2 := (26, 0, 0)) rfl ?_
            refine tv_iload_n C (pc := 58) dX6_export_58 rfl rfl ?_
            obtain ⟨hr32, h⟩ := ts_gd h
            refine tv_aaload7 C (pc := 59) dX6_export_59 (ts_live (k := 26) (by decide) (by decide) (by decide)) rfl hr32 (j := p1.toNatClampNeg) rfl (i2 := (27, 0, p1.toNatClampNeg)) rfl ?_
            refine tv_getI C (pc := 60) dX6_export_60 fl_X6_213 (ts_live (k := 27) (by decide) (by decide) (ts_vin hr32)) rfl (cd := 0) rfl (by decide) ?_
            refine tv_aload_n C (pc := 63) dX6_export_63 rfl rfl ?_
            refine tv_getI C (pc := 64) dX6_export_64 fl_X6_146 (ts_live (k := 16) (by decide) (by decide) (ts_vin hr29)) rfl (cd := 0) rfl (by decide) ?_
            refine tv_icmp_lt C (pc := 67) 74 dX6_export_67 (by decide) (fun hc => ?_) (fun hc => ?_)
            · have h := ts_ifp h hc
              refine tv_iconst C (pc := 74) dX6_export_74 (v := (0 : Int32)) rfl ?_
              obtain ⟨q33, hq33, h⟩ := ts_bd h
              have Mq33 := (m_X6_requireIndex (D := D) (dT := dT) (sz := sz) (ad := ad) hl (0 : Int32) q31 q33 hq33)
              rcases q33 with v34 | e35
              · have h := ts_eL h
                refine tv_callS C (pc := 75) dX6_export_75 yl_X6_71 Mq33 (Nat.le_trans (Nat.le_of_ble_eq_true rfl) hdd) (As := [.inl (.int (0 : Int32))]) rfl ⟨Nat.le_of_ble_eq_true rfl, Nat.le_of_ble_eq_true rfl⟩ (fun _ => Nat.le_of_ble_eq_true rfl) rfl ?_
                refine tv_aload_n C (pc := 78) dX6_export_78 rfl rfl ?_
                refine tv_getI C (pc := 79) dX6_export_79 fl_X6_146 (ts_live (k := 16) (by decide) (by decide) (ts_vin hr29)) rfl (cd := 0) rfl (by decide) ?_
                cases h
                exact tv_iret C (pc := 82) rfl dX6_export_82 ⟨Nat.le_of_ble_eq_true rfl, Nat.le_of_ble_eq_true rfl⟩
              · have h := ts_eR h
                cases h
                exact tv_callS_thr C (pc := 75) hX dX6_export_75 yl_X6_71 Mq33 (Nat.le_trans (Nat.le_of_ble_eq_true rfl) hdd) (As := [.inl (.int (0 : Int32))]) rfl ⟨Nat.le_of_ble_eq_true rfl, Nat.le_of_ble_eq_true rfl⟩ (fun _ => Nat.le_of_ble_eq_true rfl) rfl ⟨Nat.le_of_ble_eq_true rfl, Nat.le_of_ble_eq_true rfl⟩
            · have h := ts_ifn h hc
              refine tv_iconst C (pc := 70) dX6_export_70 (v := (1 : Int32)) rfl ?_
              refine tv_goto C (pc := 71) 75 dX6_export_71 (by decide) ?_
              obtain ⟨q36, hq36, h⟩ := ts_bd h
              have Mq36 := (m_X6_requireIndex (D := D) (dT := dT) (sz := sz) (ad := ad) hl (1 : Int32) q31 q36 hq36)
              rcases q36 with v37 | e38
              · have h := ts_eL h
                refine tv_callS C (pc := 75) dX6_export_75 yl_X6_71 Mq36 (Nat.le_trans (Nat.le_of_ble_eq_true rfl) hdd) (As := [.inl (.int (1 : Int32))]) rfl ⟨Nat.le_of_ble_eq_true rfl, Nat.le_of_ble_eq_true rfl⟩ (fun _ => Nat.le_of_ble_eq_true rfl) rfl ?_
                refine tv_aload_n C (pc := 78) dX6_export_78 rfl rfl ?_
                refine tv_getI C (pc := 79) dX6_export_79 fl_X6_146 (ts_live (k := 16) (by decide) (by decide) (ts_vin hr29)) rfl (cd := 0) rfl (by decide) ?_
                cases h
                exact tv_iret C (pc := 82) rfl dX6_export_82 ⟨Nat.le_of_ble_eq_true rfl, Nat.le_of_ble_eq_true rfl⟩
              · have h := ts_eR h
                cases h
                exact tv_callS_thr C (pc := 75) hX dX6_export_75 yl_X6_71 Mq36 (Nat.le_trans (Nat.le_of_ble_eq_true rfl) hdd) (As := [.inl (.int (1 : Int32))]) rfl ⟨Nat.le_of_ble_eq_true rfl, Nat.le_of_ble_eq_true rfl⟩ (fun _ => Nat.le_of_ble_eq_true rfl) rfl ⟨Nat.le_of_ble_eq_true rfl, Nat.le_of_ble_eq_true rfl⟩
          · have h := ts_eR h
            cases h
            exact tv_callS_thr C (pc := 31) hX dX6_export_31 yl_X6_57 Mq26 (Nat.le_trans (Nat.le_of_ble_eq_true rfl) hdd) (As := [.inl (.int q25)]) rfl ⟨Nat.le_of_ble_eq_true rfl, Nat.le_of_ble_eq_true rfl⟩ (fun _ => Nat.le_of_ble_eq_true rfl) rfl ⟨Nat.le_of_ble_eq_true rfl, Nat.le_of_ble_eq_true rfl⟩
        · have h := ts_eR h
          cases h
          exact tv_callS_thr C (pc := 19) hX dX6_export_19 yl_X6_71 Mq21 (Nat.le_trans (Nat.le_of_ble_eq_true rfl) hdd) (As := [.inl (.int (0 : Int32))]) rfl ⟨Nat.le_of_ble_eq_true rfl, Nat.le_of_ble_eq_true rfl⟩ (fun _ => Nat.le_of_ble_eq_true rfl) rfl ⟨Nat.le_of_ble_eq_true rfl, Nat.le_of_ble_eq_true rfl⟩
      · have h := ts_ifn h hc
        refine tv_iconst C (pc := 14) dX6_export_14 (v := (1 : Int32)) rfl ?_
        refine tv_goto C (pc := 15) 19 dX6_export_15 (by decide) ?_
        obtain ⟨q39, hq39, h⟩ := ts_bd h
        have Mq39 := (m_X6_requireIndex (D := D) (dT := dT) (sz := sz) (ad := ad) hl (1 : Int32) u q39 hq39)
        rcases q39 with v40 | e41
        · have h := ts_eL h
          refine tv_callS C (pc := 19) dX6_export_19 yl_X6_71 Mq39 (Nat.le_trans (Nat.le_of_ble_eq_true rfl) hdd) (As := [.inl (.int (1 : Int32))]) rfl ⟨Nat.le_of_ble_eq_true rfl, Nat.le_of_ble_eq_true rfl⟩ (fun _ => Nat.le_of_ble_eq_true rfl) rfl ?_
          refine tv_aload_n C (pc := 22) dX6_export_22 rfl rfl ?_
          refine tv_getR C (pc := 23) dX6_export_23 fl_X6_38 (ts_live (k := 0) (by decide) (by decide) (by decide)) rfl rfl (i2 := (26, 0, 0)) rfl ?_
          refine tv_iload_n C (pc := 26) dX6_export_26 rfl rfl ?_
          obtain ⟨hr42, h⟩ := ts_gd h
          refine tv_aaload7 C (pc := 27) dX6_export_27 (ts_live (k := 26) (by decide) (by decide) (by decide)) rfl hr42 (j := p1.toNatClampNeg) rfl (i2 := (27, 0, p1.toNatClampNeg)) rfl ?_
          obtain ⟨q43, hq43, h⟩ := ts_bd h
          refine tv_callV C (pc := 28) dX6_export_28 (ci := 4) (q := (RX4, TX4, 4)) rfl yl_X6_206 (m_X4_isUsed (D := D) (dT := dT) (sz := sz) (ad := ad) hl p1.toNatClampNeg (ts_vin hr42) u q43 hq43) (ts_live (k := 27) (by decide) (by decide) (ts_vin hr42)) rfl (Nat.le_trans (Nat.le_of_ble_eq_true rfl) hdd) (As := []) rfl ⟨Nat.le_of_ble_eq_true rfl, Nat.le_of_ble_eq_true rfl⟩ (fun _ => Nat.le_of_ble_eq_true rfl) rfl ?_
          obtain ⟨q44, hq44, h⟩ := ts_bd h
          have Mq44 := (m_X6_requireState (D := D) (dT := dT) (sz := sz) (ad := ad) hl q43 u q44 hq44)
          rcases q44 with v45 | e46
          · have h := ts_eL h
            refine tv_callS C (pc := 31) dX6_export_31 yl_X6_57 Mq44 (Nat.le_trans (Nat.le_of_ble_eq_true rfl) hdd) (As := [.inl (.int q43)]) rfl ⟨Nat.le_of_ble_eq_true rfl, Nat.le_of_ble_eq_true rfl⟩ (fun _ => Nat.le_of_ble_eq_true rfl) rfl ?_
            refine tv_aload_n C (pc := 34) dX6_export_34 rfl rfl ?_
            refine tv_getR C (pc := 35) dX6_export_35 fl_X6_12 (ts_live (k := 0) (by decide) (by decide) (by decide)) rfl rfl (i2 := (1, 0, 0)) rfl ?_
            refine tv_getR C (pc := 38) dX6_export_38 fl_X6_142 (ts_live (k := 1) (by decide) (by decide) (by decide)) rfl rfl (i2 := (3, 0, 0)) rfl ?_
            refine tv_iload_n C (pc := 41) dX6_export_41 rfl rfl ?_
            obtain ⟨hr47, h⟩ := ts_gd h
            refine tv_aaload6 C (pc := 42) dX6_export_42 (ts_live (k := 3) (by decide) (by decide) (by decide)) rfl hr47 (j := p2.toNatClampNeg) rfl (i2 := (16, 0, p2.toNatClampNeg)) rfl ?_
            refine tv_astore_n C (pc := 43) dX6_export_43 (L' := [some (.inr (0, 0, 0)), some (.inl (.int p1)), some (.inl (.int p2)), some (.inr (16, 0, p2.toNatClampNeg))]) rfl (by decide) rfl rfl ?_
            refine tv_aload_n C (pc := 44) dX6_export_44 rfl rfl ?_
            refine tv_getR C (pc := 45) dX6_export_45 fl_X6_38 (ts_live (k := 0) (by decide) (by decide) (by decide)) rfl rfl (i2 := (26, 0, 0)) rfl ?_
            refine tv_iload_n C (pc := 48) dX6_export_48 rfl rfl ?_
            obtain ⟨hr48, h⟩ := ts_gd h
            refine tv_aaload7 C (pc := 49) dX6_export_49 (ts_live (k := 26) (by decide) (by decide) (by decide)) rfl hr48 (j := p1.toNatClampNeg) rfl (i2 := (27, 0, p1.toNatClampNeg)) rfl ?_
            refine tv_aload_n C (pc := 50) dX6_export_50 rfl rfl ?_
            obtain ⟨q49, hq49, h⟩ := ts_bd h
            refine tv_callV C (pc := 51) dX6_export_51 (ci := 4) (q := (RX4, TX4, 4)) rfl yl_X6_209 (m_X4_takeValues (D := D) (dT := dT) (sz := sz) (ad := ad) hl p1.toNatClampNeg (ts_vin hr48) 0 (by decide) p2.toNatClampNeg (ts_vin hr47) u q49 hq49) (ts_live (k := 27) (by decide) (by decide) (ts_vin hr48)) rfl (Nat.le_trans (Nat.le_of_ble_eq_true rfl) hdd) (As := [.inr (16, 0, p2.toNatClampNeg)]) rfl ⟨Nat.le_of_ble_eq_true rfl, Nat.le_of_ble_eq_true rfl⟩ (fun _ => Nat.le_of_ble_eq_true rfl) rfl ?_
            refine tv_aload_n C (pc := 54) dX6_export_54 rfl rfl ?_
            refine tv_getR C (pc := 55) dX6_export_55 fl_X6_38 (ts_live (k := 0) (by decide) (by decide) (by decide)) rfl rfl (i2 := (26, 0, 0)) rfl ?_
            refine tv_iload_n C (pc := 58) dX6_export_58 rfl rfl ?_
            obtain ⟨hr50, h⟩ := ts_gd h
            refine tv_aaload7 C (pc := 59) dX6_export_59 (ts_live (k := 26) (by decide) (by decide) (by decide)) rfl hr50 (j := p1.toNatClampNeg) rfl (i2 := (27, 0, p1.toNatClampNeg)) rfl ?_
            refine tv_getI C (pc := 60) dX6_export_60 fl_X6_213 (ts_live (k := 27) (by decide) (by decide) (ts_vin hr50)) rfl (cd := 0) rfl (by decide) ?_
            refine tv_aload_n C (pc := 63) dX6_export_63 rfl rfl ?_
            refine tv_getI C (pc := 64) dX6_export_64 fl_X6_146 (ts_live (k := 16) (by decide) (by decide) (ts_vin hr47)) rfl (cd := 0) rfl (by decide) ?_
            refine tv_icmp_lt C (pc := 67) 74 dX6_export_67 (by decide) (fun hc => ?_) (fun hc => ?_)
            · have h := ts_ifp h hc
              refine tv_iconst C (pc := 74) dX6_export_74 (v := (0 : Int32)) rfl ?_
              obtain ⟨q51, hq51, h⟩ := ts_bd h
              have Mq51 := (m_X6_requireIndex (D := D) (dT := dT) (sz := sz) (ad := ad) hl (0 : Int32) q49 q51 hq51)
              rcases q51 with v52 | e53
              · have h := ts_eL h
                refine tv_callS C (pc := 75) dX6_export_75 yl_X6_71 Mq51 (Nat.le_trans (Nat.le_of_ble_eq_true rfl) hdd) (As := [.inl (.int (0 : Int32))]) rfl ⟨Nat.le_of_ble_eq_true rfl, Nat.le_of_ble_eq_true rfl⟩ (fun _ => Nat.le_of_ble_eq_true rfl) rfl ?_
                refine tv_aload_n C (pc := 78) dX6_export_78 rfl rfl ?_
                refine tv_getI C (pc := 79) dX6_export_79 fl_X6_146 (ts_live (k := 16) (by decide) (by decide) (ts_vin hr47)) rfl (cd := 0) rfl (by decide) ?_
                cases h
                exact tv_iret C (pc := 82) rfl dX6_export_82 ⟨Nat.le_of_ble_eq_true rfl, Nat.le_of_ble_eq_true rfl⟩
              · have h := ts_eR h
                cases h
                exact tv_callS_thr C (pc := 75) hX dX6_export_75 yl_X6_71 Mq51 (Nat.le_trans (Nat.le_of_ble_eq_true rfl) hdd) (As := [.inl (.int (0 : Int32))]) rfl ⟨Nat.le_of_ble_eq_true rfl, Nat.le_of_ble_eq_true rfl⟩ (fun _ => Nat.le_of_ble_eq_true rfl) rfl ⟨Nat.le_of_ble_eq_true rfl, Nat.le_of_ble_eq_true rfl⟩
            · have h := ts_ifn h hc
              refine tv_iconst C (pc := 70) dX6_export_70 (v := (1 : Int32)) rfl ?_
              refine tv_goto C (pc := 71) 75 dX6_export_71 (by decide) ?_
              obtain ⟨q54, hq54, h⟩ := ts_bd h
              have Mq54 := (m_X6_requireIndex (D := D) (dT := dT) (sz := sz) (ad := ad) hl (1 : Int32) q49 q54 hq54)
              rcases q54 with v55 | e56
              · have h := ts_eL h
                refine tv_callS C (pc := 75) dX6_export_75 yl_X6_71 Mq54 (Nat.le_trans (Nat.le_of_ble_eq_true rfl) hdd) (As := [.inl (.int (1 : Int32))]) rfl ⟨Nat.le_of_ble_eq_true rfl, Nat.le_of_ble_eq_true rfl⟩ (fun _ => Nat.le_of_ble_eq_true rfl) rfl ?_
                refine tv_aload_n C (pc := 78) dX6_export_78 rfl rfl ?_
                refine tv_getI C (pc := 79) dX6_export_79 fl_X6_146 (ts_live (k := 16) (by decide) (by decide) (ts_vin hr47)) rfl (cd := 0) rfl (by decide) ?_
                cases h
                exact tv_iret C (pc := 82) rfl dX6_export_82 ⟨Nat.le_of_ble_eq_true rfl, Nat.le_of_ble_eq_true rfl⟩
              · have h := ts_eR h
                cases h
                exact tv_callS_thr C (pc := 75) hX dX6_export_75 yl_X6_71 Mq54 (Nat.le_trans (Nat.le_of_ble_eq_true rfl) hdd) (As := [.inl (.int (1 : Int32))]) rfl ⟨Nat.le_of_ble_eq_true rfl, Nat.le_of_ble_eq_true rfl⟩ (fun _ => Nat.le_of_ble_eq_true rfl) rfl ⟨Nat.le_of_ble_eq_true rfl, Nat.le_of_ble_eq_true rfl⟩
          · have h := ts_eR h
            cases h
            exact tv_callS_thr C (pc := 31) hX dX6_export_31 yl_X6_57 Mq44 (Nat.le_trans (Nat.le_of_ble_eq_true rfl) hdd) (As := [.inl (.int q43)]) rfl ⟨Nat.le_of_ble_eq_true rfl, Nat.le_of_ble_eq_true rfl⟩ (fun _ => Nat.le_of_ble_eq_true rfl) rfl ⟨Nat.le_of_ble_eq_true rfl, Nat.le_of_ble_eq_true rfl⟩
        · have h := ts_eR h
          cases h
          exact tv_callS_thr C (pc := 19) hX dX6_export_19 yl_X6_71 Mq39 (Nat.le_trans (Nat.le_of_ble_eq_true rfl) hdd) (As := [.inl (.int (1 : Int32))]) rfl ⟨Nat.le_of_ble_eq_true rfl, Nat.le_of_ble_eq_true rfl⟩ (fun _ => Nat.le_of_ble_eq_true rfl) rfl ⟨Nat.le_of_ble_eq_true rfl, Nat.le_of_ble_eq_true rfl⟩
set_option maxRecDepth 100000 in
set_option maxHeartbeats 4000000 in
theorem m_X6_divide {l : Launch} {D : va_G} {dT : Nat → ClassId} {sz : Nat} {ad : ts_I → Nat} (hl : l.stackTraces = false) (p1 : Int32) (p2 : Int32) (p3 : Int32) (u : ts_Mem) (r : ((UInt32 ⊕ String) × ts_Mem)) (h : f_X6_divide p1 p2 p3 u = some r) : ts_M l D dT sz yX6_divide wX6_divide 1 3 18 ad ts_lv ts_R0 [.inr (0, 0, 0), .inl (.int p1), .inl (.int p2), .inl (.int p3)] u (ts_oF r.1) r.2 := by
    unfold f_X6_divide at h
    refine ts_enter hl (by decide) rfl rfl (Nat.le_of_ble_eq_true rfl) ?_
    intro p e s m args below meth c C hX hnm
    have C : ts_CX D dT sz p l (ts_rm 1 3 18) s m args meth c RX6 cX6_divide 4 (some .float) 1 := C
    have hdd : 1 ≤ 1 := Nat.le_refl _
    refine tv_iload_n C (pc := 0) dX6_divide_0 rfl rfl ?_
    obtain ⟨q1, hq1, h⟩ := ts_bd h
    refine tv_callS C (pc := 1) dX6_divide_1 yl_X6_200 (m_X6_isSlot (D := D) (dT := dT) (sz := sz) (ad := ad) hl p1 u q1 hq1) (Nat.le_trans (Nat.le_of_ble_eq_true rfl) hdd) (As := [.inl (.int p1)]) rfl ⟨Nat.le_of_ble_eq_true rfl, Nat.le_of_ble_eq_true rfl⟩ (fun _ => Nat.le_of_ble_eq_true rfl) rfl ?_
    obtain ⟨q2, hq2, h⟩ := ts_bd h
    have Mq2 := (m_X6_requireIndex (D := D) (dT := dT) (sz := sz) (ad := ad) hl q1 u q2 hq2)
    rcases q2 with v3 | e4
    · have h := ts_eL h
      refine tv_callS C (pc := 4) dX6_divide_4 yl_X6_71 Mq2 (Nat.le_trans (Nat.le_of_ble_eq_true rfl) hdd) (As := [.inl (.int q1)]) rfl ⟨Nat.le_of_ble_eq_true rfl, Nat.le_of_ble_eq_true rfl⟩ (fun _ => Nat.le_of_ble_eq_true rfl) rfl ?_
      refine tv_aload_n C (pc := 7) dX6_divide_7 rfl rfl ?_
      refine tv_getR C (pc := 8) dX6_divide_8 fl_X6_38 (ts_live (k := 0) (by decide) (by decide) (by decide)) rfl rfl (i2 := (26, 0, 0)) rfl ?_
      refine tv_iload_n C (pc := 11) dX6_divide_11 rfl rfl ?_
      obtain ⟨hr5, h⟩ := ts_gd h
      refine tv_aaload7 C (pc := 12) dX6_divide_12 (ts_live (k := 26) (by decide) (by decide) (by decide)) rfl hr5 (j := p1.toNatClampNeg) rfl (i2 := (27, 0, p1.toNatClampNeg)) rfl ?_
      obtain ⟨q6, hq6, h⟩ := ts_bd h
      refine tv_callV C (pc := 13) dX6_divide_13 (ci := 4) (q := (RX4, TX4, 4)) rfl yl_X6_206 (m_X4_isUsed (D := D) (dT := dT) (sz := sz) (ad := ad) hl p1.toNatClampNeg (ts_vin hr5) u q6 hq6) (ts_live (k := 27) (by decide) (by decide) (ts_vin hr5)) rfl (Nat.le_trans (Nat.le_of_ble_eq_true rfl) hdd) (As := []) rfl ⟨Nat.le_of_ble_eq_true rfl, Nat.le_of_ble_eq_true rfl⟩ (fun _ => Nat.le_of_ble_eq_true rfl) rfl ?_
      obtain ⟨q7, hq7, h⟩ := ts_bd h
      have Mq7 := (m_X6_requireState (D := D) (dT := dT) (sz := sz) (ad := ad) hl q6 u q7 hq7)
      rcases q7 with v8 | e9
      · have h := ts_eL h
        refine tv_callS C (pc := 16) dX6_divide_16 yl_X6_57 Mq7 (Nat.le_trans (Nat.le_of_ble_eq_true rfl) hdd) (As := [.inl (.int q6)]) rfl ⟨Nat.le_of_ble_eq_true rfl, Nat.le_of_ble_eq_true rfl⟩ (fun _ => Nat.le_of_ble_eq_true rfl) rfl ?_
        refine tv_iload_n C (pc := 19) dX6_divide_19 rfl rfl ?_
        refine tv_if_ne C (pc := 20) 33 dX6_divide_20 (by decide) (fun hc => ?_) (fun hc => ?_)
        · have h := ts_ifn h hc
          refine tv_iload_n C (pc := 33) dX6_divide_33 rfl rfl ?_
          refine tv_if_lt C (pc := 34) 54 dX6_divide_34 (by decide) (fun hc => ?_) (fun hc => ?_)
          · have h := ts_ifp h hc
            refine tv_iconst C (pc := 54) dX6_divide_54 (v := (0 : Int32)) rfl ?_
            obtain ⟨q10, hq10, h⟩ := ts_bd h
            have Mq10 := (m_X6_requireElement (D := D) (dT := dT) (sz := sz) (ad := ad) hl (0 : Int32) u q10 hq10)
            rcases q10 with v11 | e12
            · have h := ts_eL h
              refine tv_callS C (pc := 55) dX6_divide_55 yl_X6_106 Mq10 (Nat.le_trans (Nat.le_of_ble_eq_true rfl) hdd) (As := [.inl (.int (0 : Int32))]) rfl ⟨Nat.le_of_ble_eq_true rfl, Nat.le_of_ble_eq_true rfl⟩ (fun _ => Nat.le_of_ble_eq_true rfl) rfl ?_
              refine tv_aload_n C (pc := 58) dX6_divide_58 rfl rfl ?_
              refine tv_getR C (pc := 59) dX6_divide_59 fl_X6_38 (ts_live (k := 0) (by decide) (by decide) (by decide)) rfl rfl (i2 := (26, 0, 0)) rfl ?_
              refine tv_iload_n C (pc := 62) dX6_divide_62 rfl rfl ?_
              obtain ⟨hr13, h⟩ := ts_gd h
              refine tv_aaload7 C (pc := 63) dX6_divide_63 (ts_live (k := 26) (by decide) (by decide) (by decide)) rfl hr13 (j := p1.toNatClampNeg) rfl (i2 := (27, 0, p1.toNatClampNeg)) rfl ?_
              refine tv_iload_n C (pc := 64) dX6_divide_64 rfl rfl ?_
              refine tv_iload_n C (pc := 65) dX6_divide_65 rfl rfl ?_
              obtain ⟨q14, hq14, h⟩ := ts_bd h
              refine tv_callV C (pc := 66) dX6_divide_66 (ci := 4) (q := (RX4, TX4, 4)) rfl yl_X6_216 (m_X4_quotient (D := D) (dT := dT) (sz := sz) (ad := ad) hl p1.toNatClampNeg (ts_vin hr13) p2 p3 u q14 hq14) (ts_live (k := 27) (by decide) (by decide) (ts_vin hr13)) rfl (Nat.le_trans (Nat.le_of_ble_eq_true rfl) hdd) (As := [.inl (.int p2), .inl (.int p3)]) rfl ⟨Nat.le_of_ble_eq_true rfl, Nat.le_of_ble_eq_true rfl⟩ (fun _ => Nat.le_of_ble_eq_true rfl) rfl ?_
              cases h
              exact tv_fret C (pc := 69) rfl dX6_divide_69 ⟨Nat.le_of_ble_eq_true rfl, Nat.le_of_ble_eq_true rfl⟩
            · have h := ts_eR h
              cases h
              exact tv_callS_thr C (pc := 55) hX dX6_divide_55 yl_X6_106 Mq10 (Nat.le_trans (Nat.le_of_ble_eq_true rfl) hdd) (As := [.inl (.int (0 : Int32))]) rfl ⟨Nat.le_of_ble_eq_true rfl, Nat.le_of_ble_eq_true rfl⟩ (fun _ => Nat.le_of_ble_eq_true rfl) rfl ⟨Nat.le_of_ble_eq_true rfl, Nat.le_of_ble_eq_true rfl⟩
          · have h := ts_ifn h hc
            refine tv_iload_n C (pc := 37) dX6_divide_37 rfl rfl ?_
            refine tv_aload_n C (pc := 38) dX6_divide_38 rfl rfl ?_
            refine tv_getR C (pc := 39) dX6_divide_39 fl_X6_38 (ts_live (k := 0) (by decide) (by decide) (by decide)) rfl rfl (i2 := (26, 0, 0)) rfl ?_
            refine tv_iload_n C (pc := 42) dX6_divide_42 rfl rfl ?_
            obtain ⟨hr15, h⟩ := ts_gd h
            refine tv_aaload7 C (pc := 43) dX6_divide_43 (ts_live (k := 26) (by decide) (by decide) (by decide)) rfl hr15 (j := p1.toNatClampNeg) rfl (i2 := (27, 0, p1.toNatClampNeg)) rfl ?_
            refine tv_getI C (pc := 44) dX6_divide_44 fl_X6_213 (ts_live (k := 27) (by decide) (by decide) (ts_vin hr15)) rfl (cd := 0) rfl (by decide) ?_
            refine tv_icmp_ge C (pc := 47) 54 dX6_divide_47 (by decide) (fun hc => ?_) (fun hc => ?_)
            · have h := ts_ifp h hc
              refine tv_iconst C (pc := 54) dX6_divide_54 (v := (0 : Int32)) rfl ?_
              obtain ⟨q16, hq16, h⟩ := ts_bd h
              have Mq16 := (m_X6_requireElement (D := D) (dT := dT) (sz := sz) (ad := ad) hl (0 : Int32) u q16 hq16)
              rcases q16 with v17 | e18
              · have h := ts_eL h
                refine tv_callS C (pc := 55) dX6_divide_55 yl_X6_106 Mq16 (Nat.le_trans (Nat.le_of_ble_eq_true rfl) hdd) (As := [.inl (.int (0 : Int32))]) rfl ⟨Nat.le_of_ble_eq_true rfl, Nat.le_of_ble_eq_true rfl⟩ (fun _ => Nat.le_of_ble_eq_true rfl) rfl ?_
                refine tv_aload_n C (pc := 58) dX6_divide_58 rfl rfl ?_
                refine tv_getR C (pc := 59) dX6_divide_59 fl_X6_38 (ts_live (k := 0) (by decide) (by decide) (by decide)) rfl rfl (i2 := (26, 0, 0)) rfl ?_
                refine tv_iload_n C (pc := 62) dX6_divide_62 rfl rfl ?_
                obtain ⟨hr19, h⟩ := ts_gd h
                refine tv_aaload7 C (pc := 63) dX6_divide_63 (ts_live (k := 26) (by decide) (by decide) (by decide)) rfl hr19 (j := p1.toNatClampNeg) rfl (i2 := (27, 0, p1.toNatClampNeg)) rfl ?_
                refine tv_iload_n C (pc := 64) dX6_divide_64 rfl rfl ?_
                refine tv_iload_n C (pc := 65) dX6_divide_65 rfl rfl ?_
                obtain ⟨q20, hq20, h⟩ := ts_bd h
                refine tv_callV C (pc := 66) dX6_divide_66 (ci := 4) (q := (RX4, TX4, 4)) rfl yl_X6_216 (m_X4_quotient (D := D) (dT := dT) (sz := sz) (ad := ad) hl p1.toNatClampNeg (ts_vin hr19) p2 p3 u q20 hq20) (ts_live (k := 27) (by decide) (by decide) (ts_vin hr19)) rfl (Nat.le_trans (Nat.le_of_ble_eq_true rfl) hdd) (As := [.inl (.int p2), .inl (.int p3)]) rfl ⟨Nat.le_of_ble_eq_true rfl, Nat.le_of_ble_eq_true rfl⟩ (fun _ => Nat.le_of_ble_eq_true rfl) rfl ?_
                cases h
                exact tv_fret C (pc := 69) rfl dX6_divide_69 ⟨Nat.le_of_ble_eq_true rfl, Nat.le_of_ble_eq_true rfl⟩
              · have h := ts_eR h
                cases h
                exact tv_callS_thr C (pc := 55) hX dX6_divide_55 yl_X6_106 Mq16 (Nat.le_trans (Nat.le_of_ble_eq_true rfl) hdd) (As := [.inl (.int (0 : Int32))]) rfl ⟨Nat.le_of_ble_eq_true rfl, Nat.le_of_ble_eq_true rfl⟩ (fun _ => Nat.le_of_ble_eq_true rfl) rfl ⟨Nat.le_of_ble_eq_true rfl, Nat.le_of_ble_eq_true rfl⟩
            · have h := ts_ifn h hc
              refine tv_iconst C (pc := 50) dX6_divide_50 (v := (1 : Int32)) rfl ?_
              refine tv_goto C (pc := 51) 55 dX6_divide_51 (by decide) ?_
              obtain ⟨q21, hq21, h⟩ := ts_bd h
              have Mq21 := (m_X6_requireElement (D := D) (dT := dT) (sz := sz) (ad := ad) hl (1 : Int32) u q21 hq21)
              rcases q21 with v22 | e23
              · have h := ts_eL h
                refine tv_callS C (pc := 55) dX6_divide_55 yl_X6_106 Mq21 (Nat.le_trans (Nat.le_of_ble_eq_true rfl) hdd) (As := [.inl (.int (1 : Int32))]) rfl ⟨Nat.le_of_ble_eq_true rfl, Nat.le_of_ble_eq_true rfl⟩ (fun _ => Nat.le_of_ble_eq_true rfl) rfl ?_
                refine tv_aload_n C (pc := 58) dX6_divide_58 rfl rfl ?_
                refine tv_getR C (pc := 59) dX6_divide_59 fl_X6_38 (ts_live (k := 0) (by decide) (by decide) (by decide)) rfl rfl (i2 := (26, 0, 0)) rfl ?_
                refine tv_iload_n C (pc := 62) dX6_divide_62 rfl rfl ?_
                obtain ⟨hr24, h⟩ := ts_gd h
                refine tv_aaload7 C (pc := 63) dX6_divide_63 (ts_live (k := 26) (by decide) (by decide) (by decide)) rfl hr24 (j := p1.toNatClampNeg) rfl (i2 := (27, 0, p1.toNatClampNeg)) rfl ?_
                refine tv_iload_n C (pc := 64) dX6_divide_64 rfl rfl ?_
                refine tv_iload_n C (pc := 65) dX6_divide_65 rfl rfl ?_
                obtain ⟨q25, hq25, h⟩ := ts_bd h
                refine tv_callV C (pc := 66) dX6_divide_66 (ci := 4) (q := (RX4, TX4, 4)) rfl yl_X6_216 (m_X4_quotient (D := D) (dT := dT) (sz := sz) (ad := ad) hl p1.toNatClampNeg (ts_vin hr24) p2 p3 u q25 hq25) (ts_live (k := 27) (by decide) (by decide) (ts_vin hr24)) rfl (Nat.le_trans (Nat.le_of_ble_eq_true rfl) hdd) (As := [.inl (.int p2), .inl (.int p3)]) rfl ⟨Nat.le_of_ble_eq_true rfl, Nat.le_of_ble_eq_true rfl⟩ (fun _ => Nat.le_of_ble_eq_true rfl) rfl ?_
                cases h
                exact tv_fret C (pc := 69) rfl dX6_divide_69 ⟨Nat.le_of_ble_eq_true rfl, Nat.le_of_ble_eq_true rfl⟩
              · have h := ts_eR h
                cases h
                exact tv_callS_thr C (pc := 55) hX dX6_divide_55 yl_X6_106 Mq21 (Nat.le_trans (Nat.le_of_ble_eq_true rfl) hdd) (As := [.inl (.int (1 : Int32))]) rfl ⟨Nat.le_of_ble_eq_true rfl, Nat.le_of_ble_eq_true rfl⟩ (fun _ => Nat.le_of_ble_eq_true rfl) rfl ⟨Nat.le_of_ble_eq_true rfl, Nat.le_of_ble_eq_true rfl⟩
        · have h := ts_ifp h hc
          cases h
          exact tv_throw C (pc := 23) hX th_X6_193_214 dX6_divide_23 dX6_divide_26 dX6_divide_27 dX6_divide_29 dX6_divide_32 ⟨Nat.le_of_ble_eq_true rfl, Nat.le_of_ble_eq_true rfl⟩ (fun _ => Nat.le_of_ble_eq_true rfl) ⟨Nat.le_of_ble_eq_true rfl, Nat.le_of_ble_eq_true rfl⟩
      · have h := ts_eR h
        cases h
        exact tv_callS_thr C (pc := 16) hX dX6_divide_16 yl_X6_57 Mq7 (Nat.le_trans (Nat.le_of_ble_eq_true rfl) hdd) (As := [.inl (.int q6)]) rfl ⟨Nat.le_of_ble_eq_true rfl, Nat.le_of_ble_eq_true rfl⟩ (fun _ => Nat.le_of_ble_eq_true rfl) rfl ⟨Nat.le_of_ble_eq_true rfl, Nat.le_of_ble_eq_true rfl⟩
    · have h := ts_eR h
      cases h
      exact tv_callS_thr C (pc := 4) hX dX6_divide_4 yl_X6_71 Mq2 (Nat.le_trans (Nat.le_of_ble_eq_true rfl) hdd) (As := [.inl (.int q1)]) rfl ⟨Nat.le_of_ble_eq_true rfl, Nat.le_of_ble_eq_true rfl⟩ (fun _ => Nat.le_of_ble_eq_true rfl) rfl ⟨Nat.le_of_ble_eq_true rfl, Nat.le_of_ble_eq_true rfl⟩
set_option maxRecDepth 100000 in
set_option maxHeartbeats 4000000 in
theorem m_X6_cloneRow {l : Launch} {D : va_G} {dT : Nat → ClassId} {sz : Nat} {ad : ts_I → Nat} (hl : l.stackTraces = false) (p1 : Int32) (p2 : Int32) (u : ts_Mem) (r : ((Int32 ⊕ String) × ts_Mem)) (h : f_X6_cloneRow p1 p2 u = some r) : ts_M l D dT sz yX6_cloneRow wX6_cloneRow 2 2 12 ad ts_lv ts_R0 [.inr (0, 0, 0), .inl (.int p1), .inl (.int p2)] u (ts_oI r.1) r.2 := by
    unfold f_X6_cloneRow at h
    refine ts_enter hl (by decide) rfl rfl (Nat.le_of_ble_eq_true rfl) ?_
    intro p e s m args below meth c C hX hnm
    have C : ts_CX D dT sz p l (ts_rm 2 2 12) s m args meth c RX6 cX6_cloneRow 3 (some .int) 2 := C
    have hdd : 2 ≤ 2 := Nat.le_refl _
    refine tv_iload_n C (pc := 0) dX6_cloneRow_0 rfl rfl ?_
    obtain ⟨q1, hq1, h⟩ := ts_bd h
    refine tv_callS C (pc := 1) dX6_cloneRow_1 yl_X6_200 (m_X6_isSlot (D := D) (dT := dT) (sz := sz) (ad := ad) hl p1 u q1 hq1) (Nat.le_trans (Nat.le_of_ble_eq_true rfl) hdd) (As := [.inl (.int p1)]) rfl ⟨Nat.le_of_ble_eq_true rfl, Nat.le_of_ble_eq_true rfl⟩ (fun _ => Nat.le_of_ble_eq_true rfl) rfl ?_
    refine tv_if_eq C (pc := 4) 18 dX6_cloneRow_4 (by decide) (fun hc => ?_) (fun hc => ?_)
    · have h := ts_ifp h hc
      refine tv_iconst C (pc := 18) dX6_cloneRow_18 (v := (0 : Int32)) rfl ?_
      obtain ⟨q2, hq2, h⟩ := ts_bd h
      have Mq2 := (m_X6_requireIndex (D := D) (dT := dT) (sz := sz) (ad := ad) hl (0 : Int32) u q2 hq2)
      rcases q2 with v3 | e4
      · have h := ts_eL h
        refine tv_callS C (pc := 19) dX6_cloneRow_19 yl_X6_71 Mq2 (Nat.le_trans (Nat.le_of_ble_eq_true rfl) hdd) (As := [.inl (.int (0 : Int32))]) rfl ⟨Nat.le_of_ble_eq_true rfl, Nat.le_of_ble_eq_true rfl⟩ (fun _ => Nat.le_of_ble_eq_true rfl) rfl ?_
        refine tv_aload_n C (pc := 22) dX6_cloneRow_22 rfl rfl ?_
        refine tv_getR C (pc := 23) dX6_cloneRow_23 fl_X6_38 (ts_live (k := 0) (by decide) (by decide) (by decide)) rfl rfl (i2 := (26, 0, 0)) rfl ?_
        refine tv_iload_n C (pc := 26) dX6_cloneRow_26 rfl rfl ?_
        obtain ⟨hr5, h⟩ := ts_gd h
        refine tv_aaload7 C (pc := 27) dX6_cloneRow_27 (ts_live (k := 26) (by decide) (by decide) (by decide)) rfl hr5 (j := p1.toNatClampNeg) rfl (i2 := (27, 0, p1.toNatClampNeg)) rfl ?_
        obtain ⟨q6, hq6, h⟩ := ts_bd h
        refine tv_callV C (pc := 28) dX6_cloneRow_28 (ci := 4) (q := (RX4, TX4, 4)) rfl yl_X6_206 (m_X4_isUsed (D := D) (dT := dT) (sz := sz) (ad := ad) hl p1.toNatClampNeg (ts_vin hr5) u q6 hq6) (ts_live (k := 27) (by decide) (by decide) (ts_vin hr5)) rfl (Nat.le_trans (Nat.le_of_ble_eq_true rfl) hdd) (As := []) rfl ⟨Nat.le_of_ble_eq_true rfl, Nat.le_of_ble_eq_true rfl⟩ (fun _ => Nat.le_of_ble_eq_true rfl) rfl ?_
        obtain ⟨q7, hq7, h⟩ := ts_bd h
        have Mq7 := (m_X6_requireState (D := D) (dT := dT) (sz := sz) (ad := ad) hl q6 u q7 hq7)
        rcases q7 with v8 | e9
        · have h := ts_eL h
          refine tv_callS C (pc := 31) dX6_cloneRow_31 yl_X6_57 Mq7 (Nat.le_trans (Nat.le_of_ble_eq_true rfl) hdd) (As := [.inl (.int q6)]) rfl ⟨Nat.le_of_ble_eq_true rfl, Nat.le_of_ble_eq_true rfl⟩ (fun _ => Nat.le_of_ble_eq_true rfl) rfl ?_
          refine tv_aload_n C (pc := 34) dX6_cloneRow_34 rfl rfl ?_
          refine tv_getR C (pc := 35) dX6_cloneRow_35 fl_X6_38 (ts_live (k := 0) (by decide) (by decide) (by decide)) rfl rfl (i2 := (26, 0, 0)) rfl ?_
          refine tv_iload_n C (pc := 38) dX6_cloneRow_38 rfl rfl ?_
          obtain ⟨hr10, h⟩ := ts_gd h
          refine tv_aaload7 C (pc := 39) dX6_cloneRow_39 (ts_live (k := 26) (by decide) (by decide) (by decide)) rfl hr10 (j := p2.toNatClampNeg) rfl (i2 := (27, 0, p2.toNatClampNeg)) rfl ?_
          refine tv_aload_n C (pc := 40) dX6_cloneRow_40 rfl rfl ?_
          refine tv_getR C (pc := 41) dX6_cloneRow_41 fl_X6_38 (ts_live (k := 0) (by decide) (by decide) (by decide)) rfl rfl (i2 := (26, 0, 0)) rfl ?_
          refine tv_iload_n C (pc := 44) dX6_cloneRow_44 rfl rfl ?_
          obtain ⟨hr11, h⟩ := ts_gd h
          refine tv_aaload7 C (pc := 45) dX6_cloneRow_45 (ts_live (k := 26) (by decide) (by decide) (by decide)) rfl hr11 (j := p1.toNatClampNeg) rfl (i2 := (27, 0, p1.toNatClampNeg)) rfl ?_
          obtain ⟨q12, hq12, h⟩ := ts_bd h
          refine tv_callV C (pc := 46) dX6_cloneRow_46 (ci := 4) (q := (RX4, TX4, 4)) rfl yl_X6_220 (m_X4_becomeCopyOf (D := D) (dT := dT) (sz := sz) (ad := ad) hl p2.toNatClampNeg (ts_vin hr10) p1.toNatClampNeg (ts_vin hr11) u q12 hq12) (ts_live (k := 27) (by decide) (by decide) (ts_vin hr10)) rfl (Nat.le_trans (Nat.le_of_ble_eq_true rfl) hdd) (As := [.inr (27, 0, p1.toNatClampNeg)]) rfl ⟨Nat.le_of_ble_eq_true rfl, Nat.le_of_ble_eq_true rfl⟩ (fun _ => Nat.le_of_ble_eq_true rfl) rfl ?_
          refine tv_aload_n C (pc := 49) dX6_cloneRow_49 rfl rfl ?_
          refine tv_getR C (pc := 50) dX6_cloneRow_50 fl_X6_38 (ts_live (k := 0) (by decide) (by decide) (by decide)) rfl rfl (i2 := (26, 0, 0)) rfl ?_
          refine tv_iload_n C (pc := 53) dX6_cloneRow_53 rfl rfl ?_
          obtain ⟨hr13, h⟩ := ts_gd h
          refine tv_aaload7 C (pc := 54) dX6_cloneRow_54 (ts_live (k := 26) (by decide) (by decide) (by decide)) rfl hr13 (j := p1.toNatClampNeg) rfl (i2 := (27, 0, p1.toNatClampNeg)) rfl ?_
          refine tv_getI C (pc := 55) dX6_cloneRow_55 fl_X6_213 (ts_live (k := 27) (by decide) (by decide) (ts_vin hr13)) rfl (cd := 0) rfl (by decide) ?_
          cases h
          exact tv_iret C (pc := 58) rfl dX6_cloneRow_58 ⟨Nat.le_of_ble_eq_true rfl, Nat.le_of_ble_eq_true rfl⟩
        · have h := ts_eR h
          cases h
          exact tv_callS_thr C (pc := 31) hX dX6_cloneRow_31 yl_X6_57 Mq7 (Nat.le_trans (Nat.le_of_ble_eq_true rfl) hdd) (As := [.inl (.int q6)]) rfl ⟨Nat.le_of_ble_eq_true rfl, Nat.le_of_ble_eq_true rfl⟩ (fun _ => Nat.le_of_ble_eq_true rfl) rfl ⟨Nat.le_of_ble_eq_true rfl, Nat.le_of_ble_eq_true rfl⟩
      · have h := ts_eR h
        cases h
        exact tv_callS_thr C (pc := 19) hX dX6_cloneRow_19 yl_X6_71 Mq2 (Nat.le_trans (Nat.le_of_ble_eq_true rfl) hdd) (As := [.inl (.int (0 : Int32))]) rfl ⟨Nat.le_of_ble_eq_true rfl, Nat.le_of_ble_eq_true rfl⟩ (fun _ => Nat.le_of_ble_eq_true rfl) rfl ⟨Nat.le_of_ble_eq_true rfl, Nat.le_of_ble_eq_true rfl⟩
    · have h := ts_ifn h hc
      refine tv_iload_n C (pc := 7) dX6_cloneRow_7 rfl rfl ?_
      obtain ⟨q14, hq14, h⟩ := ts_bd h
      refine tv_callS C (pc := 8) dX6_cloneRow_8 yl_X6_200 (m_X6_isSlot (D := D) (dT := dT) (sz := sz) (ad := ad) hl p2 u q14 hq14) (Nat.le_trans (Nat.le_of_ble_eq_true rfl) hdd) (As := [.inl (.int p2)]) rfl ⟨Nat.le_of_ble_eq_true rfl, Nat.le_of_ble_eq_true rfl⟩ (fun _ => Nat.le_of_ble_eq_true rfl) rfl ?_
      refine tv_if_eq C (pc := 11) 18 dX6_cloneRow_11 (by decide) (fun hc => ?_) (fun hc => ?_)
      · have h := ts_ifp h hc
        refine tv_iconst C (pc := 18) dX6_cloneRow_18 (v := (0 : Int32)) rfl ?_
        obtain ⟨q15, hq15, h⟩ := ts_bd h
        have Mq15 := (m_X6_requireIndex (D := D) (dT := dT) (sz := sz) (ad := ad) hl (0 : Int32) u q15 hq15)
        rcases q15 with v16 | e17
        · have h := ts_eL h
          refine tv_callS C (pc := 19) dX6_cloneRow_19 yl_X6_71 Mq15 (Nat.le_trans (Nat.le_of_ble_eq_true rfl) hdd) (As := [.inl (.int (0 : Int32))]) rfl ⟨Nat.le_of_ble_eq_true rfl, Nat.le_of_ble_eq_true rfl⟩ (fun _ => Nat.le_of_ble_eq_true rfl) rfl ?_
          refine tv_aload_n C (pc := 22) dX6_cloneRow_22 rfl rfl ?_
          refine tv_getR C (pc := 23) dX6_cloneRow_23 fl_X6_38 (ts_live (k := 0) (by decide) (by decide) (by decide)) rfl rfl (i2 := (26, 0, 0)) rfl ?_
          refine tv_iload_n C (pc := 26) dX6_cloneRow_26 rfl rfl ?_
          obtain ⟨hr18, h⟩ := ts_gd h
          refine tv_aaload7 C (pc := 27) dX6_cloneRow_27 (ts_live (k := 26) (by decide) (by decide) (by decide)) rfl hr18 (j := p1.toNatClampNeg) rfl (i2 := (27, 0, p1.toNatClampNeg)) rfl ?_
          obtain ⟨q19, hq19, h⟩ := ts_bd h
          refine tv_callV C (pc := 28) dX6_cloneRow_28 (ci := 4) (q := (RX4, TX4, 4)) rfl yl_X6_206 (m_X4_isUsed (D := D) (dT := dT) (sz := sz) (ad := ad) hl p1.toNatClampNeg (ts_vin hr18) u q19 hq19) (ts_live (k := 27) (by decide) (by decide) (ts_vin hr18)) rfl (Nat.le_trans (Nat.le_of_ble_eq_true rfl) hdd) (As := []) rfl ⟨Nat.le_of_ble_eq_true rfl, Nat.le_of_ble_eq_true rfl⟩ (fun _ => Nat.le_of_ble_eq_true rfl) rfl ?_
          obtain ⟨q20, hq20, h⟩ := ts_bd h
          have Mq20 := (m_X6_requireState (D := D) (dT := dT) (sz := sz) (ad := ad) hl q19 u q20 hq20)
          rcases q20 with v21 | e22
          · have h := ts_eL h
            refine tv_callS C (pc := 31) dX6_cloneRow_31 yl_X6_57 Mq20 (Nat.le_trans (Nat.le_of_ble_eq_true rfl) hdd) (As := [.inl (.int q19)]) rfl ⟨Nat.le_of_ble_eq_true rfl, Nat.le_of_ble_eq_true rfl⟩ (fun _ => Nat.le_of_ble_eq_true rfl) rfl ?_
            refine tv_aload_n C (pc := 34) dX6_cloneRow_34 rfl rfl ?_
            refine tv_getR C (pc := 35) dX6_cloneRow_35 fl_X6_38 (ts_live (k := 0) (by decide) (by decide) (by decide)) rfl rfl (i2 := (26, 0, 0)) rfl ?_
            refine tv_iload_n C (pc := 38) dX6_cloneRow_38 rfl rfl ?_
            obtain ⟨hr23, h⟩ := ts_gd h
            refine tv_aaload7 C (pc := 39) dX6_cloneRow_39 (ts_live (k := 26) (by decide) (by decide) (by decide)) rfl hr23 (j := p2.toNatClampNeg) rfl (i2 := (27, 0, p2.toNatClampNeg)) rfl ?_
            refine tv_aload_n C (pc := 40) dX6_cloneRow_40 rfl rfl ?_
            refine tv_getR C (pc := 41) dX6_cloneRow_41 fl_X6_38 (ts_live (k := 0) (by decide) (by decide) (by decide)) rfl rfl (i2 := (26, 0, 0)) rfl ?_
            refine tv_iload_n C (pc := 44) dX6_cloneRow_44 rfl rfl ?_
            obtain ⟨hr24, h⟩ := ts_gd h
            refine tv_aaload7 C (pc := 45) dX6_cloneRow_45 (ts_live (k := 26) (by decide) (by decide) (by decide)) rfl hr24 (j := p1.toNatClampNeg) rfl (i2 := (27, 0, p1.toNatClampNeg)) rfl ?_
            obtain ⟨q25, hq25, h⟩ := ts_bd h
            refine tv_callV C (pc := 46) dX6_cloneRow_46 (ci := 4) (q := (RX4, TX4, 4)) rfl yl_X6_220 (m_X4_becomeCopyOf (D := D) (dT := dT) (sz := sz) (ad := ad) hl p2.toNatClampNeg (ts_vin hr23) p1.toNatClampNeg (ts_vin hr24) u q25 hq25) (ts_live (k := 27) (by decide) (by decide) (ts_vin hr23)) rfl (Nat.le_trans (Nat.le_of_ble_eq_true rfl) hdd) (As := [.inr (27, 0, p1.toNatClampNeg)]) rfl ⟨Nat.le_of_ble_eq_true rfl, Nat.le_of_ble_eq_true rfl⟩ (fun _ => Nat.le_of_ble_eq_true rfl) rfl ?_
            refine tv_aload_n C (pc := 49) dX6_cloneRow_49 rfl rfl ?_
            refine tv_getR C (pc := 50) dX6_cloneRow_50 fl_X6_38 (ts_live (k := 0) (by decide) (by decide) (by decide)) rfl rfl (i2 := (26, 0, 0)) rfl ?_
            refine tv_iload_n C (pc := 53) dX6_cloneRow_53 rfl rfl ?_
            obtain ⟨hr26, h⟩ := ts_gd h
            refine tv_aaload7 C (pc := 54) dX6_cloneRow_54 (ts_live (k := 26) (by decide) (by decide) (by decide)) rfl hr26 (j := p1.toNatClampNeg) rfl (i2 := (27, 0, p1.toNatClampNeg)) rfl ?_
            refine tv_getI C (pc := 55) dX6_cloneRow_55 fl_X6_213 (ts_live (k := 27) (by decide) (by decide) (ts_vin hr26)) rfl (cd := 0) rfl (by decide) ?_
            cases h
            exact tv_iret C (pc := 58) rfl dX6_cloneRow_58 ⟨Nat.le_of_ble_eq_true rfl, Nat.le_of_ble_eq_true rfl⟩
          · have h := ts_eR h
            cases h
            exact tv_callS_thr C (pc := 31) hX dX6_cloneRow_31 yl_X6_57 Mq20 (Nat.le_trans (Nat.le_of_ble_eq_true rfl) hdd) (As := [.inl (.int q19)]) rfl ⟨Nat.le_of_ble_eq_true rfl, Nat.le_of_ble_eq_true rfl⟩ (fun _ => Nat.le_of_ble_eq_true rfl) rfl ⟨Nat.le_of_ble_eq_true rfl, Nat.le_of_ble_eq_true rfl⟩
        · have h := ts_eR h
          cases h
          exact tv_callS_thr C (pc := 19) hX dX6_cloneRow_19 yl_X6_71 Mq15 (Nat.le_trans (Nat.le_of_ble_eq_true rfl) hdd) (As := [.inl (.int (0 : Int32))]) rfl ⟨Nat.le_of_ble_eq_true rfl, Nat.le_of_ble_eq_true rfl⟩ (fun _ => Nat.le_of_ble_eq_true rfl) rfl ⟨Nat.le_of_ble_eq_true rfl, Nat.le_of_ble_eq_true rfl⟩
      · have h := ts_ifn h hc
        refine tv_iconst C (pc := 14) dX6_cloneRow_14 (v := (1 : Int32)) rfl ?_
        refine tv_goto C (pc := 15) 19 dX6_cloneRow_15 (by decide) ?_
        obtain ⟨q27, hq27, h⟩ := ts_bd h
        have Mq27 := (m_X6_requireIndex (D := D) (dT := dT) (sz := sz) (ad := ad) hl (1 : Int32) u q27 hq27)
        rcases q27 with v28 | e29
        · have h := ts_eL h
          refine tv_callS C (pc := 19) dX6_cloneRow_19 yl_X6_71 Mq27 (Nat.le_trans (Nat.le_of_ble_eq_true rfl) hdd) (As := [.inl (.int (1 : Int32))]) rfl ⟨Nat.le_of_ble_eq_true rfl, Nat.le_of_ble_eq_true rfl⟩ (fun _ => Nat.le_of_ble_eq_true rfl) rfl ?_
          refine tv_aload_n C (pc := 22) dX6_cloneRow_22 rfl rfl ?_
          refine tv_getR C (pc := 23) dX6_cloneRow_23 fl_X6_38 (ts_live (k := 0) (by decide) (by decide) (by decide)) rfl rfl (i2 := (26, 0, 0)) rfl ?_
          refine tv_iload_n C (pc := 26) dX6_cloneRow_26 rfl rfl ?_
          obtain ⟨hr30, h⟩ := ts_gd h
          refine tv_aaload7 C (pc := 27) dX6_cloneRow_27 (ts_live (k := 26) (by decide) (by decide) (by decide)) rfl hr30 (j := p1.toNatClampNeg) rfl (i2 := (27, 0, p1.toNatClampNeg)) rfl ?_
          obtain ⟨q31, hq31, h⟩ := ts_bd h
          refine tv_callV C (pc := 28) dX6_cloneRow_28 (ci := 4) (q := (RX4, TX4, 4)) rfl yl_X6_206 (m_X4_isUsed (D := D) (dT := dT) (sz := sz) (ad := ad) hl p1.toNatClampNeg (ts_vin hr30) u q31 hq31) (ts_live (k := 27) (by decide) (by decide) (ts_vin hr30)) rfl (Nat.le_trans (Nat.le_of_ble_eq_true rfl) hdd) (As := []) rfl ⟨Nat.le_of_ble_eq_true rfl, Nat.le_of_ble_eq_true rfl⟩ (fun _ => Nat.le_of_ble_eq_true rfl) rfl ?_
          obtain ⟨q32, hq32, h⟩ := ts_bd h
          have Mq32 := (m_X6_requireState (D := D) (dT := dT) (sz := sz) (ad := ad) hl q31 u q32 hq32)
          rcases q32 with v33 | e34
          · have h := ts_eL h
            refine tv_callS C (pc := 31) dX6_cloneRow_31 yl_X6_57 Mq32 (Nat.le_trans (Nat.le_of_ble_eq_true rfl) hdd) (As := [.inl (.int q31)]) rfl ⟨Nat.le_of_ble_eq_true rfl, Nat.le_of_ble_eq_true rfl⟩ (fun _ => Nat.le_of_ble_eq_true rfl) rfl ?_
            refine tv_aload_n C (pc := 34) dX6_cloneRow_34 rfl rfl ?_
            refine tv_getR C (pc := 35) dX6_cloneRow_35 fl_X6_38 (ts_live (k := 0) (by decide) (by decide) (by decide)) rfl rfl (i2 := (26, 0, 0)) rfl ?_
            refine tv_iload_n C (pc := 38) dX6_cloneRow_38 rfl rfl ?_
            obtain ⟨hr35, h⟩ := ts_gd h
            refine tv_aaload7 C (pc := 39) dX6_cloneRow_39 (ts_live (k := 26) (by decide) (by decide) (by decide)) rfl hr35 (j := p2.toNatClampNeg) rfl (i2 := (27, 0, p2.toNatClampNeg)) rfl ?_
            refine tv_aload_n C (pc := 40) dX6_cloneRow_40 rfl rfl ?_
            refine tv_getR C (pc := 41) dX6_cloneRow_41 fl_X6_38 (ts_live (k := 0) (by decide) (by decide) (by decide)) rfl rfl (i2 := (26, 0, 0)) rfl ?_
            refine tv_iload_n C (pc := 44) dX6_cloneRow_44 rfl rfl ?_
            obtain ⟨hr36, h⟩ := ts_gd h
            refine tv_aaload7 C (pc := 45) dX6_cloneRow_45 (ts_live (k := 26) (by decide) (by decide) (by decide)) rfl hr36 (j := p1.toNatClampNeg) rfl (i2 := (27, 0, p1.toNatClampNeg)) rfl ?_
            obtain ⟨q37, hq37, h⟩ := ts_bd h
            refine tv_callV C (pc := 46) dX6_cloneRow_46 (ci := 4) (q := (RX4, TX4, 4)) rfl yl_X6_220 (m_X4_becomeCopyOf (D := D) (dT := dT) (sz := sz) (ad := ad) hl p2.toNatClampNeg (ts_vin hr35) p1.toNatClampNeg (ts_vin hr36) u q37 hq37) (ts_live (k := 27) (by decide) (by decide) (ts_vin hr35)) rfl (Nat.le_trans (Nat.le_of_ble_eq_true rfl) hdd) (As := [.inr (27, 0, p1.toNatClampNeg)]) rfl ⟨Nat.le_of_ble_eq_true rfl, Nat.le_of_ble_eq_true rfl⟩ (fun _ => Nat.le_of_ble_eq_true rfl) rfl ?_
            refine tv_aload_n C (pc := 49) dX6_cloneRow_49 rfl rfl ?_
            refine tv_getR C (pc := 50) dX6_cloneRow_50 fl_X6_38 (ts_live (k := 0) (by decide) (by decide) (by decide)) rfl rfl (i2 := (26, 0, 0)) rfl ?_
            refine tv_iload_n C (pc := 53) dX6_cloneRow_53 rfl rfl ?_
            obtain ⟨hr38, h⟩ := ts_gd h
            refine tv_aaload7 C (pc := 54) dX6_cloneRow_54 (ts_live (k := 26) (by decide) (by decide) (by decide)) rfl hr38 (j := p1.toNatClampNeg) rfl (i2 := (27, 0, p1.toNatClampNeg)) rfl ?_
            refine tv_getI C (pc := 55) dX6_cloneRow_55 fl_X6_213 (ts_live (k := 27) (by decide) (by decide) (ts_vin hr38)) rfl (cd := 0) rfl (by decide) ?_
            cases h
            exact tv_iret C (pc := 58) rfl dX6_cloneRow_58 ⟨Nat.le_of_ble_eq_true rfl, Nat.le_of_ble_eq_true rfl⟩
          · have h := ts_eR h
            cases h
            exact tv_callS_thr C (pc := 31) hX dX6_cloneRow_31 yl_X6_57 Mq32 (Nat.le_trans (Nat.le_of_ble_eq_true rfl) hdd) (As := [.inl (.int q31)]) rfl ⟨Nat.le_of_ble_eq_true rfl, Nat.le_of_ble_eq_true rfl⟩ (fun _ => Nat.le_of_ble_eq_true rfl) rfl ⟨Nat.le_of_ble_eq_true rfl, Nat.le_of_ble_eq_true rfl⟩
        · have h := ts_eR h
          cases h
          exact tv_callS_thr C (pc := 19) hX dX6_cloneRow_19 yl_X6_71 Mq27 (Nat.le_trans (Nat.le_of_ble_eq_true rfl) hdd) (As := [.inl (.int (1 : Int32))]) rfl ⟨Nat.le_of_ble_eq_true rfl, Nat.le_of_ble_eq_true rfl⟩ (fun _ => Nat.le_of_ble_eq_true rfl) rfl ⟨Nat.le_of_ble_eq_true rfl, Nat.le_of_ble_eq_true rfl⟩
