set_option maxRecDepth 100000 in
set_option maxHeartbeats 4000000 in
theorem m_X7_divide {l : Launch} {D : va_G} {dT : Nat → ClassId} {sz : Nat} {ad : ts_I → Nat} (hl : l.stackTraces = false) (p1 : Int32) (p2 : Int32) (p3 : Int32) (u : ts_Mem) (r : (UInt32 × ts_Mem)) (h : f_X7_divide p1 p2 p3 u = some r) : ts_M l D dT sz yX7_divide wX7_divide 2 0 0 ad ts_lv ts_R0 [.inr (30, 0, 0), .inl (.int p1), .inl (.int p2), .inl (.int p3)] u (.inl (some (.float r.1))) r.2 := by
    unfold f_X7_divide at h
    refine ts_enter hl (by decide) rfl rfl (Nat.le_of_ble_eq_true rfl) ?_
    intro p e s m args below meth c C hX hnm
    have C : ts_CX D dT sz p l (ts_rm 2 0 0) s m args meth c RX7 cX7_divide 5 (some .float) 2 := C
    have hdd : 2 ≤ 2 := Nat.le_refl _
    refine tv_aload_n C (pc := 0) dX7_divide_0 rfl rfl ?_
    refine tv_iload_n C (pc := 1) dX7_divide_1 rfl rfl ?_
    obtain ⟨q1, hq1, h⟩ := ts_bd h
    refine tv_callS C (pc := 2) dX7_divide_2 yl_X7_248 (m_X7_isSlot (D := D) (dT := dT) (sz := sz) (ad := ad) hl p1 u q1 hq1) (Nat.le_trans (Nat.le_of_ble_eq_true rfl) hdd) (As := [.inl (.int p1)]) rfl ⟨Nat.le_of_ble_eq_true rfl, Nat.le_of_ble_eq_true rfl⟩ (fun _ => Nat.le_of_ble_eq_true rfl) rfl ?_
    refine tv_if_ne C (pc := 5) 12 dX7_divide_5 (by decide) (fun hc => ?_) (fun hc => ?_)
    · have h := ts_ifn h hc
      refine tv_aload_n C (pc := 12) dX7_divide_12 rfl rfl ?_
      refine tv_getR C (pc := 13) dX7_divide_13 fl_X7_68 (ts_live (k := 30) (by decide) (by decide) (by decide)) rfl rfl (i2 := (45, 0, 0)) rfl ?_
      refine tv_iload_n C (pc := 16) dX7_divide_16 rfl rfl ?_
      obtain ⟨hr2, h⟩ := ts_gd h
      refine tv_iaload C (pc := 17) dX7_divide_17 (ts_live (k := 45) (by decide) (by decide) (by decide)) rfl hr2 (j := p1.toNatClampNeg) rfl ?_
      refine tv_if_ge C (pc := 18) 25 dX7_divide_18 (by decide) (fun hc => ?_) (fun hc => ?_)
      · have h := ts_ifp h hc
        refine tv_iload_n C (pc := 25) dX7_divide_25 rfl rfl ?_
        refine tv_if_ne C (pc := 26) 33 dX7_divide_26 (by decide) (fun hc => ?_) (fun hc => ?_)
        · have h := ts_ifn h hc
          refine tv_iload_n C (pc := 33) dX7_divide_33 rfl rfl ?_
          refine tv_iconst C (pc := 34) dX7_divide_34 (v := (0 : Int32)) rfl ?_
          refine tv_aload_n C (pc := 35) dX7_divide_35 rfl rfl ?_
          refine tv_getR C (pc := 36) dX7_divide_36 fl_X7_71 (ts_live (k := 30) (by decide) (by decide) (by decide)) rfl rfl (i2 := (46, 0, 0)) rfl ?_
          refine tv_iload_n C (pc := 39) dX7_divide_39 rfl rfl ?_
          obtain ⟨hr3, h⟩ := ts_gd h
          refine tv_iaload C (pc := 40) dX7_divide_40 (ts_live (k := 46) (by decide) (by decide) (by decide)) rfl hr3 (j := p1.toNatClampNeg) rfl ?_
          refine tv_iconst C (pc := 41) dX7_divide_41 (v := (1 : Int32)) rfl ?_
          refine tv_isub C (pc := 42) dX7_divide_42 ?_
          obtain ⟨q4, hq4, h⟩ := ts_bd h
          refine tv_callS C (pc := 43) dX7_divide_43 yl_X7_95 (m_X7_isIn (D := D) (dT := dT) (sz := sz) (ad := ad) hl p2 (0 : Int32) ((ts_gI u (46, 0, 0) p1.toNatClampNeg) - (1 : Int32)) u q4 hq4) (Nat.le_trans (Nat.le_of_ble_eq_true rfl) hdd) (As := [.inl (.int p2), .inl (.int (0 : Int32)), .inl (.int ((ts_gI u (46, 0, 0) p1.toNatClampNeg) - (1 : Int32)))]) rfl ⟨Nat.le_of_ble_eq_true rfl, Nat.le_of_ble_eq_true rfl⟩ (fun _ => Nat.le_of_ble_eq_true rfl) rfl ?_
          refine tv_if_eq C (pc := 46) 53 dX7_divide_46 (by decide) (fun hc => ?_) (fun hc => ?_)
          · have h := ts_ifp h hc
            refine tv_iconst C (pc := 53) dX7_divide_53 (v := (4 : Int32)) rfl ?_
            refine tv_putI C (pc := 54) dX7_divide_54 fp_X7_3 (ts_live (k := 30) (by decide) (by decide) (by decide)) rfl (cd := 0) rfl (by decide) rfl rfl ?_
            refine tv_nu (fun u5 hu5 => ?_)
            have h := ts_lt h hu5
            refine tv_aload_n C (pc := 57) dX7_divide_57 rfl rfl ?_
            refine tv_getI C (pc := 58) dX7_divide_58 fl_X7_3 (ts_live (k := 30) (by decide) (by decide) (by decide)) rfl (cd := 0) rfl (by decide) ?_
            refine tv_if_eq C (pc := 61) 66 dX7_divide_61 (by decide) (fun hc => ?_) (fun hc => ?_)
            · have h := ts_ifp h hc
              refine tv_bipush C (pc := 66) dX7_divide_66 (v := (30 : Int32)) rfl ?_
              refine tv_iload_n C (pc := 68) dX7_divide_68 rfl rfl ?_
              refine tv_imul C (pc := 69) dX7_divide_69 ?_
              refine tv_iload_n C (pc := 70) dX7_divide_70 rfl rfl ?_
              refine tv_iadd C (pc := 71) dX7_divide_71 ?_
              refine tv_nmI (fun x6 hx6 => ?_)
              have h := ts_lt h hx6
              refine tv_istore C (pc := 72) dX7_divide_72 (L' := [some (.inr (30, 0, 0)), some (.inl (.int p1)), some (.inl (.int p2)), some (.inl (.int p3)), some (.inl (.int x6))]) (by decide) rfl rfl ?_
              refine tv_aload_n C (pc := 74) dX7_divide_74 rfl rfl ?_
              refine tv_getR C (pc := 75) dX7_divide_75 fl_X7_68 (ts_live (k := 30) (by decide) (by decide) (by decide)) rfl rfl (i2 := (45, 0, 0)) rfl ?_
              refine tv_iload_n C (pc := 78) dX7_divide_78 rfl rfl ?_
              obtain ⟨hr7, h⟩ := ts_gd h
              refine tv_iaload C (pc := 79) dX7_divide_79 (ts_live (k := 45) (by decide) (by decide) (by decide)) rfl hr7 (j := p1.toNatClampNeg) rfl ?_
              refine tv_if_ne C (pc := 80) 108 dX7_divide_80 (by decide) (fun hc => ?_) (fun hc => ?_)
              · have h := ts_ifn h hc
                refine tv_aload_n C (pc := 108) dX7_divide_108 rfl rfl ?_
                refine tv_getR C (pc := 109) dX7_divide_109 fl_X7_74 (ts_live (k := 30) (by decide) (by decide) (by decide)) rfl rfl (i2 := (47, 0, 0)) rfl ?_
                refine tv_iload C (pc := 112) dX7_divide_112 rfl ?_
                refine tv_aload_n C (pc := 114) dX7_divide_114 rfl rfl ?_
                refine tv_getR C (pc := 115) dX7_divide_115 fl_X7_74 (ts_live (k := 30) (by decide) (by decide) (by decide)) rfl rfl (i2 := (47, 0, 0)) rfl ?_
                refine tv_iload C (pc := 118) dX7_divide_118 rfl ?_
                obtain ⟨hr8, h⟩ := ts_gd h
                refine tv_iaload C (pc := 120) dX7_divide_120 (ts_live (k := 47) (by decide) (by decide) (by decide)) rfl hr8 (j := x6.toNatClampNeg) rfl ?_
                refine tv_iload_n C (pc := 121) dX7_divide_121 rfl rfl ?_
                obtain ⟨hg9, h⟩ := ts_gd h
                refine tv_idiv C (pc := 122) dX7_divide_122 hg9 ?_
                obtain ⟨hr10, h⟩ := ts_gd h
                refine tv_iastore C (pc := 123) dX7_divide_123 (ts_live (k := 47) (by decide) (by decide) (by decide)) rfl hr10 (j := x6.toNatClampNeg) rfl ?_
                refine tv_nu (fun u11 hu11 => ?_)
                have h := ts_lt h hu11
                refine tv_aload_n C (pc := 124) dX7_divide_124 rfl rfl ?_
                refine tv_getR C (pc := 125) dX7_divide_125 fl_X7_74 (ts_live (k := 30) (by decide) (by decide) (by decide)) rfl rfl (i2 := (47, 0, 0)) rfl ?_
                refine tv_iload C (pc := 128) dX7_divide_128 rfl ?_
                obtain ⟨hr12, h⟩ := ts_gd h
                refine tv_iaload C (pc := 130) dX7_divide_130 (ts_live (k := 47) (by decide) (by decide) (by decide)) rfl hr12 (j := x6.toNatClampNeg) rfl ?_
                refine tv_i2f C (pc := 131) dX7_divide_131 ?_
                cases h
                exact tv_fret C (pc := 132) rfl dX7_divide_132 ⟨Nat.le_of_ble_eq_true rfl, Nat.le_of_ble_eq_true rfl⟩
              · have h := ts_ifp h hc
                refine tv_aload_n C (pc := 83) dX7_divide_83 rfl rfl ?_
                refine tv_getR C (pc := 84) dX7_divide_84 fl_X7_77 (ts_live (k := 30) (by decide) (by decide) (by decide)) rfl rfl (i2 := (48, 0, 0)) rfl ?_
                refine tv_iload C (pc := 87) dX7_divide_87 rfl ?_
                refine tv_aload_n C (pc := 89) dX7_divide_89 rfl rfl ?_
                refine tv_getR C (pc := 90) dX7_divide_90 fl_X7_77 (ts_live (k := 30) (by decide) (by decide) (by decide)) rfl rfl (i2 := (48, 0, 0)) rfl ?_
                refine tv_iload C (pc := 93) dX7_divide_93 rfl ?_
                obtain ⟨hr13, h⟩ := ts_gd h
                refine tv_faload C (pc := 95) dX7_divide_95 (ts_live (k := 48) (by decide) (by decide) (by decide)) rfl hr13 (j := x6.toNatClampNeg) rfl ?_
                refine tv_iload_n C (pc := 96) dX7_divide_96 rfl rfl ?_
                refine tv_i2f C (pc := 97) dX7_divide_97 ?_
                obtain ⟨hg14, h⟩ := ts_gd h
                refine tv_fdiv C (pc := 98) dX7_divide_98 hg14 ?_
                obtain ⟨hr15, h⟩ := ts_gd h
                refine tv_fastore C (pc := 99) dX7_divide_99 (ts_live (k := 48) (by decide) (by decide) (by decide)) rfl hr15 (j := x6.toNatClampNeg) rfl ?_
                refine tv_nu (fun u16 hu16 => ?_)
                have h := ts_lt h hu16
                refine tv_aload_n C (pc := 100) dX7_divide_100 rfl rfl ?_
                refine tv_getR C (pc := 101) dX7_divide_101 fl_X7_77 (ts_live (k := 30) (by decide) (by decide) (by decide)) rfl rfl (i2 := (48, 0, 0)) rfl ?_
                refine tv_iload C (pc := 104) dX7_divide_104 rfl ?_
                obtain ⟨hr17, h⟩ := ts_gd h
                refine tv_faload C (pc := 106) dX7_divide_106 (ts_live (k := 48) (by decide) (by decide) (by decide)) rfl hr17 (j := x6.toNatClampNeg) rfl ?_
                cases h
                exact tv_fret C (pc := 107) rfl dX7_divide_107 ⟨Nat.le_of_ble_eq_true rfl, Nat.le_of_ble_eq_true rfl⟩
            · have h := ts_ifn h hc
              refine tv_fconst0 C (pc := 64) dX7_divide_64 ?_
              cases h
              exact tv_fret C (pc := 65) rfl dX7_divide_65 ⟨Nat.le_of_ble_eq_true rfl, Nat.le_of_ble_eq_true rfl⟩
          · have h := ts_ifn h hc
            refine tv_iconst C (pc := 49) dX7_divide_49 (v := (0 : Int32)) rfl ?_
            refine tv_goto C (pc := 50) 54 dX7_divide_50 (by decide) ?_
            refine tv_putI C (pc := 54) dX7_divide_54 fp_X7_3 (ts_live (k := 30) (by decide) (by decide) (by decide)) rfl (cd := 0) rfl (by decide) rfl rfl ?_
            refine tv_nu (fun u18 hu18 => ?_)
            have h := ts_lt h hu18
            refine tv_aload_n C (pc := 57) dX7_divide_57 rfl rfl ?_
            refine tv_getI C (pc := 58) dX7_divide_58 fl_X7_3 (ts_live (k := 30) (by decide) (by decide) (by decide)) rfl (cd := 0) rfl (by decide) ?_
            refine tv_if_eq C (pc := 61) 66 dX7_divide_61 (by decide) (fun hc => ?_) (fun hc => ?_)
            · have h := ts_ifp h hc
              refine tv_bipush C (pc := 66) dX7_divide_66 (v := (30 : Int32)) rfl ?_
              refine tv_iload_n C (pc := 68) dX7_divide_68 rfl rfl ?_
              refine tv_imul C (pc := 69) dX7_divide_69 ?_
              refine tv_iload_n C (pc := 70) dX7_divide_70 rfl rfl ?_
              refine tv_iadd C (pc := 71) dX7_divide_71 ?_
              refine tv_nmI (fun x19 hx19 => ?_)
              have h := ts_lt h hx19
              refine tv_istore C (pc := 72) dX7_divide_72 (L' := [some (.inr (30, 0, 0)), some (.inl (.int p1)), some (.inl (.int p2)), some (.inl (.int p3)), some (.inl (.int x19))]) (by decide) rfl rfl ?_
              refine tv_aload_n C (pc := 74) dX7_divide_74 rfl rfl ?_
              refine tv_getR C (pc := 75) dX7_divide_75 fl_X7_68 (ts_live (k := 30) (by decide) (by decide) (by decide)) rfl rfl (i2 := (45, 0, 0)) rfl ?_
              refine tv_iload_n C (pc := 78) dX7_divide_78 rfl rfl ?_
              obtain ⟨hr20, h⟩ := ts_gd h
              refine tv_iaload C (pc := 79) dX7_divide_79 (ts_live (k := 45) (by decide) (by decide) (by decide)) rfl hr20 (j := p1.toNatClampNeg) rfl ?_
              refine tv_if_ne C (pc := 80) 108 dX7_divide_80 (by decide) (fun hc => ?_) (fun hc => ?_)
              · have h := ts_ifn h hc
                refine tv_aload_n C (pc := 108) dX7_divide_108 rfl rfl ?_
                refine tv_getR C (pc := 109) dX7_divide_109 fl_X7_74 (ts_live (k := 30) (by decide) (by decide) (by decide)) rfl rfl (i2 := (47, 0, 0)) rfl ?_
                refine tv_iload C (pc := 112) dX7_divide_112 rfl ?_
                refine tv_aload_n C (pc := 114) dX7_divide_114 rfl rfl ?_
                refine tv_getR C (pc := 115) dX7_divide_115 fl_X7_74 (ts_live (k := 30) (by decide) (by decide) (by decide)) rfl rfl (i2 := (47, 0, 0)) rfl ?_
                refine tv_iload C (pc := 118) dX7_divide_118 rfl ?_
                obtain ⟨hr21, h⟩ := ts_gd h
                refine tv_iaload C (pc := 120) dX7_divide_120 (ts_live (k := 47) (by decide) (by decide) (by decide)) rfl hr21 (j := x19.toNatClampNeg) rfl ?_
                refine tv_iload_n C (pc := 121) dX7_divide_121 rfl rfl ?_
                obtain ⟨hg22, h⟩ := ts_gd h
                refine tv_idiv C (pc := 122) dX7_divide_122 hg22 ?_
                obtain ⟨hr23, h⟩ := ts_gd h
                refine tv_iastore C (pc := 123) dX7_divide_123 (ts_live (k := 47) (by decide) (by decide) (by decide)) rfl hr23 (j := x19.toNatClampNeg) rfl ?_
                refine tv_nu (fun u24 hu24 => ?_)
                have h := ts_lt h hu24
                refine tv_aload_n C (pc := 124) dX7_divide_124 rfl rfl ?_
                refine tv_getR C (pc := 125) dX7_divide_125 fl_X7_74 (ts_live (k := 30) (by decide) (by decide) (by decide)) rfl rfl (i2 := (47, 0, 0)) rfl ?_
                refine tv_iload C (pc := 128) dX7_divide_128 rfl ?_
                obtain ⟨hr25, h⟩ := ts_gd h
                refine tv_iaload C (pc := 130) dX7_divide_130 (ts_live (k := 47) (by decide) (by decide) (by decide)) rfl hr25 (j := x19.toNatClampNeg) rfl ?_
                refine tv_i2f C (pc := 131) dX7_divide_131 ?_
                cases h
                exact tv_fret C (pc := 132) rfl dX7_divide_132 ⟨Nat.le_of_ble_eq_true rfl, Nat.le_of_ble_eq_true rfl⟩
              · have h := ts_ifp h hc
                refine tv_aload_n C (pc := 83) dX7_divide_83 rfl rfl ?_
                refine tv_getR C (pc := 84) dX7_divide_84 fl_X7_77 (ts_live (k := 30) (by decide) (by decide) (by decide)) rfl rfl (i2 := (48, 0, 0)) rfl ?_
                refine tv_iload C (pc := 87) dX7_divide_87 rfl ?_
                refine tv_aload_n C (pc := 89) dX7_divide_89 rfl rfl ?_
                refine tv_getR C (pc := 90) dX7_divide_90 fl_X7_77 (ts_live (k := 30) (by decide) (by decide) (by decide)) rfl rfl (i2 := (48, 0, 0)) rfl ?_
                refine tv_iload C (pc := 93) dX7_divide_93 rfl ?_
                obtain ⟨hr26, h⟩ := ts_gd h
                refine tv_faload C (pc := 95) dX7_divide_95 (ts_live (k := 48) (by decide) (by decide) (by decide)) rfl hr26 (j := x19.toNatClampNeg) rfl ?_
                refine tv_iload_n C (pc := 96) dX7_divide_96 rfl rfl ?_
                refine tv_i2f C (pc := 97) dX7_divide_97 ?_
                obtain ⟨hg27, h⟩ := ts_gd h
                refine tv_fdiv C (pc := 98) dX7_divide_98 hg27 ?_
                obtain ⟨hr28, h⟩ := ts_gd h
                refine tv_fastore C (pc := 99) dX7_divide_99 (ts_live (k := 48) (by decide) (by decide) (by decide)) rfl hr28 (j := x19.toNatClampNeg) rfl ?_
                refine tv_nu (fun u29 hu29 => ?_)
                have h := ts_lt h hu29
                refine tv_aload_n C (pc := 100) dX7_divide_100 rfl rfl ?_
                refine tv_getR C (pc := 101) dX7_divide_101 fl_X7_77 (ts_live (k := 30) (by decide) (by decide) (by decide)) rfl rfl (i2 := (48, 0, 0)) rfl ?_
                refine tv_iload C (pc := 104) dX7_divide_104 rfl ?_
                obtain ⟨hr30, h⟩ := ts_gd h
                refine tv_faload C (pc := 106) dX7_divide_106 (ts_live (k := 48) (by decide) (by decide) (by decide)) rfl hr30 (j := x19.toNatClampNeg) rfl ?_
                cases h
                exact tv_fret C (pc := 107) rfl dX7_divide_107 ⟨Nat.le_of_ble_eq_true rfl, Nat.le_of_ble_eq_true rfl⟩
            · have h := ts_ifn h hc
              refine tv_fconst0 C (pc := 64) dX7_divide_64 ?_
              cases h
              exact tv_fret C (pc := 65) rfl dX7_divide_65 ⟨Nat.le_of_ble_eq_true rfl, Nat.le_of_ble_eq_true rfl⟩
        · have h := ts_ifp h hc
          refine tv_iconst C (pc := 29) dX7_divide_29 (v := (3 : Int32)) rfl ?_
          refine tv_goto C (pc := 30) 54 dX7_divide_30 (by decide) ?_
          refine tv_putI C (pc := 54) dX7_divide_54 fp_X7_3 (ts_live (k := 30) (by decide) (by decide) (by decide)) rfl (cd := 0) rfl (by decide) rfl rfl ?_
          refine tv_nu (fun u31 hu31 => ?_)
          have h := ts_lt h hu31
          refine tv_aload_n C (pc := 57) dX7_divide_57 rfl rfl ?_
          refine tv_getI C (pc := 58) dX7_divide_58 fl_X7_3 (ts_live (k := 30) (by decide) (by decide) (by decide)) rfl (cd := 0) rfl (by decide) ?_
          refine tv_if_eq C (pc := 61) 66 dX7_divide_61 (by decide) (fun hc => ?_) (fun hc => ?_)
          · have h := ts_ifp h hc
            refine tv_bipush C (pc := 66) dX7_divide_66 (v := (30 : Int32)) rfl ?_
            refine tv_iload_n C (pc := 68) dX7_divide_68 rfl rfl ?_
            refine tv_imul C (pc := 69) dX7_divide_69 ?_
            refine tv_iload_n C (pc := 70) dX7_divide_70 rfl rfl ?_
            refine tv_iadd C (pc := 71) dX7_divide_71 ?_
            refine tv_nmI (fun x32 hx32 => ?_)
            have h := ts_lt h hx32
            refine tv_istore C (pc := 72) dX7_divide_72 (L' := [some (.inr (30, 0, 0)), some (.inl (.int p1)), some (.inl (.int p2)), some (.inl (.int p3)), some (.inl (.int x32))]) (by decide) rfl rfl ?_
            refine tv_aload_n C (pc := 74) dX7_divide_74 rfl rfl ?_
            refine tv_getR C (pc := 75) dX7_divide_75 fl_X7_68 (ts_live (k := 30) (by decide) (by decide) (by decide)) rfl rfl (i2 := (45, 0, 0)) rfl ?_
            refine tv_iload_n C (pc := 78) dX7_divide_78 rfl rfl ?_
            obtain ⟨hr33, h⟩ := ts_gd h
            refine tv_iaload C (pc := 79) dX7_divide_79 (ts_live (k := 45) (by decide) (by decide) (by decide)) rfl hr33 (j := p1.toNatClampNeg) rfl ?_
            refine tv_if_ne C (pc := 80) 108 dX7_divide_80 (by decide) (fun hc => ?_) (fun hc => ?_)
            · have h := ts_ifn h hc
              refine tv_aload_n C (pc := 108) dX7_divide_108 rfl rfl ?_
              refine tv_getR C (pc := 109) dX7_divide_109 fl_X7_74 (ts_live (k := 30) (by decide) (by decide) (by decide)) rfl rfl (i2 := (47, 0, 0)) rfl ?_
              refine tv_iload C (pc := 112) dX7_divide_112 rfl ?_
              refine tv_aload_n C (pc := 114) dX7_divide_114 rfl rfl ?_
              refine tv_getR C (pc := 115) dX7_divide_115 fl_X7_74 (ts_live (k := 30) (by decide) (by decide) (by decide)) rfl rfl (i2 := (47, 0, 0)) rfl ?_
              refine tv_iload C (pc := 118) dX7_divide_118 rfl ?_
              obtain ⟨hr34, h⟩ := ts_gd h
              refine tv_iaload C (pc := 120) dX7_divide_120 (ts_live (k := 47) (by decide) (by decide) (by decide)) rfl hr34 (j := x32.toNatClampNeg) rfl ?_
              refine tv_iload_n C (pc := 121) dX7_divide_121 rfl rfl ?_
              obtain ⟨hg35, h⟩ := ts_gd h
              refine tv_idiv C (pc := 122) dX7_divide_122 hg35 ?_
              obtain ⟨hr36, h⟩ := ts_gd h
              refine tv_iastore C (pc := 123) dX7_divide_123 (ts_live (k := 47) (by decide) (by decide) (by decide)) rfl hr36 (j := x32.toNatClampNeg) rfl ?_
              refine tv_nu (fun u37 hu37 => ?_)
              have h := ts_lt h hu37
              refine tv_aload_n C (pc := 124) dX7_divide_124 rfl rfl ?_
              refine tv_getR C (pc := 125) dX7_divide_125 fl_X7_74 (ts_live (k := 30) (by decide) (by decide) (by decide)) rfl rfl (i2 := (47, 0, 0)) rfl ?_
              refine tv_iload C (pc := 128) dX7_divide_128 rfl ?_
              obtain ⟨hr38, h⟩ := ts_gd h
              refine tv_iaload C (pc := 130) dX7_divide_130 (ts_live (k := 47) (by decide) (by decide) (by decide)) rfl hr38 (j := x32.toNatClampNeg) rfl ?_
              refine tv_i2f C (pc := 131) dX7_divide_131 ?_
              cases h
              exact tv_fret C (pc := 132) rfl dX7_divide_132 ⟨Nat.le_of_ble_eq_true rfl, Nat.le_of_ble_eq_true rfl⟩
            · have h := ts_ifp h hc
              refine tv_aload_n C (pc := 83) dX7_divide_83 rfl rfl ?_
              refine tv_getR C (pc := 84) dX7_divide_84 fl_X7_77 (ts_live (k := 30) (by decide) (by decide) (by decide)) rfl rfl (i2 := (48, 0, 0)) rfl ?_
              refine tv_iload C (pc := 87) dX7_divide_87 rfl ?_
              refine tv_aload_n C (pc := 89) dX7_divide_89 rfl rfl ?_
              refine tv_getR C (pc := 90) dX7_divide_90 fl_X7_77 (ts_live (k := 30) (by decide) (by decide) (by decide)) rfl rfl (i2 := (48, 0, 0)) rfl ?_
              refine tv_iload C (pc := 93) dX7_divide_93 rfl ?_
              obtain ⟨hr39, h⟩ := ts_gd h
              refine tv_faload C (pc := 95) dX7_divide_95 (ts_live (k := 48) (by decide) (by decide) (by decide)) rfl hr39 (j := x32.toNatClampNeg) rfl ?_
              refine tv_iload_n C (pc := 96) dX7_divide_96 rfl rfl ?_
              refine tv_i2f C (pc := 97) dX7_divide_97 ?_
              obtain ⟨hg40, h⟩ := ts_gd h
              refine tv_fdiv C (pc := 98) dX7_divide_98 hg40 ?_
              obtain ⟨hr41, h⟩ := ts_gd h
              refine tv_fastore C (pc := 99) dX7_divide_99 (ts_live (k := 48) (by decide) (by decide) (by decide)) rfl hr41 (j := x32.toNatClampNeg) rfl ?_
              refine tv_nu (fun u42 hu42 => ?_)
              have h := ts_lt h hu42
              refine tv_aload_n C (pc := 100) dX7_divide_100 rfl rfl ?_
              refine tv_getR C (pc := 101) dX7_divide_101 fl_X7_77 (ts_live (k := 30) (by decide) (by decide) (by decide)) rfl rfl (i2 := (48, 0, 0)) rfl ?_
              refine tv_iload C (pc := 104) dX7_divide_104 rfl ?_
              obtain ⟨hr43, h⟩ := ts_gd h
              refine tv_faload C (pc := 106) dX7_divide_106 (ts_live (k := 48) (by decide) (by decide) (by decide)) rfl hr43 (j := x32.toNatClampNeg) rfl ?_
              cases h
              exact tv_fret C (pc := 107) rfl dX7_divide_107 ⟨Nat.le_of_ble_eq_true rfl, Nat.le_of_ble_eq_true rfl⟩
          · have h := ts_ifn h hc
            refine tv_fconst0 C (pc := 64) dX7_divide_64 ?_
            cases h
            exact tv_fret C (pc := 65) rfl dX7_divide_65 ⟨Nat.le_of_ble_eq_true rfl, Nat.le_of_ble_eq_true rfl⟩
      · have h := ts_ifn h hc
        refine tv_iconst C (pc := 21) dX7_divide_21 (v := (2 : Int32)) rfl ?_
        refine tv_goto C (pc := 22) 54 dX7_divide_22 (by decide) ?_
        refine tv_putI C (pc := 54) dX7_divide_54 fp_X7_3 (ts_live (k := 30) (by decide) (by decide) (by decide)) rfl (cd := 0) rfl (by decide) rfl rfl ?_
        refine tv_nu (fun u44 hu44 => ?_)
        have h := ts_lt h hu44
        refine tv_aload_n C (pc := 57) dX7_divide_57 rfl rfl ?_
        refine tv_getI C (pc := 58) dX7_divide_58 fl_X7_3 (ts_live (k := 30) (by decide) (by decide) (by decide)) rfl (cd := 0) rfl (by decide) ?_
        refine tv_if_eq C (pc := 61) 66 dX7_divide_61 (by decide) (fun hc => ?_) (fun hc => ?_)
        · have h := ts_ifp h hc
          refine tv_bipush C (pc := 66) dX7_divide_66 (v := (30 : Int32)) rfl ?_
          refine tv_iload_n C (pc := 68) dX7_divide_68 rfl rfl ?_
          refine tv_imul C (pc := 69) dX7_divide_69 ?_
          refine tv_iload_n C (pc := 70) dX7_divide_70 rfl rfl ?_
          refine tv_iadd C (pc := 71) dX7_divide_71 ?_
          refine tv_nmI (fun x45 hx45 => ?_)
          have h := ts_lt h hx45
          refine tv_istore C (pc := 72) dX7_divide_72 (L' := [some (.inr (30, 0, 0)), some (.inl (.int p1)), some (.inl (.int p2)), some (.inl (.int p3)), some (.inl (.int x45))]) (by decide) rfl rfl ?_
          refine tv_aload_n C (pc := 74) dX7_divide_74 rfl rfl ?_
          refine tv_getR C (pc := 75) dX7_divide_75 fl_X7_68 (ts_live (k := 30) (by decide) (by decide) (by decide)) rfl rfl (i2 := (45, 0, 0)) rfl ?_
          refine tv_iload_n C (pc := 78) dX7_divide_78 rfl rfl ?_
          obtain ⟨hr46, h⟩ := ts_gd h
          refine tv_iaload C (pc := 79) dX7_divide_79 (ts_live (k := 45) (by decide) (by decide) (by decide)) rfl hr46 (j := p1.toNatClampNeg) rfl ?_
          refine tv_if_ne C (pc := 80) 108 dX7_divide_80 (by decide) (fun hc => ?_) (fun hc => ?_)
          · have h := ts_ifn h hc
            refine tv_aload_n C (pc := 108) dX7_divide_108 rfl rfl ?_
            refine tv_getR C (pc := 109) dX7_divide_109 fl_X7_74 (ts_live (k := 30) (by decide) (by decide) (by decide)) rfl rfl (i2 := (47, 0, 0)) rfl ?_
            refine tv_iload C (pc := 112) dX7_divide_112 rfl ?_
            refine tv_aload_n C (pc := 114) dX7_divide_114 rfl rfl ?_
            refine tv_getR C (pc := 115) dX7_divide_115 fl_X7_74 (ts_live (k := 30) (by decide) (by decide) (by decide)) rfl rfl (i2 := (47, 0, 0)) rfl ?_
            refine tv_iload C (pc := 118) dX7_divide_118 rfl ?_
            obtain ⟨hr47, h⟩ := ts_gd h
            refine tv_iaload C (pc := 120) dX7_divide_120 (ts_live (k := 47) (by decide) (by decide) (by decide)) rfl hr47 (j := x45.toNatClampNeg) rfl ?_
            refine tv_iload_n C (pc := 121) dX7_divide_121 rfl rfl ?_
            obtain ⟨hg48, h⟩ := ts_gd h
            refine tv_idiv C (pc := 122) dX7_divide_122 hg48 ?_
            obtain ⟨hr49, h⟩ := ts_gd h
            refine tv_iastore C (pc := 123) dX7_divide_123 (ts_live (k := 47) (by decide) (by decide) (by decide)) rfl hr49 (j := x45.toNatClampNeg) rfl ?_
            refine tv_nu (fun u50 hu50 => ?_)
            have h := ts_lt h hu50
            refine tv_aload_n C (pc := 124) dX7_divide_124 rfl rfl ?_
            refine tv_getR C (pc := 125) dX7_divide_125 fl_X7_74 (ts_live (k := 30) (by decide) (by decide) (by decide)) rfl rfl (i2 := (47, 0, 0)) rfl ?_
            refine tv_iload C (pc := 128) dX7_divide_128 rfl ?_
            obtain ⟨hr51, h⟩ := ts_gd h
            refine tv_iaload C (pc := 130) dX7_divide_130 (ts_live (k := 47) (by decide) (by decide) (by decide)) rfl hr51 (j := x45.toNatClampNeg) rfl ?_
            refine tv_i2f C (pc := 131) dX7_divide_131 ?_
            cases h
            exact tv_fret C (pc := 132) rfl dX7_divide_132 ⟨Nat.le_of_ble_eq_true rfl, Nat.le_of_ble_eq_true rfl⟩
          · have h := ts_ifp h hc
            refine tv_aload_n C (pc := 83) dX7_divide_83 rfl rfl ?_
            refine tv_getR C (pc := 84) dX7_divide_84 fl_X7_77 (ts_live (k := 30) (by decide) (by decide) (by decide)) rfl rfl (i2 := (48, 0, 0)) rfl ?_
            refine tv_iload C (pc := 87) dX7_divide_87 rfl ?_
            refine tv_aload_n C (pc := 89) dX7_divide_89 rfl rfl ?_
            refine tv_getR C (pc := 90) dX7_divide_90 fl_X7_77 (ts_live (k := 30) (by decide) (by decide) (by decide)) rfl rfl (i2 := (48, 0, 0)) rfl ?_
            refine tv_iload C (pc := 93) dX7_divide_93 rfl ?_
            obtain ⟨hr52, h⟩ := ts_gd h
            refine tv_faload C (pc := 95) dX7_divide_95 (ts_live (k := 48) (by decide) (by decide) (by decide)) rfl hr52 (j := x45.toNatClampNeg) rfl ?_
            refine tv_iload_n C (pc := 96) dX7_divide_96 rfl rfl ?_
            refine tv_i2f C (pc := 97) dX7_divide_97 ?_
            obtain ⟨hg53, h⟩ := ts_gd h
            refine tv_fdiv C (pc := 98) dX7_divide_98 hg53 ?_
            obtain ⟨hr54, h⟩ := ts_gd h
            refine tv_fastore C (pc := 99) dX7_divide_99 (ts_live (k := 48) (by decide) (by decide) (by decide)) rfl hr54 (j := x45.toNatClampNeg) rfl ?_
            refine tv_nu (fun u55 hu55 => ?_)
            have h := ts_lt h hu55
            refine tv_aload_n C (pc := 100) dX7_divide_100 rfl rfl ?_
            refine tv_getR C (pc := 101) dX7_divide_101 fl_X7_77 (ts_live (k := 30) (by decide) (by decide) (by decide)) rfl rfl (i2 := (48, 0, 0)) rfl ?_
            refine tv_iload C (pc := 104) dX7_divide_104 rfl ?_
            obtain ⟨hr56, h⟩ := ts_gd h
            refine tv_faload C (pc := 106) dX7_divide_106 (ts_live (k := 48) (by decide) (by decide) (by decide)) rfl hr56 (j := x45.toNatClampNeg) rfl ?_
            cases h
            exact tv_fret C (pc := 107) rfl dX7_divide_107 ⟨Nat.le_of_ble_eq_true rfl, Nat.le_of_ble_eq_true rfl⟩
        · have h := ts_ifn h hc
          refine tv_fconst0 C (pc := 64) dX7_divide_64 ?_
          cases h
          exact tv_fret C (pc := 65) rfl dX7_divide_65 ⟨Nat.le_of_ble_eq_true rfl, Nat.le_of_ble_eq_true rfl⟩
    · have h := ts_ifp h hc
      refine tv_iconst C (pc := 8) dX7_divide_8 (v := (1 : Int32)) rfl ?_
      refine tv_goto C (pc := 9) 54 dX7_divide_9 (by decide) ?_
      refine tv_putI C (pc := 54) dX7_divide_54 fp_X7_3 (ts_live (k := 30) (by decide) (by decide) (by decide)) rfl (cd := 0) rfl (by decide) rfl rfl ?_
      refine tv_nu (fun u57 hu57 => ?_)
      have h := ts_lt h hu57
      refine tv_aload_n C (pc := 57) dX7_divide_57 rfl rfl ?_
      refine tv_getI C (pc := 58) dX7_divide_58 fl_X7_3 (ts_live (k := 30) (by decide) (by decide) (by decide)) rfl (cd := 0) rfl (by decide) ?_
      refine tv_if_eq C (pc := 61) 66 dX7_divide_61 (by decide) (fun hc => ?_) (fun hc => ?_)
      · have h := ts_ifp h hc
        refine tv_bipush C (pc := 66) dX7_divide_66 (v := (30 : Int32)) rfl ?_
        refine tv_iload_n C (pc := 68) dX7_divide_68 rfl rfl ?_
        refine tv_imul C (pc := 69) dX7_divide_69 ?_
        refine tv_iload_n C (pc := 70) dX7_divide_70 rfl rfl ?_
        refine tv_iadd C (pc := 71) dX7_divide_71 ?_
        refine tv_nmI (fun x58 hx58 => ?_)
        have h := ts_lt h hx58
        refine tv_istore C (pc := 72) dX7_divide_72 (L' := [some (.inr (30, 0, 0)), some (.inl (.int p1)), some (.inl (.int p2)), some (.inl (.int p3)), some (.inl (.int x58))]) (by decide) rfl rfl ?_
        refine tv_aload_n C (pc := 74) dX7_divide_74 rfl rfl ?_
        refine tv_getR C (pc := 75) dX7_divide_75 fl_X7_68 (ts_live (k := 30) (by decide) (by decide) (by decide)) rfl rfl (i2 := (45, 0, 0)) rfl ?_
        refine tv_iload_n C (pc := 78) dX7_divide_78 rfl rfl ?_
        obtain ⟨hr59, h⟩ := ts_gd h
        refine tv_iaload C (pc := 79) dX7_divide_79 (ts_live (k := 45) (by decide) (by decide) (by decide)) rfl hr59 (j := p1.toNatClampNeg) rfl ?_
        refine tv_if_ne C (pc := 80) 108 dX7_divide_80 (by decide) (fun hc => ?_) (fun hc => ?_)
        · have h := ts_ifn h hc
          refine tv_aload_n C (pc := 108) dX7_divide_108 rfl rfl ?_
          refine tv_getR C (pc := 109) dX7_divide_109 fl_X7_74 (ts_live (k := 30) (by decide) (by decide) (by decide)) rfl rfl (i2 := (47, 0, 0)) rfl ?_
          refine tv_iload C (pc := 112) dX7_divide_112 rfl ?_
          refine tv_aload_n C (pc := 114) dX7_divide_114 rfl rfl ?_
          refine tv_getR C (pc := 115) dX7_divide_115 fl_X7_74 (ts_live (k := 30) (by decide) (by decide) (by decide)) rfl rfl (i2 := (47, 0, 0)) rfl ?_
          refine tv_iload C (pc := 118) dX7_divide_118 rfl ?_
          obtain ⟨hr60, h⟩ := ts_gd h
          refine tv_iaload C (pc := 120) dX7_divide_120 (ts_live (k := 47) (by decide) (by decide) (by decide)) rfl hr60 (j := x58.toNatClampNeg) rfl ?_
          refine tv_iload_n C (pc := 121) dX7_divide_121 rfl rfl ?_
          obtain ⟨hg61, h⟩ := ts_gd h
          refine tv_idiv C (pc := 122) dX7_divide_122 hg61 ?_
          obtain ⟨hr62, h⟩ := ts_gd h
          refine tv_iastore C (pc := 123) dX7_divide_123 (ts_live (k := 47) (by decide) (by decide) (by decide)) rfl hr62 (j := x58.toNatClampNeg) rfl ?_
          refine tv_nu (fun u63 hu63 => ?_)
          have h := ts_lt h hu63
          refine tv_aload_n C (pc := 124) dX7_divide_124 rfl rfl ?_
          refine tv_getR C (pc := 125) dX7_divide_125 fl_X7_74 (ts_live (k := 30) (by decide) (by decide) (by decide)) rfl rfl (i2 := (47, 0, 0)) rfl ?_
          refine tv_iload C (pc := 128) dX7_divide_128 rfl ?_
          obtain ⟨hr64, h⟩ := ts_gd h
          refine tv_iaload C (pc := 130) dX7_divide_130 (ts_live (k := 47) (by decide) (by decide) (by decide)) rfl hr64 (j := x58.toNatClampNeg) rfl ?_
          refine tv_i2f C (pc := 131) dX7_divide_131 ?_
          cases h
          exact tv_fret C (pc := 132) rfl dX7_divide_132 ⟨Nat.le_of_ble_eq_true rfl, Nat.le_of_ble_eq_true rfl⟩
        · have h := ts_ifp h hc
          refine tv_aload_n C (pc := 83) dX7_divide_83 rfl rfl ?_
          refine tv_getR C (pc := 84) dX7_divide_84 fl_X7_77 (ts_live (k := 30) (by decide) (by decide) (by decide)) rfl rfl (i2 := (48, 0, 0)) rfl ?_
          refine tv_iload C (pc := 87) dX7_divide_87 rfl ?_
          refine tv_aload_n C (pc := 89) dX7_divide_89 rfl rfl ?_
          refine tv_getR C (pc := 90) dX7_divide_90 fl_X7_77 (ts_live (k := 30) (by decide) (by decide) (by decide)) rfl rfl (i2 := (48, 0, 0)) rfl ?_
          refine tv_iload C (pc := 93) dX7_divide_93 rfl ?_
          obtain ⟨hr65, h⟩ := ts_gd h
          refine tv_faload C (pc := 95) dX7_divide_95 (ts_live (k := 48) (by decide) (by decide) (by decide)) rfl hr65 (j := x58.toNatClampNeg) rfl ?_
          refine tv_iload_n C (pc := 96) dX7_divide_96 rfl rfl ?_
          refine tv_i2f C (pc := 97) dX7_divide_97 ?_
          obtain ⟨hg66, h⟩ := ts_gd h
          refine tv_fdiv C (pc := 98) dX7_divide_98 hg66 ?_
          obtain ⟨hr67, h⟩ := ts_gd h
          refine tv_fastore C (pc := 99) dX7_divide_99 (ts_live (k := 48) (by decide) (by decide) (by decide)) rfl hr67 (j := x58.toNatClampNeg) rfl ?_
          refine tv_nu (fun u68 hu68 => ?_)
          have h := ts_lt h hu68
          refine tv_aload_n C (pc := 100) dX7_divide_100 rfl rfl ?_
          refine tv_getR C (pc := 101) dX7_divide_101 fl_X7_77 (ts_live (k := 30) (by decide) (by decide) (by decide)) rfl rfl (i2 := (48, 0, 0)) rfl ?_
          refine tv_iload C (pc := 104) dX7_divide_104 rfl ?_
          obtain ⟨hr69, h⟩ := ts_gd h
          refine tv_faload C (pc := 106) dX7_divide_106 (ts_live (k := 48) (by decide) (by decide) (by decide)) rfl hr69 (j := x58.toNatClampNeg) rfl ?_
          cases h
          exact tv_fret C (pc := 107) rfl dX7_divide_107 ⟨Nat.le_of_ble_eq_true rfl, Nat.le_of_ble_eq_true rfl⟩
      · have h := ts_ifn h hc
        refine tv_fconst0 C (pc := 64) dX7_divide_64 ?_
        cases h
        exact tv_fret C (pc := 65) rfl dX7_divide_65 ⟨Nat.le_of_ble_eq_true rfl, Nat.le_of_ble_eq_true rfl⟩
set_option maxRecDepth 100000 in
set_option maxHeartbeats 4000000 in
theorem lt_X7_copyElements_2 {D : va_G} {dT : Nat → ClassId} {sz : Nat} {p : Program} {l : Launch} {e : Env} {R : Room} {s : State} {m : MethodId} {args : Array Value} {below : List Frame} {meth : Method} {c : Code} {d : Nat} {ad : ts_I → Nat} {kk nn : Nat} {Q : State → Prop} (hl : l.stackTraces = false) (C : ts_CX D dT sz p l R s m args meth c RX7 cX7_copyElements 4 none d) (hdd : 0 ≤ d) (c1 : Int32) (c2 : Int32) (hkn : kk ≤ R.cells ∧ nn ≤ R.slots) : ∀ (n : Nat) (v3 : Int32) (u : ts_Mem) (q : (Int32 × ts_Mem)) (h : lp_X7_copyElements_2 c1 c2 n v3 u = some q) (K : ts_V D dT sz p l e R s m args below meth c 4 Q ad ts_lv ts_R0 62 [some (.inr (30, 0, 0)), some (.inl (.int c1)), some (.inl (.int c2)), some (.inl (.int q.1))] [] q.2 kk nn), ts_V D dT sz p l e R s m args below meth c 4 Q ad ts_lv ts_R0 2 [some (.inr (30, 0, 0)), some (.inl (.int c1)), some (.inl (.int c2)), some (.inl (.int v3))] [] u kk nn
  | 0, _, _, _, h, _ => by cases h
  | n + 1, v3, u, q, h, K => by
      rw [lp_X7_copyElements_2] at h
      refine tv_iload_n C (pc := 2) dX7_copyElements_2 rfl rfl ?_
      refine tv_aload_n C (pc := 3) dX7_copyElements_3 rfl rfl ?_
      refine tv_getR C (pc := 4) dX7_copyElements_4 fl_X7_71 (ts_live (k := 30) (by decide) (by decide) (by decide)) rfl rfl (i2 := (46, 0, 0)) rfl ?_
      refine tv_iload_n C (pc := 7) dX7_copyElements_7 rfl rfl ?_
      obtain ⟨hr1, h⟩ := ts_gd h
      refine tv_iaload C (pc := 8) dX7_copyElements_8 (ts_live (k := 46) (by decide) (by decide) (by decide)) rfl hr1 (j := c1.toNatClampNeg) rfl ?_
      refine tv_icmp_ge C (pc := 9) 62 dX7_copyElements_9 (by decide) (fun hc => ?_) (fun hc => ?_)
      · have h := ts_ifp h hc
        cases h
        exact K
      · have h := ts_ifn h hc
        refine tv_aload_n C (pc := 12) dX7_copyElements_12 rfl rfl ?_
        refine tv_getR C (pc := 13) dX7_copyElements_13 fl_X7_74 (ts_live (k := 30) (by decide) (by decide) (by decide)) rfl rfl (i2 := (47, 0, 0)) rfl ?_
        refine tv_bipush C (pc := 16) dX7_copyElements_16 (v := (30 : Int32)) rfl ?_
        refine tv_iload_n C (pc := 18) dX7_copyElements_18 rfl rfl ?_
        refine tv_imul C (pc := 19) dX7_copyElements_19 ?_
        refine tv_iload_n C (pc := 20) dX7_copyElements_20 rfl rfl ?_
        refine tv_iadd C (pc := 21) dX7_copyElements_21 ?_
        refine tv_aload_n C (pc := 22) dX7_copyElements_22 rfl rfl ?_
        refine tv_getR C (pc := 23) dX7_copyElements_23 fl_X7_74 (ts_live (k := 30) (by decide) (by decide) (by decide)) rfl rfl (i2 := (47, 0, 0)) rfl ?_
        refine tv_bipush C (pc := 26) dX7_copyElements_26 (v := (30 : Int32)) rfl ?_
        refine tv_iload_n C (pc := 28) dX7_copyElements_28 rfl rfl ?_
        refine tv_imul C (pc := 29) dX7_copyElements_29 ?_
        refine tv_iload_n C (pc := 30) dX7_copyElements_30 rfl rfl ?_
        refine tv_iadd C (pc := 31) dX7_copyElements_31 ?_
        obtain ⟨hr2, h⟩ := ts_gd h
        refine tv_iaload C (pc := 32) dX7_copyElements_32 (ts_live (k := 47) (by decide) (by decide) (by decide)) rfl hr2 (j := ((((30 : Int32) * c1) + v3)).toNatClampNeg) rfl ?_
        obtain ⟨hr3, h⟩ := ts_gd h
        refine tv_iastore C (pc := 33) dX7_copyElements_33 (ts_live (k := 47) (by decide) (by decide) (by decide)) rfl hr3 (j := ((((30 : Int32) * c2) + v3)).toNatClampNeg) rfl ?_
        refine tv_nu (fun u4 hu4 => ?_)
        have h := ts_lt h hu4
        refine tv_aload_n C (pc := 34) dX7_copyElements_34 rfl rfl ?_
        refine tv_getR C (pc := 35) dX7_copyElements_35 fl_X7_77 (ts_live (k := 30) (by decide) (by decide) (by decide)) rfl rfl (i2 := (48, 0, 0)) rfl ?_
        refine tv_bipush C (pc := 38) dX7_copyElements_38 (v := (30 : Int32)) rfl ?_
        refine tv_iload_n C (pc := 40) dX7_copyElements_40 rfl rfl ?_
        refine tv_imul C (pc := 41) dX7_copyElements_41 ?_
        refine tv_iload_n C (pc := 42) dX7_copyElements_42 rfl rfl ?_
        refine tv_iadd C (pc := 43) dX7_copyElements_43 ?_
        refine tv_aload_n C (pc := 44) dX7_copyElements_44 rfl rfl ?_
        refine tv_getR C (pc := 45) dX7_copyElements_45 fl_X7_77 (ts_live (k := 30) (by decide) (by decide) (by decide)) rfl rfl (i2 := (48, 0, 0)) rfl ?_
        refine tv_bipush C (pc := 48) dX7_copyElements_48 (v := (30 : Int32)) rfl ?_
        refine tv_iload_n C (pc := 50) dX7_copyElements_50 rfl rfl ?_
        refine tv_imul C (pc := 51) dX7_copyElements_51 ?_
        refine tv_iload_n C (pc := 52) dX7_copyElements_52 rfl rfl ?_
        refine tv_iadd C (pc := 53) dX7_copyElements_53 ?_
        obtain ⟨hr5, h⟩ := ts_gd h
        refine tv_faload C (pc := 54) dX7_copyElements_54 (ts_live (k := 48) (by decide) (by decide) (by decide)) rfl hr5 (j := ((((30 : Int32) * c1) + v3)).toNatClampNeg) rfl ?_
        obtain ⟨hr6, h⟩ := ts_gd h
        refine tv_fastore C (pc := 55) dX7_copyElements_55 (ts_live (k := 48) (by decide) (by decide) (by decide)) rfl hr6 (j := ((((30 : Int32) * c2) + v3)).toNatClampNeg) rfl ?_
        refine tv_nu (fun u7 hu7 => ?_)
        have h := ts_lt h hu7
        refine tv_iinc C (pc := 56) dX7_copyElements_56 (v := (v3 + (1 : Int32))) (L' := [some (.inr (30, 0, 0)), some (.inl (.int c1)), some (.inl (.int c2)), some (.inl (.int (v3 + (1 : Int32))))]) rfl rfl (by decide) rfl rfl ?_
        refine tv_goto C (pc := 59) 2 dX7_copyElements_59 (by decide) ?_
        exact lt_X7_copyElements_2 hl C hdd c1 c2 hkn n (v3 + (1 : Int32)) u7 q h K
set_option maxRecDepth 100000 in
set_option maxHeartbeats 4000000 in
theorem m_X7_copyElements {l : Launch} {D : va_G} {dT : Nat → ClassId} {sz : Nat} {ad : ts_I → Nat} (hl : l.stackTraces = false) (p1 : Int32) (p2 : Int32) (u : ts_Mem) (r : ts_Mem) (h : f_X7_copyElements p1 p2 u = some r) : ts_M l D dT sz yX7_copyElements wX7_copyElements 0 0 0 ad ts_lv ts_R0 [.inr (30, 0, 0), .inl (.int p1), .inl (.int p2)] u (.inl none) r := by
    unfold f_X7_copyElements at h
    refine ts_enter hl (by decide) rfl rfl (Nat.le_of_ble_eq_true rfl) ?_
    intro p e s m args below meth c C hX hnm
    have C : ts_CX D dT sz p l (ts_rm 0 0 0) s m args meth c RX7 cX7_copyElements 4 none 0 := C
    have hdd : 0 ≤ 0 := Nat.le_refl _
    refine tv_iconst C (pc := 0) dX7_copyElements_0 (v := (0 : Int32)) rfl ?_
    refine tv_istore_n C (pc := 1) dX7_copyElements_1 (L' := [some (.inr (30, 0, 0)), some (.inl (.int p1)), some (.inl (.int p2)), some (.inl (.int (0 : Int32)))]) rfl (by decide) rfl rfl ?_
    obtain ⟨q8, hq8, h⟩ := ts_bd h
    refine lt_X7_copyElements_2 hl C hdd p1 p2 ⟨Nat.le_of_ble_eq_true rfl, Nat.le_of_ble_eq_true rfl⟩ ts_fu (0 : Int32) u q8 hq8 ?_
    cases h
    exact tv_vret C (pc := 62) rfl dX7_copyElements_62 ⟨Nat.le_of_ble_eq_true rfl, Nat.le_of_ble_eq_true rfl⟩
set_option maxRecDepth 100000 in
set_option maxHeartbeats 4000000 in
theorem m_X7_cloneRow {l : Launch} {D : va_G} {dT : Nat → ClassId} {sz : Nat} {ad : ts_I → Nat} (hl : l.stackTraces = false) (p1 : Int32) (p2 : Int32) (u : ts_Mem) (r : (Int32 × ts_Mem)) (h : f_X7_cloneRow p1 p2 u = some r) : ts_M l D dT sz yX7_cloneRow wX7_cloneRow 2 0 0 ad ts_lv ts_R0 [.inr (30, 0, 0), .inl (.int p1), .inl (.int p2)] u (.inl (some (.int r.1))) r.2 := by
    unfold f_X7_cloneRow at h
    refine ts_enter hl (by decide) rfl rfl (Nat.le_of_ble_eq_true rfl) ?_
    intro p e s m args below meth c C hX hnm
    have C : ts_CX D dT sz p l (ts_rm 2 0 0) s m args meth c RX7 cX7_cloneRow 3 (some .int) 2 := C
    have hdd : 2 ≤ 2 := Nat.le_refl _
    refine tv_aload_n C (pc := 0) dX7_cloneRow_0 rfl rfl ?_
    refine tv_iload_n C (pc := 1) dX7_cloneRow_1 rfl rfl ?_
    obtain ⟨q1, hq1, h⟩ := ts_bd h
    refine tv_callS C (pc := 2) dX7_cloneRow_2 yl_X7_248 (m_X7_isSlot (D := D) (dT := dT) (sz := sz) (ad := ad) hl p1 u q1 hq1) (Nat.le_trans (Nat.le_of_ble_eq_true rfl) hdd) (As := [.inl (.int p1)]) rfl ⟨Nat.le_of_ble_eq_true rfl, Nat.le_of_ble_eq_true rfl⟩ (fun _ => Nat.le_of_ble_eq_true rfl) rfl ?_
    refine tv_if_eq C (pc := 5) 15 dX7_cloneRow_5 (by decide) (fun hc => ?_) (fun hc => ?_)
    · have h := ts_ifp h hc
      refine tv_iconst C (pc := 15) dX7_cloneRow_15 (v := (1 : Int32)) rfl ?_
      refine tv_goto C (pc := 16) 33 dX7_cloneRow_16 (by decide) ?_
      refine tv_putI C (pc := 33) dX7_cloneRow_33 fp_X7_3 (ts_live (k := 30) (by decide) (by decide) (by decide)) rfl (cd := 0) rfl (by decide) rfl rfl ?_
      refine tv_nu (fun u2 hu2 => ?_)
      have h := ts_lt h hu2
      refine tv_aload_n C (pc := 36) dX7_cloneRow_36 rfl rfl ?_
      refine tv_getI C (pc := 37) dX7_cloneRow_37 fl_X7_3 (ts_live (k := 30) (by decide) (by decide) (by decide)) rfl (cd := 0) rfl (by decide) ?_
      refine tv_if_eq C (pc := 40) 45 dX7_cloneRow_40 (by decide) (fun hc => ?_) (fun hc => ?_)
      · have h := ts_ifp h hc
        refine tv_aload_n C (pc := 45) dX7_cloneRow_45 rfl rfl ?_
        refine tv_iload_n C (pc := 46) dX7_cloneRow_46 rfl rfl ?_
        refine tv_iload_n C (pc := 47) dX7_cloneRow_47 rfl rfl ?_
        obtain ⟨q3, hq3, h⟩ := ts_bd h
        refine tv_callV C (pc := 48) dX7_cloneRow_48 (ci := 7) (q := (RX7, TX7, 37)) rfl yl_X7_251 (m_X7_copyElements (D := D) (dT := dT) (sz := sz) (ad := ad) hl p1 p2 u2 q3 hq3) (ts_live (k := 30) (by decide) (by decide) (by decide)) rfl (Nat.le_trans (Nat.le_of_ble_eq_true rfl) hdd) (As := [.inl (.int p1), .inl (.int p2)]) rfl ⟨Nat.le_of_ble_eq_true rfl, Nat.le_of_ble_eq_true rfl⟩ (fun _ => Nat.le_of_ble_eq_true rfl) rfl ?_
        refine tv_aload_n C (pc := 51) dX7_cloneRow_51 rfl rfl ?_
        refine tv_getR C (pc := 52) dX7_cloneRow_52 fl_X7_68 (ts_live (k := 30) (by decide) (by decide) (by decide)) rfl rfl (i2 := (45, 0, 0)) rfl ?_
        refine tv_iload_n C (pc := 55) dX7_cloneRow_55 rfl rfl ?_
        refine tv_aload_n C (pc := 56) dX7_cloneRow_56 rfl rfl ?_
        refine tv_getR C (pc := 57) dX7_cloneRow_57 fl_X7_68 (ts_live (k := 30) (by decide) (by decide) (by decide)) rfl rfl (i2 := (45, 0, 0)) rfl ?_
        refine tv_iload_n C (pc := 60) dX7_cloneRow_60 rfl rfl ?_
        obtain ⟨hr4, h⟩ := ts_gd h
        refine tv_iaload C (pc := 61) dX7_cloneRow_61 (ts_live (k := 45) (by decide) (by decide) (by decide)) rfl hr4 (j := p1.toNatClampNeg) rfl ?_
        obtain ⟨hr5, h⟩ := ts_gd h
        refine tv_iastore C (pc := 62) dX7_cloneRow_62 (ts_live (k := 45) (by decide) (by decide) (by decide)) rfl hr5 (j := p2.toNatClampNeg) rfl ?_
        refine tv_nu (fun u6 hu6 => ?_)
        have h := ts_lt h hu6
        refine tv_aload_n C (pc := 63) dX7_cloneRow_63 rfl rfl ?_
        refine tv_getR C (pc := 64) dX7_cloneRow_64 fl_X7_71 (ts_live (k := 30) (by decide) (by decide) (by decide)) rfl rfl (i2 := (46, 0, 0)) rfl ?_
        refine tv_iload_n C (pc := 67) dX7_cloneRow_67 rfl rfl ?_
        refine tv_aload_n C (pc := 68) dX7_cloneRow_68 rfl rfl ?_
        refine tv_getR C (pc := 69) dX7_cloneRow_69 fl_X7_71 (ts_live (k := 30) (by decide) (by decide) (by decide)) rfl rfl (i2 := (46, 0, 0)) rfl ?_
        refine tv_iload_n C (pc := 72) dX7_cloneRow_72 rfl rfl ?_
        obtain ⟨hr7, h⟩ := ts_gd h
        refine tv_iaload C (pc := 73) dX7_cloneRow_73 (ts_live (k := 46) (by decide) (by decide) (by decide)) rfl hr7 (j := p1.toNatClampNeg) rfl ?_
        obtain ⟨hr8, h⟩ := ts_gd h
        refine tv_iastore C (pc := 74) dX7_cloneRow_74 (ts_live (k := 46) (by decide) (by decide) (by decide)) rfl hr8 (j := p2.toNatClampNeg) rfl ?_
        refine tv_nu (fun u9 hu9 => ?_)
        have h := ts_lt h hu9
        refine tv_aload_n C (pc := 75) dX7_cloneRow_75 rfl rfl ?_
        refine tv_getR C (pc := 76) dX7_cloneRow_76 fl_X7_71 (ts_live (k := 30) (by decide) (by decide) (by decide)) rfl rfl (i2 := (46, 0, 0)) rfl ?_
        refine tv_iload_n C (pc := 79) dX7_cloneRow_79 rfl rfl ?_
        obtain ⟨hr10, h⟩ := ts_gd h
        refine tv_iaload C (pc := 80) dX7_cloneRow_80 (ts_live (k := 46) (by decide) (by decide) (by decide)) rfl hr10 (j := p1.toNatClampNeg) rfl ?_
        cases h
        exact tv_iret C (pc := 81) rfl dX7_cloneRow_81 ⟨Nat.le_of_ble_eq_true rfl, Nat.le_of_ble_eq_true rfl⟩
      · have h := ts_ifn h hc
        refine tv_iconst C (pc := 43) dX7_cloneRow_43 (v := (0 : Int32)) rfl ?_
        cases h
        exact tv_iret C (pc := 44) rfl dX7_cloneRow_44 ⟨Nat.le_of_ble_eq_true rfl, Nat.le_of_ble_eq_true rfl⟩
    · have h := ts_ifn h hc
      refine tv_iload_n C (pc := 8) dX7_cloneRow_8 rfl rfl ?_
      obtain ⟨q11, hq11, h⟩ := ts_bd h
      refine tv_callS C (pc := 9) dX7_cloneRow_9 yl_X7_248 (m_X7_isSlot (D := D) (dT := dT) (sz := sz) (ad := ad) hl p2 u q11 hq11) (Nat.le_trans (Nat.le_of_ble_eq_true rfl) hdd) (As := [.inl (.int p2)]) rfl ⟨Nat.le_of_ble_eq_true rfl, Nat.le_of_ble_eq_true rfl⟩ (fun _ => Nat.le_of_ble_eq_true rfl) rfl ?_
      refine tv_if_ne C (pc := 12) 19 dX7_cloneRow_12 (by decide) (fun hc => ?_) (fun hc => ?_)
      · have h := ts_ifn h hc
        refine tv_aload_n C (pc := 19) dX7_cloneRow_19 rfl rfl ?_
        refine tv_getR C (pc := 20) dX7_cloneRow_20 fl_X7_68 (ts_live (k := 30) (by decide) (by decide) (by decide)) rfl rfl (i2 := (45, 0, 0)) rfl ?_
        refine tv_iload_n C (pc := 23) dX7_cloneRow_23 rfl rfl ?_
        obtain ⟨hr12, h⟩ := ts_gd h
        refine tv_iaload C (pc := 24) dX7_cloneRow_24 (ts_live (k := 45) (by decide) (by decide) (by decide)) rfl hr12 (j := p1.toNatClampNeg) rfl ?_
        refine tv_if_ge C (pc := 25) 32 dX7_cloneRow_25 (by decide) (fun hc => ?_) (fun hc => ?_)
        · have h := ts_ifp h hc
          refine tv_iconst C (pc := 32) dX7_cloneRow_32 (v := (0 : Int32)) rfl ?_
          refine tv_putI C (pc := 33) dX7_cloneRow_33 fp_X7_3 (ts_live (k := 30) (by decide) (by decide) (by decide)) rfl (cd := 0) rfl (by decide) rfl rfl ?_
          refine tv_nu (fun u13 hu13 => ?_)
          have h := ts_lt h hu13
          refine tv_aload_n C (pc := 36) dX7_cloneRow_36 rfl rfl ?_
          refine tv_getI C (pc := 37) dX7_cloneRow_37 fl_X7_3 (ts_live (k := 30) (by decide) (by decide) (by decide)) rfl (cd := 0) rfl (by decide) ?_
          refine tv_if_eq C (pc := 40) 45 dX7_cloneRow_40 (by decide) (fun hc => ?_) (fun hc => ?_)
          · have h := ts_ifp h hc
            refine tv_aload_n C (pc := 45) dX7_cloneRow_45 rfl rfl ?_
            refine tv_iload_n C (pc := 46) dX7_cloneRow_46 rfl rfl ?_
            refine tv_iload_n C (pc := 47) dX7_cloneRow_47 rfl rfl ?_
            obtain ⟨q14, hq14, h⟩ := ts_bd h
            refine tv_callV C (pc := 48) dX7_cloneRow_48 (ci := 7) (q := (RX7, TX7, 37)) rfl yl_X7_251 (m_X7_copyElements (D := D) (dT := dT) (sz := sz) (ad := ad) hl p1 p2 u13 q14 hq14) (ts_live (k := 30) (by decide) (by decide) (by decide)) rfl (Nat.le_trans (Nat.le_of_ble_eq_true rfl) hdd) (As := [.inl (.int p1), .inl (.int p2)]) rfl ⟨Nat.le_of_ble_eq_true rfl, Nat.le_of_ble_eq_true rfl⟩ (fun _ => Nat.le_of_ble_eq_true rfl) rfl ?_
            refine tv_aload_n C (pc := 51) dX7_cloneRow_51 rfl rfl ?_
            refine tv_getR C (pc := 52) dX7_cloneRow_52 fl_X7_68 (ts_live (k := 30) (by decide) (by decide) (by decide)) rfl rfl (i2 := (45, 0, 0)) rfl ?_
            refine tv_iload_n C (pc := 55) dX7_cloneRow_55 rfl rfl ?_
            refine tv_aload_n C (pc := 56) dX7_cloneRow_56 rfl rfl ?_
            refine tv_getR C (pc := 57) dX7_cloneRow_57 fl_X7_68 (ts_live (k := 30) (by decide) (by decide) (by decide)) rfl rfl (i2 := (45, 0, 0)) rfl ?_
            refine tv_iload_n C (pc := 60) dX7_cloneRow_60 rfl rfl ?_
            obtain ⟨hr15, h⟩ := ts_gd h
            refine tv_iaload C (pc := 61) dX7_cloneRow_61 (ts_live (k := 45) (by decide) (by decide) (by decide)) rfl hr15 (j := p1.toNatClampNeg) rfl ?_
            obtain ⟨hr16, h⟩ := ts_gd h
            refine tv_iastore C (pc := 62) dX7_cloneRow_62 (ts_live (k := 45) (by decide) (by decide) (by decide)) rfl hr16 (j := p2.toNatClampNeg) rfl ?_
            refine tv_nu (fun u17 hu17 => ?_)
            have h := ts_lt h hu17
            refine tv_aload_n C (pc := 63) dX7_cloneRow_63 rfl rfl ?_
            refine tv_getR C (pc := 64) dX7_cloneRow_64 fl_X7_71 (ts_live (k := 30) (by decide) (by decide) (by decide)) rfl rfl (i2 := (46, 0, 0)) rfl ?_
            refine tv_iload_n C (pc := 67) dX7_cloneRow_67 rfl rfl ?_
            refine tv_aload_n C (pc := 68) dX7_cloneRow_68 rfl rfl ?_
            refine tv_getR C (pc := 69) dX7_cloneRow_69 fl_X7_71 (ts_live (k := 30) (by decide) (by decide) (by decide)) rfl rfl (i2 := (46, 0, 0)) rfl ?_
            refine tv_iload_n C (pc := 72) dX7_cloneRow_72 rfl rfl ?_
            obtain ⟨hr18, h⟩ := ts_gd h
            refine tv_iaload C (pc := 73) dX7_cloneRow_73 (ts_live (k := 46) (by decide) (by decide) (by decide)) rfl hr18 (j := p1.toNatClampNeg) rfl ?_
            obtain ⟨hr19, h⟩ := ts_gd h
            refine tv_iastore C (pc := 74) dX7_cloneRow_74 (ts_live (k := 46) (by decide) (by decide) (by decide)) rfl hr19 (j := p2.toNatClampNeg) rfl ?_
            refine tv_nu (fun u20 hu20 => ?_)
            have h := ts_lt h hu20
            refine tv_aload_n C (pc := 75) dX7_cloneRow_75 rfl rfl ?_
            refine tv_getR C (pc := 76) dX7_cloneRow_76 fl_X7_71 (ts_live (k := 30) (by decide) (by decide) (by decide)) rfl rfl (i2 := (46, 0, 0)) rfl ?_
            refine tv_iload_n C (pc := 79) dX7_cloneRow_79 rfl rfl ?_
            obtain ⟨hr21, h⟩ := ts_gd h
            refine tv_iaload C (pc := 80) dX7_cloneRow_80 (ts_live (k := 46) (by decide) (by decide) (by decide)) rfl hr21 (j := p1.toNatClampNeg) rfl ?_
            cases h
            exact tv_iret C (pc := 81) rfl dX7_cloneRow_81 ⟨Nat.le_of_ble_eq_true rfl, Nat.le_of_ble_eq_true rfl⟩
          · have h := ts_ifn h hc
            refine tv_iconst C (pc := 43) dX7_cloneRow_43 (v := (0 : Int32)) rfl ?_
            cases h
            exact tv_iret C (pc := 44) rfl dX7_cloneRow_44 ⟨Nat.le_of_ble_eq_true rfl, Nat.le_of_ble_eq_true rfl⟩
        · have h := ts_ifn h hc
          refine tv_iconst C (pc := 28) dX7_cloneRow_28 (v := (2 : Int32)) rfl ?_
          refine tv_goto C (pc := 29) 33 dX7_cloneRow_29 (by decide) ?_
          refine tv_putI C (pc := 33) dX7_cloneRow_33 fp_X7_3 (ts_live (k := 30) (by decide) (by decide) (by decide)) rfl (cd := 0) rfl (by decide) rfl rfl ?_
          refine tv_nu (fun u22 hu22 => ?_)
          have h := ts_lt h hu22
          refine tv_aload_n C (pc := 36) dX7_cloneRow_36 rfl rfl ?_
          refine tv_getI C (pc := 37) dX7_cloneRow_37 fl_X7_3 (ts_live (k := 30) (by decide) (by decide) (by decide)) rfl (cd := 0) rfl (by decide) ?_
          refine tv_if_eq C (pc := 40) 45 dX7_cloneRow_40 (by decide) (fun hc => ?_) (fun hc => ?_)
          · have h := ts_ifp h hc
            refine tv_aload_n C (pc := 45) dX7_cloneRow_45 rfl rfl ?_
            refine tv_iload_n C (pc := 46) dX7_cloneRow_46 rfl rfl ?_
            refine tv_iload_n C (pc := 47) dX7_cloneRow_47 rfl rfl ?_
            obtain ⟨q23, hq23, h⟩ := ts_bd h
            refine tv_callV C (pc := 48) dX7_cloneRow_48 (ci := 7) (q := (RX7, TX7, 37)) rfl yl_X7_251 (m_X7_copyElements (D := D) (dT := dT) (sz := sz) (ad := ad) hl p1 p2 u22 q23 hq23) (ts_live (k := 30) (by decide) (by decide) (by decide)) rfl (Nat.le_trans (Nat.le_of_ble_eq_true rfl) hdd) (As := [.inl (.int p1), .inl (.int p2)]) rfl ⟨Nat.le_of_ble_eq_true rfl, Nat.le_of_ble_eq_true rfl⟩ (fun _ => Nat.le_of_ble_eq_true rfl) rfl ?_
            refine tv_aload_n C (pc := 51) dX7_cloneRow_51 rfl rfl ?_
            refine tv_getR C (pc := 52) dX7_cloneRow_52 fl_X7_68 (ts_live (k := 30) (by decide) (by decide) (by decide)) rfl rfl (i2 := (45, 0, 0)) rfl ?_
            refine tv_iload_n C (pc := 55) dX7_cloneRow_55 rfl rfl ?_
            refine tv_aload_n C (pc := 56) dX7_cloneRow_56 rfl rfl ?_
            refine tv_getR C (pc := 57) dX7_cloneRow_57 fl_X7_68 (ts_live (k := 30) (by decide) (by decide) (by decide)) rfl rfl (i2 := (45, 0, 0)) rfl ?_
            refine tv_iload_n C (pc := 60) dX7_cloneRow_60 rfl rfl ?_
            obtain ⟨hr24, h⟩ := ts_gd h
            refine tv_iaload C (pc := 61) dX7_cloneRow_61 (ts_live (k := 45) (by decide) (by decide) (by decide)) rfl hr24 (j := p1.toNatClampNeg) rfl ?_
            obtain ⟨hr25, h⟩ := ts_gd h
            refine tv_iastore C (pc := 62) dX7_cloneRow_62 (ts_live (k := 45) (by decide) (by decide) (by decide)) rfl hr25 (j := p2.toNatClampNeg) rfl ?_
            refine tv_nu (fun u26 hu26 => ?_)
            have h := ts_lt h hu26
            refine tv_aload_n C (pc := 63) dX7_cloneRow_63 rfl rfl ?_
            refine tv_getR C (pc := 64) dX7_cloneRow_64 fl_X7_71 (ts_live (k := 30) (by decide) (by decide) (by decide)) rfl rfl (i2 := (46, 0, 0)) rfl ?_
            refine tv_iload_n C (pc := 67) dX7_cloneRow_67 rfl rfl ?_
            refine tv_aload_n C (pc := 68) dX7_cloneRow_68 rfl rfl ?_
            refine tv_getR C (pc := 69) dX7_cloneRow_69 fl_X7_71 (ts_live (k := 30) (by decide) (by decide) (by decide)) rfl rfl (i2 := (46, 0, 0)) rfl ?_
            refine tv_iload_n C (pc := 72) dX7_cloneRow_72 rfl rfl ?_
            obtain ⟨hr27, h⟩ := ts_gd h
            refine tv_iaload C (pc := 73) dX7_cloneRow_73 (ts_live (k := 46) (by decide) (by decide) (by decide)) rfl hr27 (j := p1.toNatClampNeg) rfl ?_
            obtain ⟨hr28, h⟩ := ts_gd h
            refine tv_iastore C (pc := 74) dX7_cloneRow_74 (ts_live (k := 46) (by decide) (by decide) (by decide)) rfl hr28 (j := p2.toNatClampNeg) rfl ?_
            refine tv_nu (fun u29 hu29 => ?_)
            have h := ts_lt h hu29
            refine tv_aload_n C (pc := 75) dX7_cloneRow_75 rfl rfl ?_
            refine tv_getR C (pc := 76) dX7_cloneRow_76 fl_X7_71 (ts_live (k := 30) (by decide) (by decide) (by decide)) rfl rfl (i2 := (46, 0, 0)) rfl ?_
            refine tv_iload_n C (pc := 79) dX7_cloneRow_79 rfl rfl ?_
            obtain ⟨hr30, h⟩ := ts_gd h
            refine tv_iaload C (pc := 80) dX7_cloneRow_80 (ts_live (k := 46) (by decide) (by decide) (by decide)) rfl hr30 (j := p1.toNatClampNeg) rfl ?_
            cases h
            exact tv_iret C (pc := 81) rfl dX7_cloneRow_81 ⟨Nat.le_of_ble_eq_true rfl, Nat.le_of_ble_eq_true rfl⟩
          · have h := ts_ifn h hc
            refine tv_iconst C (pc := 43) dX7_cloneRow_43 (v := (0 : Int32)) rfl ?_
            cases h
            exact tv_iret C (pc := 44) rfl dX7_cloneRow_44 ⟨Nat.le_of_ble_eq_true rfl, Nat.le_of_ble_eq_true rfl⟩
      · have h := ts_ifp h hc
        refine tv_iconst C (pc := 15) dX7_cloneRow_15 (v := (1 : Int32)) rfl ?_
        refine tv_goto C (pc := 16) 33 dX7_cloneRow_16 (by decide) ?_
        refine tv_putI C (pc := 33) dX7_cloneRow_33 fp_X7_3 (ts_live (k := 30) (by decide) (by decide) (by decide)) rfl (cd := 0) rfl (by decide) rfl rfl ?_
        refine tv_nu (fun u31 hu31 => ?_)
        have h := ts_lt h hu31
        refine tv_aload_n C (pc := 36) dX7_cloneRow_36 rfl rfl ?_
        refine tv_getI C (pc := 37) dX7_cloneRow_37 fl_X7_3 (ts_live (k := 30) (by decide) (by decide) (by decide)) rfl (cd := 0) rfl (by decide) ?_
        refine tv_if_eq C (pc := 40) 45 dX7_cloneRow_40 (by decide) (fun hc => ?_) (fun hc => ?_)
        · have h := ts_ifp h hc
          refine tv_aload_n C (pc := 45) dX7_cloneRow_45 rfl rfl ?_
          refine tv_iload_n C (pc := 46) dX7_cloneRow_46 rfl rfl ?_
          refine tv_iload_n C (pc := 47) dX7_cloneRow_47 rfl rfl ?_
          obtain ⟨q32, hq32, h⟩ := ts_bd h
          refine tv_callV C (pc := 48) dX7_cloneRow_48 (ci := 7) (q := (RX7, TX7, 37)) rfl yl_X7_251 (m_X7_copyElements (D := D) (dT := dT) (sz := sz) (ad := ad) hl p1 p2 u31 q32 hq32) (ts_live (k := 30) (by decide) (by decide) (by decide)) rfl (Nat.le_trans (Nat.le_of_ble_eq_true rfl) hdd) (As := [.inl (.int p1), .inl (.int p2)]) rfl ⟨Nat.le_of_ble_eq_true rfl, Nat.le_of_ble_eq_true rfl⟩ (fun _ => Nat.le_of_ble_eq_true rfl) rfl ?_
          refine tv_aload_n C (pc := 51) dX7_cloneRow_51 rfl rfl ?_
          refine tv_getR C (pc := 52) dX7_cloneRow_52 fl_X7_68 (ts_live (k := 30) (by decide) (by decide) (by decide)) rfl rfl (i2 := (45, 0, 0)) rfl ?_
          refine tv_iload_n C (pc := 55) dX7_cloneRow_55 rfl rfl ?_
          refine tv_aload_n C (pc := 56) dX7_cloneRow_56 rfl rfl ?_
          refine tv_getR C (pc := 57) dX7_cloneRow_57 fl_X7_68 (ts_live (k := 30) (by decide) (by decide) (by decide)) rfl rfl (i2 := (45, 0, 0)) rfl ?_
          refine tv_iload_n C (pc := 60) dX7_cloneRow_60 rfl rfl ?_
          obtain ⟨hr33, h⟩ := ts_gd h
          refine tv_iaload C (pc := 61) dX7_cloneRow_61 (ts_live (k := 45) (by decide) (by decide) (by decide)) rfl hr33 (j := p1.toNatClampNeg) rfl ?_
          obtain ⟨hr34, h⟩ := ts_gd h
          refine tv_iastore C (pc := 62) dX7_cloneRow_62 (ts_live (k := 45) (by decide) (by decide) (by decide)) rfl hr34 (j := p2.toNatClampNeg) rfl ?_
          refine tv_nu (fun u35 hu35 => ?_)
          have h := ts_lt h hu35
          refine tv_aload_n C (pc := 63) dX7_cloneRow_63 rfl rfl ?_
          refine tv_getR C (pc := 64) dX7_cloneRow_64 fl_X7_71 (ts_live (k := 30) (by decide) (by decide) (by decide)) rfl rfl (i2 := (46, 0, 0)) rfl ?_
          refine tv_iload_n C (pc := 67) dX7_cloneRow_67 rfl rfl ?_
          refine tv_aload_n C (pc := 68) dX7_cloneRow_68 rfl rfl ?_
          refine tv_getR C (pc := 69) dX7_cloneRow_69 fl_X7_71 (ts_live (k := 30) (by decide) (by decide) (by decide)) rfl rfl (i2 := (46, 0, 0)) rfl ?_
          refine tv_iload_n C (pc := 72) dX7_cloneRow_72 rfl rfl ?_
          obtain ⟨hr36, h⟩ := ts_gd h
          refine tv_iaload C (pc := 73) dX7_cloneRow_73 (ts_live (k := 46) (by decide) (by decide) (by decide)) rfl hr36 (j := p1.toNatClampNeg) rfl ?_
          obtain ⟨hr37, h⟩ := ts_gd h
          refine tv_iastore C (pc := 74) dX7_cloneRow_74 (ts_live (k := 46) (by decide) (by decide) (by decide)) rfl hr37 (j := p2.toNatClampNeg) rfl ?_
          refine tv_nu (fun u38 hu38 => ?_)
          have h := ts_lt h hu38
          refine tv_aload_n C (pc := 75) dX7_cloneRow_75 rfl rfl ?_
          refine tv_getR C (pc := 76) dX7_cloneRow_76 fl_X7_71 (ts_live (k := 30) (by decide) (by decide) (by decide)) rfl rfl (i2 := (46, 0, 0)) rfl ?_
          refine tv_iload_n C (pc := 79) dX7_cloneRow_79 rfl rfl ?_
          obtain ⟨hr39, h⟩ := ts_gd h
          refine tv_iaload C (pc := 80) dX7_cloneRow_80 (ts_live (k := 46) (by decide) (by decide) (by decide)) rfl hr39 (j := p1.toNatClampNeg) rfl ?_
          cases h
          exact tv_iret C (pc := 81) rfl dX7_cloneRow_81 ⟨Nat.le_of_ble_eq_true rfl, Nat.le_of_ble_eq_true rfl⟩
        · have h := ts_ifn h hc
          refine tv_iconst C (pc := 43) dX7_cloneRow_43 (v := (0 : Int32)) rfl ?_
          cases h
          exact tv_iret C (pc := 44) rfl dX7_cloneRow_44 ⟨Nat.le_of_ble_eq_true rfl, Nat.le_of_ble_eq_true rfl⟩
set_option maxRecDepth 100000 in
set_option maxHeartbeats 4000000 in
theorem m_X7_copyRow {l : Launch} {D : va_G} {dT : Nat → ClassId} {sz : Nat} {ad : ts_I → Nat} (hl : l.stackTraces = false) (p1 : Int32) (p2 : Int32) (u : ts_Mem) (r : (Int32 × ts_Mem)) (h : f_X7_copyRow p1 p2 u = some r) : ts_M l D dT sz yX7_copyRow wX7_copyRow 2 0 0 ad ts_lv ts_R0 [.inr (30, 0, 0), .inl (.int p1), .inl (.int p2)] u (.inl (some (.int r.1))) r.2 := by
    unfold f_X7_copyRow at h
    refine ts_enter hl (by decide) rfl rfl (Nat.le_of_ble_eq_true rfl) ?_
    intro p e s m args below meth c C hX hnm
    have C : ts_CX D dT sz p l (ts_rm 2 0 0) s m args meth c RX7 cX7_copyRow 3 (some .int) 2 := C
    have hdd : 2 ≤ 2 := Nat.le_refl _
    refine tv_aload_n C (pc := 0) dX7_copyRow_0 rfl rfl ?_
    refine tv_iload_n C (pc := 1) dX7_copyRow_1 rfl rfl ?_
    obtain ⟨q1, hq1, h⟩ := ts_bd h
    refine tv_callS C (pc := 2) dX7_copyRow_2 yl_X7_248 (m_X7_isSlot (D := D) (dT := dT) (sz := sz) (ad := ad) hl p1 u q1 hq1) (Nat.le_trans (Nat.le_of_ble_eq_true rfl) hdd) (As := [.inl (.int p1)]) rfl ⟨Nat.le_of_ble_eq_true rfl, Nat.le_of_ble_eq_true rfl⟩ (fun _ => Nat.le_of_ble_eq_true rfl) rfl ?_
    refine tv_if_eq C (pc := 5) 15 dX7_copyRow_5 (by decide) (fun hc => ?_) (fun hc => ?_)
    · have h := ts_ifp h hc
      refine tv_iconst C (pc := 15) dX7_copyRow_15 (v := (1 : Int32)) rfl ?_
      refine tv_goto C (pc := 16) 80 dX7_copyRow_16 (by decide) ?_
      refine tv_putI C (pc := 80) dX7_copyRow_80 fp_X7_3 (ts_live (k := 30) (by decide) (by decide) (by decide)) rfl (cd := 0) rfl (by decide) rfl rfl ?_
      refine tv_nu (fun u2 hu2 => ?_)
      have h := ts_lt h hu2
      refine tv_aload_n C (pc := 83) dX7_copyRow_83 rfl rfl ?_
      refine tv_getI C (pc := 84) dX7_copyRow_84 fl_X7_3 (ts_live (k := 30) (by decide) (by decide) (by decide)) rfl (cd := 0) rfl (by decide) ?_
      refine tv_if_eq C (pc := 87) 92 dX7_copyRow_87 (by decide) (fun hc => ?_) (fun hc => ?_)
      · have h := ts_ifp h hc
        refine tv_aload_n C (pc := 92) dX7_copyRow_92 rfl rfl ?_
        refine tv_iload_n C (pc := 93) dX7_copyRow_93 rfl rfl ?_
        refine tv_iload_n C (pc := 94) dX7_copyRow_94 rfl rfl ?_
        obtain ⟨q3, hq3, h⟩ := ts_bd h
        refine tv_callV C (pc := 95) dX7_copyRow_95 (ci := 7) (q := (RX7, TX7, 37)) rfl yl_X7_251 (m_X7_copyElements (D := D) (dT := dT) (sz := sz) (ad := ad) hl p1 p2 u2 q3 hq3) (ts_live (k := 30) (by decide) (by decide) (by decide)) rfl (Nat.le_trans (Nat.le_of_ble_eq_true rfl) hdd) (As := [.inl (.int p1), .inl (.int p2)]) rfl ⟨Nat.le_of_ble_eq_true rfl, Nat.le_of_ble_eq_true rfl⟩ (fun _ => Nat.le_of_ble_eq_true rfl) rfl ?_
        refine tv_aload_n C (pc := 98) dX7_copyRow_98 rfl rfl ?_
        refine tv_getR C (pc := 99) dX7_copyRow_99 fl_X7_71 (ts_live (k := 30) (by decide) (by decide) (by decide)) rfl rfl (i2 := (46, 0, 0)) rfl ?_
        refine tv_iload_n C (pc := 102) dX7_copyRow_102 rfl rfl ?_
        obtain ⟨hr4, h⟩ := ts_gd h
        refine tv_iaload C (pc := 103) dX7_copyRow_103 (ts_live (k := 46) (by decide) (by decide) (by decide)) rfl hr4 (j := p1.toNatClampNeg) rfl ?_
        cases h
        exact tv_iret C (pc := 104) rfl dX7_copyRow_104 ⟨Nat.le_of_ble_eq_true rfl, Nat.le_of_ble_eq_true rfl⟩
      · have h := ts_ifn h hc
        refine tv_iconst C (pc := 90) dX7_copyRow_90 (v := (0 : Int32)) rfl ?_
        cases h
        exact tv_iret C (pc := 91) rfl dX7_copyRow_91 ⟨Nat.le_of_ble_eq_true rfl, Nat.le_of_ble_eq_true rfl⟩
    · have h := ts_ifn h hc
      refine tv_iload_n C (pc := 8) dX7_copyRow_8 rfl rfl ?_
      obtain ⟨q5, hq5, h⟩ := ts_bd h
      refine tv_callS C (pc := 9) dX7_copyRow_9 yl_X7_248 (m_X7_isSlot (D := D) (dT := dT) (sz := sz) (ad := ad) hl p2 u q5 hq5) (Nat.le_trans (Nat.le_of_ble_eq_true rfl) hdd) (As := [.inl (.int p2)]) rfl ⟨Nat.le_of_ble_eq_true rfl, Nat.le_of_ble_eq_true rfl⟩ (fun _ => Nat.le_of_ble_eq_true rfl) rfl ?_
      refine tv_if_ne C (pc := 12) 19 dX7_copyRow_12 (by decide) (fun hc => ?_) (fun hc => ?_)
      · have h := ts_ifn h hc
        refine tv_aload_n C (pc := 19) dX7_copyRow_19 rfl rfl ?_
        refine tv_getR C (pc := 20) dX7_copyRow_20 fl_X7_68 (ts_live (k := 30) (by decide) (by decide) (by decide)) rfl rfl (i2 := (45, 0, 0)) rfl ?_
        refine tv_iload_n C (pc := 23) dX7_copyRow_23 rfl rfl ?_
        obtain ⟨hr6, h⟩ := ts_gd h
        refine tv_iaload C (pc := 24) dX7_copyRow_24 (ts_live (k := 45) (by decide) (by decide) (by decide)) rfl hr6 (j := p1.toNatClampNeg) rfl ?_
        refine tv_if_lt C (pc := 25) 37 dX7_copyRow_25 (by decide) (fun hc => ?_) (fun hc => ?_)
        · have h := ts_ifp h hc
          refine tv_iconst C (pc := 37) dX7_copyRow_37 (v := (2 : Int32)) rfl ?_
          refine tv_goto C (pc := 38) 80 dX7_copyRow_38 (by decide) ?_
          refine tv_putI C (pc := 80) dX7_copyRow_80 fp_X7_3 (ts_live (k := 30) (by decide) (by decide) (by decide)) rfl (cd := 0) rfl (by decide) rfl rfl ?_
          refine tv_nu (fun u7 hu7 => ?_)
          have h := ts_lt h hu7
          refine tv_aload_n C (pc := 83) dX7_copyRow_83 rfl rfl ?_
          refine tv_getI C (pc := 84) dX7_copyRow_84 fl_X7_3 (ts_live (k := 30) (by decide) (by decide) (by decide)) rfl (cd := 0) rfl (by decide) ?_
          refine tv_if_eq C (pc := 87) 92 dX7_copyRow_87 (by decide) (fun hc => ?_) (fun hc => ?_)
          · have h := ts_ifp h hc
            refine tv_aload_n C (pc := 92) dX7_copyRow_92 rfl rfl ?_
            refine tv_iload_n C (pc := 93) dX7_copyRow_93 rfl rfl ?_
            refine tv_iload_n C (pc := 94) dX7_copyRow_94 rfl rfl ?_
            obtain ⟨q8, hq8, h⟩ := ts_bd h
            refine tv_callV C (pc := 95) dX7_copyRow_95 (ci := 7) (q := (RX7, TX7, 37)) rfl yl_X7_251 (m_X7_copyElements (D := D) (dT := dT) (sz := sz) (ad := ad) hl p1 p2 u7 q8 hq8) (ts_live (k := 30) (by decide) (by decide) (by decide)) rfl (Nat.le_trans (Nat.le_of_ble_eq_true rfl) hdd) (As := [.inl (.int p1), .inl (.int p2)]) rfl ⟨Nat.le_of_ble_eq_true rfl, Nat.le_of_ble_eq_true rfl⟩ (fun _ => Nat.le_of_ble_eq_true rfl) rfl ?_
            refine tv_aload_n C (pc := 98) dX7_copyRow_98 rfl rfl ?_
            refine tv_getR C (pc := 99) dX7_copyRow_99 fl_X7_71 (ts_live (k := 30) (by decide) (by decide) (by decide)) rfl rfl (i2 := (46, 0, 0)) rfl ?_
            refine tv_iload_n C (pc := 102) dX7_copyRow_102 rfl rfl ?_
            obtain ⟨hr9, h⟩ := ts_gd h
            refine tv_iaload C (pc := 103) dX7_copyRow_103 (ts_live (k := 46) (by decide) (by decide) (by decide)) rfl hr9 (j := p1.toNatClampNeg) rfl ?_
            cases h
            exact tv_iret C (pc := 104) rfl dX7_copyRow_104 ⟨Nat.le_of_ble_eq_true rfl, Nat.le_of_ble_eq_true rfl⟩
          · have h := ts_ifn h hc
            refine tv_iconst C (pc := 90) dX7_copyRow_90 (v := (0 : Int32)) rfl ?_
            cases h
            exact tv_iret C (pc := 91) rfl dX7_copyRow_91 ⟨Nat.le_of_ble_eq_true rfl, Nat.le_of_ble_eq_true rfl⟩
        · have h := ts_ifn h hc
          refine tv_aload_n C (pc := 28) dX7_copyRow_28 rfl rfl ?_
          refine tv_getR C (pc := 29) dX7_copyRow_29 fl_X7_68 (ts_live (k := 30) (by decide) (by decide) (by decide)) rfl rfl (i2 := (45, 0, 0)) rfl ?_
          refine tv_iload_n C (pc := 32) dX7_copyRow_32 rfl rfl ?_
          obtain ⟨hr10, h⟩ := ts_gd h
          refine tv_iaload C (pc := 33) dX7_copyRow_33 (ts_live (k := 45) (by decide) (by decide) (by decide)) rfl hr10 (j := p2.toNatClampNeg) rfl ?_
          refine tv_if_ge C (pc := 34) 41 dX7_copyRow_34 (by decide) (fun hc => ?_) (fun hc => ?_)
          · have h := ts_ifp h hc
            refine tv_aload_n C (pc := 41) dX7_copyRow_41 rfl rfl ?_
            refine tv_getR C (pc := 42) dX7_copyRow_42 fl_X7_68 (ts_live (k := 30) (by decide) (by decide) (by decide)) rfl rfl (i2 := (45, 0, 0)) rfl ?_
            refine tv_iload_n C (pc := 45) dX7_copyRow_45 rfl rfl ?_
            obtain ⟨hr11, h⟩ := ts_gd h
            refine tv_iaload C (pc := 46) dX7_copyRow_46 (ts_live (k := 45) (by decide) (by decide) (by decide)) rfl hr11 (j := p1.toNatClampNeg) rfl ?_
            refine tv_aload_n C (pc := 47) dX7_copyRow_47 rfl rfl ?_
            refine tv_getR C (pc := 48) dX7_copyRow_48 fl_X7_68 (ts_live (k := 30) (by decide) (by decide) (by decide)) rfl rfl (i2 := (45, 0, 0)) rfl ?_
            refine tv_iload_n C (pc := 51) dX7_copyRow_51 rfl rfl ?_
            obtain ⟨hr12, h⟩ := ts_gd h
            refine tv_iaload C (pc := 52) dX7_copyRow_52 (ts_live (k := 45) (by decide) (by decide) (by decide)) rfl hr12 (j := p2.toNatClampNeg) rfl ?_
            refine tv_icmp_eq C (pc := 53) 60 dX7_copyRow_53 (by decide) (fun hc => ?_) (fun hc => ?_)
            · have h := ts_ifp h hc
              refine tv_aload_n C (pc := 60) dX7_copyRow_60 rfl rfl ?_
              refine tv_getR C (pc := 61) dX7_copyRow_61 fl_X7_71 (ts_live (k := 30) (by decide) (by decide) (by decide)) rfl rfl (i2 := (46, 0, 0)) rfl ?_
              refine tv_iload_n C (pc := 64) dX7_copyRow_64 rfl rfl ?_
              obtain ⟨hr13, h⟩ := ts_gd h
              refine tv_iaload C (pc := 65) dX7_copyRow_65 (ts_live (k := 46) (by decide) (by decide) (by decide)) rfl hr13 (j := p2.toNatClampNeg) rfl ?_
              refine tv_aload_n C (pc := 66) dX7_copyRow_66 rfl rfl ?_
              refine tv_getR C (pc := 67) dX7_copyRow_67 fl_X7_71 (ts_live (k := 30) (by decide) (by decide) (by decide)) rfl rfl (i2 := (46, 0, 0)) rfl ?_
              refine tv_iload_n C (pc := 70) dX7_copyRow_70 rfl rfl ?_
              obtain ⟨hr14, h⟩ := ts_gd h
              refine tv_iaload C (pc := 71) dX7_copyRow_71 (ts_live (k := 46) (by decide) (by decide) (by decide)) rfl hr14 (j := p1.toNatClampNeg) rfl ?_
              refine tv_icmp_ge C (pc := 72) 79 dX7_copyRow_72 (by decide) (fun hc => ?_) (fun hc => ?_)
              · have h := ts_ifp h hc
                refine tv_iconst C (pc := 79) dX7_copyRow_79 (v := (0 : Int32)) rfl ?_
                refine tv_putI C (pc := 80) dX7_copyRow_80 fp_X7_3 (ts_live (k := 30) (by decide) (by decide) (by decide)) rfl (cd := 0) rfl (by decide) rfl rfl ?_
                refine tv_nu (fun u15 hu15 => ?_)
                have h := ts_lt h hu15
                refine tv_aload_n C (pc := 83) dX7_copyRow_83 rfl rfl ?_
                refine tv_getI C (pc := 84) dX7_copyRow_84 fl_X7_3 (ts_live (k := 30) (by decide) (by decide) (by decide)) rfl (cd := 0) rfl (by decide) ?_
                refine tv_if_eq C (pc := 87) 92 dX7_copyRow_87 (by decide) (fun hc => ?_) (fun hc => ?_)
                · have h := ts_ifp h hc
                  refine tv_aload_n C (pc := 92) dX7_copyRow_92 rfl rfl ?_
                  refine tv_iload_n C (pc := 93) dX7_copyRow_93 rfl rfl ?_
                  refine tv_iload_n C (pc := 94) dX7_copyRow_94 rfl rfl ?_
                  obtain ⟨q16, hq16, h⟩ := ts_bd h
                  refine tv_callV C (pc := 95) dX7_copyRow_95 (ci := 7) (q := (RX7, TX7, 37)) rfl yl_X7_251 (m_X7_copyElements (D := D) (dT := dT) (sz := sz) (ad := ad) hl p1 p2 u15 q16 hq16) (ts_live (k := 30) (by decide) (by decide) (by decide)) rfl (Nat.le_trans (Nat.le_of_ble_eq_true rfl) hdd) (As := [.inl (.int p1), .inl (.int p2)]) rfl ⟨Nat.le_of_ble_eq_true rfl, Nat.le_of_ble_eq_true rfl⟩ (fun _ => Nat.le_of_ble_eq_true rfl) rfl ?_
                  refine tv_aload_n C (pc := 98) dX7_copyRow_98 rfl rfl ?_
                  refine tv_getR C (pc := 99) dX7_copyRow_99 fl_X7_71 (ts_live (k := 30) (by decide) (by decide) (by decide)) rfl rfl (i2 := (46, 0, 0)) rfl ?_
                  refine tv_iload_n C (pc := 102) dX7_copyRow_102 rfl rfl ?_
                  obtain ⟨hr17, h⟩ := ts_gd h
                  refine tv_iaload C (pc := 103) dX7_copyRow_103 (ts_live (k := 46) (by decide) (by decide) (by decide)) rfl hr17 (j := p1.toNatClampNeg) rfl ?_
                  cases h
                  exact tv_iret C (pc := 104) rfl dX7_copyRow_104 ⟨Nat.le_of_ble_eq_true rfl, Nat.le_of_ble_eq_true rfl⟩
                · have h := ts_ifn h hc
                  refine tv_iconst C (pc := 90) dX7_copyRow_90 (v := (0 : Int32)) rfl ?_
                  cases h
                  exact tv_iret C (pc := 91) rfl dX7_copyRow_91 ⟨Nat.le_of_ble_eq_true rfl, Nat.le_of_ble_eq_true rfl⟩
              · have h := ts_ifn h hc
                refine tv_iconst C (pc := 75) dX7_copyRow_75 (v := (4 : Int32)) rfl ?_
                refine tv_goto C (pc := 76) 80 dX7_copyRow_76 (by decide) ?_
                refine tv_putI C (pc := 80) dX7_copyRow_80 fp_X7_3 (ts_live (k := 30) (by decide) (by decide) (by decide)) rfl (cd := 0) rfl (by decide) rfl rfl ?_
                refine tv_nu (fun u18 hu18 => ?_)
                have h := ts_lt h hu18
                refine tv_aload_n C (pc := 83) dX7_copyRow_83 rfl rfl ?_
                refine tv_getI C (pc := 84) dX7_copyRow_84 fl_X7_3 (ts_live (k := 30) (by decide) (by decide) (by decide)) rfl (cd := 0) rfl (by decide) ?_
                refine tv_if_eq C (pc := 87) 92 dX7_copyRow_87 (by decide) (fun hc => ?_) (fun hc => ?_)
                · have h := ts_ifp h hc
                  refine tv_aload_n C (pc := 92) dX7_copyRow_92 rfl rfl ?_
                  refine tv_iload_n C (pc := 93) dX7_copyRow_93 rfl rfl ?_
                  refine tv_iload_n C (pc := 94) dX7_copyRow_94 rfl rfl ?_
                  obtain ⟨q19, hq19, h⟩ := ts_bd h
                  refine tv_callV C (pc := 95) dX7_copyRow_95 (ci := 7) (q := (RX7, TX7, 37)) rfl yl_X7_251 (m_X7_copyElements (D := D) (dT := dT) (sz := sz) (ad := ad) hl p1 p2 u18 q19 hq19) (ts_live (k := 30) (by decide) (by decide) (by decide)) rfl (Nat.le_trans (Nat.le_of_ble_eq_true rfl) hdd) (As := [.inl (.int p1), .inl (.int p2)]) rfl ⟨Nat.le_of_ble_eq_true rfl, Nat.le_of_ble_eq_true rfl⟩ (fun _ => Nat.le_of_ble_eq_true rfl) rfl ?_
                  refine tv_aload_n C (pc := 98) dX7_copyRow_98 rfl rfl ?_
                  refine tv_getR C (pc := 99) dX7_copyRow_99 fl_X7_71 (ts_live (k := 30) (by decide) (by decide) (by decide)) rfl rfl (i2 := (46, 0, 0)) rfl ?_
                  refine tv_iload_n C (pc := 102) dX7_copyRow_102 rfl rfl ?_
                  obtain ⟨hr20, h⟩ := ts_gd h
                  refine tv_iaload C (pc := 103) dX7_copyRow_103 (ts_live (k := 46) (by decide) (by decide) (by decide)) rfl hr20 (j := p1.toNatClampNeg) rfl ?_
                  cases h
                  exact tv_iret C (pc := 104) rfl dX7_copyRow_104 ⟨Nat.le_of_ble_eq_true rfl, Nat.le_of_ble_eq_true rfl⟩
                · have h := ts_ifn h hc
                  refine tv_iconst C (pc := 90) dX7_copyRow_90 (v := (0 : Int32)) rfl ?_
                  cases h
                  exact tv_iret C (pc := 91) rfl dX7_copyRow_91 ⟨Nat.le_of_ble_eq_true rfl, Nat.le_of_ble_eq_true rfl⟩
            · have h := ts_ifn h hc
              refine tv_iconst C (pc := 56) dX7_copyRow_56 (v := (3 : Int32)) rfl ?_
              refine tv_goto C (pc := 57) 80 dX7_copyRow_57 (by decide) ?_
              refine tv_putI C (pc := 80) dX7_copyRow_80 fp_X7_3 (ts_live (k := 30) (by decide) (by decide) (by decide)) rfl (cd := 0) rfl (by decide) rfl rfl ?_
              refine tv_nu (fun u21 hu21 => ?_)
              have h := ts_lt h hu21
              refine tv_aload_n C (pc := 83) dX7_copyRow_83 rfl rfl ?_
              refine tv_getI C (pc := 84) dX7_copyRow_84 fl_X7_3 (ts_live (k := 30) (by decide) (by decide) (by decide)) rfl (cd := 0) rfl (by decide) ?_
              refine tv_if_eq C (pc := 87) 92 dX7_copyRow_87 (by decide) (fun hc => ?_) (fun hc => ?_)
              · have h := ts_ifp h hc
                refine tv_aload_n C (pc := 92) dX7_copyRow_92 rfl rfl ?_
                refine tv_iload_n C (pc := 93) dX7_copyRow_93 rfl rfl ?_
                refine tv_iload_n C (pc := 94) dX7_copyRow_94 rfl rfl ?_
                obtain ⟨q22, hq22, h⟩ := ts_bd h
                refine tv_callV C (pc := 95) dX7_copyRow_95 (ci := 7) (q := (RX7, TX7, 37)) rfl yl_X7_251 (m_X7_copyElements (D := D) (dT := dT) (sz := sz) (ad := ad) hl p1 p2 u21 q22 hq22) (ts_live (k := 30) (by decide) (by decide) (by decide)) rfl (Nat.le_trans (Nat.le_of_ble_eq_true rfl) hdd) (As := [.inl (.int p1), .inl (.int p2)]) rfl ⟨Nat.le_of_ble_eq_true rfl, Nat.le_of_ble_eq_true rfl⟩ (fun _ => Nat.le_of_ble_eq_true rfl) rfl ?_
                refine tv_aload_n C (pc := 98) dX7_copyRow_98 rfl rfl ?_
                refine tv_getR C (pc := 99) dX7_copyRow_99 fl_X7_71 (ts_live (k := 30) (by decide) (by decide) (by decide)) rfl rfl (i2 := (46, 0, 0)) rfl ?_
                refine tv_iload_n C (pc := 102) dX7_copyRow_102 rfl rfl ?_
                obtain ⟨hr23, h⟩ := ts_gd h
                refine tv_iaload C (pc := 103) dX7_copyRow_103 (ts_live (k := 46) (by decide) (by decide) (by decide)) rfl hr23 (j := p1.toNatClampNeg) rfl ?_
                cases h
                exact tv_iret C (pc := 104) rfl dX7_copyRow_104 ⟨Nat.le_of_ble_eq_true rfl, Nat.le_of_ble_eq_true rfl⟩
              · have h := ts_ifn h hc
                refine tv_iconst C (pc := 90) dX7_copyRow_90 (v := (0 : Int32)) rfl ?_
                cases h
                exact tv_iret C (pc := 91) rfl dX7_copyRow_91 ⟨Nat.le_of_ble_eq_true rfl, Nat.le_of_ble_eq_true rfl⟩
          · have h := ts_ifn h hc
            refine tv_iconst C (pc := 37) dX7_copyRow_37 (v := (2 : Int32)) rfl ?_
            refine tv_goto C (pc := 38) 80 dX7_copyRow_38 (by decide) ?_
            refine tv_putI C (pc := 80) dX7_copyRow_80 fp_X7_3 (ts_live (k := 30) (by decide) (by decide) (by decide)) rfl (cd := 0) rfl (by decide) rfl rfl ?_
            refine tv_nu (fun u24 hu24 => ?_)
            have h := ts_lt h hu24
            refine tv_aload_n C (pc := 83) dX7_copyRow_83 rfl rfl ?_
            refine tv_getI C (pc := 84) dX7_copyRow_84 fl_X7_3 (ts_live (k := 30) (by decide) (by decide) (by decide)) rfl (cd := 0) rfl (by decide) ?_
            refine tv_if_eq C (pc := 87) 92 dX7_copyRow_87 (by decide) (fun hc => ?_) (fun hc => ?_)
            · have h := ts_ifp h hc
              refine tv_aload_n C (pc := 92) dX7_copyRow_92 rfl rfl ?_
              refine tv_iload_n C (pc := 93) dX7_copyRow_93 rfl rfl ?_
              refine tv_iload_n C (pc := 94) dX7_copyRow_94 rfl rfl ?_
              obtain ⟨q25, hq25, h⟩ := ts_bd h
              refine tv_callV C (pc := 95) dX7_copyRow_95 (ci := 7) (q := (RX7, TX7, 37)) rfl yl_X7_251 (m_X7_copyElements (D := D) (dT := dT) (sz := sz) (ad := ad) hl p1 p2 u24 q25 hq25) (ts_live (k := 30) (by decide) (by decide) (by decide)) rfl (Nat.le_trans (Nat.le_of_ble_eq_true rfl) hdd) (As := [.inl (.int p1), .inl (.int p2)]) rfl ⟨Nat.le_of_ble_eq_true rfl, Nat.le_of_ble_eq_true rfl⟩ (fun _ => Nat.le_of_ble_eq_true rfl) rfl ?_
              refine tv_aload_n C (pc := 98) dX7_copyRow_98 rfl rfl ?_
              refine tv_getR C (pc := 99) dX7_copyRow_99 fl_X7_71 (ts_live (k := 30) (by decide) (by decide) (by decide)) rfl rfl (i2 := (46, 0, 0)) rfl ?_
              refine tv_iload_n C (pc := 102) dX7_copyRow_102 rfl rfl ?_
              obtain ⟨hr26, h⟩ := ts_gd h
              refine tv_iaload C (pc := 103) dX7_copyRow_103 (ts_live (k := 46) (by decide) (by decide) (by decide)) rfl hr26 (j := p1.toNatClampNeg) rfl ?_
              cases h
              exact tv_iret C (pc := 104) rfl dX7_copyRow_104 ⟨Nat.le_of_ble_eq_true rfl, Nat.le_of_ble_eq_true rfl⟩
            · have h := ts_ifn h hc
              refine tv_iconst C (pc := 90) dX7_copyRow_90 (v := (0 : Int32)) rfl ?_
              cases h
              exact tv_iret C (pc := 91) rfl dX7_copyRow_91 ⟨Nat.le_of_ble_eq_true rfl, Nat.le_of_ble_eq_true rfl⟩
      · have h := ts_ifp h hc
        refine tv_iconst C (pc := 15) dX7_copyRow_15 (v := (1 : Int32)) rfl ?_
        refine tv_goto C (pc := 16) 80 dX7_copyRow_16 (by decide) ?_
        refine tv_putI C (pc := 80) dX7_copyRow_80 fp_X7_3 (ts_live (k := 30) (by decide) (by decide) (by decide)) rfl (cd := 0) rfl (by decide) rfl rfl ?_
        refine tv_nu (fun u27 hu27 => ?_)
        have h := ts_lt h hu27
        refine tv_aload_n C (pc := 83) dX7_copyRow_83 rfl rfl ?_
        refine tv_getI C (pc := 84) dX7_copyRow_84 fl_X7_3 (ts_live (k := 30) (by decide) (by decide) (by decide)) rfl (cd := 0) rfl (by decide) ?_
        refine tv_if_eq C (pc := 87) 92 dX7_copyRow_87 (by decide) (fun hc => ?_) (fun hc => ?_)
        · have h := ts_ifp h hc
          refine tv_aload_n C (pc := 92) dX7_copyRow_92 rfl rfl ?_
          refine tv_iload_n C (pc := 93) dX7_copyRow_93 rfl rfl ?_
          refine tv_iload_n C (pc := 94) dX7_copyRow_94 rfl rfl ?_
          obtain ⟨q28, hq28, h⟩ := ts_bd h
          refine tv_callV C (pc := 95) dX7_copyRow_95 (ci := 7) (q := (RX7, TX7, 37)) rfl yl_X7_251 (m_X7_copyElements (D := D) (dT := dT) (sz := sz) (ad := ad) hl p1 p2 u27 q28 hq28) (ts_live (k := 30) (by decide) (by decide) (by decide)) rfl (Nat.le_trans (Nat.le_of_ble_eq_true rfl) hdd) (As := [.inl (.int p1), .inl (.int p2)]) rfl ⟨Nat.le_of_ble_eq_true rfl, Nat.le_of_ble_eq_true rfl⟩ (fun _ => Nat.le_of_ble_eq_true rfl) rfl ?_
          refine tv_aload_n C (pc := 98) dX7_copyRow_98 rfl rfl ?_
          refine tv_getR C (pc := 99) dX7_copyRow_99 fl_X7_71 (ts_live (k := 30) (by decide) (by decide) (by decide)) rfl rfl (i2 := (46, 0, 0)) rfl ?_
          refine tv_iload_n C (pc := 102) dX7_copyRow_102 rfl rfl ?_
          obtain ⟨hr29, h⟩ := ts_gd h
          refine tv_iaload C (pc := 103) dX7_copyRow_103 (ts_live (k := 46) (by decide) (by decide) (by decide)) rfl hr29 (j := p1.toNatClampNeg) rfl ?_
          cases h
          exact tv_iret C (pc := 104) rfl dX7_copyRow_104 ⟨Nat.le_of_ble_eq_true rfl, Nat.le_of_ble_eq_true rfl⟩
        · have h := ts_ifn h hc
          refine tv_iconst C (pc := 90) dX7_copyRow_90 (v := (0 : Int32)) rfl ?_
          cases h
          exact tv_iret C (pc := 91) rfl dX7_copyRow_91 ⟨Nat.le_of_ble_eq_true rfl, Nat.le_of_ble_eq_true rfl⟩
set_option maxRecDepth 100000 in
set_option maxHeartbeats 4000000 in
theorem m_X7_pass {l : Launch} {D : va_G} {dT : Nat → ClassId} {sz : Nat} {ad : ts_I → Nat} (hl : l.stackTraces = false) (p1 : Int32) (u : ts_Mem) (r : (Int32 × ts_Mem)) (h : f_X7_pass p1 u = some r) : ts_M l D dT sz yX7_pass wX7_pass 0 0 0 ad ts_lv ts_R0 [.inr (30, 0, 0), .inl (.int p1)] u (.inl (some (.int r.1))) r.2 := by
    unfold f_X7_pass at h
    refine ts_enter hl (by decide) rfl rfl (Nat.le_of_ble_eq_true rfl) ?_
    intro p e s m args below meth c C hX hnm
    have C : ts_CX D dT sz p l (ts_rm 0 0 0) s m args meth c RX7 cX7_pass 2 (some .int) 0 := C
    have hdd : 0 ≤ 0 := Nat.le_refl _
    refine tv_aload_n C (pc := 0) dX7_pass_0 rfl rfl ?_
    refine tv_getI C (pc := 1) dX7_pass_1 fl_X7_255 (ts_live (k := 30) (by decide) (by decide) (by decide)) rfl (cd := 2) rfl (by decide) ?_
    refine tv_if_ne C (pc := 4) 17 dX7_pass_4 (by decide) (fun hc => ?_) (fun hc => ?_)
    · have h := ts_ifn h hc
      refine tv_aload_n C (pc := 17) dX7_pass_17 rfl rfl ?_
      refine tv_dup C (pc := 18) dX7_pass_18 (fun _ => rfl) ?_
      refine tv_getI C (pc := 19) dX7_pass_19 fl_X7_259 (ts_live (k := 30) (by decide) (by decide) (by decide)) rfl (cd := 0) rfl (by decide) ?_
      refine tv_iconst C (pc := 22) dX7_pass_22 (v := (1 : Int32)) rfl ?_
      refine tv_iadd C (pc := 23) dX7_pass_23 ?_
      refine tv_putI C (pc := 24) dX7_pass_24 fp_X7_259 (ts_live (k := 30) (by decide) (by decide) (by decide)) rfl (cd := 0) rfl (by decide) rfl rfl ?_
      refine tv_nu (fun u1 hu1 => ?_)
      have h := ts_lt h hu1
      refine tv_aload_n C (pc := 27) dX7_pass_27 rfl rfl ?_
      refine tv_getR C (pc := 28) dX7_pass_28 fl_X7_81 (ts_live (k := 30) (by decide) (by decide) (by decide)) rfl rfl (i2 := (49, 0, 0)) rfl ?_
      refine tv_aload_n C (pc := 31) dX7_pass_31 rfl rfl ?_
      refine tv_getI C (pc := 32) dX7_pass_32 fl_X7_259 (ts_live (k := 30) (by decide) (by decide) (by decide)) rfl (cd := 0) rfl (by decide) ?_
      refine tv_iconst C (pc := 35) dX7_pass_35 (v := (1 : Int32)) rfl ?_
      refine tv_isub C (pc := 36) dX7_pass_36 ?_
      obtain ⟨hr2, h⟩ := ts_gd h
      refine tv_iaload C (pc := 37) dX7_pass_37 (ts_live (k := 49) (by decide) (by decide) (by decide)) rfl hr2 (j := (((ts_gI u1 (30, 0, 0) 35) - (1 : Int32))).toNatClampNeg) rfl ?_
      cases h
      exact tv_iret C (pc := 38) rfl dX7_pass_38 ⟨Nat.le_of_ble_eq_true rfl, Nat.le_of_ble_eq_true rfl⟩
    · have h := ts_ifp h hc
      refine tv_aload_n C (pc := 7) dX7_pass_7 rfl rfl ?_
      refine tv_getR C (pc := 8) dX7_pass_8 fl_X7_81 (ts_live (k := 30) (by decide) (by decide) (by decide)) rfl rfl (i2 := (49, 0, 0)) rfl ?_
      refine tv_aload_n C (pc := 11) dX7_pass_11 rfl rfl ?_
      refine tv_getI C (pc := 12) dX7_pass_12 fl_X7_259 (ts_live (k := 30) (by decide) (by decide) (by decide)) rfl (cd := 0) rfl (by decide) ?_
      refine tv_iload_n C (pc := 15) dX7_pass_15 rfl rfl ?_
      obtain ⟨hr3, h⟩ := ts_gd h
      refine tv_iastore C (pc := 16) dX7_pass_16 (ts_live (k := 49) (by decide) (by decide) (by decide)) rfl hr3 (j := ((ts_gI u (30, 0, 0) 35)).toNatClampNeg) rfl ?_
      refine tv_nu (fun u4 hu4 => ?_)
      have h := ts_lt h hu4
      refine tv_aload_n C (pc := 17) dX7_pass_17 rfl rfl ?_
      refine tv_dup C (pc := 18) dX7_pass_18 (fun _ => rfl) ?_
      refine tv_getI C (pc := 19) dX7_pass_19 fl_X7_259 (ts_live (k := 30) (by decide) (by decide) (by decide)) rfl (cd := 0) rfl (by decide) ?_
      refine tv_iconst C (pc := 22) dX7_pass_22 (v := (1 : Int32)) rfl ?_
      refine tv_iadd C (pc := 23) dX7_pass_23 ?_
      refine tv_putI C (pc := 24) dX7_pass_24 fp_X7_259 (ts_live (k := 30) (by decide) (by decide) (by decide)) rfl (cd := 0) rfl (by decide) rfl rfl ?_
      refine tv_nu (fun u5 hu5 => ?_)
      have h := ts_lt h hu5
      refine tv_aload_n C (pc := 27) dX7_pass_27 rfl rfl ?_
      refine tv_getR C (pc := 28) dX7_pass_28 fl_X7_81 (ts_live (k := 30) (by decide) (by decide) (by decide)) rfl rfl (i2 := (49, 0, 0)) rfl ?_
      refine tv_aload_n C (pc := 31) dX7_pass_31 rfl rfl ?_
      refine tv_getI C (pc := 32) dX7_pass_32 fl_X7_259 (ts_live (k := 30) (by decide) (by decide) (by decide)) rfl (cd := 0) rfl (by decide) ?_
      refine tv_iconst C (pc := 35) dX7_pass_35 (v := (1 : Int32)) rfl ?_
      refine tv_isub C (pc := 36) dX7_pass_36 ?_
      obtain ⟨hr6, h⟩ := ts_gd h
      refine tv_iaload C (pc := 37) dX7_pass_37 (ts_live (k := 49) (by decide) (by decide) (by decide)) rfl hr6 (j := (((ts_gI u5 (30, 0, 0) 35) - (1 : Int32))).toNatClampNeg) rfl ?_
      cases h
      exact tv_iret C (pc := 38) rfl dX7_pass_38 ⟨Nat.le_of_ble_eq_true rfl, Nat.le_of_ble_eq_true rfl⟩
set_option maxRecDepth 100000 in
set_option maxHeartbeats 4000000 in
theorem lt_X7_passRow_2 {D : va_G} {dT : Nat → ClassId} {sz : Nat} {p : Program} {l : Launch} {e : Env} {R : Room} {s : State} {m : MethodId} {args : Array Value} {below : List Frame} {meth : Method} {c : Code} {d : Nat} {ad : ts_I → Nat} {kk nn : Nat} {Q : State → Prop} (hl : l.stackTraces = false) (C : ts_CX D dT sz p l R s m args meth c RX7 cX7_passRow 3 none d) (hdd : 1 ≤ d) (kd kN : Nat) (hkl : (kd, 0, 0) ∈ ts_lv) (hks : ts_shp (kd, 0, 0) = .inr (0, kN)) (hkn : kk ≤ R.cells ∧ nn ≤ R.slots) : ∀ (n : Nat) (v2 : Int32) (u : ts_Mem) (q : (Int32 × ts_Mem)) (h : lp_X7_passRow_2 kd kN n v2 u = some q) (K : ts_V D dT sz p l e R s m args below meth c 3 Q ad ts_lv ts_R0 24 [some (.inr (30, 0, 0)), some (.inr (kd, 0, 0)), some (.inl (.int q.1))] [] q.2 kk nn), ts_V D dT sz p l e R s m args below meth c 3 Q ad ts_lv ts_R0 2 [some (.inr (30, 0, 0)), some (.inr (kd, 0, 0)), some (.inl (.int v2))] [] u kk nn
  | 0, _, _, _, h, _ => by cases h
  | n + 1, v2, u, q, h, K => by
      rw [lp_X7_passRow_2] at h
      refine tv_iload_n C (pc := 2) dX7_passRow_2 rfl rfl ?_
      refine tv_aload_n C (pc := 3) dX7_passRow_3 rfl rfl ?_
      refine tv_alen C (pc := 4) dX7_passRow_4 hkl hks (by decide) ?_
      refine tv_icmp_ge C (pc := 5) 24 dX7_passRow_5 (by decide) (fun hc => ?_) (fun hc => ?_)
      · have h := ts_ifp h hc
        cases h
        exact K
      · have h := ts_ifn h hc
        refine tv_aload_n C (pc := 8) dX7_passRow_8 rfl rfl ?_
        refine tv_iload_n C (pc := 9) dX7_passRow_9 rfl rfl ?_
        refine tv_aload_n C (pc := 10) dX7_passRow_10 rfl rfl ?_
        refine tv_aload_n C (pc := 11) dX7_passRow_11 rfl rfl ?_
        refine tv_iload_n C (pc := 12) dX7_passRow_12 rfl rfl ?_
        obtain ⟨hr1, h⟩ := ts_gd h
        refine tv_iaload C (pc := 13) dX7_passRow_13 hkl hks hr1 (j := v2.toNatClampNeg) rfl ?_
        obtain ⟨q2, hq2, h⟩ := ts_bd h
        refine tv_callV C (pc := 14) dX7_passRow_14 (ci := 7) (q := (RX7, TX7, 37)) rfl yl_X7_262 (m_X7_pass (D := D) (dT := dT) (sz := sz) (ad := ad) hl (ts_gI u (kd, 0, 0) v2.toNatClampNeg) u q2 hq2) (ts_live (k := 30) (by decide) (by decide) (by decide)) rfl (Nat.le_trans (Nat.le_of_ble_eq_true rfl) hdd) (As := [.inl (.int (ts_gI u (kd, 0, 0) v2.toNatClampNeg))]) rfl ⟨hkn.1, hkn.2⟩ (fun _ => Nat.le_of_ble_eq_true rfl) rfl ?_
        obtain ⟨hr3, h⟩ := ts_gd h
        refine tv_iastore C (pc := 17) dX7_passRow_17 hkl hks hr3 (j := v2.toNatClampNeg) rfl ?_
        refine tv_nu (fun u4 hu4 => ?_)
        have h := ts_lt h hu4
        refine tv_iinc C (pc := 18) dX7_passRow_18 (v := (v2 + (1 : Int32))) (L' := [some (.inr (30, 0, 0)), some (.inr (kd, 0, 0)), some (.inl (.int (v2 + (1 : Int32))))]) rfl rfl (by decide) rfl rfl ?_
        refine tv_goto C (pc := 21) 2 dX7_passRow_21 (by decide) ?_
        exact lt_X7_passRow_2 hl C hdd kd kN hkl hks hkn n (v2 + (1 : Int32)) u4 q h K
set_option maxRecDepth 100000 in
set_option maxHeartbeats 4000000 in
theorem m_X7_passRow {l : Launch} {D : va_G} {dT : Nat → ClassId} {sz : Nat} {ad : ts_I → Nat} (hl : l.stackTraces = false) (kd kN : Nat) (hkl : (kd, 0, 0) ∈ ts_lv) (hks : ts_shp (kd, 0, 0) = .inr (0, kN)) (u : ts_Mem) (r : ts_Mem) (h : f_X7_passRow kd kN u = some r) : ts_M l D dT sz yX7_passRow wX7_passRow 1 0 0 ad ts_lv ts_R0 [.inr (30, 0, 0), .inr (kd, 0, 0)] u (.inl none) r := by
    unfold f_X7_passRow at h
    refine ts_enter hl (by decide) rfl rfl (Nat.le_of_ble_eq_true rfl) ?_
    intro p e s m args below meth c C hX hnm
    have C : ts_CX D dT sz p l (ts_rm 1 0 0) s m args meth c RX7 cX7_passRow 3 none 1 := C
    have hdd : 1 ≤ 1 := Nat.le_refl _
    refine tv_iconst C (pc := 0) dX7_passRow_0 (v := (0 : Int32)) rfl ?_
    refine tv_istore_n C (pc := 1) dX7_passRow_1 (L' := [some (.inr (30, 0, 0)), some (.inr (kd, 0, 0)), some (.inl (.int (0 : Int32)))]) rfl (by decide) rfl rfl ?_
    obtain ⟨q5, hq5, h⟩ := ts_bd h
    refine lt_X7_passRow_2 hl C hdd kd kN hkl hks ⟨Nat.le_of_ble_eq_true rfl, Nat.le_of_ble_eq_true rfl⟩ ts_fu (0 : Int32) u q5 hq5 ?_
    cases h
    exact tv_vret C (pc := 24) rfl dX7_passRow_24 ⟨Nat.le_of_ble_eq_true rfl, Nat.le_of_ble_eq_true rfl⟩
set_option maxRecDepth 100000 in
set_option maxHeartbeats 4000000 in
theorem m_X7_passAll {l : Launch} {D : va_G} {dT : Nat → ClassId} {sz : Nat} {ad : ts_I → Nat} (hl : l.stackTraces = false) (p1 : Int32) (u : ts_Mem) (r : ts_Mem) (h : f_X7_passAll p1 u = some r) : ts_M l D dT sz yX7_passAll wX7_passAll 2 0 0 ad ts_lv ts_R0 [.inr (30, 0, 0), .inl (.int p1)] u (.inl none) r := by
    unfold f_X7_passAll at h
    refine ts_enter hl (by decide) rfl rfl (Nat.le_of_ble_eq_true rfl) ?_
    intro p e s m args below meth c C hX hnm
    have C : ts_CX D dT sz p l (ts_rm 2 0 0) s m args meth c RX7 cX7_passAll 2 none 2 := C
    have hdd : 2 ≤ 2 := Nat.le_refl _
    refine tv_aload_n C (pc := 0) dX7_passAll_0 rfl rfl ?_
    refine tv_iload_n C (pc := 1) dX7_passAll_1 rfl rfl ?_
    obtain ⟨hg2, h⟩ := ts_gd h
    refine tv_putI C (pc := 2) dX7_passAll_2 fp_X7_255 (ts_live (k := 30) (by decide) (by decide) (by decide)) rfl (cd := 2) rfl (by decide) (ts_nz hg2).1 (ts_nz hg2).2 ?_
    refine tv_nu (fun u1 hu1 => ?_)
    have h := ts_lt h hu1
    refine tv_aload_n C (pc := 5) dX7_passAll_5 rfl rfl ?_
    refine tv_iconst C (pc := 6) dX7_passAll_6 (v := (0 : Int32)) rfl ?_
    refine tv_putI C (pc := 7) dX7_passAll_7 fp_X7_259 (ts_live (k := 30) (by decide) (by decide) (by decide)) rfl (cd := 0) rfl (by decide) rfl rfl ?_
    refine tv_nu (fun u3 hu3 => ?_)
    have h := ts_lt h hu3
    refine tv_aload_n C (pc := 10) dX7_passAll_10 rfl rfl ?_
    refine tv_aload_n C (pc := 11) dX7_passAll_11 rfl rfl ?_
    refine tv_aload_n C (pc := 12) dX7_passAll_12 rfl rfl ?_
    refine tv_getI C (pc := 13) dX7_passAll_13 fl_X7_15 (ts_live (k := 30) (by decide) (by decide) (by decide)) rfl (cd := 0) rfl (by decide) ?_
    obtain ⟨q4, hq4, h⟩ := ts_bd h
    refine tv_callV C (pc := 16) dX7_passAll_16 (ci := 7) (q := (RX7, TX7, 37)) rfl yl_X7_262 (m_X7_pass (D := D) (dT := dT) (sz := sz) (ad := ad) hl (ts_gI u3 (30, 0, 0) 1) u3 q4 hq4) (ts_live (k := 30) (by decide) (by decide) (by decide)) rfl (Nat.le_trans (Nat.le_of_ble_eq_true rfl) hdd) (As := [.inl (.int (ts_gI u3 (30, 0, 0) 1))]) rfl ⟨Nat.le_of_ble_eq_true rfl, Nat.le_of_ble_eq_true rfl⟩ (fun _ => Nat.le_of_ble_eq_true rfl) rfl ?_
    refine tv_putI C (pc := 19) dX7_passAll_19 fp_X7_15 (ts_live (k := 30) (by decide) (by decide) (by decide)) rfl (cd := 0) rfl (by decide) rfl rfl ?_
    refine tv_nu (fun u5 hu5 => ?_)
    have h := ts_lt h hu5
    refine tv_aload_n C (pc := 22) dX7_passAll_22 rfl rfl ?_
    refine tv_aload_n C (pc := 23) dX7_passAll_23 rfl rfl ?_
    refine tv_aload_n C (pc := 24) dX7_passAll_24 rfl rfl ?_
    refine tv_getI C (pc := 25) dX7_passAll_25 fl_X7_103 (ts_live (k := 30) (by decide) (by decide) (by decide)) rfl (cd := 0) rfl (by decide) ?_
    obtain ⟨q6, hq6, h⟩ := ts_bd h
    refine tv_callV C (pc := 28) dX7_passAll_28 (ci := 7) (q := (RX7, TX7, 37)) rfl yl_X7_262 (m_X7_pass (D := D) (dT := dT) (sz := sz) (ad := ad) hl (ts_gI u5 (30, 0, 0) 2) u5 q6 hq6) (ts_live (k := 30) (by decide) (by decide) (by decide)) rfl (Nat.le_trans (Nat.le_of_ble_eq_true rfl) hdd) (As := [.inl (.int (ts_gI u5 (30, 0, 0) 2))]) rfl ⟨Nat.le_of_ble_eq_true rfl, Nat.le_of_ble_eq_true rfl⟩ (fun _ => Nat.le_of_ble_eq_true rfl) rfl ?_
    refine tv_putI C (pc := 31) dX7_passAll_31 fp_X7_103 (ts_live (k := 30) (by decide) (by decide) (by decide)) rfl (cd := 0) rfl (by decide) rfl rfl ?_
    refine tv_nu (fun u7 hu7 => ?_)
    have h := ts_lt h hu7
    refine tv_aload_n C (pc := 34) dX7_passAll_34 rfl rfl ?_
    refine tv_aload_n C (pc := 35) dX7_passAll_35 rfl rfl ?_
    refine tv_aload_n C (pc := 36) dX7_passAll_36 rfl rfl ?_
    refine tv_getI C (pc := 37) dX7_passAll_37 fl_X7_18 (ts_live (k := 30) (by decide) (by decide) (by decide)) rfl (cd := 0) rfl (by decide) ?_
    obtain ⟨q8, hq8, h⟩ := ts_bd h
    refine tv_callV C (pc := 40) dX7_passAll_40 (ci := 7) (q := (RX7, TX7, 37)) rfl yl_X7_262 (m_X7_pass (D := D) (dT := dT) (sz := sz) (ad := ad) hl (ts_gI u7 (30, 0, 0) 3) u7 q8 hq8) (ts_live (k := 30) (by decide) (by decide) (by decide)) rfl (Nat.le_trans (Nat.le_of_ble_eq_true rfl) hdd) (As := [.inl (.int (ts_gI u7 (30, 0, 0) 3))]) rfl ⟨Nat.le_of_ble_eq_true rfl, Nat.le_of_ble_eq_true rfl⟩ (fun _ => Nat.le_of_ble_eq_true rfl) rfl ?_
    refine tv_putI C (pc := 43) dX7_passAll_43 fp_X7_18 (ts_live (k := 30) (by decide) (by decide) (by decide)) rfl (cd := 0) rfl (by decide) rfl rfl ?_
    refine tv_nu (fun u9 hu9 => ?_)
    have h := ts_lt h hu9
    refine tv_aload_n C (pc := 46) dX7_passAll_46 rfl rfl ?_
    refine tv_aload_n C (pc := 47) dX7_passAll_47 rfl rfl ?_
    refine tv_aload_n C (pc := 48) dX7_passAll_48 rfl rfl ?_
    refine tv_getI C (pc := 49) dX7_passAll_49 fl_X7_106 (ts_live (k := 30) (by decide) (by decide) (by decide)) rfl (cd := 0) rfl (by decide) ?_
    obtain ⟨q10, hq10, h⟩ := ts_bd h
    refine tv_callV C (pc := 52) dX7_passAll_52 (ci := 7) (q := (RX7, TX7, 37)) rfl yl_X7_262 (m_X7_pass (D := D) (dT := dT) (sz := sz) (ad := ad) hl (ts_gI u9 (30, 0, 0) 14) u9 q10 hq10) (ts_live (k := 30) (by decide) (by decide) (by decide)) rfl (Nat.le_trans (Nat.le_of_ble_eq_true rfl) hdd) (As := [.inl (.int (ts_gI u9 (30, 0, 0) 14))]) rfl ⟨Nat.le_of_ble_eq_true rfl, Nat.le_of_ble_eq_true rfl⟩ (fun _ => Nat.le_of_ble_eq_true rfl) rfl ?_
    refine tv_putI C (pc := 55) dX7_passAll_55 fp_X7_106 (ts_live (k := 30) (by decide) (by decide) (by decide)) rfl (cd := 0) rfl (by decide) rfl rfl ?_
    refine tv_nu (fun u11 hu11 => ?_)
    have h := ts_lt h hu11
    refine tv_aload_n C (pc := 58) dX7_passAll_58 rfl rfl ?_
    refine tv_aload_n C (pc := 59) dX7_passAll_59 rfl rfl ?_
    refine tv_getR C (pc := 60) dX7_passAll_60 fl_X7_21 (ts_live (k := 30) (by decide) (by decide) (by decide)) rfl rfl (i2 := (31, 0, 0)) rfl ?_
    obtain ⟨q12, hq12, h⟩ := ts_bd h
    refine tv_callV C (pc := 63) dX7_passAll_63 (ci := 7) (q := (RX7, TX7, 37)) rfl yl_X7_265 (m_X7_passRow (D := D) (dT := dT) (sz := sz) (ad := ad) hl 31 16 (ts_live (k := 31) (by decide) (by decide) (by decide)) rfl u11 q12 hq12) (ts_live (k := 30) (by decide) (by decide) (by decide)) rfl (Nat.le_trans (Nat.le_of_ble_eq_true rfl) hdd) (As := [.inr (31, 0, 0)]) rfl ⟨Nat.le_of_ble_eq_true rfl, Nat.le_of_ble_eq_true rfl⟩ (fun _ => Nat.le_of_ble_eq_true rfl) rfl ?_
    refine tv_aload_n C (pc := 66) dX7_passAll_66 rfl rfl ?_
    refine tv_aload_n C (pc := 67) dX7_passAll_67 rfl rfl ?_
    refine tv_getR C (pc := 68) dX7_passAll_68 fl_X7_25 (ts_live (k := 30) (by decide) (by decide) (by decide)) rfl rfl (i2 := (32, 0, 0)) rfl ?_
    obtain ⟨q13, hq13, h⟩ := ts_bd h
    refine tv_callV C (pc := 71) dX7_passAll_71 (ci := 7) (q := (RX7, TX7, 37)) rfl yl_X7_265 (m_X7_passRow (D := D) (dT := dT) (sz := sz) (ad := ad) hl 32 16 (ts_live (k := 32) (by decide) (by decide) (by decide)) rfl q12 q13 hq13) (ts_live (k := 30) (by decide) (by decide) (by decide)) rfl (Nat.le_trans (Nat.le_of_ble_eq_true rfl) hdd) (As := [.inr (32, 0, 0)]) rfl ⟨Nat.le_of_ble_eq_true rfl, Nat.le_of_ble_eq_true rfl⟩ (fun _ => Nat.le_of_ble_eq_true rfl) rfl ?_
    refine tv_aload_n C (pc := 74) dX7_passAll_74 rfl rfl ?_
    refine tv_aload_n C (pc := 75) dX7_passAll_75 rfl rfl ?_
    refine tv_getR C (pc := 76) dX7_passAll_76 fl_X7_28 (ts_live (k := 30) (by decide) (by decide) (by decide)) rfl rfl (i2 := (33, 0, 0)) rfl ?_
    obtain ⟨q14, hq14, h⟩ := ts_bd h
    refine tv_callV C (pc := 79) dX7_passAll_79 (ci := 7) (q := (RX7, TX7, 37)) rfl yl_X7_265 (m_X7_passRow (D := D) (dT := dT) (sz := sz) (ad := ad) hl 33 16 (ts_live (k := 33) (by decide) (by decide) (by decide)) rfl q13 q14 hq14) (ts_live (k := 30) (by decide) (by decide) (by decide)) rfl (Nat.le_trans (Nat.le_of_ble_eq_true rfl) hdd) (As := [.inr (33, 0, 0)]) rfl ⟨Nat.le_of_ble_eq_true rfl, Nat.le_of_ble_eq_true rfl⟩ (fun _ => Nat.le_of_ble_eq_true rfl) rfl ?_
    refine tv_aload_n C (pc := 82) dX7_passAll_82 rfl rfl ?_
    refine tv_aload_n C (pc := 83) dX7_passAll_83 rfl rfl ?_
    refine tv_getR C (pc := 84) dX7_passAll_84 fl_X7_31 (ts_live (k := 30) (by decide) (by decide) (by decide)) rfl rfl (i2 := (34, 0, 0)) rfl ?_
    obtain ⟨q15, hq15, h⟩ := ts_bd h
    refine tv_callV C (pc := 87) dX7_passAll_87 (ci := 7) (q := (RX7, TX7, 37)) rfl yl_X7_265 (m_X7_passRow (D := D) (dT := dT) (sz := sz) (ad := ad) hl 34 16 (ts_live (k := 34) (by decide) (by decide) (by decide)) rfl q14 q15 hq15) (ts_live (k := 30) (by decide) (by decide) (by decide)) rfl (Nat.le_trans (Nat.le_of_ble_eq_true rfl) hdd) (As := [.inr (34, 0, 0)]) rfl ⟨Nat.le_of_ble_eq_true rfl, Nat.le_of_ble_eq_true rfl⟩ (fun _ => Nat.le_of_ble_eq_true rfl) rfl ?_
    refine tv_aload_n C (pc := 90) dX7_passAll_90 rfl rfl ?_
    refine tv_aload_n C (pc := 91) dX7_passAll_91 rfl rfl ?_
    refine tv_getR C (pc := 92) dX7_passAll_92 fl_X7_34 (ts_live (k := 30) (by decide) (by decide) (by decide)) rfl rfl (i2 := (35, 0, 0)) rfl ?_
    obtain ⟨q16, hq16, h⟩ := ts_bd h
    refine tv_callV C (pc := 95) dX7_passAll_95 (ci := 7) (q := (RX7, TX7, 37)) rfl yl_X7_265 (m_X7_passRow (D := D) (dT := dT) (sz := sz) (ad := ad) hl 35 16 (ts_live (k := 35) (by decide) (by decide) (by decide)) rfl q15 q16 hq16) (ts_live (k := 30) (by decide) (by decide) (by decide)) rfl (Nat.le_trans (Nat.le_of_ble_eq_true rfl) hdd) (As := [.inr (35, 0, 0)]) rfl ⟨Nat.le_of_ble_eq_true rfl, Nat.le_of_ble_eq_true rfl⟩ (fun _ => Nat.le_of_ble_eq_true rfl) rfl ?_
    refine tv_aload_n C (pc := 98) dX7_passAll_98 rfl rfl ?_
    refine tv_aload_n C (pc := 99) dX7_passAll_99 rfl rfl ?_
    refine tv_getR C (pc := 100) dX7_passAll_100 fl_X7_37 (ts_live (k := 30) (by decide) (by decide) (by decide)) rfl rfl (i2 := (36, 0, 0)) rfl ?_
    obtain ⟨q17, hq17, h⟩ := ts_bd h
    refine tv_callV C (pc := 103) dX7_passAll_103 (ci := 7) (q := (RX7, TX7, 37)) rfl yl_X7_265 (m_X7_passRow (D := D) (dT := dT) (sz := sz) (ad := ad) hl 36 1280 (ts_live (k := 36) (by decide) (by decide) (by decide)) rfl q16 q17 hq17) (ts_live (k := 30) (by decide) (by decide) (by decide)) rfl (Nat.le_trans (Nat.le_of_ble_eq_true rfl) hdd) (As := [.inr (36, 0, 0)]) rfl ⟨Nat.le_of_ble_eq_true rfl, Nat.le_of_ble_eq_true rfl⟩ (fun _ => Nat.le_of_ble_eq_true rfl) rfl ?_
    refine tv_aload_n C (pc := 106) dX7_passAll_106 rfl rfl ?_
    refine tv_aload_n C (pc := 107) dX7_passAll_107 rfl rfl ?_
    refine tv_getR C (pc := 108) dX7_passAll_108 fl_X7_40 (ts_live (k := 30) (by decide) (by decide) (by decide)) rfl rfl (i2 := (37, 0, 0)) rfl ?_
    obtain ⟨q18, hq18, h⟩ := ts_bd h
    refine tv_callV C (pc := 111) dX7_passAll_111 (ci := 7) (q := (RX7, TX7, 37)) rfl yl_X7_265 (m_X7_passRow (D := D) (dT := dT) (sz := sz) (ad := ad) hl 37 16 (ts_live (k := 37) (by decide) (by decide) (by decide)) rfl q17 q18 hq18) (ts_live (k := 30) (by decide) (by decide) (by decide)) rfl (Nat.le_trans (Nat.le_of_ble_eq_true rfl) hdd) (As := [.inr (37, 0, 0)]) rfl ⟨Nat.le_of_ble_eq_true rfl, Nat.le_of_ble_eq_true rfl⟩ (fun _ => Nat.le_of_ble_eq_true rfl) rfl ?_
    refine tv_aload_n C (pc := 114) dX7_passAll_114 rfl rfl ?_
    refine tv_aload_n C (pc := 115) dX7_passAll_115 rfl rfl ?_
    refine tv_getR C (pc := 116) dX7_passAll_116 fl_X7_43 (ts_live (k := 30) (by decide) (by decide) (by decide)) rfl rfl (i2 := (38, 0, 0)) rfl ?_
    obtain ⟨q19, hq19, h⟩ := ts_bd h
    refine tv_callV C (pc := 119) dX7_passAll_119 (ci := 7) (q := (RX7, TX7, 37)) rfl yl_X7_265 (m_X7_passRow (D := D) (dT := dT) (sz := sz) (ad := ad) hl 38 8 (ts_live (k := 38) (by decide) (by decide) (by decide)) rfl q18 q19 hq19) (ts_live (k := 30) (by decide) (by decide) (by decide)) rfl (Nat.le_trans (Nat.le_of_ble_eq_true rfl) hdd) (As := [.inr (38, 0, 0)]) rfl ⟨Nat.le_of_ble_eq_true rfl, Nat.le_of_ble_eq_true rfl⟩ (fun _ => Nat.le_of_ble_eq_true rfl) rfl ?_
    refine tv_aload_n C (pc := 122) dX7_passAll_122 rfl rfl ?_
    refine tv_aload_n C (pc := 123) dX7_passAll_123 rfl rfl ?_
    refine tv_getR C (pc := 124) dX7_passAll_124 fl_X7_46 (ts_live (k := 30) (by decide) (by decide) (by decide)) rfl rfl (i2 := (39, 0, 0)) rfl ?_
    obtain ⟨q20, hq20, h⟩ := ts_bd h
    refine tv_callV C (pc := 127) dX7_passAll_127 (ci := 7) (q := (RX7, TX7, 37)) rfl yl_X7_265 (m_X7_passRow (D := D) (dT := dT) (sz := sz) (ad := ad) hl 39 640 (ts_live (k := 39) (by decide) (by decide) (by decide)) rfl q19 q20 hq20) (ts_live (k := 30) (by decide) (by decide) (by decide)) rfl (Nat.le_trans (Nat.le_of_ble_eq_true rfl) hdd) (As := [.inr (39, 0, 0)]) rfl ⟨Nat.le_of_ble_eq_true rfl, Nat.le_of_ble_eq_true rfl⟩ (fun _ => Nat.le_of_ble_eq_true rfl) rfl ?_
    refine tv_aload_n C (pc := 130) dX7_passAll_130 rfl rfl ?_
    refine tv_aload_n C (pc := 131) dX7_passAll_131 rfl rfl ?_
    refine tv_getR C (pc := 132) dX7_passAll_132 fl_X7_49 (ts_live (k := 30) (by decide) (by decide) (by decide)) rfl rfl (i2 := (40, 0, 0)) rfl ?_
    obtain ⟨q21, hq21, h⟩ := ts_bd h
    refine tv_callV C (pc := 135) dX7_passAll_135 (ci := 7) (q := (RX7, TX7, 37)) rfl yl_X7_265 (m_X7_passRow (D := D) (dT := dT) (sz := sz) (ad := ad) hl 40 150 (ts_live (k := 40) (by decide) (by decide) (by decide)) rfl q20 q21 hq21) (ts_live (k := 30) (by decide) (by decide) (by decide)) rfl (Nat.le_trans (Nat.le_of_ble_eq_true rfl) hdd) (As := [.inr (40, 0, 0)]) rfl ⟨Nat.le_of_ble_eq_true rfl, Nat.le_of_ble_eq_true rfl⟩ (fun _ => Nat.le_of_ble_eq_true rfl) rfl ?_
    refine tv_aload_n C (pc := 138) dX7_passAll_138 rfl rfl ?_
    refine tv_aload_n C (pc := 139) dX7_passAll_139 rfl rfl ?_
    refine tv_getR C (pc := 140) dX7_passAll_140 fl_X7_52 (ts_live (k := 30) (by decide) (by decide) (by decide)) rfl rfl (i2 := (41, 0, 0)) rfl ?_
    obtain ⟨q22, hq22, h⟩ := ts_bd h
    refine tv_callV C (pc := 143) dX7_passAll_143 (ci := 7) (q := (RX7, TX7, 37)) rfl yl_X7_265 (m_X7_passRow (D := D) (dT := dT) (sz := sz) (ad := ad) hl 41 9 (ts_live (k := 41) (by decide) (by decide) (by decide)) rfl q21 q22 hq22) (ts_live (k := 30) (by decide) (by decide) (by decide)) rfl (Nat.le_trans (Nat.le_of_ble_eq_true rfl) hdd) (As := [.inr (41, 0, 0)]) rfl ⟨Nat.le_of_ble_eq_true rfl, Nat.le_of_ble_eq_true rfl⟩ (fun _ => Nat.le_of_ble_eq_true rfl) rfl ?_
    cases h
    exact tv_vret C (pc := 146) rfl dX7_passAll_146 ⟨Nat.le_of_ble_eq_true rfl, Nat.le_of_ble_eq_true rfl⟩
set_option maxRecDepth 100000 in
set_option maxHeartbeats 4000000 in
theorem m_X7_snapshot {l : Launch} {D : va_G} {dT : Nat → ClassId} {sz : Nat} {ad : ts_I → Nat} (hl : l.stackTraces = false)  (u : ts_Mem) (r : (Int32 × ts_Mem)) (h : f_X7_snapshot  u = some r) : ts_M l D dT sz yX7_snapshot wX7_snapshot 3 0 0 ad ts_lv ts_R0 [.inr (30, 0, 0)] u (.inl (some (.int r.1))) r.2 := by
    unfold f_X7_snapshot at h
    refine ts_enter hl (by decide) rfl rfl (Nat.le_of_ble_eq_true rfl) ?_
    intro p e s m args below meth c C hX hnm
    have C : ts_CX D dT sz p l (ts_rm 3 0 0) s m args meth c RX7 cX7_snapshot 1 (some .int) 3 := C
    have hdd : 3 ≤ 3 := Nat.le_refl _
    refine tv_aload_n C (pc := 0) dX7_snapshot_0 rfl rfl ?_
    refine tv_iconst C (pc := 1) dX7_snapshot_1 (v := (0 : Int32)) rfl ?_
    refine tv_putI C (pc := 2) dX7_snapshot_2 fp_X7_3 (ts_live (k := 30) (by decide) (by decide) (by decide)) rfl (cd := 0) rfl (by decide) rfl rfl ?_
    refine tv_nu (fun u1 hu1 => ?_)
    have h := ts_lt h hu1
    refine tv_aload_n C (pc := 5) dX7_snapshot_5 rfl rfl ?_
    refine tv_iconst C (pc := 6) dX7_snapshot_6 (v := (1 : Int32)) rfl ?_
    refine tv_putI C (pc := 7) dX7_snapshot_7 fp_X7_269 (ts_live (k := 30) (by decide) (by decide) (by decide)) rfl (cd := 2) rfl (by decide) rfl rfl ?_
    refine tv_nu (fun u2 hu2 => ?_)
    have h := ts_lt h hu2
    refine tv_aload_n C (pc := 10) dX7_snapshot_10 rfl rfl ?_
    refine tv_iconst C (pc := 11) dX7_snapshot_11 (v := (0 : Int32)) rfl ?_
    obtain ⟨q3, hq3, h⟩ := ts_bd h
    refine tv_callV C (pc := 12) dX7_snapshot_12 (ci := 7) (q := (RX7, TX7, 37)) rfl yl_X7_272 (m_X7_passAll (D := D) (dT := dT) (sz := sz) (ad := ad) hl (0 : Int32) u2 q3 hq3) (ts_live (k := 30) (by decide) (by decide) (by decide)) rfl (Nat.le_trans (Nat.le_of_ble_eq_true rfl) hdd) (As := [.inl (.int (0 : Int32))]) rfl ⟨Nat.le_of_ble_eq_true rfl, Nat.le_of_ble_eq_true rfl⟩ (fun _ => Nat.le_of_ble_eq_true rfl) rfl ?_
    refine tv_aload_n C (pc := 15) dX7_snapshot_15 rfl rfl ?_
    refine tv_getI C (pc := 16) dX7_snapshot_16 fl_X7_103 (ts_live (k := 30) (by decide) (by decide) (by decide)) rfl (cd := 0) rfl (by decide) ?_
    cases h
    exact tv_iret C (pc := 19) rfl dX7_snapshot_19 ⟨Nat.le_of_ble_eq_true rfl, Nat.le_of_ble_eq_true rfl⟩
set_option maxRecDepth 100000 in
set_option maxHeartbeats 4000000 in
theorem m_X7_restore {l : Launch} {D : va_G} {dT : Nat → ClassId} {sz : Nat} {ad : ts_I → Nat} (hl : l.stackTraces = false)  (u : ts_Mem) (r : (Int32 × ts_Mem)) (h : f_X7_restore  u = some r) : ts_M l D dT sz yX7_restore wX7_restore 3 0 0 ad ts_lv ts_R0 [.inr (30, 0, 0)] u (.inl (some (.int r.1))) r.2 := by
    unfold f_X7_restore at h
    refine ts_enter hl (by decide) rfl rfl (Nat.le_of_ble_eq_true rfl) ?_
    intro p e s m args below meth c C hX hnm
    have C : ts_CX D dT sz p l (ts_rm 3 0 0) s m args meth c RX7 cX7_restore 1 (some .int) 3 := C
    have hdd : 3 ≤ 3 := Nat.le_refl _
    refine tv_aload_n C (pc := 0) dX7_restore_0 rfl rfl ?_
    refine tv_iconst C (pc := 1) dX7_restore_1 (v := (0 : Int32)) rfl ?_
    refine tv_putI C (pc := 2) dX7_restore_2 fp_X7_3 (ts_live (k := 30) (by decide) (by decide) (by decide)) rfl (cd := 0) rfl (by decide) rfl rfl ?_
    refine tv_nu (fun u1 hu1 => ?_)
    have h := ts_lt h hu1
    refine tv_aload_n C (pc := 5) dX7_restore_5 rfl rfl ?_
    refine tv_getI C (pc := 6) dX7_restore_6 fl_X7_269 (ts_live (k := 30) (by decide) (by decide) (by decide)) rfl (cd := 2) rfl (by decide) ?_
    refine tv_if_ne C (pc := 9) 18 dX7_restore_9 (by decide) (fun hc => ?_) (fun hc => ?_)
    · have h := ts_ifn h hc
      refine tv_aload_n C (pc := 18) dX7_restore_18 rfl rfl ?_
      refine tv_iconst C (pc := 19) dX7_restore_19 (v := (1 : Int32)) rfl ?_
      obtain ⟨q2, hq2, h⟩ := ts_bd h
      refine tv_callV C (pc := 20) dX7_restore_20 (ci := 7) (q := (RX7, TX7, 37)) rfl yl_X7_272 (m_X7_passAll (D := D) (dT := dT) (sz := sz) (ad := ad) hl (1 : Int32) u1 q2 hq2) (ts_live (k := 30) (by decide) (by decide) (by decide)) rfl (Nat.le_trans (Nat.le_of_ble_eq_true rfl) hdd) (As := [.inl (.int (1 : Int32))]) rfl ⟨Nat.le_of_ble_eq_true rfl, Nat.le_of_ble_eq_true rfl⟩ (fun _ => Nat.le_of_ble_eq_true rfl) rfl ?_
      refine tv_aload_n C (pc := 23) dX7_restore_23 rfl rfl ?_
      refine tv_getI C (pc := 24) dX7_restore_24 fl_X7_103 (ts_live (k := 30) (by decide) (by decide) (by decide)) rfl (cd := 0) rfl (by decide) ?_
      cases h
      exact tv_iret C (pc := 27) rfl dX7_restore_27 ⟨Nat.le_of_ble_eq_true rfl, Nat.le_of_ble_eq_true rfl⟩
    · have h := ts_ifp h hc
      refine tv_aload_n C (pc := 12) dX7_restore_12 rfl rfl ?_
      refine tv_iconst C (pc := 13) dX7_restore_13 (v := (1 : Int32)) rfl ?_
      obtain ⟨q3, hq3, h⟩ := ts_bd h
      refine tv_callV C (pc := 14) dX7_restore_14 (ci := 7) (q := (RX7, TX7, 37)) rfl yl_X7_99 (m_X7_fail (D := D) (dT := dT) (sz := sz) (ad := ad) hl (1 : Int32) u1 q3 hq3) (ts_live (k := 30) (by decide) (by decide) (by decide)) rfl (Nat.le_trans (Nat.le_of_ble_eq_true rfl) hdd) (As := [.inl (.int (1 : Int32))]) rfl ⟨Nat.le_of_ble_eq_true rfl, Nat.le_of_ble_eq_true rfl⟩ (fun _ => Nat.le_of_ble_eq_true rfl) rfl ?_
      cases h
      exact tv_iret C (pc := 17) rfl dX7_restore_17 ⟨Nat.le_of_ble_eq_true rfl, Nat.le_of_ble_eq_true rfl⟩
