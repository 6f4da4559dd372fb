set_option maxRecDepth 100000 in
set_option maxHeartbeats 4000000 in
theorem lt_X7_run_116 {D : va_G} {dT : Nat → ClassId} {sz : Nat} {p : Program} {l : Launch} {e : Env} {R : Room} {s : State} {m : MethodId} {args : Array Value} {below : List Frame} {meth : Method} {c : Code} {d : Nat} {ad : ts_I → Nat} {kk nn : Nat} {Q : State → Prop} (hl : l.stackTraces = false) (C : ts_CX D dT sz p l R s m args meth c RX7 cX7_run 3 (some .int) d) (hdd : 24 ≤ d) (c1 : Int32) (hkn : kk ≤ R.cells ∧ nn ≤ R.slots) : ∀ (n : Nat) (v2 : Int32) (u : ts_Mem) (q : (Int32 × ts_Mem)) (h : lp_X7_run_116 c1 n v2 u = some q) (K : ts_V D dT sz p l e R s m args below meth c 3 Q ad ts_lv ts_R0 173 [some (.inr (30, 0, 0)), some (.inl (.int c1)), some (.inl (.int q.1))] [] q.2 kk nn), ts_V D dT sz p l e R s m args below meth c 3 Q ad ts_lv ts_R0 116 [some (.inr (30, 0, 0)), some (.inl (.int c1)), some (.inl (.int v2))] [] u kk nn
  | 0, _, _, _, h, _ => by cases h
  | n + 1, v2, u, q, h, K => by
      rw [lp_X7_run_116] at h
      refine tv_iload_n C (pc := 116) dX7_run_116 rfl rfl ?_
      refine tv_aload_n C (pc := 117) dX7_run_117 rfl rfl ?_
      refine tv_getI C (pc := 118) dX7_run_118 fl_X7_213 (ts_live (k := 30) (by decide) (by decide) (by decide)) rfl (cd := 0) rfl (by decide) ?_
      refine tv_icmp_ge C (pc := 121) 173 dX7_run_121 (by decide) (fun hc => ?_) (fun hc => ?_)
      · have h := ts_ifp h hc
        cases h
        exact K
      · have h := ts_ifn h hc
        refine tv_aload_n C (pc := 124) dX7_run_124 rfl rfl ?_
        refine tv_getR C (pc := 125) dX7_run_125 fl_X7_21 (ts_live (k := 30) (by decide) (by decide) (by decide)) rfl rfl (i2 := (31, 0, 0)) rfl ?_
        refine tv_iload_n C (pc := 128) dX7_run_128 rfl rfl ?_
        obtain ⟨hr11, h⟩ := ts_gd h
        refine tv_iaload C (pc := 129) dX7_run_129 (ts_live (k := 31) (by decide) (by decide) (by decide)) rfl hr11 (j := c1.toNatClampNeg) rfl ?_
        refine tv_if_ne C (pc := 130) 173 dX7_run_130 (by decide) (fun hc => ?_) (fun hc => ?_)
        · have h := ts_ifn h hc
          cases h
          exact K
        · have h := ts_ifp h hc
          refine tv_aload_n C (pc := 133) dX7_run_133 rfl rfl ?_
          refine tv_iload_n C (pc := 134) dX7_run_134 rfl rfl ?_
          refine tv_aload_n C (pc := 135) dX7_run_135 rfl rfl ?_
          refine tv_getR C (pc := 136) dX7_run_136 fl_X7_62 (ts_live (k := 30) (by decide) (by decide) (by decide)) rfl rfl (i2 := (43, 0, 0)) rfl ?_
          refine tv_iconst C (pc := 139) dX7_run_139 (v := (3 : Int32)) rfl ?_
          refine tv_iload_n C (pc := 140) dX7_run_140 rfl rfl ?_
          refine tv_imul C (pc := 141) dX7_run_141 ?_
          obtain ⟨hr12, h⟩ := ts_gd h
          refine tv_iaload C (pc := 142) dX7_run_142 (ts_live (k := 43) (by decide) (by decide) (by decide)) rfl hr12 (j := (((3 : Int32) * v2)).toNatClampNeg) rfl ?_
          refine tv_aload_n C (pc := 143) dX7_run_143 rfl rfl ?_
          refine tv_getR C (pc := 144) dX7_run_144 fl_X7_62 (ts_live (k := 30) (by decide) (by decide) (by decide)) rfl rfl (i2 := (43, 0, 0)) rfl ?_
          refine tv_iconst C (pc := 147) dX7_run_147 (v := (3 : Int32)) rfl ?_
          refine tv_iload_n C (pc := 148) dX7_run_148 rfl rfl ?_
          refine tv_imul C (pc := 149) dX7_run_149 ?_
          refine tv_iconst C (pc := 150) dX7_run_150 (v := (1 : Int32)) rfl ?_
          refine tv_iadd C (pc := 151) dX7_run_151 ?_
          obtain ⟨hr13, h⟩ := ts_gd h
          refine tv_iaload C (pc := 152) dX7_run_152 (ts_live (k := 43) (by decide) (by decide) (by decide)) rfl hr13 (j := ((((3 : Int32) * v2) + (1 : Int32))).toNatClampNeg) rfl ?_
          refine tv_aload_n C (pc := 153) dX7_run_153 rfl rfl ?_
          refine tv_getR C (pc := 154) dX7_run_154 fl_X7_62 (ts_live (k := 30) (by decide) (by decide) (by decide)) rfl rfl (i2 := (43, 0, 0)) rfl ?_
          refine tv_iconst C (pc := 157) dX7_run_157 (v := (3 : Int32)) rfl ?_
          refine tv_iload_n C (pc := 158) dX7_run_158 rfl rfl ?_
          refine tv_imul C (pc := 159) dX7_run_159 ?_
          refine tv_iconst C (pc := 160) dX7_run_160 (v := (2 : Int32)) rfl ?_
          refine tv_iadd C (pc := 161) dX7_run_161 ?_
          obtain ⟨hr14, h⟩ := ts_gd h
          refine tv_iaload C (pc := 162) dX7_run_162 (ts_live (k := 43) (by decide) (by decide) (by decide)) rfl hr14 (j := ((((3 : Int32) * v2) + (2 : Int32))).toNatClampNeg) rfl ?_
          obtain ⟨q15, hq15, h⟩ := ts_bd h
          refine tv_callV C (pc := 163) dX7_run_163 (ci := 7) (q := (RX7, TX7, 37)) rfl yl_X7_183 (m_X7_ask (D := D) (dT := dT) (sz := sz) (ad := ad) hl c1 (ts_gI u (43, 0, 0) (((3 : Int32) * v2)).toNatClampNeg) (ts_gI u (43, 0, 0) ((((3 : Int32) * v2) + (1 : Int32))).toNatClampNeg) (ts_gI u (43, 0, 0) ((((3 : Int32) * v2) + (2 : Int32))).toNatClampNeg) u q15 hq15) (ts_live (k := 30) (by decide) (by decide) (by decide)) rfl (Nat.le_trans (Nat.le_of_ble_eq_true rfl) hdd) (As := [.inl (.int c1), .inl (.int (ts_gI u (43, 0, 0) (((3 : Int32) * v2)).toNatClampNeg)), .inl (.int (ts_gI u (43, 0, 0) ((((3 : Int32) * v2) + (1 : Int32))).toNatClampNeg)), .inl (.int (ts_gI u (43, 0, 0) ((((3 : Int32) * v2) + (2 : Int32))).toNatClampNeg))]) rfl ⟨hkn.1, hkn.2⟩ (fun _ => Nat.le_of_ble_eq_true rfl) rfl ?_
          refine tv_pop C (pc := 166) dX7_run_166 (fun _ => rfl) ?_
          refine tv_iinc C (pc := 167) dX7_run_167 (v := (v2 + (1 : Int32))) (L' := [some (.inr (30, 0, 0)), some (.inl (.int c1)), some (.inl (.int (v2 + (1 : Int32))))]) rfl rfl (by decide) rfl rfl ?_
          refine tv_goto C (pc := 170) 116 dX7_run_170 (by decide) ?_
          exact lt_X7_run_116 hl C hdd c1 hkn n (v2 + (1 : Int32)) q15.2 q h K
set_option maxRecDepth 100000 in
set_option maxHeartbeats 4000000 in
theorem m_X7_run {l : Launch} {D : va_G} {dT : Nat → ClassId} {sz : Nat} {ad : ts_I → Nat} (hl : l.stackTraces = false) (p1 : Int32) (u : ts_Mem) (r : (Int32 × ts_Mem)) (h : f_X7_run p1 u = some r) : ts_M l D dT sz yX7_run wX7_run 24 0 0 ad ts_lv ts_R0 [.inr (30, 0, 0), .inl (.int p1)] u (.inl (some (.int r.1))) r.2 := by
    unfold f_X7_run at h
    refine ts_enter hl (by decide) rfl rfl (Nat.le_of_ble_eq_true rfl) ?_
    intro p e s m args below meth c C hX hnm
    have C : ts_CX D dT sz p l (ts_rm 24 0 0) s m args meth c RX7 cX7_run 3 (some .int) 24 := C
    have hdd : 24 ≤ 24 := Nat.le_refl _
    refine tv_aload_n C (pc := 0) dX7_run_0 rfl rfl ?_
    refine tv_aload_n C (pc := 1) dX7_run_1 rfl rfl ?_
    refine tv_iload_n C (pc := 2) dX7_run_2 rfl rfl ?_
    obtain ⟨q1, hq1, h⟩ := ts_bd h
    refine tv_callV C (pc := 3) dX7_run_3 (ci := 7) (q := (RX7, TX7, 37)) rfl yl_X7_134 (m_X7_problem (D := D) (dT := dT) (sz := sz) (ad := ad) hl p1 u q1 hq1) (ts_live (k := 30) (by decide) (by decide) (by decide)) rfl (Nat.le_trans (Nat.le_of_ble_eq_true rfl) hdd) (As := [.inl (.int p1)]) rfl ⟨Nat.le_of_ble_eq_true rfl, Nat.le_of_ble_eq_true rfl⟩ (fun _ => Nat.le_of_ble_eq_true rfl) rfl ?_
    refine tv_putI C (pc := 6) dX7_run_6 fp_X7_3 (ts_live (k := 30) (by decide) (by decide) (by decide)) rfl (cd := 0) rfl (by decide) rfl rfl ?_
    refine tv_nu (fun u2 hu2 => ?_)
    have h := ts_lt h hu2
    refine tv_aload_n C (pc := 9) dX7_run_9 rfl rfl ?_
    refine tv_getI C (pc := 10) dX7_run_10 fl_X7_3 (ts_live (k := 30) (by decide) (by decide) (by decide)) rfl (cd := 0) rfl (by decide) ?_
    refine tv_if_eq C (pc := 13) 18 dX7_run_13 (by decide) (fun hc => ?_) (fun hc => ?_)
    · have h := ts_ifp h hc
      refine tv_aload_n C (pc := 18) dX7_run_18 rfl rfl ?_
      refine tv_aload_n C (pc := 19) dX7_run_19 rfl rfl ?_
      refine tv_getI C (pc := 20) dX7_run_20 fl_X7_187 (ts_live (k := 30) (by decide) (by decide) (by decide)) rfl (cd := 0) rfl (by decide) ?_
      refine tv_putI C (pc := 23) dX7_run_23 fp_X7_193 (ts_live (k := 30) (by decide) (by decide) (by decide)) rfl (cd := 0) rfl (by decide) rfl rfl ?_
      refine tv_nu (fun u3 hu3 => ?_)
      have h := ts_lt h hu3
      refine tv_aload_n C (pc := 26) dX7_run_26 rfl rfl ?_
      refine tv_iconst C (pc := 27) dX7_run_27 (v := (0 : Int32)) rfl ?_
      refine tv_putI C (pc := 28) dX7_run_28 fp_X7_187 (ts_live (k := 30) (by decide) (by decide) (by decide)) rfl (cd := 0) rfl (by decide) rfl rfl ?_
      refine tv_nu (fun u4 hu4 => ?_)
      have h := ts_lt h hu4
      refine tv_aload_n C (pc := 31) dX7_run_31 rfl rfl ?_
      refine tv_iconst C (pc := 32) dX7_run_32 (v := (0 : Int32)) rfl ?_
      refine tv_putI C (pc := 33) dX7_run_33 fp_X7_190 (ts_live (k := 30) (by decide) (by decide) (by decide)) rfl (cd := 0) rfl (by decide) rfl rfl ?_
      refine tv_nu (fun u5 hu5 => ?_)
      have h := ts_lt h hu5
      refine tv_aload_n C (pc := 36) dX7_run_36 rfl rfl ?_
      refine tv_iconst C (pc := 37) dX7_run_37 (v := (-1 : Int32)) rfl ?_
      refine tv_putI C (pc := 38) dX7_run_38 fp_X7_196 (ts_live (k := 30) (by decide) (by decide) (by decide)) rfl (cd := 0) rfl (by decide) rfl rfl ?_
      refine tv_nu (fun u6 hu6 => ?_)
      have h := ts_lt h hu6
      refine tv_aload_n C (pc := 41) dX7_run_41 rfl rfl ?_
      refine tv_iconst C (pc := 42) dX7_run_42 (v := (0 : Int32)) rfl ?_
      refine tv_putI C (pc := 43) dX7_run_43 fp_X7_213 (ts_live (k := 30) (by decide) (by decide) (by decide)) rfl (cd := 0) rfl (by decide) rfl rfl ?_
      refine tv_nu (fun u7 hu7 => ?_)
      have h := ts_lt h hu7
      refine tv_aload_n C (pc := 46) dX7_run_46 rfl rfl ?_
      refine tv_iconst C (pc := 47) dX7_run_47 (v := (0 : Int32)) rfl ?_
      refine tv_putI C (pc := 48) dX7_run_48 fp_X7_219 (ts_live (k := 30) (by decide) (by decide) (by decide)) rfl (cd := 0) rfl (by decide) rfl rfl ?_
      refine tv_nu (fun u8 hu8 => ?_)
      have h := ts_lt h hu8
      refine tv_aload_n C (pc := 51) dX7_run_51 rfl rfl ?_
      obtain ⟨q9, hq9, h⟩ := ts_bd h
      refine tv_callV C (pc := 52) dX7_run_52 (ci := 7) (q := (RX7, TX7, 37)) rfl yl_X7_229 (m_X7_readProgram (D := D) (dT := dT) (sz := sz) (ad := ad) hl  u8 q9 hq9) (ts_live (k := 30) (by decide) (by decide) (by decide)) rfl (Nat.le_trans (Nat.le_of_ble_eq_true rfl) hdd) (As := []) rfl ⟨Nat.le_of_ble_eq_true rfl, Nat.le_of_ble_eq_true rfl⟩ (fun _ => Nat.le_of_ble_eq_true rfl) rfl ?_
      refine tv_aload_n C (pc := 55) dX7_run_55 rfl rfl ?_
      refine tv_getI C (pc := 56) dX7_run_56 fl_X7_190 (ts_live (k := 30) (by decide) (by decide) (by decide)) rfl (cd := 0) rfl (by decide) ?_
      refine tv_aload_n C (pc := 59) dX7_run_59 rfl rfl ?_
      refine tv_getI C (pc := 60) dX7_run_60 fl_X7_193 (ts_live (k := 30) (by decide) (by decide) (by decide)) rfl (cd := 0) rfl (by decide) ?_
      refine tv_icmp_ge C (pc := 63) 70 dX7_run_63 (by decide) (fun hc => ?_) (fun hc => ?_)
      · have h := ts_ifp h hc
        refine tv_aload_n C (pc := 70) dX7_run_70 rfl rfl ?_
        refine tv_getI C (pc := 71) dX7_run_71 fl_X7_196 (ts_live (k := 30) (by decide) (by decide) (by decide)) rfl (cd := 0) rfl (by decide) ?_
        refine tv_iconst C (pc := 74) dX7_run_74 (v := (-1 : Int32)) rfl ?_
        refine tv_icmp_eq C (pc := 75) 92 dX7_run_75 (by decide) (fun hc => ?_) (fun hc => ?_)
        · have h := ts_ifp h hc
          refine tv_aload_n C (pc := 92) dX7_run_92 rfl rfl ?_
          refine tv_getR C (pc := 93) dX7_run_93 fl_X7_34 (ts_live (k := 30) (by decide) (by decide) (by decide)) rfl rfl (i2 := (35, 0, 0)) rfl ?_
          refine tv_iload_n C (pc := 96) dX7_run_96 rfl rfl ?_
          obtain ⟨hr10, h⟩ := ts_gd h
          refine tv_iaload C (pc := 97) dX7_run_97 (ts_live (k := 35) (by decide) (by decide) (by decide)) rfl hr10 (j := p1.toNatClampNeg) rfl ?_
          refine tv_aload_n C (pc := 98) dX7_run_98 rfl rfl ?_
          refine tv_getI C (pc := 99) dX7_run_99 fl_X7_213 (ts_live (k := 30) (by decide) (by decide) (by decide)) rfl (cd := 0) rfl (by decide) ?_
          refine tv_iadd C (pc := 102) dX7_run_102 ?_
          refine tv_bipush C (pc := 103) dX7_run_103 (v := (20 : Int32)) rfl ?_
          refine tv_icmp_le C (pc := 105) 114 dX7_run_105 (by decide) (fun hc => ?_) (fun hc => ?_)
          · have h := ts_ifp h hc
            refine tv_iconst C (pc := 114) dX7_run_114 (v := (0 : Int32)) rfl ?_
            refine tv_istore_n C (pc := 115) dX7_run_115 (L' := [some (.inr (30, 0, 0)), some (.inl (.int p1)), some (.inl (.int (0 : Int32)))]) rfl (by decide) rfl rfl ?_
            obtain ⟨q16, hq16, h⟩ := ts_bd h
            refine lt_X7_run_116 hl C hdd p1 ⟨Nat.le_of_ble_eq_true rfl, Nat.le_of_ble_eq_true rfl⟩ ts_fu (0 : Int32) q9 q16 hq16 ?_
            refine tv_aload_n C (pc := 173) dX7_run_173 rfl rfl ?_
            refine tv_getR C (pc := 174) dX7_run_174 fl_X7_21 (ts_live (k := 30) (by decide) (by decide) (by decide)) rfl rfl (i2 := (31, 0, 0)) rfl ?_
            refine tv_iload_n C (pc := 177) dX7_run_177 rfl rfl ?_
            obtain ⟨hr17, h⟩ := ts_gd h
            refine tv_iaload C (pc := 178) dX7_run_178 (ts_live (k := 31) (by decide) (by decide) (by decide)) rfl hr17 (j := p1.toNatClampNeg) rfl ?_
            refine tv_if_ne C (pc := 179) 199 dX7_run_179 (by decide) (fun hc => ?_) (fun hc => ?_)
            · have h := ts_ifn h hc
              refine tv_aload_n C (pc := 199) dX7_run_199 rfl rfl ?_
              refine tv_getR C (pc := 200) dX7_run_200 fl_X7_21 (ts_live (k := 30) (by decide) (by decide) (by decide)) rfl rfl (i2 := (31, 0, 0)) rfl ?_
              refine tv_iload_n C (pc := 203) dX7_run_203 rfl rfl ?_
              obtain ⟨hr18, h⟩ := ts_gd h
              refine tv_iaload C (pc := 204) dX7_run_204 (ts_live (k := 31) (by decide) (by decide) (by decide)) rfl hr18 (j := p1.toNatClampNeg) rfl ?_
              refine tv_if_ne C (pc := 205) 225 dX7_run_205 (by decide) (fun hc => ?_) (fun hc => ?_)
              · have h := ts_ifn h hc
                refine tv_iload_n C (pc := 225) dX7_run_225 rfl rfl ?_
                cases h
                exact tv_iret C (pc := 226) rfl dX7_run_226 ⟨Nat.le_of_ble_eq_true rfl, Nat.le_of_ble_eq_true rfl⟩
              · have h := ts_ifp h hc
                refine tv_aload_n C (pc := 208) dX7_run_208 rfl rfl ?_
                refine tv_getI C (pc := 209) dX7_run_209 fl_X7_219 (ts_live (k := 30) (by decide) (by decide) (by decide)) rfl (cd := 0) rfl (by decide) ?_
                refine tv_iconst C (pc := 212) dX7_run_212 (v := (2 : Int32)) rfl ?_
                refine tv_icmp_ne C (pc := 213) 225 dX7_run_213 (by decide) (fun hc => ?_) (fun hc => ?_)
                · have h := ts_ifn h hc
                  refine tv_iload_n C (pc := 225) dX7_run_225 rfl rfl ?_
                  cases h
                  exact tv_iret C (pc := 226) rfl dX7_run_226 ⟨Nat.le_of_ble_eq_true rfl, Nat.le_of_ble_eq_true rfl⟩
                · have h := ts_ifp h hc
                  refine tv_aload_n C (pc := 216) dX7_run_216 rfl rfl ?_
                  refine tv_iload_n C (pc := 217) dX7_run_217 rfl rfl ?_
                  refine tv_bipush C (pc := 218) dX7_run_218 (v := (6 : Int32)) rfl ?_
                  refine tv_iconst C (pc := 220) dX7_run_220 (v := (-1 : Int32)) rfl ?_
                  obtain ⟨q19, hq19, h⟩ := ts_bd h
                  refine tv_callV C (pc := 221) dX7_run_221 (ci := 7) (q := (RX7, TX7, 37)) rfl yl_X7_121 (m_X7_doAbort (D := D) (dT := dT) (sz := sz) (ad := ad) hl 17 p1 (6 : Int32) (-1 : Int32) q16.2 q19 hq19) (ts_live (k := 30) (by decide) (by decide) (by decide)) rfl (Nat.le_trans (Nat.le_of_ble_eq_true rfl) hdd) (As := [.inl (.int p1), .inl (.int (6 : Int32)), .inl (.int (-1 : Int32))]) rfl ⟨Nat.le_of_ble_eq_true rfl, Nat.le_of_ble_eq_true rfl⟩ (fun _ => Nat.le_of_ble_eq_true rfl) rfl ?_
                  refine tv_pop C (pc := 224) dX7_run_224 (fun _ => rfl) ?_
                  refine tv_iload_n C (pc := 225) dX7_run_225 rfl rfl ?_
                  cases h
                  exact tv_iret C (pc := 226) rfl dX7_run_226 ⟨Nat.le_of_ble_eq_true rfl, Nat.le_of_ble_eq_true rfl⟩
            · have h := ts_ifp h hc
              refine tv_aload_n C (pc := 182) dX7_run_182 rfl rfl ?_
              refine tv_getI C (pc := 183) dX7_run_183 fl_X7_219 (ts_live (k := 30) (by decide) (by decide) (by decide)) rfl (cd := 0) rfl (by decide) ?_
              refine tv_iconst C (pc := 186) dX7_run_186 (v := (1 : Int32)) rfl ?_
              refine tv_icmp_ne C (pc := 187) 199 dX7_run_187 (by decide) (fun hc => ?_) (fun hc => ?_)
              · have h := ts_ifn h hc
                refine tv_aload_n C (pc := 199) dX7_run_199 rfl rfl ?_
                refine tv_getR C (pc := 200) dX7_run_200 fl_X7_21 (ts_live (k := 30) (by decide) (by decide) (by decide)) rfl rfl (i2 := (31, 0, 0)) rfl ?_
                refine tv_iload_n C (pc := 203) dX7_run_203 rfl rfl ?_
                obtain ⟨hr20, h⟩ := ts_gd h
                refine tv_iaload C (pc := 204) dX7_run_204 (ts_live (k := 31) (by decide) (by decide) (by decide)) rfl hr20 (j := p1.toNatClampNeg) rfl ?_
                refine tv_if_ne C (pc := 205) 225 dX7_run_205 (by decide) (fun hc => ?_) (fun hc => ?_)
                · have h := ts_ifn h hc
                  refine tv_iload_n C (pc := 225) dX7_run_225 rfl rfl ?_
                  cases h
                  exact tv_iret C (pc := 226) rfl dX7_run_226 ⟨Nat.le_of_ble_eq_true rfl, Nat.le_of_ble_eq_true rfl⟩
                · have h := ts_ifp h hc
                  refine tv_aload_n C (pc := 208) dX7_run_208 rfl rfl ?_
                  refine tv_getI C (pc := 209) dX7_run_209 fl_X7_219 (ts_live (k := 30) (by decide) (by decide) (by decide)) rfl (cd := 0) rfl (by decide) ?_
                  refine tv_iconst C (pc := 212) dX7_run_212 (v := (2 : Int32)) rfl ?_
                  refine tv_icmp_ne C (pc := 213) 225 dX7_run_213 (by decide) (fun hc => ?_) (fun hc => ?_)
                  · have h := ts_ifn h hc
                    refine tv_iload_n C (pc := 225) dX7_run_225 rfl rfl ?_
                    cases h
                    exact tv_iret C (pc := 226) rfl dX7_run_226 ⟨Nat.le_of_ble_eq_true rfl, Nat.le_of_ble_eq_true rfl⟩
                  · have h := ts_ifp h hc
                    refine tv_aload_n C (pc := 216) dX7_run_216 rfl rfl ?_
                    refine tv_iload_n C (pc := 217) dX7_run_217 rfl rfl ?_
                    refine tv_bipush C (pc := 218) dX7_run_218 (v := (6 : Int32)) rfl ?_
                    refine tv_iconst C (pc := 220) dX7_run_220 (v := (-1 : Int32)) rfl ?_
                    obtain ⟨q21, hq21, h⟩ := ts_bd h
                    refine tv_callV C (pc := 221) dX7_run_221 (ci := 7) (q := (RX7, TX7, 37)) rfl yl_X7_121 (m_X7_doAbort (D := D) (dT := dT) (sz := sz) (ad := ad) hl 17 p1 (6 : Int32) (-1 : Int32) q16.2 q21 hq21) (ts_live (k := 30) (by decide) (by decide) (by decide)) rfl (Nat.le_trans (Nat.le_of_ble_eq_true rfl) hdd) (As := [.inl (.int p1), .inl (.int (6 : Int32)), .inl (.int (-1 : Int32))]) rfl ⟨Nat.le_of_ble_eq_true rfl, Nat.le_of_ble_eq_true rfl⟩ (fun _ => Nat.le_of_ble_eq_true rfl) rfl ?_
                    refine tv_pop C (pc := 224) dX7_run_224 (fun _ => rfl) ?_
                    refine tv_iload_n C (pc := 225) dX7_run_225 rfl rfl ?_
                    cases h
                    exact tv_iret C (pc := 226) rfl dX7_run_226 ⟨Nat.le_of_ble_eq_true rfl, Nat.le_of_ble_eq_true rfl⟩
              · have h := ts_ifp h hc
                refine tv_aload_n C (pc := 190) dX7_run_190 rfl rfl ?_
                refine tv_iload_n C (pc := 191) dX7_run_191 rfl rfl ?_
                obtain ⟨q22, hq22, h⟩ := ts_bd h
                refine tv_callV C (pc := 192) dX7_run_192 (ci := 7) (q := (RX7, TX7, 37)) rfl yl_X7_137 (m_X7_commits (D := D) (dT := dT) (sz := sz) (ad := ad) hl p1 q16.2 q22 hq22) (ts_live (k := 30) (by decide) (by decide) (by decide)) rfl (Nat.le_trans (Nat.le_of_ble_eq_true rfl) hdd) (As := [.inl (.int p1)]) rfl ⟨Nat.le_of_ble_eq_true rfl, Nat.le_of_ble_eq_true rfl⟩ (fun _ => Nat.le_of_ble_eq_true rfl) rfl ?_
                refine tv_pop C (pc := 195) dX7_run_195 (fun _ => rfl) ?_
                refine tv_goto C (pc := 196) 225 dX7_run_196 (by decide) ?_
                refine tv_iload_n C (pc := 225) dX7_run_225 rfl rfl ?_
                cases h
                exact tv_iret C (pc := 226) rfl dX7_run_226 ⟨Nat.le_of_ble_eq_true rfl, Nat.le_of_ble_eq_true rfl⟩
          · have h := ts_ifn h hc
            refine tv_aload_n C (pc := 108) dX7_run_108 rfl rfl ?_
            refine tv_iconst C (pc := 109) dX7_run_109 (v := (4 : Int32)) rfl ?_
            obtain ⟨q23, hq23, h⟩ := ts_bd h
            refine tv_callV C (pc := 110) dX7_run_110 (ci := 7) (q := (RX7, TX7, 37)) rfl yl_X7_99 (m_X7_fail (D := D) (dT := dT) (sz := sz) (ad := ad) hl (4 : Int32) q9 q23 hq23) (ts_live (k := 30) (by decide) (by decide) (by decide)) rfl (Nat.le_trans (Nat.le_of_ble_eq_true rfl) hdd) (As := [.inl (.int (4 : Int32))]) rfl ⟨Nat.le_of_ble_eq_true rfl, Nat.le_of_ble_eq_true rfl⟩ (fun _ => Nat.le_of_ble_eq_true rfl) rfl ?_
            cases h
            exact tv_iret C (pc := 113) rfl dX7_run_113 ⟨Nat.le_of_ble_eq_true rfl, Nat.le_of_ble_eq_true rfl⟩
        · have h := ts_ifn h hc
          refine tv_aload_n C (pc := 78) dX7_run_78 rfl rfl ?_
          refine tv_aload_n C (pc := 79) dX7_run_79 rfl rfl ?_
          refine tv_getI C (pc := 80) dX7_run_80 fl_X7_196 (ts_live (k := 30) (by decide) (by decide) (by decide)) rfl (cd := 0) rfl (by decide) ?_
          refine tv_putI C (pc := 83) dX7_run_83 fp_X7_59 (ts_live (k := 30) (by decide) (by decide) (by decide)) rfl (cd := 0) rfl (by decide) rfl rfl ?_
          refine tv_nu (fun u24 hu24 => ?_)
          have h := ts_lt h hu24
          refine tv_aload_n C (pc := 86) dX7_run_86 rfl rfl ?_
          refine tv_iconst C (pc := 87) dX7_run_87 (v := (3 : Int32)) rfl ?_
          obtain ⟨q25, hq25, h⟩ := ts_bd h
          refine tv_callV C (pc := 88) dX7_run_88 (ci := 7) (q := (RX7, TX7, 37)) rfl yl_X7_99 (m_X7_fail (D := D) (dT := dT) (sz := sz) (ad := ad) hl (3 : Int32) u24 q25 hq25) (ts_live (k := 30) (by decide) (by decide) (by decide)) rfl (Nat.le_trans (Nat.le_of_ble_eq_true rfl) hdd) (As := [.inl (.int (3 : Int32))]) rfl ⟨Nat.le_of_ble_eq_true rfl, Nat.le_of_ble_eq_true rfl⟩ (fun _ => Nat.le_of_ble_eq_true rfl) rfl ?_
          cases h
          exact tv_iret C (pc := 91) rfl dX7_run_91 ⟨Nat.le_of_ble_eq_true rfl, Nat.le_of_ble_eq_true rfl⟩
      · have h := ts_ifn h hc
        refine tv_aload_n C (pc := 66) dX7_run_66 rfl rfl ?_
        obtain ⟨q26, hq26, h⟩ := ts_bd h
        refine tv_callV C (pc := 67) dX7_run_67 (ci := 7) (q := (RX7, TX7, 37)) rfl yl_X7_203 (m_X7_fault (D := D) (dT := dT) (sz := sz) (ad := ad) hl  q9 q26 hq26) (ts_live (k := 30) (by decide) (by decide) (by decide)) rfl (Nat.le_trans (Nat.le_of_ble_eq_true rfl) hdd) (As := []) rfl ⟨Nat.le_of_ble_eq_true rfl, Nat.le_of_ble_eq_true rfl⟩ (fun _ => Nat.le_of_ble_eq_true rfl) rfl ?_
        refine tv_aload_n C (pc := 70) dX7_run_70 rfl rfl ?_
        refine tv_getI C (pc := 71) dX7_run_71 fl_X7_196 (ts_live (k := 30) (by decide) (by decide) (by decide)) rfl (cd := 0) rfl (by decide) ?_
        refine tv_iconst C (pc := 74) dX7_run_74 (v := (-1 : Int32)) rfl ?_
        refine tv_icmp_eq C (pc := 75) 92 dX7_run_75 (by decide) (fun hc => ?_) (fun hc => ?_)
        · have h := ts_ifp h hc
          refine tv_aload_n C (pc := 92) dX7_run_92 rfl rfl ?_
          refine tv_getR C (pc := 93) dX7_run_93 fl_X7_34 (ts_live (k := 30) (by decide) (by decide) (by decide)) rfl rfl (i2 := (35, 0, 0)) rfl ?_
          refine tv_iload_n C (pc := 96) dX7_run_96 rfl rfl ?_
          obtain ⟨hr27, h⟩ := ts_gd h
          refine tv_iaload C (pc := 97) dX7_run_97 (ts_live (k := 35) (by decide) (by decide) (by decide)) rfl hr27 (j := p1.toNatClampNeg) rfl ?_
          refine tv_aload_n C (pc := 98) dX7_run_98 rfl rfl ?_
          refine tv_getI C (pc := 99) dX7_run_99 fl_X7_213 (ts_live (k := 30) (by decide) (by decide) (by decide)) rfl (cd := 0) rfl (by decide) ?_
          refine tv_iadd C (pc := 102) dX7_run_102 ?_
          refine tv_bipush C (pc := 103) dX7_run_103 (v := (20 : Int32)) rfl ?_
          refine tv_icmp_le C (pc := 105) 114 dX7_run_105 (by decide) (fun hc => ?_) (fun hc => ?_)
          · have h := ts_ifp h hc
            refine tv_iconst C (pc := 114) dX7_run_114 (v := (0 : Int32)) rfl ?_
            refine tv_istore_n C (pc := 115) dX7_run_115 (L' := [some (.inr (30, 0, 0)), some (.inl (.int p1)), some (.inl (.int (0 : Int32)))]) rfl (by decide) rfl rfl ?_
            obtain ⟨q33, hq33, h⟩ := ts_bd h
            refine lt_X7_run_116 hl C hdd p1 ⟨Nat.le_of_ble_eq_true rfl, Nat.le_of_ble_eq_true rfl⟩ ts_fu (0 : Int32) q26 q33 hq33 ?_
            refine tv_aload_n C (pc := 173) dX7_run_173 rfl rfl ?_
            refine tv_getR C (pc := 174) dX7_run_174 fl_X7_21 (ts_live (k := 30) (by decide) (by decide) (by decide)) rfl rfl (i2 := (31, 0, 0)) rfl ?_
            refine tv_iload_n C (pc := 177) dX7_run_177 rfl rfl ?_
            obtain ⟨hr34, h⟩ := ts_gd h
            refine tv_iaload C (pc := 178) dX7_run_178 (ts_live (k := 31) (by decide) (by decide) (by decide)) rfl hr34 (j := p1.toNatClampNeg) rfl ?_
            refine tv_if_ne C (pc := 179) 199 dX7_run_179 (by decide) (fun hc => ?_) (fun hc => ?_)
            · have h := ts_ifn h hc
              refine tv_aload_n C (pc := 199) dX7_run_199 rfl rfl ?_
              refine tv_getR C (pc := 200) dX7_run_200 fl_X7_21 (ts_live (k := 30) (by decide) (by decide) (by decide)) rfl rfl (i2 := (31, 0, 0)) rfl ?_
              refine tv_iload_n C (pc := 203) dX7_run_203 rfl rfl ?_
              obtain ⟨hr35, h⟩ := ts_gd h
              refine tv_iaload C (pc := 204) dX7_run_204 (ts_live (k := 31) (by decide) (by decide) (by decide)) rfl hr35 (j := p1.toNatClampNeg) rfl ?_
              refine tv_if_ne C (pc := 205) 225 dX7_run_205 (by decide) (fun hc => ?_) (fun hc => ?_)
              · have h := ts_ifn h hc
                refine tv_iload_n C (pc := 225) dX7_run_225 rfl rfl ?_
                cases h
                exact tv_iret C (pc := 226) rfl dX7_run_226 ⟨Nat.le_of_ble_eq_true rfl, Nat.le_of_ble_eq_true rfl⟩
              · have h := ts_ifp h hc
                refine tv_aload_n C (pc := 208) dX7_run_208 rfl rfl ?_
                refine tv_getI C (pc := 209) dX7_run_209 fl_X7_219 (ts_live (k := 30) (by decide) (by decide) (by decide)) rfl (cd := 0) rfl (by decide) ?_
                refine tv_iconst C (pc := 212) dX7_run_212 (v := (2 : Int32)) rfl ?_
                refine tv_icmp_ne C (pc := 213) 225 dX7_run_213 (by decide) (fun hc => ?_) (fun hc => ?_)
                · have h := ts_ifn h hc
                  refine tv_iload_n C (pc := 225) dX7_run_225 rfl rfl ?_
                  cases h
                  exact tv_iret C (pc := 226) rfl dX7_run_226 ⟨Nat.le_of_ble_eq_true rfl, Nat.le_of_ble_eq_true rfl⟩
                · have h := ts_ifp h hc
                  refine tv_aload_n C (pc := 216) dX7_run_216 rfl rfl ?_
                  refine tv_iload_n C (pc := 217) dX7_run_217 rfl rfl ?_
                  refine tv_bipush C (pc := 218) dX7_run_218 (v := (6 : Int32)) rfl ?_
                  refine tv_iconst C (pc := 220) dX7_run_220 (v := (-1 : Int32)) rfl ?_
                  obtain ⟨q36, hq36, h⟩ := ts_bd h
                  refine tv_callV C (pc := 221) dX7_run_221 (ci := 7) (q := (RX7, TX7, 37)) rfl yl_X7_121 (m_X7_doAbort (D := D) (dT := dT) (sz := sz) (ad := ad) hl 17 p1 (6 : Int32) (-1 : Int32) q33.2 q36 hq36) (ts_live (k := 30) (by decide) (by decide) (by decide)) rfl (Nat.le_trans (Nat.le_of_ble_eq_true rfl) hdd) (As := [.inl (.int p1), .inl (.int (6 : Int32)), .inl (.int (-1 : Int32))]) rfl ⟨Nat.le_of_ble_eq_true rfl, Nat.le_of_ble_eq_true rfl⟩ (fun _ => Nat.le_of_ble_eq_true rfl) rfl ?_
                  refine tv_pop C (pc := 224) dX7_run_224 (fun _ => rfl) ?_
                  refine tv_iload_n C (pc := 225) dX7_run_225 rfl rfl ?_
                  cases h
                  exact tv_iret C (pc := 226) rfl dX7_run_226 ⟨Nat.le_of_ble_eq_true rfl, Nat.le_of_ble_eq_true rfl⟩
            · have h := ts_ifp h hc
              refine tv_aload_n C (pc := 182) dX7_run_182 rfl rfl ?_
              refine tv_getI C (pc := 183) dX7_run_183 fl_X7_219 (ts_live (k := 30) (by decide) (by decide) (by decide)) rfl (cd := 0) rfl (by decide) ?_
              refine tv_iconst C (pc := 186) dX7_run_186 (v := (1 : Int32)) rfl ?_
              refine tv_icmp_ne C (pc := 187) 199 dX7_run_187 (by decide) (fun hc => ?_) (fun hc => ?_)
              · have h := ts_ifn h hc
                refine tv_aload_n C (pc := 199) dX7_run_199 rfl rfl ?_
                refine tv_getR C (pc := 200) dX7_run_200 fl_X7_21 (ts_live (k := 30) (by decide) (by decide) (by decide)) rfl rfl (i2 := (31, 0, 0)) rfl ?_
                refine tv_iload_n C (pc := 203) dX7_run_203 rfl rfl ?_
                obtain ⟨hr37, h⟩ := ts_gd h
                refine tv_iaload C (pc := 204) dX7_run_204 (ts_live (k := 31) (by decide) (by decide) (by decide)) rfl hr37 (j := p1.toNatClampNeg) rfl ?_
                refine tv_if_ne C (pc := 205) 225 dX7_run_205 (by decide) (fun hc => ?_) (fun hc => ?_)
                · have h := ts_ifn h hc
                  refine tv_iload_n C (pc := 225) dX7_run_225 rfl rfl ?_
                  cases h
                  exact tv_iret C (pc := 226) rfl dX7_run_226 ⟨Nat.le_of_ble_eq_true rfl, Nat.le_of_ble_eq_true rfl⟩
                · have h := ts_ifp h hc
                  refine tv_aload_n C (pc := 208) dX7_run_208 rfl rfl ?_
                  refine tv_getI C (pc := 209) dX7_run_209 fl_X7_219 (ts_live (k := 30) (by decide) (by decide) (by decide)) rfl (cd := 0) rfl (by decide) ?_
                  refine tv_iconst C (pc := 212) dX7_run_212 (v := (2 : Int32)) rfl ?_
                  refine tv_icmp_ne C (pc := 213) 225 dX7_run_213 (by decide) (fun hc => ?_) (fun hc => ?_)
                  · have h := ts_ifn h hc
                    refine tv_iload_n C (pc := 225) dX7_run_225 rfl rfl ?_
                    cases h
                    exact tv_iret C (pc := 226) rfl dX7_run_226 ⟨Nat.le_of_ble_eq_true rfl, Nat.le_of_ble_eq_true rfl⟩
                  · have h := ts_ifp h hc
                    refine tv_aload_n C (pc := 216) dX7_run_216 rfl rfl ?_
                    refine tv_iload_n C (pc := 217) dX7_run_217 rfl rfl ?_
                    refine tv_bipush C (pc := 218) dX7_run_218 (v := (6 : Int32)) rfl ?_
                    refine tv_iconst C (pc := 220) dX7_run_220 (v := (-1 : Int32)) rfl ?_
                    obtain ⟨q38, hq38, h⟩ := ts_bd h
                    refine tv_callV C (pc := 221) dX7_run_221 (ci := 7) (q := (RX7, TX7, 37)) rfl yl_X7_121 (m_X7_doAbort (D := D) (dT := dT) (sz := sz) (ad := ad) hl 17 p1 (6 : Int32) (-1 : Int32) q33.2 q38 hq38) (ts_live (k := 30) (by decide) (by decide) (by decide)) rfl (Nat.le_trans (Nat.le_of_ble_eq_true rfl) hdd) (As := [.inl (.int p1), .inl (.int (6 : Int32)), .inl (.int (-1 : Int32))]) rfl ⟨Nat.le_of_ble_eq_true rfl, Nat.le_of_ble_eq_true rfl⟩ (fun _ => Nat.le_of_ble_eq_true rfl) rfl ?_
                    refine tv_pop C (pc := 224) dX7_run_224 (fun _ => rfl) ?_
                    refine tv_iload_n C (pc := 225) dX7_run_225 rfl rfl ?_
                    cases h
                    exact tv_iret C (pc := 226) rfl dX7_run_226 ⟨Nat.le_of_ble_eq_true rfl, Nat.le_of_ble_eq_true rfl⟩
              · have h := ts_ifp h hc
                refine tv_aload_n C (pc := 190) dX7_run_190 rfl rfl ?_
                refine tv_iload_n C (pc := 191) dX7_run_191 rfl rfl ?_
                obtain ⟨q39, hq39, h⟩ := ts_bd h
                refine tv_callV C (pc := 192) dX7_run_192 (ci := 7) (q := (RX7, TX7, 37)) rfl yl_X7_137 (m_X7_commits (D := D) (dT := dT) (sz := sz) (ad := ad) hl p1 q33.2 q39 hq39) (ts_live (k := 30) (by decide) (by decide) (by decide)) rfl (Nat.le_trans (Nat.le_of_ble_eq_true rfl) hdd) (As := [.inl (.int p1)]) rfl ⟨Nat.le_of_ble_eq_true rfl, Nat.le_of_ble_eq_true rfl⟩ (fun _ => Nat.le_of_ble_eq_true rfl) rfl ?_
                refine tv_pop C (pc := 195) dX7_run_195 (fun _ => rfl) ?_
                refine tv_goto C (pc := 196) 225 dX7_run_196 (by decide) ?_
                refine tv_iload_n C (pc := 225) dX7_run_225 rfl rfl ?_
                cases h
                exact tv_iret C (pc := 226) rfl dX7_run_226 ⟨Nat.le_of_ble_eq_true rfl, Nat.le_of_ble_eq_true rfl⟩
          · have h := ts_ifn h hc
            refine tv_aload_n C (pc := 108) dX7_run_108 rfl rfl ?_
            refine tv_iconst C (pc := 109) dX7_run_109 (v := (4 : Int32)) rfl ?_
            obtain ⟨q40, hq40, h⟩ := ts_bd h
            refine tv_callV C (pc := 110) dX7_run_110 (ci := 7) (q := (RX7, TX7, 37)) rfl yl_X7_99 (m_X7_fail (D := D) (dT := dT) (sz := sz) (ad := ad) hl (4 : Int32) q26 q40 hq40) (ts_live (k := 30) (by decide) (by decide) (by decide)) rfl (Nat.le_trans (Nat.le_of_ble_eq_true rfl) hdd) (As := [.inl (.int (4 : Int32))]) rfl ⟨Nat.le_of_ble_eq_true rfl, Nat.le_of_ble_eq_true rfl⟩ (fun _ => Nat.le_of_ble_eq_true rfl) rfl ?_
            cases h
            exact tv_iret C (pc := 113) rfl dX7_run_113 ⟨Nat.le_of_ble_eq_true rfl, Nat.le_of_ble_eq_true rfl⟩
        · have h := ts_ifn h hc
          refine tv_aload_n C (pc := 78) dX7_run_78 rfl rfl ?_
          refine tv_aload_n C (pc := 79) dX7_run_79 rfl rfl ?_
          refine tv_getI C (pc := 80) dX7_run_80 fl_X7_196 (ts_live (k := 30) (by decide) (by decide) (by decide)) rfl (cd := 0) rfl (by decide) ?_
          refine tv_putI C (pc := 83) dX7_run_83 fp_X7_59 (ts_live (k := 30) (by decide) (by decide) (by decide)) rfl (cd := 0) rfl (by decide) rfl rfl ?_
          refine tv_nu (fun u41 hu41 => ?_)
          have h := ts_lt h hu41
          refine tv_aload_n C (pc := 86) dX7_run_86 rfl rfl ?_
          refine tv_iconst C (pc := 87) dX7_run_87 (v := (3 : Int32)) rfl ?_
          obtain ⟨q42, hq42, h⟩ := ts_bd h
          refine tv_callV C (pc := 88) dX7_run_88 (ci := 7) (q := (RX7, TX7, 37)) rfl yl_X7_99 (m_X7_fail (D := D) (dT := dT) (sz := sz) (ad := ad) hl (3 : Int32) u41 q42 hq42) (ts_live (k := 30) (by decide) (by decide) (by decide)) rfl (Nat.le_trans (Nat.le_of_ble_eq_true rfl) hdd) (As := [.inl (.int (3 : Int32))]) rfl ⟨Nat.le_of_ble_eq_true rfl, Nat.le_of_ble_eq_true rfl⟩ (fun _ => Nat.le_of_ble_eq_true rfl) rfl ?_
          cases h
          exact tv_iret C (pc := 91) rfl dX7_run_91 ⟨Nat.le_of_ble_eq_true rfl, Nat.le_of_ble_eq_true rfl⟩
    · have h := ts_ifn h hc
      refine tv_iconst C (pc := 16) dX7_run_16 (v := (0 : Int32)) rfl ?_
      cases h
      exact tv_iret C (pc := 17) rfl dX7_run_17 ⟨Nat.le_of_ble_eq_true rfl, Nat.le_of_ble_eq_true rfl⟩
set_option maxRecDepth 100000 in
set_option maxHeartbeats 4000000 in
theorem m_X7_errorPosition {l : Launch} {D : va_G} {dT : Nat → ClassId} {sz : Nat} {ad : ts_I → Nat} (hl : l.stackTraces = false)  (u : ts_Mem) (r : (Int32 × ts_Mem)) (h : f_X7_errorPosition  u = some r) : ts_M l D dT sz yX7_errorPosition wX7_errorPosition 1 0 0 ad ts_lv ts_R0 [.inr (30, 0, 0)] u (.inl (some (.int r.1))) r.2 := by
    unfold f_X7_errorPosition at h
    refine ts_enter hl (by decide) rfl rfl (Nat.le_of_ble_eq_true rfl) ?_
    intro p e s m args below meth c C hX hnm
    have C : ts_CX D dT sz p l (ts_rm 1 0 0) s m args meth c RX7 cX7_errorPosition 1 (some .int) 1 := C
    have hdd : 1 ≤ 1 := Nat.le_refl _
    refine tv_aload_n C (pc := 0) dX7_errorPosition_0 rfl rfl ?_
    refine tv_iconst C (pc := 1) dX7_errorPosition_1 (v := (0 : Int32)) rfl ?_
    refine tv_putI C (pc := 2) dX7_errorPosition_2 fp_X7_3 (ts_live (k := 30) (by decide) (by decide) (by decide)) rfl (cd := 0) rfl (by decide) rfl rfl ?_
    refine tv_nu (fun u1 hu1 => ?_)
    have h := ts_lt h hu1
    refine tv_aload_n C (pc := 5) dX7_errorPosition_5 rfl rfl ?_
    refine tv_getI C (pc := 6) dX7_errorPosition_6 fl_X7_59 (ts_live (k := 30) (by decide) (by decide) (by decide)) rfl (cd := 0) rfl (by decide) ?_
    refine tv_iconst C (pc := 9) dX7_errorPosition_9 (v := (-1 : Int32)) rfl ?_
    refine tv_icmp_ne C (pc := 10) 21 dX7_errorPosition_10 (by decide) (fun hc => ?_) (fun hc => ?_)
    · have h := ts_ifn h hc
      refine tv_aload_n C (pc := 21) dX7_errorPosition_21 rfl rfl ?_
      refine tv_getI C (pc := 22) dX7_errorPosition_22 fl_X7_59 (ts_live (k := 30) (by decide) (by decide) (by decide)) rfl (cd := 0) rfl (by decide) ?_
      cases h
      exact tv_iret C (pc := 25) rfl dX7_errorPosition_25 ⟨Nat.le_of_ble_eq_true rfl, Nat.le_of_ble_eq_true rfl⟩
    · have h := ts_ifp h hc
      refine tv_aload_n C (pc := 13) dX7_errorPosition_13 rfl rfl ?_
      refine tv_iconst C (pc := 14) dX7_errorPosition_14 (v := (1 : Int32)) rfl ?_
      obtain ⟨q2, hq2, h⟩ := ts_bd h
      refine tv_callV C (pc := 15) dX7_errorPosition_15 (ci := 7) (q := (RX7, TX7, 37)) rfl yl_X7_99 (m_X7_fail (D := D) (dT := dT) (sz := sz) (ad := ad) hl (1 : Int32) u1 q2 hq2) (ts_live (k := 30) (by decide) (by decide) (by decide)) rfl (Nat.le_trans (Nat.le_of_ble_eq_true rfl) hdd) (As := [.inl (.int (1 : Int32))]) rfl ⟨Nat.le_of_ble_eq_true rfl, Nat.le_of_ble_eq_true rfl⟩ (fun _ => Nat.le_of_ble_eq_true rfl) rfl ?_
      refine tv_goto C (pc := 18) 25 dX7_errorPosition_18 (by decide) ?_
      cases h
      exact tv_iret C (pc := 25) rfl dX7_errorPosition_25 ⟨Nat.le_of_ble_eq_true rfl, Nat.le_of_ble_eq_true rfl⟩
set_option maxRecDepth 100000 in
set_option maxHeartbeats 4000000 in
theorem m_X7_transactionCount {l : Launch} {D : va_G} {dT : Nat → ClassId} {sz : Nat} {ad : ts_I → Nat} (hl : l.stackTraces = false)  (u : ts_Mem) (r : (Int32 × ts_Mem)) (h : f_X7_transactionCount  u = some r) : ts_M l D dT sz yX7_transactionCount wX7_transactionCount 0 0 0 ad ts_lv ts_R0 [.inr (30, 0, 0)] u (.inl (some (.int r.1))) r.2 := by
    unfold f_X7_transactionCount at h
    refine ts_enter hl (by decide) rfl rfl (Nat.le_of_ble_eq_true rfl) ?_
    intro p e s m args below meth c C hX hnm
    have C : ts_CX D dT sz p l (ts_rm 0 0 0) s m args meth c RX7 cX7_transactionCount 1 (some .int) 0 := C
    have hdd : 0 ≤ 0 := Nat.le_refl _
    refine tv_aload_n C (pc := 0) dX7_transactionCount_0 rfl rfl ?_
    refine tv_iconst C (pc := 1) dX7_transactionCount_1 (v := (0 : Int32)) rfl ?_
    refine tv_putI C (pc := 2) dX7_transactionCount_2 fp_X7_3 (ts_live (k := 30) (by decide) (by decide) (by decide)) rfl (cd := 0) rfl (by decide) rfl rfl ?_
    refine tv_nu (fun u1 hu1 => ?_)
    have h := ts_lt h hu1
    refine tv_aload_n C (pc := 5) dX7_transactionCount_5 rfl rfl ?_
    refine tv_getI C (pc := 6) dX7_transactionCount_6 fl_X7_103 (ts_live (k := 30) (by decide) (by decide) (by decide)) rfl (cd := 0) rfl (by decide) ?_
    cases h
    exact tv_iret C (pc := 9) rfl dX7_transactionCount_9 ⟨Nat.le_of_ble_eq_true rfl, Nat.le_of_ble_eq_true rfl⟩
set_option maxRecDepth 100000 in
set_option maxHeartbeats 4000000 in
theorem m_X7_transaction {l : Launch} {D : va_G} {dT : Nat → ClassId} {sz : Nat} {ad : ts_I → Nat} (hl : l.stackTraces = false) (p1 : Int32) (p2 : Int32) (u : ts_Mem) (r : (Int32 × ts_Mem)) (h : f_X7_transaction p1 p2 u = some r) : ts_M l D dT sz yX7_transaction wX7_transaction 2 0 0 ad ts_lv ts_R0 [.inr (30, 0, 0), .inl (.int p1), .inl (.int p2)] u (.inl (some (.int r.1))) r.2 := by
    unfold f_X7_transaction at h
    refine ts_enter hl (by decide) rfl rfl (Nat.le_of_ble_eq_true rfl) ?_
    intro p e s m args below meth c C hX hnm
    have C : ts_CX D dT sz p l (ts_rm 2 0 0) s m args meth c RX7 cX7_transaction 3 (some .int) 2 := C
    have hdd : 2 ≤ 2 := Nat.le_refl _
    refine tv_aload_n C (pc := 0) dX7_transaction_0 rfl rfl ?_
    refine tv_iconst C (pc := 1) dX7_transaction_1 (v := (0 : Int32)) rfl ?_
    refine tv_putI C (pc := 2) dX7_transaction_2 fp_X7_3 (ts_live (k := 30) (by decide) (by decide) (by decide)) rfl (cd := 0) rfl (by decide) rfl rfl ?_
    refine tv_nu (fun u1 hu1 => ?_)
    have h := ts_lt h hu1
    refine tv_aload_n C (pc := 5) dX7_transaction_5 rfl rfl ?_
    refine tv_iload_n C (pc := 6) dX7_transaction_6 rfl rfl ?_
    obtain ⟨q2, hq2, h⟩ := ts_bd h
    refine tv_callV C (pc := 7) dX7_transaction_7 (ci := 7) (q := (RX7, TX7, 37)) rfl yl_X7_128 (m_X7_isTransaction (D := D) (dT := dT) (sz := sz) (ad := ad) hl p1 u1 q2 hq2) (ts_live (k := 30) (by decide) (by decide) (by decide)) rfl (Nat.le_trans (Nat.le_of_ble_eq_true rfl) hdd) (As := [.inl (.int p1)]) rfl ⟨Nat.le_of_ble_eq_true rfl, Nat.le_of_ble_eq_true rfl⟩ (fun _ => Nat.le_of_ble_eq_true rfl) rfl ?_
    refine tv_if_ne C (pc := 10) 19 dX7_transaction_10 (by decide) (fun hc => ?_) (fun hc => ?_)
    · have h := ts_ifn h hc
      refine tv_iload_n C (pc := 19) dX7_transaction_19 rfl rfl ?_
      by_cases hs20_0 : p2 = 0
      · have h := ts_ifp h hs20_0
        refine tv_tabIn C (pc := 20) 56 dX7_transaction_20 (by rw [hs20_0]; decide) (by rw [hs20_0]; decide) (off := 36) (by rw [hs20_0]; decide) (by decide) ?_
        refine tv_aload_n C (pc := 56) dX7_transaction_56 rfl rfl ?_
        refine tv_getR C (pc := 57) dX7_transaction_57 fl_X7_21 (ts_live (k := 30) (by decide) (by decide) (by decide)) rfl rfl (i2 := (31, 0, 0)) rfl ?_
        refine tv_iload_n C (pc := 60) dX7_transaction_60 rfl rfl ?_
        obtain ⟨hr3, h⟩ := ts_gd h
        refine tv_iaload C (pc := 61) dX7_transaction_61 (ts_live (k := 31) (by decide) (by decide) (by decide)) rfl hr3 (j := p1.toNatClampNeg) rfl ?_
        cases h
        exact tv_iret C (pc := 62) rfl dX7_transaction_62 ⟨Nat.le_of_ble_eq_true rfl, Nat.le_of_ble_eq_true rfl⟩
      have h := ts_ifn h hs20_0
      by_cases hs20_1 : p2 = 1
      · have h := ts_ifp h hs20_1
        refine tv_tabIn C (pc := 20) 63 dX7_transaction_20 (by rw [hs20_1]; decide) (by rw [hs20_1]; decide) (off := 43) (by rw [hs20_1]; decide) (by decide) ?_
        refine tv_aload_n C (pc := 63) dX7_transaction_63 rfl rfl ?_
        refine tv_getR C (pc := 64) dX7_transaction_64 fl_X7_25 (ts_live (k := 30) (by decide) (by decide) (by decide)) rfl rfl (i2 := (32, 0, 0)) rfl ?_
        refine tv_iload_n C (pc := 67) dX7_transaction_67 rfl rfl ?_
        obtain ⟨hr4, h⟩ := ts_gd h
        refine tv_iaload C (pc := 68) dX7_transaction_68 (ts_live (k := 32) (by decide) (by decide) (by decide)) rfl hr4 (j := p1.toNatClampNeg) rfl ?_
        cases h
        exact tv_iret C (pc := 69) rfl dX7_transaction_69 ⟨Nat.le_of_ble_eq_true rfl, Nat.le_of_ble_eq_true rfl⟩
      have h := ts_ifn h hs20_1
      by_cases hs20_2 : p2 = 2
      · have h := ts_ifp h hs20_2
        refine tv_tabIn C (pc := 20) 70 dX7_transaction_20 (by rw [hs20_2]; decide) (by rw [hs20_2]; decide) (off := 50) (by rw [hs20_2]; decide) (by decide) ?_
        refine tv_aload_n C (pc := 70) dX7_transaction_70 rfl rfl ?_
        refine tv_getR C (pc := 71) dX7_transaction_71 fl_X7_28 (ts_live (k := 30) (by decide) (by decide) (by decide)) rfl rfl (i2 := (33, 0, 0)) rfl ?_
        refine tv_iload_n C (pc := 74) dX7_transaction_74 rfl rfl ?_
        obtain ⟨hr5, h⟩ := ts_gd h
        refine tv_iaload C (pc := 75) dX7_transaction_75 (ts_live (k := 33) (by decide) (by decide) (by decide)) rfl hr5 (j := p1.toNatClampNeg) rfl ?_
        cases h
        exact tv_iret C (pc := 76) rfl dX7_transaction_76 ⟨Nat.le_of_ble_eq_true rfl, Nat.le_of_ble_eq_true rfl⟩
      have h := ts_ifn h hs20_2
      by_cases hs20_3 : p2 = 3
      · have h := ts_ifp h hs20_3
        refine tv_tabIn C (pc := 20) 77 dX7_transaction_20 (by rw [hs20_3]; decide) (by rw [hs20_3]; decide) (off := 57) (by rw [hs20_3]; decide) (by decide) ?_
        refine tv_aload_n C (pc := 77) dX7_transaction_77 rfl rfl ?_
        refine tv_getR C (pc := 78) dX7_transaction_78 fl_X7_31 (ts_live (k := 30) (by decide) (by decide) (by decide)) rfl rfl (i2 := (34, 0, 0)) rfl ?_
        refine tv_iload_n C (pc := 81) dX7_transaction_81 rfl rfl ?_
        obtain ⟨hr6, h⟩ := ts_gd h
        refine tv_iaload C (pc := 82) dX7_transaction_82 (ts_live (k := 34) (by decide) (by decide) (by decide)) rfl hr6 (j := p1.toNatClampNeg) rfl ?_
        cases h
        exact tv_iret C (pc := 83) rfl dX7_transaction_83 ⟨Nat.le_of_ble_eq_true rfl, Nat.le_of_ble_eq_true rfl⟩
      have h := ts_ifn h hs20_3
      by_cases hs20_4 : p2 = 4
      · have h := ts_ifp h hs20_4
        refine tv_tabIn C (pc := 20) 84 dX7_transaction_20 (by rw [hs20_4]; decide) (by rw [hs20_4]; decide) (off := 64) (by rw [hs20_4]; decide) (by decide) ?_
        refine tv_aload_n C (pc := 84) dX7_transaction_84 rfl rfl ?_
        refine tv_getR C (pc := 85) dX7_transaction_85 fl_X7_34 (ts_live (k := 30) (by decide) (by decide) (by decide)) rfl rfl (i2 := (35, 0, 0)) rfl ?_
        refine tv_iload_n C (pc := 88) dX7_transaction_88 rfl rfl ?_
        obtain ⟨hr7, h⟩ := ts_gd h
        refine tv_iaload C (pc := 89) dX7_transaction_89 (ts_live (k := 35) (by decide) (by decide) (by decide)) rfl hr7 (j := p1.toNatClampNeg) rfl ?_
        cases h
        exact tv_iret C (pc := 90) rfl dX7_transaction_90 ⟨Nat.le_of_ble_eq_true rfl, Nat.le_of_ble_eq_true rfl⟩
      have h := ts_ifn h hs20_4
      refine tv_tabOut C (pc := 20) 91 dX7_transaction_20 (ts_tab 5 (by decide) (fun j hj => match j, hj with | 0, _ => hs20_0 | 1, _ => hs20_1 | 2, _ => hs20_2 | 3, _ => hs20_3 | 4, _ => hs20_4 | j + 5, hj => absurd hj (by omega)) (by decide)) (by decide) ?_
      refine tv_aload_n C (pc := 91) dX7_transaction_91 rfl rfl ?_
      refine tv_iconst C (pc := 92) dX7_transaction_92 (v := (2 : Int32)) rfl ?_
      obtain ⟨q8, hq8, h⟩ := ts_bd h
      refine tv_callV C (pc := 93) dX7_transaction_93 (ci := 7) (q := (RX7, TX7, 37)) rfl yl_X7_99 (m_X7_fail (D := D) (dT := dT) (sz := sz) (ad := ad) hl (2 : Int32) u1 q8 hq8) (ts_live (k := 30) (by decide) (by decide) (by decide)) rfl (Nat.le_trans (Nat.le_of_ble_eq_true rfl) hdd) (As := [.inl (.int (2 : Int32))]) rfl ⟨Nat.le_of_ble_eq_true rfl, Nat.le_of_ble_eq_true rfl⟩ (fun _ => Nat.le_of_ble_eq_true rfl) rfl ?_
      cases h
      exact tv_iret C (pc := 96) rfl dX7_transaction_96 ⟨Nat.le_of_ble_eq_true rfl, Nat.le_of_ble_eq_true rfl⟩
    · have h := ts_ifp h hc
      refine tv_aload_n C (pc := 13) dX7_transaction_13 rfl rfl ?_
      refine tv_iconst C (pc := 14) dX7_transaction_14 (v := (1 : Int32)) rfl ?_
      obtain ⟨q9, hq9, h⟩ := ts_bd h
      refine tv_callV C (pc := 15) dX7_transaction_15 (ci := 7) (q := (RX7, TX7, 37)) rfl yl_X7_99 (m_X7_fail (D := D) (dT := dT) (sz := sz) (ad := ad) hl (1 : Int32) u1 q9 hq9) (ts_live (k := 30) (by decide) (by decide) (by decide)) rfl (Nat.le_trans (Nat.le_of_ble_eq_true rfl) hdd) (As := [.inl (.int (1 : Int32))]) rfl ⟨Nat.le_of_ble_eq_true rfl, Nat.le_of_ble_eq_true rfl⟩ (fun _ => Nat.le_of_ble_eq_true rfl) rfl ?_
      cases h
      exact tv_iret C (pc := 18) rfl dX7_transaction_18 ⟨Nat.le_of_ble_eq_true rfl, Nat.le_of_ble_eq_true rfl⟩
set_option maxRecDepth 100000 in
set_option maxHeartbeats 4000000 in
theorem m_X7_dependencies {l : Launch} {D : va_G} {dT : Nat → ClassId} {sz : Nat} {ad : ts_I → Nat} (hl : l.stackTraces = false) (p1 : Int32) (u : ts_Mem) (r : (Int32 × ts_Mem)) (h : f_X7_dependencies p1 u = some r) : ts_M l D dT sz yX7_dependencies wX7_dependencies 2 0 0 ad ts_lv ts_R0 [.inr (30, 0, 0), .inl (.int p1)] u (.inl (some (.int r.1))) r.2 := by
    unfold f_X7_dependencies at h
    refine ts_enter hl (by decide) rfl rfl (Nat.le_of_ble_eq_true rfl) ?_
    intro p e s m args below meth c C hX hnm
    have C : ts_CX D dT sz p l (ts_rm 2 0 0) s m args meth c RX7 cX7_dependencies 2 (some .int) 2 := C
    have hdd : 2 ≤ 2 := Nat.le_refl _
    refine tv_aload_n C (pc := 0) dX7_dependencies_0 rfl rfl ?_
    refine tv_iconst C (pc := 1) dX7_dependencies_1 (v := (0 : Int32)) rfl ?_
    refine tv_putI C (pc := 2) dX7_dependencies_2 fp_X7_3 (ts_live (k := 30) (by decide) (by decide) (by decide)) rfl (cd := 0) rfl (by decide) rfl rfl ?_
    refine tv_nu (fun u1 hu1 => ?_)
    have h := ts_lt h hu1
    refine tv_aload_n C (pc := 5) dX7_dependencies_5 rfl rfl ?_
    refine tv_iload_n C (pc := 6) dX7_dependencies_6 rfl rfl ?_
    obtain ⟨q2, hq2, h⟩ := ts_bd h
    refine tv_callV C (pc := 7) dX7_dependencies_7 (ci := 7) (q := (RX7, TX7, 37)) rfl yl_X7_128 (m_X7_isTransaction (D := D) (dT := dT) (sz := sz) (ad := ad) hl p1 u1 q2 hq2) (ts_live (k := 30) (by decide) (by decide) (by decide)) rfl (Nat.le_trans (Nat.le_of_ble_eq_true rfl) hdd) (As := [.inl (.int p1)]) rfl ⟨Nat.le_of_ble_eq_true rfl, Nat.le_of_ble_eq_true rfl⟩ (fun _ => Nat.le_of_ble_eq_true rfl) rfl ?_
    refine tv_if_eq C (pc := 10) 21 dX7_dependencies_10 (by decide) (fun hc => ?_) (fun hc => ?_)
    · have h := ts_ifp h hc
      refine tv_aload_n C (pc := 21) dX7_dependencies_21 rfl rfl ?_
      refine tv_iconst C (pc := 22) dX7_dependencies_22 (v := (1 : Int32)) rfl ?_
      obtain ⟨q3, hq3, h⟩ := ts_bd h
      refine tv_callV C (pc := 23) dX7_dependencies_23 (ci := 7) (q := (RX7, TX7, 37)) rfl yl_X7_99 (m_X7_fail (D := D) (dT := dT) (sz := sz) (ad := ad) hl (1 : Int32) u1 q3 hq3) (ts_live (k := 30) (by decide) (by decide) (by decide)) rfl (Nat.le_trans (Nat.le_of_ble_eq_true rfl) hdd) (As := [.inl (.int (1 : Int32))]) rfl ⟨Nat.le_of_ble_eq_true rfl, Nat.le_of_ble_eq_true rfl⟩ (fun _ => Nat.le_of_ble_eq_true rfl) rfl ?_
      cases h
      exact tv_iret C (pc := 26) rfl dX7_dependencies_26 ⟨Nat.le_of_ble_eq_true rfl, Nat.le_of_ble_eq_true rfl⟩
    · have h := ts_ifn h hc
      refine tv_aload_n C (pc := 13) dX7_dependencies_13 rfl rfl ?_
      refine tv_iload_n C (pc := 14) dX7_dependencies_14 rfl rfl ?_
      obtain ⟨q4, hq4, h⟩ := ts_bd h
      refine tv_callV C (pc := 15) dX7_dependencies_15 (ci := 7) (q := (RX7, TX7, 37)) rfl yl_X7_125 (m_X7_waitsFor (D := D) (dT := dT) (sz := sz) (ad := ad) hl p1 u1 q4 hq4) (ts_live (k := 30) (by decide) (by decide) (by decide)) rfl (Nat.le_trans (Nat.le_of_ble_eq_true rfl) hdd) (As := [.inl (.int p1)]) rfl ⟨Nat.le_of_ble_eq_true rfl, Nat.le_of_ble_eq_true rfl⟩ (fun _ => Nat.le_of_ble_eq_true rfl) rfl ?_
      refine tv_goto C (pc := 18) 26 dX7_dependencies_18 (by decide) ?_
      cases h
      exact tv_iret C (pc := 26) rfl dX7_dependencies_26 ⟨Nat.le_of_ble_eq_true rfl, Nat.le_of_ble_eq_true rfl⟩
set_option maxRecDepth 100000 in
set_option maxHeartbeats 4000000 in
theorem lt_X7_cascade_47 {D : va_G} {dT : Nat → ClassId} {sz : Nat} {p : Program} {l : Launch} {e : Env} {R : Room} {s : State} {m : MethodId} {args : Array Value} {below : List Frame} {meth : Method} {c : Code} {d : Nat} {ad : ts_I → Nat} {kk nn : Nat} {Q : State → Prop} (hl : l.stackTraces = false) (C : ts_CX D dT sz p l R s m args meth c RX7 cX7_cascade 5 (some .int) d) (hdd : 2 ≤ d) (c1 : Int32) (c3 : Int32) (u : ts_Mem) (hkn : kk ≤ R.cells ∧ nn ≤ R.slots) : ∀ (n : Nat) (v2 : Int32) (v4 : Int32) (q : (Int32 × Int32)) (h : lp_X7_cascade_47 c1 c3 u n v2 v4 = some q) (K : ts_V D dT sz p l e R s m args below meth c 5 Q ad ts_lv ts_R0 94 [some (.inr (30, 0, 0)), some (.inl (.int c1)), some (.inl (.int q.1)), some (.inl (.int c3)), some (.inl (.int q.2))] [] u kk nn), ts_V D dT sz p l e R s m args below meth c 5 Q ad ts_lv ts_R0 47 [some (.inr (30, 0, 0)), some (.inl (.int c1)), some (.inl (.int v2)), some (.inl (.int c3)), some (.inl (.int v4))] [] u kk nn
  | 0, _, _, _, h, _ => by cases h
  | n + 1, v2, v4, q, h, K => by
      rw [lp_X7_cascade_47] at h
      refine tv_iload C (pc := 47) dX7_cascade_47 rfl ?_
      refine tv_aload_n C (pc := 49) dX7_cascade_49 rfl rfl ?_
      refine tv_getI C (pc := 50) dX7_cascade_50 fl_X7_103 (ts_live (k := 30) (by decide) (by decide) (by decide)) rfl (cd := 0) rfl (by decide) ?_
      refine tv_icmp_ge C (pc := 53) 94 dX7_cascade_53 (by decide) (fun hc => ?_) (fun hc => ?_)
      · have h := ts_ifp h hc
        cases h
        exact K
      · have h := ts_ifn h hc
        refine tv_iload_n C (pc := 56) dX7_cascade_56 rfl rfl ?_
        refine tv_aload_n C (pc := 57) dX7_cascade_57 rfl rfl ?_
        refine tv_iload C (pc := 58) dX7_cascade_58 rfl ?_
        obtain ⟨q4, hq4, h⟩ := ts_bd h
        refine tv_callV C (pc := 60) dX7_cascade_60 (ci := 7) (q := (RX7, TX7, 37)) rfl yl_X7_117 (m_X7_isUncommitted (D := D) (dT := dT) (sz := sz) (ad := ad) hl v4 u q4 hq4) (ts_live (k := 30) (by decide) (by decide) (by decide)) rfl (Nat.le_trans (Nat.le_of_ble_eq_true rfl) hdd) (As := [.inl (.int v4)]) rfl ⟨hkn.1, hkn.2⟩ (fun _ => Nat.le_of_ble_eq_true rfl) rfl ?_
        refine tv_if_eq C (pc := 63) 85 dX7_cascade_63 (by decide) (fun hc => ?_) (fun hc => ?_)
        · have h := ts_ifp h hc
          refine tv_iconst C (pc := 85) dX7_cascade_85 (v := (0 : Int32)) rfl ?_
          refine tv_ior C (pc := 86) dX7_cascade_86 ?_
          refine tv_nmI (fun x5 hx5 => ?_)
          have h := ts_lt h hx5
          refine tv_istore_n C (pc := 87) dX7_cascade_87 (L' := [some (.inr (30, 0, 0)), some (.inl (.int c1)), some (.inl (.int x5)), some (.inl (.int c3)), some (.inl (.int v4))]) rfl (by decide) rfl rfl ?_
          refine tv_iinc C (pc := 88) dX7_cascade_88 (v := (v4 + (1 : Int32))) (L' := [some (.inr (30, 0, 0)), some (.inl (.int c1)), some (.inl (.int x5)), some (.inl (.int c3)), some (.inl (.int (v4 + (1 : Int32))))]) rfl rfl (by decide) rfl rfl ?_
          refine tv_goto C (pc := 91) 47 dX7_cascade_91 (by decide) ?_
          exact lt_X7_cascade_47 hl C hdd c1 c3 u hkn n x5 (v4 + (1 : Int32)) q h K
        · have h := ts_ifn h hc
          refine tv_aload_n C (pc := 66) dX7_cascade_66 rfl rfl ?_
          refine tv_getR C (pc := 67) dX7_cascade_67 fl_X7_40 (ts_live (k := 30) (by decide) (by decide) (by decide)) rfl rfl (i2 := (37, 0, 0)) rfl ?_
          refine tv_iload C (pc := 70) dX7_cascade_70 rfl ?_
          obtain ⟨hr6, h⟩ := ts_gd h
          refine tv_iaload C (pc := 72) dX7_cascade_72 (ts_live (k := 37) (by decide) (by decide) (by decide)) rfl hr6 (j := v4.toNatClampNeg) rfl ?_
          refine tv_iload_n C (pc := 73) dX7_cascade_73 rfl rfl ?_
          refine tv_iand C (pc := 74) dX7_cascade_74 ?_
          refine tv_if_eq C (pc := 75) 85 dX7_cascade_75 (by decide) (fun hc => ?_) (fun hc => ?_)
          · have h := ts_ifp h hc
            refine tv_iconst C (pc := 85) dX7_cascade_85 (v := (0 : Int32)) rfl ?_
            refine tv_ior C (pc := 86) dX7_cascade_86 ?_
            refine tv_nmI (fun x7 hx7 => ?_)
            have h := ts_lt h hx7
            refine tv_istore_n C (pc := 87) dX7_cascade_87 (L' := [some (.inr (30, 0, 0)), some (.inl (.int c1)), some (.inl (.int x7)), some (.inl (.int c3)), some (.inl (.int v4))]) rfl (by decide) rfl rfl ?_
            refine tv_iinc C (pc := 88) dX7_cascade_88 (v := (v4 + (1 : Int32))) (L' := [some (.inr (30, 0, 0)), some (.inl (.int c1)), some (.inl (.int x7)), some (.inl (.int c3)), some (.inl (.int (v4 + (1 : Int32))))]) rfl rfl (by decide) rfl rfl ?_
            refine tv_goto C (pc := 91) 47 dX7_cascade_91 (by decide) ?_
            exact lt_X7_cascade_47 hl C hdd c1 c3 u hkn n x7 (v4 + (1 : Int32)) q h K
          · have h := ts_ifn h hc
            refine tv_iconst C (pc := 78) dX7_cascade_78 (v := (1 : Int32)) rfl ?_
            refine tv_iload C (pc := 79) dX7_cascade_79 rfl ?_
            refine tv_ishl C (pc := 81) dX7_cascade_81 ?_
            refine tv_goto C (pc := 82) 86 dX7_cascade_82 (by decide) ?_
            refine tv_ior C (pc := 86) dX7_cascade_86 ?_
            refine tv_nmI (fun x8 hx8 => ?_)
            have h := ts_lt h hx8
            refine tv_istore_n C (pc := 87) dX7_cascade_87 (L' := [some (.inr (30, 0, 0)), some (.inl (.int c1)), some (.inl (.int x8)), some (.inl (.int c3)), some (.inl (.int v4))]) rfl (by decide) rfl rfl ?_
            refine tv_iinc C (pc := 88) dX7_cascade_88 (v := (v4 + (1 : Int32))) (L' := [some (.inr (30, 0, 0)), some (.inl (.int c1)), some (.inl (.int x8)), some (.inl (.int c3)), some (.inl (.int (v4 + (1 : Int32))))]) rfl rfl (by decide) rfl rfl ?_
            refine tv_goto C (pc := 91) 47 dX7_cascade_91 (by decide) ?_
            exact lt_X7_cascade_47 hl C hdd c1 c3 u hkn n x8 (v4 + (1 : Int32)) q h K
set_option maxRecDepth 100000 in
set_option maxHeartbeats 4000000 in
theorem lt_X7_cascade_37 {D : va_G} {dT : Nat → ClassId} {sz : Nat} {p : Program} {l : Launch} {e : Env} {R : Room} {s : State} {m : MethodId} {args : Array Value} {below : List Frame} {meth : Method} {c : Code} {d : Nat} {ad : ts_I → Nat} {kk nn : Nat} {Q : State → Prop} (hl : l.stackTraces = false) (C : ts_CX D dT sz p l R s m args meth c RX7 cX7_cascade 5 (some .int) d) (hdd : 2 ≤ d) (c1 : Int32) (u : ts_Mem) (hkn : kk ≤ R.cells ∧ nn ≤ R.slots) : ∀ (n : Nat) (v2 : Int32) (v3 : Int32) (q : (Int32 × Int32)) (h : lp_X7_cascade_37 c1 u n v2 v3 = some q) (K : ts_V D dT sz p l e R s m args below meth c 5 Q ad ts_lv ts_R0 97 [some (.inr (30, 0, 0)), some (.inl (.int c1)), some (.inl (.int q.1)), some (.inl (.int q.2)), none] [] u kk nn), ts_V D dT sz p l e R s m args below meth c 5 Q ad ts_lv ts_R0 37 [some (.inr (30, 0, 0)), some (.inl (.int c1)), some (.inl (.int v2)), some (.inl (.int v3)), none] [] u kk nn
  | 0, _, _, _, h, _ => by cases h
  | n + 1, v2, v3, q, h, K => by
      rw [lp_X7_cascade_37] at h
      refine tv_iload_n C (pc := 37) dX7_cascade_37 rfl rfl ?_
      refine tv_iload_n C (pc := 38) dX7_cascade_38 rfl rfl ?_
      refine tv_icmp_eq C (pc := 39) 97 dX7_cascade_39 (by decide) (fun hc => ?_) (fun hc => ?_)
      · have h := ts_ifp h hc
        cases h
        exact K
      · have h := ts_ifn h hc
        refine tv_iload_n C (pc := 42) dX7_cascade_42 rfl rfl ?_
        refine tv_istore_n C (pc := 43) dX7_cascade_43 (L' := [some (.inr (30, 0, 0)), some (.inl (.int c1)), some (.inl (.int v2)), some (.inl (.int v2)), none]) rfl (by decide) rfl rfl ?_
        refine tv_iconst C (pc := 44) dX7_cascade_44 (v := (0 : Int32)) rfl ?_
        refine tv_istore C (pc := 45) dX7_cascade_45 (L' := [some (.inr (30, 0, 0)), some (.inl (.int c1)), some (.inl (.int v2)), some (.inl (.int v2)), some (.inl (.int (0 : Int32)))]) (by decide) rfl rfl ?_
        obtain ⟨q9, hq9, h⟩ := ts_bd h
        refine lt_X7_cascade_47 hl C hdd c1 v2 u hkn ts_fu v2 (0 : Int32) q9 hq9 ?_
        refine tv_goto C (pc := 94) 37 dX7_cascade_94 (by decide) ?_
        refine tv_drop 4 (L' := [some (.inr (30, 0, 0)), some (.inl (.int c1)), some (.inl (.int q9.1)), some (.inl (.int v2)), none]) rfl ?_
        exact lt_X7_cascade_37 hl C hdd c1 u hkn n q9.1 v2 q h K
set_option maxRecDepth 100000 in
set_option maxHeartbeats 4000000 in
theorem m_X7_cascade {l : Launch} {D : va_G} {dT : Nat → ClassId} {sz : Nat} {ad : ts_I → Nat} (hl : l.stackTraces = false) (p1 : Int32) (u : ts_Mem) (r : (Int32 × ts_Mem)) (h : f_X7_cascade p1 u = some r) : ts_M l D dT sz yX7_cascade wX7_cascade 2 0 0 ad ts_lv ts_R0 [.inr (30, 0, 0), .inl (.int p1)] u (.inl (some (.int r.1))) r.2 := by
    unfold f_X7_cascade at h
    refine ts_enter hl (by decide) rfl rfl (Nat.le_of_ble_eq_true rfl) ?_
    intro p e s m args below meth c C hX hnm
    have C : ts_CX D dT sz p l (ts_rm 2 0 0) s m args meth c RX7 cX7_cascade 5 (some .int) 2 := C
    have hdd : 2 ≤ 2 := Nat.le_refl _
    refine tv_aload_n C (pc := 0) dX7_cascade_0 rfl rfl ?_
    refine tv_iconst C (pc := 1) dX7_cascade_1 (v := (0 : Int32)) rfl ?_
    refine tv_putI C (pc := 2) dX7_cascade_2 fp_X7_3 (ts_live (k := 30) (by decide) (by decide) (by decide)) rfl (cd := 0) rfl (by decide) rfl rfl ?_
    refine tv_nu (fun u1 hu1 => ?_)
    have h := ts_lt h hu1
    refine tv_aload_n C (pc := 5) dX7_cascade_5 rfl rfl ?_
    refine tv_iload_n C (pc := 6) dX7_cascade_6 rfl rfl ?_
    obtain ⟨q2, hq2, h⟩ := ts_bd h
    refine tv_callV C (pc := 7) dX7_cascade_7 (ci := 7) (q := (RX7, TX7, 37)) rfl yl_X7_128 (m_X7_isTransaction (D := D) (dT := dT) (sz := sz) (ad := ad) hl p1 u1 q2 hq2) (ts_live (k := 30) (by decide) (by decide) (by decide)) rfl (Nat.le_trans (Nat.le_of_ble_eq_true rfl) hdd) (As := [.inl (.int p1)]) rfl ⟨Nat.le_of_ble_eq_true rfl, Nat.le_of_ble_eq_true rfl⟩ (fun _ => Nat.le_of_ble_eq_true rfl) rfl ?_
    refine tv_if_ne C (pc := 10) 19 dX7_cascade_10 (by decide) (fun hc => ?_) (fun hc => ?_)
    · have h := ts_ifn h hc
      refine tv_aload_n C (pc := 19) dX7_cascade_19 rfl rfl ?_
      refine tv_iload_n C (pc := 20) dX7_cascade_20 rfl rfl ?_
      obtain ⟨q3, hq3, h⟩ := ts_bd h
      refine tv_callV C (pc := 21) dX7_cascade_21 (ci := 7) (q := (RX7, TX7, 37)) rfl yl_X7_117 (m_X7_isUncommitted (D := D) (dT := dT) (sz := sz) (ad := ad) hl p1 u1 q3 hq3) (ts_live (k := 30) (by decide) (by decide) (by decide)) rfl (Nat.le_trans (Nat.le_of_ble_eq_true rfl) hdd) (As := [.inl (.int p1)]) rfl ⟨Nat.le_of_ble_eq_true rfl, Nat.le_of_ble_eq_true rfl⟩ (fun _ => Nat.le_of_ble_eq_true rfl) rfl ?_
      refine tv_if_eq C (pc := 24) 33 dX7_cascade_24 (by decide) (fun hc => ?_) (fun hc => ?_)
      · have h := ts_ifp h hc
        refine tv_iconst C (pc := 33) dX7_cascade_33 (v := (0 : Int32)) rfl ?_
        refine tv_istore_n C (pc := 34) dX7_cascade_34 (L' := [some (.inr (30, 0, 0)), some (.inl (.int p1)), some (.inl (.int (0 : Int32))), none, none]) rfl (by decide) rfl rfl ?_
        refine tv_iconst C (pc := 35) dX7_cascade_35 (v := (0 : Int32)) rfl ?_
        refine tv_istore_n C (pc := 36) dX7_cascade_36 (L' := [some (.inr (30, 0, 0)), some (.inl (.int p1)), some (.inl (.int (0 : Int32))), some (.inl (.int (0 : Int32))), none]) rfl (by decide) rfl rfl ?_
        obtain ⟨q10, hq10, h⟩ := ts_bd h
        refine lt_X7_cascade_37 hl C hdd p1 u1 ⟨Nat.le_of_ble_eq_true rfl, Nat.le_of_ble_eq_true rfl⟩ ts_fu (0 : Int32) (0 : Int32) q10 hq10 ?_
        refine tv_iload_n C (pc := 97) dX7_cascade_97 rfl rfl ?_
        cases h
        exact tv_iret C (pc := 98) rfl dX7_cascade_98 ⟨Nat.le_of_ble_eq_true rfl, Nat.le_of_ble_eq_true rfl⟩
      · have h := ts_ifn h hc
        refine tv_iconst C (pc := 27) dX7_cascade_27 (v := (1 : Int32)) rfl ?_
        refine tv_iload_n C (pc := 28) dX7_cascade_28 rfl rfl ?_
        refine tv_ishl C (pc := 29) dX7_cascade_29 ?_
        refine tv_goto C (pc := 30) 34 dX7_cascade_30 (by decide) ?_
        refine tv_nmI (fun x11 hx11 => ?_)
        have h := ts_lt h hx11
        refine tv_istore_n C (pc := 34) dX7_cascade_34 (L' := [some (.inr (30, 0, 0)), some (.inl (.int p1)), some (.inl (.int x11)), none, none]) rfl (by decide) rfl rfl ?_
        refine tv_iconst C (pc := 35) dX7_cascade_35 (v := (0 : Int32)) rfl ?_
        refine tv_istore_n C (pc := 36) dX7_cascade_36 (L' := [some (.inr (30, 0, 0)), some (.inl (.int p1)), some (.inl (.int x11)), some (.inl (.int (0 : Int32))), none]) rfl (by decide) rfl rfl ?_
        obtain ⟨q18, hq18, h⟩ := ts_bd h
        refine lt_X7_cascade_37 hl C hdd p1 u1 ⟨Nat.le_of_ble_eq_true rfl, Nat.le_of_ble_eq_true rfl⟩ ts_fu x11 (0 : Int32) q18 hq18 ?_
        refine tv_iload_n C (pc := 97) dX7_cascade_97 rfl rfl ?_
        cases h
        exact tv_iret C (pc := 98) rfl dX7_cascade_98 ⟨Nat.le_of_ble_eq_true rfl, Nat.le_of_ble_eq_true rfl⟩
    · have h := ts_ifp h hc
      refine tv_aload_n C (pc := 13) dX7_cascade_13 rfl rfl ?_
      refine tv_iconst C (pc := 14) dX7_cascade_14 (v := (1 : Int32)) rfl ?_
      obtain ⟨q19, hq19, h⟩ := ts_bd h
      refine tv_callV C (pc := 15) dX7_cascade_15 (ci := 7) (q := (RX7, TX7, 37)) rfl yl_X7_99 (m_X7_fail (D := D) (dT := dT) (sz := sz) (ad := ad) hl (1 : Int32) u1 q19 hq19) (ts_live (k := 30) (by decide) (by decide) (by decide)) rfl (Nat.le_trans (Nat.le_of_ble_eq_true rfl) hdd) (As := [.inl (.int (1 : Int32))]) rfl ⟨Nat.le_of_ble_eq_true rfl, Nat.le_of_ble_eq_true rfl⟩ (fun _ => Nat.le_of_ble_eq_true rfl) rfl ?_
      cases h
      exact tv_iret C (pc := 18) rfl dX7_cascade_18 ⟨Nat.le_of_ble_eq_true rfl, Nat.le_of_ble_eq_true rfl⟩
set_option maxRecDepth 100000 in
set_option maxHeartbeats 4000000 in
theorem m_X7_operation {l : Launch} {D : va_G} {dT : Nat → ClassId} {sz : Nat} {ad : ts_I → Nat} (hl : l.stackTraces = false) (p1 : Int32) (p2 : Int32) (p3 : Int32) (u : ts_Mem) (r : (Int32 × ts_Mem)) (h : f_X7_operation p1 p2 p3 u = some r) : ts_M l D dT sz yX7_operation wX7_operation 2 0 0 ad ts_lv ts_R0 [.inr (30, 0, 0), .inl (.int p1), .inl (.int p2), .inl (.int p3)] u (.inl (some (.int r.1))) r.2 := by
    unfold f_X7_operation at h
    refine ts_enter hl (by decide) rfl rfl (Nat.le_of_ble_eq_true rfl) ?_
    intro p e s m args below meth c C hX hnm
    have C : ts_CX D dT sz p l (ts_rm 2 0 0) s m args meth c RX7 cX7_operation 4 (some .int) 2 := C
    have hdd : 2 ≤ 2 := Nat.le_refl _
    refine tv_aload_n C (pc := 0) dX7_operation_0 rfl rfl ?_
    refine tv_iconst C (pc := 1) dX7_operation_1 (v := (0 : Int32)) rfl ?_
    refine tv_putI C (pc := 2) dX7_operation_2 fp_X7_3 (ts_live (k := 30) (by decide) (by decide) (by decide)) rfl (cd := 0) rfl (by decide) rfl rfl ?_
    refine tv_nu (fun u1 hu1 => ?_)
    have h := ts_lt h hu1
    refine tv_aload_n C (pc := 5) dX7_operation_5 rfl rfl ?_
    refine tv_iload_n C (pc := 6) dX7_operation_6 rfl rfl ?_
    obtain ⟨q2, hq2, h⟩ := ts_bd h
    refine tv_callV C (pc := 7) dX7_operation_7 (ci := 7) (q := (RX7, TX7, 37)) rfl yl_X7_128 (m_X7_isTransaction (D := D) (dT := dT) (sz := sz) (ad := ad) hl p1 u1 q2 hq2) (ts_live (k := 30) (by decide) (by decide) (by decide)) rfl (Nat.le_trans (Nat.le_of_ble_eq_true rfl) hdd) (As := [.inl (.int p1)]) rfl ⟨Nat.le_of_ble_eq_true rfl, Nat.le_of_ble_eq_true rfl⟩ (fun _ => Nat.le_of_ble_eq_true rfl) rfl ?_
    refine tv_if_eq C (pc := 10) 29 dX7_operation_10 (by decide) (fun hc => ?_) (fun hc => ?_)
    · have h := ts_ifp h hc
      refine tv_aload_n C (pc := 29) dX7_operation_29 rfl rfl ?_
      refine tv_iconst C (pc := 30) dX7_operation_30 (v := (1 : Int32)) rfl ?_
      obtain ⟨q3, hq3, h⟩ := ts_bd h
      refine tv_callV C (pc := 31) dX7_operation_31 (ci := 7) (q := (RX7, TX7, 37)) rfl yl_X7_99 (m_X7_fail (D := D) (dT := dT) (sz := sz) (ad := ad) hl (1 : Int32) u1 q3 hq3) (ts_live (k := 30) (by decide) (by decide) (by decide)) rfl (Nat.le_trans (Nat.le_of_ble_eq_true rfl) hdd) (As := [.inl (.int (1 : Int32))]) rfl ⟨Nat.le_of_ble_eq_true rfl, Nat.le_of_ble_eq_true rfl⟩ (fun _ => Nat.le_of_ble_eq_true rfl) rfl ?_
      cases h
      exact tv_iret C (pc := 34) rfl dX7_operation_34 ⟨Nat.le_of_ble_eq_true rfl, Nat.le_of_ble_eq_true rfl⟩
    · have h := ts_ifn h hc
      refine tv_iload_n C (pc := 13) dX7_operation_13 rfl rfl ?_
      refine tv_iconst C (pc := 14) dX7_operation_14 (v := (0 : Int32)) rfl ?_
      refine tv_aload_n C (pc := 15) dX7_operation_15 rfl rfl ?_
      refine tv_getR C (pc := 16) dX7_operation_16 fl_X7_34 (ts_live (k := 30) (by decide) (by decide) (by decide)) rfl rfl (i2 := (35, 0, 0)) rfl ?_
      refine tv_iload_n C (pc := 19) dX7_operation_19 rfl rfl ?_
      obtain ⟨hr4, h⟩ := ts_gd h
      refine tv_iaload C (pc := 20) dX7_operation_20 (ts_live (k := 35) (by decide) (by decide) (by decide)) rfl hr4 (j := p1.toNatClampNeg) rfl ?_
      refine tv_iconst C (pc := 21) dX7_operation_21 (v := (1 : Int32)) rfl ?_
      refine tv_isub C (pc := 22) dX7_operation_22 ?_
      obtain ⟨q5, hq5, h⟩ := ts_bd h
      refine tv_callS C (pc := 23) dX7_operation_23 yl_X7_95 (m_X7_isIn (D := D) (dT := dT) (sz := sz) (ad := ad) hl p2 (0 : Int32) ((ts_gI u1 (35, 0, 0) p1.toNatClampNeg) - (1 : Int32)) u1 q5 hq5) (Nat.le_trans (Nat.le_of_ble_eq_true rfl) hdd) (As := [.inl (.int p2), .inl (.int (0 : Int32)), .inl (.int ((ts_gI u1 (35, 0, 0) p1.toNatClampNeg) - (1 : Int32)))]) rfl ⟨Nat.le_of_ble_eq_true rfl, Nat.le_of_ble_eq_true rfl⟩ (fun _ => Nat.le_of_ble_eq_true rfl) rfl ?_
      refine tv_if_ne C (pc := 26) 35 dX7_operation_26 (by decide) (fun hc => ?_) (fun hc => ?_)
      · have h := ts_ifn h hc
        refine tv_iload_n C (pc := 35) dX7_operation_35 rfl rfl ?_
        refine tv_iconst C (pc := 36) dX7_operation_36 (v := (0 : Int32)) rfl ?_
        refine tv_iconst C (pc := 37) dX7_operation_37 (v := (3 : Int32)) rfl ?_
        obtain ⟨q6, hq6, h⟩ := ts_bd h
        refine tv_callS C (pc := 38) dX7_operation_38 yl_X7_95 (m_X7_isIn (D := D) (dT := dT) (sz := sz) (ad := ad) hl p3 (0 : Int32) (3 : Int32) u1 q6 hq6) (Nat.le_trans (Nat.le_of_ble_eq_true rfl) hdd) (As := [.inl (.int p3), .inl (.int (0 : Int32)), .inl (.int (3 : Int32))]) rfl ⟨Nat.le_of_ble_eq_true rfl, Nat.le_of_ble_eq_true rfl⟩ (fun _ => Nat.le_of_ble_eq_true rfl) rfl ?_
        refine tv_if_eq C (pc := 41) 60 dX7_operation_41 (by decide) (fun hc => ?_) (fun hc => ?_)
        · have h := ts_ifp h hc
          refine tv_aload_n C (pc := 60) dX7_operation_60 rfl rfl ?_
          refine tv_iconst C (pc := 61) dX7_operation_61 (v := (2 : Int32)) rfl ?_
          obtain ⟨q7, hq7, h⟩ := ts_bd h
          refine tv_callV C (pc := 62) dX7_operation_62 (ci := 7) (q := (RX7, TX7, 37)) rfl yl_X7_99 (m_X7_fail (D := D) (dT := dT) (sz := sz) (ad := ad) hl (2 : Int32) u1 q7 hq7) (ts_live (k := 30) (by decide) (by decide) (by decide)) rfl (Nat.le_trans (Nat.le_of_ble_eq_true rfl) hdd) (As := [.inl (.int (2 : Int32))]) rfl ⟨Nat.le_of_ble_eq_true rfl, Nat.le_of_ble_eq_true rfl⟩ (fun _ => Nat.le_of_ble_eq_true rfl) rfl ?_
          cases h
          exact tv_iret C (pc := 65) rfl dX7_operation_65 ⟨Nat.le_of_ble_eq_true rfl, Nat.le_of_ble_eq_true rfl⟩
        · have h := ts_ifn h hc
          refine tv_aload_n C (pc := 44) dX7_operation_44 rfl rfl ?_
          refine tv_getR C (pc := 45) dX7_operation_45 fl_X7_37 (ts_live (k := 30) (by decide) (by decide) (by decide)) rfl rfl (i2 := (36, 0, 0)) rfl ?_
          refine tv_aload_n C (pc := 48) dX7_operation_48 rfl rfl ?_
          refine tv_iload_n C (pc := 49) dX7_operation_49 rfl rfl ?_
          refine tv_iload_n C (pc := 50) dX7_operation_50 rfl rfl ?_
          obtain ⟨q8, hq8, h⟩ := ts_bd h
          refine tv_callV C (pc := 51) dX7_operation_51 (ci := 7) (q := (RX7, TX7, 37)) rfl yl_X7_159 (m_X7_listPlace (D := D) (dT := dT) (sz := sz) (ad := ad) hl p1 p2 u1 q8 hq8) (ts_live (k := 30) (by decide) (by decide) (by decide)) rfl (Nat.le_trans (Nat.le_of_ble_eq_true rfl) hdd) (As := [.inl (.int p1), .inl (.int p2)]) rfl ⟨Nat.le_of_ble_eq_true rfl, Nat.le_of_ble_eq_true rfl⟩ (fun _ => Nat.le_of_ble_eq_true rfl) rfl ?_
          refine tv_iload_n C (pc := 54) dX7_operation_54 rfl rfl ?_
          refine tv_iadd C (pc := 55) dX7_operation_55 ?_
          obtain ⟨hr9, h⟩ := ts_gd h
          refine tv_iaload C (pc := 56) dX7_operation_56 (ts_live (k := 36) (by decide) (by decide) (by decide)) rfl hr9 (j := ((q8 + p3)).toNatClampNeg) rfl ?_
          refine tv_goto C (pc := 57) 65 dX7_operation_57 (by decide) ?_
          cases h
          exact tv_iret C (pc := 65) rfl dX7_operation_65 ⟨Nat.le_of_ble_eq_true rfl, Nat.le_of_ble_eq_true rfl⟩
      · have h := ts_ifp h hc
        refine tv_aload_n C (pc := 29) dX7_operation_29 rfl rfl ?_
        refine tv_iconst C (pc := 30) dX7_operation_30 (v := (1 : Int32)) rfl ?_
        obtain ⟨q10, hq10, h⟩ := ts_bd h
        refine tv_callV C (pc := 31) dX7_operation_31 (ci := 7) (q := (RX7, TX7, 37)) rfl yl_X7_99 (m_X7_fail (D := D) (dT := dT) (sz := sz) (ad := ad) hl (1 : Int32) u1 q10 hq10) (ts_live (k := 30) (by decide) (by decide) (by decide)) rfl (Nat.le_trans (Nat.le_of_ble_eq_true rfl) hdd) (As := [.inl (.int (1 : Int32))]) rfl ⟨Nat.le_of_ble_eq_true rfl, Nat.le_of_ble_eq_true rfl⟩ (fun _ => Nat.le_of_ble_eq_true rfl) rfl ?_
        cases h
        exact tv_iret C (pc := 34) rfl dX7_operation_34 ⟨Nat.le_of_ble_eq_true rfl, Nat.le_of_ble_eq_true rfl⟩
set_option maxRecDepth 100000 in
set_option maxHeartbeats 4000000 in
theorem m_X7_versionCount {l : Launch} {D : va_G} {dT : Nat → ClassId} {sz : Nat} {ad : ts_I → Nat} (hl : l.stackTraces = false) (p1 : Int32) (u : ts_Mem) (r : (Int32 × ts_Mem)) (h : f_X7_versionCount p1 u = some r) : ts_M l D dT sz yX7_versionCount wX7_versionCount 2 0 0 ad ts_lv ts_R0 [.inr (30, 0, 0), .inl (.int p1)] u (.inl (some (.int r.1))) r.2 := by
    unfold f_X7_versionCount at h
    refine ts_enter hl (by decide) rfl rfl (Nat.le_of_ble_eq_true rfl) ?_
    intro p e s m args below meth c C hX hnm
    have C : ts_CX D dT sz p l (ts_rm 2 0 0) s m args meth c RX7 cX7_versionCount 2 (some .int) 2 := C
    have hdd : 2 ≤ 2 := Nat.le_refl _
    refine tv_aload_n C (pc := 0) dX7_versionCount_0 rfl rfl ?_
    refine tv_iconst C (pc := 1) dX7_versionCount_1 (v := (0 : Int32)) rfl ?_
    refine tv_putI C (pc := 2) dX7_versionCount_2 fp_X7_3 (ts_live (k := 30) (by decide) (by decide) (by decide)) rfl (cd := 0) rfl (by decide) rfl rfl ?_
    refine tv_nu (fun u1 hu1 => ?_)
    have h := ts_lt h hu1
    refine tv_iload_n C (pc := 5) dX7_versionCount_5 rfl rfl ?_
    obtain ⟨q2, hq2, h⟩ := ts_bd h
    refine tv_callS C (pc := 6) dX7_versionCount_6 yl_X7_177 (m_X7_isItem (D := D) (dT := dT) (sz := sz) (ad := ad) hl p1 u1 q2 hq2) (Nat.le_trans (Nat.le_of_ble_eq_true rfl) hdd) (As := [.inl (.int p1)]) rfl ⟨Nat.le_of_ble_eq_true rfl, Nat.le_of_ble_eq_true rfl⟩ (fun _ => Nat.le_of_ble_eq_true rfl) rfl ?_
    refine tv_if_eq C (pc := 9) 21 dX7_versionCount_9 (by decide) (fun hc => ?_) (fun hc => ?_)
    · have h := ts_ifp h hc
      refine tv_aload_n C (pc := 21) dX7_versionCount_21 rfl rfl ?_
      refine tv_iconst C (pc := 22) dX7_versionCount_22 (v := (1 : Int32)) rfl ?_
      obtain ⟨q3, hq3, h⟩ := ts_bd h
      refine tv_callV C (pc := 23) dX7_versionCount_23 (ci := 7) (q := (RX7, TX7, 37)) rfl yl_X7_99 (m_X7_fail (D := D) (dT := dT) (sz := sz) (ad := ad) hl (1 : Int32) u1 q3 hq3) (ts_live (k := 30) (by decide) (by decide) (by decide)) rfl (Nat.le_trans (Nat.le_of_ble_eq_true rfl) hdd) (As := [.inl (.int (1 : Int32))]) rfl ⟨Nat.le_of_ble_eq_true rfl, Nat.le_of_ble_eq_true rfl⟩ (fun _ => Nat.le_of_ble_eq_true rfl) rfl ?_
      cases h
      exact tv_iret C (pc := 26) rfl dX7_versionCount_26 ⟨Nat.le_of_ble_eq_true rfl, Nat.le_of_ble_eq_true rfl⟩
    · have h := ts_ifn h hc
      refine tv_aload_n C (pc := 12) dX7_versionCount_12 rfl rfl ?_
      refine tv_getR C (pc := 13) dX7_versionCount_13 fl_X7_43 (ts_live (k := 30) (by decide) (by decide) (by decide)) rfl rfl (i2 := (38, 0, 0)) rfl ?_
      refine tv_iload_n C (pc := 16) dX7_versionCount_16 rfl rfl ?_
      obtain ⟨hr4, h⟩ := ts_gd h
      refine tv_iaload C (pc := 17) dX7_versionCount_17 (ts_live (k := 38) (by decide) (by decide) (by decide)) rfl hr4 (j := p1.toNatClampNeg) rfl ?_
      refine tv_goto C (pc := 18) 26 dX7_versionCount_18 (by decide) ?_
      cases h
      exact tv_iret C (pc := 26) rfl dX7_versionCount_26 ⟨Nat.le_of_ble_eq_true rfl, Nat.le_of_ble_eq_true rfl⟩
set_option maxRecDepth 100000 in
set_option maxHeartbeats 4000000 in
theorem m_X7_isCommitted {l : Launch} {D : va_G} {dT : Nat → ClassId} {sz : Nat} {ad : ts_I → Nat} (hl : l.stackTraces = false) (p1 : Int32) (p2 : Int32) (u : ts_Mem) (r : Int32) (h : f_X7_isCommitted p1 p2 u = some r) : ts_M l D dT sz yX7_isCommitted wX7_isCommitted 1 0 0 ad ts_lv ts_R0 [.inr (30, 0, 0), .inl (.int p1), .inl (.int p2)] u (.inl (some (.int r))) u := by
    unfold f_X7_isCommitted at h
    refine ts_enter hl (by decide) rfl rfl (Nat.le_of_ble_eq_true rfl) ?_
    intro p e s m args below meth c C hX hnm
    have C : ts_CX D dT sz p l (ts_rm 1 0 0) s m args meth c RX7 cX7_isCommitted 3 (some .boolean) 1 := C
    have hdd : 1 ≤ 1 := Nat.le_refl _
    refine tv_aload_n C (pc := 0) dX7_isCommitted_0 rfl rfl ?_
    refine tv_aload_n C (pc := 1) dX7_isCommitted_1 rfl rfl ?_
    refine tv_getR C (pc := 2) dX7_isCommitted_2 fl_X7_46 (ts_live (k := 30) (by decide) (by decide) (by decide)) rfl rfl (i2 := (39, 0, 0)) rfl ?_
    refine tv_iload_n C (pc := 5) dX7_isCommitted_5 rfl rfl ?_
    refine tv_iload_n C (pc := 6) dX7_isCommitted_6 rfl rfl ?_
    obtain ⟨q1, hq1, h⟩ := ts_bd h
    refine tv_callS C (pc := 7) dX7_isCommitted_7 yl_X7_91 (m_X7_place (D := D) (dT := dT) (sz := sz) (ad := ad) hl p1 p2 u q1 hq1) (Nat.le_trans (Nat.le_of_ble_eq_true rfl) hdd) (As := [.inl (.int p1), .inl (.int p2)]) rfl ⟨Nat.le_of_ble_eq_true rfl, Nat.le_of_ble_eq_true rfl⟩ (fun _ => Nat.le_of_ble_eq_true rfl) rfl ?_
    refine tv_iconst C (pc := 10) dX7_isCommitted_10 (v := (3 : Int32)) rfl ?_
    refine tv_iadd C (pc := 11) dX7_isCommitted_11 ?_
    obtain ⟨hr2, h⟩ := ts_gd h
    refine tv_iaload C (pc := 12) dX7_isCommitted_12 (ts_live (k := 39) (by decide) (by decide) (by decide)) rfl hr2 (j := ((q1 + (3 : Int32))).toNatClampNeg) rfl ?_
    obtain ⟨q3, hq3, h⟩ := ts_bd h
    refine tv_callV C (pc := 13) dX7_isCommitted_13 (ci := 7) (q := (RX7, TX7, 37)) rfl yl_X7_117 (m_X7_isUncommitted (D := D) (dT := dT) (sz := sz) (ad := ad) hl (ts_gI u (39, 0, 0) ((q1 + (3 : Int32))).toNatClampNeg) u q3 hq3) (ts_live (k := 30) (by decide) (by decide) (by decide)) rfl (Nat.le_trans (Nat.le_of_ble_eq_true rfl) hdd) (As := [.inl (.int (ts_gI u (39, 0, 0) ((q1 + (3 : Int32))).toNatClampNeg))]) rfl ⟨Nat.le_of_ble_eq_true rfl, Nat.le_of_ble_eq_true rfl⟩ (fun _ => Nat.le_of_ble_eq_true rfl) rfl ?_
    refine tv_if_ne C (pc := 16) 23 dX7_isCommitted_16 (by decide) (fun hc => ?_) (fun hc => ?_)
    · have h := ts_ifn h hc
      refine tv_iconst C (pc := 23) dX7_isCommitted_23 (v := (0 : Int32)) rfl ?_
      cases h
      exact tv_zret C (pc := 24) (v := (0 : Int32)) rfl ts_nz0 dX7_isCommitted_24 ⟨Nat.le_of_ble_eq_true rfl, Nat.le_of_ble_eq_true rfl⟩
    · have h := ts_ifp h hc
      refine tv_iconst C (pc := 19) dX7_isCommitted_19 (v := (1 : Int32)) rfl ?_
      refine tv_goto C (pc := 20) 24 dX7_isCommitted_20 (by decide) ?_
      cases h
      exact tv_zret C (pc := 24) (v := (1 : Int32)) rfl ts_nz1 dX7_isCommitted_24 ⟨Nat.le_of_ble_eq_true rfl, Nat.le_of_ble_eq_true rfl⟩
set_option maxRecDepth 100000 in
set_option maxHeartbeats 4000000 in
theorem m_X7_version {l : Launch} {D : va_G} {dT : Nat → ClassId} {sz : Nat} {ad : ts_I → Nat} (hl : l.stackTraces = false) (p1 : Int32) (p2 : Int32) (p3 : Int32) (u : ts_Mem) (r : (Int32 × ts_Mem)) (h : f_X7_version p1 p2 p3 u = some r) : ts_M l D dT sz yX7_version wX7_version 2 0 0 ad ts_lv ts_R0 [.inr (30, 0, 0), .inl (.int p1), .inl (.int p2), .inl (.int p3)] u (.inl (some (.int r.1))) r.2 := by
    unfold f_X7_version at h
    refine ts_enter hl (by decide) rfl rfl (Nat.le_of_ble_eq_true rfl) ?_
    intro p e s m args below meth c C hX hnm
    have C : ts_CX D dT sz p l (ts_rm 2 0 0) s m args meth c RX7 cX7_version 4 (some .int) 2 := C
    have hdd : 2 ≤ 2 := Nat.le_refl _
    refine tv_aload_n C (pc := 0) dX7_version_0 rfl rfl ?_
    refine tv_iconst C (pc := 1) dX7_version_1 (v := (0 : Int32)) rfl ?_
    refine tv_putI C (pc := 2) dX7_version_2 fp_X7_3 (ts_live (k := 30) (by decide) (by decide) (by decide)) rfl (cd := 0) rfl (by decide) rfl rfl ?_
    refine tv_nu (fun u1 hu1 => ?_)
    have h := ts_lt h hu1
    refine tv_iload_n C (pc := 5) dX7_version_5 rfl rfl ?_
    obtain ⟨q2, hq2, h⟩ := ts_bd h
    refine tv_callS C (pc := 6) dX7_version_6 yl_X7_177 (m_X7_isItem (D := D) (dT := dT) (sz := sz) (ad := ad) hl p1 u1 q2 hq2) (Nat.le_trans (Nat.le_of_ble_eq_true rfl) hdd) (As := [.inl (.int p1)]) rfl ⟨Nat.le_of_ble_eq_true rfl, Nat.le_of_ble_eq_true rfl⟩ (fun _ => Nat.le_of_ble_eq_true rfl) rfl ?_
    refine tv_if_eq C (pc := 9) 28 dX7_version_9 (by decide) (fun hc => ?_) (fun hc => ?_)
    · have h := ts_ifp h hc
      refine tv_aload_n C (pc := 28) dX7_version_28 rfl rfl ?_
      refine tv_iconst C (pc := 29) dX7_version_29 (v := (1 : Int32)) rfl ?_
      obtain ⟨q3, hq3, h⟩ := ts_bd h
      refine tv_callV C (pc := 30) dX7_version_30 (ci := 7) (q := (RX7, TX7, 37)) rfl yl_X7_99 (m_X7_fail (D := D) (dT := dT) (sz := sz) (ad := ad) hl (1 : Int32) u1 q3 hq3) (ts_live (k := 30) (by decide) (by decide) (by decide)) rfl (Nat.le_trans (Nat.le_of_ble_eq_true rfl) hdd) (As := [.inl (.int (1 : Int32))]) rfl ⟨Nat.le_of_ble_eq_true rfl, Nat.le_of_ble_eq_true rfl⟩ (fun _ => Nat.le_of_ble_eq_true rfl) rfl ?_
      cases h
      exact tv_iret C (pc := 33) rfl dX7_version_33 ⟨Nat.le_of_ble_eq_true rfl, Nat.le_of_ble_eq_true rfl⟩
    · have h := ts_ifn h hc
      refine tv_iload_n C (pc := 12) dX7_version_12 rfl rfl ?_
      refine tv_iconst C (pc := 13) dX7_version_13 (v := (0 : Int32)) rfl ?_
      refine tv_aload_n C (pc := 14) dX7_version_14 rfl rfl ?_
      refine tv_getR C (pc := 15) dX7_version_15 fl_X7_43 (ts_live (k := 30) (by decide) (by decide) (by decide)) rfl rfl (i2 := (38, 0, 0)) rfl ?_
      refine tv_iload_n C (pc := 18) dX7_version_18 rfl rfl ?_
      obtain ⟨hr4, h⟩ := ts_gd h
      refine tv_iaload C (pc := 19) dX7_version_19 (ts_live (k := 38) (by decide) (by decide) (by decide)) rfl hr4 (j := p1.toNatClampNeg) rfl ?_
      refine tv_iconst C (pc := 20) dX7_version_20 (v := (1 : Int32)) rfl ?_
      refine tv_isub C (pc := 21) dX7_version_21 ?_
      obtain ⟨q5, hq5, h⟩ := ts_bd h
      refine tv_callS C (pc := 22) dX7_version_22 yl_X7_95 (m_X7_isIn (D := D) (dT := dT) (sz := sz) (ad := ad) hl p2 (0 : Int32) ((ts_gI u1 (38, 0, 0) p1.toNatClampNeg) - (1 : Int32)) u1 q5 hq5) (Nat.le_trans (Nat.le_of_ble_eq_true rfl) hdd) (As := [.inl (.int p2), .inl (.int (0 : Int32)), .inl (.int ((ts_gI u1 (38, 0, 0) p1.toNatClampNeg) - (1 : Int32)))]) rfl ⟨Nat.le_of_ble_eq_true rfl, Nat.le_of_ble_eq_true rfl⟩ (fun _ => Nat.le_of_ble_eq_true rfl) rfl ?_
      refine tv_if_ne C (pc := 25) 34 dX7_version_25 (by decide) (fun hc => ?_) (fun hc => ?_)
      · have h := ts_ifn h hc
        refine tv_iload_n C (pc := 34) dX7_version_34 rfl rfl ?_
        refine tv_iconst C (pc := 35) dX7_version_35 (v := (0 : Int32)) rfl ?_
        refine tv_iconst C (pc := 36) dX7_version_36 (v := (4 : Int32)) rfl ?_
        obtain ⟨q6, hq6, h⟩ := ts_bd h
        refine tv_callS C (pc := 37) dX7_version_37 yl_X7_95 (m_X7_isIn (D := D) (dT := dT) (sz := sz) (ad := ad) hl p3 (0 : Int32) (4 : Int32) u1 q6 hq6) (Nat.le_trans (Nat.le_of_ble_eq_true rfl) hdd) (As := [.inl (.int p3), .inl (.int (0 : Int32)), .inl (.int (4 : Int32))]) rfl ⟨Nat.le_of_ble_eq_true rfl, Nat.le_of_ble_eq_true rfl⟩ (fun _ => Nat.le_of_ble_eq_true rfl) rfl ?_
        refine tv_if_ne C (pc := 40) 49 dX7_version_40 (by decide) (fun hc => ?_) (fun hc => ?_)
        · have h := ts_ifn h hc
          refine tv_iload_n C (pc := 49) dX7_version_49 rfl rfl ?_
          refine tv_iconst C (pc := 50) dX7_version_50 (v := (4 : Int32)) rfl ?_
          refine tv_icmp_ge C (pc := 51) 69 dX7_version_51 (by decide) (fun hc => ?_) (fun hc => ?_)
          · have h := ts_ifp h hc
            refine tv_aload_n C (pc := 69) dX7_version_69 rfl rfl ?_
            refine tv_iload_n C (pc := 70) dX7_version_70 rfl rfl ?_
            refine tv_iload_n C (pc := 71) dX7_version_71 rfl rfl ?_
            obtain ⟨q7, hq7, h⟩ := ts_bd h
            refine tv_callV C (pc := 72) dX7_version_72 (ci := 7) (q := (RX7, TX7, 37)) rfl yl_X7_232 (m_X7_isCommitted (D := D) (dT := dT) (sz := sz) (ad := ad) hl p1 p2 u1 q7 hq7) (ts_live (k := 30) (by decide) (by decide) (by decide)) rfl (Nat.le_trans (Nat.le_of_ble_eq_true rfl) hdd) (As := [.inl (.int p1), .inl (.int p2)]) rfl ⟨Nat.le_of_ble_eq_true rfl, Nat.le_of_ble_eq_true rfl⟩ (fun _ => Nat.le_of_ble_eq_true rfl) rfl ?_
            refine tv_if_eq C (pc := 75) 82 dX7_version_75 (by decide) (fun hc => ?_) (fun hc => ?_)
            · have h := ts_ifp h hc
              refine tv_iconst C (pc := 82) dX7_version_82 (v := (0 : Int32)) rfl ?_
              cases h
              exact tv_iret C (pc := 83) rfl dX7_version_83 ⟨Nat.le_of_ble_eq_true rfl, Nat.le_of_ble_eq_true rfl⟩
            · have h := ts_ifn h hc
              refine tv_iconst C (pc := 78) dX7_version_78 (v := (1 : Int32)) rfl ?_
              refine tv_goto C (pc := 79) 83 dX7_version_79 (by decide) ?_
              cases h
              exact tv_iret C (pc := 83) rfl dX7_version_83 ⟨Nat.le_of_ble_eq_true rfl, Nat.le_of_ble_eq_true rfl⟩
          · have h := ts_ifn h hc
            refine tv_aload_n C (pc := 54) dX7_version_54 rfl rfl ?_
            refine tv_getR C (pc := 55) dX7_version_55 fl_X7_46 (ts_live (k := 30) (by decide) (by decide) (by decide)) rfl rfl (i2 := (39, 0, 0)) rfl ?_
            refine tv_iload_n C (pc := 58) dX7_version_58 rfl rfl ?_
            refine tv_iload_n C (pc := 59) dX7_version_59 rfl rfl ?_
            obtain ⟨q8, hq8, h⟩ := ts_bd h
            refine tv_callS C (pc := 60) dX7_version_60 yl_X7_91 (m_X7_place (D := D) (dT := dT) (sz := sz) (ad := ad) hl p1 p2 u1 q8 hq8) (Nat.le_trans (Nat.le_of_ble_eq_true rfl) hdd) (As := [.inl (.int p1), .inl (.int p2)]) rfl ⟨Nat.le_of_ble_eq_true rfl, Nat.le_of_ble_eq_true rfl⟩ (fun _ => Nat.le_of_ble_eq_true rfl) rfl ?_
            refine tv_iload_n C (pc := 63) dX7_version_63 rfl rfl ?_
            refine tv_iadd C (pc := 64) dX7_version_64 ?_
            obtain ⟨hr9, h⟩ := ts_gd h
            refine tv_iaload C (pc := 65) dX7_version_65 (ts_live (k := 39) (by decide) (by decide) (by decide)) rfl hr9 (j := ((q8 + p3)).toNatClampNeg) rfl ?_
            refine tv_goto C (pc := 66) 83 dX7_version_66 (by decide) ?_
            cases h
            exact tv_iret C (pc := 83) rfl dX7_version_83 ⟨Nat.le_of_ble_eq_true rfl, Nat.le_of_ble_eq_true rfl⟩
        · have h := ts_ifp h hc
          refine tv_aload_n C (pc := 43) dX7_version_43 rfl rfl ?_
          refine tv_iconst C (pc := 44) dX7_version_44 (v := (2 : Int32)) rfl ?_
          obtain ⟨q10, hq10, h⟩ := ts_bd h
          refine tv_callV C (pc := 45) dX7_version_45 (ci := 7) (q := (RX7, TX7, 37)) rfl yl_X7_99 (m_X7_fail (D := D) (dT := dT) (sz := sz) (ad := ad) hl (2 : Int32) u1 q10 hq10) (ts_live (k := 30) (by decide) (by decide) (by decide)) rfl (Nat.le_trans (Nat.le_of_ble_eq_true rfl) hdd) (As := [.inl (.int (2 : Int32))]) rfl ⟨Nat.le_of_ble_eq_true rfl, Nat.le_of_ble_eq_true rfl⟩ (fun _ => Nat.le_of_ble_eq_true rfl) rfl ?_
          cases h
          exact tv_iret C (pc := 48) rfl dX7_version_48 ⟨Nat.le_of_ble_eq_true rfl, Nat.le_of_ble_eq_true rfl⟩
      · have h := ts_ifp h hc
        refine tv_aload_n C (pc := 28) dX7_version_28 rfl rfl ?_
        refine tv_iconst C (pc := 29) dX7_version_29 (v := (1 : Int32)) rfl ?_
        obtain ⟨q11, hq11, h⟩ := ts_bd h
        refine tv_callV C (pc := 30) dX7_version_30 (ci := 7) (q := (RX7, TX7, 37)) rfl yl_X7_99 (m_X7_fail (D := D) (dT := dT) (sz := sz) (ad := ad) hl (1 : Int32) u1 q11 hq11) (ts_live (k := 30) (by decide) (by decide) (by decide)) rfl (Nat.le_trans (Nat.le_of_ble_eq_true rfl) hdd) (As := [.inl (.int (1 : Int32))]) rfl ⟨Nat.le_of_ble_eq_true rfl, Nat.le_of_ble_eq_true rfl⟩ (fun _ => Nat.le_of_ble_eq_true rfl) rfl ?_
        cases h
        exact tv_iret C (pc := 33) rfl dX7_version_33 ⟨Nat.le_of_ble_eq_true rfl, Nat.le_of_ble_eq_true rfl⟩
set_option maxRecDepth 100000 in
set_option maxHeartbeats 4000000 in
theorem lt_X7_lastCommitted_5 {D : va_G} {dT : Nat → ClassId} {sz : Nat} {p : Program} {l : Launch} {e : Env} {R : Room} {s : State} {m : MethodId} {args : Array Value} {below : List Frame} {meth : Method} {c : Code} {d : Nat} {ad : ts_I → Nat} {kk nn : Nat} {Q : State → Prop} (hl : l.stackTraces = false) (C : ts_CX D dT sz p l R s m args meth c RX7 cX7_lastCommitted 5 (some .int) d) (hdd : 2 ≤ d) (c1 : Int32) (c2 : Int32) (u : ts_Mem) (hkn : kk ≤ R.cells ∧ nn ≤ R.slots) : ∀ (n : Nat) (v3 : Int32) (v4 : Int32) (q : (Int32 × Int32)) (h : lp_X7_lastCommitted_5 c1 c2 u n v3 v4 = some q) (K : ts_V D dT sz p l e R s m args below meth c 5 Q ad ts_lv ts_R0 50 [some (.inr (30, 0, 0)), some (.inl (.int c1)), some (.inl (.int c2)), some (.inl (.int q.1)), some (.inl (.int q.2))] [] u kk nn), ts_V D dT sz p l e R s m args below meth c 5 Q ad ts_lv ts_R0 5 [some (.inr (30, 0, 0)), some (.inl (.int c1)), some (.inl (.int c2)), some (.inl (.int v3)), some (.inl (.int v4))] [] u kk nn
  | 0, _, _, _, h, _ => by cases h
  | n + 1, v3, v4, q, h, K => by
      rw [lp_X7_lastCommitted_5] at h
      refine tv_iload C (pc := 5) dX7_lastCommitted_5 rfl ?_
      refine tv_aload_n C (pc := 7) dX7_lastCommitted_7 rfl rfl ?_
      refine tv_getR C (pc := 8) dX7_lastCommitted_8 fl_X7_43 (ts_live (k := 30) (by decide) (by decide) (by decide)) rfl rfl (i2 := (38, 0, 0)) rfl ?_
      refine tv_iload_n C (pc := 11) dX7_lastCommitted_11 rfl rfl ?_
      obtain ⟨hr1, h⟩ := ts_gd h
      refine tv_iaload C (pc := 12) dX7_lastCommitted_12 (ts_live (k := 38) (by decide) (by decide) (by decide)) rfl hr1 (j := c1.toNatClampNeg) rfl ?_
      refine tv_icmp_ge C (pc := 13) 50 dX7_lastCommitted_13 (by decide) (fun hc => ?_) (fun hc => ?_)
      · have h := ts_ifp h hc
        cases h
        exact K
      · have h := ts_ifn h hc
        refine tv_aload_n C (pc := 16) dX7_lastCommitted_16 rfl rfl ?_
        refine tv_iload_n C (pc := 17) dX7_lastCommitted_17 rfl rfl ?_
        refine tv_iload C (pc := 18) dX7_lastCommitted_18 rfl ?_
        obtain ⟨q2, hq2, h⟩ := ts_bd h
        refine tv_callV C (pc := 20) dX7_lastCommitted_20 (ci := 7) (q := (RX7, TX7, 37)) rfl yl_X7_232 (m_X7_isCommitted (D := D) (dT := dT) (sz := sz) (ad := ad) hl c1 v4 u q2 hq2) (ts_live (k := 30) (by decide) (by decide) (by decide)) rfl (Nat.le_trans (Nat.le_of_ble_eq_true rfl) hdd) (As := [.inl (.int c1), .inl (.int v4)]) rfl ⟨hkn.1, hkn.2⟩ (fun _ => Nat.le_of_ble_eq_true rfl) rfl ?_
        refine tv_if_eq C (pc := 23) 42 dX7_lastCommitted_23 (by decide) (fun hc => ?_) (fun hc => ?_)
        · have h := ts_ifp h hc
          refine tv_iload_n C (pc := 42) dX7_lastCommitted_42 rfl rfl ?_
          refine tv_istore_n C (pc := 43) dX7_lastCommitted_43 (L' := [some (.inr (30, 0, 0)), some (.inl (.int c1)), some (.inl (.int c2)), some (.inl (.int v3)), some (.inl (.int v4))]) rfl (by decide) rfl rfl ?_
          refine tv_iinc C (pc := 44) dX7_lastCommitted_44 (v := (v4 + (1 : Int32))) (L' := [some (.inr (30, 0, 0)), some (.inl (.int c1)), some (.inl (.int c2)), some (.inl (.int v3)), some (.inl (.int (v4 + (1 : Int32))))]) rfl rfl (by decide) rfl rfl ?_
          refine tv_goto C (pc := 47) 5 dX7_lastCommitted_47 (by decide) ?_
          exact lt_X7_lastCommitted_5 hl C hdd c1 c2 u hkn n v3 (v4 + (1 : Int32)) q h K
        · have h := ts_ifn h hc
          refine tv_aload_n C (pc := 26) dX7_lastCommitted_26 rfl rfl ?_
          refine tv_iload_n C (pc := 27) dX7_lastCommitted_27 rfl rfl ?_
          refine tv_iload C (pc := 28) dX7_lastCommitted_28 rfl ?_
          obtain ⟨q3, hq3, h⟩ := ts_bd h
          refine tv_callV C (pc := 30) dX7_lastCommitted_30 (ci := 7) (q := (RX7, TX7, 37)) rfl yl_X7_140 (m_X7_written (D := D) (dT := dT) (sz := sz) (ad := ad) hl c1 v4 u q3 hq3) (ts_live (k := 30) (by decide) (by decide) (by decide)) rfl (Nat.le_trans (Nat.le_of_ble_eq_true rfl) hdd) (As := [.inl (.int c1), .inl (.int v4)]) rfl ⟨hkn.1, hkn.2⟩ (fun _ => Nat.le_of_ble_eq_true rfl) rfl ?_
          refine tv_iload_n C (pc := 33) dX7_lastCommitted_33 rfl rfl ?_
          refine tv_icmp_gt C (pc := 34) 42 dX7_lastCommitted_34 (by decide) (fun hc => ?_) (fun hc => ?_)
          · have h := ts_ifp h hc
            refine tv_iload_n C (pc := 42) dX7_lastCommitted_42 rfl rfl ?_
            refine tv_istore_n C (pc := 43) dX7_lastCommitted_43 (L' := [some (.inr (30, 0, 0)), some (.inl (.int c1)), some (.inl (.int c2)), some (.inl (.int v3)), some (.inl (.int v4))]) rfl (by decide) rfl rfl ?_
            refine tv_iinc C (pc := 44) dX7_lastCommitted_44 (v := (v4 + (1 : Int32))) (L' := [some (.inr (30, 0, 0)), some (.inl (.int c1)), some (.inl (.int c2)), some (.inl (.int v3)), some (.inl (.int (v4 + (1 : Int32))))]) rfl rfl (by decide) rfl rfl ?_
            refine tv_goto C (pc := 47) 5 dX7_lastCommitted_47 (by decide) ?_
            exact lt_X7_lastCommitted_5 hl C hdd c1 c2 u hkn n v3 (v4 + (1 : Int32)) q h K
          · have h := ts_ifn h hc
            refine tv_iload C (pc := 37) dX7_lastCommitted_37 rfl ?_
            refine tv_goto C (pc := 39) 43 dX7_lastCommitted_39 (by decide) ?_
            refine tv_istore_n C (pc := 43) dX7_lastCommitted_43 (L' := [some (.inr (30, 0, 0)), some (.inl (.int c1)), some (.inl (.int c2)), some (.inl (.int v4)), some (.inl (.int v4))]) rfl (by decide) rfl rfl ?_
            refine tv_iinc C (pc := 44) dX7_lastCommitted_44 (v := (v4 + (1 : Int32))) (L' := [some (.inr (30, 0, 0)), some (.inl (.int c1)), some (.inl (.int c2)), some (.inl (.int v4)), some (.inl (.int (v4 + (1 : Int32))))]) rfl rfl (by decide) rfl rfl ?_
            refine tv_goto C (pc := 47) 5 dX7_lastCommitted_47 (by decide) ?_
            exact lt_X7_lastCommitted_5 hl C hdd c1 c2 u hkn n v4 (v4 + (1 : Int32)) q h K
set_option maxRecDepth 100000 in
set_option maxHeartbeats 4000000 in
theorem m_X7_lastCommitted {l : Launch} {D : va_G} {dT : Nat → ClassId} {sz : Nat} {ad : ts_I → Nat} (hl : l.stackTraces = false) (p1 : Int32) (p2 : Int32) (u : ts_Mem) (r : Int32) (h : f_X7_lastCommitted p1 p2 u = some r) : ts_M l D dT sz yX7_lastCommitted wX7_lastCommitted 2 0 0 ad ts_lv ts_R0 [.inr (30, 0, 0), .inl (.int p1), .inl (.int p2)] u (.inl (some (.int r))) u := by
    unfold f_X7_lastCommitted at h
    refine ts_enter hl (by decide) rfl rfl (Nat.le_of_ble_eq_true rfl) ?_
    intro p e s m args below meth c C hX hnm
    have C : ts_CX D dT sz p l (ts_rm 2 0 0) s m args meth c RX7 cX7_lastCommitted 5 (some .int) 2 := C
    have hdd : 2 ≤ 2 := Nat.le_refl _
    refine tv_iconst C (pc := 0) dX7_lastCommitted_0 (v := (-1 : Int32)) rfl ?_
    refine tv_istore_n C (pc := 1) dX7_lastCommitted_1 (L' := [some (.inr (30, 0, 0)), some (.inl (.int p1)), some (.inl (.int p2)), some (.inl (.int (-1 : Int32))), none]) rfl (by decide) rfl rfl ?_
    refine tv_iconst C (pc := 2) dX7_lastCommitted_2 (v := (0 : Int32)) rfl ?_
    refine tv_istore C (pc := 3) dX7_lastCommitted_3 (L' := [some (.inr (30, 0, 0)), some (.inl (.int p1)), some (.inl (.int p2)), some (.inl (.int (-1 : Int32))), some (.inl (.int (0 : Int32)))]) (by decide) rfl rfl ?_
    obtain ⟨q4, hq4, h⟩ := ts_bd h
    refine lt_X7_lastCommitted_5 hl C hdd p1 p2 u ⟨Nat.le_of_ble_eq_true rfl, Nat.le_of_ble_eq_true rfl⟩ ts_fu (-1 : Int32) (0 : Int32) q4 hq4 ?_
    refine tv_iload_n C (pc := 50) dX7_lastCommitted_50 rfl rfl ?_
    cases h
    exact tv_iret C (pc := 51) rfl dX7_lastCommitted_51 ⟨Nat.le_of_ble_eq_true rfl, Nat.le_of_ble_eq_true rfl⟩
set_option maxRecDepth 100000 in
set_option maxHeartbeats 4000000 in
theorem m_X7_valueAt {l : Launch} {D : va_G} {dT : Nat → ClassId} {sz : Nat} {ad : ts_I → Nat} (hl : l.stackTraces = false) (p1 : Int32) (p2 : Int32) (u : ts_Mem) (r : (Int32 × ts_Mem)) (h : f_X7_valueAt p1 p2 u = some r) : ts_M l D dT sz yX7_valueAt wX7_valueAt 3 0 0 ad ts_lv ts_R0 [.inr (30, 0, 0), .inl (.int p1), .inl (.int p2)] u (.inl (some (.int r.1))) r.2 := by
    unfold f_X7_valueAt at h
    refine ts_enter hl (by decide) rfl rfl (Nat.le_of_ble_eq_true rfl) ?_
    intro p e s m args below meth c C hX hnm
    have C : ts_CX D dT sz p l (ts_rm 3 0 0) s m args meth c RX7 cX7_valueAt 4 (some .int) 3 := C
    have hdd : 3 ≤ 3 := Nat.le_refl _
    refine tv_aload_n C (pc := 0) dX7_valueAt_0 rfl rfl ?_
    refine tv_iconst C (pc := 1) dX7_valueAt_1 (v := (0 : Int32)) rfl ?_
    refine tv_putI C (pc := 2) dX7_valueAt_2 fp_X7_3 (ts_live (k := 30) (by decide) (by decide) (by decide)) rfl (cd := 0) rfl (by decide) rfl rfl ?_
    refine tv_nu (fun u1 hu1 => ?_)
    have h := ts_lt h hu1
    refine tv_iload_n C (pc := 5) dX7_valueAt_5 rfl rfl ?_
    obtain ⟨q2, hq2, h⟩ := ts_bd h
    refine tv_callS C (pc := 6) dX7_valueAt_6 yl_X7_177 (m_X7_isItem (D := D) (dT := dT) (sz := sz) (ad := ad) hl p1 u1 q2 hq2) (Nat.le_trans (Nat.le_of_ble_eq_true rfl) hdd) (As := [.inl (.int p1)]) rfl ⟨Nat.le_of_ble_eq_true rfl, Nat.le_of_ble_eq_true rfl⟩ (fun _ => Nat.le_of_ble_eq_true rfl) rfl ?_
    refine tv_if_ne C (pc := 9) 18 dX7_valueAt_9 (by decide) (fun hc => ?_) (fun hc => ?_)
    · have h := ts_ifn h hc
      refine tv_aload_n C (pc := 18) dX7_valueAt_18 rfl rfl ?_
      refine tv_iload_n C (pc := 19) dX7_valueAt_19 rfl rfl ?_
      refine tv_iload_n C (pc := 20) dX7_valueAt_20 rfl rfl ?_
      obtain ⟨q3, hq3, h⟩ := ts_bd h
      refine tv_callV C (pc := 21) dX7_valueAt_21 (ci := 7) (q := (RX7, TX7, 37)) rfl yl_X7_235 (m_X7_lastCommitted (D := D) (dT := dT) (sz := sz) (ad := ad) hl p1 p2 u1 q3 hq3) (ts_live (k := 30) (by decide) (by decide) (by decide)) rfl (Nat.le_trans (Nat.le_of_ble_eq_true rfl) hdd) (As := [.inl (.int p1), .inl (.int p2)]) rfl ⟨Nat.le_of_ble_eq_true rfl, Nat.le_of_ble_eq_true rfl⟩ (fun _ => Nat.le_of_ble_eq_true rfl) rfl ?_
      refine tv_istore_n C (pc := 24) dX7_valueAt_24 (L' := [some (.inr (30, 0, 0)), some (.inl (.int p1)), some (.inl (.int p2)), some (.inl (.int q3))]) rfl (by decide) rfl rfl ?_
      refine tv_iload_n C (pc := 25) dX7_valueAt_25 rfl rfl ?_
      refine tv_iconst C (pc := 26) dX7_valueAt_26 (v := (-1 : Int32)) rfl ?_
      refine tv_icmp_ne C (pc := 27) 38 dX7_valueAt_27 (by decide) (fun hc => ?_) (fun hc => ?_)
      · have h := ts_ifn h hc
        refine tv_aload_n C (pc := 38) dX7_valueAt_38 rfl rfl ?_
        refine tv_getR C (pc := 39) dX7_valueAt_39 fl_X7_46 (ts_live (k := 30) (by decide) (by decide) (by decide)) rfl rfl (i2 := (39, 0, 0)) rfl ?_
        refine tv_iload_n C (pc := 42) dX7_valueAt_42 rfl rfl ?_
        refine tv_iload_n C (pc := 43) dX7_valueAt_43 rfl rfl ?_
        obtain ⟨q4, hq4, h⟩ := ts_bd h
        refine tv_callS C (pc := 44) dX7_valueAt_44 yl_X7_91 (m_X7_place (D := D) (dT := dT) (sz := sz) (ad := ad) hl p1 q3 u1 q4 hq4) (Nat.le_trans (Nat.le_of_ble_eq_true rfl) hdd) (As := [.inl (.int p1), .inl (.int q3)]) rfl ⟨Nat.le_of_ble_eq_true rfl, Nat.le_of_ble_eq_true rfl⟩ (fun _ => Nat.le_of_ble_eq_true rfl) rfl ?_
        refine tv_iconst C (pc := 47) dX7_valueAt_47 (v := (2 : Int32)) rfl ?_
        refine tv_iadd C (pc := 48) dX7_valueAt_48 ?_
        obtain ⟨hr5, h⟩ := ts_gd h
        refine tv_iaload C (pc := 49) dX7_valueAt_49 (ts_live (k := 39) (by decide) (by decide) (by decide)) rfl hr5 (j := ((q4 + (2 : Int32))).toNatClampNeg) rfl ?_
        cases h
        exact tv_iret C (pc := 50) rfl dX7_valueAt_50 ⟨Nat.le_of_ble_eq_true rfl, Nat.le_of_ble_eq_true rfl⟩
      · have h := ts_ifp h hc
        refine tv_aload_n C (pc := 30) dX7_valueAt_30 rfl rfl ?_
        refine tv_iconst C (pc := 31) dX7_valueAt_31 (v := (2 : Int32)) rfl ?_
        obtain ⟨q6, hq6, h⟩ := ts_bd h
        refine tv_callV C (pc := 32) dX7_valueAt_32 (ci := 7) (q := (RX7, TX7, 37)) rfl yl_X7_99 (m_X7_fail (D := D) (dT := dT) (sz := sz) (ad := ad) hl (2 : Int32) u1 q6 hq6) (ts_live (k := 30) (by decide) (by decide) (by decide)) rfl (Nat.le_trans (Nat.le_of_ble_eq_true rfl) hdd) (As := [.inl (.int (2 : Int32))]) rfl ⟨Nat.le_of_ble_eq_true rfl, Nat.le_of_ble_eq_true rfl⟩ (fun _ => Nat.le_of_ble_eq_true rfl) rfl ?_
        refine tv_goto C (pc := 35) 50 dX7_valueAt_35 (by decide) ?_
        cases h
        exact tv_iret C (pc := 50) rfl dX7_valueAt_50 ⟨Nat.le_of_ble_eq_true rfl, Nat.le_of_ble_eq_true rfl⟩
    · have h := ts_ifp h hc
      refine tv_aload_n C (pc := 12) dX7_valueAt_12 rfl rfl ?_
      refine tv_iconst C (pc := 13) dX7_valueAt_13 (v := (1 : Int32)) rfl ?_
      obtain ⟨q7, hq7, h⟩ := ts_bd h
      refine tv_callV C (pc := 14) dX7_valueAt_14 (ci := 7) (q := (RX7, TX7, 37)) rfl yl_X7_99 (m_X7_fail (D := D) (dT := dT) (sz := sz) (ad := ad) hl (1 : Int32) u1 q7 hq7) (ts_live (k := 30) (by decide) (by decide) (by decide)) rfl (Nat.le_trans (Nat.le_of_ble_eq_true rfl) hdd) (As := [.inl (.int (1 : Int32))]) rfl ⟨Nat.le_of_ble_eq_true rfl, Nat.le_of_ble_eq_true rfl⟩ (fun _ => Nat.le_of_ble_eq_true rfl) rfl ?_
      cases h
      exact tv_iret C (pc := 17) rfl dX7_valueAt_17 ⟨Nat.le_of_ble_eq_true rfl, Nat.le_of_ble_eq_true rfl⟩
set_option maxRecDepth 100000 in
set_option maxHeartbeats 4000000 in
theorem lt_X7_horizonNow_7 {D : va_G} {dT : Nat → ClassId} {sz : Nat} {p : Program} {l : Launch} {e : Env} {R : Room} {s : State} {m : MethodId} {args : Array Value} {below : List Frame} {meth : Method} {c : Code} {d : Nat} {ad : ts_I → Nat} {kk nn : Nat} {Q : State → Prop} (hl : l.stackTraces = false) (C : ts_CX D dT sz p l R s m args meth c RX7 cX7_horizonNow 3 (some .int) d) (hdd : 1 ≤ d)  (u : ts_Mem) (hkn : kk ≤ R.cells ∧ nn ≤ R.slots) : ∀ (n : Nat) (v1 : Int32) (v2 : Int32) (q : (Int32 × Int32)) (h : lp_X7_horizonNow_7 u n v1 v2 = some q) (K : ts_V D dT sz p l e R s m args below meth c 3 Q ad ts_lv ts_R0 44 [some (.inr (30, 0, 0)), some (.inl (.int q.1)), some (.inl (.int q.2))] [] u kk nn), ts_V D dT sz p l e R s m args below meth c 3 Q ad ts_lv ts_R0 7 [some (.inr (30, 0, 0)), some (.inl (.int v1)), some (.inl (.int v2))] [] u kk nn
  | 0, _, _, _, h, _ => by cases h
  | n + 1, v1, v2, q, h, K => by
      rw [lp_X7_horizonNow_7] at h
      refine tv_iload_n C (pc := 7) dX7_horizonNow_7 rfl rfl ?_
      refine tv_aload_n C (pc := 8) dX7_horizonNow_8 rfl rfl ?_
      refine tv_getI C (pc := 9) dX7_horizonNow_9 fl_X7_103 (ts_live (k := 30) (by decide) (by decide) (by decide)) rfl (cd := 0) rfl (by decide) ?_
      refine tv_icmp_ge C (pc := 12) 44 dX7_horizonNow_12 (by decide) (fun hc => ?_) (fun hc => ?_)
      · have h := ts_ifp h hc
        cases h
        exact K
      · have h := ts_ifn h hc
        refine tv_aload_n C (pc := 15) dX7_horizonNow_15 rfl rfl ?_
        refine tv_iload_n C (pc := 16) dX7_horizonNow_16 rfl rfl ?_
        obtain ⟨q2, hq2, h⟩ := ts_bd h
        refine tv_callV C (pc := 17) dX7_horizonNow_17 (ci := 7) (q := (RX7, TX7, 37)) rfl yl_X7_117 (m_X7_isUncommitted (D := D) (dT := dT) (sz := sz) (ad := ad) hl v2 u q2 hq2) (ts_live (k := 30) (by decide) (by decide) (by decide)) rfl (Nat.le_trans (Nat.le_of_ble_eq_true rfl) hdd) (As := [.inl (.int v2)]) rfl ⟨hkn.1, hkn.2⟩ (fun _ => Nat.le_of_ble_eq_true rfl) rfl ?_
        refine tv_if_eq C (pc := 20) 36 dX7_horizonNow_20 (by decide) (fun hc => ?_) (fun hc => ?_)
        · have h := ts_ifp h hc
          refine tv_iload_n C (pc := 36) dX7_horizonNow_36 rfl rfl ?_
          refine tv_istore_n C (pc := 37) dX7_horizonNow_37 (L' := [some (.inr (30, 0, 0)), some (.inl (.int v1)), some (.inl (.int v2))]) rfl (by decide) rfl rfl ?_
          refine tv_iinc C (pc := 38) dX7_horizonNow_38 (v := (v2 + (1 : Int32))) (L' := [some (.inr (30, 0, 0)), some (.inl (.int v1)), some (.inl (.int (v2 + (1 : Int32))))]) rfl rfl (by decide) rfl rfl ?_
          refine tv_goto C (pc := 41) 7 dX7_horizonNow_41 (by decide) ?_
          exact lt_X7_horizonNow_7 hl C hdd  u hkn n v1 (v2 + (1 : Int32)) q h K
        · have h := ts_ifn h hc
          refine tv_iload_n C (pc := 23) dX7_horizonNow_23 rfl rfl ?_
          refine tv_aload_n C (pc := 24) dX7_horizonNow_24 rfl rfl ?_
          refine tv_getR C (pc := 25) dX7_horizonNow_25 fl_X7_25 (ts_live (k := 30) (by decide) (by decide) (by decide)) rfl rfl (i2 := (32, 0, 0)) rfl ?_
          refine tv_iload_n C (pc := 28) dX7_horizonNow_28 rfl rfl ?_
          obtain ⟨hr3, h⟩ := ts_gd h
          refine tv_iaload C (pc := 29) dX7_horizonNow_29 (ts_live (k := 32) (by decide) (by decide) (by decide)) rfl hr3 (j := v2.toNatClampNeg) rfl ?_
          refine tv_min C (pc := 30) dX7_horizonNow_30 ml_X7_238 ts_mn ⟨hkn.1, hkn.2⟩ (fun _ => Nat.le_of_ble_eq_true rfl) ?_
          refine tv_goto C (pc := 33) 37 dX7_horizonNow_33 (by decide) ?_
          refine tv_nmI (fun x4 hx4 => ?_)
          have h := ts_lt h hx4
          refine tv_istore_n C (pc := 37) dX7_horizonNow_37 (L' := [some (.inr (30, 0, 0)), some (.inl (.int x4)), some (.inl (.int v2))]) rfl (by decide) rfl rfl ?_
          refine tv_iinc C (pc := 38) dX7_horizonNow_38 (v := (v2 + (1 : Int32))) (L' := [some (.inr (30, 0, 0)), some (.inl (.int x4)), some (.inl (.int (v2 + (1 : Int32))))]) rfl rfl (by decide) rfl rfl ?_
          refine tv_goto C (pc := 41) 7 dX7_horizonNow_41 (by decide) ?_
          exact lt_X7_horizonNow_7 hl C hdd  u hkn n x4 (v2 + (1 : Int32)) q h K
set_option maxRecDepth 100000 in
set_option maxHeartbeats 4000000 in
theorem m_X7_horizonNow {l : Launch} {D : va_G} {dT : Nat → ClassId} {sz : Nat} {ad : ts_I → Nat} (hl : l.stackTraces = false)  (u : ts_Mem) (r : Int32) (h : f_X7_horizonNow  u = some r) : ts_M l D dT sz yX7_horizonNow wX7_horizonNow 1 0 0 ad ts_lv ts_R0 [.inr (30, 0, 0)] u (.inl (some (.int r))) u := by
    unfold f_X7_horizonNow at h
    refine ts_enter hl (by decide) rfl rfl (Nat.le_of_ble_eq_true rfl) ?_
    intro p e s m args below meth c C hX hnm
    have C : ts_CX D dT sz p l (ts_rm 1 0 0) s m args meth c RX7 cX7_horizonNow 3 (some .int) 1 := C
    have hdd : 1 ≤ 1 := Nat.le_refl _
    refine tv_aload_n C (pc := 0) dX7_horizonNow_0 rfl rfl ?_
    refine tv_getI C (pc := 1) dX7_horizonNow_1 fl_X7_18 (ts_live (k := 30) (by decide) (by decide) (by decide)) rfl (cd := 0) rfl (by decide) ?_
    refine tv_nmI (fun x1 hx1 => ?_)
    have h := ts_lt h hx1
    refine tv_istore_n C (pc := 4) dX7_horizonNow_4 (L' := [some (.inr (30, 0, 0)), some (.inl (.int x1)), none]) rfl (by decide) rfl rfl ?_
    refine tv_iconst C (pc := 5) dX7_horizonNow_5 (v := (0 : Int32)) rfl ?_
    refine tv_istore_n C (pc := 6) dX7_horizonNow_6 (L' := [some (.inr (30, 0, 0)), some (.inl (.int x1)), some (.inl (.int (0 : Int32)))]) rfl (by decide) rfl rfl ?_
    obtain ⟨q5, hq5, h⟩ := ts_bd h
    refine lt_X7_horizonNow_7 hl C hdd  u ⟨Nat.le_of_ble_eq_true rfl, Nat.le_of_ble_eq_true rfl⟩ ts_fu x1 (0 : Int32) q5 hq5 ?_
    refine tv_iload_n C (pc := 44) dX7_horizonNow_44 rfl rfl ?_
    cases h
    exact tv_iret C (pc := 45) rfl dX7_horizonNow_45 ⟨Nat.le_of_ble_eq_true rfl, Nat.le_of_ble_eq_true rfl⟩
set_option maxRecDepth 100000 in
set_option maxHeartbeats 4000000 in
theorem m_X7_horizon {l : Launch} {D : va_G} {dT : Nat → ClassId} {sz : Nat} {ad : ts_I → Nat} (hl : l.stackTraces = false)  (u : ts_Mem) (r : (Int32 × ts_Mem)) (h : f_X7_horizon  u = some r) : ts_M l D dT sz yX7_horizon wX7_horizon 2 0 0 ad ts_lv ts_R0 [.inr (30, 0, 0)] u (.inl (some (.int r.1))) r.2 := by
    unfold f_X7_horizon at h
    refine ts_enter hl (by decide) rfl rfl (Nat.le_of_ble_eq_true rfl) ?_
    intro p e s m args below meth c C hX hnm
    have C : ts_CX D dT sz p l (ts_rm 2 0 0) s m args meth c RX7 cX7_horizon 1 (some .int) 2 := C
    have hdd : 2 ≤ 2 := Nat.le_refl _
    refine tv_aload_n C (pc := 0) dX7_horizon_0 rfl rfl ?_
    refine tv_iconst C (pc := 1) dX7_horizon_1 (v := (0 : Int32)) rfl ?_
    refine tv_putI C (pc := 2) dX7_horizon_2 fp_X7_3 (ts_live (k := 30) (by decide) (by decide) (by decide)) rfl (cd := 0) rfl (by decide) rfl rfl ?_
    refine tv_nu (fun u1 hu1 => ?_)
    have h := ts_lt h hu1
    refine tv_aload_n C (pc := 5) dX7_horizon_5 rfl rfl ?_
    obtain ⟨q2, hq2, h⟩ := ts_bd h
    refine tv_callV C (pc := 6) dX7_horizon_6 (ci := 7) (q := (RX7, TX7, 37)) rfl yl_X7_241 (m_X7_horizonNow (D := D) (dT := dT) (sz := sz) (ad := ad) hl  u1 q2 hq2) (ts_live (k := 30) (by decide) (by decide) (by decide)) rfl (Nat.le_trans (Nat.le_of_ble_eq_true rfl) hdd) (As := []) rfl ⟨Nat.le_of_ble_eq_true rfl, Nat.le_of_ble_eq_true rfl⟩ (fun _ => Nat.le_of_ble_eq_true rfl) rfl ?_
    cases h
    exact tv_iret C (pc := 9) rfl dX7_horizon_9 ⟨Nat.le_of_ble_eq_true rfl, Nat.le_of_ble_eq_true rfl⟩
set_option maxRecDepth 100000 in
set_option maxHeartbeats 4000000 in
theorem lt_X7_collect_36 {D : va_G} {dT : Nat → ClassId} {sz : Nat} {p : Program} {l : Launch} {e : Env} {R : Room} {s : State} {m : MethodId} {args : Array Value} {below : List Frame} {meth : Method} {c : Code} {d : Nat} {ad : ts_I → Nat} {kk nn : Nat} {Q : State → Prop} (hl : l.stackTraces = false) (C : ts_CX D dT sz p l R s m args meth c RX7 cX7_collect 7 (some .int) d) (hdd : 3 ≤ d) (c1 : Int32) (c2 : Int32) (c3 : Int32) (c4 : Int32) (hkn : kk ≤ R.cells ∧ nn ≤ R.slots) : ∀ (n : Nat) (v5 : Int32) (u : ts_Mem) (q : (Int32 × ts_Mem)) (h : lp_X7_collect_36 c1 c2 c3 c4 n v5 u = some q) (K : ts_V D dT sz p l e R s m args below meth c 7 Q ad ts_lv ts_R0 105 [some (.inr (30, 0, 0)), some (.inl (.int c1)), some (.inl (.int c2)), some (.inl (.int c3)), some (.inl (.int c4)), some (.inl (.int q.1)), none] [] q.2 kk nn), ts_V D dT sz p l e R s m args below meth c 7 Q ad ts_lv ts_R0 36 [some (.inr (30, 0, 0)), some (.inl (.int c1)), some (.inl (.int c2)), some (.inl (.int c3)), some (.inl (.int c4)), some (.inl (.int v5)), none] [] u kk nn
  | 0, _, _, _, h, _ => by cases h
  | n + 1, v5, u, q, h, K => by
      rw [lp_X7_collect_36] at h
      refine tv_iload C (pc := 36) dX7_collect_36 rfl ?_
      refine tv_aload_n C (pc := 38) dX7_collect_38 rfl rfl ?_
      refine tv_getR C (pc := 39) dX7_collect_39 fl_X7_43 (ts_live (k := 30) (by decide) (by decide) (by decide)) rfl rfl (i2 := (38, 0, 0)) rfl ?_
      refine tv_iload_n C (pc := 42) dX7_collect_42 rfl rfl ?_
      obtain ⟨hr5, h⟩ := ts_gd h
      refine tv_iaload C (pc := 43) dX7_collect_43 (ts_live (k := 38) (by decide) (by decide) (by decide)) rfl hr5 (j := c3.toNatClampNeg) rfl ?_
      refine tv_icmp_ge C (pc := 44) 105 dX7_collect_44 (by decide) (fun hc => ?_) (fun hc => ?_)
      · have h := ts_ifp h hc
        cases h
        exact K
      · have h := ts_ifn h hc
        refine tv_iload_n C (pc := 47) dX7_collect_47 rfl rfl ?_
        refine tv_iload C (pc := 48) dX7_collect_48 rfl ?_
        obtain ⟨q6, hq6, h⟩ := ts_bd h
        refine tv_callS C (pc := 50) dX7_collect_50 yl_X7_91 (m_X7_place (D := D) (dT := dT) (sz := sz) (ad := ad) hl c3 v5 u q6 hq6) (Nat.le_trans (Nat.le_of_ble_eq_true rfl) hdd) (As := [.inl (.int c3), .inl (.int v5)]) rfl ⟨hkn.1, hkn.2⟩ (fun _ => Nat.le_of_ble_eq_true rfl) rfl ?_
        refine tv_istore C (pc := 53) dX7_collect_53 (L' := [some (.inr (30, 0, 0)), some (.inl (.int c1)), some (.inl (.int c2)), some (.inl (.int c3)), some (.inl (.int c4)), some (.inl (.int v5)), some (.inl (.int q6))]) (by decide) rfl rfl ?_
        refine tv_aload_n C (pc := 55) dX7_collect_55 rfl rfl ?_
        refine tv_iload_n C (pc := 56) dX7_collect_56 rfl rfl ?_
        refine tv_iload C (pc := 57) dX7_collect_57 rfl ?_
        refine tv_iload C (pc := 59) dX7_collect_59 rfl ?_
        refine tv_isub C (pc := 61) dX7_collect_61 ?_
        refine tv_aload_n C (pc := 62) dX7_collect_62 rfl rfl ?_
        refine tv_getR C (pc := 63) dX7_collect_63 fl_X7_46 (ts_live (k := 30) (by decide) (by decide) (by decide)) rfl rfl (i2 := (39, 0, 0)) rfl ?_
        refine tv_iload C (pc := 66) dX7_collect_66 rfl ?_
        obtain ⟨hr7, h⟩ := ts_gd h
        refine tv_iaload C (pc := 68) dX7_collect_68 (ts_live (k := 39) (by decide) (by decide) (by decide)) rfl hr7 (j := q6.toNatClampNeg) rfl ?_
        refine tv_aload_n C (pc := 69) dX7_collect_69 rfl rfl ?_
        refine tv_getR C (pc := 70) dX7_collect_70 fl_X7_46 (ts_live (k := 30) (by decide) (by decide) (by decide)) rfl rfl (i2 := (39, 0, 0)) rfl ?_
        refine tv_iload C (pc := 73) dX7_collect_73 rfl ?_
        refine tv_iconst C (pc := 75) dX7_collect_75 (v := (1 : Int32)) rfl ?_
        refine tv_iadd C (pc := 76) dX7_collect_76 ?_
        obtain ⟨hr8, h⟩ := ts_gd h
        refine tv_iaload C (pc := 77) dX7_collect_77 (ts_live (k := 39) (by decide) (by decide) (by decide)) rfl hr8 (j := ((q6 + (1 : Int32))).toNatClampNeg) rfl ?_
        refine tv_aload_n C (pc := 78) dX7_collect_78 rfl rfl ?_
        refine tv_getR C (pc := 79) dX7_collect_79 fl_X7_46 (ts_live (k := 30) (by decide) (by decide) (by decide)) rfl rfl (i2 := (39, 0, 0)) rfl ?_
        refine tv_iload C (pc := 82) dX7_collect_82 rfl ?_
        refine tv_iconst C (pc := 84) dX7_collect_84 (v := (2 : Int32)) rfl ?_
        refine tv_iadd C (pc := 85) dX7_collect_85 ?_
        obtain ⟨hr9, h⟩ := ts_gd h
        refine tv_iaload C (pc := 86) dX7_collect_86 (ts_live (k := 39) (by decide) (by decide) (by decide)) rfl hr9 (j := ((q6 + (2 : Int32))).toNatClampNeg) rfl ?_
        refine tv_aload_n C (pc := 87) dX7_collect_87 rfl rfl ?_
        refine tv_getR C (pc := 88) dX7_collect_88 fl_X7_46 (ts_live (k := 30) (by decide) (by decide) (by decide)) rfl rfl (i2 := (39, 0, 0)) rfl ?_
        refine tv_iload C (pc := 91) dX7_collect_91 rfl ?_
        refine tv_iconst C (pc := 93) dX7_collect_93 (v := (3 : Int32)) rfl ?_
        refine tv_iadd C (pc := 94) dX7_collect_94 ?_
        obtain ⟨hr10, h⟩ := ts_gd h
        refine tv_iaload C (pc := 95) dX7_collect_95 (ts_live (k := 39) (by decide) (by decide) (by decide)) rfl hr10 (j := ((q6 + (3 : Int32))).toNatClampNeg) rfl ?_
        obtain ⟨q11, hq11, h⟩ := ts_bd h
        refine tv_callV C (pc := 96) dX7_collect_96 (ci := 7) (q := (RX7, TX7, 37)) rfl yl_X7_87 (m_X7_put (D := D) (dT := dT) (sz := sz) (ad := ad) hl c3 (v5 - c4) (ts_gI u (39, 0, 0) q6.toNatClampNeg) (ts_gI u (39, 0, 0) ((q6 + (1 : Int32))).toNatClampNeg) (ts_gI u (39, 0, 0) ((q6 + (2 : Int32))).toNatClampNeg) (ts_gI u (39, 0, 0) ((q6 + (3 : Int32))).toNatClampNeg) u q11 hq11) (ts_live (k := 30) (by decide) (by decide) (by decide)) rfl (Nat.le_trans (Nat.le_of_ble_eq_true rfl) hdd) (As := [.inl (.int c3), .inl (.int (v5 - c4)), .inl (.int (ts_gI u (39, 0, 0) q6.toNatClampNeg)), .inl (.int (ts_gI u (39, 0, 0) ((q6 + (1 : Int32))).toNatClampNeg)), .inl (.int (ts_gI u (39, 0, 0) ((q6 + (2 : Int32))).toNatClampNeg)), .inl (.int (ts_gI u (39, 0, 0) ((q6 + (3 : Int32))).toNatClampNeg))]) rfl ⟨hkn.1, hkn.2⟩ (fun _ => Nat.le_of_ble_eq_true rfl) rfl ?_
        refine tv_iinc C (pc := 99) dX7_collect_99 (v := (v5 + (1 : Int32))) (L' := [some (.inr (30, 0, 0)), some (.inl (.int c1)), some (.inl (.int c2)), some (.inl (.int c3)), some (.inl (.int c4)), some (.inl (.int (v5 + (1 : Int32)))), some (.inl (.int q6))]) rfl rfl (by decide) rfl rfl ?_
        refine tv_goto C (pc := 102) 36 dX7_collect_102 (by decide) ?_
        refine tv_drop 6 (L' := [some (.inr (30, 0, 0)), some (.inl (.int c1)), some (.inl (.int c2)), some (.inl (.int c3)), some (.inl (.int c4)), some (.inl (.int (v5 + (1 : Int32)))), none]) rfl ?_
        exact lt_X7_collect_36 hl C hdd c1 c2 c3 c4 hkn n (v5 + (1 : Int32)) q11 q h K
set_option maxRecDepth 100000 in
set_option maxHeartbeats 4000000 in
theorem lt_X7_collect_14 {D : va_G} {dT : Nat → ClassId} {sz : Nat} {p : Program} {l : Launch} {e : Env} {R : Room} {s : State} {m : MethodId} {args : Array Value} {below : List Frame} {meth : Method} {c : Code} {d : Nat} {ad : ts_I → Nat} {kk nn : Nat} {Q : State → Prop} (hl : l.stackTraces = false) (C : ts_CX D dT sz p l R s m args meth c RX7 cX7_collect 7 (some .int) d) (hdd : 3 ≤ d) (c1 : Int32) (hkn : kk ≤ R.cells ∧ nn ≤ R.slots) : ∀ (n : Nat) (v2 : Int32) (v3 : Int32) (u : ts_Mem) (q : (Int32 × Int32 × ts_Mem)) (h : lp_X7_collect_14 c1 n v2 v3 u = some q) (K : ts_V D dT sz p l e R s m args below meth c 7 Q ad ts_lv ts_R0 127 [some (.inr (30, 0, 0)), some (.inl (.int c1)), some (.inl (.int q.1)), some (.inl (.int q.2.1)), none, none, none] [] q.2.2 kk nn), ts_V D dT sz p l e R s m args below meth c 7 Q ad ts_lv ts_R0 14 [some (.inr (30, 0, 0)), some (.inl (.int c1)), some (.inl (.int v2)), some (.inl (.int v3)), none, none, none] [] u kk nn
  | 0, _, _, _, _, h, _ => by cases h
  | n + 1, v2, v3, u, q, h, K => by
      rw [lp_X7_collect_14] at h
      refine tv_iload_n C (pc := 14) dX7_collect_14 rfl rfl ?_
      refine tv_bipush C (pc := 15) dX7_collect_15 (v := (8 : Int32)) rfl ?_
      refine tv_icmp_ge C (pc := 17) 127 dX7_collect_17 (by decide) (fun hc => ?_) (fun hc => ?_)
      · have h := ts_ifp h hc
        cases h
        exact K
      · have h := ts_ifn h hc
        refine tv_iconst C (pc := 20) dX7_collect_20 (v := (0 : Int32)) rfl ?_
        refine tv_aload_n C (pc := 21) dX7_collect_21 rfl rfl ?_
        refine tv_iload_n C (pc := 22) dX7_collect_22 rfl rfl ?_
        refine tv_iload_n C (pc := 23) dX7_collect_23 rfl rfl ?_
        obtain ⟨q3, hq3, h⟩ := ts_bd h
        refine tv_callV C (pc := 24) dX7_collect_24 (ci := 7) (q := (RX7, TX7, 37)) rfl yl_X7_235 (m_X7_lastCommitted (D := D) (dT := dT) (sz := sz) (ad := ad) hl v3 c1 u q3 hq3) (ts_live (k := 30) (by decide) (by decide) (by decide)) rfl (Nat.le_trans (Nat.le_of_ble_eq_true rfl) hdd) (As := [.inl (.int v3), .inl (.int c1)]) rfl ⟨hkn.1, hkn.2⟩ (fun _ => Nat.le_of_ble_eq_true rfl) rfl ?_
        refine tv_max C (pc := 27) dX7_collect_27 ml_X7_146 ts_mx ⟨hkn.1, hkn.2⟩ (fun _ => Nat.le_of_ble_eq_true rfl) ?_
        refine tv_nmI (fun x4 hx4 => ?_)
        have h := ts_lt h hx4
        refine tv_istore C (pc := 30) dX7_collect_30 (L' := [some (.inr (30, 0, 0)), some (.inl (.int c1)), some (.inl (.int v2)), some (.inl (.int v3)), some (.inl (.int x4)), none, none]) (by decide) rfl rfl ?_
        refine tv_iload C (pc := 32) dX7_collect_32 rfl ?_
        refine tv_istore C (pc := 34) dX7_collect_34 (L' := [some (.inr (30, 0, 0)), some (.inl (.int c1)), some (.inl (.int v2)), some (.inl (.int v3)), some (.inl (.int x4)), some (.inl (.int x4)), none]) (by decide) rfl rfl ?_
        obtain ⟨q12, hq12, h⟩ := ts_bd h
        refine lt_X7_collect_36 hl C hdd c1 v2 v3 x4 hkn ts_fu x4 u q12 hq12 ?_
        refine tv_aload_n C (pc := 105) dX7_collect_105 rfl rfl ?_
        refine tv_getR C (pc := 106) dX7_collect_106 fl_X7_43 (ts_live (k := 30) (by decide) (by decide) (by decide)) rfl rfl (i2 := (38, 0, 0)) rfl ?_
        refine tv_iload_n C (pc := 109) dX7_collect_109 rfl rfl ?_
        refine tv_dup2 C (pc := 110) dX7_collect_110 (fun _ => ⟨rfl, rfl⟩) ?_
        obtain ⟨hr13, h⟩ := ts_gd h
        refine tv_iaload C (pc := 111) dX7_collect_111 (ts_live (k := 38) (by decide) (by decide) (by decide)) rfl hr13 (j := v3.toNatClampNeg) rfl ?_
        refine tv_iload C (pc := 112) dX7_collect_112 rfl ?_
        refine tv_isub C (pc := 114) dX7_collect_114 ?_
        obtain ⟨hr14, h⟩ := ts_gd h
        refine tv_iastore C (pc := 115) dX7_collect_115 (ts_live (k := 38) (by decide) (by decide) (by decide)) rfl hr14 (j := v3.toNatClampNeg) rfl ?_
        refine tv_nu (fun u15 hu15 => ?_)
        have h := ts_lt h hu15
        refine tv_iload_n C (pc := 116) dX7_collect_116 rfl rfl ?_
        refine tv_iload C (pc := 117) dX7_collect_117 rfl ?_
        refine tv_iadd C (pc := 119) dX7_collect_119 ?_
        refine tv_nmI (fun x16 hx16 => ?_)
        have h := ts_lt h hx16
        refine tv_istore_n C (pc := 120) dX7_collect_120 (L' := [some (.inr (30, 0, 0)), some (.inl (.int c1)), some (.inl (.int x16)), some (.inl (.int v3)), some (.inl (.int x4)), some (.inl (.int q12.1)), none]) rfl (by decide) rfl rfl ?_
        refine tv_iinc C (pc := 121) dX7_collect_121 (v := (v3 + (1 : Int32))) (L' := [some (.inr (30, 0, 0)), some (.inl (.int c1)), some (.inl (.int x16)), some (.inl (.int (v3 + (1 : Int32)))), some (.inl (.int x4)), some (.inl (.int q12.1)), none]) rfl rfl (by decide) rfl rfl ?_
        refine tv_goto C (pc := 124) 14 dX7_collect_124 (by decide) ?_
        refine tv_drop 4 (L' := [some (.inr (30, 0, 0)), some (.inl (.int c1)), some (.inl (.int x16)), some (.inl (.int (v3 + (1 : Int32)))), none, some (.inl (.int q12.1)), none]) rfl ?_
        refine tv_drop 5 (L' := [some (.inr (30, 0, 0)), some (.inl (.int c1)), some (.inl (.int x16)), some (.inl (.int (v3 + (1 : Int32)))), none, none, none]) rfl ?_
        exact lt_X7_collect_14 hl C hdd c1 hkn n x16 (v3 + (1 : Int32)) u15 q h K
set_option maxRecDepth 100000 in
set_option maxHeartbeats 4000000 in
theorem m_X7_collect {l : Launch} {D : va_G} {dT : Nat → ClassId} {sz : Nat} {ad : ts_I → Nat} (hl : l.stackTraces = false)  (u : ts_Mem) (r : (Int32 × ts_Mem)) (h : f_X7_collect  u = some r) : ts_M l D dT sz yX7_collect wX7_collect 3 0 0 ad ts_lv ts_R0 [.inr (30, 0, 0)] u (.inl (some (.int r.1))) r.2 := by
    unfold f_X7_collect at h
    refine ts_enter hl (by decide) rfl rfl (Nat.le_of_ble_eq_true rfl) ?_
    intro p e s m args below meth c C hX hnm
    have C : ts_CX D dT sz p l (ts_rm 3 0 0) s m args meth c RX7 cX7_collect 7 (some .int) 3 := C
    have hdd : 3 ≤ 3 := Nat.le_refl _
    refine tv_aload_n C (pc := 0) dX7_collect_0 rfl rfl ?_
    refine tv_iconst C (pc := 1) dX7_collect_1 (v := (0 : Int32)) rfl ?_
    refine tv_putI C (pc := 2) dX7_collect_2 fp_X7_3 (ts_live (k := 30) (by decide) (by decide) (by decide)) rfl (cd := 0) rfl (by decide) rfl rfl ?_
    refine tv_nu (fun u1 hu1 => ?_)
    have h := ts_lt h hu1
    refine tv_aload_n C (pc := 5) dX7_collect_5 rfl rfl ?_
    obtain ⟨q2, hq2, h⟩ := ts_bd h
    refine tv_callV C (pc := 6) dX7_collect_6 (ci := 7) (q := (RX7, TX7, 37)) rfl yl_X7_241 (m_X7_horizonNow (D := D) (dT := dT) (sz := sz) (ad := ad) hl  u1 q2 hq2) (ts_live (k := 30) (by decide) (by decide) (by decide)) rfl (Nat.le_trans (Nat.le_of_ble_eq_true rfl) hdd) (As := []) rfl ⟨Nat.le_of_ble_eq_true rfl, Nat.le_of_ble_eq_true rfl⟩ (fun _ => Nat.le_of_ble_eq_true rfl) rfl ?_
    refine tv_istore_n C (pc := 9) dX7_collect_9 (L' := [some (.inr (30, 0, 0)), some (.inl (.int q2)), none, none, none, none, none]) rfl (by decide) rfl rfl ?_
    refine tv_iconst C (pc := 10) dX7_collect_10 (v := (0 : Int32)) rfl ?_
    refine tv_istore_n C (pc := 11) dX7_collect_11 (L' := [some (.inr (30, 0, 0)), some (.inl (.int q2)), some (.inl (.int (0 : Int32))), none, none, none, none]) rfl (by decide) rfl rfl ?_
    refine tv_iconst C (pc := 12) dX7_collect_12 (v := (0 : Int32)) rfl ?_
    refine tv_istore_n C (pc := 13) dX7_collect_13 (L' := [some (.inr (30, 0, 0)), some (.inl (.int q2)), some (.inl (.int (0 : Int32))), some (.inl (.int (0 : Int32))), none, none, none]) rfl (by decide) rfl rfl ?_
    obtain ⟨q17, hq17, h⟩ := ts_bd h
    refine lt_X7_collect_14 hl C hdd q2 ⟨Nat.le_of_ble_eq_true rfl, Nat.le_of_ble_eq_true rfl⟩ ts_fu (0 : Int32) (0 : Int32) u1 q17 hq17 ?_
    refine tv_iload_n C (pc := 127) dX7_collect_127 rfl rfl ?_
    cases h
    exact tv_iret C (pc := 128) rfl dX7_collect_128 ⟨Nat.le_of_ble_eq_true rfl, Nat.le_of_ble_eq_true rfl⟩
set_option maxRecDepth 100000 in
set_option maxHeartbeats 4000000 in
theorem lt_X7_nextCommitted_4 {D : va_G} {dT : Nat → ClassId} {sz : Nat} {p : Program} {l : Launch} {e : Env} {R : Room} {s : State} {m : MethodId} {args : Array Value} {below : List Frame} {meth : Method} {c : Code} {d : Nat} {ad : ts_I → Nat} {kk nn : Nat} {Q : State → Prop} (hl : l.stackTraces = false) (C : ts_CX D dT sz p l R s m args meth c RX7 cX7_nextCommitted 5 (some .int) d) (hdd : 0 ≤ d) (c1 : Int32) (u : ts_Mem) (hkn : kk ≤ R.cells ∧ nn ≤ R.slots) : ∀ (n : Nat) (v2 : Int32) (v3 : Int32) (q : (Int32 × Int32)) (h : lp_X7_nextCommitted_4 c1 u n v2 v3 = some q) (K : ts_V D dT sz p l e R s m args below meth c 5 Q ad ts_lv ts_R0 76 [some (.inr (30, 0, 0)), some (.inl (.int c1)), some (.inl (.int q.1)), some (.inl (.int q.2)), none] [] u kk nn), ts_V D dT sz p l e R s m args below meth c 5 Q ad ts_lv ts_R0 4 [some (.inr (30, 0, 0)), some (.inl (.int c1)), some (.inl (.int v2)), some (.inl (.int v3)), none] [] u kk nn
  | 0, _, _, _, h, _ => by cases h
  | n + 1, v2, v3, q, h, K => by
      rw [lp_X7_nextCommitted_4] at h
      refine tv_iload_n C (pc := 4) dX7_nextCommitted_4 rfl rfl ?_
      refine tv_aload_n C (pc := 5) dX7_nextCommitted_5 rfl rfl ?_
      refine tv_getI C (pc := 6) dX7_nextCommitted_6 fl_X7_103 (ts_live (k := 30) (by decide) (by decide) (by decide)) rfl (cd := 0) rfl (by decide) ?_
      refine tv_icmp_ge C (pc := 9) 76 dX7_nextCommitted_9 (by decide) (fun hc => ?_) (fun hc => ?_)
      · have h := ts_ifp h hc
        cases h
        exact K
      · have h := ts_ifn h hc
        refine tv_aload_n C (pc := 12) dX7_nextCommitted_12 rfl rfl ?_
        refine tv_getR C (pc := 13) dX7_nextCommitted_13 fl_X7_21 (ts_live (k := 30) (by decide) (by decide) (by decide)) rfl rfl (i2 := (31, 0, 0)) rfl ?_
        refine tv_iload_n C (pc := 16) dX7_nextCommitted_16 rfl rfl ?_
        obtain ⟨hr1, h⟩ := ts_gd h
        refine tv_iaload C (pc := 17) dX7_nextCommitted_17 (ts_live (k := 31) (by decide) (by decide) (by decide)) rfl hr1 (j := v3.toNatClampNeg) rfl ?_
        refine tv_iconst C (pc := 18) dX7_nextCommitted_18 (v := (2 : Int32)) rfl ?_
        refine tv_icmp_ne C (pc := 19) 36 dX7_nextCommitted_19 (by decide) (fun hc => ?_) (fun hc => ?_)
        · have h := ts_ifn h hc
          refine tv_iconst C (pc := 36) dX7_nextCommitted_36 (v := (0 : Int32)) rfl ?_
          refine tv_istore C (pc := 37) dX7_nextCommitted_37 (L' := [some (.inr (30, 0, 0)), some (.inl (.int c1)), some (.inl (.int v2)), some (.inl (.int v3)), some (.inl (.int (0 : Int32)))]) (by decide) rfl rfl ?_
          refine tv_iload C (pc := 39) dX7_nextCommitted_39 rfl ?_
          refine tv_if_eq C (pc := 41) 68 dX7_nextCommitted_41 (by decide) (fun _ => ?_) (fun hc => absurd hc (by decide))
          refine tv_iload_n C (pc := 68) dX7_nextCommitted_68 rfl rfl ?_
          refine tv_istore_n C (pc := 69) dX7_nextCommitted_69 (L' := [some (.inr (30, 0, 0)), some (.inl (.int c1)), some (.inl (.int v2)), some (.inl (.int v3)), some (.inl (.int (0 : Int32)))]) rfl (by decide) rfl rfl ?_
          refine tv_iinc C (pc := 70) dX7_nextCommitted_70 (v := (v3 + (1 : Int32))) (L' := [some (.inr (30, 0, 0)), some (.inl (.int c1)), some (.inl (.int v2)), some (.inl (.int (v3 + (1 : Int32)))), some (.inl (.int (0 : Int32)))]) rfl rfl (by decide) rfl rfl ?_
          refine tv_goto C (pc := 73) 4 dX7_nextCommitted_73 (by decide) ?_
          refine tv_drop 4 (L' := [some (.inr (30, 0, 0)), some (.inl (.int c1)), some (.inl (.int v2)), some (.inl (.int (v3 + (1 : Int32)))), none]) rfl ?_
          exact lt_X7_nextCommitted_4 hl C hdd c1 u hkn n v2 (v3 + (1 : Int32)) q h K
        · have h := ts_ifp h hc
          refine tv_aload_n C (pc := 22) dX7_nextCommitted_22 rfl rfl ?_
          refine tv_getR C (pc := 23) dX7_nextCommitted_23 fl_X7_25 (ts_live (k := 30) (by decide) (by decide) (by decide)) rfl rfl (i2 := (32, 0, 0)) rfl ?_
          refine tv_iload_n C (pc := 26) dX7_nextCommitted_26 rfl rfl ?_
          obtain ⟨hr2, h⟩ := ts_gd h
          refine tv_iaload C (pc := 27) dX7_nextCommitted_27 (ts_live (k := 32) (by decide) (by decide) (by decide)) rfl hr2 (j := v3.toNatClampNeg) rfl ?_
          refine tv_iload_n C (pc := 28) dX7_nextCommitted_28 rfl rfl ?_
          refine tv_icmp_le C (pc := 29) 36 dX7_nextCommitted_29 (by decide) (fun hc => ?_) (fun hc => ?_)
          · have h := ts_ifp h hc
            refine tv_iconst C (pc := 36) dX7_nextCommitted_36 (v := (0 : Int32)) rfl ?_
            refine tv_istore C (pc := 37) dX7_nextCommitted_37 (L' := [some (.inr (30, 0, 0)), some (.inl (.int c1)), some (.inl (.int v2)), some (.inl (.int v3)), some (.inl (.int (0 : Int32)))]) (by decide) rfl rfl ?_
            refine tv_iload C (pc := 39) dX7_nextCommitted_39 rfl ?_
            refine tv_if_eq C (pc := 41) 68 dX7_nextCommitted_41 (by decide) (fun _ => ?_) (fun hc => absurd hc (by decide))
            refine tv_iload_n C (pc := 68) dX7_nextCommitted_68 rfl rfl ?_
            refine tv_istore_n C (pc := 69) dX7_nextCommitted_69 (L' := [some (.inr (30, 0, 0)), some (.inl (.int c1)), some (.inl (.int v2)), some (.inl (.int v3)), some (.inl (.int (0 : Int32)))]) rfl (by decide) rfl rfl ?_
            refine tv_iinc C (pc := 70) dX7_nextCommitted_70 (v := (v3 + (1 : Int32))) (L' := [some (.inr (30, 0, 0)), some (.inl (.int c1)), some (.inl (.int v2)), some (.inl (.int (v3 + (1 : Int32)))), some (.inl (.int (0 : Int32)))]) rfl rfl (by decide) rfl rfl ?_
            refine tv_goto C (pc := 73) 4 dX7_nextCommitted_73 (by decide) ?_
            refine tv_drop 4 (L' := [some (.inr (30, 0, 0)), some (.inl (.int c1)), some (.inl (.int v2)), some (.inl (.int (v3 + (1 : Int32)))), none]) rfl ?_
            exact lt_X7_nextCommitted_4 hl C hdd c1 u hkn n v2 (v3 + (1 : Int32)) q h K
          · have h := ts_ifn h hc
            refine tv_iconst C (pc := 32) dX7_nextCommitted_32 (v := (1 : Int32)) rfl ?_
            refine tv_goto C (pc := 33) 37 dX7_nextCommitted_33 (by decide) ?_
            refine tv_istore C (pc := 37) dX7_nextCommitted_37 (L' := [some (.inr (30, 0, 0)), some (.inl (.int c1)), some (.inl (.int v2)), some (.inl (.int v3)), some (.inl (.int (1 : Int32)))]) (by decide) rfl rfl ?_
            refine tv_iload C (pc := 39) dX7_nextCommitted_39 rfl ?_
            refine tv_if_eq C (pc := 41) 68 dX7_nextCommitted_41 (by decide) (fun hc => absurd hc (by decide)) (fun _ => ?_)
            refine tv_iload_n C (pc := 44) dX7_nextCommitted_44 rfl rfl ?_
            refine tv_iconst C (pc := 45) dX7_nextCommitted_45 (v := (-1 : Int32)) rfl ?_
            refine tv_icmp_eq C (pc := 46) 64 dX7_nextCommitted_46 (by decide) (fun hc => ?_) (fun hc => ?_)
            · have h := ts_ifp h hc
              refine tv_iload_n C (pc := 64) dX7_nextCommitted_64 rfl rfl ?_
              refine tv_goto C (pc := 65) 69 dX7_nextCommitted_65 (by decide) ?_
              refine tv_istore_n C (pc := 69) dX7_nextCommitted_69 (L' := [some (.inr (30, 0, 0)), some (.inl (.int c1)), some (.inl (.int v3)), some (.inl (.int v3)), some (.inl (.int (1 : Int32)))]) rfl (by decide) rfl rfl ?_
              refine tv_iinc C (pc := 70) dX7_nextCommitted_70 (v := (v3 + (1 : Int32))) (L' := [some (.inr (30, 0, 0)), some (.inl (.int c1)), some (.inl (.int v3)), some (.inl (.int (v3 + (1 : Int32)))), some (.inl (.int (1 : Int32)))]) rfl rfl (by decide) rfl rfl ?_
              refine tv_goto C (pc := 73) 4 dX7_nextCommitted_73 (by decide) ?_
              refine tv_drop 4 (L' := [some (.inr (30, 0, 0)), some (.inl (.int c1)), some (.inl (.int v3)), some (.inl (.int (v3 + (1 : Int32)))), none]) rfl ?_
              exact lt_X7_nextCommitted_4 hl C hdd c1 u hkn n v3 (v3 + (1 : Int32)) q h K
            · have h := ts_ifn h hc
              refine tv_aload_n C (pc := 49) dX7_nextCommitted_49 rfl rfl ?_
              refine tv_getR C (pc := 50) dX7_nextCommitted_50 fl_X7_25 (ts_live (k := 30) (by decide) (by decide) (by decide)) rfl rfl (i2 := (32, 0, 0)) rfl ?_
              refine tv_iload_n C (pc := 53) dX7_nextCommitted_53 rfl rfl ?_
              obtain ⟨hr3, h⟩ := ts_gd h
              refine tv_iaload C (pc := 54) dX7_nextCommitted_54 (ts_live (k := 32) (by decide) (by decide) (by decide)) rfl hr3 (j := v3.toNatClampNeg) rfl ?_
              refine tv_aload_n C (pc := 55) dX7_nextCommitted_55 rfl rfl ?_
              refine tv_getR C (pc := 56) dX7_nextCommitted_56 fl_X7_25 (ts_live (k := 30) (by decide) (by decide) (by decide)) rfl rfl (i2 := (32, 0, 0)) rfl ?_
              refine tv_iload_n C (pc := 59) dX7_nextCommitted_59 rfl rfl ?_
              obtain ⟨hr4, h⟩ := ts_gd h
              refine tv_iaload C (pc := 60) dX7_nextCommitted_60 (ts_live (k := 32) (by decide) (by decide) (by decide)) rfl hr4 (j := v2.toNatClampNeg) rfl ?_
              refine tv_icmp_ge C (pc := 61) 68 dX7_nextCommitted_61 (by decide) (fun hc => ?_) (fun hc => ?_)
              · have h := ts_ifp h hc
                refine tv_iload_n C (pc := 68) dX7_nextCommitted_68 rfl rfl ?_
                refine tv_istore_n C (pc := 69) dX7_nextCommitted_69 (L' := [some (.inr (30, 0, 0)), some (.inl (.int c1)), some (.inl (.int v2)), some (.inl (.int v3)), some (.inl (.int (1 : Int32)))]) rfl (by decide) rfl rfl ?_
                refine tv_iinc C (pc := 70) dX7_nextCommitted_70 (v := (v3 + (1 : Int32))) (L' := [some (.inr (30, 0, 0)), some (.inl (.int c1)), some (.inl (.int v2)), some (.inl (.int (v3 + (1 : Int32)))), some (.inl (.int (1 : Int32)))]) rfl rfl (by decide) rfl rfl ?_
                refine tv_goto C (pc := 73) 4 dX7_nextCommitted_73 (by decide) ?_
                refine tv_drop 4 (L' := [some (.inr (30, 0, 0)), some (.inl (.int c1)), some (.inl (.int v2)), some (.inl (.int (v3 + (1 : Int32)))), none]) rfl ?_
                exact lt_X7_nextCommitted_4 hl C hdd c1 u hkn n v2 (v3 + (1 : Int32)) q h K
              · have h := ts_ifn h hc
                refine tv_iload_n C (pc := 64) dX7_nextCommitted_64 rfl rfl ?_
                refine tv_goto C (pc := 65) 69 dX7_nextCommitted_65 (by decide) ?_
                refine tv_istore_n C (pc := 69) dX7_nextCommitted_69 (L' := [some (.inr (30, 0, 0)), some (.inl (.int c1)), some (.inl (.int v3)), some (.inl (.int v3)), some (.inl (.int (1 : Int32)))]) rfl (by decide) rfl rfl ?_
                refine tv_iinc C (pc := 70) dX7_nextCommitted_70 (v := (v3 + (1 : Int32))) (L' := [some (.inr (30, 0, 0)), some (.inl (.int c1)), some (.inl (.int v3)), some (.inl (.int (v3 + (1 : Int32)))), some (.inl (.int (1 : Int32)))]) rfl rfl (by decide) rfl rfl ?_
                refine tv_goto C (pc := 73) 4 dX7_nextCommitted_73 (by decide) ?_
                refine tv_drop 4 (L' := [some (.inr (30, 0, 0)), some (.inl (.int c1)), some (.inl (.int v3)), some (.inl (.int (v3 + (1 : Int32)))), none]) rfl ?_
                exact lt_X7_nextCommitted_4 hl C hdd c1 u hkn n v3 (v3 + (1 : Int32)) q h K
set_option maxRecDepth 100000 in
set_option maxHeartbeats 4000000 in
theorem m_X7_nextCommitted {l : Launch} {D : va_G} {dT : Nat → ClassId} {sz : Nat} {ad : ts_I → Nat} (hl : l.stackTraces = false) (p1 : Int32) (u : ts_Mem) (r : Int32) (h : f_X7_nextCommitted p1 u = some r) : ts_M l D dT sz yX7_nextCommitted wX7_nextCommitted 0 0 0 ad ts_lv ts_R0 [.inr (30, 0, 0), .inl (.int p1)] u (.inl (some (.int r))) u := by
    unfold f_X7_nextCommitted at h
    refine ts_enter hl (by decide) rfl rfl (Nat.le_of_ble_eq_true rfl) ?_
    intro p e s m args below meth c C hX hnm
    have C : ts_CX D dT sz p l (ts_rm 0 0 0) s m args meth c RX7 cX7_nextCommitted 5 (some .int) 0 := C
    have hdd : 0 ≤ 0 := Nat.le_refl _
    refine tv_iconst C (pc := 0) dX7_nextCommitted_0 (v := (-1 : Int32)) rfl ?_
    refine tv_istore_n C (pc := 1) dX7_nextCommitted_1 (L' := [some (.inr (30, 0, 0)), some (.inl (.int p1)), some (.inl (.int (-1 : Int32))), none, none]) rfl (by decide) rfl rfl ?_
    refine tv_iconst C (pc := 2) dX7_nextCommitted_2 (v := (0 : Int32)) rfl ?_
    refine tv_istore_n C (pc := 3) dX7_nextCommitted_3 (L' := [some (.inr (30, 0, 0)), some (.inl (.int p1)), some (.inl (.int (-1 : Int32))), some (.inl (.int (0 : Int32))), none]) rfl (by decide) rfl rfl ?_
    obtain ⟨q5, hq5, h⟩ := ts_bd h
    refine lt_X7_nextCommitted_4 hl C hdd p1 u ⟨Nat.le_of_ble_eq_true rfl, Nat.le_of_ble_eq_true rfl⟩ ts_fu (-1 : Int32) (0 : Int32) q5 hq5 ?_
    refine tv_iload_n C (pc := 76) dX7_nextCommitted_76 rfl rfl ?_
    cases h
    exact tv_iret C (pc := 77) rfl dX7_nextCommitted_77 ⟨Nat.le_of_ble_eq_true rfl, Nat.le_of_ble_eq_true rfl⟩
set_option maxRecDepth 100000 in
set_option maxHeartbeats 4000000 in
theorem lt_X7_check_7 {D : va_G} {dT : Nat → ClassId} {sz : Nat} {p : Program} {l : Launch} {e : Env} {R : Room} {s : State} {m : MethodId} {args : Array Value} {below : List Frame} {meth : Method} {c : Code} {d : Nat} {ad : ts_I → Nat} {kk nn : Nat} {Q : State → Prop} (hl : l.stackTraces = false) (C : ts_CX D dT sz p l R s m args meth c RX7 cX7_check 6 (some .int) d) (hdd : 3 ≤ d)  (hkn : kk ≤ R.cells ∧ nn ≤ R.slots) : ∀ (n : Nat) (v1 : Int32) (u : ts_Mem) (q : (Int32 × ts_Mem)) (h : lp_X7_check_7 n v1 u = some q) (K : ts_V D dT sz p l e R s m args below meth c 6 Q ad ts_lv ts_R0 26 [some (.inr (30, 0, 0)), some (.inl (.int q.1)), none, none, none, none] [] q.2 kk nn), ts_V D dT sz p l e R s m args below meth c 6 Q ad ts_lv ts_R0 7 [some (.inr (30, 0, 0)), some (.inl (.int v1)), none, none, none, none] [] u kk nn
  | 0, _, _, _, h, _ => by cases h
  | n + 1, v1, u, q, h, K => by
      rw [lp_X7_check_7] at h
      refine tv_iload_n C (pc := 7) dX7_check_7 rfl rfl ?_
      refine tv_bipush C (pc := 8) dX7_check_8 (v := (8 : Int32)) rfl ?_
      refine tv_icmp_ge C (pc := 10) 26 dX7_check_10 (by decide) (fun hc => ?_) (fun hc => ?_)
      · have h := ts_ifp h hc
        cases h
        exact K
      · have h := ts_ifn h hc
        refine tv_aload_n C (pc := 13) dX7_check_13 rfl rfl ?_
        refine tv_getR C (pc := 14) dX7_check_14 fl_X7_65 (ts_live (k := 30) (by decide) (by decide) (by decide)) rfl rfl (i2 := (44, 0, 0)) rfl ?_
        refine tv_iload_n C (pc := 17) dX7_check_17 rfl rfl ?_
        refine tv_iconst C (pc := 18) dX7_check_18 (v := (0 : Int32)) rfl ?_
        obtain ⟨hr2, h⟩ := ts_gd h
        refine tv_iastore C (pc := 19) dX7_check_19 (ts_live (k := 44) (by decide) (by decide) (by decide)) rfl hr2 (j := v1.toNatClampNeg) rfl ?_
        refine tv_nu (fun u3 hu3 => ?_)
        have h := ts_lt h hu3
        refine tv_iinc C (pc := 20) dX7_check_20 (v := (v1 + (1 : Int32))) (L' := [some (.inr (30, 0, 0)), some (.inl (.int (v1 + (1 : Int32)))), none, none, none, none]) rfl rfl (by decide) rfl rfl ?_
        refine tv_goto C (pc := 23) 7 dX7_check_23 (by decide) ?_
        exact lt_X7_check_7 hl C hdd  hkn n (v1 + (1 : Int32)) u3 q h K
set_option maxRecDepth 100000 in
set_option maxHeartbeats 4000000 in
theorem lt_X7_check_41 {D : va_G} {dT : Nat → ClassId} {sz : Nat} {p : Program} {l : Launch} {e : Env} {R : Room} {s : State} {m : MethodId} {args : Array Value} {below : List Frame} {meth : Method} {c : Code} {d : Nat} {ad : ts_I → Nat} {kk nn : Nat} {Q : State → Prop} (hl : l.stackTraces = false) (C : ts_CX D dT sz p l R s m args meth c RX7 cX7_check 6 (some .int) d) (hdd : 3 ≤ d) (c2 : Int32) (hkn : kk ≤ R.cells ∧ nn ≤ R.slots) : ∀ (n : Nat) (v1 : Int32) (v3 : Int32) (u : ts_Mem) (q : (Int32 × Int32 × ts_Mem)) (h : lp_X7_check_41 c2 n v1 v3 u = some q) (K : ts_V D dT sz p l e R s m args below meth c 6 Q ad ts_lv ts_R0 181 [some (.inr (30, 0, 0)), some (.inl (.int q.1)), some (.inl (.int c2)), some (.inl (.int q.2.1)), none, none] [] q.2.2 kk nn), ts_V D dT sz p l e R s m args below meth c 6 Q ad ts_lv ts_R0 41 [some (.inr (30, 0, 0)), some (.inl (.int v1)), some (.inl (.int c2)), some (.inl (.int v3)), none, none] [] u kk nn
  | 0, _, _, _, _, h, _ => by cases h
  | n + 1, v1, v3, u, q, h, K => by
      rw [lp_X7_check_41] at h
      refine tv_iload_n C (pc := 41) dX7_check_41 rfl rfl ?_
      refine tv_aload_n C (pc := 42) dX7_check_42 rfl rfl ?_
      refine tv_getR C (pc := 43) dX7_check_43 fl_X7_34 (ts_live (k := 30) (by decide) (by decide) (by decide)) rfl rfl (i2 := (35, 0, 0)) rfl ?_
      refine tv_iload_n C (pc := 46) dX7_check_46 rfl rfl ?_
      obtain ⟨hr6, h⟩ := ts_gd h
      refine tv_iaload C (pc := 47) dX7_check_47 (ts_live (k := 35) (by decide) (by decide) (by decide)) rfl hr6 (j := c2.toNatClampNeg) rfl ?_
      refine tv_icmp_ge C (pc := 48) 181 dX7_check_48 (by decide) (fun hc => ?_) (fun hc => ?_)
      · have h := ts_ifp h hc
        cases h
        exact K
      · have h := ts_ifn h hc
        refine tv_aload_n C (pc := 51) dX7_check_51 rfl rfl ?_
        refine tv_iload_n C (pc := 52) dX7_check_52 rfl rfl ?_
        refine tv_iload_n C (pc := 53) dX7_check_53 rfl rfl ?_
        obtain ⟨q7, hq7, h⟩ := ts_bd h
        refine tv_callV C (pc := 54) dX7_check_54 (ci := 7) (q := (RX7, TX7, 37)) rfl yl_X7_159 (m_X7_listPlace (D := D) (dT := dT) (sz := sz) (ad := ad) hl c2 v3 u q7 hq7) (ts_live (k := 30) (by decide) (by decide) (by decide)) rfl (Nat.le_trans (Nat.le_of_ble_eq_true rfl) hdd) (As := [.inl (.int c2), .inl (.int v3)]) rfl ⟨hkn.1, hkn.2⟩ (fun _ => Nat.le_of_ble_eq_true rfl) rfl ?_
        refine tv_istore C (pc := 57) dX7_check_57 (L' := [some (.inr (30, 0, 0)), some (.inl (.int v1)), some (.inl (.int c2)), some (.inl (.int v3)), some (.inl (.int q7)), none]) (by decide) rfl rfl ?_
        refine tv_aload_n C (pc := 59) dX7_check_59 rfl rfl ?_
        refine tv_getR C (pc := 60) dX7_check_60 fl_X7_37 (ts_live (k := 30) (by decide) (by decide) (by decide)) rfl rfl (i2 := (36, 0, 0)) rfl ?_
        refine tv_iload C (pc := 63) dX7_check_63 rfl ?_
        refine tv_iconst C (pc := 65) dX7_check_65 (v := (1 : Int32)) rfl ?_
        refine tv_iadd C (pc := 66) dX7_check_66 ?_
        obtain ⟨hr8, h⟩ := ts_gd h
        refine tv_iaload C (pc := 67) dX7_check_67 (ts_live (k := 36) (by decide) (by decide) (by decide)) rfl hr8 (j := ((q7 + (1 : Int32))).toNatClampNeg) rfl ?_
        refine tv_nmI (fun x9 hx9 => ?_)
        have h := ts_lt h hx9
        refine tv_istore C (pc := 68) dX7_check_68 (L' := [some (.inr (30, 0, 0)), some (.inl (.int v1)), some (.inl (.int c2)), some (.inl (.int v3)), some (.inl (.int q7)), some (.inl (.int x9))]) (by decide) rfl rfl ?_
        refine tv_iload_n C (pc := 70) dX7_check_70 rfl rfl ?_
        refine tv_aload_n C (pc := 71) dX7_check_71 rfl rfl ?_
        refine tv_getR C (pc := 72) dX7_check_72 fl_X7_37 (ts_live (k := 30) (by decide) (by decide) (by decide)) rfl rfl (i2 := (36, 0, 0)) rfl ?_
        refine tv_iload C (pc := 75) dX7_check_75 rfl ?_
        obtain ⟨hr10, h⟩ := ts_gd h
        refine tv_iaload C (pc := 77) dX7_check_77 (ts_live (k := 36) (by decide) (by decide) (by decide)) rfl hr10 (j := q7.toNatClampNeg) rfl ?_
        refine tv_iconst C (pc := 78) dX7_check_78 (v := (1 : Int32)) rfl ?_
        refine tv_icmp_eq C (pc := 79) 105 dX7_check_79 (by decide) (fun hc => ?_) (fun hc => ?_)
        · have h := ts_ifp h hc
          refine tv_iconst C (pc := 105) dX7_check_105 (v := (0 : Int32)) rfl ?_
          refine tv_iadd C (pc := 106) dX7_check_106 ?_
          refine tv_nmI (fun x11 hx11 => ?_)
          have h := ts_lt h hx11
          refine tv_istore_n C (pc := 107) dX7_check_107 (L' := [some (.inr (30, 0, 0)), some (.inl (.int x11)), some (.inl (.int c2)), some (.inl (.int v3)), some (.inl (.int q7)), some (.inl (.int x9))]) rfl (by decide) rfl rfl ?_
          refine tv_aload_n C (pc := 108) dX7_check_108 rfl rfl ?_
          refine tv_getR C (pc := 109) dX7_check_109 fl_X7_65 (ts_live (k := 30) (by decide) (by decide) (by decide)) rfl rfl (i2 := (44, 0, 0)) rfl ?_
          refine tv_iload C (pc := 112) dX7_check_112 rfl ?_
          refine tv_aload_n C (pc := 114) dX7_check_114 rfl rfl ?_
          refine tv_getR C (pc := 115) dX7_check_115 fl_X7_37 (ts_live (k := 30) (by decide) (by decide) (by decide)) rfl rfl (i2 := (36, 0, 0)) rfl ?_
          refine tv_iload C (pc := 118) dX7_check_118 rfl ?_
          obtain ⟨hr12, h⟩ := ts_gd h
          refine tv_iaload C (pc := 120) dX7_check_120 (ts_live (k := 36) (by decide) (by decide) (by decide)) rfl hr12 (j := q7.toNatClampNeg) rfl ?_
          refine tv_if_ne C (pc := 121) 134 dX7_check_121 (by decide) (fun hc => ?_) (fun hc => ?_)
          · have h := ts_ifn h hc
            refine tv_aload_n C (pc := 134) dX7_check_134 rfl rfl ?_
            refine tv_getR C (pc := 135) dX7_check_135 fl_X7_37 (ts_live (k := 30) (by decide) (by decide) (by decide)) rfl rfl (i2 := (36, 0, 0)) rfl ?_
            refine tv_iload C (pc := 138) dX7_check_138 rfl ?_
            obtain ⟨hr13, h⟩ := ts_gd h
            refine tv_iaload C (pc := 140) dX7_check_140 (ts_live (k := 36) (by decide) (by decide) (by decide)) rfl hr13 (j := q7.toNatClampNeg) rfl ?_
            refine tv_iconst C (pc := 141) dX7_check_141 (v := (1 : Int32)) rfl ?_
            refine tv_icmp_ne C (pc := 142) 157 dX7_check_142 (by decide) (fun hc => ?_) (fun hc => ?_)
            · have h := ts_ifn h hc
              refine tv_aload_n C (pc := 157) dX7_check_157 rfl rfl ?_
              refine tv_getR C (pc := 158) dX7_check_158 fl_X7_65 (ts_live (k := 30) (by decide) (by decide) (by decide)) rfl rfl (i2 := (44, 0, 0)) rfl ?_
              refine tv_iload C (pc := 161) dX7_check_161 rfl ?_
              obtain ⟨hr14, h⟩ := ts_gd h
              refine tv_iaload C (pc := 163) dX7_check_163 (ts_live (k := 44) (by decide) (by decide) (by decide)) rfl hr14 (j := x9.toNatClampNeg) rfl ?_
              refine tv_aload_n C (pc := 164) dX7_check_164 rfl rfl ?_
              refine tv_getR C (pc := 165) dX7_check_165 fl_X7_37 (ts_live (k := 30) (by decide) (by decide) (by decide)) rfl rfl (i2 := (36, 0, 0)) rfl ?_
              refine tv_iload C (pc := 168) dX7_check_168 rfl ?_
              refine tv_iconst C (pc := 170) dX7_check_170 (v := (2 : Int32)) rfl ?_
              refine tv_iadd C (pc := 171) dX7_check_171 ?_
              obtain ⟨hr15, h⟩ := ts_gd h
              refine tv_iaload C (pc := 172) dX7_check_172 (ts_live (k := 36) (by decide) (by decide) (by decide)) rfl hr15 (j := ((q7 + (2 : Int32))).toNatClampNeg) rfl ?_
              refine tv_iadd C (pc := 173) dX7_check_173 ?_
              obtain ⟨hr16, h⟩ := ts_gd h
              refine tv_iastore C (pc := 174) dX7_check_174 (ts_live (k := 44) (by decide) (by decide) (by decide)) rfl hr16 (j := x9.toNatClampNeg) rfl ?_
              refine tv_nu (fun u17 hu17 => ?_)
              have h := ts_lt h hu17
              refine tv_iinc C (pc := 175) dX7_check_175 (v := (v3 + (1 : Int32))) (L' := [some (.inr (30, 0, 0)), some (.inl (.int x11)), some (.inl (.int c2)), some (.inl (.int (v3 + (1 : Int32)))), some (.inl (.int q7)), some (.inl (.int x9))]) rfl rfl (by decide) rfl rfl ?_
              refine tv_goto C (pc := 178) 41 dX7_check_178 (by decide) ?_
              refine tv_drop 4 (L' := [some (.inr (30, 0, 0)), some (.inl (.int x11)), some (.inl (.int c2)), some (.inl (.int (v3 + (1 : Int32)))), none, some (.inl (.int x9))]) rfl ?_
              refine tv_drop 5 (L' := [some (.inr (30, 0, 0)), some (.inl (.int x11)), some (.inl (.int c2)), some (.inl (.int (v3 + (1 : Int32)))), none, none]) rfl ?_
              exact lt_X7_check_41 hl C hdd c2 hkn n x11 (v3 + (1 : Int32)) u17 q h K
            · have h := ts_ifp h hc
              refine tv_aload_n C (pc := 145) dX7_check_145 rfl rfl ?_
              refine tv_getR C (pc := 146) dX7_check_146 fl_X7_37 (ts_live (k := 30) (by decide) (by decide) (by decide)) rfl rfl (i2 := (36, 0, 0)) rfl ?_
              refine tv_iload C (pc := 149) dX7_check_149 rfl ?_
              refine tv_iconst C (pc := 151) dX7_check_151 (v := (2 : Int32)) rfl ?_
              refine tv_iadd C (pc := 152) dX7_check_152 ?_
              obtain ⟨hr18, h⟩ := ts_gd h
              refine tv_iaload C (pc := 153) dX7_check_153 (ts_live (k := 36) (by decide) (by decide) (by decide)) rfl hr18 (j := ((q7 + (2 : Int32))).toNatClampNeg) rfl ?_
              refine tv_goto C (pc := 154) 174 dX7_check_154 (by decide) ?_
              obtain ⟨hr19, h⟩ := ts_gd h
              refine tv_iastore C (pc := 174) dX7_check_174 (ts_live (k := 44) (by decide) (by decide) (by decide)) rfl hr19 (j := x9.toNatClampNeg) rfl ?_
              refine tv_nu (fun u20 hu20 => ?_)
              have h := ts_lt h hu20
              refine tv_iinc C (pc := 175) dX7_check_175 (v := (v3 + (1 : Int32))) (L' := [some (.inr (30, 0, 0)), some (.inl (.int x11)), some (.inl (.int c2)), some (.inl (.int (v3 + (1 : Int32)))), some (.inl (.int q7)), some (.inl (.int x9))]) rfl rfl (by decide) rfl rfl ?_
              refine tv_goto C (pc := 178) 41 dX7_check_178 (by decide) ?_
              refine tv_drop 4 (L' := [some (.inr (30, 0, 0)), some (.inl (.int x11)), some (.inl (.int c2)), some (.inl (.int (v3 + (1 : Int32)))), none, some (.inl (.int x9))]) rfl ?_
              refine tv_drop 5 (L' := [some (.inr (30, 0, 0)), some (.inl (.int x11)), some (.inl (.int c2)), some (.inl (.int (v3 + (1 : Int32)))), none, none]) rfl ?_
              exact lt_X7_check_41 hl C hdd c2 hkn n x11 (v3 + (1 : Int32)) u20 q h K
          · have h := ts_ifp h hc
            refine tv_aload_n C (pc := 124) dX7_check_124 rfl rfl ?_
            refine tv_getR C (pc := 125) dX7_check_125 fl_X7_65 (ts_live (k := 30) (by decide) (by decide) (by decide)) rfl rfl (i2 := (44, 0, 0)) rfl ?_
            refine tv_iload C (pc := 128) dX7_check_128 rfl ?_
            obtain ⟨hr21, h⟩ := ts_gd h
            refine tv_iaload C (pc := 130) dX7_check_130 (ts_live (k := 44) (by decide) (by decide) (by decide)) rfl hr21 (j := x9.toNatClampNeg) rfl ?_
            refine tv_goto C (pc := 131) 174 dX7_check_131 (by decide) ?_
            obtain ⟨hr22, h⟩ := ts_gd h
            refine tv_iastore C (pc := 174) dX7_check_174 (ts_live (k := 44) (by decide) (by decide) (by decide)) rfl hr22 (j := x9.toNatClampNeg) rfl ?_
            refine tv_nu (fun u23 hu23 => ?_)
            have h := ts_lt h hu23
            refine tv_iinc C (pc := 175) dX7_check_175 (v := (v3 + (1 : Int32))) (L' := [some (.inr (30, 0, 0)), some (.inl (.int x11)), some (.inl (.int c2)), some (.inl (.int (v3 + (1 : Int32)))), some (.inl (.int q7)), some (.inl (.int x9))]) rfl rfl (by decide) rfl rfl ?_
            refine tv_goto C (pc := 178) 41 dX7_check_178 (by decide) ?_
            refine tv_drop 4 (L' := [some (.inr (30, 0, 0)), some (.inl (.int x11)), some (.inl (.int c2)), some (.inl (.int (v3 + (1 : Int32)))), none, some (.inl (.int x9))]) rfl ?_
            refine tv_drop 5 (L' := [some (.inr (30, 0, 0)), some (.inl (.int x11)), some (.inl (.int c2)), some (.inl (.int (v3 + (1 : Int32)))), none, none]) rfl ?_
            exact lt_X7_check_41 hl C hdd c2 hkn n x11 (v3 + (1 : Int32)) u23 q h K
        · have h := ts_ifn h hc
          refine tv_aload_n C (pc := 82) dX7_check_82 rfl rfl ?_
          refine tv_getR C (pc := 83) dX7_check_83 fl_X7_37 (ts_live (k := 30) (by decide) (by decide) (by decide)) rfl rfl (i2 := (36, 0, 0)) rfl ?_
          refine tv_iload C (pc := 86) dX7_check_86 rfl ?_
          refine tv_iconst C (pc := 88) dX7_check_88 (v := (3 : Int32)) rfl ?_
          refine tv_iadd C (pc := 89) dX7_check_89 ?_
          obtain ⟨hr24, h⟩ := ts_gd h
          refine tv_iaload C (pc := 90) dX7_check_90 (ts_live (k := 36) (by decide) (by decide) (by decide)) rfl hr24 (j := ((q7 + (3 : Int32))).toNatClampNeg) rfl ?_
          refine tv_aload_n C (pc := 91) dX7_check_91 rfl rfl ?_
          refine tv_getR C (pc := 92) dX7_check_92 fl_X7_65 (ts_live (k := 30) (by decide) (by decide) (by decide)) rfl rfl (i2 := (44, 0, 0)) rfl ?_
          refine tv_iload C (pc := 95) dX7_check_95 rfl ?_
          obtain ⟨hr25, h⟩ := ts_gd h
          refine tv_iaload C (pc := 97) dX7_check_97 (ts_live (k := 44) (by decide) (by decide) (by decide)) rfl hr25 (j := x9.toNatClampNeg) rfl ?_
          refine tv_icmp_eq C (pc := 98) 105 dX7_check_98 (by decide) (fun hc => ?_) (fun hc => ?_)
          · have h := ts_ifp h hc
            refine tv_iconst C (pc := 105) dX7_check_105 (v := (0 : Int32)) rfl ?_
            refine tv_iadd C (pc := 106) dX7_check_106 ?_
            refine tv_nmI (fun x26 hx26 => ?_)
            have h := ts_lt h hx26
            refine tv_istore_n C (pc := 107) dX7_check_107 (L' := [some (.inr (30, 0, 0)), some (.inl (.int x26)), some (.inl (.int c2)), some (.inl (.int v3)), some (.inl (.int q7)), some (.inl (.int x9))]) rfl (by decide) rfl rfl ?_
            refine tv_aload_n C (pc := 108) dX7_check_108 rfl rfl ?_
            refine tv_getR C (pc := 109) dX7_check_109 fl_X7_65 (ts_live (k := 30) (by decide) (by decide) (by decide)) rfl rfl (i2 := (44, 0, 0)) rfl ?_
            refine tv_iload C (pc := 112) dX7_check_112 rfl ?_
            refine tv_aload_n C (pc := 114) dX7_check_114 rfl rfl ?_
            refine tv_getR C (pc := 115) dX7_check_115 fl_X7_37 (ts_live (k := 30) (by decide) (by decide) (by decide)) rfl rfl (i2 := (36, 0, 0)) rfl ?_
            refine tv_iload C (pc := 118) dX7_check_118 rfl ?_
            obtain ⟨hr27, h⟩ := ts_gd h
            refine tv_iaload C (pc := 120) dX7_check_120 (ts_live (k := 36) (by decide) (by decide) (by decide)) rfl hr27 (j := q7.toNatClampNeg) rfl ?_
            refine tv_if_ne C (pc := 121) 134 dX7_check_121 (by decide) (fun hc => ?_) (fun hc => ?_)
            · have h := ts_ifn h hc
              refine tv_aload_n C (pc := 134) dX7_check_134 rfl rfl ?_
              refine tv_getR C (pc := 135) dX7_check_135 fl_X7_37 (ts_live (k := 30) (by decide) (by decide) (by decide)) rfl rfl (i2 := (36, 0, 0)) rfl ?_
              refine tv_iload C (pc := 138) dX7_check_138 rfl ?_
              obtain ⟨hr28, h⟩ := ts_gd h
              refine tv_iaload C (pc := 140) dX7_check_140 (ts_live (k := 36) (by decide) (by decide) (by decide)) rfl hr28 (j := q7.toNatClampNeg) rfl ?_
              refine tv_iconst C (pc := 141) dX7_check_141 (v := (1 : Int32)) rfl ?_
              refine tv_icmp_ne C (pc := 142) 157 dX7_check_142 (by decide) (fun hc => ?_) (fun hc => ?_)
              · have h := ts_ifn h hc
                refine tv_aload_n C (pc := 157) dX7_check_157 rfl rfl ?_
                refine tv_getR C (pc := 158) dX7_check_158 fl_X7_65 (ts_live (k := 30) (by decide) (by decide) (by decide)) rfl rfl (i2 := (44, 0, 0)) rfl ?_
                refine tv_iload C (pc := 161) dX7_check_161 rfl ?_
                obtain ⟨hr29, h⟩ := ts_gd h
                refine tv_iaload C (pc := 163) dX7_check_163 (ts_live (k := 44) (by decide) (by decide) (by decide)) rfl hr29 (j := x9.toNatClampNeg) rfl ?_
                refine tv_aload_n C (pc := 164) dX7_check_164 rfl rfl ?_
                refine tv_getR C (pc := 165) dX7_check_165 fl_X7_37 (ts_live (k := 30) (by decide) (by decide) (by decide)) rfl rfl (i2 := (36, 0, 0)) rfl ?_
                refine tv_iload C (pc := 168) dX7_check_168 rfl ?_
                refine tv_iconst C (pc := 170) dX7_check_170 (v := (2 : Int32)) rfl ?_
                refine tv_iadd C (pc := 171) dX7_check_171 ?_
                obtain ⟨hr30, h⟩ := ts_gd h
                refine tv_iaload C (pc := 172) dX7_check_172 (ts_live (k := 36) (by decide) (by decide) (by decide)) rfl hr30 (j := ((q7 + (2 : Int32))).toNatClampNeg) rfl ?_
                refine tv_iadd C (pc := 173) dX7_check_173 ?_
                obtain ⟨hr31, h⟩ := ts_gd h
                refine tv_iastore C (pc := 174) dX7_check_174 (ts_live (k := 44) (by decide) (by decide) (by decide)) rfl hr31 (j := x9.toNatClampNeg) rfl ?_
                refine tv_nu (fun u32 hu32 => ?_)
                have h := ts_lt h hu32
                refine tv_iinc C (pc := 175) dX7_check_175 (v := (v3 + (1 : Int32))) (L' := [some (.inr (30, 0, 0)), some (.inl (.int x26)), some (.inl (.int c2)), some (.inl (.int (v3 + (1 : Int32)))), some (.inl (.int q7)), some (.inl (.int x9))]) rfl rfl (by decide) rfl rfl ?_
                refine tv_goto C (pc := 178) 41 dX7_check_178 (by decide) ?_
                refine tv_drop 4 (L' := [some (.inr (30, 0, 0)), some (.inl (.int x26)), some (.inl (.int c2)), some (.inl (.int (v3 + (1 : Int32)))), none, some (.inl (.int x9))]) rfl ?_
                refine tv_drop 5 (L' := [some (.inr (30, 0, 0)), some (.inl (.int x26)), some (.inl (.int c2)), some (.inl (.int (v3 + (1 : Int32)))), none, none]) rfl ?_
                exact lt_X7_check_41 hl C hdd c2 hkn n x26 (v3 + (1 : Int32)) u32 q h K
              · have h := ts_ifp h hc
                refine tv_aload_n C (pc := 145) dX7_check_145 rfl rfl ?_
                refine tv_getR C (pc := 146) dX7_check_146 fl_X7_37 (ts_live (k := 30) (by decide) (by decide) (by decide)) rfl rfl (i2 := (36, 0, 0)) rfl ?_
                refine tv_iload C (pc := 149) dX7_check_149 rfl ?_
                refine tv_iconst C (pc := 151) dX7_check_151 (v := (2 : Int32)) rfl ?_
                refine tv_iadd C (pc := 152) dX7_check_152 ?_
                obtain ⟨hr33, h⟩ := ts_gd h
                refine tv_iaload C (pc := 153) dX7_check_153 (ts_live (k := 36) (by decide) (by decide) (by decide)) rfl hr33 (j := ((q7 + (2 : Int32))).toNatClampNeg) rfl ?_
                refine tv_goto C (pc := 154) 174 dX7_check_154 (by decide) ?_
                obtain ⟨hr34, h⟩ := ts_gd h
                refine tv_iastore C (pc := 174) dX7_check_174 (ts_live (k := 44) (by decide) (by decide) (by decide)) rfl hr34 (j := x9.toNatClampNeg) rfl ?_
                refine tv_nu (fun u35 hu35 => ?_)
                have h := ts_lt h hu35
                refine tv_iinc C (pc := 175) dX7_check_175 (v := (v3 + (1 : Int32))) (L' := [some (.inr (30, 0, 0)), some (.inl (.int x26)), some (.inl (.int c2)), some (.inl (.int (v3 + (1 : Int32)))), some (.inl (.int q7)), some (.inl (.int x9))]) rfl rfl (by decide) rfl rfl ?_
                refine tv_goto C (pc := 178) 41 dX7_check_178 (by decide) ?_
                refine tv_drop 4 (L' := [some (.inr (30, 0, 0)), some (.inl (.int x26)), some (.inl (.int c2)), some (.inl (.int (v3 + (1 : Int32)))), none, some (.inl (.int x9))]) rfl ?_
                refine tv_drop 5 (L' := [some (.inr (30, 0, 0)), some (.inl (.int x26)), some (.inl (.int c2)), some (.inl (.int (v3 + (1 : Int32)))), none, none]) rfl ?_
                exact lt_X7_check_41 hl C hdd c2 hkn n x26 (v3 + (1 : Int32)) u35 q h K
            · have h := ts_ifp h hc
              refine tv_aload_n C (pc := 124) dX7_check_124 rfl rfl ?_
              refine tv_getR C (pc := 125) dX7_check_125 fl_X7_65 (ts_live (k := 30) (by decide) (by decide) (by decide)) rfl rfl (i2 := (44, 0, 0)) rfl ?_
              refine tv_iload C (pc := 128) dX7_check_128 rfl ?_
              obtain ⟨hr36, h⟩ := ts_gd h
              refine tv_iaload C (pc := 130) dX7_check_130 (ts_live (k := 44) (by decide) (by decide) (by decide)) rfl hr36 (j := x9.toNatClampNeg) rfl ?_
              refine tv_goto C (pc := 131) 174 dX7_check_131 (by decide) ?_
              obtain ⟨hr37, h⟩ := ts_gd h
              refine tv_iastore C (pc := 174) dX7_check_174 (ts_live (k := 44) (by decide) (by decide) (by decide)) rfl hr37 (j := x9.toNatClampNeg) rfl ?_
              refine tv_nu (fun u38 hu38 => ?_)
              have h := ts_lt h hu38
              refine tv_iinc C (pc := 175) dX7_check_175 (v := (v3 + (1 : Int32))) (L' := [some (.inr (30, 0, 0)), some (.inl (.int x26)), some (.inl (.int c2)), some (.inl (.int (v3 + (1 : Int32)))), some (.inl (.int q7)), some (.inl (.int x9))]) rfl rfl (by decide) rfl rfl ?_
              refine tv_goto C (pc := 178) 41 dX7_check_178 (by decide) ?_
              refine tv_drop 4 (L' := [some (.inr (30, 0, 0)), some (.inl (.int x26)), some (.inl (.int c2)), some (.inl (.int (v3 + (1 : Int32)))), none, some (.inl (.int x9))]) rfl ?_
              refine tv_drop 5 (L' := [some (.inr (30, 0, 0)), some (.inl (.int x26)), some (.inl (.int c2)), some (.inl (.int (v3 + (1 : Int32)))), none, none]) rfl ?_
              exact lt_X7_check_41 hl C hdd c2 hkn n x26 (v3 + (1 : Int32)) u38 q h K
          · have h := ts_ifn h hc
            refine tv_iconst C (pc := 101) dX7_check_101 (v := (1 : Int32)) rfl ?_
            refine tv_goto C (pc := 102) 106 dX7_check_102 (by decide) ?_
            refine tv_iadd C (pc := 106) dX7_check_106 ?_
            refine tv_nmI (fun x39 hx39 => ?_)
            have h := ts_lt h hx39
            refine tv_istore_n C (pc := 107) dX7_check_107 (L' := [some (.inr (30, 0, 0)), some (.inl (.int x39)), some (.inl (.int c2)), some (.inl (.int v3)), some (.inl (.int q7)), some (.inl (.int x9))]) rfl (by decide) rfl rfl ?_
            refine tv_aload_n C (pc := 108) dX7_check_108 rfl rfl ?_
            refine tv_getR C (pc := 109) dX7_check_109 fl_X7_65 (ts_live (k := 30) (by decide) (by decide) (by decide)) rfl rfl (i2 := (44, 0, 0)) rfl ?_
            refine tv_iload C (pc := 112) dX7_check_112 rfl ?_
            refine tv_aload_n C (pc := 114) dX7_check_114 rfl rfl ?_
            refine tv_getR C (pc := 115) dX7_check_115 fl_X7_37 (ts_live (k := 30) (by decide) (by decide) (by decide)) rfl rfl (i2 := (36, 0, 0)) rfl ?_
            refine tv_iload C (pc := 118) dX7_check_118 rfl ?_
            obtain ⟨hr40, h⟩ := ts_gd h
            refine tv_iaload C (pc := 120) dX7_check_120 (ts_live (k := 36) (by decide) (by decide) (by decide)) rfl hr40 (j := q7.toNatClampNeg) rfl ?_
            refine tv_if_ne C (pc := 121) 134 dX7_check_121 (by decide) (fun hc => ?_) (fun hc => ?_)
            · have h := ts_ifn h hc
              refine tv_aload_n C (pc := 134) dX7_check_134 rfl rfl ?_
              refine tv_getR C (pc := 135) dX7_check_135 fl_X7_37 (ts_live (k := 30) (by decide) (by decide) (by decide)) rfl rfl (i2 := (36, 0, 0)) rfl ?_
              refine tv_iload C (pc := 138) dX7_check_138 rfl ?_
              obtain ⟨hr41, h⟩ := ts_gd h
              refine tv_iaload C (pc := 140) dX7_check_140 (ts_live (k := 36) (by decide) (by decide) (by decide)) rfl hr41 (j := q7.toNatClampNeg) rfl ?_
              refine tv_iconst C (pc := 141) dX7_check_141 (v := (1 : Int32)) rfl ?_
              refine tv_icmp_ne C (pc := 142) 157 dX7_check_142 (by decide) (fun hc => ?_) (fun hc => ?_)
              · have h := ts_ifn h hc
                refine tv_aload_n C (pc := 157) dX7_check_157 rfl rfl ?_
                refine tv_getR C (pc := 158) dX7_check_158 fl_X7_65 (ts_live (k := 30) (by decide) (by decide) (by decide)) rfl rfl (i2 := (44, 0, 0)) rfl ?_
                refine tv_iload C (pc := 161) dX7_check_161 rfl ?_
                obtain ⟨hr42, h⟩ := ts_gd h
                refine tv_iaload C (pc := 163) dX7_check_163 (ts_live (k := 44) (by decide) (by decide) (by decide)) rfl hr42 (j := x9.toNatClampNeg) rfl ?_
                refine tv_aload_n C (pc := 164) dX7_check_164 rfl rfl ?_
                refine tv_getR C (pc := 165) dX7_check_165 fl_X7_37 (ts_live (k := 30) (by decide) (by decide) (by decide)) rfl rfl (i2 := (36, 0, 0)) rfl ?_
                refine tv_iload C (pc := 168) dX7_check_168 rfl ?_
                refine tv_iconst C (pc := 170) dX7_check_170 (v := (2 : Int32)) rfl ?_
                refine tv_iadd C (pc := 171) dX7_check_171 ?_
                obtain ⟨hr43, h⟩ := ts_gd h
                refine tv_iaload C (pc := 172) dX7_check_172 (ts_live (k := 36) (by decide) (by decide) (by decide)) rfl hr43 (j := ((q7 + (2 : Int32))).toNatClampNeg) rfl ?_
                refine tv_iadd C (pc := 173) dX7_check_173 ?_
                obtain ⟨hr44, h⟩ := ts_gd h
                refine tv_iastore C (pc := 174) dX7_check_174 (ts_live (k := 44) (by decide) (by decide) (by decide)) rfl hr44 (j := x9.toNatClampNeg) rfl ?_
                refine tv_nu (fun u45 hu45 => ?_)
                have h := ts_lt h hu45
                refine tv_iinc C (pc := 175) dX7_check_175 (v := (v3 + (1 : Int32))) (L' := [some (.inr (30, 0, 0)), some (.inl (.int x39)), some (.inl (.int c2)), some (.inl (.int (v3 + (1 : Int32)))), some (.inl (.int q7)), some (.inl (.int x9))]) rfl rfl (by decide) rfl rfl ?_
                refine tv_goto C (pc := 178) 41 dX7_check_178 (by decide) ?_
                refine tv_drop 4 (L' := [some (.inr (30, 0, 0)), some (.inl (.int x39)), some (.inl (.int c2)), some (.inl (.int (v3 + (1 : Int32)))), none, some (.inl (.int x9))]) rfl ?_
                refine tv_drop 5 (L' := [some (.inr (30, 0, 0)), some (.inl (.int x39)), some (.inl (.int c2)), some (.inl (.int (v3 + (1 : Int32)))), none, none]) rfl ?_
                exact lt_X7_check_41 hl C hdd c2 hkn n x39 (v3 + (1 : Int32)) u45 q h K
              · have h := ts_ifp h hc
                refine tv_aload_n C (pc := 145) dX7_check_145 rfl rfl ?_
                refine tv_getR C (pc := 146) dX7_check_146 fl_X7_37 (ts_live (k := 30) (by decide) (by decide) (by decide)) rfl rfl (i2 := (36, 0, 0)) rfl ?_
                refine tv_iload C (pc := 149) dX7_check_149 rfl ?_
                refine tv_iconst C (pc := 151) dX7_check_151 (v := (2 : Int32)) rfl ?_
                refine tv_iadd C (pc := 152) dX7_check_152 ?_
                obtain ⟨hr46, h⟩ := ts_gd h
                refine tv_iaload C (pc := 153) dX7_check_153 (ts_live (k := 36) (by decide) (by decide) (by decide)) rfl hr46 (j := ((q7 + (2 : Int32))).toNatClampNeg) rfl ?_
                refine tv_goto C (pc := 154) 174 dX7_check_154 (by decide) ?_
                obtain ⟨hr47, h⟩ := ts_gd h
                refine tv_iastore C (pc := 174) dX7_check_174 (ts_live (k := 44) (by decide) (by decide) (by decide)) rfl hr47 (j := x9.toNatClampNeg) rfl ?_
                refine tv_nu (fun u48 hu48 => ?_)
                have h := ts_lt h hu48
                refine tv_iinc C (pc := 175) dX7_check_175 (v := (v3 + (1 : Int32))) (L' := [some (.inr (30, 0, 0)), some (.inl (.int x39)), some (.inl (.int c2)), some (.inl (.int (v3 + (1 : Int32)))), some (.inl (.int q7)), some (.inl (.int x9))]) rfl rfl (by decide) rfl rfl ?_
                refine tv_goto C (pc := 178) 41 dX7_check_178 (by decide) ?_
                refine tv_drop 4 (L' := [some (.inr (30, 0, 0)), some (.inl (.int x39)), some (.inl (.int c2)), some (.inl (.int (v3 + (1 : Int32)))), none, some (.inl (.int x9))]) rfl ?_
                refine tv_drop 5 (L' := [some (.inr (30, 0, 0)), some (.inl (.int x39)), some (.inl (.int c2)), some (.inl (.int (v3 + (1 : Int32)))), none, none]) rfl ?_
                exact lt_X7_check_41 hl C hdd c2 hkn n x39 (v3 + (1 : Int32)) u48 q h K
            · have h := ts_ifp h hc
              refine tv_aload_n C (pc := 124) dX7_check_124 rfl rfl ?_
              refine tv_getR C (pc := 125) dX7_check_125 fl_X7_65 (ts_live (k := 30) (by decide) (by decide) (by decide)) rfl rfl (i2 := (44, 0, 0)) rfl ?_
              refine tv_iload C (pc := 128) dX7_check_128 rfl ?_
              obtain ⟨hr49, h⟩ := ts_gd h
              refine tv_iaload C (pc := 130) dX7_check_130 (ts_live (k := 44) (by decide) (by decide) (by decide)) rfl hr49 (j := x9.toNatClampNeg) rfl ?_
              refine tv_goto C (pc := 131) 174 dX7_check_131 (by decide) ?_
              obtain ⟨hr50, h⟩ := ts_gd h
              refine tv_iastore C (pc := 174) dX7_check_174 (ts_live (k := 44) (by decide) (by decide) (by decide)) rfl hr50 (j := x9.toNatClampNeg) rfl ?_
              refine tv_nu (fun u51 hu51 => ?_)
              have h := ts_lt h hu51
              refine tv_iinc C (pc := 175) dX7_check_175 (v := (v3 + (1 : Int32))) (L' := [some (.inr (30, 0, 0)), some (.inl (.int x39)), some (.inl (.int c2)), some (.inl (.int (v3 + (1 : Int32)))), some (.inl (.int q7)), some (.inl (.int x9))]) rfl rfl (by decide) rfl rfl ?_
              refine tv_goto C (pc := 178) 41 dX7_check_178 (by decide) ?_
              refine tv_drop 4 (L' := [some (.inr (30, 0, 0)), some (.inl (.int x39)), some (.inl (.int c2)), some (.inl (.int (v3 + (1 : Int32)))), none, some (.inl (.int x9))]) rfl ?_
              refine tv_drop 5 (L' := [some (.inr (30, 0, 0)), some (.inl (.int x39)), some (.inl (.int c2)), some (.inl (.int (v3 + (1 : Int32)))), none, none]) rfl ?_
              exact lt_X7_check_41 hl C hdd c2 hkn n x39 (v3 + (1 : Int32)) u51 q h K
set_option maxRecDepth 100000 in
set_option maxHeartbeats 4000000 in
theorem lt_X7_check_34 {D : va_G} {dT : Nat → ClassId} {sz : Nat} {p : Program} {l : Launch} {e : Env} {R : Room} {s : State} {m : MethodId} {args : Array Value} {below : List Frame} {meth : Method} {c : Code} {d : Nat} {ad : ts_I → Nat} {kk nn : Nat} {Q : State → Prop} (hl : l.stackTraces = false) (C : ts_CX D dT sz p l R s m args meth c RX7 cX7_check 6 (some .int) d) (hdd : 3 ≤ d)  (hkn : kk ≤ R.cells ∧ nn ≤ R.slots) : ∀ (n : Nat) (v1 : Int32) (v2 : Int32) (u : ts_Mem) (q : (Int32 × Int32 × ts_Mem)) (h : lp_X7_check_34 n v1 v2 u = some q) (K : ts_V D dT sz p l e R s m args below meth c 6 Q ad ts_lv ts_R0 195 [some (.inr (30, 0, 0)), some (.inl (.int q.1)), some (.inl (.int q.2.1)), none, none, none] [] q.2.2 kk nn), ts_V D dT sz p l e R s m args below meth c 6 Q ad ts_lv ts_R0 34 [some (.inr (30, 0, 0)), some (.inl (.int v1)), some (.inl (.int v2)), none, none, none] [] u kk nn
  | 0, _, _, _, _, h, _ => by cases h
  | n + 1, v1, v2, u, q, h, K => by
      rw [lp_X7_check_34] at h
      refine tv_iload_n C (pc := 34) dX7_check_34 rfl rfl ?_
      refine tv_iconst C (pc := 35) dX7_check_35 (v := (-1 : Int32)) rfl ?_
      refine tv_icmp_eq C (pc := 36) 195 dX7_check_36 (by decide) (fun hc => ?_) (fun hc => ?_)
      · have h := ts_ifp h hc
        cases h
        exact K
      · have h := ts_ifn h hc
        refine tv_iconst C (pc := 39) dX7_check_39 (v := (0 : Int32)) rfl ?_
        refine tv_istore_n C (pc := 40) dX7_check_40 (L' := [some (.inr (30, 0, 0)), some (.inl (.int v1)), some (.inl (.int v2)), some (.inl (.int (0 : Int32))), none, none]) rfl (by decide) rfl rfl ?_
        obtain ⟨q52, hq52, h⟩ := ts_bd h
        refine lt_X7_check_41 hl C hdd v2 hkn ts_fu v1 (0 : Int32) u q52 hq52 ?_
        refine tv_aload_n C (pc := 181) dX7_check_181 rfl rfl ?_
        refine tv_aload_n C (pc := 182) dX7_check_182 rfl rfl ?_
        refine tv_getR C (pc := 183) dX7_check_183 fl_X7_25 (ts_live (k := 30) (by decide) (by decide) (by decide)) rfl rfl (i2 := (32, 0, 0)) rfl ?_
        refine tv_iload_n C (pc := 186) dX7_check_186 rfl rfl ?_
        obtain ⟨hr53, h⟩ := ts_gd h
        refine tv_iaload C (pc := 187) dX7_check_187 (ts_live (k := 32) (by decide) (by decide) (by decide)) rfl hr53 (j := v2.toNatClampNeg) rfl ?_
        obtain ⟨q54, hq54, h⟩ := ts_bd h
        refine tv_callV C (pc := 188) dX7_check_188 (ci := 7) (q := (RX7, TX7, 37)) rfl yl_X7_244 (m_X7_nextCommitted (D := D) (dT := dT) (sz := sz) (ad := ad) hl (ts_gI q52.2.2 (32, 0, 0) v2.toNatClampNeg) q52.2.2 q54 hq54) (ts_live (k := 30) (by decide) (by decide) (by decide)) rfl (Nat.le_trans (Nat.le_of_ble_eq_true rfl) hdd) (As := [.inl (.int (ts_gI q52.2.2 (32, 0, 0) v2.toNatClampNeg))]) rfl ⟨hkn.1, hkn.2⟩ (fun _ => Nat.le_of_ble_eq_true rfl) rfl ?_
        refine tv_istore_n C (pc := 191) dX7_check_191 (L' := [some (.inr (30, 0, 0)), some (.inl (.int q52.1)), some (.inl (.int q54)), some (.inl (.int q52.2.1)), none, none]) rfl (by decide) rfl rfl ?_
        refine tv_goto C (pc := 192) 34 dX7_check_192 (by decide) ?_
        refine tv_drop 3 (L' := [some (.inr (30, 0, 0)), some (.inl (.int q52.1)), some (.inl (.int q54)), none, none, none]) rfl ?_
        exact lt_X7_check_34 hl C hdd  hkn n q52.1 q54 q52.2.2 q h K
set_option maxRecDepth 100000 in
set_option maxHeartbeats 4000000 in
theorem lt_X7_check_197 {D : va_G} {dT : Nat → ClassId} {sz : Nat} {p : Program} {l : Launch} {e : Env} {R : Room} {s : State} {m : MethodId} {args : Array Value} {below : List Frame} {meth : Method} {c : Code} {d : Nat} {ad : ts_I → Nat} {kk nn : Nat} {Q : State → Prop} (hl : l.stackTraces = false) (C : ts_CX D dT sz p l R s m args meth c RX7 cX7_check 6 (some .int) d) (hdd : 3 ≤ d)  (u : ts_Mem) (hkn : kk ≤ R.cells ∧ nn ≤ R.slots) : ∀ (n : Nat) (v1 : Int32) (v2 : Int32) (q : (Int32 × Int32)) (h : lp_X7_check_197 u n v1 v2 = some q) (K : ts_V D dT sz p l e R s m args below meth c 6 Q ad ts_lv ts_R0 246 [some (.inr (30, 0, 0)), some (.inl (.int q.1)), some (.inl (.int q.2)), none, none, none] [] u kk nn), ts_V D dT sz p l e R s m args below meth c 6 Q ad ts_lv ts_R0 197 [some (.inr (30, 0, 0)), some (.inl (.int v1)), some (.inl (.int v2)), none, none, none] [] u kk nn
  | 0, _, _, _, h, _ => by cases h
  | n + 1, v1, v2, q, h, K => by
      rw [lp_X7_check_197] at h
      refine tv_iload_n C (pc := 197) dX7_check_197 rfl rfl ?_
      refine tv_bipush C (pc := 198) dX7_check_198 (v := (8 : Int32)) rfl ?_
      refine tv_icmp_ge C (pc := 200) 246 dX7_check_200 (by decide) (fun hc => ?_) (fun hc => ?_)
      · have h := ts_ifp h hc
        cases h
        exact K
      · have h := ts_ifn h hc
        refine tv_aload_n C (pc := 203) dX7_check_203 rfl rfl ?_
        refine tv_iload_n C (pc := 204) dX7_check_204 rfl rfl ?_
        refine tv_ldc C (pc := 205) dX7_check_205 kc_X7_247 ?_
        obtain ⟨q56, hq56, h⟩ := ts_bd h
        refine tv_callV C (pc := 207) dX7_check_207 (ci := 7) (q := (RX7, TX7, 37)) rfl yl_X7_235 (m_X7_lastCommitted (D := D) (dT := dT) (sz := sz) (ad := ad) hl v2 (2147483647 : Int32) u q56 hq56) (ts_live (k := 30) (by decide) (by decide) (by decide)) rfl (Nat.le_trans (Nat.le_of_ble_eq_true rfl) hdd) (As := [.inl (.int v2), .inl (.int (2147483647 : Int32))]) rfl ⟨hkn.1, hkn.2⟩ (fun _ => Nat.le_of_ble_eq_true rfl) rfl ?_
        refine tv_istore_n C (pc := 210) dX7_check_210 (L' := [some (.inr (30, 0, 0)), some (.inl (.int v1)), some (.inl (.int v2)), some (.inl (.int q56)), none, none]) rfl (by decide) rfl rfl ?_
        refine tv_iload_n C (pc := 211) dX7_check_211 rfl rfl ?_
        refine tv_aload_n C (pc := 212) dX7_check_212 rfl rfl ?_
        refine tv_getR C (pc := 213) dX7_check_213 fl_X7_46 (ts_live (k := 30) (by decide) (by decide) (by decide)) rfl rfl (i2 := (39, 0, 0)) rfl ?_
        refine tv_iload_n C (pc := 216) dX7_check_216 rfl rfl ?_
        refine tv_iload_n C (pc := 217) dX7_check_217 rfl rfl ?_
        obtain ⟨q57, hq57, h⟩ := ts_bd h
        refine tv_callS C (pc := 218) dX7_check_218 yl_X7_91 (m_X7_place (D := D) (dT := dT) (sz := sz) (ad := ad) hl v2 q56 u q57 hq57) (Nat.le_trans (Nat.le_of_ble_eq_true rfl) hdd) (As := [.inl (.int v2), .inl (.int q56)]) rfl ⟨hkn.1, hkn.2⟩ (fun _ => Nat.le_of_ble_eq_true rfl) rfl ?_
        refine tv_iconst C (pc := 221) dX7_check_221 (v := (2 : Int32)) rfl ?_
        refine tv_iadd C (pc := 222) dX7_check_222 ?_
        obtain ⟨hr58, h⟩ := ts_gd h
        refine tv_iaload C (pc := 223) dX7_check_223 (ts_live (k := 39) (by decide) (by decide) (by decide)) rfl hr58 (j := ((q57 + (2 : Int32))).toNatClampNeg) rfl ?_
        refine tv_aload_n C (pc := 224) dX7_check_224 rfl rfl ?_
        refine tv_getR C (pc := 225) dX7_check_225 fl_X7_65 (ts_live (k := 30) (by decide) (by decide) (by decide)) rfl rfl (i2 := (44, 0, 0)) rfl ?_
        refine tv_iload_n C (pc := 228) dX7_check_228 rfl rfl ?_
        obtain ⟨hr59, h⟩ := ts_gd h
        refine tv_iaload C (pc := 229) dX7_check_229 (ts_live (k := 44) (by decide) (by decide) (by decide)) rfl hr59 (j := v2.toNatClampNeg) rfl ?_
        refine tv_icmp_eq C (pc := 230) 237 dX7_check_230 (by decide) (fun hc => ?_) (fun hc => ?_)
        · have h := ts_ifp h hc
          refine tv_iconst C (pc := 237) dX7_check_237 (v := (0 : Int32)) rfl ?_
          refine tv_iadd C (pc := 238) dX7_check_238 ?_
          refine tv_nmI (fun x60 hx60 => ?_)
          have h := ts_lt h hx60
          refine tv_istore_n C (pc := 239) dX7_check_239 (L' := [some (.inr (30, 0, 0)), some (.inl (.int x60)), some (.inl (.int v2)), some (.inl (.int q56)), none, none]) rfl (by decide) rfl rfl ?_
          refine tv_iinc C (pc := 240) dX7_check_240 (v := (v2 + (1 : Int32))) (L' := [some (.inr (30, 0, 0)), some (.inl (.int x60)), some (.inl (.int (v2 + (1 : Int32)))), some (.inl (.int q56)), none, none]) rfl rfl (by decide) rfl rfl ?_
          refine tv_goto C (pc := 243) 197 dX7_check_243 (by decide) ?_
          refine tv_drop 3 (L' := [some (.inr (30, 0, 0)), some (.inl (.int x60)), some (.inl (.int (v2 + (1 : Int32)))), none, none, none]) rfl ?_
          exact lt_X7_check_197 hl C hdd  u hkn n x60 (v2 + (1 : Int32)) q h K
        · have h := ts_ifn h hc
          refine tv_iconst C (pc := 233) dX7_check_233 (v := (1 : Int32)) rfl ?_
          refine tv_goto C (pc := 234) 238 dX7_check_234 (by decide) ?_
          refine tv_iadd C (pc := 238) dX7_check_238 ?_
          refine tv_nmI (fun x61 hx61 => ?_)
          have h := ts_lt h hx61
          refine tv_istore_n C (pc := 239) dX7_check_239 (L' := [some (.inr (30, 0, 0)), some (.inl (.int x61)), some (.inl (.int v2)), some (.inl (.int q56)), none, none]) rfl (by decide) rfl rfl ?_
          refine tv_iinc C (pc := 240) dX7_check_240 (v := (v2 + (1 : Int32))) (L' := [some (.inr (30, 0, 0)), some (.inl (.int x61)), some (.inl (.int (v2 + (1 : Int32)))), some (.inl (.int q56)), none, none]) rfl rfl (by decide) rfl rfl ?_
          refine tv_goto C (pc := 243) 197 dX7_check_243 (by decide) ?_
          refine tv_drop 3 (L' := [some (.inr (30, 0, 0)), some (.inl (.int x61)), some (.inl (.int (v2 + (1 : Int32)))), none, none, none]) rfl ?_
          exact lt_X7_check_197 hl C hdd  u hkn n x61 (v2 + (1 : Int32)) q h K
set_option maxRecDepth 100000 in
set_option maxHeartbeats 4000000 in
theorem m_X7_check {l : Launch} {D : va_G} {dT : Nat → ClassId} {sz : Nat} {ad : ts_I → Nat} (hl : l.stackTraces = false)  (u : ts_Mem) (r : (Int32 × ts_Mem)) (h : f_X7_check  u = some r) : ts_M l D dT sz yX7_check wX7_check 3 0 0 ad ts_lv ts_R0 [.inr (30, 0, 0)] u (.inl (some (.int r.1))) r.2 := by
    unfold f_X7_check at h
    refine ts_enter hl (by decide) rfl rfl (Nat.le_of_ble_eq_true rfl) ?_
    intro p e s m args below meth c C hX hnm
    have C : ts_CX D dT sz p l (ts_rm 3 0 0) s m args meth c RX7 cX7_check 6 (some .int) 3 := C
    have hdd : 3 ≤ 3 := Nat.le_refl _
    refine tv_aload_n C (pc := 0) dX7_check_0 rfl rfl ?_
    refine tv_iconst C (pc := 1) dX7_check_1 (v := (0 : Int32)) rfl ?_
    refine tv_putI C (pc := 2) dX7_check_2 fp_X7_3 (ts_live (k := 30) (by decide) (by decide) (by decide)) rfl (cd := 0) rfl (by decide) rfl rfl ?_
    refine tv_nu (fun u1 hu1 => ?_)
    have h := ts_lt h hu1
    refine tv_iconst C (pc := 5) dX7_check_5 (v := (0 : Int32)) rfl ?_
    refine tv_istore_n C (pc := 6) dX7_check_6 (L' := [some (.inr (30, 0, 0)), some (.inl (.int (0 : Int32))), none, none, none, none]) rfl (by decide) rfl rfl ?_
    obtain ⟨q4, hq4, h⟩ := ts_bd h
    refine lt_X7_check_7 hl C hdd  ⟨Nat.le_of_ble_eq_true rfl, Nat.le_of_ble_eq_true rfl⟩ ts_fu (0 : Int32) u1 q4 hq4 ?_
    refine tv_iconst C (pc := 26) dX7_check_26 (v := (0 : Int32)) rfl ?_
    refine tv_istore_n C (pc := 27) dX7_check_27 (L' := [some (.inr (30, 0, 0)), some (.inl (.int (0 : Int32))), none, none, none, none]) rfl (by decide) rfl rfl ?_
    refine tv_aload_n C (pc := 28) dX7_check_28 rfl rfl ?_
    refine tv_iconst C (pc := 29) dX7_check_29 (v := (0 : Int32)) rfl ?_
    obtain ⟨q5, hq5, h⟩ := ts_bd h
    refine tv_callV C (pc := 30) dX7_check_30 (ci := 7) (q := (RX7, TX7, 37)) rfl yl_X7_244 (m_X7_nextCommitted (D := D) (dT := dT) (sz := sz) (ad := ad) hl (0 : Int32) q4.2 q5 hq5) (ts_live (k := 30) (by decide) (by decide) (by decide)) rfl (Nat.le_trans (Nat.le_of_ble_eq_true rfl) hdd) (As := [.inl (.int (0 : Int32))]) rfl ⟨Nat.le_of_ble_eq_true rfl, Nat.le_of_ble_eq_true rfl⟩ (fun _ => Nat.le_of_ble_eq_true rfl) rfl ?_
    refine tv_istore_n C (pc := 33) dX7_check_33 (L' := [some (.inr (30, 0, 0)), some (.inl (.int (0 : Int32))), some (.inl (.int q5)), none, none, none]) rfl (by decide) rfl rfl ?_
    obtain ⟨q55, hq55, h⟩ := ts_bd h
    refine lt_X7_check_34 hl C hdd  ⟨Nat.le_of_ble_eq_true rfl, Nat.le_of_ble_eq_true rfl⟩ ts_fu (0 : Int32) q5 q4.2 q55 hq55 ?_
    refine tv_iconst C (pc := 195) dX7_check_195 (v := (0 : Int32)) rfl ?_
    refine tv_istore_n C (pc := 196) dX7_check_196 (L' := [some (.inr (30, 0, 0)), some (.inl (.int q55.1)), some (.inl (.int (0 : Int32))), none, none, none]) rfl (by decide) rfl rfl ?_
    obtain ⟨q62, hq62, h⟩ := ts_bd h
    refine lt_X7_check_197 hl C hdd  q55.2.2 ⟨Nat.le_of_ble_eq_true rfl, Nat.le_of_ble_eq_true rfl⟩ ts_fu q55.1 (0 : Int32) q62 hq62 ?_
    refine tv_iload_n C (pc := 246) dX7_check_246 rfl rfl ?_
    cases h
    exact tv_iret C (pc := 247) rfl dX7_check_247 ⟨Nat.le_of_ble_eq_true rfl, Nat.le_of_ble_eq_true rfl⟩
set_option maxRecDepth 100000 in
set_option maxHeartbeats 4000000 in
theorem m_X7_isSlot {l : Launch} {D : va_G} {dT : Nat → ClassId} {sz : Nat} {ad : ts_I → Nat} (hl : l.stackTraces = false) (p0 : Int32) (u : ts_Mem) (r : Int32) (h : f_X7_isSlot p0 u = some r) : ts_M l D dT sz yX7_isSlot wX7_isSlot 1 0 0 ad ts_lv ts_R0 [.inl (.int p0)] u (.inl (some (.int r))) u := by
    unfold f_X7_isSlot at h
    refine ts_enter hl (by decide) rfl rfl (Nat.le_of_ble_eq_true rfl) ?_
    intro p e s m args below meth c C hX hnm
    have C : ts_CX D dT sz p l (ts_rm 1 0 0) s m args meth c RX7 cX7_isSlot 1 (some .boolean) 1 := C
    have hdd : 1 ≤ 1 := Nat.le_refl _
    refine tv_iload_n C (pc := 0) dX7_isSlot_0 rfl rfl ?_
    refine tv_iconst C (pc := 1) dX7_isSlot_1 (v := (0 : Int32)) rfl ?_
    refine tv_iconst C (pc := 2) dX7_isSlot_2 (v := (2 : Int32)) rfl ?_
    obtain ⟨q1, hq1, h⟩ := ts_bd h
    refine tv_callS C (pc := 3) dX7_isSlot_3 yl_X7_95 (m_X7_isIn (D := D) (dT := dT) (sz := sz) (ad := ad) hl p0 (0 : Int32) (2 : Int32) u q1 hq1) (Nat.le_trans (Nat.le_of_ble_eq_true rfl) hdd) (As := [.inl (.int p0), .inl (.int (0 : Int32)), .inl (.int (2 : Int32))]) rfl ⟨Nat.le_of_ble_eq_true rfl, Nat.le_of_ble_eq_true rfl⟩ (fun _ => Nat.le_of_ble_eq_true rfl) rfl ?_
    obtain ⟨hgz, h⟩ := ts_gd h
    cases h
    exact tv_zret C (pc := 6) rfl (ts_nz hgz).1 dX7_isSlot_6 ⟨Nat.le_of_ble_eq_true rfl, Nat.le_of_ble_eq_true rfl⟩
set_option maxRecDepth 100000 in
set_option maxHeartbeats 4000000 in
theorem lt_X7_allocate_63 {D : va_G} {dT : Nat → ClassId} {sz : Nat} {p : Program} {l : Launch} {e : Env} {R : Room} {s : State} {m : MethodId} {args : Array Value} {below : List Frame} {meth : Method} {c : Code} {d : Nat} {ad : ts_I → Nat} {kk nn : Nat} {Q : State → Prop} (hl : l.stackTraces = false) (C : ts_CX D dT sz p l R s m args meth c RX7 cX7_allocate 5 none d) (hdd : 2 ≤ d) (c1 : Int32) (c2 : Int32) (c3 : Int32) (hkn : kk ≤ R.cells ∧ nn ≤ R.slots) : ∀ (n : Nat) (v4 : Int32) (u : ts_Mem) (q : (Int32 × ts_Mem)) (h : lp_X7_allocate_63 c1 c2 c3 n v4 u = some q) (K : ts_V D dT sz p l e R s m args below meth c 5 Q ad ts_lv ts_R0 102 [some (.inr (30, 0, 0)), some (.inl (.int c1)), some (.inl (.int c2)), some (.inl (.int c3)), some (.inl (.int q.1))] [] q.2 kk nn), ts_V D dT sz p l e R s m args below meth c 5 Q ad ts_lv ts_R0 63 [some (.inr (30, 0, 0)), some (.inl (.int c1)), some (.inl (.int c2)), some (.inl (.int c3)), some (.inl (.int v4))] [] u kk nn
  | 0, _, _, _, h, _ => by cases h
  | n + 1, v4, u, q, h, K => by
      rw [lp_X7_allocate_63] at h
      refine tv_iload C (pc := 63) dX7_allocate_63 rfl ?_
      refine tv_bipush C (pc := 65) dX7_allocate_65 (v := (30 : Int32)) rfl ?_
      refine tv_icmp_ge C (pc := 67) 102 dX7_allocate_67 (by decide) (fun hc => ?_) (fun hc => ?_)
      · have h := ts_ifp h hc
        cases h
        exact K
      · have h := ts_ifn h hc
        refine tv_aload_n C (pc := 70) dX7_allocate_70 rfl rfl ?_
        refine tv_getR C (pc := 71) dX7_allocate_71 fl_X7_74 (ts_live (k := 30) (by decide) (by decide) (by decide)) rfl rfl (i2 := (47, 0, 0)) rfl ?_
        refine tv_bipush C (pc := 74) dX7_allocate_74 (v := (30 : Int32)) rfl ?_
        refine tv_iload_n C (pc := 76) dX7_allocate_76 rfl rfl ?_
        refine tv_imul C (pc := 77) dX7_allocate_77 ?_
        refine tv_iload C (pc := 78) dX7_allocate_78 rfl ?_
        refine tv_iadd C (pc := 80) dX7_allocate_80 ?_
        refine tv_iconst C (pc := 81) dX7_allocate_81 (v := (0 : Int32)) rfl ?_
        obtain ⟨hr8, h⟩ := ts_gd h
        refine tv_iastore C (pc := 82) dX7_allocate_82 (ts_live (k := 47) (by decide) (by decide) (by decide)) rfl hr8 (j := ((((30 : Int32) * c1) + v4)).toNatClampNeg) rfl ?_
        refine tv_nu (fun u9 hu9 => ?_)
        have h := ts_lt h hu9
        refine tv_aload_n C (pc := 83) dX7_allocate_83 rfl rfl ?_
        refine tv_getR C (pc := 84) dX7_allocate_84 fl_X7_77 (ts_live (k := 30) (by decide) (by decide) (by decide)) rfl rfl (i2 := (48, 0, 0)) rfl ?_
        refine tv_bipush C (pc := 87) dX7_allocate_87 (v := (30 : Int32)) rfl ?_
        refine tv_iload_n C (pc := 89) dX7_allocate_89 rfl rfl ?_
        refine tv_imul C (pc := 90) dX7_allocate_90 ?_
        refine tv_iload C (pc := 91) dX7_allocate_91 rfl ?_
        refine tv_iadd C (pc := 93) dX7_allocate_93 ?_
        refine tv_fconst0 C (pc := 94) dX7_allocate_94 ?_
        obtain ⟨hr10, h⟩ := ts_gd h
        refine tv_fastore C (pc := 95) dX7_allocate_95 (ts_live (k := 48) (by decide) (by decide) (by decide)) rfl hr10 (j := ((((30 : Int32) * c1) + v4)).toNatClampNeg) rfl ?_
        refine tv_nu (fun u11 hu11 => ?_)
        have h := ts_lt h hu11
        refine tv_iinc C (pc := 96) dX7_allocate_96 (v := (v4 + (1 : Int32))) (L' := [some (.inr (30, 0, 0)), some (.inl (.int c1)), some (.inl (.int c2)), some (.inl (.int c3)), some (.inl (.int (v4 + (1 : Int32))))]) rfl rfl (by decide) rfl rfl ?_
        refine tv_goto C (pc := 99) 63 dX7_allocate_99 (by decide) ?_
        exact lt_X7_allocate_63 hl C hdd c1 c2 c3 hkn n (v4 + (1 : Int32)) u11 q h K
set_option maxRecDepth 100000 in
set_option maxHeartbeats 4000000 in
theorem m_X7_allocate {l : Launch} {D : va_G} {dT : Nat → ClassId} {sz : Nat} {ad : ts_I → Nat} (hl : l.stackTraces = false) (p1 : Int32) (p2 : Int32) (p3 : Int32) (u : ts_Mem) (r : ts_Mem) (h : f_X7_allocate p1 p2 p3 u = some r) : ts_M l D dT sz yX7_allocate wX7_allocate 2 0 0 ad ts_lv ts_R0 [.inr (30, 0, 0), .inl (.int p1), .inl (.int p2), .inl (.int p3)] u (.inl none) r := by
    unfold f_X7_allocate at h
    refine ts_enter hl (by decide) rfl rfl (Nat.le_of_ble_eq_true rfl) ?_
    intro p e s m args below meth c C hX hnm
    have C : ts_CX D dT sz p l (ts_rm 2 0 0) s m args meth c RX7 cX7_allocate 5 none 2 := C
    have hdd : 2 ≤ 2 := Nat.le_refl _
    refine tv_aload_n C (pc := 0) dX7_allocate_0 rfl rfl ?_
    refine tv_iload_n C (pc := 1) dX7_allocate_1 rfl rfl ?_
    obtain ⟨q1, hq1, h⟩ := ts_bd h
    refine tv_callS C (pc := 2) dX7_allocate_2 yl_X7_248 (m_X7_isSlot (D := D) (dT := dT) (sz := sz) (ad := ad) hl p1 u q1 hq1) (Nat.le_trans (Nat.le_of_ble_eq_true rfl) hdd) (As := [.inl (.int p1)]) rfl ⟨Nat.le_of_ble_eq_true rfl, Nat.le_of_ble_eq_true rfl⟩ (fun _ => Nat.le_of_ble_eq_true rfl) rfl ?_
    refine tv_if_ne C (pc := 5) 12 dX7_allocate_5 (by decide) (fun hc => ?_) (fun hc => ?_)
    · have h := ts_ifn h hc
      refine tv_iload_n C (pc := 12) dX7_allocate_12 rfl rfl ?_
      refine tv_iconst C (pc := 13) dX7_allocate_13 (v := (0 : Int32)) rfl ?_
      refine tv_iconst C (pc := 14) dX7_allocate_14 (v := (1 : Int32)) rfl ?_
      obtain ⟨q2, hq2, h⟩ := ts_bd h
      refine tv_callS C (pc := 15) dX7_allocate_15 yl_X7_95 (m_X7_isIn (D := D) (dT := dT) (sz := sz) (ad := ad) hl p2 (0 : Int32) (1 : Int32) u q2 hq2) (Nat.le_trans (Nat.le_of_ble_eq_true rfl) hdd) (As := [.inl (.int p2), .inl (.int (0 : Int32)), .inl (.int (1 : Int32))]) rfl ⟨Nat.le_of_ble_eq_true rfl, Nat.le_of_ble_eq_true rfl⟩ (fun _ => Nat.le_of_ble_eq_true rfl) rfl ?_
      refine tv_if_eq C (pc := 18) 31 dX7_allocate_18 (by decide) (fun hc => ?_) (fun hc => ?_)
      · have h := ts_ifp h hc
        refine tv_iconst C (pc := 31) dX7_allocate_31 (v := (2 : Int32)) rfl ?_
        refine tv_goto C (pc := 32) 36 dX7_allocate_32 (by decide) ?_
        refine tv_putI C (pc := 36) dX7_allocate_36 fp_X7_3 (ts_live (k := 30) (by decide) (by decide) (by decide)) rfl (cd := 0) rfl (by decide) rfl rfl ?_
        refine tv_nu (fun u3 hu3 => ?_)
        have h := ts_lt h hu3
        refine tv_aload_n C (pc := 39) dX7_allocate_39 rfl rfl ?_
        refine tv_getI C (pc := 40) dX7_allocate_40 fl_X7_3 (ts_live (k := 30) (by decide) (by decide) (by decide)) rfl (cd := 0) rfl (by decide) ?_
        refine tv_if_ne C (pc := 43) 102 dX7_allocate_43 (by decide) (fun hc => ?_) (fun hc => ?_)
        · have h := ts_ifn h hc
          cases h
          exact tv_vret C (pc := 102) rfl dX7_allocate_102 ⟨Nat.le_of_ble_eq_true rfl, Nat.le_of_ble_eq_true rfl⟩
        · have h := ts_ifp h hc
          refine tv_aload_n C (pc := 46) dX7_allocate_46 rfl rfl ?_
          refine tv_getR C (pc := 47) dX7_allocate_47 fl_X7_68 (ts_live (k := 30) (by decide) (by decide) (by decide)) rfl rfl (i2 := (45, 0, 0)) rfl ?_
          refine tv_iload_n C (pc := 50) dX7_allocate_50 rfl rfl ?_
          refine tv_iload_n C (pc := 51) dX7_allocate_51 rfl rfl ?_
          obtain ⟨hr4, h⟩ := ts_gd h
          refine tv_iastore C (pc := 52) dX7_allocate_52 (ts_live (k := 45) (by decide) (by decide) (by decide)) rfl hr4 (j := p1.toNatClampNeg) rfl ?_
          refine tv_nu (fun u5 hu5 => ?_)
          have h := ts_lt h hu5
          refine tv_aload_n C (pc := 53) dX7_allocate_53 rfl rfl ?_
          refine tv_getR C (pc := 54) dX7_allocate_54 fl_X7_71 (ts_live (k := 30) (by decide) (by decide) (by decide)) rfl rfl (i2 := (46, 0, 0)) rfl ?_
          refine tv_iload_n C (pc := 57) dX7_allocate_57 rfl rfl ?_
          refine tv_iload_n C (pc := 58) dX7_allocate_58 rfl rfl ?_
          obtain ⟨hr6, h⟩ := ts_gd h
          refine tv_iastore C (pc := 59) dX7_allocate_59 (ts_live (k := 46) (by decide) (by decide) (by decide)) rfl hr6 (j := p1.toNatClampNeg) rfl ?_
          refine tv_nu (fun u7 hu7 => ?_)
          have h := ts_lt h hu7
          refine tv_iconst C (pc := 60) dX7_allocate_60 (v := (0 : Int32)) rfl ?_
          refine tv_istore C (pc := 61) dX7_allocate_61 (L' := [some (.inr (30, 0, 0)), some (.inl (.int p1)), some (.inl (.int p2)), some (.inl (.int p3)), some (.inl (.int (0 : Int32)))]) (by decide) rfl rfl ?_
          obtain ⟨q12, hq12, h⟩ := ts_bd h
          refine lt_X7_allocate_63 hl C hdd p1 p2 p3 ⟨Nat.le_of_ble_eq_true rfl, Nat.le_of_ble_eq_true rfl⟩ ts_fu (0 : Int32) u7 q12 hq12 ?_
          cases h
          exact tv_vret C (pc := 102) rfl dX7_allocate_102 ⟨Nat.le_of_ble_eq_true rfl, Nat.le_of_ble_eq_true rfl⟩
      · have h := ts_ifn h hc
        refine tv_iload_n C (pc := 21) dX7_allocate_21 rfl rfl ?_
        refine tv_iconst C (pc := 22) dX7_allocate_22 (v := (0 : Int32)) rfl ?_
        refine tv_bipush C (pc := 23) dX7_allocate_23 (v := (30 : Int32)) rfl ?_
        obtain ⟨q13, hq13, h⟩ := ts_bd h
        refine tv_callS C (pc := 25) dX7_allocate_25 yl_X7_95 (m_X7_isIn (D := D) (dT := dT) (sz := sz) (ad := ad) hl p3 (0 : Int32) (30 : Int32) u q13 hq13) (Nat.le_trans (Nat.le_of_ble_eq_true rfl) hdd) (As := [.inl (.int p3), .inl (.int (0 : Int32)), .inl (.int (30 : Int32))]) rfl ⟨Nat.le_of_ble_eq_true rfl, Nat.le_of_ble_eq_true rfl⟩ (fun _ => Nat.le_of_ble_eq_true rfl) rfl ?_
        refine tv_if_ne C (pc := 28) 35 dX7_allocate_28 (by decide) (fun hc => ?_) (fun hc => ?_)
        · have h := ts_ifn h hc
          refine tv_iconst C (pc := 35) dX7_allocate_35 (v := (0 : Int32)) rfl ?_
          refine tv_putI C (pc := 36) dX7_allocate_36 fp_X7_3 (ts_live (k := 30) (by decide) (by decide) (by decide)) rfl (cd := 0) rfl (by decide) rfl rfl ?_
          refine tv_nu (fun u14 hu14 => ?_)
          have h := ts_lt h hu14
          refine tv_aload_n C (pc := 39) dX7_allocate_39 rfl rfl ?_
          refine tv_getI C (pc := 40) dX7_allocate_40 fl_X7_3 (ts_live (k := 30) (by decide) (by decide) (by decide)) rfl (cd := 0) rfl (by decide) ?_
          refine tv_if_ne C (pc := 43) 102 dX7_allocate_43 (by decide) (fun hc => ?_) (fun hc => ?_)
          · have h := ts_ifn h hc
            cases h
            exact tv_vret C (pc := 102) rfl dX7_allocate_102 ⟨Nat.le_of_ble_eq_true rfl, Nat.le_of_ble_eq_true rfl⟩
          · have h := ts_ifp h hc
            refine tv_aload_n C (pc := 46) dX7_allocate_46 rfl rfl ?_
            refine tv_getR C (pc := 47) dX7_allocate_47 fl_X7_68 (ts_live (k := 30) (by decide) (by decide) (by decide)) rfl rfl (i2 := (45, 0, 0)) rfl ?_
            refine tv_iload_n C (pc := 50) dX7_allocate_50 rfl rfl ?_
            refine tv_iload_n C (pc := 51) dX7_allocate_51 rfl rfl ?_
            obtain ⟨hr15, h⟩ := ts_gd h
            refine tv_iastore C (pc := 52) dX7_allocate_52 (ts_live (k := 45) (by decide) (by decide) (by decide)) rfl hr15 (j := p1.toNatClampNeg) rfl ?_
            refine tv_nu (fun u16 hu16 => ?_)
            have h := ts_lt h hu16
            refine tv_aload_n C (pc := 53) dX7_allocate_53 rfl rfl ?_
            refine tv_getR C (pc := 54) dX7_allocate_54 fl_X7_71 (ts_live (k := 30) (by decide) (by decide) (by decide)) rfl rfl (i2 := (46, 0, 0)) rfl ?_
            refine tv_iload_n C (pc := 57) dX7_allocate_57 rfl rfl ?_
            refine tv_iload_n C (pc := 58) dX7_allocate_58 rfl rfl ?_
            obtain ⟨hr17, h⟩ := ts_gd h
            refine tv_iastore C (pc := 59) dX7_allocate_59 (ts_live (k := 46) (by decide) (by decide) (by decide)) rfl hr17 (j := p1.toNatClampNeg) rfl ?_
            refine tv_nu (fun u18 hu18 => ?_)
            have h := ts_lt h hu18
            refine tv_iconst C (pc := 60) dX7_allocate_60 (v := (0 : Int32)) rfl ?_
            refine tv_istore C (pc := 61) dX7_allocate_61 (L' := [some (.inr (30, 0, 0)), some (.inl (.int p1)), some (.inl (.int p2)), some (.inl (.int p3)), some (.inl (.int (0 : Int32)))]) (by decide) rfl rfl ?_
            obtain ⟨q23, hq23, h⟩ := ts_bd h
            refine lt_X7_allocate_63 hl C hdd p1 p2 p3 ⟨Nat.le_of_ble_eq_true rfl, Nat.le_of_ble_eq_true rfl⟩ ts_fu (0 : Int32) u18 q23 hq23 ?_
            cases h
            exact tv_vret C (pc := 102) rfl dX7_allocate_102 ⟨Nat.le_of_ble_eq_true rfl, Nat.le_of_ble_eq_true rfl⟩
        · have h := ts_ifp h hc
          refine tv_iconst C (pc := 31) dX7_allocate_31 (v := (2 : Int32)) rfl ?_
          refine tv_goto C (pc := 32) 36 dX7_allocate_32 (by decide) ?_
          refine tv_putI C (pc := 36) dX7_allocate_36 fp_X7_3 (ts_live (k := 30) (by decide) (by decide) (by decide)) rfl (cd := 0) rfl (by decide) rfl rfl ?_
          refine tv_nu (fun u24 hu24 => ?_)
          have h := ts_lt h hu24
          refine tv_aload_n C (pc := 39) dX7_allocate_39 rfl rfl ?_
          refine tv_getI C (pc := 40) dX7_allocate_40 fl_X7_3 (ts_live (k := 30) (by decide) (by decide) (by decide)) rfl (cd := 0) rfl (by decide) ?_
          refine tv_if_ne C (pc := 43) 102 dX7_allocate_43 (by decide) (fun hc => ?_) (fun hc => ?_)
          · have h := ts_ifn h hc
            cases h
            exact tv_vret C (pc := 102) rfl dX7_allocate_102 ⟨Nat.le_of_ble_eq_true rfl, Nat.le_of_ble_eq_true rfl⟩
          · have h := ts_ifp h hc
            refine tv_aload_n C (pc := 46) dX7_allocate_46 rfl rfl ?_
            refine tv_getR C (pc := 47) dX7_allocate_47 fl_X7_68 (ts_live (k := 30) (by decide) (by decide) (by decide)) rfl rfl (i2 := (45, 0, 0)) rfl ?_
            refine tv_iload_n C (pc := 50) dX7_allocate_50 rfl rfl ?_
            refine tv_iload_n C (pc := 51) dX7_allocate_51 rfl rfl ?_
            obtain ⟨hr25, h⟩ := ts_gd h
            refine tv_iastore C (pc := 52) dX7_allocate_52 (ts_live (k := 45) (by decide) (by decide) (by decide)) rfl hr25 (j := p1.toNatClampNeg) rfl ?_
            refine tv_nu (fun u26 hu26 => ?_)
            have h := ts_lt h hu26
            refine tv_aload_n C (pc := 53) dX7_allocate_53 rfl rfl ?_
            refine tv_getR C (pc := 54) dX7_allocate_54 fl_X7_71 (ts_live (k := 30) (by decide) (by decide) (by decide)) rfl rfl (i2 := (46, 0, 0)) rfl ?_
            refine tv_iload_n C (pc := 57) dX7_allocate_57 rfl rfl ?_
            refine tv_iload_n C (pc := 58) dX7_allocate_58 rfl rfl ?_
            obtain ⟨hr27, h⟩ := ts_gd h
            refine tv_iastore C (pc := 59) dX7_allocate_59 (ts_live (k := 46) (by decide) (by decide) (by decide)) rfl hr27 (j := p1.toNatClampNeg) rfl ?_
            refine tv_nu (fun u28 hu28 => ?_)
            have h := ts_lt h hu28
            refine tv_iconst C (pc := 60) dX7_allocate_60 (v := (0 : Int32)) rfl ?_
            refine tv_istore C (pc := 61) dX7_allocate_61 (L' := [some (.inr (30, 0, 0)), some (.inl (.int p1)), some (.inl (.int p2)), some (.inl (.int p3)), some (.inl (.int (0 : Int32)))]) (by decide) rfl rfl ?_
            obtain ⟨q33, hq33, h⟩ := ts_bd h
            refine lt_X7_allocate_63 hl C hdd p1 p2 p3 ⟨Nat.le_of_ble_eq_true rfl, Nat.le_of_ble_eq_true rfl⟩ ts_fu (0 : Int32) u28 q33 hq33 ?_
            cases h
            exact tv_vret C (pc := 102) rfl dX7_allocate_102 ⟨Nat.le_of_ble_eq_true rfl, Nat.le_of_ble_eq_true rfl⟩
    · have h := ts_ifp h hc
      refine tv_iconst C (pc := 8) dX7_allocate_8 (v := (1 : Int32)) rfl ?_
      refine tv_goto C (pc := 9) 36 dX7_allocate_9 (by decide) ?_
      refine tv_putI C (pc := 36) dX7_allocate_36 fp_X7_3 (ts_live (k := 30) (by decide) (by decide) (by decide)) rfl (cd := 0) rfl (by decide) rfl rfl ?_
      refine tv_nu (fun u34 hu34 => ?_)
      have h := ts_lt h hu34
      refine tv_aload_n C (pc := 39) dX7_allocate_39 rfl rfl ?_
      refine tv_getI C (pc := 40) dX7_allocate_40 fl_X7_3 (ts_live (k := 30) (by decide) (by decide) (by decide)) rfl (cd := 0) rfl (by decide) ?_
      refine tv_if_ne C (pc := 43) 102 dX7_allocate_43 (by decide) (fun hc => ?_) (fun hc => ?_)
      · have h := ts_ifn h hc
        cases h
        exact tv_vret C (pc := 102) rfl dX7_allocate_102 ⟨Nat.le_of_ble_eq_true rfl, Nat.le_of_ble_eq_true rfl⟩
      · have h := ts_ifp h hc
        refine tv_aload_n C (pc := 46) dX7_allocate_46 rfl rfl ?_
        refine tv_getR C (pc := 47) dX7_allocate_47 fl_X7_68 (ts_live (k := 30) (by decide) (by decide) (by decide)) rfl rfl (i2 := (45, 0, 0)) rfl ?_
        refine tv_iload_n C (pc := 50) dX7_allocate_50 rfl rfl ?_
        refine tv_iload_n C (pc := 51) dX7_allocate_51 rfl rfl ?_
        obtain ⟨hr35, h⟩ := ts_gd h
        refine tv_iastore C (pc := 52) dX7_allocate_52 (ts_live (k := 45) (by decide) (by decide) (by decide)) rfl hr35 (j := p1.toNatClampNeg) rfl ?_
        refine tv_nu (fun u36 hu36 => ?_)
        have h := ts_lt h hu36
        refine tv_aload_n C (pc := 53) dX7_allocate_53 rfl rfl ?_
        refine tv_getR C (pc := 54) dX7_allocate_54 fl_X7_71 (ts_live (k := 30) (by decide) (by decide) (by decide)) rfl rfl (i2 := (46, 0, 0)) rfl ?_
        refine tv_iload_n C (pc := 57) dX7_allocate_57 rfl rfl ?_
        refine tv_iload_n C (pc := 58) dX7_allocate_58 rfl rfl ?_
        obtain ⟨hr37, h⟩ := ts_gd h
        refine tv_iastore C (pc := 59) dX7_allocate_59 (ts_live (k := 46) (by decide) (by decide) (by decide)) rfl hr37 (j := p1.toNatClampNeg) rfl ?_
        refine tv_nu (fun u38 hu38 => ?_)
        have h := ts_lt h hu38
        refine tv_iconst C (pc := 60) dX7_allocate_60 (v := (0 : Int32)) rfl ?_
        refine tv_istore C (pc := 61) dX7_allocate_61 (L' := [some (.inr (30, 0, 0)), some (.inl (.int p1)), some (.inl (.int p2)), some (.inl (.int p3)), some (.inl (.int (0 : Int32)))]) (by decide) rfl rfl ?_
        obtain ⟨q43, hq43, h⟩ := ts_bd h
        refine lt_X7_allocate_63 hl C hdd p1 p2 p3 ⟨Nat.le_of_ble_eq_true rfl, Nat.le_of_ble_eq_true rfl⟩ ts_fu (0 : Int32) u38 q43 hq43 ?_
        cases h
        exact tv_vret C (pc := 102) rfl dX7_allocate_102 ⟨Nat.le_of_ble_eq_true rfl, Nat.le_of_ble_eq_true rfl⟩
set_option maxRecDepth 100000 in
set_option maxHeartbeats 4000000 in
theorem lt_X7_export_47 {D : va_G} {dT : Nat → ClassId} {sz : Nat} {p : Program} {l : Launch} {e : Env} {R : Room} {s : State} {m : MethodId} {args : Array Value} {below : List Frame} {meth : Method} {c : Code} {d : Nat} {ad : ts_I → Nat} {kk nn : Nat} {Q : State → Prop} (hl : l.stackTraces = false) (C : ts_CX D dT sz p l R s m args meth c RX7 cX7_export 5 (some .int) d) (hdd : 2 ≤ d) (c1 : Int32) (c2 : Int32) (hkn : kk ≤ R.cells ∧ nn ≤ R.slots) : ∀ (n : Nat) (v3 : Int32) (u : ts_Mem) (q : (Int32 × ts_Mem)) (h : lp_X7_export_47 c1 c2 n v3 u = some q) (K : ts_V D dT sz p l e R s m args below meth c 5 Q ad ts_lv ts_R0 114 [some (.inr (30, 0, 0)), some (.inl (.int c1)), some (.inl (.int c2)), some (.inl (.int q.1)), none] [] q.2 kk nn), ts_V D dT sz p l e R s m args below meth c 5 Q ad ts_lv ts_R0 47 [some (.inr (30, 0, 0)), some (.inl (.int c1)), some (.inl (.int c2)), some (.inl (.int v3)), none] [] u kk nn
  | 0, _, _, _, h, _ => by cases h
  | n + 1, v3, u, q, h, K => by
      rw [lp_X7_export_47] at h
      refine tv_iload_n C (pc := 47) dX7_export_47 rfl rfl ?_
      refine tv_aload_n C (pc := 48) dX7_export_48 rfl rfl ?_
      refine tv_getR C (pc := 49) dX7_export_49 fl_X7_43 (ts_live (k := 30) (by decide) (by decide) (by decide)) rfl rfl (i2 := (38, 0, 0)) rfl ?_
      refine tv_iload_n C (pc := 52) dX7_export_52 rfl rfl ?_
      obtain ⟨hr3, h⟩ := ts_gd h
      refine tv_iaload C (pc := 53) dX7_export_53 (ts_live (k := 38) (by decide) (by decide) (by decide)) rfl hr3 (j := c2.toNatClampNeg) rfl ?_
      refine tv_icmp_ge C (pc := 54) 114 dX7_export_54 (by decide) (fun hc => ?_) (fun hc => ?_)
      · have h := ts_ifp h hc
        cases h
        exact K
      · have h := ts_ifn h hc
        refine tv_iload_n C (pc := 57) dX7_export_57 rfl rfl ?_
        refine tv_aload_n C (pc := 58) dX7_export_58 rfl rfl ?_
        refine tv_getR C (pc := 59) dX7_export_59 fl_X7_71 (ts_live (k := 30) (by decide) (by decide) (by decide)) rfl rfl (i2 := (46, 0, 0)) rfl ?_
        refine tv_iload_n C (pc := 62) dX7_export_62 rfl rfl ?_
        obtain ⟨hr4, h⟩ := ts_gd h
        refine tv_iaload C (pc := 63) dX7_export_63 (ts_live (k := 46) (by decide) (by decide) (by decide)) rfl hr4 (j := c1.toNatClampNeg) rfl ?_
        refine tv_icmp_ge C (pc := 64) 114 dX7_export_64 (by decide) (fun hc => ?_) (fun hc => ?_)
        · have h := ts_ifp h hc
          cases h
          exact K
        · have h := ts_ifn h hc
          refine tv_aload_n C (pc := 67) dX7_export_67 rfl rfl ?_
          refine tv_getR C (pc := 68) dX7_export_68 fl_X7_46 (ts_live (k := 30) (by decide) (by decide) (by decide)) rfl rfl (i2 := (39, 0, 0)) rfl ?_
          refine tv_iload_n C (pc := 71) dX7_export_71 rfl rfl ?_
          refine tv_iload_n C (pc := 72) dX7_export_72 rfl rfl ?_
          obtain ⟨q5, hq5, h⟩ := ts_bd h
          refine tv_callS C (pc := 73) dX7_export_73 yl_X7_91 (m_X7_place (D := D) (dT := dT) (sz := sz) (ad := ad) hl c2 v3 u q5 hq5) (Nat.le_trans (Nat.le_of_ble_eq_true rfl) hdd) (As := [.inl (.int c2), .inl (.int v3)]) rfl ⟨hkn.1, hkn.2⟩ (fun _ => Nat.le_of_ble_eq_true rfl) rfl ?_
          refine tv_iconst C (pc := 76) dX7_export_76 (v := (2 : Int32)) rfl ?_
          refine tv_iadd C (pc := 77) dX7_export_77 ?_
          obtain ⟨hr6, h⟩ := ts_gd h
          refine tv_iaload C (pc := 78) dX7_export_78 (ts_live (k := 39) (by decide) (by decide) (by decide)) rfl hr6 (j := ((q5 + (2 : Int32))).toNatClampNeg) rfl ?_
          refine tv_nmI (fun x7 hx7 => ?_)
          have h := ts_lt h hx7
          refine tv_istore C (pc := 79) dX7_export_79 (L' := [some (.inr (30, 0, 0)), some (.inl (.int c1)), some (.inl (.int c2)), some (.inl (.int v3)), some (.inl (.int x7))]) (by decide) rfl rfl ?_
          refine tv_aload_n C (pc := 81) dX7_export_81 rfl rfl ?_
          refine tv_getR C (pc := 82) dX7_export_82 fl_X7_74 (ts_live (k := 30) (by decide) (by decide) (by decide)) rfl rfl (i2 := (47, 0, 0)) rfl ?_
          refine tv_bipush C (pc := 85) dX7_export_85 (v := (30 : Int32)) rfl ?_
          refine tv_iload_n C (pc := 87) dX7_export_87 rfl rfl ?_
          refine tv_imul C (pc := 88) dX7_export_88 ?_
          refine tv_iload_n C (pc := 89) dX7_export_89 rfl rfl ?_
          refine tv_iadd C (pc := 90) dX7_export_90 ?_
          refine tv_iload C (pc := 91) dX7_export_91 rfl ?_
          obtain ⟨hr8, h⟩ := ts_gd h
          refine tv_iastore C (pc := 93) dX7_export_93 (ts_live (k := 47) (by decide) (by decide) (by decide)) rfl hr8 (j := ((((30 : Int32) * c1) + v3)).toNatClampNeg) rfl ?_
          refine tv_nu (fun u9 hu9 => ?_)
          have h := ts_lt h hu9
          refine tv_aload_n C (pc := 94) dX7_export_94 rfl rfl ?_
          refine tv_getR C (pc := 95) dX7_export_95 fl_X7_77 (ts_live (k := 30) (by decide) (by decide) (by decide)) rfl rfl (i2 := (48, 0, 0)) rfl ?_
          refine tv_bipush C (pc := 98) dX7_export_98 (v := (30 : Int32)) rfl ?_
          refine tv_iload_n C (pc := 100) dX7_export_100 rfl rfl ?_
          refine tv_imul C (pc := 101) dX7_export_101 ?_
          refine tv_iload_n C (pc := 102) dX7_export_102 rfl rfl ?_
          refine tv_iadd C (pc := 103) dX7_export_103 ?_
          refine tv_iload C (pc := 104) dX7_export_104 rfl ?_
          refine tv_i2f C (pc := 106) dX7_export_106 ?_
          obtain ⟨hr10, h⟩ := ts_gd h
          refine tv_fastore C (pc := 107) dX7_export_107 (ts_live (k := 48) (by decide) (by decide) (by decide)) rfl hr10 (j := ((((30 : Int32) * c1) + v3)).toNatClampNeg) rfl ?_
          refine tv_nu (fun u11 hu11 => ?_)
          have h := ts_lt h hu11
          refine tv_iinc C (pc := 108) dX7_export_108 (v := (v3 + (1 : Int32))) (L' := [some (.inr (30, 0, 0)), some (.inl (.int c1)), some (.inl (.int c2)), some (.inl (.int (v3 + (1 : Int32)))), some (.inl (.int x7))]) rfl rfl (by decide) rfl rfl ?_
          refine tv_goto C (pc := 111) 47 dX7_export_111 (by decide) ?_
          refine tv_drop 4 (L' := [some (.inr (30, 0, 0)), some (.inl (.int c1)), some (.inl (.int c2)), some (.inl (.int (v3 + (1 : Int32)))), none]) rfl ?_
          exact lt_X7_export_47 hl C hdd c1 c2 hkn n (v3 + (1 : Int32)) u11 q h K
set_option maxRecDepth 100000 in
set_option maxHeartbeats 4000000 in
theorem m_X7_export {l : Launch} {D : va_G} {dT : Nat → ClassId} {sz : Nat} {ad : ts_I → Nat} (hl : l.stackTraces = false) (p1 : Int32) (p2 : Int32) (u : ts_Mem) (r : (Int32 × ts_Mem)) (h : f_X7_export p1 p2 u = some r) : ts_M l D dT sz yX7_export wX7_export 2 0 0 ad ts_lv ts_R0 [.inr (30, 0, 0), .inl (.int p1), .inl (.int p2)] u (.inl (some (.int r.1))) r.2 := by
    unfold f_X7_export at h
    refine ts_enter hl (by decide) rfl rfl (Nat.le_of_ble_eq_true rfl) ?_
    intro p e s m args below meth c C hX hnm
    have C : ts_CX D dT sz p l (ts_rm 2 0 0) s m args meth c RX7 cX7_export 5 (some .int) 2 := C
    have hdd : 2 ≤ 2 := Nat.le_refl _
    refine tv_aload_n C (pc := 0) dX7_export_0 rfl rfl ?_
    refine tv_iload_n C (pc := 1) dX7_export_1 rfl rfl ?_
    obtain ⟨q1, hq1, h⟩ := ts_bd h
    refine tv_callS C (pc := 2) dX7_export_2 yl_X7_248 (m_X7_isSlot (D := D) (dT := dT) (sz := sz) (ad := ad) hl p1 u q1 hq1) (Nat.le_trans (Nat.le_of_ble_eq_true rfl) hdd) (As := [.inl (.int p1)]) rfl ⟨Nat.le_of_ble_eq_true rfl, Nat.le_of_ble_eq_true rfl⟩ (fun _ => Nat.le_of_ble_eq_true rfl) rfl ?_
    refine tv_if_eq C (pc := 5) 15 dX7_export_5 (by decide) (fun hc => ?_) (fun hc => ?_)
    · have h := ts_ifp h hc
      refine tv_iconst C (pc := 15) dX7_export_15 (v := (1 : Int32)) rfl ?_
      refine tv_goto C (pc := 16) 33 dX7_export_16 (by decide) ?_
      refine tv_putI C (pc := 33) dX7_export_33 fp_X7_3 (ts_live (k := 30) (by decide) (by decide) (by decide)) rfl (cd := 0) rfl (by decide) rfl rfl ?_
      refine tv_nu (fun u2 hu2 => ?_)
      have h := ts_lt h hu2
      refine tv_aload_n C (pc := 36) dX7_export_36 rfl rfl ?_
      refine tv_getI C (pc := 37) dX7_export_37 fl_X7_3 (ts_live (k := 30) (by decide) (by decide) (by decide)) rfl (cd := 0) rfl (by decide) ?_
      refine tv_if_eq C (pc := 40) 45 dX7_export_40 (by decide) (fun hc => ?_) (fun hc => ?_)
      · have h := ts_ifp h hc
        refine tv_iconst C (pc := 45) dX7_export_45 (v := (0 : Int32)) rfl ?_
        refine tv_istore_n C (pc := 46) dX7_export_46 (L' := [some (.inr (30, 0, 0)), some (.inl (.int p1)), some (.inl (.int p2)), some (.inl (.int (0 : Int32))), none]) rfl (by decide) rfl rfl ?_
        obtain ⟨q12, hq12, h⟩ := ts_bd h
        refine lt_X7_export_47 hl C hdd p1 p2 ⟨Nat.le_of_ble_eq_true rfl, Nat.le_of_ble_eq_true rfl⟩ ts_fu (0 : Int32) u2 q12 hq12 ?_
        refine tv_aload_n C (pc := 114) dX7_export_114 rfl rfl ?_
        refine tv_getR C (pc := 115) dX7_export_115 fl_X7_43 (ts_live (k := 30) (by decide) (by decide) (by decide)) rfl rfl (i2 := (38, 0, 0)) rfl ?_
        refine tv_iload_n C (pc := 118) dX7_export_118 rfl rfl ?_
        obtain ⟨hr13, h⟩ := ts_gd h
        refine tv_iaload C (pc := 119) dX7_export_119 (ts_live (k := 38) (by decide) (by decide) (by decide)) rfl hr13 (j := p2.toNatClampNeg) rfl ?_
        refine tv_aload_n C (pc := 120) dX7_export_120 rfl rfl ?_
        refine tv_getR C (pc := 121) dX7_export_121 fl_X7_71 (ts_live (k := 30) (by decide) (by decide) (by decide)) rfl rfl (i2 := (46, 0, 0)) rfl ?_
        refine tv_iload_n C (pc := 124) dX7_export_124 rfl rfl ?_
        obtain ⟨hr14, h⟩ := ts_gd h
        refine tv_iaload C (pc := 125) dX7_export_125 (ts_live (k := 46) (by decide) (by decide) (by decide)) rfl hr14 (j := p1.toNatClampNeg) rfl ?_
        refine tv_icmp_le C (pc := 126) 137 dX7_export_126 (by decide) (fun hc => ?_) (fun hc => ?_)
        · have h := ts_ifp h hc
          refine tv_aload_n C (pc := 137) dX7_export_137 rfl rfl ?_
          refine tv_getR C (pc := 138) dX7_export_138 fl_X7_43 (ts_live (k := 30) (by decide) (by decide) (by decide)) rfl rfl (i2 := (38, 0, 0)) rfl ?_
          refine tv_iload_n C (pc := 141) dX7_export_141 rfl rfl ?_
          obtain ⟨hr15, h⟩ := ts_gd h
          refine tv_iaload C (pc := 142) dX7_export_142 (ts_live (k := 38) (by decide) (by decide) (by decide)) rfl hr15 (j := p2.toNatClampNeg) rfl ?_
          cases h
          exact tv_iret C (pc := 143) rfl dX7_export_143 ⟨Nat.le_of_ble_eq_true rfl, Nat.le_of_ble_eq_true rfl⟩
        · have h := ts_ifn h hc
          refine tv_aload_n C (pc := 129) dX7_export_129 rfl rfl ?_
          refine tv_iconst C (pc := 130) dX7_export_130 (v := (1 : Int32)) rfl ?_
          obtain ⟨q16, hq16, h⟩ := ts_bd h
          refine tv_callV C (pc := 131) dX7_export_131 (ci := 7) (q := (RX7, TX7, 37)) rfl yl_X7_99 (m_X7_fail (D := D) (dT := dT) (sz := sz) (ad := ad) hl (1 : Int32) q12.2 q16 hq16) (ts_live (k := 30) (by decide) (by decide) (by decide)) rfl (Nat.le_trans (Nat.le_of_ble_eq_true rfl) hdd) (As := [.inl (.int (1 : Int32))]) rfl ⟨Nat.le_of_ble_eq_true rfl, Nat.le_of_ble_eq_true rfl⟩ (fun _ => Nat.le_of_ble_eq_true rfl) rfl ?_
          refine tv_goto C (pc := 134) 143 dX7_export_134 (by decide) ?_
          cases h
          exact tv_iret C (pc := 143) rfl dX7_export_143 ⟨Nat.le_of_ble_eq_true rfl, Nat.le_of_ble_eq_true rfl⟩
      · have h := ts_ifn h hc
        refine tv_iconst C (pc := 43) dX7_export_43 (v := (0 : Int32)) rfl ?_
        cases h
        exact tv_iret C (pc := 44) rfl dX7_export_44 ⟨Nat.le_of_ble_eq_true rfl, Nat.le_of_ble_eq_true rfl⟩
    · have h := ts_ifn h hc
      refine tv_iload_n C (pc := 8) dX7_export_8 rfl rfl ?_
      obtain ⟨q17, hq17, h⟩ := ts_bd h
      refine tv_callS C (pc := 9) dX7_export_9 yl_X7_177 (m_X7_isItem (D := D) (dT := dT) (sz := sz) (ad := ad) hl p2 u q17 hq17) (Nat.le_trans (Nat.le_of_ble_eq_true rfl) hdd) (As := [.inl (.int p2)]) rfl ⟨Nat.le_of_ble_eq_true rfl, Nat.le_of_ble_eq_true rfl⟩ (fun _ => Nat.le_of_ble_eq_true rfl) rfl ?_
      refine tv_if_ne C (pc := 12) 19 dX7_export_12 (by decide) (fun hc => ?_) (fun hc => ?_)
      · have h := ts_ifn h hc
        refine tv_aload_n C (pc := 19) dX7_export_19 rfl rfl ?_
        refine tv_getR C (pc := 20) dX7_export_20 fl_X7_68 (ts_live (k := 30) (by decide) (by decide) (by decide)) rfl rfl (i2 := (45, 0, 0)) rfl ?_
        refine tv_iload_n C (pc := 23) dX7_export_23 rfl rfl ?_
        obtain ⟨hr18, h⟩ := ts_gd h
        refine tv_iaload C (pc := 24) dX7_export_24 (ts_live (k := 45) (by decide) (by decide) (by decide)) rfl hr18 (j := p1.toNatClampNeg) rfl ?_
        refine tv_if_ge C (pc := 25) 32 dX7_export_25 (by decide) (fun hc => ?_) (fun hc => ?_)
        · have h := ts_ifp h hc
          refine tv_iconst C (pc := 32) dX7_export_32 (v := (0 : Int32)) rfl ?_
          refine tv_putI C (pc := 33) dX7_export_33 fp_X7_3 (ts_live (k := 30) (by decide) (by decide) (by decide)) rfl (cd := 0) rfl (by decide) rfl rfl ?_
          refine tv_nu (fun u19 hu19 => ?_)
          have h := ts_lt h hu19
          refine tv_aload_n C (pc := 36) dX7_export_36 rfl rfl ?_
          refine tv_getI C (pc := 37) dX7_export_37 fl_X7_3 (ts_live (k := 30) (by decide) (by decide) (by decide)) rfl (cd := 0) rfl (by decide) ?_
          refine tv_if_eq C (pc := 40) 45 dX7_export_40 (by decide) (fun hc => ?_) (fun hc => ?_)
          · have h := ts_ifp h hc
            refine tv_iconst C (pc := 45) dX7_export_45 (v := (0 : Int32)) rfl ?_
            refine tv_istore_n C (pc := 46) dX7_export_46 (L' := [some (.inr (30, 0, 0)), some (.inl (.int p1)), some (.inl (.int p2)), some (.inl (.int (0 : Int32))), none]) rfl (by decide) rfl rfl ?_
            obtain ⟨q29, hq29, h⟩ := ts_bd h
            refine lt_X7_export_47 hl C hdd p1 p2 ⟨Nat.le_of_ble_eq_true rfl, Nat.le_of_ble_eq_true rfl⟩ ts_fu (0 : Int32) u19 q29 hq29 ?_
            refine tv_aload_n C (pc := 114) dX7_export_114 rfl rfl ?_
            refine tv_getR C (pc := 115) dX7_export_115 fl_X7_43 (ts_live (k := 30) (by decide) (by decide) (by decide)) rfl rfl (i2 := (38, 0, 0)) rfl ?_
            refine tv_iload_n C (pc := 118) dX7_export_118 rfl rfl ?_
            obtain ⟨hr30, h⟩ := ts_gd h
            refine tv_iaload C (pc := 119) dX7_export_119 (ts_live (k := 38) (by decide) (by decide) (by decide)) rfl hr30 (j := p2.toNatClampNeg) rfl ?_
            refine tv_aload_n C (pc := 120) dX7_export_120 rfl rfl ?_
            refine tv_getR C (pc := 121) dX7_export_121 fl_X7_71 (ts_live (k := 30) (by decide) (by decide) (by decide)) rfl rfl (i2 := (46, 0, 0)) rfl ?_
            refine tv_iload_n C (pc := 124) dX7_export_124 rfl rfl ?_
            obtain ⟨hr31, h⟩ := ts_gd h
            refine tv_iaload C (pc := 125) dX7_export_125 (ts_live (k := 46) (by decide) (by decide) (by decide)) rfl hr31 (j := p1.toNatClampNeg) rfl ?_
            refine tv_icmp_le C (pc := 126) 137 dX7_export_126 (by decide) (fun hc => ?_) (fun hc => ?_)
            · have h := ts_ifp h hc
              refine tv_aload_n C (pc := 137) dX7_export_137 rfl rfl ?_
              refine tv_getR C (pc := 138) dX7_export_138 fl_X7_43 (ts_live (k := 30) (by decide) (by decide) (by decide)) rfl rfl (i2 := (38, 0, 0)) rfl ?_
              refine tv_iload_n C (pc := 141) dX7_export_141 rfl rfl ?_
              obtain ⟨hr32, h⟩ := ts_gd h
              refine tv_iaload C (pc := 142) dX7_export_142 (ts_live (k := 38) (by decide) (by decide) (by decide)) rfl hr32 (j := p2.toNatClampNeg) rfl ?_
              cases h
              exact tv_iret C (pc := 143) rfl dX7_export_143 ⟨Nat.le_of_ble_eq_true rfl, Nat.le_of_ble_eq_true rfl⟩
            · have h := ts_ifn h hc
              refine tv_aload_n C (pc := 129) dX7_export_129 rfl rfl ?_
              refine tv_iconst C (pc := 130) dX7_export_130 (v := (1 : Int32)) rfl ?_
              obtain ⟨q33, hq33, h⟩ := ts_bd h
              refine tv_callV C (pc := 131) dX7_export_131 (ci := 7) (q := (RX7, TX7, 37)) rfl yl_X7_99 (m_X7_fail (D := D) (dT := dT) (sz := sz) (ad := ad) hl (1 : Int32) q29.2 q33 hq33) (ts_live (k := 30) (by decide) (by decide) (by decide)) rfl (Nat.le_trans (Nat.le_of_ble_eq_true rfl) hdd) (As := [.inl (.int (1 : Int32))]) rfl ⟨Nat.le_of_ble_eq_true rfl, Nat.le_of_ble_eq_true rfl⟩ (fun _ => Nat.le_of_ble_eq_true rfl) rfl ?_
              refine tv_goto C (pc := 134) 143 dX7_export_134 (by decide) ?_
              cases h
              exact tv_iret C (pc := 143) rfl dX7_export_143 ⟨Nat.le_of_ble_eq_true rfl, Nat.le_of_ble_eq_true rfl⟩
          · have h := ts_ifn h hc
            refine tv_iconst C (pc := 43) dX7_export_43 (v := (0 : Int32)) rfl ?_
            cases h
            exact tv_iret C (pc := 44) rfl dX7_export_44 ⟨Nat.le_of_ble_eq_true rfl, Nat.le_of_ble_eq_true rfl⟩
        · have h := ts_ifn h hc
          refine tv_iconst C (pc := 28) dX7_export_28 (v := (2 : Int32)) rfl ?_
          refine tv_goto C (pc := 29) 33 dX7_export_29 (by decide) ?_
          refine tv_putI C (pc := 33) dX7_export_33 fp_X7_3 (ts_live (k := 30) (by decide) (by decide) (by decide)) rfl (cd := 0) rfl (by decide) rfl rfl ?_
          refine tv_nu (fun u34 hu34 => ?_)
          have h := ts_lt h hu34
          refine tv_aload_n C (pc := 36) dX7_export_36 rfl rfl ?_
          refine tv_getI C (pc := 37) dX7_export_37 fl_X7_3 (ts_live (k := 30) (by decide) (by decide) (by decide)) rfl (cd := 0) rfl (by decide) ?_
          refine tv_if_eq C (pc := 40) 45 dX7_export_40 (by decide) (fun hc => ?_) (fun hc => ?_)
          · have h := ts_ifp h hc
            refine tv_iconst C (pc := 45) dX7_export_45 (v := (0 : Int32)) rfl ?_
            refine tv_istore_n C (pc := 46) dX7_export_46 (L' := [some (.inr (30, 0, 0)), some (.inl (.int p1)), some (.inl (.int p2)), some (.inl (.int (0 : Int32))), none]) rfl (by decide) rfl rfl ?_
            obtain ⟨q44, hq44, h⟩ := ts_bd h
            refine lt_X7_export_47 hl C hdd p1 p2 ⟨Nat.le_of_ble_eq_true rfl, Nat.le_of_ble_eq_true rfl⟩ ts_fu (0 : Int32) u34 q44 hq44 ?_
            refine tv_aload_n C (pc := 114) dX7_export_114 rfl rfl ?_
            refine tv_getR C (pc := 115) dX7_export_115 fl_X7_43 (ts_live (k := 30) (by decide) (by decide) (by decide)) rfl rfl (i2 := (38, 0, 0)) rfl ?_
            refine tv_iload_n C (pc := 118) dX7_export_118 rfl rfl ?_
            obtain ⟨hr45, h⟩ := ts_gd h
            refine tv_iaload C (pc := 119) dX7_export_119 (ts_live (k := 38) (by decide) (by decide) (by decide)) rfl hr45 (j := p2.toNatClampNeg) rfl ?_
            refine tv_aload_n C (pc := 120) dX7_export_120 rfl rfl ?_
            refine tv_getR C (pc := 121) dX7_export_121 fl_X7_71 (ts_live (k := 30) (by decide) (by decide) (by decide)) rfl rfl (i2 := (46, 0, 0)) rfl ?_
            refine tv_iload_n C (pc := 124) dX7_export_124 rfl rfl ?_
            obtain ⟨hr46, h⟩ := ts_gd h
            refine tv_iaload C (pc := 125) dX7_export_125 (ts_live (k := 46) (by decide) (by decide) (by decide)) rfl hr46 (j := p1.toNatClampNeg) rfl ?_
            refine tv_icmp_le C (pc := 126) 137 dX7_export_126 (by decide) (fun hc => ?_) (fun hc => ?_)
            · have h := ts_ifp h hc
              refine tv_aload_n C (pc := 137) dX7_export_137 rfl rfl ?_
              refine tv_getR C (pc := 138) dX7_export_138 fl_X7_43 (ts_live (k := 30) (by decide) (by decide) (by decide)) rfl rfl (i2 := (38, 0, 0)) rfl ?_
              refine tv_iload_n C (pc := 141) dX7_export_141 rfl rfl ?_
              obtain ⟨hr47, h⟩ := ts_gd h
              refine tv_iaload C (pc := 142) dX7_export_142 (ts_live (k := 38) (by decide) (by decide) (by decide)) rfl hr47 (j := p2.toNatClampNeg) rfl ?_
              cases h
              exact tv_iret C (pc := 143) rfl dX7_export_143 ⟨Nat.le_of_ble_eq_true rfl, Nat.le_of_ble_eq_true rfl⟩
            · have h := ts_ifn h hc
              refine tv_aload_n C (pc := 129) dX7_export_129 rfl rfl ?_
              refine tv_iconst C (pc := 130) dX7_export_130 (v := (1 : Int32)) rfl ?_
              obtain ⟨q48, hq48, h⟩ := ts_bd h
              refine tv_callV C (pc := 131) dX7_export_131 (ci := 7) (q := (RX7, TX7, 37)) rfl yl_X7_99 (m_X7_fail (D := D) (dT := dT) (sz := sz) (ad := ad) hl (1 : Int32) q44.2 q48 hq48) (ts_live (k := 30) (by decide) (by decide) (by decide)) rfl (Nat.le_trans (Nat.le_of_ble_eq_true rfl) hdd) (As := [.inl (.int (1 : Int32))]) rfl ⟨Nat.le_of_ble_eq_true rfl, Nat.le_of_ble_eq_true rfl⟩ (fun _ => Nat.le_of_ble_eq_true rfl) rfl ?_
              refine tv_goto C (pc := 134) 143 dX7_export_134 (by decide) ?_
              cases h
              exact tv_iret C (pc := 143) rfl dX7_export_143 ⟨Nat.le_of_ble_eq_true rfl, Nat.le_of_ble_eq_true rfl⟩
          · have h := ts_ifn h hc
            refine tv_iconst C (pc := 43) dX7_export_43 (v := (0 : Int32)) rfl ?_
            cases h
            exact tv_iret C (pc := 44) rfl dX7_export_44 ⟨Nat.le_of_ble_eq_true rfl, Nat.le_of_ble_eq_true rfl⟩
      · have h := ts_ifp h hc
        refine tv_iconst C (pc := 15) dX7_export_15 (v := (1 : Int32)) rfl ?_
        refine tv_goto C (pc := 16) 33 dX7_export_16 (by decide) ?_
        refine tv_putI C (pc := 33) dX7_export_33 fp_X7_3 (ts_live (k := 30) (by decide) (by decide) (by decide)) rfl (cd := 0) rfl (by decide) rfl rfl ?_
        refine tv_nu (fun u49 hu49 => ?_)
        have h := ts_lt h hu49
        refine tv_aload_n C (pc := 36) dX7_export_36 rfl rfl ?_
        refine tv_getI C (pc := 37) dX7_export_37 fl_X7_3 (ts_live (k := 30) (by decide) (by decide) (by decide)) rfl (cd := 0) rfl (by decide) ?_
        refine tv_if_eq C (pc := 40) 45 dX7_export_40 (by decide) (fun hc => ?_) (fun hc => ?_)
        · have h := ts_ifp h hc
          refine tv_iconst C (pc := 45) dX7_export_45 (v := (0 : Int32)) rfl ?_
          refine tv_istore_n C (pc := 46) dX7_export_46 (L' := [some (.inr (30, 0, 0)), some (.inl (.int p1)), some (.inl (.int p2)), some (.inl (.int (0 : Int32))), none]) rfl (by decide) rfl rfl ?_
          obtain ⟨q59, hq59, h⟩ := ts_bd h
          refine lt_X7_export_47 hl C hdd p1 p2 ⟨Nat.le_of_ble_eq_true rfl, Nat.le_of_ble_eq_true rfl⟩ ts_fu (0 : Int32) u49 q59 hq59 ?_
          refine tv_aload_n C (pc := 114) dX7_export_114 rfl rfl ?_
          refine tv_getR C (pc := 115) dX7_export_115 fl_X7_43 (ts_live (k := 30) (by decide) (by decide) (by decide)) rfl rfl (i2 := (38, 0, 0)) rfl ?_
          refine tv_iload_n C (pc := 118) dX7_export_118 rfl rfl ?_
          obtain ⟨hr60, h⟩ := ts_gd h
          refine tv_iaload C (pc := 119) dX7_export_119 (ts_live (k := 38) (by decide) (by decide) (by decide)) rfl hr60 (j := p2.toNatClampNeg) rfl ?_
          refine tv_aload_n C (pc := 120) dX7_export_120 rfl rfl ?_
          refine tv_getR C (pc := 121) dX7_export_121 fl_X7_71 (ts_live (k := 30) (by decide) (by decide) (by decide)) rfl rfl (i2 := (46, 0, 0)) rfl ?_
          refine tv_iload_n C (pc := 124) dX7_export_124 rfl rfl ?_
          obtain ⟨hr61, h⟩ := ts_gd h
          refine tv_iaload C (pc := 125) dX7_export_125 (ts_live (k := 46) (by decide) (by decide) (by decide)) rfl hr61 (j := p1.toNatClampNeg) rfl ?_
          refine tv_icmp_le C (pc := 126) 137 dX7_export_126 (by decide) (fun hc => ?_) (fun hc => ?_)
          · have h := ts_ifp h hc
            refine tv_aload_n C (pc := 137) dX7_export_137 rfl rfl ?_
            refine tv_getR C (pc := 138) dX7_export_138 fl_X7_43 (ts_live (k := 30) (by decide) (by decide) (by decide)) rfl rfl (i2 := (38, 0, 0)) rfl ?_
            refine tv_iload_n C (pc := 141) dX7_export_141 rfl rfl ?_
            obtain ⟨hr62, h⟩ := ts_gd h
            refine tv_iaload C (pc := 142) dX7_export_142 (ts_live (k := 38) (by decide) (by decide) (by decide)) rfl hr62 (j := p2.toNatClampNeg) rfl ?_
            cases h
            exact tv_iret C (pc := 143) rfl dX7_export_143 ⟨Nat.le_of_ble_eq_true rfl, Nat.le_of_ble_eq_true rfl⟩
          · have h := ts_ifn h hc
            refine tv_aload_n C (pc := 129) dX7_export_129 rfl rfl ?_
            refine tv_iconst C (pc := 130) dX7_export_130 (v := (1 : Int32)) rfl ?_
            obtain ⟨q63, hq63, h⟩ := ts_bd h
            refine tv_callV C (pc := 131) dX7_export_131 (ci := 7) (q := (RX7, TX7, 37)) rfl yl_X7_99 (m_X7_fail (D := D) (dT := dT) (sz := sz) (ad := ad) hl (1 : Int32) q59.2 q63 hq63) (ts_live (k := 30) (by decide) (by decide) (by decide)) rfl (Nat.le_trans (Nat.le_of_ble_eq_true rfl) hdd) (As := [.inl (.int (1 : Int32))]) rfl ⟨Nat.le_of_ble_eq_true rfl, Nat.le_of_ble_eq_true rfl⟩ (fun _ => Nat.le_of_ble_eq_true rfl) rfl ?_
            refine tv_goto C (pc := 134) 143 dX7_export_134 (by decide) ?_
            cases h
            exact tv_iret C (pc := 143) rfl dX7_export_143 ⟨Nat.le_of_ble_eq_true rfl, Nat.le_of_ble_eq_true rfl⟩
        · have h := ts_ifn h hc
          refine tv_iconst C (pc := 43) dX7_export_43 (v := (0 : Int32)) rfl ?_
          cases h
          exact tv_iret C (pc := 44) rfl dX7_export_44 ⟨Nat.le_of_ble_eq_true rfl, Nat.le_of_ble_eq_true rfl⟩
