set_option maxRecDepth 100000 in
set_option maxHeartbeats 4000000 in
theorem lt_X7_doWrite_118 {D : va_G} {dT : Nat → ClassId} {sz : Nat} {p : Program} {l : Launch} {e : Env} {R : Room} {s : State} {m : MethodId} {args : Array Value} {below : List Frame} {meth : Method} {c : Code} {d : Nat} {ad : ts_I → Nat} {kk nn : Nat} {Q : State → Prop} (hl : l.stackTraces = false) (C : ts_CX D dT sz p l R s m args meth c RX7 cX7_doWrite 8 (some .int) d) (hdd : 21 ≤ d) (c1 : Int32) (c2 : Int32) (c3 : Int32) (c4 : Int32) (c5 : Int32) (hkn : kk ≤ R.cells ∧ nn ≤ R.slots) : ∀ (n : Nat) (v6 : Int32) (u : ts_Mem) (q : (Int32 × ts_Mem)) (h : lp_X7_doWrite_118 c1 c2 c3 c4 c5 n v6 u = some q) (K : ts_V D dT sz p l e R s m args below meth c 8 Q ad ts_lv ts_R0 184 [some (.inr (30, 0, 0)), some (.inl (.int c1)), some (.inl (.int c2)), some (.inl (.int c3)), some (.inl (.int c4)), some (.inl (.int c5)), some (.inl (.int q.1)), none] [] q.2 kk nn), ts_V D dT sz p l e R s m args below meth c 8 Q ad ts_lv ts_R0 118 [some (.inr (30, 0, 0)), some (.inl (.int c1)), some (.inl (.int c2)), some (.inl (.int c3)), some (.inl (.int c4)), some (.inl (.int c5)), some (.inl (.int v6)), none] [] u kk nn
  | 0, _, _, _, h, _ => by cases h
  | n + 1, v6, u, q, h, K => by
      rw [lp_X7_doWrite_118] at h
      refine tv_iload C (pc := 118) dX7_doWrite_118 rfl ?_
      refine tv_iload C (pc := 120) dX7_doWrite_120 rfl ?_
      refine tv_iconst C (pc := 122) dX7_doWrite_122 (v := (1 : Int32)) rfl ?_
      refine tv_iadd C (pc := 123) dX7_doWrite_123 ?_
      refine tv_icmp_le C (pc := 124) 184 dX7_doWrite_124 (by decide) (fun hc => ?_) (fun hc => ?_)
      · have h := ts_ifp h hc
        cases h
        exact K
      · have h := ts_ifn h hc
        refine tv_iload_n C (pc := 127) dX7_doWrite_127 rfl rfl ?_
        refine tv_iload C (pc := 128) dX7_doWrite_128 rfl ?_
        refine tv_iconst C (pc := 130) dX7_doWrite_130 (v := (1 : Int32)) rfl ?_
        refine tv_isub C (pc := 131) dX7_doWrite_131 ?_
        obtain ⟨q6, hq6, h⟩ := ts_bd h
        refine tv_callS C (pc := 132) dX7_doWrite_132 yl_X7_91 (m_X7_place (D := D) (dT := dT) (sz := sz) (ad := ad) hl c2 (v6 - (1 : Int32)) u q6 hq6) (Nat.le_trans (Nat.le_of_ble_eq_true rfl) hdd) (As := [.inl (.int c2), .inl (.int (v6 - (1 : Int32)))]) rfl ⟨hkn.1, hkn.2⟩ (fun _ => Nat.le_of_ble_eq_true rfl) rfl ?_
        refine tv_istore C (pc := 135) dX7_doWrite_135 (L' := [some (.inr (30, 0, 0)), some (.inl (.int c1)), some (.inl (.int c2)), some (.inl (.int c3)), some (.inl (.int c4)), some (.inl (.int c5)), some (.inl (.int v6)), some (.inl (.int q6))]) (by decide) rfl rfl ?_
        refine tv_aload_n C (pc := 137) dX7_doWrite_137 rfl rfl ?_
        refine tv_iload_n C (pc := 138) dX7_doWrite_138 rfl rfl ?_
        refine tv_iload C (pc := 139) dX7_doWrite_139 rfl ?_
        refine tv_aload_n C (pc := 141) dX7_doWrite_141 rfl rfl ?_
        refine tv_getR C (pc := 142) dX7_doWrite_142 fl_X7_46 (ts_live (k := 30) (by decide) (by decide) (by decide)) rfl rfl (i2 := (39, 0, 0)) rfl ?_
        refine tv_iload C (pc := 145) dX7_doWrite_145 rfl ?_
        obtain ⟨hr7, h⟩ := ts_gd h
        refine tv_iaload C (pc := 147) dX7_doWrite_147 (ts_live (k := 39) (by decide) (by decide) (by decide)) rfl hr7 (j := q6.toNatClampNeg) rfl ?_
        refine tv_aload_n C (pc := 148) dX7_doWrite_148 rfl rfl ?_
        refine tv_getR C (pc := 149) dX7_doWrite_149 fl_X7_46 (ts_live (k := 30) (by decide) (by decide) (by decide)) rfl rfl (i2 := (39, 0, 0)) rfl ?_
        refine tv_iload C (pc := 152) dX7_doWrite_152 rfl ?_
        refine tv_iconst C (pc := 154) dX7_doWrite_154 (v := (1 : Int32)) rfl ?_
        refine tv_iadd C (pc := 155) dX7_doWrite_155 ?_
        obtain ⟨hr8, h⟩ := ts_gd h
        refine tv_iaload C (pc := 156) dX7_doWrite_156 (ts_live (k := 39) (by decide) (by decide) (by decide)) rfl hr8 (j := ((q6 + (1 : Int32))).toNatClampNeg) rfl ?_
        refine tv_aload_n C (pc := 157) dX7_doWrite_157 rfl rfl ?_
        refine tv_getR C (pc := 158) dX7_doWrite_158 fl_X7_46 (ts_live (k := 30) (by decide) (by decide) (by decide)) rfl rfl (i2 := (39, 0, 0)) rfl ?_
        refine tv_iload C (pc := 161) dX7_doWrite_161 rfl ?_
        refine tv_iconst C (pc := 163) dX7_doWrite_163 (v := (2 : Int32)) rfl ?_
        refine tv_iadd C (pc := 164) dX7_doWrite_164 ?_
        obtain ⟨hr9, h⟩ := ts_gd h
        refine tv_iaload C (pc := 165) dX7_doWrite_165 (ts_live (k := 39) (by decide) (by decide) (by decide)) rfl hr9 (j := ((q6 + (2 : Int32))).toNatClampNeg) rfl ?_
        refine tv_aload_n C (pc := 166) dX7_doWrite_166 rfl rfl ?_
        refine tv_getR C (pc := 167) dX7_doWrite_167 fl_X7_46 (ts_live (k := 30) (by decide) (by decide) (by decide)) rfl rfl (i2 := (39, 0, 0)) rfl ?_
        refine tv_iload C (pc := 170) dX7_doWrite_170 rfl ?_
        refine tv_iconst C (pc := 172) dX7_doWrite_172 (v := (3 : Int32)) rfl ?_
        refine tv_iadd C (pc := 173) dX7_doWrite_173 ?_
        obtain ⟨hr10, h⟩ := ts_gd h
        refine tv_iaload C (pc := 174) dX7_doWrite_174 (ts_live (k := 39) (by decide) (by decide) (by decide)) rfl hr10 (j := ((q6 + (3 : Int32))).toNatClampNeg) rfl ?_
        obtain ⟨q11, hq11, h⟩ := ts_bd h
        refine tv_callV C (pc := 175) dX7_doWrite_175 (ci := 7) (q := (RX7, TX7, 37)) rfl yl_X7_87 (m_X7_put (D := D) (dT := dT) (sz := sz) (ad := ad) hl c2 v6 (ts_gI u (39, 0, 0) q6.toNatClampNeg) (ts_gI u (39, 0, 0) ((q6 + (1 : Int32))).toNatClampNeg) (ts_gI u (39, 0, 0) ((q6 + (2 : Int32))).toNatClampNeg) (ts_gI u (39, 0, 0) ((q6 + (3 : Int32))).toNatClampNeg) u q11 hq11) (ts_live (k := 30) (by decide) (by decide) (by decide)) rfl (Nat.le_trans (Nat.le_of_ble_eq_true rfl) hdd) (As := [.inl (.int c2), .inl (.int v6), .inl (.int (ts_gI u (39, 0, 0) q6.toNatClampNeg)), .inl (.int (ts_gI u (39, 0, 0) ((q6 + (1 : Int32))).toNatClampNeg)), .inl (.int (ts_gI u (39, 0, 0) ((q6 + (2 : Int32))).toNatClampNeg)), .inl (.int (ts_gI u (39, 0, 0) ((q6 + (3 : Int32))).toNatClampNeg))]) rfl ⟨hkn.1, hkn.2⟩ (fun _ => Nat.le_of_ble_eq_true rfl) rfl ?_
        refine tv_iinc C (pc := 178) dX7_doWrite_178 (v := (v6 + (-1 : Int32))) (L' := [some (.inr (30, 0, 0)), some (.inl (.int c1)), some (.inl (.int c2)), some (.inl (.int c3)), some (.inl (.int c4)), some (.inl (.int c5)), some (.inl (.int (v6 + (-1 : Int32)))), some (.inl (.int q6))]) rfl rfl (by decide) rfl rfl ?_
        refine tv_goto C (pc := 181) 118 dX7_doWrite_181 (by decide) ?_
        refine tv_drop 7 (L' := [some (.inr (30, 0, 0)), some (.inl (.int c1)), some (.inl (.int c2)), some (.inl (.int c3)), some (.inl (.int c4)), some (.inl (.int c5)), some (.inl (.int (v6 + (-1 : Int32)))), none]) rfl ?_
        exact lt_X7_doWrite_118 hl C hdd c1 c2 c3 c4 c5 hkn n (v6 + (-1 : Int32)) q11 q h K
set_option maxRecDepth 100000 in
set_option maxHeartbeats 4000000 in
theorem m_X7_doWrite {l : Launch} {D : va_G} {dT : Nat → ClassId} {sz : Nat} {ad : ts_I → Nat} (hl : l.stackTraces = false) (p1 : Int32) (p2 : Int32) (p3 : Int32) (u : ts_Mem) (r : (Int32 × ts_Mem)) (h : f_X7_doWrite p1 p2 p3 u = some r) : ts_M l D dT sz yX7_doWrite wX7_doWrite 21 0 0 ad ts_lv ts_R0 [.inr (30, 0, 0), .inl (.int p1), .inl (.int p2), .inl (.int p3)] u (.inl (some (.int r.1))) r.2 := by
    unfold f_X7_doWrite at h
    refine ts_enter hl (by decide) rfl rfl (Nat.le_of_ble_eq_true rfl) ?_
    intro p e s m args below meth c C hX hnm
    have C : ts_CX D dT sz p l (ts_rm 21 0 0) s m args meth c RX7 cX7_doWrite 8 (some .int) 21 := C
    have hdd : 21 ≤ 21 := Nat.le_refl _
    refine tv_aload_n C (pc := 0) dX7_doWrite_0 rfl rfl ?_
    refine tv_iload_n C (pc := 1) dX7_doWrite_1 rfl rfl ?_
    refine tv_iload_n C (pc := 2) dX7_doWrite_2 rfl rfl ?_
    obtain ⟨q1, hq1, h⟩ := ts_bd h
    refine tv_callV C (pc := 3) dX7_doWrite_3 (ci := 7) (q := (RX7, TX7, 37)) rfl yl_X7_154 (m_X7_isRefused (D := D) (dT := dT) (sz := sz) (ad := ad) hl p1 p2 u q1 hq1) (ts_live (k := 30) (by decide) (by decide) (by decide)) rfl (Nat.le_trans (Nat.le_of_ble_eq_true rfl) hdd) (As := [.inl (.int p1), .inl (.int p2)]) rfl ⟨Nat.le_of_ble_eq_true rfl, Nat.le_of_ble_eq_true rfl⟩ (fun _ => Nat.le_of_ble_eq_true rfl) rfl ?_
    refine tv_if_eq C (pc := 6) 21 dX7_doWrite_6 (by decide) (fun hc => ?_) (fun hc => ?_)
    · have h := ts_ifp h hc
      refine tv_aload_n C (pc := 21) dX7_doWrite_21 rfl rfl ?_
      refine tv_getI C (pc := 22) dX7_doWrite_22 fl_X7_15 (ts_live (k := 30) (by decide) (by decide) (by decide)) rfl (cd := 0) rfl (by decide) ?_
      refine tv_iconst C (pc := 25) dX7_doWrite_25 (v := (1 : Int32)) rfl ?_
      refine tv_icmp_ne C (pc := 26) 55 dX7_doWrite_26 (by decide) (fun hc => ?_) (fun hc => ?_)
      · have h := ts_ifn h hc
        refine tv_iconst C (pc := 55) dX7_doWrite_55 (v := (0 : Int32)) rfl ?_
        refine tv_istore C (pc := 56) dX7_doWrite_56 (L' := [some (.inr (30, 0, 0)), some (.inl (.int p1)), some (.inl (.int p2)), some (.inl (.int p3)), some (.inl (.int (0 : Int32))), none, none, none]) (by decide) rfl rfl ?_
        refine tv_aload_n C (pc := 58) dX7_doWrite_58 rfl rfl ?_
        refine tv_iload_n C (pc := 59) dX7_doWrite_59 rfl rfl ?_
        refine tv_aload_n C (pc := 60) dX7_doWrite_60 rfl rfl ?_
        refine tv_getR C (pc := 61) dX7_doWrite_61 fl_X7_25 (ts_live (k := 30) (by decide) (by decide) (by decide)) rfl rfl (i2 := (32, 0, 0)) rfl ?_
        refine tv_iload_n C (pc := 64) dX7_doWrite_64 rfl rfl ?_
        obtain ⟨hr2, h⟩ := ts_gd h
        refine tv_iaload C (pc := 65) dX7_doWrite_65 (ts_live (k := 32) (by decide) (by decide) (by decide)) rfl hr2 (j := p1.toNatClampNeg) rfl ?_
        obtain ⟨q3, hq3, h⟩ := ts_bd h
        refine tv_callV C (pc := 66) dX7_doWrite_66 (ci := 7) (q := (RX7, TX7, 37)) rfl yl_X7_143 (m_X7_lastUpTo (D := D) (dT := dT) (sz := sz) (ad := ad) hl p2 (ts_gI u (32, 0, 0) p1.toNatClampNeg) u q3 hq3) (ts_live (k := 30) (by decide) (by decide) (by decide)) rfl (Nat.le_trans (Nat.le_of_ble_eq_true rfl) hdd) (As := [.inl (.int p2), .inl (.int (ts_gI u (32, 0, 0) p1.toNatClampNeg))]) rfl ⟨Nat.le_of_ble_eq_true rfl, Nat.le_of_ble_eq_true rfl⟩ (fun _ => Nat.le_of_ble_eq_true rfl) rfl ?_
        refine tv_istore C (pc := 69) dX7_doWrite_69 (L' := [some (.inr (30, 0, 0)), some (.inl (.int p1)), some (.inl (.int p2)), some (.inl (.int p3)), some (.inl (.int (0 : Int32))), some (.inl (.int q3)), none, none]) (by decide) rfl rfl ?_
        refine tv_iload C (pc := 71) dX7_doWrite_71 rfl ?_
        refine tv_iconst C (pc := 73) dX7_doWrite_73 (v := (-1 : Int32)) rfl ?_
        refine tv_icmp_eq C (pc := 74) 110 dX7_doWrite_74 (by decide) (fun hc => ?_) (fun hc => ?_)
        · have h := ts_ifp h hc
          refine tv_aload_n C (pc := 110) dX7_doWrite_110 rfl rfl ?_
          refine tv_getR C (pc := 111) dX7_doWrite_111 fl_X7_43 (ts_live (k := 30) (by decide) (by decide) (by decide)) rfl rfl (i2 := (38, 0, 0)) rfl ?_
          refine tv_iload_n C (pc := 114) dX7_doWrite_114 rfl rfl ?_
          obtain ⟨hr4, h⟩ := ts_gd h
          refine tv_iaload C (pc := 115) dX7_doWrite_115 (ts_live (k := 38) (by decide) (by decide) (by decide)) rfl hr4 (j := p2.toNatClampNeg) rfl ?_
          refine tv_nmI (fun x5 hx5 => ?_)
          have h := ts_lt h hx5
          refine tv_istore C (pc := 116) dX7_doWrite_116 (L' := [some (.inr (30, 0, 0)), some (.inl (.int p1)), some (.inl (.int p2)), some (.inl (.int p3)), some (.inl (.int (0 : Int32))), some (.inl (.int q3)), some (.inl (.int x5)), none]) (by decide) rfl rfl ?_
          obtain ⟨q12, hq12, h⟩ := ts_bd h
          refine lt_X7_doWrite_118 hl C hdd p1 p2 p3 (0 : Int32) q3 ⟨Nat.le_of_ble_eq_true rfl, Nat.le_of_ble_eq_true rfl⟩ ts_fu x5 u q12 hq12 ?_
          refine tv_aload_n C (pc := 184) dX7_doWrite_184 rfl rfl ?_
          refine tv_iload_n C (pc := 185) dX7_doWrite_185 rfl rfl ?_
          refine tv_iload C (pc := 186) dX7_doWrite_186 rfl ?_
          refine tv_iconst C (pc := 188) dX7_doWrite_188 (v := (1 : Int32)) rfl ?_
          refine tv_iadd C (pc := 189) dX7_doWrite_189 ?_
          refine tv_aload_n C (pc := 190) dX7_doWrite_190 rfl rfl ?_
          refine tv_getR C (pc := 191) dX7_doWrite_191 fl_X7_25 (ts_live (k := 30) (by decide) (by decide) (by decide)) rfl rfl (i2 := (32, 0, 0)) rfl ?_
          refine tv_iload_n C (pc := 194) dX7_doWrite_194 rfl rfl ?_
          obtain ⟨hr13, h⟩ := ts_gd h
          refine tv_iaload C (pc := 195) dX7_doWrite_195 (ts_live (k := 32) (by decide) (by decide) (by decide)) rfl hr13 (j := p1.toNatClampNeg) rfl ?_
          refine tv_iconst C (pc := 196) dX7_doWrite_196 (v := (0 : Int32)) rfl ?_
          refine tv_iload_n C (pc := 197) dX7_doWrite_197 rfl rfl ?_
          refine tv_iload_n C (pc := 198) dX7_doWrite_198 rfl rfl ?_
          obtain ⟨q14, hq14, h⟩ := ts_bd h
          refine tv_callV C (pc := 199) dX7_doWrite_199 (ci := 7) (q := (RX7, TX7, 37)) rfl yl_X7_87 (m_X7_put (D := D) (dT := dT) (sz := sz) (ad := ad) hl p2 (q3 + (1 : Int32)) (ts_gI q12.2 (32, 0, 0) p1.toNatClampNeg) (0 : Int32) p3 p1 q12.2 q14 hq14) (ts_live (k := 30) (by decide) (by decide) (by decide)) rfl (Nat.le_trans (Nat.le_of_ble_eq_true rfl) hdd) (As := [.inl (.int p2), .inl (.int (q3 + (1 : Int32))), .inl (.int (ts_gI q12.2 (32, 0, 0) p1.toNatClampNeg)), .inl (.int (0 : Int32)), .inl (.int p3), .inl (.int p1)]) rfl ⟨Nat.le_of_ble_eq_true rfl, Nat.le_of_ble_eq_true rfl⟩ (fun _ => Nat.le_of_ble_eq_true rfl) rfl ?_
          refine tv_aload_n C (pc := 202) dX7_doWrite_202 rfl rfl ?_
          refine tv_getR C (pc := 203) dX7_doWrite_203 fl_X7_43 (ts_live (k := 30) (by decide) (by decide) (by decide)) rfl rfl (i2 := (38, 0, 0)) rfl ?_
          refine tv_iload_n C (pc := 206) dX7_doWrite_206 rfl rfl ?_
          refine tv_dup2 C (pc := 207) dX7_doWrite_207 (fun _ => ⟨rfl, rfl⟩) ?_
          obtain ⟨hr15, h⟩ := ts_gd h
          refine tv_iaload C (pc := 208) dX7_doWrite_208 (ts_live (k := 38) (by decide) (by decide) (by decide)) rfl hr15 (j := p2.toNatClampNeg) rfl ?_
          refine tv_iconst C (pc := 209) dX7_doWrite_209 (v := (1 : Int32)) rfl ?_
          refine tv_iadd C (pc := 210) dX7_doWrite_210 ?_
          obtain ⟨hr16, h⟩ := ts_gd h
          refine tv_iastore C (pc := 211) dX7_doWrite_211 (ts_live (k := 38) (by decide) (by decide) (by decide)) rfl hr16 (j := p2.toNatClampNeg) rfl ?_
          refine tv_nu (fun u17 hu17 => ?_)
          have h := ts_lt h hu17
          refine tv_aload_n C (pc := 212) dX7_doWrite_212 rfl rfl ?_
          refine tv_iload C (pc := 213) dX7_doWrite_213 rfl ?_
          refine tv_if_eq C (pc := 215) 222 dX7_doWrite_215 (by decide) (fun _ => ?_) (fun hc => absurd hc (by decide))
          refine tv_iconst C (pc := 222) dX7_doWrite_222 (v := (2 : Int32)) rfl ?_
          refine tv_iload_n C (pc := 223) dX7_doWrite_223 rfl rfl ?_
          refine tv_iload_n C (pc := 224) dX7_doWrite_224 rfl rfl ?_
          obtain ⟨q18, hq18, h⟩ := ts_bd h
          refine tv_callV C (pc := 225) dX7_doWrite_225 (ci := 7) (q := (RX7, TX7, 37)) rfl yl_X7_109 (m_X7_record (D := D) (dT := dT) (sz := sz) (ad := ad) hl (2 : Int32) p1 p2 u17 q18 hq18) (ts_live (k := 30) (by decide) (by decide) (by decide)) rfl (Nat.le_trans (Nat.le_of_ble_eq_true rfl) hdd) (As := [.inl (.int (2 : Int32)), .inl (.int p1), .inl (.int p2)]) rfl ⟨Nat.le_of_ble_eq_true rfl, Nat.le_of_ble_eq_true rfl⟩ (fun _ => Nat.le_of_ble_eq_true rfl) rfl ?_
          refine tv_iload C (pc := 228) dX7_doWrite_228 rfl ?_
          refine tv_if_eq C (pc := 230) 237 dX7_doWrite_230 (by decide) (fun _ => ?_) (fun hc => absurd hc (by decide))
          refine tv_iconst C (pc := 237) dX7_doWrite_237 (v := (0 : Int32)) rfl ?_
          cases h
          exact tv_iret C (pc := 238) rfl dX7_doWrite_238 ⟨Nat.le_of_ble_eq_true rfl, Nat.le_of_ble_eq_true rfl⟩
        · have h := ts_ifn h hc
          refine tv_aload_n C (pc := 77) dX7_doWrite_77 rfl rfl ?_
          refine tv_iload_n C (pc := 78) dX7_doWrite_78 rfl rfl ?_
          refine tv_iload C (pc := 79) dX7_doWrite_79 rfl ?_
          obtain ⟨q19, hq19, h⟩ := ts_bd h
          refine tv_callV C (pc := 81) dX7_doWrite_81 (ci := 7) (q := (RX7, TX7, 37)) rfl yl_X7_140 (m_X7_written (D := D) (dT := dT) (sz := sz) (ad := ad) hl p2 q3 u q19 hq19) (ts_live (k := 30) (by decide) (by decide) (by decide)) rfl (Nat.le_trans (Nat.le_of_ble_eq_true rfl) hdd) (As := [.inl (.int p2), .inl (.int q3)]) rfl ⟨Nat.le_of_ble_eq_true rfl, Nat.le_of_ble_eq_true rfl⟩ (fun _ => Nat.le_of_ble_eq_true rfl) rfl ?_
          refine tv_aload_n C (pc := 84) dX7_doWrite_84 rfl rfl ?_
          refine tv_getR C (pc := 85) dX7_doWrite_85 fl_X7_25 (ts_live (k := 30) (by decide) (by decide) (by decide)) rfl rfl (i2 := (32, 0, 0)) rfl ?_
          refine tv_iload_n C (pc := 88) dX7_doWrite_88 rfl rfl ?_
          obtain ⟨hr20, h⟩ := ts_gd h
          refine tv_iaload C (pc := 89) dX7_doWrite_89 (ts_live (k := 32) (by decide) (by decide) (by decide)) rfl hr20 (j := p1.toNatClampNeg) rfl ?_
          refine tv_icmp_ne C (pc := 90) 110 dX7_doWrite_90 (by decide) (fun hc => ?_) (fun hc => ?_)
          · have h := ts_ifn h hc
            refine tv_aload_n C (pc := 110) dX7_doWrite_110 rfl rfl ?_
            refine tv_getR C (pc := 111) dX7_doWrite_111 fl_X7_43 (ts_live (k := 30) (by decide) (by decide) (by decide)) rfl rfl (i2 := (38, 0, 0)) rfl ?_
            refine tv_iload_n C (pc := 114) dX7_doWrite_114 rfl rfl ?_
            obtain ⟨hr21, h⟩ := ts_gd h
            refine tv_iaload C (pc := 115) dX7_doWrite_115 (ts_live (k := 38) (by decide) (by decide) (by decide)) rfl hr21 (j := p2.toNatClampNeg) rfl ?_
            refine tv_nmI (fun x22 hx22 => ?_)
            have h := ts_lt h hx22
            refine tv_istore C (pc := 116) dX7_doWrite_116 (L' := [some (.inr (30, 0, 0)), some (.inl (.int p1)), some (.inl (.int p2)), some (.inl (.int p3)), some (.inl (.int (0 : Int32))), some (.inl (.int q3)), some (.inl (.int x22)), none]) (by decide) rfl rfl ?_
            obtain ⟨q29, hq29, h⟩ := ts_bd h
            refine lt_X7_doWrite_118 hl C hdd p1 p2 p3 (0 : Int32) q3 ⟨Nat.le_of_ble_eq_true rfl, Nat.le_of_ble_eq_true rfl⟩ ts_fu x22 u q29 hq29 ?_
            refine tv_aload_n C (pc := 184) dX7_doWrite_184 rfl rfl ?_
            refine tv_iload_n C (pc := 185) dX7_doWrite_185 rfl rfl ?_
            refine tv_iload C (pc := 186) dX7_doWrite_186 rfl ?_
            refine tv_iconst C (pc := 188) dX7_doWrite_188 (v := (1 : Int32)) rfl ?_
            refine tv_iadd C (pc := 189) dX7_doWrite_189 ?_
            refine tv_aload_n C (pc := 190) dX7_doWrite_190 rfl rfl ?_
            refine tv_getR C (pc := 191) dX7_doWrite_191 fl_X7_25 (ts_live (k := 30) (by decide) (by decide) (by decide)) rfl rfl (i2 := (32, 0, 0)) rfl ?_
            refine tv_iload_n C (pc := 194) dX7_doWrite_194 rfl rfl ?_
            obtain ⟨hr30, h⟩ := ts_gd h
            refine tv_iaload C (pc := 195) dX7_doWrite_195 (ts_live (k := 32) (by decide) (by decide) (by decide)) rfl hr30 (j := p1.toNatClampNeg) rfl ?_
            refine tv_iconst C (pc := 196) dX7_doWrite_196 (v := (0 : Int32)) rfl ?_
            refine tv_iload_n C (pc := 197) dX7_doWrite_197 rfl rfl ?_
            refine tv_iload_n C (pc := 198) dX7_doWrite_198 rfl rfl ?_
            obtain ⟨q31, hq31, h⟩ := ts_bd h
            refine tv_callV C (pc := 199) dX7_doWrite_199 (ci := 7) (q := (RX7, TX7, 37)) rfl yl_X7_87 (m_X7_put (D := D) (dT := dT) (sz := sz) (ad := ad) hl p2 (q3 + (1 : Int32)) (ts_gI q29.2 (32, 0, 0) p1.toNatClampNeg) (0 : Int32) p3 p1 q29.2 q31 hq31) (ts_live (k := 30) (by decide) (by decide) (by decide)) rfl (Nat.le_trans (Nat.le_of_ble_eq_true rfl) hdd) (As := [.inl (.int p2), .inl (.int (q3 + (1 : Int32))), .inl (.int (ts_gI q29.2 (32, 0, 0) p1.toNatClampNeg)), .inl (.int (0 : Int32)), .inl (.int p3), .inl (.int p1)]) rfl ⟨Nat.le_of_ble_eq_true rfl, Nat.le_of_ble_eq_true rfl⟩ (fun _ => Nat.le_of_ble_eq_true rfl) rfl ?_
            refine tv_aload_n C (pc := 202) dX7_doWrite_202 rfl rfl ?_
            refine tv_getR C (pc := 203) dX7_doWrite_203 fl_X7_43 (ts_live (k := 30) (by decide) (by decide) (by decide)) rfl rfl (i2 := (38, 0, 0)) rfl ?_
            refine tv_iload_n C (pc := 206) dX7_doWrite_206 rfl rfl ?_
            refine tv_dup2 C (pc := 207) dX7_doWrite_207 (fun _ => ⟨rfl, rfl⟩) ?_
            obtain ⟨hr32, h⟩ := ts_gd h
            refine tv_iaload C (pc := 208) dX7_doWrite_208 (ts_live (k := 38) (by decide) (by decide) (by decide)) rfl hr32 (j := p2.toNatClampNeg) rfl ?_
            refine tv_iconst C (pc := 209) dX7_doWrite_209 (v := (1 : Int32)) rfl ?_
            refine tv_iadd C (pc := 210) dX7_doWrite_210 ?_
            obtain ⟨hr33, h⟩ := ts_gd h
            refine tv_iastore C (pc := 211) dX7_doWrite_211 (ts_live (k := 38) (by decide) (by decide) (by decide)) rfl hr33 (j := p2.toNatClampNeg) rfl ?_
            refine tv_nu (fun u34 hu34 => ?_)
            have h := ts_lt h hu34
            refine tv_aload_n C (pc := 212) dX7_doWrite_212 rfl rfl ?_
            refine tv_iload C (pc := 213) dX7_doWrite_213 rfl ?_
            refine tv_if_eq C (pc := 215) 222 dX7_doWrite_215 (by decide) (fun _ => ?_) (fun hc => absurd hc (by decide))
            refine tv_iconst C (pc := 222) dX7_doWrite_222 (v := (2 : Int32)) rfl ?_
            refine tv_iload_n C (pc := 223) dX7_doWrite_223 rfl rfl ?_
            refine tv_iload_n C (pc := 224) dX7_doWrite_224 rfl rfl ?_
            obtain ⟨q35, hq35, h⟩ := ts_bd h
            refine tv_callV C (pc := 225) dX7_doWrite_225 (ci := 7) (q := (RX7, TX7, 37)) rfl yl_X7_109 (m_X7_record (D := D) (dT := dT) (sz := sz) (ad := ad) hl (2 : Int32) p1 p2 u34 q35 hq35) (ts_live (k := 30) (by decide) (by decide) (by decide)) rfl (Nat.le_trans (Nat.le_of_ble_eq_true rfl) hdd) (As := [.inl (.int (2 : Int32)), .inl (.int p1), .inl (.int p2)]) rfl ⟨Nat.le_of_ble_eq_true rfl, Nat.le_of_ble_eq_true rfl⟩ (fun _ => Nat.le_of_ble_eq_true rfl) rfl ?_
            refine tv_iload C (pc := 228) dX7_doWrite_228 rfl ?_
            refine tv_if_eq C (pc := 230) 237 dX7_doWrite_230 (by decide) (fun _ => ?_) (fun hc => absurd hc (by decide))
            refine tv_iconst C (pc := 237) dX7_doWrite_237 (v := (0 : Int32)) rfl ?_
            cases h
            exact tv_iret C (pc := 238) rfl dX7_doWrite_238 ⟨Nat.le_of_ble_eq_true rfl, Nat.le_of_ble_eq_true rfl⟩
          · have h := ts_ifp h hc
            refine tv_aload_n C (pc := 93) dX7_doWrite_93 rfl rfl ?_
            refine tv_getR C (pc := 94) dX7_doWrite_94 fl_X7_46 (ts_live (k := 30) (by decide) (by decide) (by decide)) rfl rfl (i2 := (39, 0, 0)) rfl ?_
            refine tv_iload_n C (pc := 97) dX7_doWrite_97 rfl rfl ?_
            refine tv_iload C (pc := 98) dX7_doWrite_98 rfl ?_
            obtain ⟨q36, hq36, h⟩ := ts_bd h
            refine tv_callS C (pc := 100) dX7_doWrite_100 yl_X7_91 (m_X7_place (D := D) (dT := dT) (sz := sz) (ad := ad) hl p2 q3 u q36 hq36) (Nat.le_trans (Nat.le_of_ble_eq_true rfl) hdd) (As := [.inl (.int p2), .inl (.int q3)]) rfl ⟨Nat.le_of_ble_eq_true rfl, Nat.le_of_ble_eq_true rfl⟩ (fun _ => Nat.le_of_ble_eq_true rfl) rfl ?_
            refine tv_iconst C (pc := 103) dX7_doWrite_103 (v := (2 : Int32)) rfl ?_
            refine tv_iadd C (pc := 104) dX7_doWrite_104 ?_
            refine tv_iload_n C (pc := 105) dX7_doWrite_105 rfl rfl ?_
            obtain ⟨hr37, h⟩ := ts_gd h
            refine tv_iastore C (pc := 106) dX7_doWrite_106 (ts_live (k := 39) (by decide) (by decide) (by decide)) rfl hr37 (j := ((q36 + (2 : Int32))).toNatClampNeg) rfl ?_
            refine tv_nu (fun u38 hu38 => ?_)
            have h := ts_lt h hu38
            refine tv_goto C (pc := 107) 212 dX7_doWrite_107 (by decide) ?_
            refine tv_aload_n C (pc := 212) dX7_doWrite_212 rfl rfl ?_
            refine tv_iload C (pc := 213) dX7_doWrite_213 rfl ?_
            refine tv_if_eq C (pc := 215) 222 dX7_doWrite_215 (by decide) (fun _ => ?_) (fun hc => absurd hc (by decide))
            refine tv_iconst C (pc := 222) dX7_doWrite_222 (v := (2 : Int32)) rfl ?_
            refine tv_iload_n C (pc := 223) dX7_doWrite_223 rfl rfl ?_
            refine tv_iload_n C (pc := 224) dX7_doWrite_224 rfl rfl ?_
            obtain ⟨q39, hq39, h⟩ := ts_bd h
            refine tv_callV C (pc := 225) dX7_doWrite_225 (ci := 7) (q := (RX7, TX7, 37)) rfl yl_X7_109 (m_X7_record (D := D) (dT := dT) (sz := sz) (ad := ad) hl (2 : Int32) p1 p2 u38 q39 hq39) (ts_live (k := 30) (by decide) (by decide) (by decide)) rfl (Nat.le_trans (Nat.le_of_ble_eq_true rfl) hdd) (As := [.inl (.int (2 : Int32)), .inl (.int p1), .inl (.int p2)]) rfl ⟨Nat.le_of_ble_eq_true rfl, Nat.le_of_ble_eq_true rfl⟩ (fun _ => Nat.le_of_ble_eq_true rfl) rfl ?_
            refine tv_iload C (pc := 228) dX7_doWrite_228 rfl ?_
            refine tv_if_eq C (pc := 230) 237 dX7_doWrite_230 (by decide) (fun _ => ?_) (fun hc => absurd hc (by decide))
            refine tv_iconst C (pc := 237) dX7_doWrite_237 (v := (0 : Int32)) rfl ?_
            cases h
            exact tv_iret C (pc := 238) rfl dX7_doWrite_238 ⟨Nat.le_of_ble_eq_true rfl, Nat.le_of_ble_eq_true rfl⟩
      · have h := ts_ifp h hc
        refine tv_aload_n C (pc := 29) dX7_doWrite_29 rfl rfl ?_
        refine tv_iload_n C (pc := 30) dX7_doWrite_30 rfl rfl ?_
        refine tv_aload_n C (pc := 31) dX7_doWrite_31 rfl rfl ?_
        refine tv_getR C (pc := 32) dX7_doWrite_32 fl_X7_43 (ts_live (k := 30) (by decide) (by decide) (by decide)) rfl rfl (i2 := (38, 0, 0)) rfl ?_
        refine tv_iload_n C (pc := 35) dX7_doWrite_35 rfl rfl ?_
        obtain ⟨hr40, h⟩ := ts_gd h
        refine tv_iaload C (pc := 36) dX7_doWrite_36 (ts_live (k := 38) (by decide) (by decide) (by decide)) rfl hr40 (j := p2.toNatClampNeg) rfl ?_
        refine tv_iconst C (pc := 37) dX7_doWrite_37 (v := (1 : Int32)) rfl ?_
        refine tv_isub C (pc := 38) dX7_doWrite_38 ?_
        obtain ⟨q41, hq41, h⟩ := ts_bd h
        refine tv_callV C (pc := 39) dX7_doWrite_39 (ci := 7) (q := (RX7, TX7, 37)) rfl yl_X7_140 (m_X7_written (D := D) (dT := dT) (sz := sz) (ad := ad) hl p2 ((ts_gI u (38, 0, 0) p2.toNatClampNeg) - (1 : Int32)) u q41 hq41) (ts_live (k := 30) (by decide) (by decide) (by decide)) rfl (Nat.le_trans (Nat.le_of_ble_eq_true rfl) hdd) (As := [.inl (.int p2), .inl (.int ((ts_gI u (38, 0, 0) p2.toNatClampNeg) - (1 : Int32)))]) rfl ⟨Nat.le_of_ble_eq_true rfl, Nat.le_of_ble_eq_true rfl⟩ (fun _ => Nat.le_of_ble_eq_true rfl) rfl ?_
        refine tv_aload_n C (pc := 42) dX7_doWrite_42 rfl rfl ?_
        refine tv_getR C (pc := 43) dX7_doWrite_43 fl_X7_25 (ts_live (k := 30) (by decide) (by decide) (by decide)) rfl rfl (i2 := (32, 0, 0)) rfl ?_
        refine tv_iload_n C (pc := 46) dX7_doWrite_46 rfl rfl ?_
        obtain ⟨hr42, h⟩ := ts_gd h
        refine tv_iaload C (pc := 47) dX7_doWrite_47 (ts_live (k := 32) (by decide) (by decide) (by decide)) rfl hr42 (j := p1.toNatClampNeg) rfl ?_
        refine tv_icmp_le C (pc := 48) 55 dX7_doWrite_48 (by decide) (fun hc => ?_) (fun hc => ?_)
        · have h := ts_ifp h hc
          refine tv_iconst C (pc := 55) dX7_doWrite_55 (v := (0 : Int32)) rfl ?_
          refine tv_istore C (pc := 56) dX7_doWrite_56 (L' := [some (.inr (30, 0, 0)), some (.inl (.int p1)), some (.inl (.int p2)), some (.inl (.int p3)), some (.inl (.int (0 : Int32))), none, none, none]) (by decide) rfl rfl ?_
          refine tv_aload_n C (pc := 58) dX7_doWrite_58 rfl rfl ?_
          refine tv_iload_n C (pc := 59) dX7_doWrite_59 rfl rfl ?_
          refine tv_aload_n C (pc := 60) dX7_doWrite_60 rfl rfl ?_
          refine tv_getR C (pc := 61) dX7_doWrite_61 fl_X7_25 (ts_live (k := 30) (by decide) (by decide) (by decide)) rfl rfl (i2 := (32, 0, 0)) rfl ?_
          refine tv_iload_n C (pc := 64) dX7_doWrite_64 rfl rfl ?_
          obtain ⟨hr43, h⟩ := ts_gd h
          refine tv_iaload C (pc := 65) dX7_doWrite_65 (ts_live (k := 32) (by decide) (by decide) (by decide)) rfl hr43 (j := p1.toNatClampNeg) rfl ?_
          obtain ⟨q44, hq44, h⟩ := ts_bd h
          refine tv_callV C (pc := 66) dX7_doWrite_66 (ci := 7) (q := (RX7, TX7, 37)) rfl yl_X7_143 (m_X7_lastUpTo (D := D) (dT := dT) (sz := sz) (ad := ad) hl p2 (ts_gI u (32, 0, 0) p1.toNatClampNeg) u q44 hq44) (ts_live (k := 30) (by decide) (by decide) (by decide)) rfl (Nat.le_trans (Nat.le_of_ble_eq_true rfl) hdd) (As := [.inl (.int p2), .inl (.int (ts_gI u (32, 0, 0) p1.toNatClampNeg))]) rfl ⟨Nat.le_of_ble_eq_true rfl, Nat.le_of_ble_eq_true rfl⟩ (fun _ => Nat.le_of_ble_eq_true rfl) rfl ?_
          refine tv_istore C (pc := 69) dX7_doWrite_69 (L' := [some (.inr (30, 0, 0)), some (.inl (.int p1)), some (.inl (.int p2)), some (.inl (.int p3)), some (.inl (.int (0 : Int32))), some (.inl (.int q44)), none, none]) (by decide) rfl rfl ?_
          refine tv_iload C (pc := 71) dX7_doWrite_71 rfl ?_
          refine tv_iconst C (pc := 73) dX7_doWrite_73 (v := (-1 : Int32)) rfl ?_
          refine tv_icmp_eq C (pc := 74) 110 dX7_doWrite_74 (by decide) (fun hc => ?_) (fun hc => ?_)
          · have h := ts_ifp h hc
            refine tv_aload_n C (pc := 110) dX7_doWrite_110 rfl rfl ?_
            refine tv_getR C (pc := 111) dX7_doWrite_111 fl_X7_43 (ts_live (k := 30) (by decide) (by decide) (by decide)) rfl rfl (i2 := (38, 0, 0)) rfl ?_
            refine tv_iload_n C (pc := 114) dX7_doWrite_114 rfl rfl ?_
            obtain ⟨hr45, h⟩ := ts_gd h
            refine tv_iaload C (pc := 115) dX7_doWrite_115 (ts_live (k := 38) (by decide) (by decide) (by decide)) rfl hr45 (j := p2.toNatClampNeg) rfl ?_
            refine tv_nmI (fun x46 hx46 => ?_)
            have h := ts_lt h hx46
            refine tv_istore C (pc := 116) dX7_doWrite_116 (L' := [some (.inr (30, 0, 0)), some (.inl (.int p1)), some (.inl (.int p2)), some (.inl (.int p3)), some (.inl (.int (0 : Int32))), some (.inl (.int q44)), some (.inl (.int x46)), none]) (by decide) rfl rfl ?_
            obtain ⟨q53, hq53, h⟩ := ts_bd h
            refine lt_X7_doWrite_118 hl C hdd p1 p2 p3 (0 : Int32) q44 ⟨Nat.le_of_ble_eq_true rfl, Nat.le_of_ble_eq_true rfl⟩ ts_fu x46 u q53 hq53 ?_
            refine tv_aload_n C (pc := 184) dX7_doWrite_184 rfl rfl ?_
            refine tv_iload_n C (pc := 185) dX7_doWrite_185 rfl rfl ?_
            refine tv_iload C (pc := 186) dX7_doWrite_186 rfl ?_
            refine tv_iconst C (pc := 188) dX7_doWrite_188 (v := (1 : Int32)) rfl ?_
            refine tv_iadd C (pc := 189) dX7_doWrite_189 ?_
            refine tv_aload_n C (pc := 190) dX7_doWrite_190 rfl rfl ?_
            refine tv_getR C (pc := 191) dX7_doWrite_191 fl_X7_25 (ts_live (k := 30) (by decide) (by decide) (by decide)) rfl rfl (i2 := (32, 0, 0)) rfl ?_
            refine tv_iload_n C (pc := 194) dX7_doWrite_194 rfl rfl ?_
            obtain ⟨hr54, h⟩ := ts_gd h
            refine tv_iaload C (pc := 195) dX7_doWrite_195 (ts_live (k := 32) (by decide) (by decide) (by decide)) rfl hr54 (j := p1.toNatClampNeg) rfl ?_
            refine tv_iconst C (pc := 196) dX7_doWrite_196 (v := (0 : Int32)) rfl ?_
            refine tv_iload_n C (pc := 197) dX7_doWrite_197 rfl rfl ?_
            refine tv_iload_n C (pc := 198) dX7_doWrite_198 rfl rfl ?_
            obtain ⟨q55, hq55, h⟩ := ts_bd h
            refine tv_callV C (pc := 199) dX7_doWrite_199 (ci := 7) (q := (RX7, TX7, 37)) rfl yl_X7_87 (m_X7_put (D := D) (dT := dT) (sz := sz) (ad := ad) hl p2 (q44 + (1 : Int32)) (ts_gI q53.2 (32, 0, 0) p1.toNatClampNeg) (0 : Int32) p3 p1 q53.2 q55 hq55) (ts_live (k := 30) (by decide) (by decide) (by decide)) rfl (Nat.le_trans (Nat.le_of_ble_eq_true rfl) hdd) (As := [.inl (.int p2), .inl (.int (q44 + (1 : Int32))), .inl (.int (ts_gI q53.2 (32, 0, 0) p1.toNatClampNeg)), .inl (.int (0 : Int32)), .inl (.int p3), .inl (.int p1)]) rfl ⟨Nat.le_of_ble_eq_true rfl, Nat.le_of_ble_eq_true rfl⟩ (fun _ => Nat.le_of_ble_eq_true rfl) rfl ?_
            refine tv_aload_n C (pc := 202) dX7_doWrite_202 rfl rfl ?_
            refine tv_getR C (pc := 203) dX7_doWrite_203 fl_X7_43 (ts_live (k := 30) (by decide) (by decide) (by decide)) rfl rfl (i2 := (38, 0, 0)) rfl ?_
            refine tv_iload_n C (pc := 206) dX7_doWrite_206 rfl rfl ?_
            refine tv_dup2 C (pc := 207) dX7_doWrite_207 (fun _ => ⟨rfl, rfl⟩) ?_
            obtain ⟨hr56, h⟩ := ts_gd h
            refine tv_iaload C (pc := 208) dX7_doWrite_208 (ts_live (k := 38) (by decide) (by decide) (by decide)) rfl hr56 (j := p2.toNatClampNeg) rfl ?_
            refine tv_iconst C (pc := 209) dX7_doWrite_209 (v := (1 : Int32)) rfl ?_
            refine tv_iadd C (pc := 210) dX7_doWrite_210 ?_
            obtain ⟨hr57, h⟩ := ts_gd h
            refine tv_iastore C (pc := 211) dX7_doWrite_211 (ts_live (k := 38) (by decide) (by decide) (by decide)) rfl hr57 (j := p2.toNatClampNeg) rfl ?_
            refine tv_nu (fun u58 hu58 => ?_)
            have h := ts_lt h hu58
            refine tv_aload_n C (pc := 212) dX7_doWrite_212 rfl rfl ?_
            refine tv_iload C (pc := 213) dX7_doWrite_213 rfl ?_
            refine tv_if_eq C (pc := 215) 222 dX7_doWrite_215 (by decide) (fun _ => ?_) (fun hc => absurd hc (by decide))
            refine tv_iconst C (pc := 222) dX7_doWrite_222 (v := (2 : Int32)) rfl ?_
            refine tv_iload_n C (pc := 223) dX7_doWrite_223 rfl rfl ?_
            refine tv_iload_n C (pc := 224) dX7_doWrite_224 rfl rfl ?_
            obtain ⟨q59, hq59, h⟩ := ts_bd h
            refine tv_callV C (pc := 225) dX7_doWrite_225 (ci := 7) (q := (RX7, TX7, 37)) rfl yl_X7_109 (m_X7_record (D := D) (dT := dT) (sz := sz) (ad := ad) hl (2 : Int32) p1 p2 u58 q59 hq59) (ts_live (k := 30) (by decide) (by decide) (by decide)) rfl (Nat.le_trans (Nat.le_of_ble_eq_true rfl) hdd) (As := [.inl (.int (2 : Int32)), .inl (.int p1), .inl (.int p2)]) rfl ⟨Nat.le_of_ble_eq_true rfl, Nat.le_of_ble_eq_true rfl⟩ (fun _ => Nat.le_of_ble_eq_true rfl) rfl ?_
            refine tv_iload C (pc := 228) dX7_doWrite_228 rfl ?_
            refine tv_if_eq C (pc := 230) 237 dX7_doWrite_230 (by decide) (fun _ => ?_) (fun hc => absurd hc (by decide))
            refine tv_iconst C (pc := 237) dX7_doWrite_237 (v := (0 : Int32)) rfl ?_
            cases h
            exact tv_iret C (pc := 238) rfl dX7_doWrite_238 ⟨Nat.le_of_ble_eq_true rfl, Nat.le_of_ble_eq_true rfl⟩
          · have h := ts_ifn h hc
            refine tv_aload_n C (pc := 77) dX7_doWrite_77 rfl rfl ?_
            refine tv_iload_n C (pc := 78) dX7_doWrite_78 rfl rfl ?_
            refine tv_iload C (pc := 79) dX7_doWrite_79 rfl ?_
            obtain ⟨q60, hq60, h⟩ := ts_bd h
            refine tv_callV C (pc := 81) dX7_doWrite_81 (ci := 7) (q := (RX7, TX7, 37)) rfl yl_X7_140 (m_X7_written (D := D) (dT := dT) (sz := sz) (ad := ad) hl p2 q44 u q60 hq60) (ts_live (k := 30) (by decide) (by decide) (by decide)) rfl (Nat.le_trans (Nat.le_of_ble_eq_true rfl) hdd) (As := [.inl (.int p2), .inl (.int q44)]) rfl ⟨Nat.le_of_ble_eq_true rfl, Nat.le_of_ble_eq_true rfl⟩ (fun _ => Nat.le_of_ble_eq_true rfl) rfl ?_
            refine tv_aload_n C (pc := 84) dX7_doWrite_84 rfl rfl ?_
            refine tv_getR C (pc := 85) dX7_doWrite_85 fl_X7_25 (ts_live (k := 30) (by decide) (by decide) (by decide)) rfl rfl (i2 := (32, 0, 0)) rfl ?_
            refine tv_iload_n C (pc := 88) dX7_doWrite_88 rfl rfl ?_
            obtain ⟨hr61, h⟩ := ts_gd h
            refine tv_iaload C (pc := 89) dX7_doWrite_89 (ts_live (k := 32) (by decide) (by decide) (by decide)) rfl hr61 (j := p1.toNatClampNeg) rfl ?_
            refine tv_icmp_ne C (pc := 90) 110 dX7_doWrite_90 (by decide) (fun hc => ?_) (fun hc => ?_)
            · have h := ts_ifn h hc
              refine tv_aload_n C (pc := 110) dX7_doWrite_110 rfl rfl ?_
              refine tv_getR C (pc := 111) dX7_doWrite_111 fl_X7_43 (ts_live (k := 30) (by decide) (by decide) (by decide)) rfl rfl (i2 := (38, 0, 0)) rfl ?_
              refine tv_iload_n C (pc := 114) dX7_doWrite_114 rfl rfl ?_
              obtain ⟨hr62, h⟩ := ts_gd h
              refine tv_iaload C (pc := 115) dX7_doWrite_115 (ts_live (k := 38) (by decide) (by decide) (by decide)) rfl hr62 (j := p2.toNatClampNeg) rfl ?_
              refine tv_nmI (fun x63 hx63 => ?_)
              have h := ts_lt h hx63
              refine tv_istore C (pc := 116) dX7_doWrite_116 (L' := [some (.inr (30, 0, 0)), some (.inl (.int p1)), some (.inl (.int p2)), some (.inl (.int p3)), some (.inl (.int (0 : Int32))), some (.inl (.int q44)), some (.inl (.int x63)), none]) (by decide) rfl rfl ?_
              obtain ⟨q70, hq70, h⟩ := ts_bd h
              refine lt_X7_doWrite_118 hl C hdd p1 p2 p3 (0 : Int32) q44 ⟨Nat.le_of_ble_eq_true rfl, Nat.le_of_ble_eq_true rfl⟩ ts_fu x63 u q70 hq70 ?_
              refine tv_aload_n C (pc := 184) dX7_doWrite_184 rfl rfl ?_
              refine tv_iload_n C (pc := 185) dX7_doWrite_185 rfl rfl ?_
              refine tv_iload C (pc := 186) dX7_doWrite_186 rfl ?_
              refine tv_iconst C (pc := 188) dX7_doWrite_188 (v := (1 : Int32)) rfl ?_
              refine tv_iadd C (pc := 189) dX7_doWrite_189 ?_
              refine tv_aload_n C (pc := 190) dX7_doWrite_190 rfl rfl ?_
              refine tv_getR C (pc := 191) dX7_doWrite_191 fl_X7_25 (ts_live (k := 30) (by decide) (by decide) (by decide)) rfl rfl (i2 := (32, 0, 0)) rfl ?_
              refine tv_iload_n C (pc := 194) dX7_doWrite_194 rfl rfl ?_
              obtain ⟨hr71, h⟩ := ts_gd h
              refine tv_iaload C (pc := 195) dX7_doWrite_195 (ts_live (k := 32) (by decide) (by decide) (by decide)) rfl hr71 (j := p1.toNatClampNeg) rfl ?_
              refine tv_iconst C (pc := 196) dX7_doWrite_196 (v := (0 : Int32)) rfl ?_
              refine tv_iload_n C (pc := 197) dX7_doWrite_197 rfl rfl ?_
              refine tv_iload_n C (pc := 198) dX7_doWrite_198 rfl rfl ?_
              obtain ⟨q72, hq72, h⟩ := ts_bd h
              refine tv_callV C (pc := 199) dX7_doWrite_199 (ci := 7) (q := (RX7, TX7, 37)) rfl yl_X7_87 (m_X7_put (D := D) (dT := dT) (sz := sz) (ad := ad) hl p2 (q44 + (1 : Int32)) (ts_gI q70.2 (32, 0, 0) p1.toNatClampNeg) (0 : Int32) p3 p1 q70.2 q72 hq72) (ts_live (k := 30) (by decide) (by decide) (by decide)) rfl (Nat.le_trans (Nat.le_of_ble_eq_true rfl) hdd) (As := [.inl (.int p2), .inl (.int (q44 + (1 : Int32))), .inl (.int (ts_gI q70.2 (32, 0, 0) p1.toNatClampNeg)), .inl (.int (0 : Int32)), .inl (.int p3), .inl (.int p1)]) rfl ⟨Nat.le_of_ble_eq_true rfl, Nat.le_of_ble_eq_true rfl⟩ (fun _ => Nat.le_of_ble_eq_true rfl) rfl ?_
              refine tv_aload_n C (pc := 202) dX7_doWrite_202 rfl rfl ?_
              refine tv_getR C (pc := 203) dX7_doWrite_203 fl_X7_43 (ts_live (k := 30) (by decide) (by decide) (by decide)) rfl rfl (i2 := (38, 0, 0)) rfl ?_
              refine tv_iload_n C (pc := 206) dX7_doWrite_206 rfl rfl ?_
              refine tv_dup2 C (pc := 207) dX7_doWrite_207 (fun _ => ⟨rfl, rfl⟩) ?_
              obtain ⟨hr73, h⟩ := ts_gd h
              refine tv_iaload C (pc := 208) dX7_doWrite_208 (ts_live (k := 38) (by decide) (by decide) (by decide)) rfl hr73 (j := p2.toNatClampNeg) rfl ?_
              refine tv_iconst C (pc := 209) dX7_doWrite_209 (v := (1 : Int32)) rfl ?_
              refine tv_iadd C (pc := 210) dX7_doWrite_210 ?_
              obtain ⟨hr74, h⟩ := ts_gd h
              refine tv_iastore C (pc := 211) dX7_doWrite_211 (ts_live (k := 38) (by decide) (by decide) (by decide)) rfl hr74 (j := p2.toNatClampNeg) rfl ?_
              refine tv_nu (fun u75 hu75 => ?_)
              have h := ts_lt h hu75
              refine tv_aload_n C (pc := 212) dX7_doWrite_212 rfl rfl ?_
              refine tv_iload C (pc := 213) dX7_doWrite_213 rfl ?_
              refine tv_if_eq C (pc := 215) 222 dX7_doWrite_215 (by decide) (fun _ => ?_) (fun hc => absurd hc (by decide))
              refine tv_iconst C (pc := 222) dX7_doWrite_222 (v := (2 : Int32)) rfl ?_
              refine tv_iload_n C (pc := 223) dX7_doWrite_223 rfl rfl ?_
              refine tv_iload_n C (pc := 224) dX7_doWrite_224 rfl rfl ?_
              obtain ⟨q76, hq76, h⟩ := ts_bd h
              refine tv_callV C (pc := 225) dX7_doWrite_225 (ci := 7) (q := (RX7, TX7, 37)) rfl yl_X7_109 (m_X7_record (D := D) (dT := dT) (sz := sz) (ad := ad) hl (2 : Int32) p1 p2 u75 q76 hq76) (ts_live (k := 30) (by decide) (by decide) (by decide)) rfl (Nat.le_trans (Nat.le_of_ble_eq_true rfl) hdd) (As := [.inl (.int (2 : Int32)), .inl (.int p1), .inl (.int p2)]) rfl ⟨Nat.le_of_ble_eq_true rfl, Nat.le_of_ble_eq_true rfl⟩ (fun _ => Nat.le_of_ble_eq_true rfl) rfl ?_
              refine tv_iload C (pc := 228) dX7_doWrite_228 rfl ?_
              refine tv_if_eq C (pc := 230) 237 dX7_doWrite_230 (by decide) (fun _ => ?_) (fun hc => absurd hc (by decide))
              refine tv_iconst C (pc := 237) dX7_doWrite_237 (v := (0 : Int32)) rfl ?_
              cases h
              exact tv_iret C (pc := 238) rfl dX7_doWrite_238 ⟨Nat.le_of_ble_eq_true rfl, Nat.le_of_ble_eq_true rfl⟩
            · have h := ts_ifp h hc
              refine tv_aload_n C (pc := 93) dX7_doWrite_93 rfl rfl ?_
              refine tv_getR C (pc := 94) dX7_doWrite_94 fl_X7_46 (ts_live (k := 30) (by decide) (by decide) (by decide)) rfl rfl (i2 := (39, 0, 0)) rfl ?_
              refine tv_iload_n C (pc := 97) dX7_doWrite_97 rfl rfl ?_
              refine tv_iload C (pc := 98) dX7_doWrite_98 rfl ?_
              obtain ⟨q77, hq77, h⟩ := ts_bd h
              refine tv_callS C (pc := 100) dX7_doWrite_100 yl_X7_91 (m_X7_place (D := D) (dT := dT) (sz := sz) (ad := ad) hl p2 q44 u q77 hq77) (Nat.le_trans (Nat.le_of_ble_eq_true rfl) hdd) (As := [.inl (.int p2), .inl (.int q44)]) rfl ⟨Nat.le_of_ble_eq_true rfl, Nat.le_of_ble_eq_true rfl⟩ (fun _ => Nat.le_of_ble_eq_true rfl) rfl ?_
              refine tv_iconst C (pc := 103) dX7_doWrite_103 (v := (2 : Int32)) rfl ?_
              refine tv_iadd C (pc := 104) dX7_doWrite_104 ?_
              refine tv_iload_n C (pc := 105) dX7_doWrite_105 rfl rfl ?_
              obtain ⟨hr78, h⟩ := ts_gd h
              refine tv_iastore C (pc := 106) dX7_doWrite_106 (ts_live (k := 39) (by decide) (by decide) (by decide)) rfl hr78 (j := ((q77 + (2 : Int32))).toNatClampNeg) rfl ?_
              refine tv_nu (fun u79 hu79 => ?_)
              have h := ts_lt h hu79
              refine tv_goto C (pc := 107) 212 dX7_doWrite_107 (by decide) ?_
              refine tv_aload_n C (pc := 212) dX7_doWrite_212 rfl rfl ?_
              refine tv_iload C (pc := 213) dX7_doWrite_213 rfl ?_
              refine tv_if_eq C (pc := 215) 222 dX7_doWrite_215 (by decide) (fun _ => ?_) (fun hc => absurd hc (by decide))
              refine tv_iconst C (pc := 222) dX7_doWrite_222 (v := (2 : Int32)) rfl ?_
              refine tv_iload_n C (pc := 223) dX7_doWrite_223 rfl rfl ?_
              refine tv_iload_n C (pc := 224) dX7_doWrite_224 rfl rfl ?_
              obtain ⟨q80, hq80, h⟩ := ts_bd h
              refine tv_callV C (pc := 225) dX7_doWrite_225 (ci := 7) (q := (RX7, TX7, 37)) rfl yl_X7_109 (m_X7_record (D := D) (dT := dT) (sz := sz) (ad := ad) hl (2 : Int32) p1 p2 u79 q80 hq80) (ts_live (k := 30) (by decide) (by decide) (by decide)) rfl (Nat.le_trans (Nat.le_of_ble_eq_true rfl) hdd) (As := [.inl (.int (2 : Int32)), .inl (.int p1), .inl (.int p2)]) rfl ⟨Nat.le_of_ble_eq_true rfl, Nat.le_of_ble_eq_true rfl⟩ (fun _ => Nat.le_of_ble_eq_true rfl) rfl ?_
              refine tv_iload C (pc := 228) dX7_doWrite_228 rfl ?_
              refine tv_if_eq C (pc := 230) 237 dX7_doWrite_230 (by decide) (fun _ => ?_) (fun hc => absurd hc (by decide))
              refine tv_iconst C (pc := 237) dX7_doWrite_237 (v := (0 : Int32)) rfl ?_
              cases h
              exact tv_iret C (pc := 238) rfl dX7_doWrite_238 ⟨Nat.le_of_ble_eq_true rfl, Nat.le_of_ble_eq_true rfl⟩
        · have h := ts_ifn h hc
          refine tv_iconst C (pc := 51) dX7_doWrite_51 (v := (1 : Int32)) rfl ?_
          refine tv_goto C (pc := 52) 56 dX7_doWrite_52 (by decide) ?_
          refine tv_istore C (pc := 56) dX7_doWrite_56 (L' := [some (.inr (30, 0, 0)), some (.inl (.int p1)), some (.inl (.int p2)), some (.inl (.int p3)), some (.inl (.int (1 : Int32))), none, none, none]) (by decide) rfl rfl ?_
          refine tv_aload_n C (pc := 58) dX7_doWrite_58 rfl rfl ?_
          refine tv_iload_n C (pc := 59) dX7_doWrite_59 rfl rfl ?_
          refine tv_aload_n C (pc := 60) dX7_doWrite_60 rfl rfl ?_
          refine tv_getR C (pc := 61) dX7_doWrite_61 fl_X7_25 (ts_live (k := 30) (by decide) (by decide) (by decide)) rfl rfl (i2 := (32, 0, 0)) rfl ?_
          refine tv_iload_n C (pc := 64) dX7_doWrite_64 rfl rfl ?_
          obtain ⟨hr81, h⟩ := ts_gd h
          refine tv_iaload C (pc := 65) dX7_doWrite_65 (ts_live (k := 32) (by decide) (by decide) (by decide)) rfl hr81 (j := p1.toNatClampNeg) rfl ?_
          obtain ⟨q82, hq82, h⟩ := ts_bd h
          refine tv_callV C (pc := 66) dX7_doWrite_66 (ci := 7) (q := (RX7, TX7, 37)) rfl yl_X7_143 (m_X7_lastUpTo (D := D) (dT := dT) (sz := sz) (ad := ad) hl p2 (ts_gI u (32, 0, 0) p1.toNatClampNeg) u q82 hq82) (ts_live (k := 30) (by decide) (by decide) (by decide)) rfl (Nat.le_trans (Nat.le_of_ble_eq_true rfl) hdd) (As := [.inl (.int p2), .inl (.int (ts_gI u (32, 0, 0) p1.toNatClampNeg))]) rfl ⟨Nat.le_of_ble_eq_true rfl, Nat.le_of_ble_eq_true rfl⟩ (fun _ => Nat.le_of_ble_eq_true rfl) rfl ?_
          refine tv_istore C (pc := 69) dX7_doWrite_69 (L' := [some (.inr (30, 0, 0)), some (.inl (.int p1)), some (.inl (.int p2)), some (.inl (.int p3)), some (.inl (.int (1 : Int32))), some (.inl (.int q82)), none, none]) (by decide) rfl rfl ?_
          refine tv_iload C (pc := 71) dX7_doWrite_71 rfl ?_
          refine tv_iconst C (pc := 73) dX7_doWrite_73 (v := (-1 : Int32)) rfl ?_
          refine tv_icmp_eq C (pc := 74) 110 dX7_doWrite_74 (by decide) (fun hc => ?_) (fun hc => ?_)
          · have h := ts_ifp h hc
            refine tv_aload_n C (pc := 110) dX7_doWrite_110 rfl rfl ?_
            refine tv_getR C (pc := 111) dX7_doWrite_111 fl_X7_43 (ts_live (k := 30) (by decide) (by decide) (by decide)) rfl rfl (i2 := (38, 0, 0)) rfl ?_
            refine tv_iload_n C (pc := 114) dX7_doWrite_114 rfl rfl ?_
            obtain ⟨hr83, h⟩ := ts_gd h
            refine tv_iaload C (pc := 115) dX7_doWrite_115 (ts_live (k := 38) (by decide) (by decide) (by decide)) rfl hr83 (j := p2.toNatClampNeg) rfl ?_
            refine tv_nmI (fun x84 hx84 => ?_)
            have h := ts_lt h hx84
            refine tv_istore C (pc := 116) dX7_doWrite_116 (L' := [some (.inr (30, 0, 0)), some (.inl (.int p1)), some (.inl (.int p2)), some (.inl (.int p3)), some (.inl (.int (1 : Int32))), some (.inl (.int q82)), some (.inl (.int x84)), none]) (by decide) rfl rfl ?_
            obtain ⟨q91, hq91, h⟩ := ts_bd h
            refine lt_X7_doWrite_118 hl C hdd p1 p2 p3 (1 : Int32) q82 ⟨Nat.le_of_ble_eq_true rfl, Nat.le_of_ble_eq_true rfl⟩ ts_fu x84 u q91 hq91 ?_
            refine tv_aload_n C (pc := 184) dX7_doWrite_184 rfl rfl ?_
            refine tv_iload_n C (pc := 185) dX7_doWrite_185 rfl rfl ?_
            refine tv_iload C (pc := 186) dX7_doWrite_186 rfl ?_
            refine tv_iconst C (pc := 188) dX7_doWrite_188 (v := (1 : Int32)) rfl ?_
            refine tv_iadd C (pc := 189) dX7_doWrite_189 ?_
            refine tv_aload_n C (pc := 190) dX7_doWrite_190 rfl rfl ?_
            refine tv_getR C (pc := 191) dX7_doWrite_191 fl_X7_25 (ts_live (k := 30) (by decide) (by decide) (by decide)) rfl rfl (i2 := (32, 0, 0)) rfl ?_
            refine tv_iload_n C (pc := 194) dX7_doWrite_194 rfl rfl ?_
            obtain ⟨hr92, h⟩ := ts_gd h
            refine tv_iaload C (pc := 195) dX7_doWrite_195 (ts_live (k := 32) (by decide) (by decide) (by decide)) rfl hr92 (j := p1.toNatClampNeg) rfl ?_
            refine tv_iconst C (pc := 196) dX7_doWrite_196 (v := (0 : Int32)) rfl ?_
            refine tv_iload_n C (pc := 197) dX7_doWrite_197 rfl rfl ?_
            refine tv_iload_n C (pc := 198) dX7_doWrite_198 rfl rfl ?_
            obtain ⟨q93, hq93, h⟩ := ts_bd h
            refine tv_callV C (pc := 199) dX7_doWrite_199 (ci := 7) (q := (RX7, TX7, 37)) rfl yl_X7_87 (m_X7_put (D := D) (dT := dT) (sz := sz) (ad := ad) hl p2 (q82 + (1 : Int32)) (ts_gI q91.2 (32, 0, 0) p1.toNatClampNeg) (0 : Int32) p3 p1 q91.2 q93 hq93) (ts_live (k := 30) (by decide) (by decide) (by decide)) rfl (Nat.le_trans (Nat.le_of_ble_eq_true rfl) hdd) (As := [.inl (.int p2), .inl (.int (q82 + (1 : Int32))), .inl (.int (ts_gI q91.2 (32, 0, 0) p1.toNatClampNeg)), .inl (.int (0 : Int32)), .inl (.int p3), .inl (.int p1)]) rfl ⟨Nat.le_of_ble_eq_true rfl, Nat.le_of_ble_eq_true rfl⟩ (fun _ => Nat.le_of_ble_eq_true rfl) rfl ?_
            refine tv_aload_n C (pc := 202) dX7_doWrite_202 rfl rfl ?_
            refine tv_getR C (pc := 203) dX7_doWrite_203 fl_X7_43 (ts_live (k := 30) (by decide) (by decide) (by decide)) rfl rfl (i2 := (38, 0, 0)) rfl ?_
            refine tv_iload_n C (pc := 206) dX7_doWrite_206 rfl rfl ?_
            refine tv_dup2 C (pc := 207) dX7_doWrite_207 (fun _ => ⟨rfl, rfl⟩) ?_
            obtain ⟨hr94, h⟩ := ts_gd h
            refine tv_iaload C (pc := 208) dX7_doWrite_208 (ts_live (k := 38) (by decide) (by decide) (by decide)) rfl hr94 (j := p2.toNatClampNeg) rfl ?_
            refine tv_iconst C (pc := 209) dX7_doWrite_209 (v := (1 : Int32)) rfl ?_
            refine tv_iadd C (pc := 210) dX7_doWrite_210 ?_
            obtain ⟨hr95, h⟩ := ts_gd h
            refine tv_iastore C (pc := 211) dX7_doWrite_211 (ts_live (k := 38) (by decide) (by decide) (by decide)) rfl hr95 (j := p2.toNatClampNeg) rfl ?_
            refine tv_nu (fun u96 hu96 => ?_)
            have h := ts_lt h hu96
            refine tv_aload_n C (pc := 212) dX7_doWrite_212 rfl rfl ?_
            refine tv_iload C (pc := 213) dX7_doWrite_213 rfl ?_
            refine tv_if_eq C (pc := 215) 222 dX7_doWrite_215 (by decide) (fun hc => absurd hc (by decide)) (fun _ => ?_)
            refine tv_iconst C (pc := 218) dX7_doWrite_218 (v := (3 : Int32)) rfl ?_
            refine tv_goto C (pc := 219) 223 dX7_doWrite_219 (by decide) ?_
            refine tv_iload_n C (pc := 223) dX7_doWrite_223 rfl rfl ?_
            refine tv_iload_n C (pc := 224) dX7_doWrite_224 rfl rfl ?_
            obtain ⟨q97, hq97, h⟩ := ts_bd h
            refine tv_callV C (pc := 225) dX7_doWrite_225 (ci := 7) (q := (RX7, TX7, 37)) rfl yl_X7_109 (m_X7_record (D := D) (dT := dT) (sz := sz) (ad := ad) hl (3 : Int32) p1 p2 u96 q97 hq97) (ts_live (k := 30) (by decide) (by decide) (by decide)) rfl (Nat.le_trans (Nat.le_of_ble_eq_true rfl) hdd) (As := [.inl (.int (3 : Int32)), .inl (.int p1), .inl (.int p2)]) rfl ⟨Nat.le_of_ble_eq_true rfl, Nat.le_of_ble_eq_true rfl⟩ (fun _ => Nat.le_of_ble_eq_true rfl) rfl ?_
            refine tv_iload C (pc := 228) dX7_doWrite_228 rfl ?_
            refine tv_if_eq C (pc := 230) 237 dX7_doWrite_230 (by decide) (fun hc => absurd hc (by decide)) (fun _ => ?_)
            refine tv_iconst C (pc := 233) dX7_doWrite_233 (v := (1 : Int32)) rfl ?_
            refine tv_goto C (pc := 234) 238 dX7_doWrite_234 (by decide) ?_
            cases h
            exact tv_iret C (pc := 238) rfl dX7_doWrite_238 ⟨Nat.le_of_ble_eq_true rfl, Nat.le_of_ble_eq_true rfl⟩
          · have h := ts_ifn h hc
            refine tv_aload_n C (pc := 77) dX7_doWrite_77 rfl rfl ?_
            refine tv_iload_n C (pc := 78) dX7_doWrite_78 rfl rfl ?_
            refine tv_iload C (pc := 79) dX7_doWrite_79 rfl ?_
            obtain ⟨q98, hq98, h⟩ := ts_bd h
            refine tv_callV C (pc := 81) dX7_doWrite_81 (ci := 7) (q := (RX7, TX7, 37)) rfl yl_X7_140 (m_X7_written (D := D) (dT := dT) (sz := sz) (ad := ad) hl p2 q82 u q98 hq98) (ts_live (k := 30) (by decide) (by decide) (by decide)) rfl (Nat.le_trans (Nat.le_of_ble_eq_true rfl) hdd) (As := [.inl (.int p2), .inl (.int q82)]) rfl ⟨Nat.le_of_ble_eq_true rfl, Nat.le_of_ble_eq_true rfl⟩ (fun _ => Nat.le_of_ble_eq_true rfl) rfl ?_
            refine tv_aload_n C (pc := 84) dX7_doWrite_84 rfl rfl ?_
            refine tv_getR C (pc := 85) dX7_doWrite_85 fl_X7_25 (ts_live (k := 30) (by decide) (by decide) (by decide)) rfl rfl (i2 := (32, 0, 0)) rfl ?_
            refine tv_iload_n C (pc := 88) dX7_doWrite_88 rfl rfl ?_
            obtain ⟨hr99, h⟩ := ts_gd h
            refine tv_iaload C (pc := 89) dX7_doWrite_89 (ts_live (k := 32) (by decide) (by decide) (by decide)) rfl hr99 (j := p1.toNatClampNeg) rfl ?_
            refine tv_icmp_ne C (pc := 90) 110 dX7_doWrite_90 (by decide) (fun hc => ?_) (fun hc => ?_)
            · have h := ts_ifn h hc
              refine tv_aload_n C (pc := 110) dX7_doWrite_110 rfl rfl ?_
              refine tv_getR C (pc := 111) dX7_doWrite_111 fl_X7_43 (ts_live (k := 30) (by decide) (by decide) (by decide)) rfl rfl (i2 := (38, 0, 0)) rfl ?_
              refine tv_iload_n C (pc := 114) dX7_doWrite_114 rfl rfl ?_
              obtain ⟨hr100, h⟩ := ts_gd h
              refine tv_iaload C (pc := 115) dX7_doWrite_115 (ts_live (k := 38) (by decide) (by decide) (by decide)) rfl hr100 (j := p2.toNatClampNeg) rfl ?_
              refine tv_nmI (fun x101 hx101 => ?_)
              have h := ts_lt h hx101
              refine tv_istore C (pc := 116) dX7_doWrite_116 (L' := [some (.inr (30, 0, 0)), some (.inl (.int p1)), some (.inl (.int p2)), some (.inl (.int p3)), some (.inl (.int (1 : Int32))), some (.inl (.int q82)), some (.inl (.int x101)), none]) (by decide) rfl rfl ?_
              obtain ⟨q108, hq108, h⟩ := ts_bd h
              refine lt_X7_doWrite_118 hl C hdd p1 p2 p3 (1 : Int32) q82 ⟨Nat.le_of_ble_eq_true rfl, Nat.le_of_ble_eq_true rfl⟩ ts_fu x101 u q108 hq108 ?_
              refine tv_aload_n C (pc := 184) dX7_doWrite_184 rfl rfl ?_
              refine tv_iload_n C (pc := 185) dX7_doWrite_185 rfl rfl ?_
              refine tv_iload C (pc := 186) dX7_doWrite_186 rfl ?_
              refine tv_iconst C (pc := 188) dX7_doWrite_188 (v := (1 : Int32)) rfl ?_
              refine tv_iadd C (pc := 189) dX7_doWrite_189 ?_
              refine tv_aload_n C (pc := 190) dX7_doWrite_190 rfl rfl ?_
              refine tv_getR C (pc := 191) dX7_doWrite_191 fl_X7_25 (ts_live (k := 30) (by decide) (by decide) (by decide)) rfl rfl (i2 := (32, 0, 0)) rfl ?_
              refine tv_iload_n C (pc := 194) dX7_doWrite_194 rfl rfl ?_
              obtain ⟨hr109, h⟩ := ts_gd h
              refine tv_iaload C (pc := 195) dX7_doWrite_195 (ts_live (k := 32) (by decide) (by decide) (by decide)) rfl hr109 (j := p1.toNatClampNeg) rfl ?_
              refine tv_iconst C (pc := 196) dX7_doWrite_196 (v := (0 : Int32)) rfl ?_
              refine tv_iload_n C (pc := 197) dX7_doWrite_197 rfl rfl ?_
              refine tv_iload_n C (pc := 198) dX7_doWrite_198 rfl rfl ?_
              obtain ⟨q110, hq110, h⟩ := ts_bd h
              refine tv_callV C (pc := 199) dX7_doWrite_199 (ci := 7) (q := (RX7, TX7, 37)) rfl yl_X7_87 (m_X7_put (D := D) (dT := dT) (sz := sz) (ad := ad) hl p2 (q82 + (1 : Int32)) (ts_gI q108.2 (32, 0, 0) p1.toNatClampNeg) (0 : Int32) p3 p1 q108.2 q110 hq110) (ts_live (k := 30) (by decide) (by decide) (by decide)) rfl (Nat.le_trans (Nat.le_of_ble_eq_true rfl) hdd) (As := [.inl (.int p2), .inl (.int (q82 + (1 : Int32))), .inl (.int (ts_gI q108.2 (32, 0, 0) p1.toNatClampNeg)), .inl (.int (0 : Int32)), .inl (.int p3), .inl (.int p1)]) rfl ⟨Nat.le_of_ble_eq_true rfl, Nat.le_of_ble_eq_true rfl⟩ (fun _ => Nat.le_of_ble_eq_true rfl) rfl ?_
              refine tv_aload_n C (pc := 202) dX7_doWrite_202 rfl rfl ?_
              refine tv_getR C (pc := 203) dX7_doWrite_203 fl_X7_43 (ts_live (k := 30) (by decide) (by decide) (by decide)) rfl rfl (i2 := (38, 0, 0)) rfl ?_
              refine tv_iload_n C (pc := 206) dX7_doWrite_206 rfl rfl ?_
              refine tv_dup2 C (pc := 207) dX7_doWrite_207 (fun _ => ⟨rfl, rfl⟩) ?_
              obtain ⟨hr111, h⟩ := ts_gd h
              refine tv_iaload C (pc := 208) dX7_doWrite_208 (ts_live (k := 38) (by decide) (by decide) (by decide)) rfl hr111 (j := p2.toNatClampNeg) rfl ?_
              refine tv_iconst C (pc := 209) dX7_doWrite_209 (v := (1 : Int32)) rfl ?_
              refine tv_iadd C (pc := 210) dX7_doWrite_210 ?_
              obtain ⟨hr112, h⟩ := ts_gd h
              refine tv_iastore C (pc := 211) dX7_doWrite_211 (ts_live (k := 38) (by decide) (by decide) (by decide)) rfl hr112 (j := p2.toNatClampNeg) rfl ?_
              refine tv_nu (fun u113 hu113 => ?_)
              have h := ts_lt h hu113
              refine tv_aload_n C (pc := 212) dX7_doWrite_212 rfl rfl ?_
              refine tv_iload C (pc := 213) dX7_doWrite_213 rfl ?_
              refine tv_if_eq C (pc := 215) 222 dX7_doWrite_215 (by decide) (fun hc => absurd hc (by decide)) (fun _ => ?_)
              refine tv_iconst C (pc := 218) dX7_doWrite_218 (v := (3 : Int32)) rfl ?_
              refine tv_goto C (pc := 219) 223 dX7_doWrite_219 (by decide) ?_
              refine tv_iload_n C (pc := 223) dX7_doWrite_223 rfl rfl ?_
              refine tv_iload_n C (pc := 224) dX7_doWrite_224 rfl rfl ?_
              obtain ⟨q114, hq114, h⟩ := ts_bd h
              refine tv_callV C (pc := 225) dX7_doWrite_225 (ci := 7) (q := (RX7, TX7, 37)) rfl yl_X7_109 (m_X7_record (D := D) (dT := dT) (sz := sz) (ad := ad) hl (3 : Int32) p1 p2 u113 q114 hq114) (ts_live (k := 30) (by decide) (by decide) (by decide)) rfl (Nat.le_trans (Nat.le_of_ble_eq_true rfl) hdd) (As := [.inl (.int (3 : Int32)), .inl (.int p1), .inl (.int p2)]) rfl ⟨Nat.le_of_ble_eq_true rfl, Nat.le_of_ble_eq_true rfl⟩ (fun _ => Nat.le_of_ble_eq_true rfl) rfl ?_
              refine tv_iload C (pc := 228) dX7_doWrite_228 rfl ?_
              refine tv_if_eq C (pc := 230) 237 dX7_doWrite_230 (by decide) (fun hc => absurd hc (by decide)) (fun _ => ?_)
              refine tv_iconst C (pc := 233) dX7_doWrite_233 (v := (1 : Int32)) rfl ?_
              refine tv_goto C (pc := 234) 238 dX7_doWrite_234 (by decide) ?_
              cases h
              exact tv_iret C (pc := 238) rfl dX7_doWrite_238 ⟨Nat.le_of_ble_eq_true rfl, Nat.le_of_ble_eq_true rfl⟩
            · have h := ts_ifp h hc
              refine tv_aload_n C (pc := 93) dX7_doWrite_93 rfl rfl ?_
              refine tv_getR C (pc := 94) dX7_doWrite_94 fl_X7_46 (ts_live (k := 30) (by decide) (by decide) (by decide)) rfl rfl (i2 := (39, 0, 0)) rfl ?_
              refine tv_iload_n C (pc := 97) dX7_doWrite_97 rfl rfl ?_
              refine tv_iload C (pc := 98) dX7_doWrite_98 rfl ?_
              obtain ⟨q115, hq115, h⟩ := ts_bd h
              refine tv_callS C (pc := 100) dX7_doWrite_100 yl_X7_91 (m_X7_place (D := D) (dT := dT) (sz := sz) (ad := ad) hl p2 q82 u q115 hq115) (Nat.le_trans (Nat.le_of_ble_eq_true rfl) hdd) (As := [.inl (.int p2), .inl (.int q82)]) rfl ⟨Nat.le_of_ble_eq_true rfl, Nat.le_of_ble_eq_true rfl⟩ (fun _ => Nat.le_of_ble_eq_true rfl) rfl ?_
              refine tv_iconst C (pc := 103) dX7_doWrite_103 (v := (2 : Int32)) rfl ?_
              refine tv_iadd C (pc := 104) dX7_doWrite_104 ?_
              refine tv_iload_n C (pc := 105) dX7_doWrite_105 rfl rfl ?_
              obtain ⟨hr116, h⟩ := ts_gd h
              refine tv_iastore C (pc := 106) dX7_doWrite_106 (ts_live (k := 39) (by decide) (by decide) (by decide)) rfl hr116 (j := ((q115 + (2 : Int32))).toNatClampNeg) rfl ?_
              refine tv_nu (fun u117 hu117 => ?_)
              have h := ts_lt h hu117
              refine tv_goto C (pc := 107) 212 dX7_doWrite_107 (by decide) ?_
              refine tv_aload_n C (pc := 212) dX7_doWrite_212 rfl rfl ?_
              refine tv_iload C (pc := 213) dX7_doWrite_213 rfl ?_
              refine tv_if_eq C (pc := 215) 222 dX7_doWrite_215 (by decide) (fun hc => absurd hc (by decide)) (fun _ => ?_)
              refine tv_iconst C (pc := 218) dX7_doWrite_218 (v := (3 : Int32)) rfl ?_
              refine tv_goto C (pc := 219) 223 dX7_doWrite_219 (by decide) ?_
              refine tv_iload_n C (pc := 223) dX7_doWrite_223 rfl rfl ?_
              refine tv_iload_n C (pc := 224) dX7_doWrite_224 rfl rfl ?_
              obtain ⟨q118, hq118, h⟩ := ts_bd h
              refine tv_callV C (pc := 225) dX7_doWrite_225 (ci := 7) (q := (RX7, TX7, 37)) rfl yl_X7_109 (m_X7_record (D := D) (dT := dT) (sz := sz) (ad := ad) hl (3 : Int32) p1 p2 u117 q118 hq118) (ts_live (k := 30) (by decide) (by decide) (by decide)) rfl (Nat.le_trans (Nat.le_of_ble_eq_true rfl) hdd) (As := [.inl (.int (3 : Int32)), .inl (.int p1), .inl (.int p2)]) rfl ⟨Nat.le_of_ble_eq_true rfl, Nat.le_of_ble_eq_true rfl⟩ (fun _ => Nat.le_of_ble_eq_true rfl) rfl ?_
              refine tv_iload C (pc := 228) dX7_doWrite_228 rfl ?_
              refine tv_if_eq C (pc := 230) 237 dX7_doWrite_230 (by decide) (fun hc => absurd hc (by decide)) (fun _ => ?_)
              refine tv_iconst C (pc := 233) dX7_doWrite_233 (v := (1 : Int32)) rfl ?_
              refine tv_goto C (pc := 234) 238 dX7_doWrite_234 (by decide) ?_
              cases h
              exact tv_iret C (pc := 238) rfl dX7_doWrite_238 ⟨Nat.le_of_ble_eq_true rfl, Nat.le_of_ble_eq_true rfl⟩
    · have h := ts_ifn h hc
      refine tv_aload_n C (pc := 9) dX7_doWrite_9 rfl rfl ?_
      refine tv_iload_n C (pc := 10) dX7_doWrite_10 rfl rfl ?_
      refine tv_bipush C (pc := 11) dX7_doWrite_11 (v := (6 : Int32)) rfl ?_
      refine tv_iload_n C (pc := 13) dX7_doWrite_13 rfl rfl ?_
      obtain ⟨q119, hq119, h⟩ := ts_bd h
      refine tv_callV C (pc := 14) dX7_doWrite_14 (ci := 7) (q := (RX7, TX7, 37)) rfl yl_X7_121 (m_X7_doAbort (D := D) (dT := dT) (sz := sz) (ad := ad) hl 17 p1 (6 : Int32) p2 u q119 hq119) (ts_live (k := 30) (by decide) (by decide) (by decide)) rfl (Nat.le_trans (Nat.le_of_ble_eq_true rfl) hdd) (As := [.inl (.int p1), .inl (.int (6 : Int32)), .inl (.int p2)]) rfl ⟨Nat.le_of_ble_eq_true rfl, Nat.le_of_ble_eq_true rfl⟩ (fun _ => Nat.le_of_ble_eq_true rfl) rfl ?_
      refine tv_pop C (pc := 17) dX7_doWrite_17 (fun _ => rfl) ?_
      refine tv_ldc C (pc := 18) dX7_doWrite_18 kc_X7_158 ?_
      cases h
      exact tv_iret C (pc := 20) rfl dX7_doWrite_20 ⟨Nat.le_of_ble_eq_true rfl, Nat.le_of_ble_eq_true rfl⟩
set_option maxRecDepth 100000 in
set_option maxHeartbeats 4000000 in
theorem m_X7_listPlace {l : Launch} {D : va_G} {dT : Nat → ClassId} {sz : Nat} {ad : ts_I → Nat} (hl : l.stackTraces = false) (p1 : Int32) (p2 : Int32) (u : ts_Mem) (r : Int32) (h : f_X7_listPlace p1 p2 u = some r) : ts_M l D dT sz yX7_listPlace wX7_listPlace 0 0 0 ad ts_lv ts_R0 [.inr (30, 0, 0), .inl (.int p1), .inl (.int p2)] u (.inl (some (.int r))) u := by
    unfold f_X7_listPlace at h
    refine ts_enter hl (by decide) rfl rfl (Nat.le_of_ble_eq_true rfl) ?_
    intro p e s m args below meth c C hX hnm
    have C : ts_CX D dT sz p l (ts_rm 0 0 0) s m args meth c RX7 cX7_listPlace 3 (some .int) 0 := C
    have hdd : 0 ≤ 0 := Nat.le_refl _
    refine tv_iconst C (pc := 0) dX7_listPlace_0 (v := (4 : Int32)) rfl ?_
    refine tv_bipush C (pc := 1) dX7_listPlace_1 (v := (20 : Int32)) rfl ?_
    refine tv_iload_n C (pc := 3) dX7_listPlace_3 rfl rfl ?_
    refine tv_imul C (pc := 4) dX7_listPlace_4 ?_
    refine tv_iload_n C (pc := 5) dX7_listPlace_5 rfl rfl ?_
    refine tv_iadd C (pc := 6) dX7_listPlace_6 ?_
    refine tv_imul C (pc := 7) dX7_listPlace_7 ?_
    cases h
    exact tv_iret C (pc := 8) rfl dX7_listPlace_8 ⟨Nat.le_of_ble_eq_true rfl, Nat.le_of_ble_eq_true rfl⟩
set_option maxRecDepth 100000 in
set_option maxHeartbeats 4000000 in
theorem m_X7_doOperation {l : Launch} {D : va_G} {dT : Nat → ClassId} {sz : Nat} {ad : ts_I → Nat} (hl : l.stackTraces = false) (p1 : Int32) (p2 : Int32) (u : ts_Mem) (r : (Int32 × ts_Mem)) (h : f_X7_doOperation p1 p2 u = some r) : ts_M l D dT sz yX7_doOperation wX7_doOperation 22 0 0 ad ts_lv ts_R0 [.inr (30, 0, 0), .inl (.int p1), .inl (.int p2)] u (.inl (some (.int r.1))) r.2 := by
    unfold f_X7_doOperation at h
    refine ts_enter hl (by decide) rfl rfl (Nat.le_of_ble_eq_true rfl) ?_
    intro p e s m args below meth c C hX hnm
    have C : ts_CX D dT sz p l (ts_rm 22 0 0) s m args meth c RX7 cX7_doOperation 7 (some .boolean) 22 := C
    have hdd : 22 ≤ 22 := Nat.le_refl _
    refine tv_aload_n C (pc := 0) dX7_doOperation_0 rfl rfl ?_
    refine tv_iload_n C (pc := 1) dX7_doOperation_1 rfl rfl ?_
    refine tv_iload_n C (pc := 2) dX7_doOperation_2 rfl rfl ?_
    obtain ⟨q1, hq1, h⟩ := ts_bd h
    refine tv_callV C (pc := 3) dX7_doOperation_3 (ci := 7) (q := (RX7, TX7, 37)) rfl yl_X7_159 (m_X7_listPlace (D := D) (dT := dT) (sz := sz) (ad := ad) hl p1 p2 u q1 hq1) (ts_live (k := 30) (by decide) (by decide) (by decide)) rfl (Nat.le_trans (Nat.le_of_ble_eq_true rfl) hdd) (As := [.inl (.int p1), .inl (.int p2)]) rfl ⟨Nat.le_of_ble_eq_true rfl, Nat.le_of_ble_eq_true rfl⟩ (fun _ => Nat.le_of_ble_eq_true rfl) rfl ?_
    refine tv_istore_n C (pc := 6) dX7_doOperation_6 (L' := [some (.inr (30, 0, 0)), some (.inl (.int p1)), some (.inl (.int p2)), some (.inl (.int q1)), none, none, none]) rfl (by decide) rfl rfl ?_
    refine tv_aload_n C (pc := 7) dX7_doOperation_7 rfl rfl ?_
    refine tv_getR C (pc := 8) dX7_doOperation_8 fl_X7_37 (ts_live (k := 30) (by decide) (by decide) (by decide)) rfl rfl (i2 := (36, 0, 0)) rfl ?_
    refine tv_iload_n C (pc := 11) dX7_doOperation_11 rfl rfl ?_
    obtain ⟨hr2, h⟩ := ts_gd h
    refine tv_iaload C (pc := 12) dX7_doOperation_12 (ts_live (k := 36) (by decide) (by decide) (by decide)) rfl hr2 (j := q1.toNatClampNeg) rfl ?_
    refine tv_nmI (fun x3 hx3 => ?_)
    have h := ts_lt h hx3
    refine tv_istore C (pc := 13) dX7_doOperation_13 (L' := [some (.inr (30, 0, 0)), some (.inl (.int p1)), some (.inl (.int p2)), some (.inl (.int q1)), some (.inl (.int x3)), none, none]) (by decide) rfl rfl ?_
    refine tv_aload_n C (pc := 15) dX7_doOperation_15 rfl rfl ?_
    refine tv_getR C (pc := 16) dX7_doOperation_16 fl_X7_37 (ts_live (k := 30) (by decide) (by decide) (by decide)) rfl rfl (i2 := (36, 0, 0)) rfl ?_
    refine tv_iload_n C (pc := 19) dX7_doOperation_19 rfl rfl ?_
    refine tv_iconst C (pc := 20) dX7_doOperation_20 (v := (1 : Int32)) rfl ?_
    refine tv_iadd C (pc := 21) dX7_doOperation_21 ?_
    obtain ⟨hr4, h⟩ := ts_gd h
    refine tv_iaload C (pc := 22) dX7_doOperation_22 (ts_live (k := 36) (by decide) (by decide) (by decide)) rfl hr4 (j := ((q1 + (1 : Int32))).toNatClampNeg) rfl ?_
    refine tv_nmI (fun x5 hx5 => ?_)
    have h := ts_lt h hx5
    refine tv_istore C (pc := 23) dX7_doOperation_23 (L' := [some (.inr (30, 0, 0)), some (.inl (.int p1)), some (.inl (.int p2)), some (.inl (.int q1)), some (.inl (.int x3)), some (.inl (.int x5)), none]) (by decide) rfl rfl ?_
    refine tv_iconst C (pc := 25) dX7_doOperation_25 (v := (0 : Int32)) rfl ?_
    refine tv_istore C (pc := 26) dX7_doOperation_26 (L' := [some (.inr (30, 0, 0)), some (.inl (.int p1)), some (.inl (.int p2)), some (.inl (.int q1)), some (.inl (.int x3)), some (.inl (.int x5)), some (.inl (.int (0 : Int32)))]) (by decide) rfl rfl ?_
    refine tv_iload C (pc := 28) dX7_doOperation_28 rfl ?_
    refine tv_iconst C (pc := 30) dX7_doOperation_30 (v := (1 : Int32)) rfl ?_
    refine tv_icmp_eq C (pc := 31) 52 dX7_doOperation_31 (by decide) (fun hc => ?_) (fun hc => ?_)
    · have h := ts_ifp h hc
      refine tv_iload C (pc := 52) dX7_doOperation_52 rfl ?_
      refine tv_if_eq C (pc := 54) 115 dX7_doOperation_54 (by decide) (fun hc => ?_) (fun hc => ?_)
      · have h := ts_ifp h hc
        refine tv_aload_n C (pc := 115) dX7_doOperation_115 rfl rfl ?_
        refine tv_getR C (pc := 116) dX7_doOperation_116 fl_X7_37 (ts_live (k := 30) (by decide) (by decide) (by decide)) rfl rfl (i2 := (36, 0, 0)) rfl ?_
        refine tv_iload_n C (pc := 119) dX7_doOperation_119 rfl rfl ?_
        refine tv_iconst C (pc := 120) dX7_doOperation_120 (v := (3 : Int32)) rfl ?_
        refine tv_iadd C (pc := 121) dX7_doOperation_121 ?_
        refine tv_iload C (pc := 122) dX7_doOperation_122 rfl ?_
        obtain ⟨hr6, h⟩ := ts_gd h
        refine tv_iastore C (pc := 124) dX7_doOperation_124 (ts_live (k := 36) (by decide) (by decide) (by decide)) rfl hr6 (j := ((q1 + (3 : Int32))).toNatClampNeg) rfl ?_
        refine tv_nu (fun u7 hu7 => ?_)
        have h := ts_lt h hu7
        refine tv_iconst C (pc := 125) dX7_doOperation_125 (v := (1 : Int32)) rfl ?_
        cases h
        exact tv_zret C (pc := 126) (v := (1 : Int32)) rfl ts_nz1 dX7_doOperation_126 ⟨Nat.le_of_ble_eq_true rfl, Nat.le_of_ble_eq_true rfl⟩
      · have h := ts_ifn h hc
        refine tv_aload_n C (pc := 57) dX7_doOperation_57 rfl rfl ?_
        refine tv_iload C (pc := 58) dX7_doOperation_58 rfl ?_
        refine tv_iconst C (pc := 60) dX7_doOperation_60 (v := (1 : Int32)) rfl ?_
        refine tv_icmp_ne C (pc := 61) 75 dX7_doOperation_61 (by decide) (fun hc => ?_) (fun hc => ?_)
        · have h := ts_ifn h hc
          refine tv_iload C (pc := 75) dX7_doOperation_75 rfl ?_
          refine tv_aload_n C (pc := 77) dX7_doOperation_77 rfl rfl ?_
          refine tv_getR C (pc := 78) dX7_doOperation_78 fl_X7_37 (ts_live (k := 30) (by decide) (by decide) (by decide)) rfl rfl (i2 := (36, 0, 0)) rfl ?_
          refine tv_iload_n C (pc := 81) dX7_doOperation_81 rfl rfl ?_
          refine tv_iconst C (pc := 82) dX7_doOperation_82 (v := (2 : Int32)) rfl ?_
          refine tv_iadd C (pc := 83) dX7_doOperation_83 ?_
          obtain ⟨hr8, h⟩ := ts_gd h
          refine tv_iaload C (pc := 84) dX7_doOperation_84 (ts_live (k := 36) (by decide) (by decide) (by decide)) rfl hr8 (j := ((q1 + (2 : Int32))).toNatClampNeg) rfl ?_
          refine tv_iadd C (pc := 85) dX7_doOperation_85 ?_
          refine tv_putI C (pc := 86) dX7_doOperation_86 fp_X7_165 (ts_live (k := 30) (by decide) (by decide) (by decide)) rfl (cd := 0) rfl (by decide) rfl rfl ?_
          refine tv_nu (fun u9 hu9 => ?_)
          have h := ts_lt h hu9
          refine tv_aload_n C (pc := 89) dX7_doOperation_89 rfl rfl ?_
          refine tv_aload_n C (pc := 90) dX7_doOperation_90 rfl rfl ?_
          refine tv_iload_n C (pc := 91) dX7_doOperation_91 rfl rfl ?_
          refine tv_iload C (pc := 92) dX7_doOperation_92 rfl ?_
          refine tv_aload_n C (pc := 94) dX7_doOperation_94 rfl rfl ?_
          refine tv_getI C (pc := 95) dX7_doOperation_95 fl_X7_165 (ts_live (k := 30) (by decide) (by decide) (by decide)) rfl (cd := 0) rfl (by decide) ?_
          obtain ⟨q10, hq10, h⟩ := ts_bd h
          refine tv_callV C (pc := 98) dX7_doOperation_98 (ci := 7) (q := (RX7, TX7, 37)) rfl yl_X7_168 (m_X7_doWrite (D := D) (dT := dT) (sz := sz) (ad := ad) hl p1 x5 (ts_gI u9 (30, 0, 0) 17) u9 q10 hq10) (ts_live (k := 30) (by decide) (by decide) (by decide)) rfl (Nat.le_trans (Nat.le_of_ble_eq_true rfl) hdd) (As := [.inl (.int p1), .inl (.int x5), .inl (.int (ts_gI u9 (30, 0, 0) 17))]) rfl ⟨Nat.le_of_ble_eq_true rfl, Nat.le_of_ble_eq_true rfl⟩ (fun _ => Nat.le_of_ble_eq_true rfl) rfl ?_
          refine tv_putI C (pc := 101) dX7_doOperation_101 fp_X7_171 (ts_live (k := 30) (by decide) (by decide) (by decide)) rfl (cd := 0) rfl (by decide) rfl rfl ?_
          refine tv_nu (fun u11 hu11 => ?_)
          have h := ts_lt h hu11
          refine tv_aload_n C (pc := 104) dX7_doOperation_104 rfl rfl ?_
          refine tv_getI C (pc := 105) dX7_doOperation_105 fl_X7_171 (ts_live (k := 30) (by decide) (by decide) (by decide)) rfl (cd := 0) rfl (by decide) ?_
          refine tv_ldc C (pc := 108) dX7_doOperation_108 kc_X7_158 ?_
          refine tv_icmp_ne C (pc := 110) 115 dX7_doOperation_110 (by decide) (fun hc => ?_) (fun hc => ?_)
          · have h := ts_ifn h hc
            refine tv_aload_n C (pc := 115) dX7_doOperation_115 rfl rfl ?_
            refine tv_getR C (pc := 116) dX7_doOperation_116 fl_X7_37 (ts_live (k := 30) (by decide) (by decide) (by decide)) rfl rfl (i2 := (36, 0, 0)) rfl ?_
            refine tv_iload_n C (pc := 119) dX7_doOperation_119 rfl rfl ?_
            refine tv_iconst C (pc := 120) dX7_doOperation_120 (v := (3 : Int32)) rfl ?_
            refine tv_iadd C (pc := 121) dX7_doOperation_121 ?_
            refine tv_iload C (pc := 122) dX7_doOperation_122 rfl ?_
            obtain ⟨hr12, h⟩ := ts_gd h
            refine tv_iastore C (pc := 124) dX7_doOperation_124 (ts_live (k := 36) (by decide) (by decide) (by decide)) rfl hr12 (j := ((q1 + (3 : Int32))).toNatClampNeg) rfl ?_
            refine tv_nu (fun u13 hu13 => ?_)
            have h := ts_lt h hu13
            refine tv_iconst C (pc := 125) dX7_doOperation_125 (v := (1 : Int32)) rfl ?_
            cases h
            exact tv_zret C (pc := 126) (v := (1 : Int32)) rfl ts_nz1 dX7_doOperation_126 ⟨Nat.le_of_ble_eq_true rfl, Nat.le_of_ble_eq_true rfl⟩
          · have h := ts_ifp h hc
            refine tv_iconst C (pc := 113) dX7_doOperation_113 (v := (0 : Int32)) rfl ?_
            cases h
            exact tv_zret C (pc := 114) (v := (0 : Int32)) rfl ts_nz0 dX7_doOperation_114 ⟨Nat.le_of_ble_eq_true rfl, Nat.le_of_ble_eq_true rfl⟩
        · have h := ts_ifp h hc
          refine tv_aload_n C (pc := 64) dX7_doOperation_64 rfl rfl ?_
          refine tv_getR C (pc := 65) dX7_doOperation_65 fl_X7_37 (ts_live (k := 30) (by decide) (by decide) (by decide)) rfl rfl (i2 := (36, 0, 0)) rfl ?_
          refine tv_iload_n C (pc := 68) dX7_doOperation_68 rfl rfl ?_
          refine tv_iconst C (pc := 69) dX7_doOperation_69 (v := (2 : Int32)) rfl ?_
          refine tv_iadd C (pc := 70) dX7_doOperation_70 ?_
          obtain ⟨hr14, h⟩ := ts_gd h
          refine tv_iaload C (pc := 71) dX7_doOperation_71 (ts_live (k := 36) (by decide) (by decide) (by decide)) rfl hr14 (j := ((q1 + (2 : Int32))).toNatClampNeg) rfl ?_
          refine tv_goto C (pc := 72) 86 dX7_doOperation_72 (by decide) ?_
          refine tv_putI C (pc := 86) dX7_doOperation_86 fp_X7_165 (ts_live (k := 30) (by decide) (by decide) (by decide)) rfl (cd := 0) rfl (by decide) rfl rfl ?_
          refine tv_nu (fun u15 hu15 => ?_)
          have h := ts_lt h hu15
          refine tv_aload_n C (pc := 89) dX7_doOperation_89 rfl rfl ?_
          refine tv_aload_n C (pc := 90) dX7_doOperation_90 rfl rfl ?_
          refine tv_iload_n C (pc := 91) dX7_doOperation_91 rfl rfl ?_
          refine tv_iload C (pc := 92) dX7_doOperation_92 rfl ?_
          refine tv_aload_n C (pc := 94) dX7_doOperation_94 rfl rfl ?_
          refine tv_getI C (pc := 95) dX7_doOperation_95 fl_X7_165 (ts_live (k := 30) (by decide) (by decide) (by decide)) rfl (cd := 0) rfl (by decide) ?_
          obtain ⟨q16, hq16, h⟩ := ts_bd h
          refine tv_callV C (pc := 98) dX7_doOperation_98 (ci := 7) (q := (RX7, TX7, 37)) rfl yl_X7_168 (m_X7_doWrite (D := D) (dT := dT) (sz := sz) (ad := ad) hl p1 x5 (ts_gI u15 (30, 0, 0) 17) u15 q16 hq16) (ts_live (k := 30) (by decide) (by decide) (by decide)) rfl (Nat.le_trans (Nat.le_of_ble_eq_true rfl) hdd) (As := [.inl (.int p1), .inl (.int x5), .inl (.int (ts_gI u15 (30, 0, 0) 17))]) rfl ⟨Nat.le_of_ble_eq_true rfl, Nat.le_of_ble_eq_true rfl⟩ (fun _ => Nat.le_of_ble_eq_true rfl) rfl ?_
          refine tv_putI C (pc := 101) dX7_doOperation_101 fp_X7_171 (ts_live (k := 30) (by decide) (by decide) (by decide)) rfl (cd := 0) rfl (by decide) rfl rfl ?_
          refine tv_nu (fun u17 hu17 => ?_)
          have h := ts_lt h hu17
          refine tv_aload_n C (pc := 104) dX7_doOperation_104 rfl rfl ?_
          refine tv_getI C (pc := 105) dX7_doOperation_105 fl_X7_171 (ts_live (k := 30) (by decide) (by decide) (by decide)) rfl (cd := 0) rfl (by decide) ?_
          refine tv_ldc C (pc := 108) dX7_doOperation_108 kc_X7_158 ?_
          refine tv_icmp_ne C (pc := 110) 115 dX7_doOperation_110 (by decide) (fun hc => ?_) (fun hc => ?_)
          · have h := ts_ifn h hc
            refine tv_aload_n C (pc := 115) dX7_doOperation_115 rfl rfl ?_
            refine tv_getR C (pc := 116) dX7_doOperation_116 fl_X7_37 (ts_live (k := 30) (by decide) (by decide) (by decide)) rfl rfl (i2 := (36, 0, 0)) rfl ?_
            refine tv_iload_n C (pc := 119) dX7_doOperation_119 rfl rfl ?_
            refine tv_iconst C (pc := 120) dX7_doOperation_120 (v := (3 : Int32)) rfl ?_
            refine tv_iadd C (pc := 121) dX7_doOperation_121 ?_
            refine tv_iload C (pc := 122) dX7_doOperation_122 rfl ?_
            obtain ⟨hr18, h⟩ := ts_gd h
            refine tv_iastore C (pc := 124) dX7_doOperation_124 (ts_live (k := 36) (by decide) (by decide) (by decide)) rfl hr18 (j := ((q1 + (3 : Int32))).toNatClampNeg) rfl ?_
            refine tv_nu (fun u19 hu19 => ?_)
            have h := ts_lt h hu19
            refine tv_iconst C (pc := 125) dX7_doOperation_125 (v := (1 : Int32)) rfl ?_
            cases h
            exact tv_zret C (pc := 126) (v := (1 : Int32)) rfl ts_nz1 dX7_doOperation_126 ⟨Nat.le_of_ble_eq_true rfl, Nat.le_of_ble_eq_true rfl⟩
          · have h := ts_ifp h hc
            refine tv_iconst C (pc := 113) dX7_doOperation_113 (v := (0 : Int32)) rfl ?_
            cases h
            exact tv_zret C (pc := 114) (v := (0 : Int32)) rfl ts_nz0 dX7_doOperation_114 ⟨Nat.le_of_ble_eq_true rfl, Nat.le_of_ble_eq_true rfl⟩
    · have h := ts_ifn h hc
      refine tv_aload_n C (pc := 34) dX7_doOperation_34 rfl rfl ?_
      refine tv_iload_n C (pc := 35) dX7_doOperation_35 rfl rfl ?_
      refine tv_iload C (pc := 36) dX7_doOperation_36 rfl ?_
      obtain ⟨q20, hq20, h⟩ := ts_bd h
      refine tv_callV C (pc := 38) dX7_doOperation_38 (ci := 7) (q := (RX7, TX7, 37)) rfl yl_X7_162 (m_X7_doRead (D := D) (dT := dT) (sz := sz) (ad := ad) hl p1 x5 u q20 hq20) (ts_live (k := 30) (by decide) (by decide) (by decide)) rfl (Nat.le_trans (Nat.le_of_ble_eq_true rfl) hdd) (As := [.inl (.int p1), .inl (.int x5)]) rfl ⟨Nat.le_of_ble_eq_true rfl, Nat.le_of_ble_eq_true rfl⟩ (fun _ => Nat.le_of_ble_eq_true rfl) rfl ?_
      refine tv_if_ne C (pc := 41) 46 dX7_doOperation_41 (by decide) (fun hc => ?_) (fun hc => ?_)
      · have h := ts_ifn h hc
        refine tv_aload_n C (pc := 46) dX7_doOperation_46 rfl rfl ?_
        refine tv_getI C (pc := 47) dX7_doOperation_47 fl_X7_151 (ts_live (k := 30) (by decide) (by decide) (by decide)) rfl (cd := 0) rfl (by decide) ?_
        refine tv_nmI (fun x21 hx21 => ?_)
        have h := ts_lt h hx21
        refine tv_istore C (pc := 50) dX7_doOperation_50 (L' := [some (.inr (30, 0, 0)), some (.inl (.int p1)), some (.inl (.int p2)), some (.inl (.int q1)), some (.inl (.int x3)), some (.inl (.int x5)), some (.inl (.int x21))]) (by decide) rfl rfl ?_
        refine tv_iload C (pc := 52) dX7_doOperation_52 rfl ?_
        refine tv_if_eq C (pc := 54) 115 dX7_doOperation_54 (by decide) (fun hc => ?_) (fun hc => ?_)
        · have h := ts_ifp h hc
          refine tv_aload_n C (pc := 115) dX7_doOperation_115 rfl rfl ?_
          refine tv_getR C (pc := 116) dX7_doOperation_116 fl_X7_37 (ts_live (k := 30) (by decide) (by decide) (by decide)) rfl rfl (i2 := (36, 0, 0)) rfl ?_
          refine tv_iload_n C (pc := 119) dX7_doOperation_119 rfl rfl ?_
          refine tv_iconst C (pc := 120) dX7_doOperation_120 (v := (3 : Int32)) rfl ?_
          refine tv_iadd C (pc := 121) dX7_doOperation_121 ?_
          refine tv_iload C (pc := 122) dX7_doOperation_122 rfl ?_
          obtain ⟨hr22, h⟩ := ts_gd h
          refine tv_iastore C (pc := 124) dX7_doOperation_124 (ts_live (k := 36) (by decide) (by decide) (by decide)) rfl hr22 (j := ((q1 + (3 : Int32))).toNatClampNeg) rfl ?_
          refine tv_nu (fun u23 hu23 => ?_)
          have h := ts_lt h hu23
          refine tv_iconst C (pc := 125) dX7_doOperation_125 (v := (1 : Int32)) rfl ?_
          cases h
          exact tv_zret C (pc := 126) (v := (1 : Int32)) rfl ts_nz1 dX7_doOperation_126 ⟨Nat.le_of_ble_eq_true rfl, Nat.le_of_ble_eq_true rfl⟩
        · have h := ts_ifn h hc
          refine tv_aload_n C (pc := 57) dX7_doOperation_57 rfl rfl ?_
          refine tv_iload C (pc := 58) dX7_doOperation_58 rfl ?_
          refine tv_iconst C (pc := 60) dX7_doOperation_60 (v := (1 : Int32)) rfl ?_
          refine tv_icmp_ne C (pc := 61) 75 dX7_doOperation_61 (by decide) (fun hc => ?_) (fun hc => ?_)
          · have h := ts_ifn h hc
            refine tv_iload C (pc := 75) dX7_doOperation_75 rfl ?_
            refine tv_aload_n C (pc := 77) dX7_doOperation_77 rfl rfl ?_
            refine tv_getR C (pc := 78) dX7_doOperation_78 fl_X7_37 (ts_live (k := 30) (by decide) (by decide) (by decide)) rfl rfl (i2 := (36, 0, 0)) rfl ?_
            refine tv_iload_n C (pc := 81) dX7_doOperation_81 rfl rfl ?_
            refine tv_iconst C (pc := 82) dX7_doOperation_82 (v := (2 : Int32)) rfl ?_
            refine tv_iadd C (pc := 83) dX7_doOperation_83 ?_
            obtain ⟨hr24, h⟩ := ts_gd h
            refine tv_iaload C (pc := 84) dX7_doOperation_84 (ts_live (k := 36) (by decide) (by decide) (by decide)) rfl hr24 (j := ((q1 + (2 : Int32))).toNatClampNeg) rfl ?_
            refine tv_iadd C (pc := 85) dX7_doOperation_85 ?_
            refine tv_putI C (pc := 86) dX7_doOperation_86 fp_X7_165 (ts_live (k := 30) (by decide) (by decide) (by decide)) rfl (cd := 0) rfl (by decide) rfl rfl ?_
            refine tv_nu (fun u25 hu25 => ?_)
            have h := ts_lt h hu25
            refine tv_aload_n C (pc := 89) dX7_doOperation_89 rfl rfl ?_
            refine tv_aload_n C (pc := 90) dX7_doOperation_90 rfl rfl ?_
            refine tv_iload_n C (pc := 91) dX7_doOperation_91 rfl rfl ?_
            refine tv_iload C (pc := 92) dX7_doOperation_92 rfl ?_
            refine tv_aload_n C (pc := 94) dX7_doOperation_94 rfl rfl ?_
            refine tv_getI C (pc := 95) dX7_doOperation_95 fl_X7_165 (ts_live (k := 30) (by decide) (by decide) (by decide)) rfl (cd := 0) rfl (by decide) ?_
            obtain ⟨q26, hq26, h⟩ := ts_bd h
            refine tv_callV C (pc := 98) dX7_doOperation_98 (ci := 7) (q := (RX7, TX7, 37)) rfl yl_X7_168 (m_X7_doWrite (D := D) (dT := dT) (sz := sz) (ad := ad) hl p1 x5 (ts_gI u25 (30, 0, 0) 17) u25 q26 hq26) (ts_live (k := 30) (by decide) (by decide) (by decide)) rfl (Nat.le_trans (Nat.le_of_ble_eq_true rfl) hdd) (As := [.inl (.int p1), .inl (.int x5), .inl (.int (ts_gI u25 (30, 0, 0) 17))]) rfl ⟨Nat.le_of_ble_eq_true rfl, Nat.le_of_ble_eq_true rfl⟩ (fun _ => Nat.le_of_ble_eq_true rfl) rfl ?_
            refine tv_putI C (pc := 101) dX7_doOperation_101 fp_X7_171 (ts_live (k := 30) (by decide) (by decide) (by decide)) rfl (cd := 0) rfl (by decide) rfl rfl ?_
            refine tv_nu (fun u27 hu27 => ?_)
            have h := ts_lt h hu27
            refine tv_aload_n C (pc := 104) dX7_doOperation_104 rfl rfl ?_
            refine tv_getI C (pc := 105) dX7_doOperation_105 fl_X7_171 (ts_live (k := 30) (by decide) (by decide) (by decide)) rfl (cd := 0) rfl (by decide) ?_
            refine tv_ldc C (pc := 108) dX7_doOperation_108 kc_X7_158 ?_
            refine tv_icmp_ne C (pc := 110) 115 dX7_doOperation_110 (by decide) (fun hc => ?_) (fun hc => ?_)
            · have h := ts_ifn h hc
              refine tv_aload_n C (pc := 115) dX7_doOperation_115 rfl rfl ?_
              refine tv_getR C (pc := 116) dX7_doOperation_116 fl_X7_37 (ts_live (k := 30) (by decide) (by decide) (by decide)) rfl rfl (i2 := (36, 0, 0)) rfl ?_
              refine tv_iload_n C (pc := 119) dX7_doOperation_119 rfl rfl ?_
              refine tv_iconst C (pc := 120) dX7_doOperation_120 (v := (3 : Int32)) rfl ?_
              refine tv_iadd C (pc := 121) dX7_doOperation_121 ?_
              refine tv_iload C (pc := 122) dX7_doOperation_122 rfl ?_
              obtain ⟨hr28, h⟩ := ts_gd h
              refine tv_iastore C (pc := 124) dX7_doOperation_124 (ts_live (k := 36) (by decide) (by decide) (by decide)) rfl hr28 (j := ((q1 + (3 : Int32))).toNatClampNeg) rfl ?_
              refine tv_nu (fun u29 hu29 => ?_)
              have h := ts_lt h hu29
              refine tv_iconst C (pc := 125) dX7_doOperation_125 (v := (1 : Int32)) rfl ?_
              cases h
              exact tv_zret C (pc := 126) (v := (1 : Int32)) rfl ts_nz1 dX7_doOperation_126 ⟨Nat.le_of_ble_eq_true rfl, Nat.le_of_ble_eq_true rfl⟩
            · have h := ts_ifp h hc
              refine tv_iconst C (pc := 113) dX7_doOperation_113 (v := (0 : Int32)) rfl ?_
              cases h
              exact tv_zret C (pc := 114) (v := (0 : Int32)) rfl ts_nz0 dX7_doOperation_114 ⟨Nat.le_of_ble_eq_true rfl, Nat.le_of_ble_eq_true rfl⟩
          · have h := ts_ifp h hc
            refine tv_aload_n C (pc := 64) dX7_doOperation_64 rfl rfl ?_
            refine tv_getR C (pc := 65) dX7_doOperation_65 fl_X7_37 (ts_live (k := 30) (by decide) (by decide) (by decide)) rfl rfl (i2 := (36, 0, 0)) rfl ?_
            refine tv_iload_n C (pc := 68) dX7_doOperation_68 rfl rfl ?_
            refine tv_iconst C (pc := 69) dX7_doOperation_69 (v := (2 : Int32)) rfl ?_
            refine tv_iadd C (pc := 70) dX7_doOperation_70 ?_
            obtain ⟨hr30, h⟩ := ts_gd h
            refine tv_iaload C (pc := 71) dX7_doOperation_71 (ts_live (k := 36) (by decide) (by decide) (by decide)) rfl hr30 (j := ((q1 + (2 : Int32))).toNatClampNeg) rfl ?_
            refine tv_goto C (pc := 72) 86 dX7_doOperation_72 (by decide) ?_
            refine tv_putI C (pc := 86) dX7_doOperation_86 fp_X7_165 (ts_live (k := 30) (by decide) (by decide) (by decide)) rfl (cd := 0) rfl (by decide) rfl rfl ?_
            refine tv_nu (fun u31 hu31 => ?_)
            have h := ts_lt h hu31
            refine tv_aload_n C (pc := 89) dX7_doOperation_89 rfl rfl ?_
            refine tv_aload_n C (pc := 90) dX7_doOperation_90 rfl rfl ?_
            refine tv_iload_n C (pc := 91) dX7_doOperation_91 rfl rfl ?_
            refine tv_iload C (pc := 92) dX7_doOperation_92 rfl ?_
            refine tv_aload_n C (pc := 94) dX7_doOperation_94 rfl rfl ?_
            refine tv_getI C (pc := 95) dX7_doOperation_95 fl_X7_165 (ts_live (k := 30) (by decide) (by decide) (by decide)) rfl (cd := 0) rfl (by decide) ?_
            obtain ⟨q32, hq32, h⟩ := ts_bd h
            refine tv_callV C (pc := 98) dX7_doOperation_98 (ci := 7) (q := (RX7, TX7, 37)) rfl yl_X7_168 (m_X7_doWrite (D := D) (dT := dT) (sz := sz) (ad := ad) hl p1 x5 (ts_gI u31 (30, 0, 0) 17) u31 q32 hq32) (ts_live (k := 30) (by decide) (by decide) (by decide)) rfl (Nat.le_trans (Nat.le_of_ble_eq_true rfl) hdd) (As := [.inl (.int p1), .inl (.int x5), .inl (.int (ts_gI u31 (30, 0, 0) 17))]) rfl ⟨Nat.le_of_ble_eq_true rfl, Nat.le_of_ble_eq_true rfl⟩ (fun _ => Nat.le_of_ble_eq_true rfl) rfl ?_
            refine tv_putI C (pc := 101) dX7_doOperation_101 fp_X7_171 (ts_live (k := 30) (by decide) (by decide) (by decide)) rfl (cd := 0) rfl (by decide) rfl rfl ?_
            refine tv_nu (fun u33 hu33 => ?_)
            have h := ts_lt h hu33
            refine tv_aload_n C (pc := 104) dX7_doOperation_104 rfl rfl ?_
            refine tv_getI C (pc := 105) dX7_doOperation_105 fl_X7_171 (ts_live (k := 30) (by decide) (by decide) (by decide)) rfl (cd := 0) rfl (by decide) ?_
            refine tv_ldc C (pc := 108) dX7_doOperation_108 kc_X7_158 ?_
            refine tv_icmp_ne C (pc := 110) 115 dX7_doOperation_110 (by decide) (fun hc => ?_) (fun hc => ?_)
            · have h := ts_ifn h hc
              refine tv_aload_n C (pc := 115) dX7_doOperation_115 rfl rfl ?_
              refine tv_getR C (pc := 116) dX7_doOperation_116 fl_X7_37 (ts_live (k := 30) (by decide) (by decide) (by decide)) rfl rfl (i2 := (36, 0, 0)) rfl ?_
              refine tv_iload_n C (pc := 119) dX7_doOperation_119 rfl rfl ?_
              refine tv_iconst C (pc := 120) dX7_doOperation_120 (v := (3 : Int32)) rfl ?_
              refine tv_iadd C (pc := 121) dX7_doOperation_121 ?_
              refine tv_iload C (pc := 122) dX7_doOperation_122 rfl ?_
              obtain ⟨hr34, h⟩ := ts_gd h
              refine tv_iastore C (pc := 124) dX7_doOperation_124 (ts_live (k := 36) (by decide) (by decide) (by decide)) rfl hr34 (j := ((q1 + (3 : Int32))).toNatClampNeg) rfl ?_
              refine tv_nu (fun u35 hu35 => ?_)
              have h := ts_lt h hu35
              refine tv_iconst C (pc := 125) dX7_doOperation_125 (v := (1 : Int32)) rfl ?_
              cases h
              exact tv_zret C (pc := 126) (v := (1 : Int32)) rfl ts_nz1 dX7_doOperation_126 ⟨Nat.le_of_ble_eq_true rfl, Nat.le_of_ble_eq_true rfl⟩
            · have h := ts_ifp h hc
              refine tv_iconst C (pc := 113) dX7_doOperation_113 (v := (0 : Int32)) rfl ?_
              cases h
              exact tv_zret C (pc := 114) (v := (0 : Int32)) rfl ts_nz0 dX7_doOperation_114 ⟨Nat.le_of_ble_eq_true rfl, Nat.le_of_ble_eq_true rfl⟩
      · have h := ts_ifp h hc
        refine tv_iconst C (pc := 44) dX7_doOperation_44 (v := (0 : Int32)) rfl ?_
        cases h
        exact tv_zret C (pc := 45) (v := (0 : Int32)) rfl ts_nz0 dX7_doOperation_45 ⟨Nat.le_of_ble_eq_true rfl, Nat.le_of_ble_eq_true rfl⟩
set_option maxRecDepth 100000 in
set_option maxHeartbeats 4000000 in
theorem m_X7_ask {l : Launch} {D : va_G} {dT : Nat → ClassId} {sz : Nat} {ad : ts_I → Nat} (hl : l.stackTraces = false) (p1 : Int32) (p2 : Int32) (p3 : Int32) (p4 : Int32) (u : ts_Mem) (r : (Int32 × ts_Mem)) (h : f_X7_ask p1 p2 p3 p4 u = some r) : ts_M l D dT sz yX7_ask wX7_ask 23 0 0 ad ts_lv ts_R0 [.inr (30, 0, 0), .inl (.int p1), .inl (.int p2), .inl (.int p3), .inl (.int p4)] u (.inl (some (.int r.1))) r.2 := by
    unfold f_X7_ask at h
    refine ts_enter hl (by decide) rfl rfl (Nat.le_of_ble_eq_true rfl) ?_
    intro p e s m args below meth c C hX hnm
    have C : ts_CX D dT sz p l (ts_rm 23 0 0) s m args meth c RX7 cX7_ask 6 (some .boolean) 23 := C
    have hdd : 23 ≤ 23 := Nat.le_refl _
    refine tv_aload_n C (pc := 0) dX7_ask_0 rfl rfl ?_
    refine tv_iload_n C (pc := 1) dX7_ask_1 rfl rfl ?_
    refine tv_aload_n C (pc := 2) dX7_ask_2 rfl rfl ?_
    refine tv_getR C (pc := 3) dX7_ask_3 fl_X7_34 (ts_live (k := 30) (by decide) (by decide) (by decide)) rfl rfl (i2 := (35, 0, 0)) rfl ?_
    refine tv_iload_n C (pc := 6) dX7_ask_6 rfl rfl ?_
    obtain ⟨hr1, h⟩ := ts_gd h
    refine tv_iaload C (pc := 7) dX7_ask_7 (ts_live (k := 35) (by decide) (by decide) (by decide)) rfl hr1 (j := p1.toNatClampNeg) rfl ?_
    obtain ⟨q2, hq2, h⟩ := ts_bd h
    refine tv_callV C (pc := 8) dX7_ask_8 (ci := 7) (q := (RX7, TX7, 37)) rfl yl_X7_159 (m_X7_listPlace (D := D) (dT := dT) (sz := sz) (ad := ad) hl p1 (ts_gI u (35, 0, 0) p1.toNatClampNeg) u q2 hq2) (ts_live (k := 30) (by decide) (by decide) (by decide)) rfl (Nat.le_trans (Nat.le_of_ble_eq_true rfl) hdd) (As := [.inl (.int p1), .inl (.int (ts_gI u (35, 0, 0) p1.toNatClampNeg))]) rfl ⟨Nat.le_of_ble_eq_true rfl, Nat.le_of_ble_eq_true rfl⟩ (fun _ => Nat.le_of_ble_eq_true rfl) rfl ?_
    refine tv_istore C (pc := 11) dX7_ask_11 (L' := [some (.inr (30, 0, 0)), some (.inl (.int p1)), some (.inl (.int p2)), some (.inl (.int p3)), some (.inl (.int p4)), some (.inl (.int q2))]) (by decide) rfl rfl ?_
    refine tv_aload_n C (pc := 13) dX7_ask_13 rfl rfl ?_
    refine tv_getR C (pc := 14) dX7_ask_14 fl_X7_37 (ts_live (k := 30) (by decide) (by decide) (by decide)) rfl rfl (i2 := (36, 0, 0)) rfl ?_
    refine tv_iload C (pc := 17) dX7_ask_17 rfl ?_
    refine tv_iload_n C (pc := 19) dX7_ask_19 rfl rfl ?_
    obtain ⟨hr3, h⟩ := ts_gd h
    refine tv_iastore C (pc := 20) dX7_ask_20 (ts_live (k := 36) (by decide) (by decide) (by decide)) rfl hr3 (j := q2.toNatClampNeg) rfl ?_
    refine tv_nu (fun u4 hu4 => ?_)
    have h := ts_lt h hu4
    refine tv_aload_n C (pc := 21) dX7_ask_21 rfl rfl ?_
    refine tv_getR C (pc := 22) dX7_ask_22 fl_X7_37 (ts_live (k := 30) (by decide) (by decide) (by decide)) rfl rfl (i2 := (36, 0, 0)) rfl ?_
    refine tv_iload C (pc := 25) dX7_ask_25 rfl ?_
    refine tv_iconst C (pc := 27) dX7_ask_27 (v := (1 : Int32)) rfl ?_
    refine tv_iadd C (pc := 28) dX7_ask_28 ?_
    refine tv_iload_n C (pc := 29) dX7_ask_29 rfl rfl ?_
    obtain ⟨hr5, h⟩ := ts_gd h
    refine tv_iastore C (pc := 30) dX7_ask_30 (ts_live (k := 36) (by decide) (by decide) (by decide)) rfl hr5 (j := ((q2 + (1 : Int32))).toNatClampNeg) rfl ?_
    refine tv_nu (fun u6 hu6 => ?_)
    have h := ts_lt h hu6
    refine tv_aload_n C (pc := 31) dX7_ask_31 rfl rfl ?_
    refine tv_getR C (pc := 32) dX7_ask_32 fl_X7_37 (ts_live (k := 30) (by decide) (by decide) (by decide)) rfl rfl (i2 := (36, 0, 0)) rfl ?_
    refine tv_iload C (pc := 35) dX7_ask_35 rfl ?_
    refine tv_iconst C (pc := 37) dX7_ask_37 (v := (2 : Int32)) rfl ?_
    refine tv_iadd C (pc := 38) dX7_ask_38 ?_
    refine tv_iload C (pc := 39) dX7_ask_39 rfl ?_
    obtain ⟨hr7, h⟩ := ts_gd h
    refine tv_iastore C (pc := 41) dX7_ask_41 (ts_live (k := 36) (by decide) (by decide) (by decide)) rfl hr7 (j := ((q2 + (2 : Int32))).toNatClampNeg) rfl ?_
    refine tv_nu (fun u8 hu8 => ?_)
    have h := ts_lt h hu8
    refine tv_aload_n C (pc := 42) dX7_ask_42 rfl rfl ?_
    refine tv_getR C (pc := 43) dX7_ask_43 fl_X7_37 (ts_live (k := 30) (by decide) (by decide) (by decide)) rfl rfl (i2 := (36, 0, 0)) rfl ?_
    refine tv_iload C (pc := 46) dX7_ask_46 rfl ?_
    refine tv_iconst C (pc := 48) dX7_ask_48 (v := (3 : Int32)) rfl ?_
    refine tv_iadd C (pc := 49) dX7_ask_49 ?_
    refine tv_iconst C (pc := 50) dX7_ask_50 (v := (0 : Int32)) rfl ?_
    obtain ⟨hr9, h⟩ := ts_gd h
    refine tv_iastore C (pc := 51) dX7_ask_51 (ts_live (k := 36) (by decide) (by decide) (by decide)) rfl hr9 (j := ((q2 + (3 : Int32))).toNatClampNeg) rfl ?_
    refine tv_nu (fun u10 hu10 => ?_)
    have h := ts_lt h hu10
    refine tv_aload_n C (pc := 52) dX7_ask_52 rfl rfl ?_
    refine tv_getR C (pc := 53) dX7_ask_53 fl_X7_34 (ts_live (k := 30) (by decide) (by decide) (by decide)) rfl rfl (i2 := (35, 0, 0)) rfl ?_
    refine tv_iload_n C (pc := 56) dX7_ask_56 rfl rfl ?_
    refine tv_dup2 C (pc := 57) dX7_ask_57 (fun _ => ⟨rfl, rfl⟩) ?_
    obtain ⟨hr11, h⟩ := ts_gd h
    refine tv_iaload C (pc := 58) dX7_ask_58 (ts_live (k := 35) (by decide) (by decide) (by decide)) rfl hr11 (j := p1.toNatClampNeg) rfl ?_
    refine tv_iconst C (pc := 59) dX7_ask_59 (v := (1 : Int32)) rfl ?_
    refine tv_iadd C (pc := 60) dX7_ask_60 ?_
    obtain ⟨hr12, h⟩ := ts_gd h
    refine tv_iastore C (pc := 61) dX7_ask_61 (ts_live (k := 35) (by decide) (by decide) (by decide)) rfl hr12 (j := p1.toNatClampNeg) rfl ?_
    refine tv_nu (fun u13 hu13 => ?_)
    have h := ts_lt h hu13
    refine tv_aload_n C (pc := 62) dX7_ask_62 rfl rfl ?_
    refine tv_iload_n C (pc := 63) dX7_ask_63 rfl rfl ?_
    refine tv_aload_n C (pc := 64) dX7_ask_64 rfl rfl ?_
    refine tv_getR C (pc := 65) dX7_ask_65 fl_X7_34 (ts_live (k := 30) (by decide) (by decide) (by decide)) rfl rfl (i2 := (35, 0, 0)) rfl ?_
    refine tv_iload_n C (pc := 68) dX7_ask_68 rfl rfl ?_
    obtain ⟨hr14, h⟩ := ts_gd h
    refine tv_iaload C (pc := 69) dX7_ask_69 (ts_live (k := 35) (by decide) (by decide) (by decide)) rfl hr14 (j := p1.toNatClampNeg) rfl ?_
    refine tv_iconst C (pc := 70) dX7_ask_70 (v := (1 : Int32)) rfl ?_
    refine tv_isub C (pc := 71) dX7_ask_71 ?_
    obtain ⟨q15, hq15, h⟩ := ts_bd h
    refine tv_callV C (pc := 72) dX7_ask_72 (ci := 7) (q := (RX7, TX7, 37)) rfl yl_X7_174 (m_X7_doOperation (D := D) (dT := dT) (sz := sz) (ad := ad) hl p1 ((ts_gI u13 (35, 0, 0) p1.toNatClampNeg) - (1 : Int32)) u13 q15 hq15) (ts_live (k := 30) (by decide) (by decide) (by decide)) rfl (Nat.le_trans (Nat.le_of_ble_eq_true rfl) hdd) (As := [.inl (.int p1), .inl (.int ((ts_gI u13 (35, 0, 0) p1.toNatClampNeg) - (1 : Int32)))]) rfl ⟨Nat.le_of_ble_eq_true rfl, Nat.le_of_ble_eq_true rfl⟩ (fun _ => Nat.le_of_ble_eq_true rfl) rfl ?_
    obtain ⟨hgz, h⟩ := ts_gd h
    cases h
    exact tv_zret C (pc := 75) rfl (ts_nz hgz).1 dX7_ask_75 ⟨Nat.le_of_ble_eq_true rfl, Nat.le_of_ble_eq_true rfl⟩
set_option maxRecDepth 100000 in
set_option maxHeartbeats 4000000 in
theorem m_X7_operationProblem {l : Launch} {D : va_G} {dT : Nat → ClassId} {sz : Nat} {ad : ts_I → Nat} (hl : l.stackTraces = false) (p1 : Int32) (p2 : Int32) (u : ts_Mem) (r : Int32) (h : f_X7_operationProblem p1 p2 u = some r) : ts_M l D dT sz yX7_operationProblem wX7_operationProblem 2 0 0 ad ts_lv ts_R0 [.inr (30, 0, 0), .inl (.int p1), .inl (.int p2)] u (.inl (some (.int r))) u := by
    unfold f_X7_operationProblem at h
    refine ts_enter hl (by decide) rfl rfl (Nat.le_of_ble_eq_true rfl) ?_
    intro p e s m args below meth c C hX hnm
    have C : ts_CX D dT sz p l (ts_rm 2 0 0) s m args meth c RX7 cX7_operationProblem 3 (some .int) 2 := C
    have hdd : 2 ≤ 2 := Nat.le_refl _
    refine tv_aload_n C (pc := 0) dX7_operationProblem_0 rfl rfl ?_
    refine tv_iload_n C (pc := 1) dX7_operationProblem_1 rfl rfl ?_
    obtain ⟨q1, hq1, h⟩ := ts_bd h
    refine tv_callV C (pc := 2) dX7_operationProblem_2 (ci := 7) (q := (RX7, TX7, 37)) rfl yl_X7_128 (m_X7_isTransaction (D := D) (dT := dT) (sz := sz) (ad := ad) hl p1 u q1 hq1) (ts_live (k := 30) (by decide) (by decide) (by decide)) rfl (Nat.le_trans (Nat.le_of_ble_eq_true rfl) hdd) (As := [.inl (.int p1)]) rfl ⟨Nat.le_of_ble_eq_true rfl, Nat.le_of_ble_eq_true rfl⟩ (fun _ => Nat.le_of_ble_eq_true rfl) rfl ?_
    refine tv_if_eq C (pc := 5) 15 dX7_operationProblem_5 (by decide) (fun hc => ?_) (fun hc => ?_)
    · have h := ts_ifp h hc
      refine tv_iconst C (pc := 15) dX7_operationProblem_15 (v := (1 : Int32)) rfl ?_
      refine tv_goto C (pc := 16) 48 dX7_operationProblem_16 (by decide) ?_
      cases h
      exact tv_iret C (pc := 48) rfl dX7_operationProblem_48 ⟨Nat.le_of_ble_eq_true rfl, Nat.le_of_ble_eq_true rfl⟩
    · have h := ts_ifn h hc
      refine tv_iload_n C (pc := 8) dX7_operationProblem_8 rfl rfl ?_
      obtain ⟨q2, hq2, h⟩ := ts_bd h
      refine tv_callS C (pc := 9) dX7_operationProblem_9 yl_X7_177 (m_X7_isItem (D := D) (dT := dT) (sz := sz) (ad := ad) hl p2 u q2 hq2) (Nat.le_trans (Nat.le_of_ble_eq_true rfl) hdd) (As := [.inl (.int p2)]) rfl ⟨Nat.le_of_ble_eq_true rfl, Nat.le_of_ble_eq_true rfl⟩ (fun _ => Nat.le_of_ble_eq_true rfl) rfl ?_
      refine tv_if_ne C (pc := 12) 19 dX7_operationProblem_12 (by decide) (fun hc => ?_) (fun hc => ?_)
      · have h := ts_ifn h hc
        refine tv_aload_n C (pc := 19) dX7_operationProblem_19 rfl rfl ?_
        refine tv_getR C (pc := 20) dX7_operationProblem_20 fl_X7_21 (ts_live (k := 30) (by decide) (by decide) (by decide)) rfl rfl (i2 := (31, 0, 0)) rfl ?_
        refine tv_iload_n C (pc := 23) dX7_operationProblem_23 rfl rfl ?_
        obtain ⟨hr3, h⟩ := ts_gd h
        refine tv_iaload C (pc := 24) dX7_operationProblem_24 (ts_live (k := 31) (by decide) (by decide) (by decide)) rfl hr3 (j := p1.toNatClampNeg) rfl ?_
        refine tv_if_eq C (pc := 25) 32 dX7_operationProblem_25 (by decide) (fun hc => ?_) (fun hc => ?_)
        · have h := ts_ifp h hc
          refine tv_aload_n C (pc := 32) dX7_operationProblem_32 rfl rfl ?_
          refine tv_getR C (pc := 33) dX7_operationProblem_33 fl_X7_34 (ts_live (k := 30) (by decide) (by decide) (by decide)) rfl rfl (i2 := (35, 0, 0)) rfl ?_
          refine tv_iload_n C (pc := 36) dX7_operationProblem_36 rfl rfl ?_
          obtain ⟨hr4, h⟩ := ts_gd h
          refine tv_iaload C (pc := 37) dX7_operationProblem_37 (ts_live (k := 35) (by decide) (by decide) (by decide)) rfl hr4 (j := p1.toNatClampNeg) rfl ?_
          refine tv_bipush C (pc := 38) dX7_operationProblem_38 (v := (20 : Int32)) rfl ?_
          refine tv_icmp_ne C (pc := 40) 47 dX7_operationProblem_40 (by decide) (fun hc => ?_) (fun hc => ?_)
          · have h := ts_ifn h hc
            refine tv_iconst C (pc := 47) dX7_operationProblem_47 (v := (0 : Int32)) rfl ?_
            cases h
            exact tv_iret C (pc := 48) rfl dX7_operationProblem_48 ⟨Nat.le_of_ble_eq_true rfl, Nat.le_of_ble_eq_true rfl⟩
          · have h := ts_ifp h hc
            refine tv_iconst C (pc := 43) dX7_operationProblem_43 (v := (3 : Int32)) rfl ?_
            refine tv_goto C (pc := 44) 48 dX7_operationProblem_44 (by decide) ?_
            cases h
            exact tv_iret C (pc := 48) rfl dX7_operationProblem_48 ⟨Nat.le_of_ble_eq_true rfl, Nat.le_of_ble_eq_true rfl⟩
        · have h := ts_ifn h hc
          refine tv_iconst C (pc := 28) dX7_operationProblem_28 (v := (2 : Int32)) rfl ?_
          refine tv_goto C (pc := 29) 48 dX7_operationProblem_29 (by decide) ?_
          cases h
          exact tv_iret C (pc := 48) rfl dX7_operationProblem_48 ⟨Nat.le_of_ble_eq_true rfl, Nat.le_of_ble_eq_true rfl⟩
      · have h := ts_ifp h hc
        refine tv_iconst C (pc := 15) dX7_operationProblem_15 (v := (1 : Int32)) rfl ?_
        refine tv_goto C (pc := 16) 48 dX7_operationProblem_16 (by decide) ?_
        cases h
        exact tv_iret C (pc := 48) rfl dX7_operationProblem_48 ⟨Nat.le_of_ble_eq_true rfl, Nat.le_of_ble_eq_true rfl⟩
set_option maxRecDepth 100000 in
set_option maxHeartbeats 4000000 in
theorem m_X7_read {l : Launch} {D : va_G} {dT : Nat → ClassId} {sz : Nat} {ad : ts_I → Nat} (hl : l.stackTraces = false) (p1 : Int32) (p2 : Int32) (u : ts_Mem) (r : (Int32 × ts_Mem)) (h : f_X7_read p1 p2 u = some r) : ts_M l D dT sz yX7_read wX7_read 24 0 0 ad ts_lv ts_R0 [.inr (30, 0, 0), .inl (.int p1), .inl (.int p2)] u (.inl (some (.int r.1))) r.2 := by
    unfold f_X7_read at h
    refine ts_enter hl (by decide) rfl rfl (Nat.le_of_ble_eq_true rfl) ?_
    intro p e s m args below meth c C hX hnm
    have C : ts_CX D dT sz p l (ts_rm 24 0 0) s m args meth c RX7 cX7_read 3 (some .int) 24 := C
    have hdd : 24 ≤ 24 := Nat.le_refl _
    refine tv_aload_n C (pc := 0) dX7_read_0 rfl rfl ?_
    refine tv_aload_n C (pc := 1) dX7_read_1 rfl rfl ?_
    refine tv_iload_n C (pc := 2) dX7_read_2 rfl rfl ?_
    refine tv_iload_n C (pc := 3) dX7_read_3 rfl rfl ?_
    obtain ⟨q1, hq1, h⟩ := ts_bd h
    refine tv_callV C (pc := 4) dX7_read_4 (ci := 7) (q := (RX7, TX7, 37)) rfl yl_X7_180 (m_X7_operationProblem (D := D) (dT := dT) (sz := sz) (ad := ad) hl p1 p2 u q1 hq1) (ts_live (k := 30) (by decide) (by decide) (by decide)) rfl (Nat.le_trans (Nat.le_of_ble_eq_true rfl) hdd) (As := [.inl (.int p1), .inl (.int p2)]) rfl ⟨Nat.le_of_ble_eq_true rfl, Nat.le_of_ble_eq_true rfl⟩ (fun _ => Nat.le_of_ble_eq_true rfl) rfl ?_
    refine tv_putI C (pc := 7) dX7_read_7 fp_X7_3 (ts_live (k := 30) (by decide) (by decide) (by decide)) rfl (cd := 0) rfl (by decide) rfl rfl ?_
    refine tv_nu (fun u2 hu2 => ?_)
    have h := ts_lt h hu2
    refine tv_aload_n C (pc := 10) dX7_read_10 rfl rfl ?_
    refine tv_getI C (pc := 11) dX7_read_11 fl_X7_3 (ts_live (k := 30) (by decide) (by decide) (by decide)) rfl (cd := 0) rfl (by decide) ?_
    refine tv_if_eq C (pc := 14) 21 dX7_read_14 (by decide) (fun hc => ?_) (fun hc => ?_)
    · have h := ts_ifp h hc
      refine tv_aload_n C (pc := 21) dX7_read_21 rfl rfl ?_
      refine tv_iload_n C (pc := 22) dX7_read_22 rfl rfl ?_
      refine tv_iconst C (pc := 23) dX7_read_23 (v := (0 : Int32)) rfl ?_
      refine tv_iload_n C (pc := 24) dX7_read_24 rfl rfl ?_
      refine tv_iconst C (pc := 25) dX7_read_25 (v := (0 : Int32)) rfl ?_
      obtain ⟨q3, hq3, h⟩ := ts_bd h
      refine tv_callV C (pc := 26) dX7_read_26 (ci := 7) (q := (RX7, TX7, 37)) rfl yl_X7_183 (m_X7_ask (D := D) (dT := dT) (sz := sz) (ad := ad) hl p1 (0 : Int32) p2 (0 : Int32) u2 q3 hq3) (ts_live (k := 30) (by decide) (by decide) (by decide)) rfl (Nat.le_trans (Nat.le_of_ble_eq_true rfl) hdd) (As := [.inl (.int p1), .inl (.int (0 : Int32)), .inl (.int p2), .inl (.int (0 : Int32))]) rfl ⟨Nat.le_of_ble_eq_true rfl, Nat.le_of_ble_eq_true rfl⟩ (fun _ => Nat.le_of_ble_eq_true rfl) rfl ?_
      refine tv_if_eq C (pc := 29) 39 dX7_read_29 (by decide) (fun hc => ?_) (fun hc => ?_)
      · have h := ts_ifp h hc
        refine tv_ldc C (pc := 39) dX7_read_39 kc_X7_158 ?_
        cases h
        exact tv_iret C (pc := 41) rfl dX7_read_41 ⟨Nat.le_of_ble_eq_true rfl, Nat.le_of_ble_eq_true rfl⟩
      · have h := ts_ifn h hc
        refine tv_aload_n C (pc := 32) dX7_read_32 rfl rfl ?_
        refine tv_getI C (pc := 33) dX7_read_33 fl_X7_151 (ts_live (k := 30) (by decide) (by decide) (by decide)) rfl (cd := 0) rfl (by decide) ?_
        refine tv_goto C (pc := 36) 41 dX7_read_36 (by decide) ?_
        cases h
        exact tv_iret C (pc := 41) rfl dX7_read_41 ⟨Nat.le_of_ble_eq_true rfl, Nat.le_of_ble_eq_true rfl⟩
    · have h := ts_ifn h hc
      refine tv_iconst C (pc := 17) dX7_read_17 (v := (0 : Int32)) rfl ?_
      refine tv_goto C (pc := 18) 41 dX7_read_18 (by decide) ?_
      cases h
      exact tv_iret C (pc := 41) rfl dX7_read_41 ⟨Nat.le_of_ble_eq_true rfl, Nat.le_of_ble_eq_true rfl⟩
set_option maxRecDepth 100000 in
set_option maxHeartbeats 4000000 in
theorem m_X7_write {l : Launch} {D : va_G} {dT : Nat → ClassId} {sz : Nat} {ad : ts_I → Nat} (hl : l.stackTraces = false) (p1 : Int32) (p2 : Int32) (p3 : Int32) (u : ts_Mem) (r : (Int32 × ts_Mem)) (h : f_X7_write p1 p2 p3 u = some r) : ts_M l D dT sz yX7_write wX7_write 24 0 0 ad ts_lv ts_R0 [.inr (30, 0, 0), .inl (.int p1), .inl (.int p2), .inl (.int p3)] u (.inl (some (.int r.1))) r.2 := by
    unfold f_X7_write at h
    refine ts_enter hl (by decide) rfl rfl (Nat.le_of_ble_eq_true rfl) ?_
    intro p e s m args below meth c C hX hnm
    have C : ts_CX D dT sz p l (ts_rm 24 0 0) s m args meth c RX7 cX7_write 4 (some .int) 24 := C
    have hdd : 24 ≤ 24 := Nat.le_refl _
    refine tv_aload_n C (pc := 0) dX7_write_0 rfl rfl ?_
    refine tv_aload_n C (pc := 1) dX7_write_1 rfl rfl ?_
    refine tv_iload_n C (pc := 2) dX7_write_2 rfl rfl ?_
    refine tv_iload_n C (pc := 3) dX7_write_3 rfl rfl ?_
    obtain ⟨q1, hq1, h⟩ := ts_bd h
    refine tv_callV C (pc := 4) dX7_write_4 (ci := 7) (q := (RX7, TX7, 37)) rfl yl_X7_180 (m_X7_operationProblem (D := D) (dT := dT) (sz := sz) (ad := ad) hl p1 p2 u q1 hq1) (ts_live (k := 30) (by decide) (by decide) (by decide)) rfl (Nat.le_trans (Nat.le_of_ble_eq_true rfl) hdd) (As := [.inl (.int p1), .inl (.int p2)]) rfl ⟨Nat.le_of_ble_eq_true rfl, Nat.le_of_ble_eq_true rfl⟩ (fun _ => Nat.le_of_ble_eq_true rfl) rfl ?_
    refine tv_putI C (pc := 7) dX7_write_7 fp_X7_3 (ts_live (k := 30) (by decide) (by decide) (by decide)) rfl (cd := 0) rfl (by decide) rfl rfl ?_
    refine tv_nu (fun u2 hu2 => ?_)
    have h := ts_lt h hu2
    refine tv_aload_n C (pc := 10) dX7_write_10 rfl rfl ?_
    refine tv_getI C (pc := 11) dX7_write_11 fl_X7_3 (ts_live (k := 30) (by decide) (by decide) (by decide)) rfl (cd := 0) rfl (by decide) ?_
    refine tv_if_eq C (pc := 14) 21 dX7_write_14 (by decide) (fun hc => ?_) (fun hc => ?_)
    · have h := ts_ifp h hc
      refine tv_aload_n C (pc := 21) dX7_write_21 rfl rfl ?_
      refine tv_iload_n C (pc := 22) dX7_write_22 rfl rfl ?_
      refine tv_iconst C (pc := 23) dX7_write_23 (v := (1 : Int32)) rfl ?_
      refine tv_iload_n C (pc := 24) dX7_write_24 rfl rfl ?_
      refine tv_iload_n C (pc := 25) dX7_write_25 rfl rfl ?_
      obtain ⟨q3, hq3, h⟩ := ts_bd h
      refine tv_callV C (pc := 26) dX7_write_26 (ci := 7) (q := (RX7, TX7, 37)) rfl yl_X7_183 (m_X7_ask (D := D) (dT := dT) (sz := sz) (ad := ad) hl p1 (1 : Int32) p2 p3 u2 q3 hq3) (ts_live (k := 30) (by decide) (by decide) (by decide)) rfl (Nat.le_trans (Nat.le_of_ble_eq_true rfl) hdd) (As := [.inl (.int p1), .inl (.int (1 : Int32)), .inl (.int p2), .inl (.int p3)]) rfl ⟨Nat.le_of_ble_eq_true rfl, Nat.le_of_ble_eq_true rfl⟩ (fun _ => Nat.le_of_ble_eq_true rfl) rfl ?_
      refine tv_if_eq C (pc := 29) 39 dX7_write_29 (by decide) (fun hc => ?_) (fun hc => ?_)
      · have h := ts_ifp h hc
        refine tv_ldc C (pc := 39) dX7_write_39 kc_X7_158 ?_
        cases h
        exact tv_iret C (pc := 41) rfl dX7_write_41 ⟨Nat.le_of_ble_eq_true rfl, Nat.le_of_ble_eq_true rfl⟩
      · have h := ts_ifn h hc
        refine tv_aload_n C (pc := 32) dX7_write_32 rfl rfl ?_
        refine tv_getI C (pc := 33) dX7_write_33 fl_X7_171 (ts_live (k := 30) (by decide) (by decide) (by decide)) rfl (cd := 0) rfl (by decide) ?_
        refine tv_goto C (pc := 36) 41 dX7_write_36 (by decide) ?_
        cases h
        exact tv_iret C (pc := 41) rfl dX7_write_41 ⟨Nat.le_of_ble_eq_true rfl, Nat.le_of_ble_eq_true rfl⟩
    · have h := ts_ifn h hc
      refine tv_iconst C (pc := 17) dX7_write_17 (v := (0 : Int32)) rfl ?_
      refine tv_goto C (pc := 18) 41 dX7_write_18 (by decide) ?_
      cases h
      exact tv_iret C (pc := 41) rfl dX7_write_41 ⟨Nat.le_of_ble_eq_true rfl, Nat.le_of_ble_eq_true rfl⟩
set_option maxRecDepth 100000 in
set_option maxHeartbeats 4000000 in
theorem m_X7_add {l : Launch} {D : va_G} {dT : Nat → ClassId} {sz : Nat} {ad : ts_I → Nat} (hl : l.stackTraces = false) (p1 : Int32) (p2 : Int32) (p3 : Int32) (u : ts_Mem) (r : (Int32 × ts_Mem)) (h : f_X7_add p1 p2 p3 u = some r) : ts_M l D dT sz yX7_add wX7_add 24 0 0 ad ts_lv ts_R0 [.inr (30, 0, 0), .inl (.int p1), .inl (.int p2), .inl (.int p3)] u (.inl (some (.int r.1))) r.2 := by
    unfold f_X7_add at h
    refine ts_enter hl (by decide) rfl rfl (Nat.le_of_ble_eq_true rfl) ?_
    intro p e s m args below meth c C hX hnm
    have C : ts_CX D dT sz p l (ts_rm 24 0 0) s m args meth c RX7 cX7_add 4 (some .int) 24 := C
    have hdd : 24 ≤ 24 := Nat.le_refl _
    refine tv_aload_n C (pc := 0) dX7_add_0 rfl rfl ?_
    refine tv_aload_n C (pc := 1) dX7_add_1 rfl rfl ?_
    refine tv_iload_n C (pc := 2) dX7_add_2 rfl rfl ?_
    refine tv_iload_n C (pc := 3) dX7_add_3 rfl rfl ?_
    obtain ⟨q1, hq1, h⟩ := ts_bd h
    refine tv_callV C (pc := 4) dX7_add_4 (ci := 7) (q := (RX7, TX7, 37)) rfl yl_X7_180 (m_X7_operationProblem (D := D) (dT := dT) (sz := sz) (ad := ad) hl p1 p2 u q1 hq1) (ts_live (k := 30) (by decide) (by decide) (by decide)) rfl (Nat.le_trans (Nat.le_of_ble_eq_true rfl) hdd) (As := [.inl (.int p1), .inl (.int p2)]) rfl ⟨Nat.le_of_ble_eq_true rfl, Nat.le_of_ble_eq_true rfl⟩ (fun _ => Nat.le_of_ble_eq_true rfl) rfl ?_
    refine tv_putI C (pc := 7) dX7_add_7 fp_X7_3 (ts_live (k := 30) (by decide) (by decide) (by decide)) rfl (cd := 0) rfl (by decide) rfl rfl ?_
    refine tv_nu (fun u2 hu2 => ?_)
    have h := ts_lt h hu2
    refine tv_aload_n C (pc := 10) dX7_add_10 rfl rfl ?_
    refine tv_getI C (pc := 11) dX7_add_11 fl_X7_3 (ts_live (k := 30) (by decide) (by decide) (by decide)) rfl (cd := 0) rfl (by decide) ?_
    refine tv_if_eq C (pc := 14) 21 dX7_add_14 (by decide) (fun hc => ?_) (fun hc => ?_)
    · have h := ts_ifp h hc
      refine tv_aload_n C (pc := 21) dX7_add_21 rfl rfl ?_
      refine tv_iload_n C (pc := 22) dX7_add_22 rfl rfl ?_
      refine tv_iconst C (pc := 23) dX7_add_23 (v := (2 : Int32)) rfl ?_
      refine tv_iload_n C (pc := 24) dX7_add_24 rfl rfl ?_
      refine tv_iload_n C (pc := 25) dX7_add_25 rfl rfl ?_
      obtain ⟨q3, hq3, h⟩ := ts_bd h
      refine tv_callV C (pc := 26) dX7_add_26 (ci := 7) (q := (RX7, TX7, 37)) rfl yl_X7_183 (m_X7_ask (D := D) (dT := dT) (sz := sz) (ad := ad) hl p1 (2 : Int32) p2 p3 u2 q3 hq3) (ts_live (k := 30) (by decide) (by decide) (by decide)) rfl (Nat.le_trans (Nat.le_of_ble_eq_true rfl) hdd) (As := [.inl (.int p1), .inl (.int (2 : Int32)), .inl (.int p2), .inl (.int p3)]) rfl ⟨Nat.le_of_ble_eq_true rfl, Nat.le_of_ble_eq_true rfl⟩ (fun _ => Nat.le_of_ble_eq_true rfl) rfl ?_
      refine tv_if_eq C (pc := 29) 39 dX7_add_29 (by decide) (fun hc => ?_) (fun hc => ?_)
      · have h := ts_ifp h hc
        refine tv_ldc C (pc := 39) dX7_add_39 kc_X7_158 ?_
        cases h
        exact tv_iret C (pc := 41) rfl dX7_add_41 ⟨Nat.le_of_ble_eq_true rfl, Nat.le_of_ble_eq_true rfl⟩
      · have h := ts_ifn h hc
        refine tv_aload_n C (pc := 32) dX7_add_32 rfl rfl ?_
        refine tv_getI C (pc := 33) dX7_add_33 fl_X7_165 (ts_live (k := 30) (by decide) (by decide) (by decide)) rfl (cd := 0) rfl (by decide) ?_
        refine tv_goto C (pc := 36) 41 dX7_add_36 (by decide) ?_
        cases h
        exact tv_iret C (pc := 41) rfl dX7_add_41 ⟨Nat.le_of_ble_eq_true rfl, Nat.le_of_ble_eq_true rfl⟩
    · have h := ts_ifn h hc
      refine tv_iconst C (pc := 17) dX7_add_17 (v := (0 : Int32)) rfl ?_
      refine tv_goto C (pc := 18) 41 dX7_add_18 (by decide) ?_
      cases h
      exact tv_iret C (pc := 41) rfl dX7_add_41 ⟨Nat.le_of_ble_eq_true rfl, Nat.le_of_ble_eq_true rfl⟩
set_option maxRecDepth 100000 in
set_option maxHeartbeats 4000000 in
theorem lt_X7_restartNext_9 {D : va_G} {dT : Nat → ClassId} {sz : Nat} {p : Program} {l : Launch} {e : Env} {R : Room} {s : State} {m : MethodId} {args : Array Value} {below : List Frame} {meth : Method} {c : Code} {d : Nat} {ad : ts_I → Nat} {kk nn : Nat} {Q : State → Prop} (hl : l.stackTraces = false) (C : ts_CX D dT sz p l R s m args meth c RX7 cX7_restartNext 3 (some .int) d) (hdd : 23 ≤ d)  (u : ts_Mem) (hkn : kk ≤ R.cells ∧ nn ≤ R.slots) : ∀ (n : Nat) (v1 : Int32) (v2 : Int32) (q : (Int32 × Int32)) (h : lp_X7_restartNext_9 u n v1 v2 = some q) (K : ts_V D dT sz p l e R s m args below meth c 3 Q ad ts_lv ts_R0 85 [some (.inr (30, 0, 0)), some (.inl (.int q.1)), some (.inl (.int q.2))] [] u kk nn), ts_V D dT sz p l e R s m args below meth c 3 Q ad ts_lv ts_R0 9 [some (.inr (30, 0, 0)), some (.inl (.int v1)), some (.inl (.int v2))] [] u kk nn
  | 0, _, _, _, h, _ => by cases h
  | n + 1, v1, v2, q, h, K => by
      rw [lp_X7_restartNext_9] at h
      refine tv_iload_n C (pc := 9) dX7_restartNext_9 rfl rfl ?_
      refine tv_aload_n C (pc := 10) dX7_restartNext_10 rfl rfl ?_
      refine tv_getI C (pc := 11) dX7_restartNext_11 fl_X7_103 (ts_live (k := 30) (by decide) (by decide) (by decide)) rfl (cd := 0) rfl (by decide) ?_
      refine tv_icmp_ge C (pc := 14) 85 dX7_restartNext_14 (by decide) (fun hc => ?_) (fun hc => ?_)
      · have h := ts_ifp h hc
        cases h
        exact K
      · have h := ts_ifn h hc
        refine tv_aload_n C (pc := 17) dX7_restartNext_17 rfl rfl ?_
        refine tv_getR C (pc := 18) dX7_restartNext_18 fl_X7_21 (ts_live (k := 30) (by decide) (by decide) (by decide)) rfl rfl (i2 := (31, 0, 0)) rfl ?_
        refine tv_iload_n C (pc := 21) dX7_restartNext_21 rfl rfl ?_
        obtain ⟨hr2, h⟩ := ts_gd h
        refine tv_iaload C (pc := 22) dX7_restartNext_22 (ts_live (k := 31) (by decide) (by decide) (by decide)) rfl hr2 (j := v2.toNatClampNeg) rfl ?_
        refine tv_iconst C (pc := 23) dX7_restartNext_23 (v := (3 : Int32)) rfl ?_
        refine tv_icmp_ne C (pc := 24) 79 dX7_restartNext_24 (by decide) (fun hc => ?_) (fun hc => ?_)
        · have h := ts_ifn h hc
          refine tv_iinc C (pc := 79) dX7_restartNext_79 (v := (v2 + (1 : Int32))) (L' := [some (.inr (30, 0, 0)), some (.inl (.int v1)), some (.inl (.int (v2 + (1 : Int32))))]) rfl rfl (by decide) rfl rfl ?_
          refine tv_goto C (pc := 82) 9 dX7_restartNext_82 (by decide) ?_
          exact lt_X7_restartNext_9 hl C hdd  u hkn n v1 (v2 + (1 : Int32)) q h K
        · have h := ts_ifp h hc
          refine tv_iload_n C (pc := 27) dX7_restartNext_27 rfl rfl ?_
          refine tv_iconst C (pc := 28) dX7_restartNext_28 (v := (-1 : Int32)) rfl ?_
          refine tv_icmp_eq C (pc := 29) 77 dX7_restartNext_29 (by decide) (fun hc => ?_) (fun hc => ?_)
          · have h := ts_ifp h hc
            refine tv_iload_n C (pc := 77) dX7_restartNext_77 rfl rfl ?_
            refine tv_istore_n C (pc := 78) dX7_restartNext_78 (L' := [some (.inr (30, 0, 0)), some (.inl (.int v2)), some (.inl (.int v2))]) rfl (by decide) rfl rfl ?_
            refine tv_iinc C (pc := 79) dX7_restartNext_79 (v := (v2 + (1 : Int32))) (L' := [some (.inr (30, 0, 0)), some (.inl (.int v2)), some (.inl (.int (v2 + (1 : Int32))))]) rfl rfl (by decide) rfl rfl ?_
            refine tv_goto C (pc := 82) 9 dX7_restartNext_82 (by decide) ?_
            exact lt_X7_restartNext_9 hl C hdd  u hkn n v2 (v2 + (1 : Int32)) q h K
          · have h := ts_ifn h hc
            refine tv_aload_n C (pc := 32) dX7_restartNext_32 rfl rfl ?_
            refine tv_getR C (pc := 33) dX7_restartNext_33 fl_X7_28 (ts_live (k := 30) (by decide) (by decide) (by decide)) rfl rfl (i2 := (33, 0, 0)) rfl ?_
            refine tv_iload_n C (pc := 36) dX7_restartNext_36 rfl rfl ?_
            obtain ⟨hr3, h⟩ := ts_gd h
            refine tv_iaload C (pc := 37) dX7_restartNext_37 (ts_live (k := 33) (by decide) (by decide) (by decide)) rfl hr3 (j := v2.toNatClampNeg) rfl ?_
            refine tv_aload_n C (pc := 38) dX7_restartNext_38 rfl rfl ?_
            refine tv_getR C (pc := 39) dX7_restartNext_39 fl_X7_28 (ts_live (k := 30) (by decide) (by decide) (by decide)) rfl rfl (i2 := (33, 0, 0)) rfl ?_
            refine tv_iload_n C (pc := 42) dX7_restartNext_42 rfl rfl ?_
            obtain ⟨hr4, h⟩ := ts_gd h
            refine tv_iaload C (pc := 43) dX7_restartNext_43 (ts_live (k := 33) (by decide) (by decide) (by decide)) rfl hr4 (j := v1.toNatClampNeg) rfl ?_
            refine tv_icmp_gt C (pc := 44) 77 dX7_restartNext_44 (by decide) (fun hc => ?_) (fun hc => ?_)
            · have h := ts_ifp h hc
              refine tv_iload_n C (pc := 77) dX7_restartNext_77 rfl rfl ?_
              refine tv_istore_n C (pc := 78) dX7_restartNext_78 (L' := [some (.inr (30, 0, 0)), some (.inl (.int v2)), some (.inl (.int v2))]) rfl (by decide) rfl rfl ?_
              refine tv_iinc C (pc := 79) dX7_restartNext_79 (v := (v2 + (1 : Int32))) (L' := [some (.inr (30, 0, 0)), some (.inl (.int v2)), some (.inl (.int (v2 + (1 : Int32))))]) rfl rfl (by decide) rfl rfl ?_
              refine tv_goto C (pc := 82) 9 dX7_restartNext_82 (by decide) ?_
              exact lt_X7_restartNext_9 hl C hdd  u hkn n v2 (v2 + (1 : Int32)) q h K
            · have h := ts_ifn h hc
              refine tv_aload_n C (pc := 47) dX7_restartNext_47 rfl rfl ?_
              refine tv_getR C (pc := 48) dX7_restartNext_48 fl_X7_28 (ts_live (k := 30) (by decide) (by decide) (by decide)) rfl rfl (i2 := (33, 0, 0)) rfl ?_
              refine tv_iload_n C (pc := 51) dX7_restartNext_51 rfl rfl ?_
              obtain ⟨hr5, h⟩ := ts_gd h
              refine tv_iaload C (pc := 52) dX7_restartNext_52 (ts_live (k := 33) (by decide) (by decide) (by decide)) rfl hr5 (j := v2.toNatClampNeg) rfl ?_
              refine tv_aload_n C (pc := 53) dX7_restartNext_53 rfl rfl ?_
              refine tv_getR C (pc := 54) dX7_restartNext_54 fl_X7_28 (ts_live (k := 30) (by decide) (by decide) (by decide)) rfl rfl (i2 := (33, 0, 0)) rfl ?_
              refine tv_iload_n C (pc := 57) dX7_restartNext_57 rfl rfl ?_
              obtain ⟨hr6, h⟩ := ts_gd h
              refine tv_iaload C (pc := 58) dX7_restartNext_58 (ts_live (k := 33) (by decide) (by decide) (by decide)) rfl hr6 (j := v1.toNatClampNeg) rfl ?_
              refine tv_icmp_ne C (pc := 59) 79 dX7_restartNext_59 (by decide) (fun hc => ?_) (fun hc => ?_)
              · have h := ts_ifn h hc
                refine tv_iinc C (pc := 79) dX7_restartNext_79 (v := (v2 + (1 : Int32))) (L' := [some (.inr (30, 0, 0)), some (.inl (.int v1)), some (.inl (.int (v2 + (1 : Int32))))]) rfl rfl (by decide) rfl rfl ?_
                refine tv_goto C (pc := 82) 9 dX7_restartNext_82 (by decide) ?_
                exact lt_X7_restartNext_9 hl C hdd  u hkn n v1 (v2 + (1 : Int32)) q h K
              · have h := ts_ifp h hc
                refine tv_aload_n C (pc := 62) dX7_restartNext_62 rfl rfl ?_
                refine tv_getR C (pc := 63) dX7_restartNext_63 fl_X7_31 (ts_live (k := 30) (by decide) (by decide) (by decide)) rfl rfl (i2 := (34, 0, 0)) rfl ?_
                refine tv_iload_n C (pc := 66) dX7_restartNext_66 rfl rfl ?_
                obtain ⟨hr7, h⟩ := ts_gd h
                refine tv_iaload C (pc := 67) dX7_restartNext_67 (ts_live (k := 34) (by decide) (by decide) (by decide)) rfl hr7 (j := v2.toNatClampNeg) rfl ?_
                refine tv_aload_n C (pc := 68) dX7_restartNext_68 rfl rfl ?_
                refine tv_getR C (pc := 69) dX7_restartNext_69 fl_X7_31 (ts_live (k := 30) (by decide) (by decide) (by decide)) rfl rfl (i2 := (34, 0, 0)) rfl ?_
                refine tv_iload_n C (pc := 72) dX7_restartNext_72 rfl rfl ?_
                obtain ⟨hr8, h⟩ := ts_gd h
                refine tv_iaload C (pc := 73) dX7_restartNext_73 (ts_live (k := 34) (by decide) (by decide) (by decide)) rfl hr8 (j := v1.toNatClampNeg) rfl ?_
                refine tv_icmp_le C (pc := 74) 79 dX7_restartNext_74 (by decide) (fun hc => ?_) (fun hc => ?_)
                · have h := ts_ifp h hc
                  refine tv_iinc C (pc := 79) dX7_restartNext_79 (v := (v2 + (1 : Int32))) (L' := [some (.inr (30, 0, 0)), some (.inl (.int v1)), some (.inl (.int (v2 + (1 : Int32))))]) rfl rfl (by decide) rfl rfl ?_
                  refine tv_goto C (pc := 82) 9 dX7_restartNext_82 (by decide) ?_
                  exact lt_X7_restartNext_9 hl C hdd  u hkn n v1 (v2 + (1 : Int32)) q h K
                · have h := ts_ifn h hc
                  refine tv_iload_n C (pc := 77) dX7_restartNext_77 rfl rfl ?_
                  refine tv_istore_n C (pc := 78) dX7_restartNext_78 (L' := [some (.inr (30, 0, 0)), some (.inl (.int v2)), some (.inl (.int v2))]) rfl (by decide) rfl rfl ?_
                  refine tv_iinc C (pc := 79) dX7_restartNext_79 (v := (v2 + (1 : Int32))) (L' := [some (.inr (30, 0, 0)), some (.inl (.int v2)), some (.inl (.int (v2 + (1 : Int32))))]) rfl rfl (by decide) rfl rfl ?_
                  refine tv_goto C (pc := 82) 9 dX7_restartNext_82 (by decide) ?_
                  exact lt_X7_restartNext_9 hl C hdd  u hkn n v2 (v2 + (1 : Int32)) q h K
set_option maxRecDepth 100000 in
set_option maxHeartbeats 4000000 in
theorem lt_X7_restartNext_133 {D : va_G} {dT : Nat → ClassId} {sz : Nat} {p : Program} {l : Launch} {e : Env} {R : Room} {s : State} {m : MethodId} {args : Array Value} {below : List Frame} {meth : Method} {c : Code} {d : Nat} {ad : ts_I → Nat} {kk nn : Nat} {Q : State → Prop} (hl : l.stackTraces = false) (C : ts_CX D dT sz p l R s m args meth c RX7 cX7_restartNext 3 (some .int) d) (hdd : 23 ≤ d) (c1 : Int32) (hkn : kk ≤ R.cells ∧ nn ≤ R.slots) : ∀ (n : Nat) (v2 : Int32) (u : ts_Mem) (q : (Int32 × ts_Mem)) (h : lp_X7_restartNext_133 c1 n v2 u = some q) (K : ts_V D dT sz p l e R s m args below meth c 3 Q ad ts_lv ts_R0 158 [some (.inr (30, 0, 0)), some (.inl (.int c1)), some (.inl (.int q.1))] [] q.2 kk nn), ts_V D dT sz p l e R s m args below meth c 3 Q ad ts_lv ts_R0 133 [some (.inr (30, 0, 0)), some (.inl (.int c1)), some (.inl (.int v2))] [] u kk nn
  | 0, _, _, _, h, _ => by cases h
  | n + 1, v2, u, q, h, K => by
      rw [lp_X7_restartNext_133] at h
      refine tv_iload_n C (pc := 133) dX7_restartNext_133 rfl rfl ?_
      refine tv_aload_n C (pc := 134) dX7_restartNext_134 rfl rfl ?_
      refine tv_getR C (pc := 135) dX7_restartNext_135 fl_X7_34 (ts_live (k := 30) (by decide) (by decide) (by decide)) rfl rfl (i2 := (35, 0, 0)) rfl ?_
      refine tv_iload_n C (pc := 138) dX7_restartNext_138 rfl rfl ?_
      obtain ⟨hr16, h⟩ := ts_gd h
      refine tv_iaload C (pc := 139) dX7_restartNext_139 (ts_live (k := 35) (by decide) (by decide) (by decide)) rfl hr16 (j := c1.toNatClampNeg) rfl ?_
      refine tv_icmp_ge C (pc := 140) 158 dX7_restartNext_140 (by decide) (fun hc => ?_) (fun hc => ?_)
      · have h := ts_ifp h hc
        cases h
        exact K
      · have h := ts_ifn h hc
        refine tv_aload_n C (pc := 143) dX7_restartNext_143 rfl rfl ?_
        refine tv_iload_n C (pc := 144) dX7_restartNext_144 rfl rfl ?_
        refine tv_iload_n C (pc := 145) dX7_restartNext_145 rfl rfl ?_
        obtain ⟨q17, hq17, h⟩ := ts_bd h
        refine tv_callV C (pc := 146) dX7_restartNext_146 (ci := 7) (q := (RX7, TX7, 37)) rfl yl_X7_174 (m_X7_doOperation (D := D) (dT := dT) (sz := sz) (ad := ad) hl c1 v2 u q17 hq17) (ts_live (k := 30) (by decide) (by decide) (by decide)) rfl (Nat.le_trans (Nat.le_of_ble_eq_true rfl) hdd) (As := [.inl (.int c1), .inl (.int v2)]) rfl ⟨hkn.1, hkn.2⟩ (fun _ => Nat.le_of_ble_eq_true rfl) rfl ?_
        refine tv_if_eq C (pc := 149) 158 dX7_restartNext_149 (by decide) (fun hc => ?_) (fun hc => ?_)
        · have h := ts_ifp h hc
          cases h
          exact K
        · have h := ts_ifn h hc
          refine tv_iinc C (pc := 152) dX7_restartNext_152 (v := (v2 + (1 : Int32))) (L' := [some (.inr (30, 0, 0)), some (.inl (.int c1)), some (.inl (.int (v2 + (1 : Int32))))]) rfl rfl (by decide) rfl rfl ?_
          refine tv_goto C (pc := 155) 133 dX7_restartNext_155 (by decide) ?_
          exact lt_X7_restartNext_133 hl C hdd c1 hkn n (v2 + (1 : Int32)) q17.2 q h K
set_option maxRecDepth 100000 in
set_option maxHeartbeats 4000000 in
theorem m_X7_restartNext {l : Launch} {D : va_G} {dT : Nat → ClassId} {sz : Nat} {ad : ts_I → Nat} (hl : l.stackTraces = false)  (u : ts_Mem) (r : (Int32 × ts_Mem)) (h : f_X7_restartNext  u = some r) : ts_M l D dT sz yX7_restartNext wX7_restartNext 23 0 0 ad ts_lv ts_R0 [.inr (30, 0, 0)] u (.inl (some (.int r.1))) r.2 := by
    unfold f_X7_restartNext at h
    refine ts_enter hl (by decide) rfl rfl (Nat.le_of_ble_eq_true rfl) ?_
    intro p e s m args below meth c C hX hnm
    have C : ts_CX D dT sz p l (ts_rm 23 0 0) s m args meth c RX7 cX7_restartNext 3 (some .int) 23 := C
    have hdd : 23 ≤ 23 := Nat.le_refl _
    refine tv_aload_n C (pc := 0) dX7_restartNext_0 rfl rfl ?_
    refine tv_iconst C (pc := 1) dX7_restartNext_1 (v := (0 : Int32)) rfl ?_
    refine tv_putI C (pc := 2) dX7_restartNext_2 fp_X7_3 (ts_live (k := 30) (by decide) (by decide) (by decide)) rfl (cd := 0) rfl (by decide) rfl rfl ?_
    refine tv_nu (fun u1 hu1 => ?_)
    have h := ts_lt h hu1
    refine tv_iconst C (pc := 5) dX7_restartNext_5 (v := (-1 : Int32)) rfl ?_
    refine tv_istore_n C (pc := 6) dX7_restartNext_6 (L' := [some (.inr (30, 0, 0)), some (.inl (.int (-1 : Int32))), none]) rfl (by decide) rfl rfl ?_
    refine tv_iconst C (pc := 7) dX7_restartNext_7 (v := (0 : Int32)) rfl ?_
    refine tv_istore_n C (pc := 8) dX7_restartNext_8 (L' := [some (.inr (30, 0, 0)), some (.inl (.int (-1 : Int32))), some (.inl (.int (0 : Int32)))]) rfl (by decide) rfl rfl ?_
    obtain ⟨q9, hq9, h⟩ := ts_bd h
    refine lt_X7_restartNext_9 hl C hdd  u1 ⟨Nat.le_of_ble_eq_true rfl, Nat.le_of_ble_eq_true rfl⟩ ts_fu (-1 : Int32) (0 : Int32) q9 hq9 ?_
    refine tv_iload_n C (pc := 85) dX7_restartNext_85 rfl rfl ?_
    refine tv_iconst C (pc := 86) dX7_restartNext_86 (v := (-1 : Int32)) rfl ?_
    refine tv_icmp_ne C (pc := 87) 96 dX7_restartNext_87 (by decide) (fun hc => ?_) (fun hc => ?_)
    · have h := ts_ifn h hc
      refine tv_aload_n C (pc := 96) dX7_restartNext_96 rfl rfl ?_
      refine tv_getR C (pc := 97) dX7_restartNext_97 fl_X7_21 (ts_live (k := 30) (by decide) (by decide) (by decide)) rfl rfl (i2 := (31, 0, 0)) rfl ?_
      refine tv_iload_n C (pc := 100) dX7_restartNext_100 rfl rfl ?_
      refine tv_iconst C (pc := 101) dX7_restartNext_101 (v := (0 : Int32)) rfl ?_
      obtain ⟨hr10, h⟩ := ts_gd h
      refine tv_iastore C (pc := 102) dX7_restartNext_102 (ts_live (k := 31) (by decide) (by decide) (by decide)) rfl hr10 (j := q9.1.toNatClampNeg) rfl ?_
      refine tv_nu (fun u11 hu11 => ?_)
      have h := ts_lt h hu11
      refine tv_aload_n C (pc := 103) dX7_restartNext_103 rfl rfl ?_
      refine tv_getR C (pc := 104) dX7_restartNext_104 fl_X7_25 (ts_live (k := 30) (by decide) (by decide) (by decide)) rfl rfl (i2 := (32, 0, 0)) rfl ?_
      refine tv_iload_n C (pc := 107) dX7_restartNext_107 rfl rfl ?_
      refine tv_aload_n C (pc := 108) dX7_restartNext_108 rfl rfl ?_
      refine tv_getI C (pc := 109) dX7_restartNext_109 fl_X7_18 (ts_live (k := 30) (by decide) (by decide) (by decide)) rfl (cd := 0) rfl (by decide) ?_
      obtain ⟨hr12, h⟩ := ts_gd h
      refine tv_iastore C (pc := 112) dX7_restartNext_112 (ts_live (k := 32) (by decide) (by decide) (by decide)) rfl hr12 (j := q9.1.toNatClampNeg) rfl ?_
      refine tv_nu (fun u13 hu13 => ?_)
      have h := ts_lt h hu13
      refine tv_aload_n C (pc := 113) dX7_restartNext_113 rfl rfl ?_
      refine tv_dup C (pc := 114) dX7_restartNext_114 (fun _ => rfl) ?_
      refine tv_getI C (pc := 115) dX7_restartNext_115 fl_X7_18 (ts_live (k := 30) (by decide) (by decide) (by decide)) rfl (cd := 0) rfl (by decide) ?_
      refine tv_iconst C (pc := 118) dX7_restartNext_118 (v := (1 : Int32)) rfl ?_
      refine tv_iadd C (pc := 119) dX7_restartNext_119 ?_
      refine tv_putI C (pc := 120) dX7_restartNext_120 fp_X7_18 (ts_live (k := 30) (by decide) (by decide) (by decide)) rfl (cd := 0) rfl (by decide) rfl rfl ?_
      refine tv_nu (fun u14 hu14 => ?_)
      have h := ts_lt h hu14
      refine tv_aload_n C (pc := 123) dX7_restartNext_123 rfl rfl ?_
      refine tv_bipush C (pc := 124) dX7_restartNext_124 (v := (8 : Int32)) rfl ?_
      refine tv_iload_n C (pc := 126) dX7_restartNext_126 rfl rfl ?_
      refine tv_iconst C (pc := 127) dX7_restartNext_127 (v := (-1 : Int32)) rfl ?_
      obtain ⟨q15, hq15, h⟩ := ts_bd h
      refine tv_callV C (pc := 128) dX7_restartNext_128 (ci := 7) (q := (RX7, TX7, 37)) rfl yl_X7_109 (m_X7_record (D := D) (dT := dT) (sz := sz) (ad := ad) hl (8 : Int32) q9.1 (-1 : Int32) u14 q15 hq15) (ts_live (k := 30) (by decide) (by decide) (by decide)) rfl (Nat.le_trans (Nat.le_of_ble_eq_true rfl) hdd) (As := [.inl (.int (8 : Int32)), .inl (.int q9.1), .inl (.int (-1 : Int32))]) rfl ⟨Nat.le_of_ble_eq_true rfl, Nat.le_of_ble_eq_true rfl⟩ (fun _ => Nat.le_of_ble_eq_true rfl) rfl ?_
      refine tv_iconst C (pc := 131) dX7_restartNext_131 (v := (0 : Int32)) rfl ?_
      refine tv_istore_n C (pc := 132) dX7_restartNext_132 (L' := [some (.inr (30, 0, 0)), some (.inl (.int q9.1)), some (.inl (.int (0 : Int32)))]) rfl (by decide) rfl rfl ?_
      obtain ⟨q18, hq18, h⟩ := ts_bd h
      refine lt_X7_restartNext_133 hl C hdd q9.1 ⟨Nat.le_of_ble_eq_true rfl, Nat.le_of_ble_eq_true rfl⟩ ts_fu (0 : Int32) q15 q18 hq18 ?_
      refine tv_iload_n C (pc := 158) dX7_restartNext_158 rfl rfl ?_
      cases h
      exact tv_iret C (pc := 159) rfl dX7_restartNext_159 ⟨Nat.le_of_ble_eq_true rfl, Nat.le_of_ble_eq_true rfl⟩
    · have h := ts_ifp h hc
      refine tv_aload_n C (pc := 90) dX7_restartNext_90 rfl rfl ?_
      refine tv_iconst C (pc := 91) dX7_restartNext_91 (v := (1 : Int32)) rfl ?_
      obtain ⟨q19, hq19, h⟩ := ts_bd h
      refine tv_callV C (pc := 92) dX7_restartNext_92 (ci := 7) (q := (RX7, TX7, 37)) rfl yl_X7_99 (m_X7_fail (D := D) (dT := dT) (sz := sz) (ad := ad) hl (1 : Int32) u1 q19 hq19) (ts_live (k := 30) (by decide) (by decide) (by decide)) rfl (Nat.le_trans (Nat.le_of_ble_eq_true rfl) hdd) (As := [.inl (.int (1 : Int32))]) rfl ⟨Nat.le_of_ble_eq_true rfl, Nat.le_of_ble_eq_true rfl⟩ (fun _ => Nat.le_of_ble_eq_true rfl) rfl ?_
      cases h
      exact tv_iret C (pc := 95) rfl dX7_restartNext_95 ⟨Nat.le_of_ble_eq_true rfl, Nat.le_of_ble_eq_true rfl⟩
set_option maxRecDepth 100000 in
set_option maxHeartbeats 4000000 in
theorem m_X7_append {l : Launch} {D : va_G} {dT : Nat → ClassId} {sz : Nat} {ad : ts_I → Nat} (hl : l.stackTraces = false) (p1 : Int32) (u : ts_Mem) (r : (Int32 × ts_Mem)) (h : f_X7_append p1 u = some r) : ts_M l D dT sz yX7_append wX7_append 1 0 0 ad ts_lv ts_R0 [.inr (30, 0, 0), .inl (.int p1)] u (.inl (some (.int r.1))) r.2 := by
    unfold f_X7_append at h
    refine ts_enter hl (by decide) rfl rfl (Nat.le_of_ble_eq_true rfl) ?_
    intro p e s m args below meth c C hX hnm
    have C : ts_CX D dT sz p l (ts_rm 1 0 0) s m args meth c RX7 cX7_append 2 (some .int) 1 := C
    have hdd : 1 ≤ 1 := Nat.le_refl _
    refine tv_aload_n C (pc := 0) dX7_append_0 rfl rfl ?_
    refine tv_iconst C (pc := 1) dX7_append_1 (v := (0 : Int32)) rfl ?_
    refine tv_putI C (pc := 2) dX7_append_2 fp_X7_3 (ts_live (k := 30) (by decide) (by decide) (by decide)) rfl (cd := 0) rfl (by decide) rfl rfl ?_
    refine tv_nu (fun u1 hu1 => ?_)
    have h := ts_lt h hu1
    refine tv_iload_n C (pc := 5) dX7_append_5 rfl rfl ?_
    refine tv_bipush C (pc := 6) dX7_append_6 (v := (32 : Int32)) rfl ?_
    refine tv_bipush C (pc := 8) dX7_append_8 (v := (126 : Int32)) rfl ?_
    obtain ⟨q2, hq2, h⟩ := ts_bd h
    refine tv_callS C (pc := 10) dX7_append_10 yl_X7_95 (m_X7_isIn (D := D) (dT := dT) (sz := sz) (ad := ad) hl p1 (32 : Int32) (126 : Int32) u1 q2 hq2) (Nat.le_trans (Nat.le_of_ble_eq_true rfl) hdd) (As := [.inl (.int p1), .inl (.int (32 : Int32)), .inl (.int (126 : Int32))]) rfl ⟨Nat.le_of_ble_eq_true rfl, Nat.le_of_ble_eq_true rfl⟩ (fun _ => Nat.le_of_ble_eq_true rfl) rfl ?_
    refine tv_if_ne C (pc := 13) 22 dX7_append_13 (by decide) (fun hc => ?_) (fun hc => ?_)
    · have h := ts_ifn h hc
      refine tv_aload_n C (pc := 22) dX7_append_22 rfl rfl ?_
      refine tv_getI C (pc := 23) dX7_append_23 fl_X7_187 (ts_live (k := 30) (by decide) (by decide) (by decide)) rfl (cd := 0) rfl (by decide) ?_
      refine tv_bipush C (pc := 26) dX7_append_26 (v := (60 : Int32)) rfl ?_
      refine tv_icmp_ne C (pc := 28) 37 dX7_append_28 (by decide) (fun hc => ?_) (fun hc => ?_)
      · have h := ts_ifn h hc
        refine tv_aload_n C (pc := 37) dX7_append_37 rfl rfl ?_
        refine tv_getR C (pc := 38) dX7_append_38 fl_X7_55 (ts_live (k := 30) (by decide) (by decide) (by decide)) rfl rfl (i2 := (42, 0, 0)) rfl ?_
        refine tv_aload_n C (pc := 41) dX7_append_41 rfl rfl ?_
        refine tv_getI C (pc := 42) dX7_append_42 fl_X7_187 (ts_live (k := 30) (by decide) (by decide) (by decide)) rfl (cd := 0) rfl (by decide) ?_
        refine tv_iload_n C (pc := 45) dX7_append_45 rfl rfl ?_
        obtain ⟨hr3, h⟩ := ts_gd h
        refine tv_castore C (pc := 46) dX7_append_46 (ts_live (k := 42) (by decide) (by decide) (by decide)) rfl hr3 (j := ((ts_gI u1 (30, 0, 0) 20)).toNatClampNeg) rfl ?_
        refine tv_nu (fun u4 hu4 => ?_)
        have h := ts_lt h hu4
        refine tv_aload_n C (pc := 47) dX7_append_47 rfl rfl ?_
        refine tv_dup C (pc := 48) dX7_append_48 (fun _ => rfl) ?_
        refine tv_getI C (pc := 49) dX7_append_49 fl_X7_187 (ts_live (k := 30) (by decide) (by decide) (by decide)) rfl (cd := 0) rfl (by decide) ?_
        refine tv_iconst C (pc := 52) dX7_append_52 (v := (1 : Int32)) rfl ?_
        refine tv_iadd C (pc := 53) dX7_append_53 ?_
        refine tv_putI C (pc := 54) dX7_append_54 fp_X7_187 (ts_live (k := 30) (by decide) (by decide) (by decide)) rfl (cd := 0) rfl (by decide) rfl rfl ?_
        refine tv_nu (fun u5 hu5 => ?_)
        have h := ts_lt h hu5
        refine tv_aload_n C (pc := 57) dX7_append_57 rfl rfl ?_
        refine tv_getI C (pc := 58) dX7_append_58 fl_X7_187 (ts_live (k := 30) (by decide) (by decide) (by decide)) rfl (cd := 0) rfl (by decide) ?_
        cases h
        exact tv_iret C (pc := 61) rfl dX7_append_61 ⟨Nat.le_of_ble_eq_true rfl, Nat.le_of_ble_eq_true rfl⟩
      · have h := ts_ifp h hc
        refine tv_aload_n C (pc := 31) dX7_append_31 rfl rfl ?_
        refine tv_iconst C (pc := 32) dX7_append_32 (v := (2 : Int32)) rfl ?_
        obtain ⟨q6, hq6, h⟩ := ts_bd h
        refine tv_callV C (pc := 33) dX7_append_33 (ci := 7) (q := (RX7, TX7, 37)) rfl yl_X7_99 (m_X7_fail (D := D) (dT := dT) (sz := sz) (ad := ad) hl (2 : Int32) u1 q6 hq6) (ts_live (k := 30) (by decide) (by decide) (by decide)) rfl (Nat.le_trans (Nat.le_of_ble_eq_true rfl) hdd) (As := [.inl (.int (2 : Int32))]) rfl ⟨Nat.le_of_ble_eq_true rfl, Nat.le_of_ble_eq_true rfl⟩ (fun _ => Nat.le_of_ble_eq_true rfl) rfl ?_
        cases h
        exact tv_iret C (pc := 36) rfl dX7_append_36 ⟨Nat.le_of_ble_eq_true rfl, Nat.le_of_ble_eq_true rfl⟩
    · have h := ts_ifp h hc
      refine tv_aload_n C (pc := 16) dX7_append_16 rfl rfl ?_
      refine tv_iconst C (pc := 17) dX7_append_17 (v := (1 : Int32)) rfl ?_
      obtain ⟨q7, hq7, h⟩ := ts_bd h
      refine tv_callV C (pc := 18) dX7_append_18 (ci := 7) (q := (RX7, TX7, 37)) rfl yl_X7_99 (m_X7_fail (D := D) (dT := dT) (sz := sz) (ad := ad) hl (1 : Int32) u1 q7 hq7) (ts_live (k := 30) (by decide) (by decide) (by decide)) rfl (Nat.le_trans (Nat.le_of_ble_eq_true rfl) hdd) (As := [.inl (.int (1 : Int32))]) rfl ⟨Nat.le_of_ble_eq_true rfl, Nat.le_of_ble_eq_true rfl⟩ (fun _ => Nat.le_of_ble_eq_true rfl) rfl ?_
      cases h
      exact tv_iret C (pc := 21) rfl dX7_append_21 ⟨Nat.le_of_ble_eq_true rfl, Nat.le_of_ble_eq_true rfl⟩
set_option maxRecDepth 100000 in
set_option maxHeartbeats 4000000 in
theorem m_X7_sign {l : Launch} {D : va_G} {dT : Nat → ClassId} {sz : Nat} {ad : ts_I → Nat} (hl : l.stackTraces = false)  (u : ts_Mem) (r : Int32) (h : f_X7_sign  u = some r) : ts_M l D dT sz yX7_sign wX7_sign 0 0 0 ad ts_lv ts_R0 [.inr (30, 0, 0)] u (.inl (some (.int r))) u := by
    unfold f_X7_sign at h
    refine ts_enter hl (by decide) rfl rfl (Nat.le_of_ble_eq_true rfl) ?_
    intro p e s m args below meth c C hX hnm
    have C : ts_CX D dT sz p l (ts_rm 0 0 0) s m args meth c RX7 cX7_sign 1 (some .int) 0 := C
    have hdd : 0 ≤ 0 := Nat.le_refl _
    refine tv_aload_n C (pc := 0) dX7_sign_0 rfl rfl ?_
    refine tv_getI C (pc := 1) dX7_sign_1 fl_X7_190 (ts_live (k := 30) (by decide) (by decide) (by decide)) rfl (cd := 0) rfl (by decide) ?_
    refine tv_aload_n C (pc := 4) dX7_sign_4 rfl rfl ?_
    refine tv_getI C (pc := 5) dX7_sign_5 fl_X7_193 (ts_live (k := 30) (by decide) (by decide) (by decide)) rfl (cd := 0) rfl (by decide) ?_
    refine tv_icmp_ge C (pc := 8) 23 dX7_sign_8 (by decide) (fun hc => ?_) (fun hc => ?_)
    · have h := ts_ifp h hc
      refine tv_iconst C (pc := 23) dX7_sign_23 (v := (-1 : Int32)) rfl ?_
      cases h
      exact tv_iret C (pc := 24) rfl dX7_sign_24 ⟨Nat.le_of_ble_eq_true rfl, Nat.le_of_ble_eq_true rfl⟩
    · have h := ts_ifn h hc
      refine tv_aload_n C (pc := 11) dX7_sign_11 rfl rfl ?_
      refine tv_getR C (pc := 12) dX7_sign_12 fl_X7_55 (ts_live (k := 30) (by decide) (by decide) (by decide)) rfl rfl (i2 := (42, 0, 0)) rfl ?_
      refine tv_aload_n C (pc := 15) dX7_sign_15 rfl rfl ?_
      refine tv_getI C (pc := 16) dX7_sign_16 fl_X7_190 (ts_live (k := 30) (by decide) (by decide) (by decide)) rfl (cd := 0) rfl (by decide) ?_
      obtain ⟨hr1, h⟩ := ts_gd h
      refine tv_caload C (pc := 19) dX7_sign_19 (ts_live (k := 42) (by decide) (by decide) (by decide)) rfl hr1 (j := ((ts_gI u (30, 0, 0) 22)).toNatClampNeg) rfl ?_
      refine tv_goto C (pc := 20) 24 dX7_sign_20 (by decide) ?_
      cases h
      exact tv_iret C (pc := 24) rfl dX7_sign_24 ⟨Nat.le_of_ble_eq_true rfl, Nat.le_of_ble_eq_true rfl⟩
set_option maxRecDepth 100000 in
set_option maxHeartbeats 4000000 in
theorem m_X7_goes {l : Launch} {D : va_G} {dT : Nat → ClassId} {sz : Nat} {ad : ts_I → Nat} (hl : l.stackTraces = false) (p1 : Int32) (u : ts_Mem) (r : (Int32 × ts_Mem)) (h : f_X7_goes p1 u = some r) : ts_M l D dT sz yX7_goes wX7_goes 1 0 0 ad ts_lv ts_R0 [.inr (30, 0, 0), .inl (.int p1)] u (.inl (some (.int r.1))) r.2 := by
    unfold f_X7_goes at h
    refine ts_enter hl (by decide) rfl rfl (Nat.le_of_ble_eq_true rfl) ?_
    intro p e s m args below meth c C hX hnm
    have C : ts_CX D dT sz p l (ts_rm 1 0 0) s m args meth c RX7 cX7_goes 3 (some .boolean) 1 := C
    have hdd : 1 ≤ 1 := Nat.le_refl _
    refine tv_aload_n C (pc := 0) dX7_goes_0 rfl rfl ?_
    refine tv_getI C (pc := 1) dX7_goes_1 fl_X7_196 (ts_live (k := 30) (by decide) (by decide) (by decide)) rfl (cd := 0) rfl (by decide) ?_
    refine tv_iconst C (pc := 4) dX7_goes_4 (v := (-1 : Int32)) rfl ?_
    refine tv_icmp_ne C (pc := 5) 20 dX7_goes_5 (by decide) (fun hc => ?_) (fun hc => ?_)
    · have h := ts_ifn h hc
      refine tv_iconst C (pc := 20) dX7_goes_20 (v := (0 : Int32)) rfl ?_
      refine tv_istore_n C (pc := 21) dX7_goes_21 (L' := [some (.inr (30, 0, 0)), some (.inl (.int p1)), some (.inl (.int (0 : Int32)))]) rfl (by decide) rfl rfl ?_
      refine tv_aload_n C (pc := 22) dX7_goes_22 rfl rfl ?_
      refine tv_dup C (pc := 23) dX7_goes_23 (fun _ => rfl) ?_
      refine tv_getI C (pc := 24) dX7_goes_24 fl_X7_190 (ts_live (k := 30) (by decide) (by decide) (by decide)) rfl (cd := 0) rfl (by decide) ?_
      refine tv_iload_n C (pc := 27) dX7_goes_27 rfl rfl ?_
      refine tv_if_eq C (pc := 28) 35 dX7_goes_28 (by decide) (fun _ => ?_) (fun hc => absurd hc (by decide))
      refine tv_iconst C (pc := 35) dX7_goes_35 (v := (0 : Int32)) rfl ?_
      refine tv_iadd C (pc := 36) dX7_goes_36 ?_
      refine tv_putI C (pc := 37) dX7_goes_37 fp_X7_190 (ts_live (k := 30) (by decide) (by decide) (by decide)) rfl (cd := 0) rfl (by decide) rfl rfl ?_
      refine tv_nu (fun u1 hu1 => ?_)
      have h := ts_lt h hu1
      refine tv_iload_n C (pc := 40) dX7_goes_40 rfl rfl ?_
      cases h
      exact tv_zret C (pc := 41) (v := (0 : Int32)) rfl ts_nz0 dX7_goes_41 ⟨Nat.le_of_ble_eq_true rfl, Nat.le_of_ble_eq_true rfl⟩
    · have h := ts_ifp h hc
      refine tv_aload_n C (pc := 8) dX7_goes_8 rfl rfl ?_
      obtain ⟨q2, hq2, h⟩ := ts_bd h
      refine tv_callV C (pc := 9) dX7_goes_9 (ci := 7) (q := (RX7, TX7, 37)) rfl yl_X7_199 (m_X7_sign (D := D) (dT := dT) (sz := sz) (ad := ad) hl  u q2 hq2) (ts_live (k := 30) (by decide) (by decide) (by decide)) rfl (Nat.le_trans (Nat.le_of_ble_eq_true rfl) hdd) (As := []) rfl ⟨Nat.le_of_ble_eq_true rfl, Nat.le_of_ble_eq_true rfl⟩ (fun _ => Nat.le_of_ble_eq_true rfl) rfl ?_
      refine tv_iload_n C (pc := 12) dX7_goes_12 rfl rfl ?_
      refine tv_icmp_ne C (pc := 13) 20 dX7_goes_13 (by decide) (fun hc => ?_) (fun hc => ?_)
      · have h := ts_ifn h hc
        refine tv_iconst C (pc := 20) dX7_goes_20 (v := (0 : Int32)) rfl ?_
        refine tv_istore_n C (pc := 21) dX7_goes_21 (L' := [some (.inr (30, 0, 0)), some (.inl (.int p1)), some (.inl (.int (0 : Int32)))]) rfl (by decide) rfl rfl ?_
        refine tv_aload_n C (pc := 22) dX7_goes_22 rfl rfl ?_
        refine tv_dup C (pc := 23) dX7_goes_23 (fun _ => rfl) ?_
        refine tv_getI C (pc := 24) dX7_goes_24 fl_X7_190 (ts_live (k := 30) (by decide) (by decide) (by decide)) rfl (cd := 0) rfl (by decide) ?_
        refine tv_iload_n C (pc := 27) dX7_goes_27 rfl rfl ?_
        refine tv_if_eq C (pc := 28) 35 dX7_goes_28 (by decide) (fun _ => ?_) (fun hc => absurd hc (by decide))
        refine tv_iconst C (pc := 35) dX7_goes_35 (v := (0 : Int32)) rfl ?_
        refine tv_iadd C (pc := 36) dX7_goes_36 ?_
        refine tv_putI C (pc := 37) dX7_goes_37 fp_X7_190 (ts_live (k := 30) (by decide) (by decide) (by decide)) rfl (cd := 0) rfl (by decide) rfl rfl ?_
        refine tv_nu (fun u3 hu3 => ?_)
        have h := ts_lt h hu3
        refine tv_iload_n C (pc := 40) dX7_goes_40 rfl rfl ?_
        cases h
        exact tv_zret C (pc := 41) (v := (0 : Int32)) rfl ts_nz0 dX7_goes_41 ⟨Nat.le_of_ble_eq_true rfl, Nat.le_of_ble_eq_true rfl⟩
      · have h := ts_ifp h hc
        refine tv_iconst C (pc := 16) dX7_goes_16 (v := (1 : Int32)) rfl ?_
        refine tv_goto C (pc := 17) 21 dX7_goes_17 (by decide) ?_
        refine tv_istore_n C (pc := 21) dX7_goes_21 (L' := [some (.inr (30, 0, 0)), some (.inl (.int p1)), some (.inl (.int (1 : Int32)))]) rfl (by decide) rfl rfl ?_
        refine tv_aload_n C (pc := 22) dX7_goes_22 rfl rfl ?_
        refine tv_dup C (pc := 23) dX7_goes_23 (fun _ => rfl) ?_
        refine tv_getI C (pc := 24) dX7_goes_24 fl_X7_190 (ts_live (k := 30) (by decide) (by decide) (by decide)) rfl (cd := 0) rfl (by decide) ?_
        refine tv_iload_n C (pc := 27) dX7_goes_27 rfl rfl ?_
        refine tv_if_eq C (pc := 28) 35 dX7_goes_28 (by decide) (fun hc => absurd hc (by decide)) (fun _ => ?_)
        refine tv_iconst C (pc := 31) dX7_goes_31 (v := (1 : Int32)) rfl ?_
        refine tv_goto C (pc := 32) 36 dX7_goes_32 (by decide) ?_
        refine tv_iadd C (pc := 36) dX7_goes_36 ?_
        refine tv_putI C (pc := 37) dX7_goes_37 fp_X7_190 (ts_live (k := 30) (by decide) (by decide) (by decide)) rfl (cd := 0) rfl (by decide) rfl rfl ?_
        refine tv_nu (fun u4 hu4 => ?_)
        have h := ts_lt h hu4
        refine tv_iload_n C (pc := 40) dX7_goes_40 rfl rfl ?_
        cases h
        exact tv_zret C (pc := 41) (v := (1 : Int32)) rfl ts_nz1 dX7_goes_41 ⟨Nat.le_of_ble_eq_true rfl, Nat.le_of_ble_eq_true rfl⟩
set_option maxRecDepth 100000 in
set_option maxHeartbeats 4000000 in
theorem m_X7_fault {l : Launch} {D : va_G} {dT : Nat → ClassId} {sz : Nat} {ad : ts_I → Nat} (hl : l.stackTraces = false)  (u : ts_Mem) (r : ts_Mem) (h : f_X7_fault  u = some r) : ts_M l D dT sz yX7_fault wX7_fault 0 0 0 ad ts_lv ts_R0 [.inr (30, 0, 0)] u (.inl none) r := by
    unfold f_X7_fault at h
    refine ts_enter hl (by decide) rfl rfl (Nat.le_of_ble_eq_true rfl) ?_
    intro p e s m args below meth c C hX hnm
    have C : ts_CX D dT sz p l (ts_rm 0 0 0) s m args meth c RX7 cX7_fault 1 none 0 := C
    have hdd : 0 ≤ 0 := Nat.le_refl _
    refine tv_aload_n C (pc := 0) dX7_fault_0 rfl rfl ?_
    refine tv_aload_n C (pc := 1) dX7_fault_1 rfl rfl ?_
    refine tv_getI C (pc := 2) dX7_fault_2 fl_X7_196 (ts_live (k := 30) (by decide) (by decide) (by decide)) rfl (cd := 0) rfl (by decide) ?_
    refine tv_iconst C (pc := 5) dX7_fault_5 (v := (-1 : Int32)) rfl ?_
    refine tv_icmp_ne C (pc := 6) 16 dX7_fault_6 (by decide) (fun hc => ?_) (fun hc => ?_)
    · have h := ts_ifn h hc
      refine tv_aload_n C (pc := 16) dX7_fault_16 rfl rfl ?_
      refine tv_getI C (pc := 17) dX7_fault_17 fl_X7_196 (ts_live (k := 30) (by decide) (by decide) (by decide)) rfl (cd := 0) rfl (by decide) ?_
      refine tv_putI C (pc := 20) dX7_fault_20 fp_X7_196 (ts_live (k := 30) (by decide) (by decide) (by decide)) rfl (cd := 0) rfl (by decide) rfl rfl ?_
      refine tv_nu (fun u1 hu1 => ?_)
      have h := ts_lt h hu1
      cases h
      exact tv_vret C (pc := 23) rfl dX7_fault_23 ⟨Nat.le_of_ble_eq_true rfl, Nat.le_of_ble_eq_true rfl⟩
    · have h := ts_ifp h hc
      refine tv_aload_n C (pc := 9) dX7_fault_9 rfl rfl ?_
      refine tv_getI C (pc := 10) dX7_fault_10 fl_X7_190 (ts_live (k := 30) (by decide) (by decide) (by decide)) rfl (cd := 0) rfl (by decide) ?_
      refine tv_goto C (pc := 13) 20 dX7_fault_13 (by decide) ?_
      refine tv_putI C (pc := 20) dX7_fault_20 fp_X7_196 (ts_live (k := 30) (by decide) (by decide) (by decide)) rfl (cd := 0) rfl (by decide) rfl rfl ?_
      refine tv_nu (fun u2 hu2 => ?_)
      have h := ts_lt h hu2
      cases h
      exact tv_vret C (pc := 23) rfl dX7_fault_23 ⟨Nat.le_of_ble_eq_true rfl, Nat.le_of_ble_eq_true rfl⟩
set_option maxRecDepth 100000 in
set_option maxHeartbeats 4000000 in
theorem m_X7_digit {l : Launch} {D : va_G} {dT : Nat → ClassId} {sz : Nat} {ad : ts_I → Nat} (hl : l.stackTraces = false) (p1 : Int32) (u : ts_Mem) (r : (Int32 × ts_Mem)) (h : f_X7_digit p1 u = some r) : ts_M l D dT sz yX7_digit wX7_digit 1 0 0 ad ts_lv ts_R0 [.inr (30, 0, 0), .inl (.int p1)] u (.inl (some (.int r.1))) r.2 := by
    unfold f_X7_digit at h
    refine ts_enter hl (by decide) rfl rfl (Nat.le_of_ble_eq_true rfl) ?_
    intro p e s m args below meth c C hX hnm
    have C : ts_CX D dT sz p l (ts_rm 1 0 0) s m args meth c RX7 cX7_digit 3 (some .int) 1 := C
    have hdd : 1 ≤ 1 := Nat.le_refl _
    refine tv_aload_n C (pc := 0) dX7_digit_0 rfl rfl ?_
    obtain ⟨q1, hq1, h⟩ := ts_bd h
    refine tv_callV C (pc := 1) dX7_digit_1 (ci := 7) (q := (RX7, TX7, 37)) rfl yl_X7_199 (m_X7_sign (D := D) (dT := dT) (sz := sz) (ad := ad) hl  u q1 hq1) (ts_live (k := 30) (by decide) (by decide) (by decide)) rfl (Nat.le_trans (Nat.le_of_ble_eq_true rfl) hdd) (As := []) rfl ⟨Nat.le_of_ble_eq_true rfl, Nat.le_of_ble_eq_true rfl⟩ (fun _ => Nat.le_of_ble_eq_true rfl) rfl ?_
    refine tv_bipush C (pc := 4) dX7_digit_4 (v := (48 : Int32)) rfl ?_
    refine tv_isub C (pc := 6) dX7_digit_6 ?_
    refine tv_nmI (fun x2 hx2 => ?_)
    have h := ts_lt h hx2
    refine tv_istore_n C (pc := 7) dX7_digit_7 (L' := [some (.inr (30, 0, 0)), some (.inl (.int p1)), some (.inl (.int x2))]) rfl (by decide) rfl rfl ?_
    refine tv_aload_n C (pc := 8) dX7_digit_8 rfl rfl ?_
    refine tv_getI C (pc := 9) dX7_digit_9 fl_X7_196 (ts_live (k := 30) (by decide) (by decide) (by decide)) rfl (cd := 0) rfl (by decide) ?_
    refine tv_iconst C (pc := 12) dX7_digit_12 (v := (-1 : Int32)) rfl ?_
    refine tv_icmp_ne C (pc := 13) 41 dX7_digit_13 (by decide) (fun hc => ?_) (fun hc => ?_)
    · have h := ts_ifn h hc
      refine tv_aload_n C (pc := 41) dX7_digit_41 rfl rfl ?_
      obtain ⟨q3, hq3, h⟩ := ts_bd h
      refine tv_callV C (pc := 42) dX7_digit_42 (ci := 7) (q := (RX7, TX7, 37)) rfl yl_X7_203 (m_X7_fault (D := D) (dT := dT) (sz := sz) (ad := ad) hl  u q3 hq3) (ts_live (k := 30) (by decide) (by decide) (by decide)) rfl (Nat.le_trans (Nat.le_of_ble_eq_true rfl) hdd) (As := []) rfl ⟨Nat.le_of_ble_eq_true rfl, Nat.le_of_ble_eq_true rfl⟩ (fun _ => Nat.le_of_ble_eq_true rfl) rfl ?_
      refine tv_iconst C (pc := 45) dX7_digit_45 (v := (0 : Int32)) rfl ?_
      cases h
      exact tv_iret C (pc := 46) rfl dX7_digit_46 ⟨Nat.le_of_ble_eq_true rfl, Nat.le_of_ble_eq_true rfl⟩
    · have h := ts_ifp h hc
      refine tv_aload_n C (pc := 16) dX7_digit_16 rfl rfl ?_
      obtain ⟨q4, hq4, h⟩ := ts_bd h
      refine tv_callV C (pc := 17) dX7_digit_17 (ci := 7) (q := (RX7, TX7, 37)) rfl yl_X7_199 (m_X7_sign (D := D) (dT := dT) (sz := sz) (ad := ad) hl  u q4 hq4) (ts_live (k := 30) (by decide) (by decide) (by decide)) rfl (Nat.le_trans (Nat.le_of_ble_eq_true rfl) hdd) (As := []) rfl ⟨Nat.le_of_ble_eq_true rfl, Nat.le_of_ble_eq_true rfl⟩ (fun _ => Nat.le_of_ble_eq_true rfl) rfl ?_
      refine tv_bipush C (pc := 20) dX7_digit_20 (v := (48 : Int32)) rfl ?_
      refine tv_iload_n C (pc := 22) dX7_digit_22 rfl rfl ?_
      obtain ⟨q5, hq5, h⟩ := ts_bd h
      refine tv_callS C (pc := 23) dX7_digit_23 yl_X7_95 (m_X7_isIn (D := D) (dT := dT) (sz := sz) (ad := ad) hl q4 (48 : Int32) p1 u q5 hq5) (Nat.le_trans (Nat.le_of_ble_eq_true rfl) hdd) (As := [.inl (.int q4), .inl (.int (48 : Int32)), .inl (.int p1)]) rfl ⟨Nat.le_of_ble_eq_true rfl, Nat.le_of_ble_eq_true rfl⟩ (fun _ => Nat.le_of_ble_eq_true rfl) rfl ?_
      refine tv_if_eq C (pc := 26) 41 dX7_digit_26 (by decide) (fun hc => ?_) (fun hc => ?_)
      · have h := ts_ifp h hc
        refine tv_aload_n C (pc := 41) dX7_digit_41 rfl rfl ?_
        obtain ⟨q6, hq6, h⟩ := ts_bd h
        refine tv_callV C (pc := 42) dX7_digit_42 (ci := 7) (q := (RX7, TX7, 37)) rfl yl_X7_203 (m_X7_fault (D := D) (dT := dT) (sz := sz) (ad := ad) hl  u q6 hq6) (ts_live (k := 30) (by decide) (by decide) (by decide)) rfl (Nat.le_trans (Nat.le_of_ble_eq_true rfl) hdd) (As := []) rfl ⟨Nat.le_of_ble_eq_true rfl, Nat.le_of_ble_eq_true rfl⟩ (fun _ => Nat.le_of_ble_eq_true rfl) rfl ?_
        refine tv_iconst C (pc := 45) dX7_digit_45 (v := (0 : Int32)) rfl ?_
        cases h
        exact tv_iret C (pc := 46) rfl dX7_digit_46 ⟨Nat.le_of_ble_eq_true rfl, Nat.le_of_ble_eq_true rfl⟩
      · have h := ts_ifn h hc
        refine tv_aload_n C (pc := 29) dX7_digit_29 rfl rfl ?_
        refine tv_dup C (pc := 30) dX7_digit_30 (fun _ => rfl) ?_
        refine tv_getI C (pc := 31) dX7_digit_31 fl_X7_190 (ts_live (k := 30) (by decide) (by decide) (by decide)) rfl (cd := 0) rfl (by decide) ?_
        refine tv_iconst C (pc := 34) dX7_digit_34 (v := (1 : Int32)) rfl ?_
        refine tv_iadd C (pc := 35) dX7_digit_35 ?_
        refine tv_putI C (pc := 36) dX7_digit_36 fp_X7_190 (ts_live (k := 30) (by decide) (by decide) (by decide)) rfl (cd := 0) rfl (by decide) rfl rfl ?_
        refine tv_nu (fun u7 hu7 => ?_)
        have h := ts_lt h hu7
        refine tv_iload_n C (pc := 39) dX7_digit_39 rfl rfl ?_
        cases h
        exact tv_iret C (pc := 40) rfl dX7_digit_40 ⟨Nat.le_of_ble_eq_true rfl, Nat.le_of_ble_eq_true rfl⟩
set_option maxRecDepth 100000 in
set_option maxHeartbeats 4000000 in
theorem lt_X7_readNumber_9 {D : va_G} {dT : Nat → ClassId} {sz : Nat} {p : Program} {l : Launch} {e : Env} {R : Room} {s : State} {m : MethodId} {args : Array Value} {below : List Frame} {meth : Method} {c : Code} {d : Nat} {ad : ts_I → Nat} {kk nn : Nat} {Q : State → Prop} (hl : l.stackTraces = false) (C : ts_CX D dT sz p l R s m args meth c RX7 cX7_readNumber 3 (some .int) d) (hdd : 2 ≤ d)  (hkn : kk ≤ R.cells ∧ nn ≤ R.slots) : ∀ (n : Nat) (v1 : Int32) (v2 : Int32) (u : ts_Mem) (q : (Int32 × Int32 × ts_Mem)) (h : lp_X7_readNumber_9 n v1 v2 u = some q) (K : ts_V D dT sz p l e R s m args below meth c 3 Q ad ts_lv ts_R0 65 [some (.inr (30, 0, 0)), some (.inl (.int q.1)), some (.inl (.int q.2.1))] [] q.2.2 kk nn), ts_V D dT sz p l e R s m args below meth c 3 Q ad ts_lv ts_R0 9 [some (.inr (30, 0, 0)), some (.inl (.int v1)), some (.inl (.int v2))] [] u kk nn
  | 0, _, _, _, _, h, _ => by cases h
  | n + 1, v1, v2, u, q, h, K => by
      rw [lp_X7_readNumber_9] at h
      refine tv_iload_n C (pc := 9) dX7_readNumber_9 rfl rfl ?_
      refine tv_iconst C (pc := 10) dX7_readNumber_10 (v := (3 : Int32)) rfl ?_
      refine tv_icmp_ge C (pc := 11) 65 dX7_readNumber_11 (by decide) (fun hc => ?_) (fun hc => ?_)
      · have h := ts_ifp h hc
        cases h
        exact K
      · have h := ts_ifn h hc
        refine tv_aload_n C (pc := 14) dX7_readNumber_14 rfl rfl ?_
        refine tv_getI C (pc := 15) dX7_readNumber_15 fl_X7_196 (ts_live (k := 30) (by decide) (by decide) (by decide)) rfl (cd := 0) rfl (by decide) ?_
        refine tv_iconst C (pc := 18) dX7_readNumber_18 (v := (-1 : Int32)) rfl ?_
        refine tv_icmp_ne C (pc := 19) 65 dX7_readNumber_19 (by decide) (fun hc => ?_) (fun hc => ?_)
        · have h := ts_ifn h hc
          cases h
          exact K
        · have h := ts_ifp h hc
          refine tv_aload_n C (pc := 22) dX7_readNumber_22 rfl rfl ?_
          obtain ⟨q2, hq2, h⟩ := ts_bd h
          refine tv_callV C (pc := 23) dX7_readNumber_23 (ci := 7) (q := (RX7, TX7, 37)) rfl yl_X7_199 (m_X7_sign (D := D) (dT := dT) (sz := sz) (ad := ad) hl  u q2 hq2) (ts_live (k := 30) (by decide) (by decide) (by decide)) rfl (Nat.le_trans (Nat.le_of_ble_eq_true rfl) hdd) (As := []) rfl ⟨hkn.1, hkn.2⟩ (fun _ => Nat.le_of_ble_eq_true rfl) rfl ?_
          refine tv_bipush C (pc := 26) dX7_readNumber_26 (v := (48 : Int32)) rfl ?_
          refine tv_bipush C (pc := 28) dX7_readNumber_28 (v := (57 : Int32)) rfl ?_
          obtain ⟨q3, hq3, h⟩ := ts_bd h
          refine tv_callS C (pc := 30) dX7_readNumber_30 yl_X7_95 (m_X7_isIn (D := D) (dT := dT) (sz := sz) (ad := ad) hl q2 (48 : Int32) (57 : Int32) u q3 hq3) (Nat.le_trans (Nat.le_of_ble_eq_true rfl) hdd) (As := [.inl (.int q2), .inl (.int (48 : Int32)), .inl (.int (57 : Int32))]) rfl ⟨hkn.1, hkn.2⟩ (fun _ => Nat.le_of_ble_eq_true rfl) rfl ?_
          refine tv_if_eq C (pc := 33) 65 dX7_readNumber_33 (by decide) (fun hc => ?_) (fun hc => ?_)
          · have h := ts_ifp h hc
            cases h
            exact K
          · have h := ts_ifn h hc
            refine tv_bipush C (pc := 36) dX7_readNumber_36 (v := (10 : Int32)) rfl ?_
            refine tv_iload_n C (pc := 38) dX7_readNumber_38 rfl rfl ?_
            refine tv_imul C (pc := 39) dX7_readNumber_39 ?_
            refine tv_aload_n C (pc := 40) dX7_readNumber_40 rfl rfl ?_
            obtain ⟨q4, hq4, h⟩ := ts_bd h
            refine tv_callV C (pc := 41) dX7_readNumber_41 (ci := 7) (q := (RX7, TX7, 37)) rfl yl_X7_199 (m_X7_sign (D := D) (dT := dT) (sz := sz) (ad := ad) hl  u q4 hq4) (ts_live (k := 30) (by decide) (by decide) (by decide)) rfl (Nat.le_trans (Nat.le_of_ble_eq_true rfl) hdd) (As := []) rfl ⟨hkn.1, hkn.2⟩ (fun _ => Nat.le_of_ble_eq_true rfl) rfl ?_
            refine tv_iadd C (pc := 44) dX7_readNumber_44 ?_
            refine tv_bipush C (pc := 45) dX7_readNumber_45 (v := (48 : Int32)) rfl ?_
            refine tv_isub C (pc := 47) dX7_readNumber_47 ?_
            refine tv_nmI (fun x5 hx5 => ?_)
            have h := ts_lt h hx5
            refine tv_istore_n C (pc := 48) dX7_readNumber_48 (L' := [some (.inr (30, 0, 0)), some (.inl (.int x5)), some (.inl (.int v2))]) rfl (by decide) rfl rfl ?_
            refine tv_aload_n C (pc := 49) dX7_readNumber_49 rfl rfl ?_
            refine tv_dup C (pc := 50) dX7_readNumber_50 (fun _ => rfl) ?_
            refine tv_getI C (pc := 51) dX7_readNumber_51 fl_X7_190 (ts_live (k := 30) (by decide) (by decide) (by decide)) rfl (cd := 0) rfl (by decide) ?_
            refine tv_iconst C (pc := 54) dX7_readNumber_54 (v := (1 : Int32)) rfl ?_
            refine tv_iadd C (pc := 55) dX7_readNumber_55 ?_
            refine tv_putI C (pc := 56) dX7_readNumber_56 fp_X7_190 (ts_live (k := 30) (by decide) (by decide) (by decide)) rfl (cd := 0) rfl (by decide) rfl rfl ?_
            refine tv_nu (fun u6 hu6 => ?_)
            have h := ts_lt h hu6
            refine tv_iinc C (pc := 59) dX7_readNumber_59 (v := (v2 + (1 : Int32))) (L' := [some (.inr (30, 0, 0)), some (.inl (.int x5)), some (.inl (.int (v2 + (1 : Int32))))]) rfl rfl (by decide) rfl rfl ?_
            refine tv_goto C (pc := 62) 9 dX7_readNumber_62 (by decide) ?_
            exact lt_X7_readNumber_9 hl C hdd  hkn n x5 (v2 + (1 : Int32)) u6 q h K
set_option maxRecDepth 100000 in
set_option maxHeartbeats 4000000 in
theorem m_X7_readNumber {l : Launch} {D : va_G} {dT : Nat → ClassId} {sz : Nat} {ad : ts_I → Nat} (hl : l.stackTraces = false)  (u : ts_Mem) (r : (Int32 × ts_Mem)) (h : f_X7_readNumber  u = some r) : ts_M l D dT sz yX7_readNumber wX7_readNumber 2 0 0 ad ts_lv ts_R0 [.inr (30, 0, 0)] u (.inl (some (.int r.1))) r.2 := by
    unfold f_X7_readNumber at h
    refine ts_enter hl (by decide) rfl rfl (Nat.le_of_ble_eq_true rfl) ?_
    intro p e s m args below meth c C hX hnm
    have C : ts_CX D dT sz p l (ts_rm 2 0 0) s m args meth c RX7 cX7_readNumber 3 (some .int) 2 := C
    have hdd : 2 ≤ 2 := Nat.le_refl _
    refine tv_aload_n C (pc := 0) dX7_readNumber_0 rfl rfl ?_
    refine tv_bipush C (pc := 1) dX7_readNumber_1 (v := (57 : Int32)) rfl ?_
    obtain ⟨q1, hq1, h⟩ := ts_bd h
    refine tv_callV C (pc := 3) dX7_readNumber_3 (ci := 7) (q := (RX7, TX7, 37)) rfl yl_X7_205 (m_X7_digit (D := D) (dT := dT) (sz := sz) (ad := ad) hl (57 : Int32) u q1 hq1) (ts_live (k := 30) (by decide) (by decide) (by decide)) rfl (Nat.le_trans (Nat.le_of_ble_eq_true rfl) hdd) (As := [.inl (.int (57 : Int32))]) rfl ⟨Nat.le_of_ble_eq_true rfl, Nat.le_of_ble_eq_true rfl⟩ (fun _ => Nat.le_of_ble_eq_true rfl) rfl ?_
    refine tv_istore_n C (pc := 6) dX7_readNumber_6 (L' := [some (.inr (30, 0, 0)), some (.inl (.int q1.1)), none]) rfl (by decide) rfl rfl ?_
    refine tv_iconst C (pc := 7) dX7_readNumber_7 (v := (0 : Int32)) rfl ?_
    refine tv_istore_n C (pc := 8) dX7_readNumber_8 (L' := [some (.inr (30, 0, 0)), some (.inl (.int q1.1)), some (.inl (.int (0 : Int32)))]) rfl (by decide) rfl rfl ?_
    obtain ⟨q7, hq7, h⟩ := ts_bd h
    refine lt_X7_readNumber_9 hl C hdd  ⟨Nat.le_of_ble_eq_true rfl, Nat.le_of_ble_eq_true rfl⟩ ts_fu q1.1 (0 : Int32) q1.2 q7 hq7 ?_
    refine tv_iload_n C (pc := 65) dX7_readNumber_65 rfl rfl ?_
    cases h
    exact tv_iret C (pc := 66) rfl dX7_readNumber_66 ⟨Nat.le_of_ble_eq_true rfl, Nat.le_of_ble_eq_true rfl⟩
set_option maxRecDepth 100000 in
set_option maxHeartbeats 4000000 in
theorem m_X7_readOperation {l : Launch} {D : va_G} {dT : Nat → ClassId} {sz : Nat} {ad : ts_I → Nat} (hl : l.stackTraces = false)  (u : ts_Mem) (r : ts_Mem) (h : f_X7_readOperation  u = some r) : ts_M l D dT sz yX7_readOperation wX7_readOperation 3 0 0 ad ts_lv ts_R0 [.inr (30, 0, 0)] u (.inl none) r := by
    unfold f_X7_readOperation at h
    refine ts_enter hl (by decide) rfl rfl (Nat.le_of_ble_eq_true rfl) ?_
    intro p e s m args below meth c C hX hnm
    have C : ts_CX D dT sz p l (ts_rm 3 0 0) s m args meth c RX7 cX7_readOperation 4 none 3 := C
    have hdd : 3 ≤ 3 := Nat.le_refl _
    refine tv_aload_n C (pc := 0) dX7_readOperation_0 rfl rfl ?_
    refine tv_bipush C (pc := 1) dX7_readOperation_1 (v := (114 : Int32)) rfl ?_
    obtain ⟨q1, hq1, h⟩ := ts_bd h
    refine tv_callV C (pc := 3) dX7_readOperation_3 (ci := 7) (q := (RX7, TX7, 37)) rfl yl_X7_209 (m_X7_goes (D := D) (dT := dT) (sz := sz) (ad := ad) hl (114 : Int32) u q1 hq1) (ts_live (k := 30) (by decide) (by decide) (by decide)) rfl (Nat.le_trans (Nat.le_of_ble_eq_true rfl) hdd) (As := [.inl (.int (114 : Int32))]) rfl ⟨Nat.le_of_ble_eq_true rfl, Nat.le_of_ble_eq_true rfl⟩ (fun _ => Nat.le_of_ble_eq_true rfl) rfl ?_
    refine tv_if_eq C (pc := 6) 13 dX7_readOperation_6 (by decide) (fun hc => ?_) (fun hc => ?_)
    · have h := ts_ifp h hc
      refine tv_aload_n C (pc := 13) dX7_readOperation_13 rfl rfl ?_
      refine tv_bipush C (pc := 14) dX7_readOperation_14 (v := (119 : Int32)) rfl ?_
      obtain ⟨q2, hq2, h⟩ := ts_bd h
      refine tv_callV C (pc := 16) dX7_readOperation_16 (ci := 7) (q := (RX7, TX7, 37)) rfl yl_X7_209 (m_X7_goes (D := D) (dT := dT) (sz := sz) (ad := ad) hl (119 : Int32) q1.2 q2 hq2) (ts_live (k := 30) (by decide) (by decide) (by decide)) rfl (Nat.le_trans (Nat.le_of_ble_eq_true rfl) hdd) (As := [.inl (.int (119 : Int32))]) rfl ⟨Nat.le_of_ble_eq_true rfl, Nat.le_of_ble_eq_true rfl⟩ (fun _ => Nat.le_of_ble_eq_true rfl) rfl ?_
      refine tv_if_eq C (pc := 19) 26 dX7_readOperation_19 (by decide) (fun hc => ?_) (fun hc => ?_)
      · have h := ts_ifp h hc
        refine tv_aload_n C (pc := 26) dX7_readOperation_26 rfl rfl ?_
        refine tv_bipush C (pc := 27) dX7_readOperation_27 (v := (97 : Int32)) rfl ?_
        obtain ⟨q3, hq3, h⟩ := ts_bd h
        refine tv_callV C (pc := 29) dX7_readOperation_29 (ci := 7) (q := (RX7, TX7, 37)) rfl yl_X7_209 (m_X7_goes (D := D) (dT := dT) (sz := sz) (ad := ad) hl (97 : Int32) q2.2 q3 hq3) (ts_live (k := 30) (by decide) (by decide) (by decide)) rfl (Nat.le_trans (Nat.le_of_ble_eq_true rfl) hdd) (As := [.inl (.int (97 : Int32))]) rfl ⟨Nat.le_of_ble_eq_true rfl, Nat.le_of_ble_eq_true rfl⟩ (fun _ => Nat.le_of_ble_eq_true rfl) rfl ?_
        refine tv_if_eq C (pc := 32) 39 dX7_readOperation_32 (by decide) (fun hc => ?_) (fun hc => ?_)
        · have h := ts_ifp h hc
          refine tv_iconst C (pc := 39) dX7_readOperation_39 (v := (-1 : Int32)) rfl ?_
          refine tv_istore_n C (pc := 40) dX7_readOperation_40 (L' := [some (.inr (30, 0, 0)), some (.inl (.int (-1 : Int32))), none, none]) rfl (by decide) rfl rfl ?_
          refine tv_iload_n C (pc := 41) dX7_readOperation_41 rfl rfl ?_
          refine tv_iconst C (pc := 42) dX7_readOperation_42 (v := (-1 : Int32)) rfl ?_
          refine tv_icmp_ne C (pc := 43) 51 dX7_readOperation_43 (by decide) (fun hc => absurd hc (by decide)) (fun _ => ?_)
          refine tv_aload_n C (pc := 46) dX7_readOperation_46 rfl rfl ?_
          obtain ⟨q4, hq4, h⟩ := ts_bd h
          refine tv_callV C (pc := 47) dX7_readOperation_47 (ci := 7) (q := (RX7, TX7, 37)) rfl yl_X7_203 (m_X7_fault (D := D) (dT := dT) (sz := sz) (ad := ad) hl  q3.2 q4 hq4) (ts_live (k := 30) (by decide) (by decide) (by decide)) rfl (Nat.le_trans (Nat.le_of_ble_eq_true rfl) hdd) (As := []) rfl ⟨Nat.le_of_ble_eq_true rfl, Nat.le_of_ble_eq_true rfl⟩ (fun _ => Nat.le_of_ble_eq_true rfl) rfl ?_
          cases h
          exact tv_vret C (pc := 50) rfl dX7_readOperation_50 ⟨Nat.le_of_ble_eq_true rfl, Nat.le_of_ble_eq_true rfl⟩
        · have h := ts_ifn h hc
          refine tv_iconst C (pc := 35) dX7_readOperation_35 (v := (2 : Int32)) rfl ?_
          refine tv_goto C (pc := 36) 40 dX7_readOperation_36 (by decide) ?_
          refine tv_istore_n C (pc := 40) dX7_readOperation_40 (L' := [some (.inr (30, 0, 0)), some (.inl (.int (2 : Int32))), none, none]) rfl (by decide) rfl rfl ?_
          refine tv_iload_n C (pc := 41) dX7_readOperation_41 rfl rfl ?_
          refine tv_iconst C (pc := 42) dX7_readOperation_42 (v := (-1 : Int32)) rfl ?_
          refine tv_icmp_ne C (pc := 43) 51 dX7_readOperation_43 (by decide) (fun _ => ?_) (fun hc => absurd hc (by decide))
          refine tv_iconst C (pc := 51) dX7_readOperation_51 (v := (3 : Int32)) rfl ?_
          refine tv_aload_n C (pc := 52) dX7_readOperation_52 rfl rfl ?_
          refine tv_getI C (pc := 53) dX7_readOperation_53 fl_X7_213 (ts_live (k := 30) (by decide) (by decide) (by decide)) rfl (cd := 0) rfl (by decide) ?_
          refine tv_imul C (pc := 56) dX7_readOperation_56 ?_
          refine tv_nmI (fun x5 hx5 => ?_)
          have h := ts_lt h hx5
          refine tv_istore_n C (pc := 57) dX7_readOperation_57 (L' := [some (.inr (30, 0, 0)), some (.inl (.int (2 : Int32))), some (.inl (.int x5)), none]) rfl (by decide) rfl rfl ?_
          refine tv_aload_n C (pc := 58) dX7_readOperation_58 rfl rfl ?_
          refine tv_getR C (pc := 59) dX7_readOperation_59 fl_X7_62 (ts_live (k := 30) (by decide) (by decide) (by decide)) rfl rfl (i2 := (43, 0, 0)) rfl ?_
          refine tv_iload_n C (pc := 62) dX7_readOperation_62 rfl rfl ?_
          refine tv_iload_n C (pc := 63) dX7_readOperation_63 rfl rfl ?_
          obtain ⟨hr6, h⟩ := ts_gd h
          refine tv_iastore C (pc := 64) dX7_readOperation_64 (ts_live (k := 43) (by decide) (by decide) (by decide)) rfl hr6 (j := x5.toNatClampNeg) rfl ?_
          refine tv_nu (fun u7 hu7 => ?_)
          have h := ts_lt h hu7
          refine tv_aload_n C (pc := 65) dX7_readOperation_65 rfl rfl ?_
          refine tv_getR C (pc := 66) dX7_readOperation_66 fl_X7_62 (ts_live (k := 30) (by decide) (by decide) (by decide)) rfl rfl (i2 := (43, 0, 0)) rfl ?_
          refine tv_iload_n C (pc := 69) dX7_readOperation_69 rfl rfl ?_
          refine tv_iconst C (pc := 70) dX7_readOperation_70 (v := (1 : Int32)) rfl ?_
          refine tv_iadd C (pc := 71) dX7_readOperation_71 ?_
          refine tv_aload_n C (pc := 72) dX7_readOperation_72 rfl rfl ?_
          refine tv_bipush C (pc := 73) dX7_readOperation_73 (v := (55 : Int32)) rfl ?_
          obtain ⟨q8, hq8, h⟩ := ts_bd h
          refine tv_callV C (pc := 75) dX7_readOperation_75 (ci := 7) (q := (RX7, TX7, 37)) rfl yl_X7_205 (m_X7_digit (D := D) (dT := dT) (sz := sz) (ad := ad) hl (55 : Int32) u7 q8 hq8) (ts_live (k := 30) (by decide) (by decide) (by decide)) rfl (Nat.le_trans (Nat.le_of_ble_eq_true rfl) hdd) (As := [.inl (.int (55 : Int32))]) rfl ⟨Nat.le_of_ble_eq_true rfl, Nat.le_of_ble_eq_true rfl⟩ (fun _ => Nat.le_of_ble_eq_true rfl) rfl ?_
          obtain ⟨hr9, h⟩ := ts_gd h
          refine tv_iastore C (pc := 78) dX7_readOperation_78 (ts_live (k := 43) (by decide) (by decide) (by decide)) rfl hr9 (j := ((x5 + (1 : Int32))).toNatClampNeg) rfl ?_
          refine tv_nu (fun u10 hu10 => ?_)
          have h := ts_lt h hu10
          refine tv_aload_n C (pc := 79) dX7_readOperation_79 rfl rfl ?_
          refine tv_getR C (pc := 80) dX7_readOperation_80 fl_X7_62 (ts_live (k := 30) (by decide) (by decide) (by decide)) rfl rfl (i2 := (43, 0, 0)) rfl ?_
          refine tv_iload_n C (pc := 83) dX7_readOperation_83 rfl rfl ?_
          refine tv_iconst C (pc := 84) dX7_readOperation_84 (v := (2 : Int32)) rfl ?_
          refine tv_iadd C (pc := 85) dX7_readOperation_85 ?_
          refine tv_iconst C (pc := 86) dX7_readOperation_86 (v := (0 : Int32)) rfl ?_
          obtain ⟨hr11, h⟩ := ts_gd h
          refine tv_iastore C (pc := 87) dX7_readOperation_87 (ts_live (k := 43) (by decide) (by decide) (by decide)) rfl hr11 (j := ((x5 + (2 : Int32))).toNatClampNeg) rfl ?_
          refine tv_nu (fun u12 hu12 => ?_)
          have h := ts_lt h hu12
          refine tv_iload_n C (pc := 88) dX7_readOperation_88 rfl rfl ?_
          refine tv_iconst C (pc := 89) dX7_readOperation_89 (v := (1 : Int32)) rfl ?_
          refine tv_icmp_ne C (pc := 90) 138 dX7_readOperation_90 (by decide) (fun _ => ?_) (fun hc => absurd hc (by decide))
          refine tv_iload_n C (pc := 138) dX7_readOperation_138 rfl rfl ?_
          refine tv_iconst C (pc := 139) dX7_readOperation_139 (v := (2 : Int32)) rfl ?_
          refine tv_icmp_ne C (pc := 140) 189 dX7_readOperation_140 (by decide) (fun hc => absurd hc (by decide)) (fun _ => ?_)
          refine tv_aload_n C (pc := 143) dX7_readOperation_143 rfl rfl ?_
          refine tv_bipush C (pc := 144) dX7_readOperation_144 (v := (43 : Int32)) rfl ?_
          obtain ⟨q13, hq13, h⟩ := ts_bd h
          refine tv_callV C (pc := 146) dX7_readOperation_146 (ci := 7) (q := (RX7, TX7, 37)) rfl yl_X7_209 (m_X7_goes (D := D) (dT := dT) (sz := sz) (ad := ad) hl (43 : Int32) u12 q13 hq13) (ts_live (k := 30) (by decide) (by decide) (by decide)) rfl (Nat.le_trans (Nat.le_of_ble_eq_true rfl) hdd) (As := [.inl (.int (43 : Int32))]) rfl ⟨Nat.le_of_ble_eq_true rfl, Nat.le_of_ble_eq_true rfl⟩ (fun _ => Nat.le_of_ble_eq_true rfl) rfl ?_
          refine tv_if_eq C (pc := 149) 156 dX7_readOperation_149 (by decide) (fun hc => ?_) (fun hc => ?_)
          · have h := ts_ifp h hc
            refine tv_iconst C (pc := 156) dX7_readOperation_156 (v := (-1 : Int32)) rfl ?_
            refine tv_istore_n C (pc := 157) dX7_readOperation_157 (L' := [some (.inr (30, 0, 0)), some (.inl (.int (2 : Int32))), some (.inl (.int x5)), some (.inl (.int (-1 : Int32)))]) rfl (by decide) rfl rfl ?_
            refine tv_iload_n C (pc := 158) dX7_readOperation_158 rfl rfl ?_
            refine tv_if_ge C (pc := 159) 175 dX7_readOperation_159 (by decide) (fun hc => absurd hc (by decide)) (fun _ => ?_)
            refine tv_aload_n C (pc := 162) dX7_readOperation_162 rfl rfl ?_
            refine tv_bipush C (pc := 163) dX7_readOperation_163 (v := (45 : Int32)) rfl ?_
            obtain ⟨q14, hq14, h⟩ := ts_bd h
            refine tv_callV C (pc := 165) dX7_readOperation_165 (ci := 7) (q := (RX7, TX7, 37)) rfl yl_X7_209 (m_X7_goes (D := D) (dT := dT) (sz := sz) (ad := ad) hl (45 : Int32) q13.2 q14 hq14) (ts_live (k := 30) (by decide) (by decide) (by decide)) rfl (Nat.le_trans (Nat.le_of_ble_eq_true rfl) hdd) (As := [.inl (.int (45 : Int32))]) rfl ⟨Nat.le_of_ble_eq_true rfl, Nat.le_of_ble_eq_true rfl⟩ (fun _ => Nat.le_of_ble_eq_true rfl) rfl ?_
            refine tv_if_ne C (pc := 168) 175 dX7_readOperation_168 (by decide) (fun hc => ?_) (fun hc => ?_)
            · have h := ts_ifn h hc
              refine tv_aload_n C (pc := 175) dX7_readOperation_175 rfl rfl ?_
              refine tv_getR C (pc := 176) dX7_readOperation_176 fl_X7_62 (ts_live (k := 30) (by decide) (by decide) (by decide)) rfl rfl (i2 := (43, 0, 0)) rfl ?_
              refine tv_iload_n C (pc := 179) dX7_readOperation_179 rfl rfl ?_
              refine tv_iconst C (pc := 180) dX7_readOperation_180 (v := (2 : Int32)) rfl ?_
              refine tv_iadd C (pc := 181) dX7_readOperation_181 ?_
              refine tv_iload_n C (pc := 182) dX7_readOperation_182 rfl rfl ?_
              refine tv_aload_n C (pc := 183) dX7_readOperation_183 rfl rfl ?_
              obtain ⟨q15, hq15, h⟩ := ts_bd h
              refine tv_callV C (pc := 184) dX7_readOperation_184 (ci := 7) (q := (RX7, TX7, 37)) rfl yl_X7_216 (m_X7_readNumber (D := D) (dT := dT) (sz := sz) (ad := ad) hl  q14.2 q15 hq15) (ts_live (k := 30) (by decide) (by decide) (by decide)) rfl (Nat.le_trans (Nat.le_of_ble_eq_true rfl) hdd) (As := []) rfl ⟨Nat.le_of_ble_eq_true rfl, Nat.le_of_ble_eq_true rfl⟩ (fun _ => Nat.le_of_ble_eq_true rfl) rfl ?_
              refine tv_imul C (pc := 187) dX7_readOperation_187 ?_
              obtain ⟨hr16, h⟩ := ts_gd h
              refine tv_iastore C (pc := 188) dX7_readOperation_188 (ts_live (k := 43) (by decide) (by decide) (by decide)) rfl hr16 (j := ((x5 + (2 : Int32))).toNatClampNeg) rfl ?_
              refine tv_nu (fun u17 hu17 => ?_)
              have h := ts_lt h hu17
              refine tv_aload_n C (pc := 189) dX7_readOperation_189 rfl rfl ?_
              refine tv_dup C (pc := 190) dX7_readOperation_190 (fun _ => rfl) ?_
              refine tv_getI C (pc := 191) dX7_readOperation_191 fl_X7_213 (ts_live (k := 30) (by decide) (by decide) (by decide)) rfl (cd := 0) rfl (by decide) ?_
              refine tv_iconst C (pc := 194) dX7_readOperation_194 (v := (1 : Int32)) rfl ?_
              refine tv_iadd C (pc := 195) dX7_readOperation_195 ?_
              refine tv_putI C (pc := 196) dX7_readOperation_196 fp_X7_213 (ts_live (k := 30) (by decide) (by decide) (by decide)) rfl (cd := 0) rfl (by decide) rfl rfl ?_
              refine tv_nu (fun u18 hu18 => ?_)
              have h := ts_lt h hu18
              cases h
              exact tv_vret C (pc := 199) rfl dX7_readOperation_199 ⟨Nat.le_of_ble_eq_true rfl, Nat.le_of_ble_eq_true rfl⟩
            · have h := ts_ifp h hc
              refine tv_aload_n C (pc := 171) dX7_readOperation_171 rfl rfl ?_
              obtain ⟨q19, hq19, h⟩ := ts_bd h
              refine tv_callV C (pc := 172) dX7_readOperation_172 (ci := 7) (q := (RX7, TX7, 37)) rfl yl_X7_203 (m_X7_fault (D := D) (dT := dT) (sz := sz) (ad := ad) hl  q14.2 q19 hq19) (ts_live (k := 30) (by decide) (by decide) (by decide)) rfl (Nat.le_trans (Nat.le_of_ble_eq_true rfl) hdd) (As := []) rfl ⟨Nat.le_of_ble_eq_true rfl, Nat.le_of_ble_eq_true rfl⟩ (fun _ => Nat.le_of_ble_eq_true rfl) rfl ?_
              refine tv_aload_n C (pc := 175) dX7_readOperation_175 rfl rfl ?_
              refine tv_getR C (pc := 176) dX7_readOperation_176 fl_X7_62 (ts_live (k := 30) (by decide) (by decide) (by decide)) rfl rfl (i2 := (43, 0, 0)) rfl ?_
              refine tv_iload_n C (pc := 179) dX7_readOperation_179 rfl rfl ?_
              refine tv_iconst C (pc := 180) dX7_readOperation_180 (v := (2 : Int32)) rfl ?_
              refine tv_iadd C (pc := 181) dX7_readOperation_181 ?_
              refine tv_iload_n C (pc := 182) dX7_readOperation_182 rfl rfl ?_
              refine tv_aload_n C (pc := 183) dX7_readOperation_183 rfl rfl ?_
              obtain ⟨q20, hq20, h⟩ := ts_bd h
              refine tv_callV C (pc := 184) dX7_readOperation_184 (ci := 7) (q := (RX7, TX7, 37)) rfl yl_X7_216 (m_X7_readNumber (D := D) (dT := dT) (sz := sz) (ad := ad) hl  q19 q20 hq20) (ts_live (k := 30) (by decide) (by decide) (by decide)) rfl (Nat.le_trans (Nat.le_of_ble_eq_true rfl) hdd) (As := []) rfl ⟨Nat.le_of_ble_eq_true rfl, Nat.le_of_ble_eq_true rfl⟩ (fun _ => Nat.le_of_ble_eq_true rfl) rfl ?_
              refine tv_imul C (pc := 187) dX7_readOperation_187 ?_
              obtain ⟨hr21, h⟩ := ts_gd h
              refine tv_iastore C (pc := 188) dX7_readOperation_188 (ts_live (k := 43) (by decide) (by decide) (by decide)) rfl hr21 (j := ((x5 + (2 : Int32))).toNatClampNeg) rfl ?_
              refine tv_nu (fun u22 hu22 => ?_)
              have h := ts_lt h hu22
              refine tv_aload_n C (pc := 189) dX7_readOperation_189 rfl rfl ?_
              refine tv_dup C (pc := 190) dX7_readOperation_190 (fun _ => rfl) ?_
              refine tv_getI C (pc := 191) dX7_readOperation_191 fl_X7_213 (ts_live (k := 30) (by decide) (by decide) (by decide)) rfl (cd := 0) rfl (by decide) ?_
              refine tv_iconst C (pc := 194) dX7_readOperation_194 (v := (1 : Int32)) rfl ?_
              refine tv_iadd C (pc := 195) dX7_readOperation_195 ?_
              refine tv_putI C (pc := 196) dX7_readOperation_196 fp_X7_213 (ts_live (k := 30) (by decide) (by decide) (by decide)) rfl (cd := 0) rfl (by decide) rfl rfl ?_
              refine tv_nu (fun u23 hu23 => ?_)
              have h := ts_lt h hu23
              cases h
              exact tv_vret C (pc := 199) rfl dX7_readOperation_199 ⟨Nat.le_of_ble_eq_true rfl, Nat.le_of_ble_eq_true rfl⟩
          · have h := ts_ifn h hc
            refine tv_iconst C (pc := 152) dX7_readOperation_152 (v := (1 : Int32)) rfl ?_
            refine tv_goto C (pc := 153) 157 dX7_readOperation_153 (by decide) ?_
            refine tv_istore_n C (pc := 157) dX7_readOperation_157 (L' := [some (.inr (30, 0, 0)), some (.inl (.int (2 : Int32))), some (.inl (.int x5)), some (.inl (.int (1 : Int32)))]) rfl (by decide) rfl rfl ?_
            refine tv_iload_n C (pc := 158) dX7_readOperation_158 rfl rfl ?_
            refine tv_if_ge C (pc := 159) 175 dX7_readOperation_159 (by decide) (fun _ => ?_) (fun hc => absurd hc (by decide))
            refine tv_aload_n C (pc := 175) dX7_readOperation_175 rfl rfl ?_
            refine tv_getR C (pc := 176) dX7_readOperation_176 fl_X7_62 (ts_live (k := 30) (by decide) (by decide) (by decide)) rfl rfl (i2 := (43, 0, 0)) rfl ?_
            refine tv_iload_n C (pc := 179) dX7_readOperation_179 rfl rfl ?_
            refine tv_iconst C (pc := 180) dX7_readOperation_180 (v := (2 : Int32)) rfl ?_
            refine tv_iadd C (pc := 181) dX7_readOperation_181 ?_
            refine tv_iload_n C (pc := 182) dX7_readOperation_182 rfl rfl ?_
            refine tv_aload_n C (pc := 183) dX7_readOperation_183 rfl rfl ?_
            obtain ⟨q24, hq24, h⟩ := ts_bd h
            refine tv_callV C (pc := 184) dX7_readOperation_184 (ci := 7) (q := (RX7, TX7, 37)) rfl yl_X7_216 (m_X7_readNumber (D := D) (dT := dT) (sz := sz) (ad := ad) hl  q13.2 q24 hq24) (ts_live (k := 30) (by decide) (by decide) (by decide)) rfl (Nat.le_trans (Nat.le_of_ble_eq_true rfl) hdd) (As := []) rfl ⟨Nat.le_of_ble_eq_true rfl, Nat.le_of_ble_eq_true rfl⟩ (fun _ => Nat.le_of_ble_eq_true rfl) rfl ?_
            refine tv_imul C (pc := 187) dX7_readOperation_187 ?_
            obtain ⟨hr25, h⟩ := ts_gd h
            refine tv_iastore C (pc := 188) dX7_readOperation_188 (ts_live (k := 43) (by decide) (by decide) (by decide)) rfl hr25 (j := ((x5 + (2 : Int32))).toNatClampNeg) rfl ?_
            refine tv_nu (fun u26 hu26 => ?_)
            have h := ts_lt h hu26
            refine tv_aload_n C (pc := 189) dX7_readOperation_189 rfl rfl ?_
            refine tv_dup C (pc := 190) dX7_readOperation_190 (fun _ => rfl) ?_
            refine tv_getI C (pc := 191) dX7_readOperation_191 fl_X7_213 (ts_live (k := 30) (by decide) (by decide) (by decide)) rfl (cd := 0) rfl (by decide) ?_
            refine tv_iconst C (pc := 194) dX7_readOperation_194 (v := (1 : Int32)) rfl ?_
            refine tv_iadd C (pc := 195) dX7_readOperation_195 ?_
            refine tv_putI C (pc := 196) dX7_readOperation_196 fp_X7_213 (ts_live (k := 30) (by decide) (by decide) (by decide)) rfl (cd := 0) rfl (by decide) rfl rfl ?_
            refine tv_nu (fun u27 hu27 => ?_)
            have h := ts_lt h hu27
            cases h
            exact tv_vret C (pc := 199) rfl dX7_readOperation_199 ⟨Nat.le_of_ble_eq_true rfl, Nat.le_of_ble_eq_true rfl⟩
      · have h := ts_ifn h hc
        refine tv_iconst C (pc := 22) dX7_readOperation_22 (v := (1 : Int32)) rfl ?_
        refine tv_goto C (pc := 23) 40 dX7_readOperation_23 (by decide) ?_
        refine tv_istore_n C (pc := 40) dX7_readOperation_40 (L' := [some (.inr (30, 0, 0)), some (.inl (.int (1 : Int32))), none, none]) rfl (by decide) rfl rfl ?_
        refine tv_iload_n C (pc := 41) dX7_readOperation_41 rfl rfl ?_
        refine tv_iconst C (pc := 42) dX7_readOperation_42 (v := (-1 : Int32)) rfl ?_
        refine tv_icmp_ne C (pc := 43) 51 dX7_readOperation_43 (by decide) (fun _ => ?_) (fun hc => absurd hc (by decide))
        refine tv_iconst C (pc := 51) dX7_readOperation_51 (v := (3 : Int32)) rfl ?_
        refine tv_aload_n C (pc := 52) dX7_readOperation_52 rfl rfl ?_
        refine tv_getI C (pc := 53) dX7_readOperation_53 fl_X7_213 (ts_live (k := 30) (by decide) (by decide) (by decide)) rfl (cd := 0) rfl (by decide) ?_
        refine tv_imul C (pc := 56) dX7_readOperation_56 ?_
        refine tv_nmI (fun x28 hx28 => ?_)
        have h := ts_lt h hx28
        refine tv_istore_n C (pc := 57) dX7_readOperation_57 (L' := [some (.inr (30, 0, 0)), some (.inl (.int (1 : Int32))), some (.inl (.int x28)), none]) rfl (by decide) rfl rfl ?_
        refine tv_aload_n C (pc := 58) dX7_readOperation_58 rfl rfl ?_
        refine tv_getR C (pc := 59) dX7_readOperation_59 fl_X7_62 (ts_live (k := 30) (by decide) (by decide) (by decide)) rfl rfl (i2 := (43, 0, 0)) rfl ?_
        refine tv_iload_n C (pc := 62) dX7_readOperation_62 rfl rfl ?_
        refine tv_iload_n C (pc := 63) dX7_readOperation_63 rfl rfl ?_
        obtain ⟨hr29, h⟩ := ts_gd h
        refine tv_iastore C (pc := 64) dX7_readOperation_64 (ts_live (k := 43) (by decide) (by decide) (by decide)) rfl hr29 (j := x28.toNatClampNeg) rfl ?_
        refine tv_nu (fun u30 hu30 => ?_)
        have h := ts_lt h hu30
        refine tv_aload_n C (pc := 65) dX7_readOperation_65 rfl rfl ?_
        refine tv_getR C (pc := 66) dX7_readOperation_66 fl_X7_62 (ts_live (k := 30) (by decide) (by decide) (by decide)) rfl rfl (i2 := (43, 0, 0)) rfl ?_
        refine tv_iload_n C (pc := 69) dX7_readOperation_69 rfl rfl ?_
        refine tv_iconst C (pc := 70) dX7_readOperation_70 (v := (1 : Int32)) rfl ?_
        refine tv_iadd C (pc := 71) dX7_readOperation_71 ?_
        refine tv_aload_n C (pc := 72) dX7_readOperation_72 rfl rfl ?_
        refine tv_bipush C (pc := 73) dX7_readOperation_73 (v := (55 : Int32)) rfl ?_
        obtain ⟨q31, hq31, h⟩ := ts_bd h
        refine tv_callV C (pc := 75) dX7_readOperation_75 (ci := 7) (q := (RX7, TX7, 37)) rfl yl_X7_205 (m_X7_digit (D := D) (dT := dT) (sz := sz) (ad := ad) hl (55 : Int32) u30 q31 hq31) (ts_live (k := 30) (by decide) (by decide) (by decide)) rfl (Nat.le_trans (Nat.le_of_ble_eq_true rfl) hdd) (As := [.inl (.int (55 : Int32))]) rfl ⟨Nat.le_of_ble_eq_true rfl, Nat.le_of_ble_eq_true rfl⟩ (fun _ => Nat.le_of_ble_eq_true rfl) rfl ?_
        obtain ⟨hr32, h⟩ := ts_gd h
        refine tv_iastore C (pc := 78) dX7_readOperation_78 (ts_live (k := 43) (by decide) (by decide) (by decide)) rfl hr32 (j := ((x28 + (1 : Int32))).toNatClampNeg) rfl ?_
        refine tv_nu (fun u33 hu33 => ?_)
        have h := ts_lt h hu33
        refine tv_aload_n C (pc := 79) dX7_readOperation_79 rfl rfl ?_
        refine tv_getR C (pc := 80) dX7_readOperation_80 fl_X7_62 (ts_live (k := 30) (by decide) (by decide) (by decide)) rfl rfl (i2 := (43, 0, 0)) rfl ?_
        refine tv_iload_n C (pc := 83) dX7_readOperation_83 rfl rfl ?_
        refine tv_iconst C (pc := 84) dX7_readOperation_84 (v := (2 : Int32)) rfl ?_
        refine tv_iadd C (pc := 85) dX7_readOperation_85 ?_
        refine tv_iconst C (pc := 86) dX7_readOperation_86 (v := (0 : Int32)) rfl ?_
        obtain ⟨hr34, h⟩ := ts_gd h
        refine tv_iastore C (pc := 87) dX7_readOperation_87 (ts_live (k := 43) (by decide) (by decide) (by decide)) rfl hr34 (j := ((x28 + (2 : Int32))).toNatClampNeg) rfl ?_
        refine tv_nu (fun u35 hu35 => ?_)
        have h := ts_lt h hu35
        refine tv_iload_n C (pc := 88) dX7_readOperation_88 rfl rfl ?_
        refine tv_iconst C (pc := 89) dX7_readOperation_89 (v := (1 : Int32)) rfl ?_
        refine tv_icmp_ne C (pc := 90) 138 dX7_readOperation_90 (by decide) (fun hc => absurd hc (by decide)) (fun _ => ?_)
        refine tv_aload_n C (pc := 93) dX7_readOperation_93 rfl rfl ?_
        refine tv_bipush C (pc := 94) dX7_readOperation_94 (v := (61 : Int32)) rfl ?_
        obtain ⟨q36, hq36, h⟩ := ts_bd h
        refine tv_callV C (pc := 96) dX7_readOperation_96 (ci := 7) (q := (RX7, TX7, 37)) rfl yl_X7_209 (m_X7_goes (D := D) (dT := dT) (sz := sz) (ad := ad) hl (61 : Int32) u35 q36 hq36) (ts_live (k := 30) (by decide) (by decide) (by decide)) rfl (Nat.le_trans (Nat.le_of_ble_eq_true rfl) hdd) (As := [.inl (.int (61 : Int32))]) rfl ⟨Nat.le_of_ble_eq_true rfl, Nat.le_of_ble_eq_true rfl⟩ (fun _ => Nat.le_of_ble_eq_true rfl) rfl ?_
        refine tv_if_ne C (pc := 99) 106 dX7_readOperation_99 (by decide) (fun hc => ?_) (fun hc => ?_)
        · have h := ts_ifn h hc
          refine tv_aload_n C (pc := 106) dX7_readOperation_106 rfl rfl ?_
          refine tv_bipush C (pc := 107) dX7_readOperation_107 (v := (45 : Int32)) rfl ?_
          obtain ⟨q37, hq37, h⟩ := ts_bd h
          refine tv_callV C (pc := 109) dX7_readOperation_109 (ci := 7) (q := (RX7, TX7, 37)) rfl yl_X7_209 (m_X7_goes (D := D) (dT := dT) (sz := sz) (ad := ad) hl (45 : Int32) q36.2 q37 hq37) (ts_live (k := 30) (by decide) (by decide) (by decide)) rfl (Nat.le_trans (Nat.le_of_ble_eq_true rfl) hdd) (As := [.inl (.int (45 : Int32))]) rfl ⟨Nat.le_of_ble_eq_true rfl, Nat.le_of_ble_eq_true rfl⟩ (fun _ => Nat.le_of_ble_eq_true rfl) rfl ?_
          refine tv_if_eq C (pc := 112) 119 dX7_readOperation_112 (by decide) (fun hc => ?_) (fun hc => ?_)
          · have h := ts_ifp h hc
            refine tv_iconst C (pc := 119) dX7_readOperation_119 (v := (1 : Int32)) rfl ?_
            refine tv_istore_n C (pc := 120) dX7_readOperation_120 (L' := [some (.inr (30, 0, 0)), some (.inl (.int (1 : Int32))), some (.inl (.int x28)), some (.inl (.int (1 : Int32)))]) rfl (by decide) rfl rfl ?_
            refine tv_aload_n C (pc := 121) dX7_readOperation_121 rfl rfl ?_
            refine tv_getR C (pc := 122) dX7_readOperation_122 fl_X7_62 (ts_live (k := 30) (by decide) (by decide) (by decide)) rfl rfl (i2 := (43, 0, 0)) rfl ?_
            refine tv_iload_n C (pc := 125) dX7_readOperation_125 rfl rfl ?_
            refine tv_iconst C (pc := 126) dX7_readOperation_126 (v := (2 : Int32)) rfl ?_
            refine tv_iadd C (pc := 127) dX7_readOperation_127 ?_
            refine tv_iload_n C (pc := 128) dX7_readOperation_128 rfl rfl ?_
            refine tv_aload_n C (pc := 129) dX7_readOperation_129 rfl rfl ?_
            obtain ⟨q38, hq38, h⟩ := ts_bd h
            refine tv_callV C (pc := 130) dX7_readOperation_130 (ci := 7) (q := (RX7, TX7, 37)) rfl yl_X7_216 (m_X7_readNumber (D := D) (dT := dT) (sz := sz) (ad := ad) hl  q37.2 q38 hq38) (ts_live (k := 30) (by decide) (by decide) (by decide)) rfl (Nat.le_trans (Nat.le_of_ble_eq_true rfl) hdd) (As := []) rfl ⟨Nat.le_of_ble_eq_true rfl, Nat.le_of_ble_eq_true rfl⟩ (fun _ => Nat.le_of_ble_eq_true rfl) rfl ?_
            refine tv_imul C (pc := 133) dX7_readOperation_133 ?_
            obtain ⟨hr39, h⟩ := ts_gd h
            refine tv_iastore C (pc := 134) dX7_readOperation_134 (ts_live (k := 43) (by decide) (by decide) (by decide)) rfl hr39 (j := ((x28 + (2 : Int32))).toNatClampNeg) rfl ?_
            refine tv_nu (fun u40 hu40 => ?_)
            have h := ts_lt h hu40
            refine tv_goto C (pc := 135) 189 dX7_readOperation_135 (by decide) ?_
            refine tv_aload_n C (pc := 189) dX7_readOperation_189 rfl rfl ?_
            refine tv_dup C (pc := 190) dX7_readOperation_190 (fun _ => rfl) ?_
            refine tv_getI C (pc := 191) dX7_readOperation_191 fl_X7_213 (ts_live (k := 30) (by decide) (by decide) (by decide)) rfl (cd := 0) rfl (by decide) ?_
            refine tv_iconst C (pc := 194) dX7_readOperation_194 (v := (1 : Int32)) rfl ?_
            refine tv_iadd C (pc := 195) dX7_readOperation_195 ?_
            refine tv_putI C (pc := 196) dX7_readOperation_196 fp_X7_213 (ts_live (k := 30) (by decide) (by decide) (by decide)) rfl (cd := 0) rfl (by decide) rfl rfl ?_
            refine tv_nu (fun u41 hu41 => ?_)
            have h := ts_lt h hu41
            cases h
            exact tv_vret C (pc := 199) rfl dX7_readOperation_199 ⟨Nat.le_of_ble_eq_true rfl, Nat.le_of_ble_eq_true rfl⟩
          · have h := ts_ifn h hc
            refine tv_iconst C (pc := 115) dX7_readOperation_115 (v := (-1 : Int32)) rfl ?_
            refine tv_goto C (pc := 116) 120 dX7_readOperation_116 (by decide) ?_
            refine tv_istore_n C (pc := 120) dX7_readOperation_120 (L' := [some (.inr (30, 0, 0)), some (.inl (.int (1 : Int32))), some (.inl (.int x28)), some (.inl (.int (-1 : Int32)))]) rfl (by decide) rfl rfl ?_
            refine tv_aload_n C (pc := 121) dX7_readOperation_121 rfl rfl ?_
            refine tv_getR C (pc := 122) dX7_readOperation_122 fl_X7_62 (ts_live (k := 30) (by decide) (by decide) (by decide)) rfl rfl (i2 := (43, 0, 0)) rfl ?_
            refine tv_iload_n C (pc := 125) dX7_readOperation_125 rfl rfl ?_
            refine tv_iconst C (pc := 126) dX7_readOperation_126 (v := (2 : Int32)) rfl ?_
            refine tv_iadd C (pc := 127) dX7_readOperation_127 ?_
            refine tv_iload_n C (pc := 128) dX7_readOperation_128 rfl rfl ?_
            refine tv_aload_n C (pc := 129) dX7_readOperation_129 rfl rfl ?_
            obtain ⟨q42, hq42, h⟩ := ts_bd h
            refine tv_callV C (pc := 130) dX7_readOperation_130 (ci := 7) (q := (RX7, TX7, 37)) rfl yl_X7_216 (m_X7_readNumber (D := D) (dT := dT) (sz := sz) (ad := ad) hl  q37.2 q42 hq42) (ts_live (k := 30) (by decide) (by decide) (by decide)) rfl (Nat.le_trans (Nat.le_of_ble_eq_true rfl) hdd) (As := []) rfl ⟨Nat.le_of_ble_eq_true rfl, Nat.le_of_ble_eq_true rfl⟩ (fun _ => Nat.le_of_ble_eq_true rfl) rfl ?_
            refine tv_imul C (pc := 133) dX7_readOperation_133 ?_
            obtain ⟨hr43, h⟩ := ts_gd h
            refine tv_iastore C (pc := 134) dX7_readOperation_134 (ts_live (k := 43) (by decide) (by decide) (by decide)) rfl hr43 (j := ((x28 + (2 : Int32))).toNatClampNeg) rfl ?_
            refine tv_nu (fun u44 hu44 => ?_)
            have h := ts_lt h hu44
            refine tv_goto C (pc := 135) 189 dX7_readOperation_135 (by decide) ?_
            refine tv_aload_n C (pc := 189) dX7_readOperation_189 rfl rfl ?_
            refine tv_dup C (pc := 190) dX7_readOperation_190 (fun _ => rfl) ?_
            refine tv_getI C (pc := 191) dX7_readOperation_191 fl_X7_213 (ts_live (k := 30) (by decide) (by decide) (by decide)) rfl (cd := 0) rfl (by decide) ?_
            refine tv_iconst C (pc := 194) dX7_readOperation_194 (v := (1 : Int32)) rfl ?_
            refine tv_iadd C (pc := 195) dX7_readOperation_195 ?_
            refine tv_putI C (pc := 196) dX7_readOperation_196 fp_X7_213 (ts_live (k := 30) (by decide) (by decide) (by decide)) rfl (cd := 0) rfl (by decide) rfl rfl ?_
            refine tv_nu (fun u45 hu45 => ?_)
            have h := ts_lt h hu45
            cases h
            exact tv_vret C (pc := 199) rfl dX7_readOperation_199 ⟨Nat.le_of_ble_eq_true rfl, Nat.le_of_ble_eq_true rfl⟩
        · have h := ts_ifp h hc
          refine tv_aload_n C (pc := 102) dX7_readOperation_102 rfl rfl ?_
          obtain ⟨q46, hq46, h⟩ := ts_bd h
          refine tv_callV C (pc := 103) dX7_readOperation_103 (ci := 7) (q := (RX7, TX7, 37)) rfl yl_X7_203 (m_X7_fault (D := D) (dT := dT) (sz := sz) (ad := ad) hl  q36.2 q46 hq46) (ts_live (k := 30) (by decide) (by decide) (by decide)) rfl (Nat.le_trans (Nat.le_of_ble_eq_true rfl) hdd) (As := []) rfl ⟨Nat.le_of_ble_eq_true rfl, Nat.le_of_ble_eq_true rfl⟩ (fun _ => Nat.le_of_ble_eq_true rfl) rfl ?_
          refine tv_aload_n C (pc := 106) dX7_readOperation_106 rfl rfl ?_
          refine tv_bipush C (pc := 107) dX7_readOperation_107 (v := (45 : Int32)) rfl ?_
          obtain ⟨q47, hq47, h⟩ := ts_bd h
          refine tv_callV C (pc := 109) dX7_readOperation_109 (ci := 7) (q := (RX7, TX7, 37)) rfl yl_X7_209 (m_X7_goes (D := D) (dT := dT) (sz := sz) (ad := ad) hl (45 : Int32) q46 q47 hq47) (ts_live (k := 30) (by decide) (by decide) (by decide)) rfl (Nat.le_trans (Nat.le_of_ble_eq_true rfl) hdd) (As := [.inl (.int (45 : Int32))]) rfl ⟨Nat.le_of_ble_eq_true rfl, Nat.le_of_ble_eq_true rfl⟩ (fun _ => Nat.le_of_ble_eq_true rfl) rfl ?_
          refine tv_if_eq C (pc := 112) 119 dX7_readOperation_112 (by decide) (fun hc => ?_) (fun hc => ?_)
          · have h := ts_ifp h hc
            refine tv_iconst C (pc := 119) dX7_readOperation_119 (v := (1 : Int32)) rfl ?_
            refine tv_istore_n C (pc := 120) dX7_readOperation_120 (L' := [some (.inr (30, 0, 0)), some (.inl (.int (1 : Int32))), some (.inl (.int x28)), some (.inl (.int (1 : Int32)))]) rfl (by decide) rfl rfl ?_
            refine tv_aload_n C (pc := 121) dX7_readOperation_121 rfl rfl ?_
            refine tv_getR C (pc := 122) dX7_readOperation_122 fl_X7_62 (ts_live (k := 30) (by decide) (by decide) (by decide)) rfl rfl (i2 := (43, 0, 0)) rfl ?_
            refine tv_iload_n C (pc := 125) dX7_readOperation_125 rfl rfl ?_
            refine tv_iconst C (pc := 126) dX7_readOperation_126 (v := (2 : Int32)) rfl ?_
            refine tv_iadd C (pc := 127) dX7_readOperation_127 ?_
            refine tv_iload_n C (pc := 128) dX7_readOperation_128 rfl rfl ?_
            refine tv_aload_n C (pc := 129) dX7_readOperation_129 rfl rfl ?_
            obtain ⟨q48, hq48, h⟩ := ts_bd h
            refine tv_callV C (pc := 130) dX7_readOperation_130 (ci := 7) (q := (RX7, TX7, 37)) rfl yl_X7_216 (m_X7_readNumber (D := D) (dT := dT) (sz := sz) (ad := ad) hl  q47.2 q48 hq48) (ts_live (k := 30) (by decide) (by decide) (by decide)) rfl (Nat.le_trans (Nat.le_of_ble_eq_true rfl) hdd) (As := []) rfl ⟨Nat.le_of_ble_eq_true rfl, Nat.le_of_ble_eq_true rfl⟩ (fun _ => Nat.le_of_ble_eq_true rfl) rfl ?_
            refine tv_imul C (pc := 133) dX7_readOperation_133 ?_
            obtain ⟨hr49, h⟩ := ts_gd h
            refine tv_iastore C (pc := 134) dX7_readOperation_134 (ts_live (k := 43) (by decide) (by decide) (by decide)) rfl hr49 (j := ((x28 + (2 : Int32))).toNatClampNeg) rfl ?_
            refine tv_nu (fun u50 hu50 => ?_)
            have h := ts_lt h hu50
            refine tv_goto C (pc := 135) 189 dX7_readOperation_135 (by decide) ?_
            refine tv_aload_n C (pc := 189) dX7_readOperation_189 rfl rfl ?_
            refine tv_dup C (pc := 190) dX7_readOperation_190 (fun _ => rfl) ?_
            refine tv_getI C (pc := 191) dX7_readOperation_191 fl_X7_213 (ts_live (k := 30) (by decide) (by decide) (by decide)) rfl (cd := 0) rfl (by decide) ?_
            refine tv_iconst C (pc := 194) dX7_readOperation_194 (v := (1 : Int32)) rfl ?_
            refine tv_iadd C (pc := 195) dX7_readOperation_195 ?_
            refine tv_putI C (pc := 196) dX7_readOperation_196 fp_X7_213 (ts_live (k := 30) (by decide) (by decide) (by decide)) rfl (cd := 0) rfl (by decide) rfl rfl ?_
            refine tv_nu (fun u51 hu51 => ?_)
            have h := ts_lt h hu51
            cases h
            exact tv_vret C (pc := 199) rfl dX7_readOperation_199 ⟨Nat.le_of_ble_eq_true rfl, Nat.le_of_ble_eq_true rfl⟩
          · have h := ts_ifn h hc
            refine tv_iconst C (pc := 115) dX7_readOperation_115 (v := (-1 : Int32)) rfl ?_
            refine tv_goto C (pc := 116) 120 dX7_readOperation_116 (by decide) ?_
            refine tv_istore_n C (pc := 120) dX7_readOperation_120 (L' := [some (.inr (30, 0, 0)), some (.inl (.int (1 : Int32))), some (.inl (.int x28)), some (.inl (.int (-1 : Int32)))]) rfl (by decide) rfl rfl ?_
            refine tv_aload_n C (pc := 121) dX7_readOperation_121 rfl rfl ?_
            refine tv_getR C (pc := 122) dX7_readOperation_122 fl_X7_62 (ts_live (k := 30) (by decide) (by decide) (by decide)) rfl rfl (i2 := (43, 0, 0)) rfl ?_
            refine tv_iload_n C (pc := 125) dX7_readOperation_125 rfl rfl ?_
            refine tv_iconst C (pc := 126) dX7_readOperation_126 (v := (2 : Int32)) rfl ?_
            refine tv_iadd C (pc := 127) dX7_readOperation_127 ?_
            refine tv_iload_n C (pc := 128) dX7_readOperation_128 rfl rfl ?_
            refine tv_aload_n C (pc := 129) dX7_readOperation_129 rfl rfl ?_
            obtain ⟨q52, hq52, h⟩ := ts_bd h
            refine tv_callV C (pc := 130) dX7_readOperation_130 (ci := 7) (q := (RX7, TX7, 37)) rfl yl_X7_216 (m_X7_readNumber (D := D) (dT := dT) (sz := sz) (ad := ad) hl  q47.2 q52 hq52) (ts_live (k := 30) (by decide) (by decide) (by decide)) rfl (Nat.le_trans (Nat.le_of_ble_eq_true rfl) hdd) (As := []) rfl ⟨Nat.le_of_ble_eq_true rfl, Nat.le_of_ble_eq_true rfl⟩ (fun _ => Nat.le_of_ble_eq_true rfl) rfl ?_
            refine tv_imul C (pc := 133) dX7_readOperation_133 ?_
            obtain ⟨hr53, h⟩ := ts_gd h
            refine tv_iastore C (pc := 134) dX7_readOperation_134 (ts_live (k := 43) (by decide) (by decide) (by decide)) rfl hr53 (j := ((x28 + (2 : Int32))).toNatClampNeg) rfl ?_
            refine tv_nu (fun u54 hu54 => ?_)
            have h := ts_lt h hu54
            refine tv_goto C (pc := 135) 189 dX7_readOperation_135 (by decide) ?_
            refine tv_aload_n C (pc := 189) dX7_readOperation_189 rfl rfl ?_
            refine tv_dup C (pc := 190) dX7_readOperation_190 (fun _ => rfl) ?_
            refine tv_getI C (pc := 191) dX7_readOperation_191 fl_X7_213 (ts_live (k := 30) (by decide) (by decide) (by decide)) rfl (cd := 0) rfl (by decide) ?_
            refine tv_iconst C (pc := 194) dX7_readOperation_194 (v := (1 : Int32)) rfl ?_
            refine tv_iadd C (pc := 195) dX7_readOperation_195 ?_
            refine tv_putI C (pc := 196) dX7_readOperation_196 fp_X7_213 (ts_live (k := 30) (by decide) (by decide) (by decide)) rfl (cd := 0) rfl (by decide) rfl rfl ?_
            refine tv_nu (fun u55 hu55 => ?_)
            have h := ts_lt h hu55
            cases h
            exact tv_vret C (pc := 199) rfl dX7_readOperation_199 ⟨Nat.le_of_ble_eq_true rfl, Nat.le_of_ble_eq_true rfl⟩
    · have h := ts_ifn h hc
      refine tv_iconst C (pc := 9) dX7_readOperation_9 (v := (0 : Int32)) rfl ?_
      refine tv_goto C (pc := 10) 40 dX7_readOperation_10 (by decide) ?_
      refine tv_istore_n C (pc := 40) dX7_readOperation_40 (L' := [some (.inr (30, 0, 0)), some (.inl (.int (0 : Int32))), none, none]) rfl (by decide) rfl rfl ?_
      refine tv_iload_n C (pc := 41) dX7_readOperation_41 rfl rfl ?_
      refine tv_iconst C (pc := 42) dX7_readOperation_42 (v := (-1 : Int32)) rfl ?_
      refine tv_icmp_ne C (pc := 43) 51 dX7_readOperation_43 (by decide) (fun _ => ?_) (fun hc => absurd hc (by decide))
      refine tv_iconst C (pc := 51) dX7_readOperation_51 (v := (3 : Int32)) rfl ?_
      refine tv_aload_n C (pc := 52) dX7_readOperation_52 rfl rfl ?_
      refine tv_getI C (pc := 53) dX7_readOperation_53 fl_X7_213 (ts_live (k := 30) (by decide) (by decide) (by decide)) rfl (cd := 0) rfl (by decide) ?_
      refine tv_imul C (pc := 56) dX7_readOperation_56 ?_
      refine tv_nmI (fun x56 hx56 => ?_)
      have h := ts_lt h hx56
      refine tv_istore_n C (pc := 57) dX7_readOperation_57 (L' := [some (.inr (30, 0, 0)), some (.inl (.int (0 : Int32))), some (.inl (.int x56)), none]) rfl (by decide) rfl rfl ?_
      refine tv_aload_n C (pc := 58) dX7_readOperation_58 rfl rfl ?_
      refine tv_getR C (pc := 59) dX7_readOperation_59 fl_X7_62 (ts_live (k := 30) (by decide) (by decide) (by decide)) rfl rfl (i2 := (43, 0, 0)) rfl ?_
      refine tv_iload_n C (pc := 62) dX7_readOperation_62 rfl rfl ?_
      refine tv_iload_n C (pc := 63) dX7_readOperation_63 rfl rfl ?_
      obtain ⟨hr57, h⟩ := ts_gd h
      refine tv_iastore C (pc := 64) dX7_readOperation_64 (ts_live (k := 43) (by decide) (by decide) (by decide)) rfl hr57 (j := x56.toNatClampNeg) rfl ?_
      refine tv_nu (fun u58 hu58 => ?_)
      have h := ts_lt h hu58
      refine tv_aload_n C (pc := 65) dX7_readOperation_65 rfl rfl ?_
      refine tv_getR C (pc := 66) dX7_readOperation_66 fl_X7_62 (ts_live (k := 30) (by decide) (by decide) (by decide)) rfl rfl (i2 := (43, 0, 0)) rfl ?_
      refine tv_iload_n C (pc := 69) dX7_readOperation_69 rfl rfl ?_
      refine tv_iconst C (pc := 70) dX7_readOperation_70 (v := (1 : Int32)) rfl ?_
      refine tv_iadd C (pc := 71) dX7_readOperation_71 ?_
      refine tv_aload_n C (pc := 72) dX7_readOperation_72 rfl rfl ?_
      refine tv_bipush C (pc := 73) dX7_readOperation_73 (v := (55 : Int32)) rfl ?_
      obtain ⟨q59, hq59, h⟩ := ts_bd h
      refine tv_callV C (pc := 75) dX7_readOperation_75 (ci := 7) (q := (RX7, TX7, 37)) rfl yl_X7_205 (m_X7_digit (D := D) (dT := dT) (sz := sz) (ad := ad) hl (55 : Int32) u58 q59 hq59) (ts_live (k := 30) (by decide) (by decide) (by decide)) rfl (Nat.le_trans (Nat.le_of_ble_eq_true rfl) hdd) (As := [.inl (.int (55 : Int32))]) rfl ⟨Nat.le_of_ble_eq_true rfl, Nat.le_of_ble_eq_true rfl⟩ (fun _ => Nat.le_of_ble_eq_true rfl) rfl ?_
      obtain ⟨hr60, h⟩ := ts_gd h
      refine tv_iastore C (pc := 78) dX7_readOperation_78 (ts_live (k := 43) (by decide) (by decide) (by decide)) rfl hr60 (j := ((x56 + (1 : Int32))).toNatClampNeg) rfl ?_
      refine tv_nu (fun u61 hu61 => ?_)
      have h := ts_lt h hu61
      refine tv_aload_n C (pc := 79) dX7_readOperation_79 rfl rfl ?_
      refine tv_getR C (pc := 80) dX7_readOperation_80 fl_X7_62 (ts_live (k := 30) (by decide) (by decide) (by decide)) rfl rfl (i2 := (43, 0, 0)) rfl ?_
      refine tv_iload_n C (pc := 83) dX7_readOperation_83 rfl rfl ?_
      refine tv_iconst C (pc := 84) dX7_readOperation_84 (v := (2 : Int32)) rfl ?_
      refine tv_iadd C (pc := 85) dX7_readOperation_85 ?_
      refine tv_iconst C (pc := 86) dX7_readOperation_86 (v := (0 : Int32)) rfl ?_
      obtain ⟨hr62, h⟩ := ts_gd h
      refine tv_iastore C (pc := 87) dX7_readOperation_87 (ts_live (k := 43) (by decide) (by decide) (by decide)) rfl hr62 (j := ((x56 + (2 : Int32))).toNatClampNeg) rfl ?_
      refine tv_nu (fun u63 hu63 => ?_)
      have h := ts_lt h hu63
      refine tv_iload_n C (pc := 88) dX7_readOperation_88 rfl rfl ?_
      refine tv_iconst C (pc := 89) dX7_readOperation_89 (v := (1 : Int32)) rfl ?_
      refine tv_icmp_ne C (pc := 90) 138 dX7_readOperation_90 (by decide) (fun _ => ?_) (fun hc => absurd hc (by decide))
      refine tv_iload_n C (pc := 138) dX7_readOperation_138 rfl rfl ?_
      refine tv_iconst C (pc := 139) dX7_readOperation_139 (v := (2 : Int32)) rfl ?_
      refine tv_icmp_ne C (pc := 140) 189 dX7_readOperation_140 (by decide) (fun _ => ?_) (fun hc => absurd hc (by decide))
      refine tv_aload_n C (pc := 189) dX7_readOperation_189 rfl rfl ?_
      refine tv_dup C (pc := 190) dX7_readOperation_190 (fun _ => rfl) ?_
      refine tv_getI C (pc := 191) dX7_readOperation_191 fl_X7_213 (ts_live (k := 30) (by decide) (by decide) (by decide)) rfl (cd := 0) rfl (by decide) ?_
      refine tv_iconst C (pc := 194) dX7_readOperation_194 (v := (1 : Int32)) rfl ?_
      refine tv_iadd C (pc := 195) dX7_readOperation_195 ?_
      refine tv_putI C (pc := 196) dX7_readOperation_196 fp_X7_213 (ts_live (k := 30) (by decide) (by decide) (by decide)) rfl (cd := 0) rfl (by decide) rfl rfl ?_
      refine tv_nu (fun u64 hu64 => ?_)
      have h := ts_lt h hu64
      cases h
      exact tv_vret C (pc := 199) rfl dX7_readOperation_199 ⟨Nat.le_of_ble_eq_true rfl, Nat.le_of_ble_eq_true rfl⟩
set_option maxRecDepth 100000 in
set_option maxHeartbeats 4000000 in
theorem m_X7_ends {l : Launch} {D : va_G} {dT : Nat → ClassId} {sz : Nat} {ad : ts_I → Nat} (hl : l.stackTraces = false)  (u : ts_Mem) (r : (Int32 × ts_Mem)) (h : f_X7_ends  u = some r) : ts_M l D dT sz yX7_ends wX7_ends 2 0 0 ad ts_lv ts_R0 [.inr (30, 0, 0)] u (.inl (some (.int r.1))) r.2 := by
    unfold f_X7_ends at h
    refine ts_enter hl (by decide) rfl rfl (Nat.le_of_ble_eq_true rfl) ?_
    intro p e s m args below meth c C hX hnm
    have C : ts_CX D dT sz p l (ts_rm 2 0 0) s m args meth c RX7 cX7_ends 1 (some .boolean) 2 := C
    have hdd : 2 ≤ 2 := Nat.le_refl _
    refine tv_aload_n C (pc := 0) dX7_ends_0 rfl rfl ?_
    refine tv_aload_n C (pc := 1) dX7_ends_1 rfl rfl ?_
    refine tv_bipush C (pc := 2) dX7_ends_2 (v := (99 : Int32)) rfl ?_
    obtain ⟨q1, hq1, h⟩ := ts_bd h
    refine tv_callV C (pc := 4) dX7_ends_4 (ci := 7) (q := (RX7, TX7, 37)) rfl yl_X7_209 (m_X7_goes (D := D) (dT := dT) (sz := sz) (ad := ad) hl (99 : Int32) u q1 hq1) (ts_live (k := 30) (by decide) (by decide) (by decide)) rfl (Nat.le_trans (Nat.le_of_ble_eq_true rfl) hdd) (As := [.inl (.int (99 : Int32))]) rfl ⟨Nat.le_of_ble_eq_true rfl, Nat.le_of_ble_eq_true rfl⟩ (fun _ => Nat.le_of_ble_eq_true rfl) rfl ?_
    refine tv_if_eq C (pc := 7) 14 dX7_ends_7 (by decide) (fun hc => ?_) (fun hc => ?_)
    · have h := ts_ifp h hc
      refine tv_aload_n C (pc := 14) dX7_ends_14 rfl rfl ?_
      refine tv_bipush C (pc := 15) dX7_ends_15 (v := (120 : Int32)) rfl ?_
      obtain ⟨q2, hq2, h⟩ := ts_bd h
      refine tv_callV C (pc := 17) dX7_ends_17 (ci := 7) (q := (RX7, TX7, 37)) rfl yl_X7_209 (m_X7_goes (D := D) (dT := dT) (sz := sz) (ad := ad) hl (120 : Int32) q1.2 q2 hq2) (ts_live (k := 30) (by decide) (by decide) (by decide)) rfl (Nat.le_trans (Nat.le_of_ble_eq_true rfl) hdd) (As := [.inl (.int (120 : Int32))]) rfl ⟨Nat.le_of_ble_eq_true rfl, Nat.le_of_ble_eq_true rfl⟩ (fun _ => Nat.le_of_ble_eq_true rfl) rfl ?_
      refine tv_if_eq C (pc := 20) 27 dX7_ends_20 (by decide) (fun hc => ?_) (fun hc => ?_)
      · have h := ts_ifp h hc
        refine tv_iconst C (pc := 27) dX7_ends_27 (v := (0 : Int32)) rfl ?_
        refine tv_putI C (pc := 28) dX7_ends_28 fp_X7_219 (ts_live (k := 30) (by decide) (by decide) (by decide)) rfl (cd := 0) rfl (by decide) rfl rfl ?_
        refine tv_nu (fun u3 hu3 => ?_)
        have h := ts_lt h hu3
        refine tv_aload_n C (pc := 31) dX7_ends_31 rfl rfl ?_
        refine tv_getI C (pc := 32) dX7_ends_32 fl_X7_219 (ts_live (k := 30) (by decide) (by decide) (by decide)) rfl (cd := 0) rfl (by decide) ?_
        refine tv_if_le C (pc := 35) 42 dX7_ends_35 (by decide) (fun hc => ?_) (fun hc => ?_)
        · have h := ts_ifp h hc
          refine tv_iconst C (pc := 42) dX7_ends_42 (v := (0 : Int32)) rfl ?_
          cases h
          exact tv_zret C (pc := 43) (v := (0 : Int32)) rfl ts_nz0 dX7_ends_43 ⟨Nat.le_of_ble_eq_true rfl, Nat.le_of_ble_eq_true rfl⟩
        · have h := ts_ifn h hc
          refine tv_iconst C (pc := 38) dX7_ends_38 (v := (1 : Int32)) rfl ?_
          refine tv_goto C (pc := 39) 43 dX7_ends_39 (by decide) ?_
          cases h
          exact tv_zret C (pc := 43) (v := (1 : Int32)) rfl ts_nz1 dX7_ends_43 ⟨Nat.le_of_ble_eq_true rfl, Nat.le_of_ble_eq_true rfl⟩
      · have h := ts_ifn h hc
        refine tv_iconst C (pc := 23) dX7_ends_23 (v := (2 : Int32)) rfl ?_
        refine tv_goto C (pc := 24) 28 dX7_ends_24 (by decide) ?_
        refine tv_putI C (pc := 28) dX7_ends_28 fp_X7_219 (ts_live (k := 30) (by decide) (by decide) (by decide)) rfl (cd := 0) rfl (by decide) rfl rfl ?_
        refine tv_nu (fun u4 hu4 => ?_)
        have h := ts_lt h hu4
        refine tv_aload_n C (pc := 31) dX7_ends_31 rfl rfl ?_
        refine tv_getI C (pc := 32) dX7_ends_32 fl_X7_219 (ts_live (k := 30) (by decide) (by decide) (by decide)) rfl (cd := 0) rfl (by decide) ?_
        refine tv_if_le C (pc := 35) 42 dX7_ends_35 (by decide) (fun hc => ?_) (fun hc => ?_)
        · have h := ts_ifp h hc
          refine tv_iconst C (pc := 42) dX7_ends_42 (v := (0 : Int32)) rfl ?_
          cases h
          exact tv_zret C (pc := 43) (v := (0 : Int32)) rfl ts_nz0 dX7_ends_43 ⟨Nat.le_of_ble_eq_true rfl, Nat.le_of_ble_eq_true rfl⟩
        · have h := ts_ifn h hc
          refine tv_iconst C (pc := 38) dX7_ends_38 (v := (1 : Int32)) rfl ?_
          refine tv_goto C (pc := 39) 43 dX7_ends_39 (by decide) ?_
          cases h
          exact tv_zret C (pc := 43) (v := (1 : Int32)) rfl ts_nz1 dX7_ends_43 ⟨Nat.le_of_ble_eq_true rfl, Nat.le_of_ble_eq_true rfl⟩
    · have h := ts_ifn h hc
      refine tv_iconst C (pc := 10) dX7_ends_10 (v := (1 : Int32)) rfl ?_
      refine tv_goto C (pc := 11) 28 dX7_ends_11 (by decide) ?_
      refine tv_putI C (pc := 28) dX7_ends_28 fp_X7_219 (ts_live (k := 30) (by decide) (by decide) (by decide)) rfl (cd := 0) rfl (by decide) rfl rfl ?_
      refine tv_nu (fun u5 hu5 => ?_)
      have h := ts_lt h hu5
      refine tv_aload_n C (pc := 31) dX7_ends_31 rfl rfl ?_
      refine tv_getI C (pc := 32) dX7_ends_32 fl_X7_219 (ts_live (k := 30) (by decide) (by decide) (by decide)) rfl (cd := 0) rfl (by decide) ?_
      refine tv_if_le C (pc := 35) 42 dX7_ends_35 (by decide) (fun hc => ?_) (fun hc => ?_)
      · have h := ts_ifp h hc
        refine tv_iconst C (pc := 42) dX7_ends_42 (v := (0 : Int32)) rfl ?_
        cases h
        exact tv_zret C (pc := 43) (v := (0 : Int32)) rfl ts_nz0 dX7_ends_43 ⟨Nat.le_of_ble_eq_true rfl, Nat.le_of_ble_eq_true rfl⟩
      · have h := ts_ifn h hc
        refine tv_iconst C (pc := 38) dX7_ends_38 (v := (1 : Int32)) rfl ?_
        refine tv_goto C (pc := 39) 43 dX7_ends_39 (by decide) ?_
        cases h
        exact tv_zret C (pc := 43) (v := (1 : Int32)) rfl ts_nz1 dX7_ends_43 ⟨Nat.le_of_ble_eq_true rfl, Nat.le_of_ble_eq_true rfl⟩
set_option maxRecDepth 100000 in
set_option maxHeartbeats 4000000 in
theorem lt_X7_readProgram_19 {D : va_G} {dT : Nat → ClassId} {sz : Nat} {p : Program} {l : Launch} {e : Env} {R : Room} {s : State} {m : MethodId} {args : Array Value} {below : List Frame} {meth : Method} {c : Code} {d : Nat} {ad : ts_I → Nat} {kk nn : Nat} {Q : State → Prop} (hl : l.stackTraces = false) (C : ts_CX D dT sz p l R s m args meth c RX7 cX7_readProgram 1 none d) (hdd : 4 ≤ d)  (hkn : kk ≤ R.cells ∧ nn ≤ R.slots) : ∀ (n : Nat)  (u : ts_Mem) (q : Unit) (u2 : ts_Mem) (h : lp_X7_readProgram_19 n u = some (.inl q, u2)) (K : ts_V D dT sz p l e R s m args below meth c 1 Q ad ts_lv ts_R0 43 [some (.inr (30, 0, 0))] [] u2 kk nn), ts_V D dT sz p l e R s m args below meth c 1 Q ad ts_lv ts_R0 19 [some (.inr (30, 0, 0))] [] u kk nn
  | 0, _, _, _, h, _ => by cases h
  | n + 1, u, q, u2, h, K => by
      rw [lp_X7_readProgram_19] at h
      refine tv_aload_n C (pc := 19) dX7_readProgram_19 rfl rfl ?_
      refine tv_bipush C (pc := 20) dX7_readProgram_20 (v := (32 : Int32)) rfl ?_
      obtain ⟨q3, hq3, h⟩ := ts_bd h
      refine tv_callV C (pc := 22) dX7_readProgram_22 (ci := 7) (q := (RX7, TX7, 37)) rfl yl_X7_209 (m_X7_goes (D := D) (dT := dT) (sz := sz) (ad := ad) hl (32 : Int32) u q3 hq3) (ts_live (k := 30) (by decide) (by decide) (by decide)) rfl (Nat.le_trans (Nat.le_of_ble_eq_true rfl) hdd) (As := [.inl (.int (32 : Int32))]) rfl ⟨hkn.1, hkn.2⟩ (fun _ => Nat.le_of_ble_eq_true rfl) rfl ?_
      refine tv_if_eq C (pc := 25) 43 dX7_readProgram_25 (by decide) (fun hc => ?_) (fun hc => ?_)
      · have h := ts_ifp h hc
        cases h
        exact K
      · have h := ts_ifn h hc
        refine tv_aload_n C (pc := 28) dX7_readProgram_28 rfl rfl ?_
        obtain ⟨q4, hq4, h⟩ := ts_bd h
        refine tv_callV C (pc := 29) dX7_readProgram_29 (ci := 7) (q := (RX7, TX7, 37)) rfl yl_X7_222 (m_X7_ends (D := D) (dT := dT) (sz := sz) (ad := ad) hl  q3.2 q4 hq4) (ts_live (k := 30) (by decide) (by decide) (by decide)) rfl (Nat.le_trans (Nat.le_of_ble_eq_true rfl) hdd) (As := []) rfl ⟨hkn.1, hkn.2⟩ (fun _ => Nat.le_of_ble_eq_true rfl) rfl ?_
        refine tv_if_eq C (pc := 32) 36 dX7_readProgram_32 (by decide) (fun hc => ?_) (fun hc => ?_)
        · have h := ts_ifp h hc
          refine tv_aload_n C (pc := 36) dX7_readProgram_36 rfl rfl ?_
          obtain ⟨q5, hq5, h⟩ := ts_bd h
          refine tv_callV C (pc := 37) dX7_readProgram_37 (ci := 7) (q := (RX7, TX7, 37)) rfl yl_X7_226 (m_X7_readOperation (D := D) (dT := dT) (sz := sz) (ad := ad) hl  q4.2 q5 hq5) (ts_live (k := 30) (by decide) (by decide) (by decide)) rfl (Nat.le_trans (Nat.le_of_ble_eq_true rfl) hdd) (As := []) rfl ⟨hkn.1, hkn.2⟩ (fun _ => Nat.le_of_ble_eq_true rfl) rfl ?_
          refine tv_goto C (pc := 40) 19 dX7_readProgram_40 (by decide) ?_
          exact lt_X7_readProgram_19 hl C hdd  hkn n  q5 q u2 h K
        · have h := ts_ifn h hc
          cases h
set_option maxRecDepth 100000 in
set_option maxHeartbeats 4000000 in
theorem lt_X7_readProgram_19r {D : va_G} {dT : Nat → ClassId} {sz : Nat} {p : Program} {l : Launch} {e : Env} {R : Room} {s : State} {m : MethodId} {args : Array Value} {below : List Frame} {meth : Method} {c : Code} {d : Nat} {ad : ts_I → Nat} {kk nn : Nat} {mm nm : Nat} (hl : l.stackTraces = false) (C : ts_CX D dT sz p l R s m args meth c RX7 cX7_readProgram 1 none d) (hdd : 4 ≤ d)  (hkn : kk ≤ R.cells ∧ nn ≤ R.slots) (hmm : kk ≤ mm ∧ nn ≤ nm) : ∀ (n : Nat)  (u : ts_Mem) (q : Unit) (u2 : ts_Mem) (h : lp_X7_readProgram_19 n u = some (.inr q, u2)) (K : True), ts_V D dT sz p l e R s m args below meth c 1 (ts_Q below D dT sz ad ts_lv ts_R0 (.inl none) u2 args s mm nm) ad ts_lv ts_R0 19 [some (.inr (30, 0, 0))] [] u kk nn
  | 0, _, _, _, h, _ => by cases h
  | n + 1, u, q, u2, h, K => by
      rw [lp_X7_readProgram_19] at h
      refine tv_aload_n C (pc := 19) dX7_readProgram_19 rfl rfl ?_
      refine tv_bipush C (pc := 20) dX7_readProgram_20 (v := (32 : Int32)) rfl ?_
      obtain ⟨q3, hq3, h⟩ := ts_bd h
      refine tv_callV C (pc := 22) dX7_readProgram_22 (ci := 7) (q := (RX7, TX7, 37)) rfl yl_X7_209 (m_X7_goes (D := D) (dT := dT) (sz := sz) (ad := ad) hl (32 : Int32) u q3 hq3) (ts_live (k := 30) (by decide) (by decide) (by decide)) rfl (Nat.le_trans (Nat.le_of_ble_eq_true rfl) hdd) (As := [.inl (.int (32 : Int32))]) rfl ⟨hkn.1, hkn.2⟩ (fun _ => Nat.le_of_ble_eq_true rfl) rfl ?_
      refine tv_if_eq C (pc := 25) 43 dX7_readProgram_25 (by decide) (fun hc => ?_) (fun hc => ?_)
      · have h := ts_ifp h hc
        cases h
      · have h := ts_ifn h hc
        refine tv_aload_n C (pc := 28) dX7_readProgram_28 rfl rfl ?_
        obtain ⟨q4, hq4, h⟩ := ts_bd h
        refine tv_callV C (pc := 29) dX7_readProgram_29 (ci := 7) (q := (RX7, TX7, 37)) rfl yl_X7_222 (m_X7_ends (D := D) (dT := dT) (sz := sz) (ad := ad) hl  q3.2 q4 hq4) (ts_live (k := 30) (by decide) (by decide) (by decide)) rfl (Nat.le_trans (Nat.le_of_ble_eq_true rfl) hdd) (As := []) rfl ⟨hkn.1, hkn.2⟩ (fun _ => Nat.le_of_ble_eq_true rfl) rfl ?_
        refine tv_if_eq C (pc := 32) 36 dX7_readProgram_32 (by decide) (fun hc => ?_) (fun hc => ?_)
        · have h := ts_ifp h hc
          refine tv_aload_n C (pc := 36) dX7_readProgram_36 rfl rfl ?_
          obtain ⟨q5, hq5, h⟩ := ts_bd h
          refine tv_callV C (pc := 37) dX7_readProgram_37 (ci := 7) (q := (RX7, TX7, 37)) rfl yl_X7_226 (m_X7_readOperation (D := D) (dT := dT) (sz := sz) (ad := ad) hl  q4.2 q5 hq5) (ts_live (k := 30) (by decide) (by decide) (by decide)) rfl (Nat.le_trans (Nat.le_of_ble_eq_true rfl) hdd) (As := []) rfl ⟨hkn.1, hkn.2⟩ (fun _ => Nat.le_of_ble_eq_true rfl) rfl ?_
          refine tv_goto C (pc := 40) 19 dX7_readProgram_40 (by decide) ?_
          exact lt_X7_readProgram_19r hl C hdd  hkn hmm n  q5 q u2 h K
        · have h := ts_ifn h hc
          cases h
          exact tv_vret C (pc := 35) rfl dX7_readProgram_35 ⟨hmm.1, hmm.2⟩
set_option maxRecDepth 100000 in
set_option maxHeartbeats 4000000 in
theorem m_X7_readProgram {l : Launch} {D : va_G} {dT : Nat → ClassId} {sz : Nat} {ad : ts_I → Nat} (hl : l.stackTraces = false)  (u : ts_Mem) (r : ts_Mem) (h : f_X7_readProgram  u = some r) : ts_M l D dT sz yX7_readProgram wX7_readProgram 4 0 0 ad ts_lv ts_R0 [.inr (30, 0, 0)] u (.inl none) r := by
    unfold f_X7_readProgram at h
    refine ts_enter hl (by decide) rfl rfl (Nat.le_of_ble_eq_true rfl) ?_
    intro p e s m args below meth c C hX hnm
    have C : ts_CX D dT sz p l (ts_rm 4 0 0) s m args meth c RX7 cX7_readProgram 1 none 4 := C
    have hdd : 4 ≤ 4 := Nat.le_refl _
    refine tv_aload_n C (pc := 0) dX7_readProgram_0 rfl rfl ?_
    refine tv_getI C (pc := 1) dX7_readProgram_1 fl_X7_193 (ts_live (k := 30) (by decide) (by decide) (by decide)) rfl (cd := 0) rfl (by decide) ?_
    refine tv_if_eq C (pc := 4) 14 dX7_readProgram_4 (by decide) (fun hc => ?_) (fun hc => ?_)
    · have h := ts_ifp h hc
      cases h
      exact tv_vret C (pc := 14) rfl dX7_readProgram_14 ⟨Nat.le_of_ble_eq_true rfl, Nat.le_of_ble_eq_true rfl⟩
    · have h := ts_ifn h hc
      refine tv_aload_n C (pc := 7) dX7_readProgram_7 rfl rfl ?_
      obtain ⟨q1, hq1, h⟩ := ts_bd h
      refine tv_callV C (pc := 8) dX7_readProgram_8 (ci := 7) (q := (RX7, TX7, 37)) rfl yl_X7_222 (m_X7_ends (D := D) (dT := dT) (sz := sz) (ad := ad) hl  u q1 hq1) (ts_live (k := 30) (by decide) (by decide) (by decide)) rfl (Nat.le_trans (Nat.le_of_ble_eq_true rfl) hdd) (As := []) rfl ⟨Nat.le_of_ble_eq_true rfl, Nat.le_of_ble_eq_true rfl⟩ (fun _ => Nat.le_of_ble_eq_true rfl) rfl ?_
      refine tv_if_eq C (pc := 11) 15 dX7_readProgram_11 (by decide) (fun hc => ?_) (fun hc => ?_)
      · have h := ts_ifp h hc
        refine tv_aload_n C (pc := 15) dX7_readProgram_15 rfl rfl ?_
        obtain ⟨q2, hq2, h⟩ := ts_bd h
        refine tv_callV C (pc := 16) dX7_readProgram_16 (ci := 7) (q := (RX7, TX7, 37)) rfl yl_X7_226 (m_X7_readOperation (D := D) (dT := dT) (sz := sz) (ad := ad) hl  q1.2 q2 hq2) (ts_live (k := 30) (by decide) (by decide) (by decide)) rfl (Nat.le_trans (Nat.le_of_ble_eq_true rfl) hdd) (As := []) rfl ⟨Nat.le_of_ble_eq_true rfl, Nat.le_of_ble_eq_true rfl⟩ (fun _ => Nat.le_of_ble_eq_true rfl) rfl ?_
        obtain ⟨q6, hq6, h⟩ := ts_bd h
        obtain ⟨oq6, uq6⟩ := q6
        rcases oq6 with w7 | r8
        · have h := ts_eL h
          refine lt_X7_readProgram_19 hl C hdd  ⟨Nat.le_of_ble_eq_true rfl, Nat.le_of_ble_eq_true rfl⟩ ts_fu  q2 w7 uq6 hq6 ?_
          cases h
          exact tv_vret C (pc := 43) rfl dX7_readProgram_43 ⟨Nat.le_of_ble_eq_true rfl, Nat.le_of_ble_eq_true rfl⟩
        · have h := ts_eR h
          cases h
          exact lt_X7_readProgram_19r hl C hdd  ⟨Nat.le_of_ble_eq_true rfl, Nat.le_of_ble_eq_true rfl⟩ ⟨Nat.le_of_ble_eq_true rfl, Nat.le_of_ble_eq_true rfl⟩ ts_fu  q2 _ _ hq6 trivial
      · have h := ts_ifn h hc
        cases h
        exact tv_vret C (pc := 14) rfl dX7_readProgram_14 ⟨Nat.le_of_ble_eq_true rfl, Nat.le_of_ble_eq_true rfl⟩
