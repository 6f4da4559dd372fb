set_option maxRecDepth 100000 in
set_option maxHeartbeats 4000000 in
theorem m_L_reset {l : Launch} {D : va_G} {dT : Nat → ClassId} {sz : Nat} {ad : ts_I → Nat} (hl : l.stackTraces = false) (p1 : Int32) (u : ts_Mem) (r : (Int32 × ts_Mem)) (h : f_L_reset p1 u = some r) : ts_M l D dT sz yL_reset wL_reset 3 1 6 ad ts_lv ts_R0 [.inr (0, 0, 0), .inl (.int p1), .inr (50, 0, 0)] u (.inl (some (.int r.1))) r.2 := by
    unfold f_L_reset at h
    refine ts_enterX (hh := [(0, 9, 12, 13)]) hl (by decide) rfl rfl (Nat.le_of_ble_eq_true rfl) ?_
    intro p e s m args below meth c C hT
    have C : ts_CX D dT sz p l (ts_rm 3 1 6) s m args meth c RL cL_reset 4 (some .int) 3 := C
    have hdd : 3 ≤ 3 := Nat.le_refl _
    refine tv_aload_n C (pc := 0) dL_reset_0 rfl rfl ?_
    refine tv_iconst C (pc := 1) dL_reset_1 (v := (0 : Int32)) rfl ?_
    refine tv_aload_n C (pc := 2) dL_reset_2 rfl rfl ?_
    refine tv_iload_n C (pc := 3) dL_reset_3 rfl rfl ?_
    obtain ⟨q1, hq1, h⟩ := ts_bd h
    have Mq1 := (m_X6_reset (D := D) (dT := dT) (sz := sz) (ad := ad) hl p1 u q1 hq1)
    rcases hsq1 : q1.1 with v2 | e3 <;> rw [hsq1] at h Mq1
    · have h := ts_eL h
      refine tv_callV C (pc := 4) dL_reset_4 (ci := 6) (q := (RX6, TX6, 6)) rfl yl_L_7 Mq1 (ts_live (k := 0) (by decide) (by decide) (by decide)) rfl (Nat.le_trans (Nat.le_of_ble_eq_true rfl) hdd) (As := [.inl (.int p1)]) rfl ⟨Nat.le_of_ble_eq_true rfl, Nat.le_of_ble_eq_true rfl⟩ (fun _ => Nat.le_of_ble_eq_true rfl) rfl ?_
      refine tv_i2l C (pc := 7) dL_reset_7 ?_
      refine tv_lastore C (pc := 8) dL_reset_8 (ts_live (k := 50) (by decide) (by decide) (by decide)) rfl (by decide) (j := 0) (by decide) ?_
      refine tv_nu (fun u4 hu4 => ?_)
      have h := ts_lt h hu4
      refine tv_goto C (pc := 9) 15 dL_reset_9 (by decide) ?_
      refine tv_iconst C (pc := 15) dL_reset_15 (v := (0 : Int32)) rfl ?_
      cases h
      exact tv_iret C (pc := 16) rfl dL_reset_16 ⟨Nat.le_of_ble_eq_true rfl, Nat.le_of_ble_eq_true rfl⟩
    · have h := ts_eR h
      by_cases hE0 : e3 = "java/lang/IllegalArgumentException"
      · subst hE0
        have h := ts_ifp h rfl
        refine tv_callV_cat C (pc := 4) (E := "java/lang/IllegalArgumentException") (name := "") [] (ts_xe 0 9 12 13) [] hT (fun z hz => by simp at hz) (by decide) (by decide) (by decide) cl_L_13 ts_ca_IllegalArgumentException dL_reset_4 (ci := 6) (q := (RX6, TX6, 6)) rfl yl_L_7 Mq1 (ts_live (k := 0) (by decide) (by decide) (by decide)) rfl (Nat.le_trans (Nat.le_of_ble_eq_true rfl) hdd) (As := [.inl (.int p1)]) rfl ⟨Nat.le_of_ble_eq_true rfl, Nat.le_of_ble_eq_true rfl⟩ (fun _ => Nat.le_of_ble_eq_true rfl) rfl (fun a5 => ?_)
        refine tv_astoreX_n C (pc := 12) dL_reset_12 (L' := [some (.inr (0, 0, 0)), some (.inl (.int p1)), some (.inr (50, 0, 0)), none]) rfl (by decide) rfl rfl ?_
        refine tv_iconst C (pc := 13) dL_reset_13 (v := (1 : Int32)) rfl ?_
        cases h
        exact tv_iret C (pc := 14) rfl dL_reset_14 ⟨Nat.le_of_ble_eq_true rfl, Nat.le_of_ble_eq_true rfl⟩
      have h := ts_ifn h hE0
      cases h
set_option maxRecDepth 100000 in
set_option maxHeartbeats 4000000 in
theorem m_L_begin {l : Launch} {D : va_G} {dT : Nat → ClassId} {sz : Nat} {ad : ts_I → Nat} (hl : l.stackTraces = false) (p1 : Int32) (u : ts_Mem) (r : (Int32 × ts_Mem)) (h : f_L_begin p1 u = some r) : ts_M l D dT sz yL_begin wL_begin 3 2 12 ad ts_lv ts_R0 [.inr (0, 0, 0), .inl (.int p1), .inr (50, 0, 0)] u (.inl (some (.int r.1))) r.2 := by
    unfold f_L_begin at h
    refine ts_enterX (hh := [(0, 9, 12, 13), (0, 9, 15, 18)]) hl (by decide) rfl rfl (Nat.le_of_ble_eq_true rfl) ?_
    intro p e s m args below meth c C hT
    have C : ts_CX D dT sz p l (ts_rm 3 2 12) s m args meth c RL cL_begin 4 (some .int) 3 := C
    have hdd : 3 ≤ 3 := Nat.le_refl _
    refine tv_aload_n C (pc := 0) dL_begin_0 rfl rfl ?_
    refine tv_iconst C (pc := 1) dL_begin_1 (v := (0 : Int32)) rfl ?_
    refine tv_aload_n C (pc := 2) dL_begin_2 rfl rfl ?_
    refine tv_iload_n C (pc := 3) dL_begin_3 rfl rfl ?_
    obtain ⟨q1, hq1, h⟩ := ts_bd h
    have Mq1 := (m_X6_begin (D := D) (dT := dT) (sz := sz) (ad := ad) hl p1 u q1 hq1)
    rcases hsq1 : q1.1 with v2 | e3 <;> rw [hsq1] at h Mq1
    · have h := ts_eL h
      refine tv_callV C (pc := 4) dL_begin_4 (ci := 6) (q := (RX6, TX6, 6)) rfl yl_L_15 Mq1 (ts_live (k := 0) (by decide) (by decide) (by decide)) rfl (Nat.le_trans (Nat.le_of_ble_eq_true rfl) hdd) (As := [.inl (.int p1)]) rfl ⟨Nat.le_of_ble_eq_true rfl, Nat.le_of_ble_eq_true rfl⟩ (fun _ => Nat.le_of_ble_eq_true rfl) rfl ?_
      refine tv_i2l C (pc := 7) dL_begin_7 ?_
      refine tv_lastore C (pc := 8) dL_begin_8 (ts_live (k := 50) (by decide) (by decide) (by decide)) rfl (by decide) (j := 0) (by decide) ?_
      refine tv_nu (fun u4 hu4 => ?_)
      have h := ts_lt h hu4
      refine tv_goto C (pc := 9) 18 dL_begin_9 (by decide) ?_
      refine tv_iconst C (pc := 18) dL_begin_18 (v := (0 : Int32)) rfl ?_
      cases h
      exact tv_iret C (pc := 19) rfl dL_begin_19 ⟨Nat.le_of_ble_eq_true rfl, Nat.le_of_ble_eq_true rfl⟩
    · have h := ts_eR h
      by_cases hE0 : e3 = "java/lang/IllegalArgumentException"
      · subst hE0
        have h := ts_ifp h rfl
        refine tv_callV_cat C (pc := 4) (E := "java/lang/IllegalArgumentException") (name := "") [] (ts_xe 0 9 12 13) [ts_xe 0 9 15 18] hT (fun z hz => by simp at hz) (by decide) (by decide) (by decide) cl_L_13 ts_ca_IllegalArgumentException dL_begin_4 (ci := 6) (q := (RX6, TX6, 6)) rfl yl_L_15 Mq1 (ts_live (k := 0) (by decide) (by decide) (by decide)) rfl (Nat.le_trans (Nat.le_of_ble_eq_true rfl) hdd) (As := [.inl (.int p1)]) rfl ⟨Nat.le_of_ble_eq_true rfl, Nat.le_of_ble_eq_true rfl⟩ (fun _ => Nat.le_of_ble_eq_true rfl) rfl (fun a5 => ?_)
        refine tv_astoreX_n C (pc := 12) dL_begin_12 (L' := [some (.inr (0, 0, 0)), some (.inl (.int p1)), some (.inr (50, 0, 0)), none]) rfl (by decide) rfl rfl ?_
        refine tv_iconst C (pc := 13) dL_begin_13 (v := (1 : Int32)) rfl ?_
        cases h
        exact tv_iret C (pc := 14) rfl dL_begin_14 ⟨Nat.le_of_ble_eq_true rfl, Nat.le_of_ble_eq_true rfl⟩
      have h := ts_ifn h hE0
      by_cases hE1 : e3 = "java/lang/IllegalStateException"
      · subst hE1
        have h := ts_ifp h rfl
        refine tv_callV_cat C (pc := 4) (E := "java/lang/IllegalStateException") (name := "") [ts_xe 0 9 12 13] (ts_xe 0 9 15 18) [] hT (fun z hz => by simp only [List.mem_cons, List.not_mem_nil, or_false] at hz; subst hz <;> first | exact ⟨by decide, _, by decide, by decide, cl_L_13⟩) (by decide) (by decide) (by decide) cl_L_18 ts_ca_IllegalStateException dL_begin_4 (ci := 6) (q := (RX6, TX6, 6)) rfl yl_L_15 Mq1 (ts_live (k := 0) (by decide) (by decide) (by decide)) rfl (Nat.le_trans (Nat.le_of_ble_eq_true rfl) hdd) (As := [.inl (.int p1)]) rfl ⟨Nat.le_of_ble_eq_true rfl, Nat.le_of_ble_eq_true rfl⟩ (fun _ => Nat.le_of_ble_eq_true rfl) rfl (fun a6 => ?_)
        refine tv_astoreX_n C (pc := 15) dL_begin_15 (L' := [some (.inr (0, 0, 0)), some (.inl (.int p1)), some (.inr (50, 0, 0)), none]) rfl (by decide) rfl rfl ?_
        refine tv_iconst C (pc := 16) dL_begin_16 (v := (2 : Int32)) rfl ?_
        cases h
        exact tv_iret C (pc := 17) rfl dL_begin_17 ⟨Nat.le_of_ble_eq_true rfl, Nat.le_of_ble_eq_true rfl⟩
      have h := ts_ifn h hE1
      cases h
set_option maxRecDepth 100000 in
set_option maxHeartbeats 4000000 in
theorem m_L_read {l : Launch} {D : va_G} {dT : Nat → ClassId} {sz : Nat} {ad : ts_I → Nat} (hl : l.stackTraces = false) (p1 : Int32) (p2 : Int32) (u : ts_Mem) (r : (Int32 × ts_Mem)) (h : f_L_read p1 p2 u = some r) : ts_M l D dT sz yL_read wL_read 7 3 18 ad ts_lv ts_R0 [.inr (0, 0, 0), .inl (.int p1), .inl (.int p2), .inr (50, 0, 0)] u (.inl (some (.int r.1))) r.2 := by
    unfold f_L_read at h
    refine ts_enterX (hh := [(0, 10, 13, 24), (0, 10, 17, 18), (0, 10, 21, 26)]) hl (by decide) rfl rfl (Nat.le_of_ble_eq_true rfl) ?_
    intro p e s m args below meth c C hT
    have C : ts_CX D dT sz p l (ts_rm 7 3 18) s m args meth c RL cL_read 5 (some .int) 7 := C
    have hdd : 7 ≤ 7 := Nat.le_refl _
    refine tv_aload_n C (pc := 0) dL_read_0 rfl rfl ?_
    refine tv_iconst C (pc := 1) dL_read_1 (v := (0 : Int32)) rfl ?_
    refine tv_aload_n C (pc := 2) dL_read_2 rfl rfl ?_
    refine tv_iload_n C (pc := 3) dL_read_3 rfl rfl ?_
    refine tv_iload_n C (pc := 4) dL_read_4 rfl rfl ?_
    obtain ⟨q1, hq1, h⟩ := ts_bd h
    have Mq1 := (m_X6_read (D := D) (dT := dT) (sz := sz) (ad := ad) hl p1 p2 u q1 hq1)
    rcases hsq1 : q1.1 with v2 | e3 <;> rw [hsq1] at h Mq1
    · have h := ts_eL h
      refine tv_callV C (pc := 5) dL_read_5 (ci := 6) (q := (RX6, TX6, 6)) rfl yl_L_20 Mq1 (ts_live (k := 0) (by decide) (by decide) (by decide)) rfl (Nat.le_trans (Nat.le_of_ble_eq_true rfl) hdd) (As := [.inl (.int p1), .inl (.int p2)]) rfl ⟨Nat.le_of_ble_eq_true rfl, Nat.le_of_ble_eq_true rfl⟩ (fun _ => Nat.le_of_ble_eq_true rfl) rfl ?_
      refine tv_i2l C (pc := 8) dL_read_8 ?_
      refine tv_lastore C (pc := 9) dL_read_9 (ts_live (k := 50) (by decide) (by decide) (by decide)) rfl (by decide) (j := 0) (by decide) ?_
      refine tv_nu (fun u4 hu4 => ?_)
      have h := ts_lt h hu4
      refine tv_goto C (pc := 10) 25 dL_read_10 (by decide) ?_
      refine tv_iconst C (pc := 25) dL_read_25 (v := (0 : Int32)) rfl ?_
      cases h
      exact tv_iret C (pc := 26) rfl dL_read_26 ⟨Nat.le_of_ble_eq_true rfl, Nat.le_of_ble_eq_true rfl⟩
    · have h := ts_eR h
      by_cases hE0 : e3 = "java/lang/IndexOutOfBoundsException"
      · subst hE0
        have h := ts_ifp h rfl
        refine tv_callV_cat C (pc := 5) (E := "java/lang/IndexOutOfBoundsException") (name := "") [] (ts_xe 0 10 13 24) [ts_xe 0 10 17 18, ts_xe 0 10 21 26] hT (fun z hz => by simp at hz) (by decide) (by decide) (by decide) cl_L_24 ts_ca_IndexOutOfBoundsException dL_read_5 (ci := 6) (q := (RX6, TX6, 6)) rfl yl_L_20 Mq1 (ts_live (k := 0) (by decide) (by decide) (by decide)) rfl (Nat.le_trans (Nat.le_of_ble_eq_true rfl) hdd) (As := [.inl (.int p1), .inl (.int p2)]) rfl ⟨Nat.le_of_ble_eq_true rfl, Nat.le_of_ble_eq_true rfl⟩ (fun _ => Nat.le_of_ble_eq_true rfl) rfl (fun a5 => ?_)
        refine tv_astoreX C (pc := 13) dL_read_13 (L' := [some (.inr (0, 0, 0)), some (.inl (.int p1)), some (.inl (.int p2)), some (.inr (50, 0, 0)), none]) (by decide) rfl rfl ?_
        refine tv_iconst C (pc := 15) dL_read_15 (v := (1 : Int32)) rfl ?_
        cases h
        exact tv_iret C (pc := 16) rfl dL_read_16 ⟨Nat.le_of_ble_eq_true rfl, Nat.le_of_ble_eq_true rfl⟩
      have h := ts_ifn h hE0
      by_cases hE1 : e3 = "java/lang/IllegalStateException"
      · subst hE1
        have h := ts_ifp h rfl
        refine tv_callV_cat C (pc := 5) (E := "java/lang/IllegalStateException") (name := "") [ts_xe 0 10 13 24] (ts_xe 0 10 17 18) [ts_xe 0 10 21 26] hT (fun z hz => by simp only [List.mem_cons, List.not_mem_nil, or_false] at hz; subst hz <;> first | exact ⟨by decide, _, by decide, by decide, cl_L_24⟩) (by decide) (by decide) (by decide) cl_L_18 ts_ca_IllegalStateException dL_read_5 (ci := 6) (q := (RX6, TX6, 6)) rfl yl_L_20 Mq1 (ts_live (k := 0) (by decide) (by decide) (by decide)) rfl (Nat.le_trans (Nat.le_of_ble_eq_true rfl) hdd) (As := [.inl (.int p1), .inl (.int p2)]) rfl ⟨Nat.le_of_ble_eq_true rfl, Nat.le_of_ble_eq_true rfl⟩ (fun _ => Nat.le_of_ble_eq_true rfl) rfl (fun a6 => ?_)
        refine tv_astoreX C (pc := 17) dL_read_17 (L' := [some (.inr (0, 0, 0)), some (.inl (.int p1)), some (.inl (.int p2)), some (.inr (50, 0, 0)), none]) (by decide) rfl rfl ?_
        refine tv_iconst C (pc := 19) dL_read_19 (v := (2 : Int32)) rfl ?_
        cases h
        exact tv_iret C (pc := 20) rfl dL_read_20 ⟨Nat.le_of_ble_eq_true rfl, Nat.le_of_ble_eq_true rfl⟩
      have h := ts_ifn h hE1
      by_cases hE2 : e3 = "java/lang/UnsupportedOperationException"
      · subst hE2
        have h := ts_ifp h rfl
        refine tv_callV_cat C (pc := 5) (E := "java/lang/UnsupportedOperationException") (name := "") [ts_xe 0 10 13 24, ts_xe 0 10 17 18] (ts_xe 0 10 21 26) [] hT (fun z hz => by simp only [List.mem_cons, List.not_mem_nil, or_false] at hz; rcases hz with rfl | rfl <;> first | exact ⟨by decide, _, by decide, by decide, cl_L_24⟩ | exact ⟨by decide, _, by decide, by decide, cl_L_18⟩) (by decide) (by decide) (by decide) cl_L_26 ts_ca_UnsupportedOperationException dL_read_5 (ci := 6) (q := (RX6, TX6, 6)) rfl yl_L_20 Mq1 (ts_live (k := 0) (by decide) (by decide) (by decide)) rfl (Nat.le_trans (Nat.le_of_ble_eq_true rfl) hdd) (As := [.inl (.int p1), .inl (.int p2)]) rfl ⟨Nat.le_of_ble_eq_true rfl, Nat.le_of_ble_eq_true rfl⟩ (fun _ => Nat.le_of_ble_eq_true rfl) rfl (fun a7 => ?_)
        refine tv_astoreX C (pc := 21) dL_read_21 (L' := [some (.inr (0, 0, 0)), some (.inl (.int p1)), some (.inl (.int p2)), some (.inr (50, 0, 0)), none]) (by decide) rfl rfl ?_
        refine tv_iconst C (pc := 23) dL_read_23 (v := (3 : Int32)) rfl ?_
        cases h
        exact tv_iret C (pc := 24) rfl dL_read_24 ⟨Nat.le_of_ble_eq_true rfl, Nat.le_of_ble_eq_true rfl⟩
      have h := ts_ifn h hE2
      cases h
set_option maxRecDepth 100000 in
set_option maxHeartbeats 4000000 in
theorem m_L_write {l : Launch} {D : va_G} {dT : Nat → ClassId} {sz : Nat} {ad : ts_I → Nat} (hl : l.stackTraces = false) (p1 : Int32) (p2 : Int32) (p3 : Int32) (u : ts_Mem) (r : (Int32 × ts_Mem)) (h : f_L_write p1 p2 p3 u = some r) : ts_M l D dT sz yL_write wL_write 7 3 18 ad ts_lv ts_R0 [.inr (0, 0, 0), .inl (.int p1), .inl (.int p2), .inl (.int p3), .inr (50, 0, 0)] u (.inl (some (.int r.1))) r.2 := by
    unfold f_L_write at h
    refine ts_enterX (hh := [(0, 12, 15, 24), (0, 12, 19, 18), (0, 12, 23, 26)]) hl (by decide) rfl rfl (Nat.le_of_ble_eq_true rfl) ?_
    intro p e s m args below meth c C hT
    have C : ts_CX D dT sz p l (ts_rm 7 3 18) s m args meth c RL cL_write 6 (some .int) 7 := C
    have hdd : 7 ≤ 7 := Nat.le_refl _
    refine tv_aload C (pc := 0) dL_write_0 rfl ?_
    refine tv_iconst C (pc := 2) dL_write_2 (v := (0 : Int32)) rfl ?_
    refine tv_aload_n C (pc := 3) dL_write_3 rfl rfl ?_
    refine tv_iload_n C (pc := 4) dL_write_4 rfl rfl ?_
    refine tv_iload_n C (pc := 5) dL_write_5 rfl rfl ?_
    refine tv_iload_n C (pc := 6) dL_write_6 rfl rfl ?_
    obtain ⟨q1, hq1, h⟩ := ts_bd h
    have Mq1 := (m_X6_write (D := D) (dT := dT) (sz := sz) (ad := ad) hl p1 p2 p3 u q1 hq1)
    rcases hsq1 : q1.1 with v2 | e3 <;> rw [hsq1] at h Mq1
    · have h := ts_eL h
      refine tv_callV C (pc := 7) dL_write_7 (ci := 6) (q := (RX6, TX6, 6)) rfl yl_L_28 Mq1 (ts_live (k := 0) (by decide) (by decide) (by decide)) rfl (Nat.le_trans (Nat.le_of_ble_eq_true rfl) hdd) (As := [.inl (.int p1), .inl (.int p2), .inl (.int p3)]) rfl ⟨Nat.le_of_ble_eq_true rfl, Nat.le_of_ble_eq_true rfl⟩ (fun _ => Nat.le_of_ble_eq_true rfl) rfl ?_
      refine tv_i2l C (pc := 10) dL_write_10 ?_
      refine tv_lastore C (pc := 11) dL_write_11 (ts_live (k := 50) (by decide) (by decide) (by decide)) rfl (by decide) (j := 0) (by decide) ?_
      refine tv_nu (fun u4 hu4 => ?_)
      have h := ts_lt h hu4
      refine tv_goto C (pc := 12) 27 dL_write_12 (by decide) ?_
      refine tv_iconst C (pc := 27) dL_write_27 (v := (0 : Int32)) rfl ?_
      cases h
      exact tv_iret C (pc := 28) rfl dL_write_28 ⟨Nat.le_of_ble_eq_true rfl, Nat.le_of_ble_eq_true rfl⟩
    · have h := ts_eR h
      by_cases hE0 : e3 = "java/lang/IndexOutOfBoundsException"
      · subst hE0
        have h := ts_ifp h rfl
        refine tv_callV_cat C (pc := 7) (E := "java/lang/IndexOutOfBoundsException") (name := "") [] (ts_xe 0 12 15 24) [ts_xe 0 12 19 18, ts_xe 0 12 23 26] hT (fun z hz => by simp at hz) (by decide) (by decide) (by decide) cl_L_24 ts_ca_IndexOutOfBoundsException dL_write_7 (ci := 6) (q := (RX6, TX6, 6)) rfl yl_L_28 Mq1 (ts_live (k := 0) (by decide) (by decide) (by decide)) rfl (Nat.le_trans (Nat.le_of_ble_eq_true rfl) hdd) (As := [.inl (.int p1), .inl (.int p2), .inl (.int p3)]) rfl ⟨Nat.le_of_ble_eq_true rfl, Nat.le_of_ble_eq_true rfl⟩ (fun _ => Nat.le_of_ble_eq_true rfl) rfl (fun a5 => ?_)
        refine tv_astoreX C (pc := 15) dL_write_15 (L' := [some (.inr (0, 0, 0)), some (.inl (.int p1)), some (.inl (.int p2)), some (.inl (.int p3)), some (.inr (50, 0, 0)), none]) (by decide) rfl rfl ?_
        refine tv_iconst C (pc := 17) dL_write_17 (v := (1 : Int32)) rfl ?_
        cases h
        exact tv_iret C (pc := 18) rfl dL_write_18 ⟨Nat.le_of_ble_eq_true rfl, Nat.le_of_ble_eq_true rfl⟩
      have h := ts_ifn h hE0
      by_cases hE1 : e3 = "java/lang/IllegalStateException"
      · subst hE1
        have h := ts_ifp h rfl
        refine tv_callV_cat C (pc := 7) (E := "java/lang/IllegalStateException") (name := "") [ts_xe 0 12 15 24] (ts_xe 0 12 19 18) [ts_xe 0 12 23 26] hT (fun z hz => by simp only [List.mem_cons, List.not_mem_nil, or_false] at hz; subst hz <;> first | exact ⟨by decide, _, by decide, by decide, cl_L_24⟩) (by decide) (by decide) (by decide) cl_L_18 ts_ca_IllegalStateException dL_write_7 (ci := 6) (q := (RX6, TX6, 6)) rfl yl_L_28 Mq1 (ts_live (k := 0) (by decide) (by decide) (by decide)) rfl (Nat.le_trans (Nat.le_of_ble_eq_true rfl) hdd) (As := [.inl (.int p1), .inl (.int p2), .inl (.int p3)]) rfl ⟨Nat.le_of_ble_eq_true rfl, Nat.le_of_ble_eq_true rfl⟩ (fun _ => Nat.le_of_ble_eq_true rfl) rfl (fun a6 => ?_)
        refine tv_astoreX C (pc := 19) dL_write_19 (L' := [some (.inr (0, 0, 0)), some (.inl (.int p1)), some (.inl (.int p2)), some (.inl (.int p3)), some (.inr (50, 0, 0)), none]) (by decide) rfl rfl ?_
        refine tv_iconst C (pc := 21) dL_write_21 (v := (2 : Int32)) rfl ?_
        cases h
        exact tv_iret C (pc := 22) rfl dL_write_22 ⟨Nat.le_of_ble_eq_true rfl, Nat.le_of_ble_eq_true rfl⟩
      have h := ts_ifn h hE1
      by_cases hE2 : e3 = "java/lang/UnsupportedOperationException"
      · subst hE2
        have h := ts_ifp h rfl
        refine tv_callV_cat C (pc := 7) (E := "java/lang/UnsupportedOperationException") (name := "") [ts_xe 0 12 15 24, ts_xe 0 12 19 18] (ts_xe 0 12 23 26) [] hT (fun z hz => by simp only [List.mem_cons, List.not_mem_nil, or_false] at hz; rcases hz with rfl | rfl <;> first | exact ⟨by decide, _, by decide, by decide, cl_L_24⟩ | exact ⟨by decide, _, by decide, by decide, cl_L_18⟩) (by decide) (by decide) (by decide) cl_L_26 ts_ca_UnsupportedOperationException dL_write_7 (ci := 6) (q := (RX6, TX6, 6)) rfl yl_L_28 Mq1 (ts_live (k := 0) (by decide) (by decide) (by decide)) rfl (Nat.le_trans (Nat.le_of_ble_eq_true rfl) hdd) (As := [.inl (.int p1), .inl (.int p2), .inl (.int p3)]) rfl ⟨Nat.le_of_ble_eq_true rfl, Nat.le_of_ble_eq_true rfl⟩ (fun _ => Nat.le_of_ble_eq_true rfl) rfl (fun a7 => ?_)
        refine tv_astoreX C (pc := 23) dL_write_23 (L' := [some (.inr (0, 0, 0)), some (.inl (.int p1)), some (.inl (.int p2)), some (.inl (.int p3)), some (.inr (50, 0, 0)), none]) (by decide) rfl rfl ?_
        refine tv_iconst C (pc := 25) dL_write_25 (v := (3 : Int32)) rfl ?_
        cases h
        exact tv_iret C (pc := 26) rfl dL_write_26 ⟨Nat.le_of_ble_eq_true rfl, Nat.le_of_ble_eq_true rfl⟩
      have h := ts_ifn h hE2
      cases h
set_option maxRecDepth 100000 in
set_option maxHeartbeats 4000000 in
theorem m_L_add {l : Launch} {D : va_G} {dT : Nat → ClassId} {sz : Nat} {ad : ts_I → Nat} (hl : l.stackTraces = false) (p1 : Int32) (p2 : Int32) (p3 : Int32) (u : ts_Mem) (r : (Int32 × ts_Mem)) (h : f_L_add p1 p2 p3 u = some r) : ts_M l D dT sz yL_add wL_add 7 3 18 ad ts_lv ts_R0 [.inr (0, 0, 0), .inl (.int p1), .inl (.int p2), .inl (.int p3), .inr (50, 0, 0)] u (.inl (some (.int r.1))) r.2 := by
    unfold f_L_add at h
    refine ts_enterX (hh := [(0, 12, 15, 24), (0, 12, 19, 18), (0, 12, 23, 26)]) hl (by decide) rfl rfl (Nat.le_of_ble_eq_true rfl) ?_
    intro p e s m args below meth c C hT
    have C : ts_CX D dT sz p l (ts_rm 7 3 18) s m args meth c RL cL_add 6 (some .int) 7 := C
    have hdd : 7 ≤ 7 := Nat.le_refl _
    refine tv_aload C (pc := 0) dL_add_0 rfl ?_
    refine tv_iconst C (pc := 2) dL_add_2 (v := (0 : Int32)) rfl ?_
    refine tv_aload_n C (pc := 3) dL_add_3 rfl rfl ?_
    refine tv_iload_n C (pc := 4) dL_add_4 rfl rfl ?_
    refine tv_iload_n C (pc := 5) dL_add_5 rfl rfl ?_
    refine tv_iload_n C (pc := 6) dL_add_6 rfl rfl ?_
    obtain ⟨q1, hq1, h⟩ := ts_bd h
    have Mq1 := (m_X6_add (D := D) (dT := dT) (sz := sz) (ad := ad) hl p1 p2 p3 u q1 hq1)
    rcases hsq1 : q1.1 with v2 | e3 <;> rw [hsq1] at h Mq1
    · have h := ts_eL h
      refine tv_callV C (pc := 7) dL_add_7 (ci := 6) (q := (RX6, TX6, 6)) rfl yl_L_32 Mq1 (ts_live (k := 0) (by decide) (by decide) (by decide)) rfl (Nat.le_trans (Nat.le_of_ble_eq_true rfl) hdd) (As := [.inl (.int p1), .inl (.int p2), .inl (.int p3)]) rfl ⟨Nat.le_of_ble_eq_true rfl, Nat.le_of_ble_eq_true rfl⟩ (fun _ => Nat.le_of_ble_eq_true rfl) rfl ?_
      refine tv_i2l C (pc := 10) dL_add_10 ?_
      refine tv_lastore C (pc := 11) dL_add_11 (ts_live (k := 50) (by decide) (by decide) (by decide)) rfl (by decide) (j := 0) (by decide) ?_
      refine tv_nu (fun u4 hu4 => ?_)
      have h := ts_lt h hu4
      refine tv_goto C (pc := 12) 27 dL_add_12 (by decide) ?_
      refine tv_iconst C (pc := 27) dL_add_27 (v := (0 : Int32)) rfl ?_
      cases h
      exact tv_iret C (pc := 28) rfl dL_add_28 ⟨Nat.le_of_ble_eq_true rfl, Nat.le_of_ble_eq_true rfl⟩
    · have h := ts_eR h
      by_cases hE0 : e3 = "java/lang/IndexOutOfBoundsException"
      · subst hE0
        have h := ts_ifp h rfl
        refine tv_callV_cat C (pc := 7) (E := "java/lang/IndexOutOfBoundsException") (name := "") [] (ts_xe 0 12 15 24) [ts_xe 0 12 19 18, ts_xe 0 12 23 26] hT (fun z hz => by simp at hz) (by decide) (by decide) (by decide) cl_L_24 ts_ca_IndexOutOfBoundsException dL_add_7 (ci := 6) (q := (RX6, TX6, 6)) rfl yl_L_32 Mq1 (ts_live (k := 0) (by decide) (by decide) (by decide)) rfl (Nat.le_trans (Nat.le_of_ble_eq_true rfl) hdd) (As := [.inl (.int p1), .inl (.int p2), .inl (.int p3)]) rfl ⟨Nat.le_of_ble_eq_true rfl, Nat.le_of_ble_eq_true rfl⟩ (fun _ => Nat.le_of_ble_eq_true rfl) rfl (fun a5 => ?_)
        refine tv_astoreX C (pc := 15) dL_add_15 (L' := [some (.inr (0, 0, 0)), some (.inl (.int p1)), some (.inl (.int p2)), some (.inl (.int p3)), some (.inr (50, 0, 0)), none]) (by decide) rfl rfl ?_
        refine tv_iconst C (pc := 17) dL_add_17 (v := (1 : Int32)) rfl ?_
        cases h
        exact tv_iret C (pc := 18) rfl dL_add_18 ⟨Nat.le_of_ble_eq_true rfl, Nat.le_of_ble_eq_true rfl⟩
      have h := ts_ifn h hE0
      by_cases hE1 : e3 = "java/lang/IllegalStateException"
      · subst hE1
        have h := ts_ifp h rfl
        refine tv_callV_cat C (pc := 7) (E := "java/lang/IllegalStateException") (name := "") [ts_xe 0 12 15 24] (ts_xe 0 12 19 18) [ts_xe 0 12 23 26] hT (fun z hz => by simp only [List.mem_cons, List.not_mem_nil, or_false] at hz; subst hz <;> first | exact ⟨by decide, _, by decide, by decide, cl_L_24⟩) (by decide) (by decide) (by decide) cl_L_18 ts_ca_IllegalStateException dL_add_7 (ci := 6) (q := (RX6, TX6, 6)) rfl yl_L_32 Mq1 (ts_live (k := 0) (by decide) (by decide) (by decide)) rfl (Nat.le_trans (Nat.le_of_ble_eq_true rfl) hdd) (As := [.inl (.int p1), .inl (.int p2), .inl (.int p3)]) rfl ⟨Nat.le_of_ble_eq_true rfl, Nat.le_of_ble_eq_true rfl⟩ (fun _ => Nat.le_of_ble_eq_true rfl) rfl (fun a6 => ?_)
        refine tv_astoreX C (pc := 19) dL_add_19 (L' := [some (.inr (0, 0, 0)), some (.inl (.int p1)), some (.inl (.int p2)), some (.inl (.int p3)), some (.inr (50, 0, 0)), none]) (by decide) rfl rfl ?_
        refine tv_iconst C (pc := 21) dL_add_21 (v := (2 : Int32)) rfl ?_
        cases h
        exact tv_iret C (pc := 22) rfl dL_add_22 ⟨Nat.le_of_ble_eq_true rfl, Nat.le_of_ble_eq_true rfl⟩
      have h := ts_ifn h hE1
      by_cases hE2 : e3 = "java/lang/UnsupportedOperationException"
      · subst hE2
        have h := ts_ifp h rfl
        refine tv_callV_cat C (pc := 7) (E := "java/lang/UnsupportedOperationException") (name := "") [ts_xe 0 12 15 24, ts_xe 0 12 19 18] (ts_xe 0 12 23 26) [] hT (fun z hz => by simp only [List.mem_cons, List.not_mem_nil, or_false] at hz; rcases hz with rfl | rfl <;> first | exact ⟨by decide, _, by decide, by decide, cl_L_24⟩ | exact ⟨by decide, _, by decide, by decide, cl_L_18⟩) (by decide) (by decide) (by decide) cl_L_26 ts_ca_UnsupportedOperationException dL_add_7 (ci := 6) (q := (RX6, TX6, 6)) rfl yl_L_32 Mq1 (ts_live (k := 0) (by decide) (by decide) (by decide)) rfl (Nat.le_trans (Nat.le_of_ble_eq_true rfl) hdd) (As := [.inl (.int p1), .inl (.int p2), .inl (.int p3)]) rfl ⟨Nat.le_of_ble_eq_true rfl, Nat.le_of_ble_eq_true rfl⟩ (fun _ => Nat.le_of_ble_eq_true rfl) rfl (fun a7 => ?_)
        refine tv_astoreX C (pc := 23) dL_add_23 (L' := [some (.inr (0, 0, 0)), some (.inl (.int p1)), some (.inl (.int p2)), some (.inl (.int p3)), some (.inr (50, 0, 0)), none]) (by decide) rfl rfl ?_
        refine tv_iconst C (pc := 25) dL_add_25 (v := (3 : Int32)) rfl ?_
        cases h
        exact tv_iret C (pc := 26) rfl dL_add_26 ⟨Nat.le_of_ble_eq_true rfl, Nat.le_of_ble_eq_true rfl⟩
      have h := ts_ifn h hE2
      cases h
set_option maxRecDepth 100000 in
set_option maxHeartbeats 4000000 in
theorem m_L_commit {l : Launch} {D : va_G} {dT : Nat → ClassId} {sz : Nat} {ad : ts_I → Nat} (hl : l.stackTraces = false) (p1 : Int32) (u : ts_Mem) (r : (Int32 × ts_Mem)) (h : f_L_commit p1 u = some r) : ts_M l D dT sz yL_commit wL_commit 4 2 12 ad ts_lv ts_R0 [.inr (0, 0, 0), .inl (.int p1), .inr (50, 0, 0)] u (.inl (some (.int r.1))) r.2 := by
    unfold f_L_commit at h
    refine ts_enterX (hh := [(0, 16, 19, 24), (0, 16, 22, 18)]) hl (by decide) rfl rfl (Nat.le_of_ble_eq_true rfl) ?_
    intro p e s m args below meth c C hT
    have C : ts_CX D dT sz p l (ts_rm 4 2 12) s m args meth c RL cL_commit 4 (some .int) 4 := C
    have hdd : 4 ≤ 4 := Nat.le_refl _
    refine tv_aload_n C (pc := 0) dL_commit_0 rfl rfl ?_
    refine tv_iconst C (pc := 1) dL_commit_1 (v := (0 : Int32)) rfl ?_
    refine tv_aload_n C (pc := 2) dL_commit_2 rfl rfl ?_
    refine tv_iload_n C (pc := 3) dL_commit_3 rfl rfl ?_
    obtain ⟨q1, hq1, h⟩ := ts_bd h
    have Mq1 := (m_X6_commit (D := D) (dT := dT) (sz := sz) (ad := ad) hl p1 u q1 hq1)
    rcases hsq1 : q1.1 with v2 | e3 <;> rw [hsq1] at h Mq1
    · have h := ts_eL h
      refine tv_callV C (pc := 4) dL_commit_4 (ci := 6) (q := (RX6, TX6, 6)) rfl yl_L_35 Mq1 (ts_live (k := 0) (by decide) (by decide) (by decide)) rfl (Nat.le_trans (Nat.le_of_ble_eq_true rfl) hdd) (As := [.inl (.int p1)]) rfl ⟨Nat.le_of_ble_eq_true rfl, Nat.le_of_ble_eq_true rfl⟩ (fun _ => Nat.le_of_ble_eq_true rfl) rfl ?_
      refine tv_if_eq C (pc := 7) 14 dL_commit_7 (by decide) (fun hc => ?_) (fun hc => ?_)
      · have h := ts_ifp h hc
        refine tv_lconst C (pc := 14) dL_commit_14 (v := 0) rfl ?_
        refine tv_lastore C (pc := 15) dL_commit_15 (ts_live (k := 50) (by decide) (by decide) (by decide)) rfl (by decide) (j := 0) (by decide) ?_
        refine tv_nu (fun u4 hu4 => ?_)
        have h := ts_lt h hu4
        refine tv_goto C (pc := 16) 25 dL_commit_16 (by decide) ?_
        refine tv_iconst C (pc := 25) dL_commit_25 (v := (0 : Int32)) rfl ?_
        cases h
        exact tv_iret C (pc := 26) rfl dL_commit_26 ⟨Nat.le_of_ble_eq_true rfl, Nat.le_of_ble_eq_true rfl⟩
      · have h := ts_ifn h hc
        refine tv_lconst C (pc := 10) dL_commit_10 (v := 1) rfl ?_
        refine tv_goto C (pc := 11) 15 dL_commit_11 (by decide) ?_
        refine tv_lastore C (pc := 15) dL_commit_15 (ts_live (k := 50) (by decide) (by decide) (by decide)) rfl (by decide) (j := 0) (by decide) ?_
        refine tv_nu (fun u5 hu5 => ?_)
        have h := ts_lt h hu5
        refine tv_goto C (pc := 16) 25 dL_commit_16 (by decide) ?_
        refine tv_iconst C (pc := 25) dL_commit_25 (v := (0 : Int32)) rfl ?_
        cases h
        exact tv_iret C (pc := 26) rfl dL_commit_26 ⟨Nat.le_of_ble_eq_true rfl, Nat.le_of_ble_eq_true rfl⟩
    · have h := ts_eR h
      by_cases hE0 : e3 = "java/lang/IndexOutOfBoundsException"
      · subst hE0
        have h := ts_ifp h rfl
        refine tv_callV_cat C (pc := 4) (E := "java/lang/IndexOutOfBoundsException") (name := "") [] (ts_xe 0 16 19 24) [ts_xe 0 16 22 18] hT (fun z hz => by simp at hz) (by decide) (by decide) (by decide) cl_L_24 ts_ca_IndexOutOfBoundsException dL_commit_4 (ci := 6) (q := (RX6, TX6, 6)) rfl yl_L_35 Mq1 (ts_live (k := 0) (by decide) (by decide) (by decide)) rfl (Nat.le_trans (Nat.le_of_ble_eq_true rfl) hdd) (As := [.inl (.int p1)]) rfl ⟨Nat.le_of_ble_eq_true rfl, Nat.le_of_ble_eq_true rfl⟩ (fun _ => Nat.le_of_ble_eq_true rfl) rfl (fun a6 => ?_)
        refine tv_astoreX_n C (pc := 19) dL_commit_19 (L' := [some (.inr (0, 0, 0)), some (.inl (.int p1)), some (.inr (50, 0, 0)), none]) rfl (by decide) rfl rfl ?_
        refine tv_iconst C (pc := 20) dL_commit_20 (v := (1 : Int32)) rfl ?_
        cases h
        exact tv_iret C (pc := 21) rfl dL_commit_21 ⟨Nat.le_of_ble_eq_true rfl, Nat.le_of_ble_eq_true rfl⟩
      have h := ts_ifn h hE0
      by_cases hE1 : e3 = "java/lang/IllegalStateException"
      · subst hE1
        have h := ts_ifp h rfl
        refine tv_callV_cat C (pc := 4) (E := "java/lang/IllegalStateException") (name := "") [ts_xe 0 16 19 24] (ts_xe 0 16 22 18) [] hT (fun z hz => by simp only [List.mem_cons, List.not_mem_nil, or_false] at hz; subst hz <;> first | exact ⟨by decide, _, by decide, by decide, cl_L_24⟩) (by decide) (by decide) (by decide) cl_L_18 ts_ca_IllegalStateException dL_commit_4 (ci := 6) (q := (RX6, TX6, 6)) rfl yl_L_35 Mq1 (ts_live (k := 0) (by decide) (by decide) (by decide)) rfl (Nat.le_trans (Nat.le_of_ble_eq_true rfl) hdd) (As := [.inl (.int p1)]) rfl ⟨Nat.le_of_ble_eq_true rfl, Nat.le_of_ble_eq_true rfl⟩ (fun _ => Nat.le_of_ble_eq_true rfl) rfl (fun a7 => ?_)
        refine tv_astoreX_n C (pc := 22) dL_commit_22 (L' := [some (.inr (0, 0, 0)), some (.inl (.int p1)), some (.inr (50, 0, 0)), none]) rfl (by decide) rfl rfl ?_
        refine tv_iconst C (pc := 23) dL_commit_23 (v := (2 : Int32)) rfl ?_
        cases h
        exact tv_iret C (pc := 24) rfl dL_commit_24 ⟨Nat.le_of_ble_eq_true rfl, Nat.le_of_ble_eq_true rfl⟩
      have h := ts_ifn h hE1
      cases h
set_option maxRecDepth 100000 in
set_option maxHeartbeats 4000000 in
theorem m_L_abort {l : Launch} {D : va_G} {dT : Nat → ClassId} {sz : Nat} {ad : ts_I → Nat} (hl : l.stackTraces = false) (p1 : Int32) (u : ts_Mem) (r : (Int32 × ts_Mem)) (h : f_L_abort p1 u = some r) : ts_M l D dT sz yL_abort wL_abort 5 2 12 ad ts_lv ts_R0 [.inr (0, 0, 0), .inl (.int p1), .inr (50, 0, 0)] u (.inl (some (.int r.1))) r.2 := by
    unfold f_L_abort at h
    refine ts_enterX (hh := [(0, 9, 12, 24), (0, 9, 15, 18)]) hl (by decide) rfl rfl (Nat.le_of_ble_eq_true rfl) ?_
    intro p e s m args below meth c C hT
    have C : ts_CX D dT sz p l (ts_rm 5 2 12) s m args meth c RL cL_abort 4 (some .int) 5 := C
    have hdd : 5 ≤ 5 := Nat.le_refl _
    refine tv_aload_n C (pc := 0) dL_abort_0 rfl rfl ?_
    refine tv_iconst C (pc := 1) dL_abort_1 (v := (0 : Int32)) rfl ?_
    refine tv_aload_n C (pc := 2) dL_abort_2 rfl rfl ?_
    refine tv_iload_n C (pc := 3) dL_abort_3 rfl rfl ?_
    obtain ⟨q1, hq1, h⟩ := ts_bd h
    have Mq1 := (m_X6_abort (D := D) (dT := dT) (sz := sz) (ad := ad) hl p1 u q1 hq1)
    rcases hsq1 : q1.1 with v2 | e3 <;> rw [hsq1] at h Mq1
    · have h := ts_eL h
      refine tv_callV C (pc := 4) dL_abort_4 (ci := 6) (q := (RX6, TX6, 6)) rfl yl_L_39 Mq1 (ts_live (k := 0) (by decide) (by decide) (by decide)) rfl (Nat.le_trans (Nat.le_of_ble_eq_true rfl) hdd) (As := [.inl (.int p1)]) rfl ⟨Nat.le_of_ble_eq_true rfl, Nat.le_of_ble_eq_true rfl⟩ (fun _ => Nat.le_of_ble_eq_true rfl) rfl ?_
      refine tv_i2l C (pc := 7) dL_abort_7 ?_
      refine tv_lastore C (pc := 8) dL_abort_8 (ts_live (k := 50) (by decide) (by decide) (by decide)) rfl (by decide) (j := 0) (by decide) ?_
      refine tv_nu (fun u4 hu4 => ?_)
      have h := ts_lt h hu4
      refine tv_goto C (pc := 9) 18 dL_abort_9 (by decide) ?_
      refine tv_iconst C (pc := 18) dL_abort_18 (v := (0 : Int32)) rfl ?_
      cases h
      exact tv_iret C (pc := 19) rfl dL_abort_19 ⟨Nat.le_of_ble_eq_true rfl, Nat.le_of_ble_eq_true rfl⟩
    · have h := ts_eR h
      by_cases hE0 : e3 = "java/lang/IndexOutOfBoundsException"
      · subst hE0
        have h := ts_ifp h rfl
        refine tv_callV_cat C (pc := 4) (E := "java/lang/IndexOutOfBoundsException") (name := "") [] (ts_xe 0 9 12 24) [ts_xe 0 9 15 18] hT (fun z hz => by simp at hz) (by decide) (by decide) (by decide) cl_L_24 ts_ca_IndexOutOfBoundsException dL_abort_4 (ci := 6) (q := (RX6, TX6, 6)) rfl yl_L_39 Mq1 (ts_live (k := 0) (by decide) (by decide) (by decide)) rfl (Nat.le_trans (Nat.le_of_ble_eq_true rfl) hdd) (As := [.inl (.int p1)]) rfl ⟨Nat.le_of_ble_eq_true rfl, Nat.le_of_ble_eq_true rfl⟩ (fun _ => Nat.le_of_ble_eq_true rfl) rfl (fun a5 => ?_)
        refine tv_astoreX_n C (pc := 12) dL_abort_12 (L' := [some (.inr (0, 0, 0)), some (.inl (.int p1)), some (.inr (50, 0, 0)), none]) rfl (by decide) rfl rfl ?_
        refine tv_iconst C (pc := 13) dL_abort_13 (v := (1 : Int32)) rfl ?_
        cases h
        exact tv_iret C (pc := 14) rfl dL_abort_14 ⟨Nat.le_of_ble_eq_true rfl, Nat.le_of_ble_eq_true rfl⟩
      have h := ts_ifn h hE0
      by_cases hE1 : e3 = "java/lang/IllegalStateException"
      · subst hE1
        have h := ts_ifp h rfl
        refine tv_callV_cat C (pc := 4) (E := "java/lang/IllegalStateException") (name := "") [ts_xe 0 9 12 24] (ts_xe 0 9 15 18) [] hT (fun z hz => by simp only [List.mem_cons, List.not_mem_nil, or_false] at hz; subst hz <;> first | exact ⟨by decide, _, by decide, by decide, cl_L_24⟩) (by decide) (by decide) (by decide) cl_L_18 ts_ca_IllegalStateException dL_abort_4 (ci := 6) (q := (RX6, TX6, 6)) rfl yl_L_39 Mq1 (ts_live (k := 0) (by decide) (by decide) (by decide)) rfl (Nat.le_trans (Nat.le_of_ble_eq_true rfl) hdd) (As := [.inl (.int p1)]) rfl ⟨Nat.le_of_ble_eq_true rfl, Nat.le_of_ble_eq_true rfl⟩ (fun _ => Nat.le_of_ble_eq_true rfl) rfl (fun a6 => ?_)
        refine tv_astoreX_n C (pc := 15) dL_abort_15 (L' := [some (.inr (0, 0, 0)), some (.inl (.int p1)), some (.inr (50, 0, 0)), none]) rfl (by decide) rfl rfl ?_
        refine tv_iconst C (pc := 16) dL_abort_16 (v := (2 : Int32)) rfl ?_
        cases h
        exact tv_iret C (pc := 17) rfl dL_abort_17 ⟨Nat.le_of_ble_eq_true rfl, Nat.le_of_ble_eq_true rfl⟩
      have h := ts_ifn h hE1
      cases h
set_option maxRecDepth 100000 in
set_option maxHeartbeats 4000000 in
theorem m_L_restartNext {l : Launch} {D : va_G} {dT : Nat → ClassId} {sz : Nat} {ad : ts_I → Nat} (hl : l.stackTraces = false)  (u : ts_Mem) (r : (Int32 × ts_Mem)) (h : f_L_restartNext  u = some r) : ts_M l D dT sz yL_restartNext wL_restartNext 7 1 6 ad ts_lv ts_R0 [.inr (0, 0, 0), .inr (50, 0, 0)] u (.inl (some (.int r.1))) r.2 := by
    unfold f_L_restartNext at h
    refine ts_enterX (hh := [(0, 8, 11, 46)]) hl (by decide) rfl rfl (Nat.le_of_ble_eq_true rfl) ?_
    intro p e s m args below meth c C hT
    have C : ts_CX D dT sz p l (ts_rm 7 1 6) s m args meth c RL cL_restartNext 3 (some .int) 7 := C
    have hdd : 7 ≤ 7 := Nat.le_refl _
    refine tv_aload_n C (pc := 0) dL_restartNext_0 rfl rfl ?_
    refine tv_iconst C (pc := 1) dL_restartNext_1 (v := (0 : Int32)) rfl ?_
    refine tv_aload_n C (pc := 2) dL_restartNext_2 rfl rfl ?_
    obtain ⟨q1, hq1, h⟩ := ts_bd h
    have Mq1 := (m_X6_restartNext (D := D) (dT := dT) (sz := sz) (ad := ad) hl  u q1 hq1)
    rcases hsq1 : q1.1 with v2 | e3 <;> rw [hsq1] at h Mq1
    · have h := ts_eL h
      refine tv_callV C (pc := 3) dL_restartNext_3 (ci := 6) (q := (RX6, TX6, 6)) rfl yl_L_42 Mq1 (ts_live (k := 0) (by decide) (by decide) (by decide)) rfl (Nat.le_trans (Nat.le_of_ble_eq_true rfl) hdd) (As := []) rfl ⟨Nat.le_of_ble_eq_true rfl, Nat.le_of_ble_eq_true rfl⟩ (fun _ => Nat.le_of_ble_eq_true rfl) rfl ?_
      refine tv_i2l C (pc := 6) dL_restartNext_6 ?_
      refine tv_lastore C (pc := 7) dL_restartNext_7 (ts_live (k := 50) (by decide) (by decide) (by decide)) rfl (by decide) (j := 0) (by decide) ?_
      refine tv_nu (fun u4 hu4 => ?_)
      have h := ts_lt h hu4
      refine tv_goto C (pc := 8) 14 dL_restartNext_8 (by decide) ?_
      refine tv_iconst C (pc := 14) dL_restartNext_14 (v := (0 : Int32)) rfl ?_
      cases h
      exact tv_iret C (pc := 15) rfl dL_restartNext_15 ⟨Nat.le_of_ble_eq_true rfl, Nat.le_of_ble_eq_true rfl⟩
    · have h := ts_eR h
      by_cases hE0 : e3 = "java/util/NoSuchElementException"
      · subst hE0
        have h := ts_ifp h rfl
        refine tv_callV_cat C (pc := 3) (E := "java/util/NoSuchElementException") (name := "") [] (ts_xe 0 8 11 46) [] hT (fun z hz => by simp at hz) (by decide) (by decide) (by decide) cl_L_46 ts_ca_NoSuchElementException dL_restartNext_3 (ci := 6) (q := (RX6, TX6, 6)) rfl yl_L_42 Mq1 (ts_live (k := 0) (by decide) (by decide) (by decide)) rfl (Nat.le_trans (Nat.le_of_ble_eq_true rfl) hdd) (As := []) rfl ⟨Nat.le_of_ble_eq_true rfl, Nat.le_of_ble_eq_true rfl⟩ (fun _ => Nat.le_of_ble_eq_true rfl) rfl (fun a5 => ?_)
        refine tv_astoreX_n C (pc := 11) dL_restartNext_11 (L' := [some (.inr (0, 0, 0)), some (.inr (50, 0, 0)), none]) rfl (by decide) rfl rfl ?_
        refine tv_iconst C (pc := 12) dL_restartNext_12 (v := (1 : Int32)) rfl ?_
        cases h
        exact tv_iret C (pc := 13) rfl dL_restartNext_13 ⟨Nat.le_of_ble_eq_true rfl, Nat.le_of_ble_eq_true rfl⟩
      have h := ts_ifn h hE0
      cases h
set_option maxRecDepth 100000 in
set_option maxHeartbeats 4000000 in
theorem m_L_append {l : Launch} {D : va_G} {dT : Nat → ClassId} {sz : Nat} {ad : ts_I → Nat} (hl : l.stackTraces = false) (p1 : Int32) (u : ts_Mem) (r : (Int32 × ts_Mem)) (h : f_L_append p1 u = some r) : ts_M l D dT sz yL_append wL_append 2 2 12 ad ts_lv ts_R0 [.inr (0, 0, 0), .inl (.int p1), .inr (50, 0, 0)] u (.inl (some (.int r.1))) r.2 := by
    unfold f_L_append at h
    refine ts_enterX (hh := [(0, 9, 12, 13), (0, 9, 15, 18)]) hl (by decide) rfl rfl (Nat.le_of_ble_eq_true rfl) ?_
    intro p e s m args below meth c C hT
    have C : ts_CX D dT sz p l (ts_rm 2 2 12) s m args meth c RL cL_append 4 (some .int) 2 := C
    have hdd : 2 ≤ 2 := Nat.le_refl _
    refine tv_aload_n C (pc := 0) dL_append_0 rfl rfl ?_
    refine tv_iconst C (pc := 1) dL_append_1 (v := (0 : Int32)) rfl ?_
    refine tv_aload_n C (pc := 2) dL_append_2 rfl rfl ?_
    refine tv_iload_n C (pc := 3) dL_append_3 rfl rfl ?_
    obtain ⟨q1, hq1, h⟩ := ts_bd h
    have Mq1 := (m_X6_append (D := D) (dT := dT) (sz := sz) (ad := ad) hl p1 u q1 hq1)
    rcases hsq1 : q1.1 with v2 | e3 <;> rw [hsq1] at h Mq1
    · have h := ts_eL h
      refine tv_callV C (pc := 4) dL_append_4 (ci := 6) (q := (RX6, TX6, 6)) rfl yl_L_48 Mq1 (ts_live (k := 0) (by decide) (by decide) (by decide)) rfl (Nat.le_trans (Nat.le_of_ble_eq_true rfl) hdd) (As := [.inl (.int p1)]) rfl ⟨Nat.le_of_ble_eq_true rfl, Nat.le_of_ble_eq_true rfl⟩ (fun _ => Nat.le_of_ble_eq_true rfl) rfl ?_
      refine tv_i2l C (pc := 7) dL_append_7 ?_
      refine tv_lastore C (pc := 8) dL_append_8 (ts_live (k := 50) (by decide) (by decide) (by decide)) rfl (by decide) (j := 0) (by decide) ?_
      refine tv_nu (fun u4 hu4 => ?_)
      have h := ts_lt h hu4
      refine tv_goto C (pc := 9) 18 dL_append_9 (by decide) ?_
      refine tv_iconst C (pc := 18) dL_append_18 (v := (0 : Int32)) rfl ?_
      cases h
      exact tv_iret C (pc := 19) rfl dL_append_19 ⟨Nat.le_of_ble_eq_true rfl, Nat.le_of_ble_eq_true rfl⟩
    · have h := ts_eR h
      by_cases hE0 : e3 = "java/lang/IllegalArgumentException"
      · subst hE0
        have h := ts_ifp h rfl
        refine tv_callV_cat C (pc := 4) (E := "java/lang/IllegalArgumentException") (name := "") [] (ts_xe 0 9 12 13) [ts_xe 0 9 15 18] hT (fun z hz => by simp at hz) (by decide) (by decide) (by decide) cl_L_13 ts_ca_IllegalArgumentException dL_append_4 (ci := 6) (q := (RX6, TX6, 6)) rfl yl_L_48 Mq1 (ts_live (k := 0) (by decide) (by decide) (by decide)) rfl (Nat.le_trans (Nat.le_of_ble_eq_true rfl) hdd) (As := [.inl (.int p1)]) rfl ⟨Nat.le_of_ble_eq_true rfl, Nat.le_of_ble_eq_true rfl⟩ (fun _ => Nat.le_of_ble_eq_true rfl) rfl (fun a5 => ?_)
        refine tv_astoreX_n C (pc := 12) dL_append_12 (L' := [some (.inr (0, 0, 0)), some (.inl (.int p1)), some (.inr (50, 0, 0)), none]) rfl (by decide) rfl rfl ?_
        refine tv_iconst C (pc := 13) dL_append_13 (v := (1 : Int32)) rfl ?_
        cases h
        exact tv_iret C (pc := 14) rfl dL_append_14 ⟨Nat.le_of_ble_eq_true rfl, Nat.le_of_ble_eq_true rfl⟩
      have h := ts_ifn h hE0
      by_cases hE1 : e3 = "java/lang/IllegalStateException"
      · subst hE1
        have h := ts_ifp h rfl
        refine tv_callV_cat C (pc := 4) (E := "java/lang/IllegalStateException") (name := "") [ts_xe 0 9 12 13] (ts_xe 0 9 15 18) [] hT (fun z hz => by simp only [List.mem_cons, List.not_mem_nil, or_false] at hz; subst hz <;> first | exact ⟨by decide, _, by decide, by decide, cl_L_13⟩) (by decide) (by decide) (by decide) cl_L_18 ts_ca_IllegalStateException dL_append_4 (ci := 6) (q := (RX6, TX6, 6)) rfl yl_L_48 Mq1 (ts_live (k := 0) (by decide) (by decide) (by decide)) rfl (Nat.le_trans (Nat.le_of_ble_eq_true rfl) hdd) (As := [.inl (.int p1)]) rfl ⟨Nat.le_of_ble_eq_true rfl, Nat.le_of_ble_eq_true rfl⟩ (fun _ => Nat.le_of_ble_eq_true rfl) rfl (fun a6 => ?_)
        refine tv_astoreX_n C (pc := 15) dL_append_15 (L' := [some (.inr (0, 0, 0)), some (.inl (.int p1)), some (.inr (50, 0, 0)), none]) rfl (by decide) rfl rfl ?_
        refine tv_iconst C (pc := 16) dL_append_16 (v := (2 : Int32)) rfl ?_
        cases h
        exact tv_iret C (pc := 17) rfl dL_append_17 ⟨Nat.le_of_ble_eq_true rfl, Nat.le_of_ble_eq_true rfl⟩
      have h := ts_ifn h hE1
      cases h
set_option maxRecDepth 100000 in
set_option maxHeartbeats 4000000 in
theorem m_L_run {l : Launch} {D : va_G} {dT : Nat → ClassId} {sz : Nat} {ad : ts_I → Nat} (hl : l.stackTraces = false) (p1 : Int32) (u : ts_Mem) (r : (Int32 × ts_Mem)) (h : f_L_run p1 u = some r) : ts_M l D dT sz yL_run wL_run 7 5 30 ad ts_lv ts_R0 [.inr (0, 0, 0), .inl (.int p1), .inr (50, 0, 0)] u (.inl (some (.int r.1))) r.2 := by
    unfold f_L_run at h
    refine ts_enterX (hh := [(0, 9, 12, 24), (0, 9, 15, 18), (0, 9, 18, 13), (0, 9, 21, 26)]) hl (by decide) rfl rfl (Nat.le_of_ble_eq_true rfl) ?_
    intro p e s m args below meth c C hT
    have C : ts_CX D dT sz p l (ts_rm 7 5 30) s m args meth c RL cL_run 4 (some .int) 7 := C
    have hdd : 7 ≤ 7 := Nat.le_refl _
    refine tv_aload_n C (pc := 0) dL_run_0 rfl rfl ?_
    refine tv_iconst C (pc := 1) dL_run_1 (v := (0 : Int32)) rfl ?_
    refine tv_aload_n C (pc := 2) dL_run_2 rfl rfl ?_
    refine tv_iload_n C (pc := 3) dL_run_3 rfl rfl ?_
    obtain ⟨q1, hq1, h⟩ := ts_bd h
    have Mq1 := (m_X6_run (D := D) (dT := dT) (sz := sz) (ad := ad) hl p1 u q1 hq1)
    rcases hsq1 : q1.1 with v2 | e3 <;> rw [hsq1] at h Mq1
    · have h := ts_eL h
      refine tv_callV C (pc := 4) dL_run_4 (ci := 6) (q := (RX6, TX6, 6)) rfl yl_L_52 Mq1 (ts_live (k := 0) (by decide) (by decide) (by decide)) rfl (Nat.le_trans (Nat.le_of_ble_eq_true rfl) hdd) (As := [.inl (.int p1)]) rfl ⟨Nat.le_of_ble_eq_true rfl, Nat.le_of_ble_eq_true rfl⟩ (fun _ => Nat.le_of_ble_eq_true rfl) rfl ?_
      refine tv_i2l C (pc := 7) dL_run_7 ?_
      refine tv_lastore C (pc := 8) dL_run_8 (ts_live (k := 50) (by decide) (by decide) (by decide)) rfl (by decide) (j := 0) (by decide) ?_
      refine tv_nu (fun u4 hu4 => ?_)
      have h := ts_lt h hu4
      refine tv_goto C (pc := 9) 24 dL_run_9 (by decide) ?_
      refine tv_iconst C (pc := 24) dL_run_24 (v := (0 : Int32)) rfl ?_
      cases h
      exact tv_iret C (pc := 25) rfl dL_run_25 ⟨Nat.le_of_ble_eq_true rfl, Nat.le_of_ble_eq_true rfl⟩
    · have h := ts_eR h
      by_cases hE0 : e3 = "java/lang/IndexOutOfBoundsException"
      · subst hE0
        have h := ts_ifp h rfl
        refine tv_callV_cat C (pc := 4) (E := "java/lang/IndexOutOfBoundsException") (name := "") [] (ts_xe 0 9 12 24) [ts_xe 0 9 15 18, ts_xe 0 9 18 13, ts_xe 0 9 21 26] hT (fun z hz => by simp at hz) (by decide) (by decide) (by decide) cl_L_24 ts_ca_IndexOutOfBoundsException dL_run_4 (ci := 6) (q := (RX6, TX6, 6)) rfl yl_L_52 Mq1 (ts_live (k := 0) (by decide) (by decide) (by decide)) rfl (Nat.le_trans (Nat.le_of_ble_eq_true rfl) hdd) (As := [.inl (.int p1)]) rfl ⟨Nat.le_of_ble_eq_true rfl, Nat.le_of_ble_eq_true rfl⟩ (fun _ => Nat.le_of_ble_eq_true rfl) rfl (fun a5 => ?_)
        refine tv_astoreX_n C (pc := 12) dL_run_12 (L' := [some (.inr (0, 0, 0)), some (.inl (.int p1)), some (.inr (50, 0, 0)), none]) rfl (by decide) rfl rfl ?_
        refine tv_iconst C (pc := 13) dL_run_13 (v := (1 : Int32)) rfl ?_
        cases h
        exact tv_iret C (pc := 14) rfl dL_run_14 ⟨Nat.le_of_ble_eq_true rfl, Nat.le_of_ble_eq_true rfl⟩
      have h := ts_ifn h hE0
      by_cases hE1 : e3 = "java/lang/IllegalStateException"
      · subst hE1
        have h := ts_ifp h rfl
        refine tv_callV_cat C (pc := 4) (E := "java/lang/IllegalStateException") (name := "") [ts_xe 0 9 12 24] (ts_xe 0 9 15 18) [ts_xe 0 9 18 13, ts_xe 0 9 21 26] hT (fun z hz => by simp only [List.mem_cons, List.not_mem_nil, or_false] at hz; subst hz <;> first | exact ⟨by decide, _, by decide, by decide, cl_L_24⟩) (by decide) (by decide) (by decide) cl_L_18 ts_ca_IllegalStateException dL_run_4 (ci := 6) (q := (RX6, TX6, 6)) rfl yl_L_52 Mq1 (ts_live (k := 0) (by decide) (by decide) (by decide)) rfl (Nat.le_trans (Nat.le_of_ble_eq_true rfl) hdd) (As := [.inl (.int p1)]) rfl ⟨Nat.le_of_ble_eq_true rfl, Nat.le_of_ble_eq_true rfl⟩ (fun _ => Nat.le_of_ble_eq_true rfl) rfl (fun a6 => ?_)
        refine tv_astoreX_n C (pc := 15) dL_run_15 (L' := [some (.inr (0, 0, 0)), some (.inl (.int p1)), some (.inr (50, 0, 0)), none]) rfl (by decide) rfl rfl ?_
        refine tv_iconst C (pc := 16) dL_run_16 (v := (2 : Int32)) rfl ?_
        cases h
        exact tv_iret C (pc := 17) rfl dL_run_17 ⟨Nat.le_of_ble_eq_true rfl, Nat.le_of_ble_eq_true rfl⟩
      have h := ts_ifn h hE1
      by_cases hE2 : e3 = "java/lang/IllegalArgumentException"
      · subst hE2
        have h := ts_ifp h rfl
        refine tv_callV_cat C (pc := 4) (E := "java/lang/IllegalArgumentException") (name := "") [ts_xe 0 9 12 24, ts_xe 0 9 15 18] (ts_xe 0 9 18 13) [ts_xe 0 9 21 26] hT (fun z hz => by simp only [List.mem_cons, List.not_mem_nil, or_false] at hz; rcases hz with rfl | rfl <;> first | exact ⟨by decide, _, by decide, by decide, cl_L_24⟩ | exact ⟨by decide, _, by decide, by decide, cl_L_18⟩) (by decide) (by decide) (by decide) cl_L_13 ts_ca_IllegalArgumentException dL_run_4 (ci := 6) (q := (RX6, TX6, 6)) rfl yl_L_52 Mq1 (ts_live (k := 0) (by decide) (by decide) (by decide)) rfl (Nat.le_trans (Nat.le_of_ble_eq_true rfl) hdd) (As := [.inl (.int p1)]) rfl ⟨Nat.le_of_ble_eq_true rfl, Nat.le_of_ble_eq_true rfl⟩ (fun _ => Nat.le_of_ble_eq_true rfl) rfl (fun a7 => ?_)
        refine tv_astoreX_n C (pc := 18) dL_run_18 (L' := [some (.inr (0, 0, 0)), some (.inl (.int p1)), some (.inr (50, 0, 0)), none]) rfl (by decide) rfl rfl ?_
        refine tv_iconst C (pc := 19) dL_run_19 (v := (3 : Int32)) rfl ?_
        cases h
        exact tv_iret C (pc := 20) rfl dL_run_20 ⟨Nat.le_of_ble_eq_true rfl, Nat.le_of_ble_eq_true rfl⟩
      have h := ts_ifn h hE2
      by_cases hE3 : e3 = "java/lang/UnsupportedOperationException"
      · subst hE3
        have h := ts_ifp h rfl
        refine tv_callV_cat C (pc := 4) (E := "java/lang/UnsupportedOperationException") (name := "") [ts_xe 0 9 12 24, ts_xe 0 9 15 18, ts_xe 0 9 18 13] (ts_xe 0 9 21 26) [] hT (fun z hz => by simp only [List.mem_cons, List.not_mem_nil, or_false] at hz; rcases hz with rfl | rfl | rfl <;> first | exact ⟨by decide, _, by decide, by decide, cl_L_24⟩ | exact ⟨by decide, _, by decide, by decide, cl_L_18⟩ | exact ⟨by decide, _, by decide, by decide, cl_L_13⟩) (by decide) (by decide) (by decide) cl_L_26 ts_ca_UnsupportedOperationException dL_run_4 (ci := 6) (q := (RX6, TX6, 6)) rfl yl_L_52 Mq1 (ts_live (k := 0) (by decide) (by decide) (by decide)) rfl (Nat.le_trans (Nat.le_of_ble_eq_true rfl) hdd) (As := [.inl (.int p1)]) rfl ⟨Nat.le_of_ble_eq_true rfl, Nat.le_of_ble_eq_true rfl⟩ (fun _ => Nat.le_of_ble_eq_true rfl) rfl (fun a8 => ?_)
        refine tv_astoreX_n C (pc := 21) dL_run_21 (L' := [some (.inr (0, 0, 0)), some (.inl (.int p1)), some (.inr (50, 0, 0)), none]) rfl (by decide) rfl rfl ?_
        refine tv_iconst C (pc := 22) dL_run_22 (v := (4 : Int32)) rfl ?_
        cases h
        exact tv_iret C (pc := 23) rfl dL_run_23 ⟨Nat.le_of_ble_eq_true rfl, Nat.le_of_ble_eq_true rfl⟩
      have h := ts_ifn h hE3
      cases h
set_option maxRecDepth 100000 in
set_option maxHeartbeats 4000000 in
theorem m_L_errorPosition {l : Launch} {D : va_G} {dT : Nat → ClassId} {sz : Nat} {ad : ts_I → Nat} (hl : l.stackTraces = false)  (u : ts_Mem) (r : (Int32 × ts_Mem)) (h : f_L_errorPosition  u = some r) : ts_M l D dT sz yL_errorPosition wL_errorPosition 2 1 6 ad ts_lv ts_R0 [.inr (0, 0, 0), .inr (50, 0, 0)] u (.inl (some (.int r.1))) r.2 := by
    unfold f_L_errorPosition at h
    refine ts_enterX (hh := [(0, 8, 11, 46)]) hl (by decide) rfl rfl (Nat.le_of_ble_eq_true rfl) ?_
    intro p e s m args below meth c C hT
    have C : ts_CX D dT sz p l (ts_rm 2 1 6) s m args meth c RL cL_errorPosition 3 (some .int) 2 := C
    have hdd : 2 ≤ 2 := Nat.le_refl _
    refine tv_aload_n C (pc := 0) dL_errorPosition_0 rfl rfl ?_
    refine tv_iconst C (pc := 1) dL_errorPosition_1 (v := (0 : Int32)) rfl ?_
    refine tv_aload_n C (pc := 2) dL_errorPosition_2 rfl rfl ?_
    obtain ⟨q1, hq1, h⟩ := ts_bd h
    have Mq1 := (m_X6_errorPosition (D := D) (dT := dT) (sz := sz) (ad := ad) hl  u q1 hq1)
    rcases q1 with v2 | e3
    · have h := ts_eL h
      refine tv_callV C (pc := 3) dL_errorPosition_3 (ci := 6) (q := (RX6, TX6, 6)) rfl yl_L_55 Mq1 (ts_live (k := 0) (by decide) (by decide) (by decide)) rfl (Nat.le_trans (Nat.le_of_ble_eq_true rfl) hdd) (As := []) rfl ⟨Nat.le_of_ble_eq_true rfl, Nat.le_of_ble_eq_true rfl⟩ (fun _ => Nat.le_of_ble_eq_true rfl) rfl ?_
      refine tv_i2l C (pc := 6) dL_errorPosition_6 ?_
      refine tv_lastore C (pc := 7) dL_errorPosition_7 (ts_live (k := 50) (by decide) (by decide) (by decide)) rfl (by decide) (j := 0) (by decide) ?_
      refine tv_nu (fun u4 hu4 => ?_)
      have h := ts_lt h hu4
      refine tv_goto C (pc := 8) 14 dL_errorPosition_8 (by decide) ?_
      refine tv_iconst C (pc := 14) dL_errorPosition_14 (v := (0 : Int32)) rfl ?_
      cases h
      exact tv_iret C (pc := 15) rfl dL_errorPosition_15 ⟨Nat.le_of_ble_eq_true rfl, Nat.le_of_ble_eq_true rfl⟩
    · have h := ts_eR h
      by_cases hE0 : e3 = "java/util/NoSuchElementException"
      · subst hE0
        have h := ts_ifp h rfl
        refine tv_callV_cat C (pc := 3) (E := "java/util/NoSuchElementException") (name := "") [] (ts_xe 0 8 11 46) [] hT (fun z hz => by simp at hz) (by decide) (by decide) (by decide) cl_L_46 ts_ca_NoSuchElementException dL_errorPosition_3 (ci := 6) (q := (RX6, TX6, 6)) rfl yl_L_55 Mq1 (ts_live (k := 0) (by decide) (by decide) (by decide)) rfl (Nat.le_trans (Nat.le_of_ble_eq_true rfl) hdd) (As := []) rfl ⟨Nat.le_of_ble_eq_true rfl, Nat.le_of_ble_eq_true rfl⟩ (fun _ => Nat.le_of_ble_eq_true rfl) rfl (fun a5 => ?_)
        refine tv_astoreX_n C (pc := 11) dL_errorPosition_11 (L' := [some (.inr (0, 0, 0)), some (.inr (50, 0, 0)), none]) rfl (by decide) rfl rfl ?_
        refine tv_iconst C (pc := 12) dL_errorPosition_12 (v := (1 : Int32)) rfl ?_
        cases h
        exact tv_iret C (pc := 13) rfl dL_errorPosition_13 ⟨Nat.le_of_ble_eq_true rfl, Nat.le_of_ble_eq_true rfl⟩
      have h := ts_ifn h hE0
      cases h
set_option maxRecDepth 100000 in
set_option maxHeartbeats 4000000 in
theorem m_L_transaction {l : Launch} {D : va_G} {dT : Nat → ClassId} {sz : Nat} {ad : ts_I → Nat} (hl : l.stackTraces = false) (p1 : Int32) (p2 : Int32) (u : ts_Mem) (r : (Int32 × ts_Mem)) (h : f_L_transaction p1 p2 u = some r) : ts_M l D dT sz yL_transaction wL_transaction 2 2 12 ad ts_lv ts_R0 [.inr (0, 0, 0), .inl (.int p1), .inl (.int p2), .inr (50, 0, 0)] u (.inl (some (.int r.1))) r.2 := by
    unfold f_L_transaction at h
    refine ts_enterX (hh := [(0, 10, 13, 24), (0, 10, 17, 13)]) hl (by decide) rfl rfl (Nat.le_of_ble_eq_true rfl) ?_
    intro p e s m args below meth c C hT
    have C : ts_CX D dT sz p l (ts_rm 2 2 12) s m args meth c RL cL_transaction 5 (some .int) 2 := C
    have hdd : 2 ≤ 2 := Nat.le_refl _
    refine tv_aload_n C (pc := 0) dL_transaction_0 rfl rfl ?_
    refine tv_iconst C (pc := 1) dL_transaction_1 (v := (0 : Int32)) rfl ?_
    refine tv_aload_n C (pc := 2) dL_transaction_2 rfl rfl ?_
    refine tv_iload_n C (pc := 3) dL_transaction_3 rfl rfl ?_
    refine tv_iload_n C (pc := 4) dL_transaction_4 rfl rfl ?_
    obtain ⟨q1, hq1, h⟩ := ts_bd h
    have Mq1 := (m_X6_transaction (D := D) (dT := dT) (sz := sz) (ad := ad) hl p1 p2 u q1 hq1)
    rcases q1 with v2 | e3
    · have h := ts_eL h
      refine tv_callV C (pc := 5) dL_transaction_5 (ci := 6) (q := (RX6, TX6, 6)) rfl yl_L_58 Mq1 (ts_live (k := 0) (by decide) (by decide) (by decide)) rfl (Nat.le_trans (Nat.le_of_ble_eq_true rfl) hdd) (As := [.inl (.int p1), .inl (.int p2)]) rfl ⟨Nat.le_of_ble_eq_true rfl, Nat.le_of_ble_eq_true rfl⟩ (fun _ => Nat.le_of_ble_eq_true rfl) rfl ?_
      refine tv_i2l C (pc := 8) dL_transaction_8 ?_
      refine tv_lastore C (pc := 9) dL_transaction_9 (ts_live (k := 50) (by decide) (by decide) (by decide)) rfl (by decide) (j := 0) (by decide) ?_
      refine tv_nu (fun u4 hu4 => ?_)
      have h := ts_lt h hu4
      refine tv_goto C (pc := 10) 21 dL_transaction_10 (by decide) ?_
      refine tv_iconst C (pc := 21) dL_transaction_21 (v := (0 : Int32)) rfl ?_
      cases h
      exact tv_iret C (pc := 22) rfl dL_transaction_22 ⟨Nat.le_of_ble_eq_true rfl, Nat.le_of_ble_eq_true rfl⟩
    · have h := ts_eR h
      by_cases hE0 : e3 = "java/lang/IndexOutOfBoundsException"
      · subst hE0
        have h := ts_ifp h rfl
        refine tv_callV_cat C (pc := 5) (E := "java/lang/IndexOutOfBoundsException") (name := "") [] (ts_xe 0 10 13 24) [ts_xe 0 10 17 13] hT (fun z hz => by simp at hz) (by decide) (by decide) (by decide) cl_L_24 ts_ca_IndexOutOfBoundsException dL_transaction_5 (ci := 6) (q := (RX6, TX6, 6)) rfl yl_L_58 Mq1 (ts_live (k := 0) (by decide) (by decide) (by decide)) rfl (Nat.le_trans (Nat.le_of_ble_eq_true rfl) hdd) (As := [.inl (.int p1), .inl (.int p2)]) rfl ⟨Nat.le_of_ble_eq_true rfl, Nat.le_of_ble_eq_true rfl⟩ (fun _ => Nat.le_of_ble_eq_true rfl) rfl (fun a5 => ?_)
        refine tv_astoreX C (pc := 13) dL_transaction_13 (L' := [some (.inr (0, 0, 0)), some (.inl (.int p1)), some (.inl (.int p2)), some (.inr (50, 0, 0)), none]) (by decide) rfl rfl ?_
        refine tv_iconst C (pc := 15) dL_transaction_15 (v := (1 : Int32)) rfl ?_
        cases h
        exact tv_iret C (pc := 16) rfl dL_transaction_16 ⟨Nat.le_of_ble_eq_true rfl, Nat.le_of_ble_eq_true rfl⟩
      have h := ts_ifn h hE0
      by_cases hE1 : e3 = "java/lang/IllegalArgumentException"
      · subst hE1
        have h := ts_ifp h rfl
        refine tv_callV_cat C (pc := 5) (E := "java/lang/IllegalArgumentException") (name := "") [ts_xe 0 10 13 24] (ts_xe 0 10 17 13) [] hT (fun z hz => by simp only [List.mem_cons, List.not_mem_nil, or_false] at hz; subst hz <;> first | exact ⟨by decide, _, by decide, by decide, cl_L_24⟩) (by decide) (by decide) (by decide) cl_L_13 ts_ca_IllegalArgumentException dL_transaction_5 (ci := 6) (q := (RX6, TX6, 6)) rfl yl_L_58 Mq1 (ts_live (k := 0) (by decide) (by decide) (by decide)) rfl (Nat.le_trans (Nat.le_of_ble_eq_true rfl) hdd) (As := [.inl (.int p1), .inl (.int p2)]) rfl ⟨Nat.le_of_ble_eq_true rfl, Nat.le_of_ble_eq_true rfl⟩ (fun _ => Nat.le_of_ble_eq_true rfl) rfl (fun a6 => ?_)
        refine tv_astoreX C (pc := 17) dL_transaction_17 (L' := [some (.inr (0, 0, 0)), some (.inl (.int p1)), some (.inl (.int p2)), some (.inr (50, 0, 0)), none]) (by decide) rfl rfl ?_
        refine tv_iconst C (pc := 19) dL_transaction_19 (v := (2 : Int32)) rfl ?_
        cases h
        exact tv_iret C (pc := 20) rfl dL_transaction_20 ⟨Nat.le_of_ble_eq_true rfl, Nat.le_of_ble_eq_true rfl⟩
      have h := ts_ifn h hE1
      cases h
set_option maxRecDepth 100000 in
set_option maxHeartbeats 4000000 in
theorem m_L_dependencies {l : Launch} {D : va_G} {dT : Nat → ClassId} {sz : Nat} {ad : ts_I → Nat} (hl : l.stackTraces = false) (p1 : Int32) (u : ts_Mem) (r : (Int32 × ts_Mem)) (h : f_L_dependencies p1 u = some r) : ts_M l D dT sz yL_dependencies wL_dependencies 2 1 6 ad ts_lv ts_R0 [.inr (0, 0, 0), .inl (.int p1), .inr (50, 0, 0)] u (.inl (some (.int r.1))) r.2 := by
    unfold f_L_dependencies at h
    refine ts_enterX (hh := [(0, 9, 12, 24)]) hl (by decide) rfl rfl (Nat.le_of_ble_eq_true rfl) ?_
    intro p e s m args below meth c C hT
    have C : ts_CX D dT sz p l (ts_rm 2 1 6) s m args meth c RL cL_dependencies 4 (some .int) 2 := C
    have hdd : 2 ≤ 2 := Nat.le_refl _
    refine tv_aload_n C (pc := 0) dL_dependencies_0 rfl rfl ?_
    refine tv_iconst C (pc := 1) dL_dependencies_1 (v := (0 : Int32)) rfl ?_
    refine tv_aload_n C (pc := 2) dL_dependencies_2 rfl rfl ?_
    refine tv_iload_n C (pc := 3) dL_dependencies_3 rfl rfl ?_
    obtain ⟨q1, hq1, h⟩ := ts_bd h
    have Mq1 := (m_X6_dependencies (D := D) (dT := dT) (sz := sz) (ad := ad) hl p1 u q1 hq1)
    rcases q1 with v2 | e3
    · have h := ts_eL h
      refine tv_callV C (pc := 4) dL_dependencies_4 (ci := 6) (q := (RX6, TX6, 6)) rfl yl_L_61 Mq1 (ts_live (k := 0) (by decide) (by decide) (by decide)) rfl (Nat.le_trans (Nat.le_of_ble_eq_true rfl) hdd) (As := [.inl (.int p1)]) rfl ⟨Nat.le_of_ble_eq_true rfl, Nat.le_of_ble_eq_true rfl⟩ (fun _ => Nat.le_of_ble_eq_true rfl) rfl ?_
      refine tv_i2l C (pc := 7) dL_dependencies_7 ?_
      refine tv_lastore C (pc := 8) dL_dependencies_8 (ts_live (k := 50) (by decide) (by decide) (by decide)) rfl (by decide) (j := 0) (by decide) ?_
      refine tv_nu (fun u4 hu4 => ?_)
      have h := ts_lt h hu4
      refine tv_goto C (pc := 9) 15 dL_dependencies_9 (by decide) ?_
      refine tv_iconst C (pc := 15) dL_dependencies_15 (v := (0 : Int32)) rfl ?_
      cases h
      exact tv_iret C (pc := 16) rfl dL_dependencies_16 ⟨Nat.le_of_ble_eq_true rfl, Nat.le_of_ble_eq_true rfl⟩
    · have h := ts_eR h
      by_cases hE0 : e3 = "java/lang/IndexOutOfBoundsException"
      · subst hE0
        have h := ts_ifp h rfl
        refine tv_callV_cat C (pc := 4) (E := "java/lang/IndexOutOfBoundsException") (name := "") [] (ts_xe 0 9 12 24) [] hT (fun z hz => by simp at hz) (by decide) (by decide) (by decide) cl_L_24 ts_ca_IndexOutOfBoundsException dL_dependencies_4 (ci := 6) (q := (RX6, TX6, 6)) rfl yl_L_61 Mq1 (ts_live (k := 0) (by decide) (by decide) (by decide)) rfl (Nat.le_trans (Nat.le_of_ble_eq_true rfl) hdd) (As := [.inl (.int p1)]) rfl ⟨Nat.le_of_ble_eq_true rfl, Nat.le_of_ble_eq_true rfl⟩ (fun _ => Nat.le_of_ble_eq_true rfl) rfl (fun a5 => ?_)
        refine tv_astoreX_n C (pc := 12) dL_dependencies_12 (L' := [some (.inr (0, 0, 0)), some (.inl (.int p1)), some (.inr (50, 0, 0)), none]) rfl (by decide) rfl rfl ?_
        refine tv_iconst C (pc := 13) dL_dependencies_13 (v := (1 : Int32)) rfl ?_
        cases h
        exact tv_iret C (pc := 14) rfl dL_dependencies_14 ⟨Nat.le_of_ble_eq_true rfl, Nat.le_of_ble_eq_true rfl⟩
      have h := ts_ifn h hE0
      cases h
set_option maxRecDepth 100000 in
set_option maxHeartbeats 4000000 in
theorem m_L_cascade {l : Launch} {D : va_G} {dT : Nat → ClassId} {sz : Nat} {ad : ts_I → Nat} (hl : l.stackTraces = false) (p1 : Int32) (u : ts_Mem) (r : (Int32 × ts_Mem)) (h : f_L_cascade p1 u = some r) : ts_M l D dT sz yL_cascade wL_cascade 3 1 6 ad ts_lv ts_R0 [.inr (0, 0, 0), .inl (.int p1), .inr (50, 0, 0)] u (.inl (some (.int r.1))) r.2 := by
    unfold f_L_cascade at h
    refine ts_enterX (hh := [(0, 9, 12, 24)]) hl (by decide) rfl rfl (Nat.le_of_ble_eq_true rfl) ?_
    intro p e s m args below meth c C hT
    have C : ts_CX D dT sz p l (ts_rm 3 1 6) s m args meth c RL cL_cascade 4 (some .int) 3 := C
    have hdd : 3 ≤ 3 := Nat.le_refl _
    refine tv_aload_n C (pc := 0) dL_cascade_0 rfl rfl ?_
    refine tv_iconst C (pc := 1) dL_cascade_1 (v := (0 : Int32)) rfl ?_
    refine tv_aload_n C (pc := 2) dL_cascade_2 rfl rfl ?_
    refine tv_iload_n C (pc := 3) dL_cascade_3 rfl rfl ?_
    obtain ⟨q1, hq1, h⟩ := ts_bd h
    have Mq1 := (m_X6_cascade (D := D) (dT := dT) (sz := sz) (ad := ad) hl p1 u q1 hq1)
    rcases q1 with v2 | e3
    · have h := ts_eL h
      refine tv_callV C (pc := 4) dL_cascade_4 (ci := 6) (q := (RX6, TX6, 6)) rfl yl_L_64 Mq1 (ts_live (k := 0) (by decide) (by decide) (by decide)) rfl (Nat.le_trans (Nat.le_of_ble_eq_true rfl) hdd) (As := [.inl (.int p1)]) rfl ⟨Nat.le_of_ble_eq_true rfl, Nat.le_of_ble_eq_true rfl⟩ (fun _ => Nat.le_of_ble_eq_true rfl) rfl ?_
      refine tv_i2l C (pc := 7) dL_cascade_7 ?_
      refine tv_lastore C (pc := 8) dL_cascade_8 (ts_live (k := 50) (by decide) (by decide) (by decide)) rfl (by decide) (j := 0) (by decide) ?_
      refine tv_nu (fun u4 hu4 => ?_)
      have h := ts_lt h hu4
      refine tv_goto C (pc := 9) 15 dL_cascade_9 (by decide) ?_
      refine tv_iconst C (pc := 15) dL_cascade_15 (v := (0 : Int32)) rfl ?_
      cases h
      exact tv_iret C (pc := 16) rfl dL_cascade_16 ⟨Nat.le_of_ble_eq_true rfl, Nat.le_of_ble_eq_true rfl⟩
    · have h := ts_eR h
      by_cases hE0 : e3 = "java/lang/IndexOutOfBoundsException"
      · subst hE0
        have h := ts_ifp h rfl
        refine tv_callV_cat C (pc := 4) (E := "java/lang/IndexOutOfBoundsException") (name := "") [] (ts_xe 0 9 12 24) [] hT (fun z hz => by simp at hz) (by decide) (by decide) (by decide) cl_L_24 ts_ca_IndexOutOfBoundsException dL_cascade_4 (ci := 6) (q := (RX6, TX6, 6)) rfl yl_L_64 Mq1 (ts_live (k := 0) (by decide) (by decide) (by decide)) rfl (Nat.le_trans (Nat.le_of_ble_eq_true rfl) hdd) (As := [.inl (.int p1)]) rfl ⟨Nat.le_of_ble_eq_true rfl, Nat.le_of_ble_eq_true rfl⟩ (fun _ => Nat.le_of_ble_eq_true rfl) rfl (fun a5 => ?_)
        refine tv_astoreX_n C (pc := 12) dL_cascade_12 (L' := [some (.inr (0, 0, 0)), some (.inl (.int p1)), some (.inr (50, 0, 0)), none]) rfl (by decide) rfl rfl ?_
        refine tv_iconst C (pc := 13) dL_cascade_13 (v := (1 : Int32)) rfl ?_
        cases h
        exact tv_iret C (pc := 14) rfl dL_cascade_14 ⟨Nat.le_of_ble_eq_true rfl, Nat.le_of_ble_eq_true rfl⟩
      have h := ts_ifn h hE0
      cases h
set_option maxRecDepth 100000 in
set_option maxHeartbeats 4000000 in
theorem m_L_operation {l : Launch} {D : va_G} {dT : Nat → ClassId} {sz : Nat} {ad : ts_I → Nat} (hl : l.stackTraces = false) (p1 : Int32) (p2 : Int32) (p3 : Int32) (u : ts_Mem) (r : (Int32 × ts_Mem)) (h : f_L_operation p1 p2 p3 u = some r) : ts_M l D dT sz yL_operation wL_operation 2 3 18 ad ts_lv ts_R0 [.inr (0, 0, 0), .inl (.int p1), .inl (.int p2), .inl (.int p3), .inr (50, 0, 0)] u (.inl (some (.int r.1))) r.2 := by
    unfold f_L_operation at h
    refine ts_enterX (hh := [(0, 12, 15, 24), (0, 12, 19, 13)]) hl (by decide) rfl rfl (Nat.le_of_ble_eq_true rfl) ?_
    intro p e s m args below meth c C hT
    have C : ts_CX D dT sz p l (ts_rm 2 3 18) s m args meth c RL cL_operation 6 (some .int) 2 := C
    have hdd : 2 ≤ 2 := Nat.le_refl _
    refine tv_aload C (pc := 0) dL_operation_0 rfl ?_
    refine tv_iconst C (pc := 2) dL_operation_2 (v := (0 : Int32)) rfl ?_
    refine tv_aload_n C (pc := 3) dL_operation_3 rfl rfl ?_
    refine tv_iload_n C (pc := 4) dL_operation_4 rfl rfl ?_
    refine tv_iload_n C (pc := 5) dL_operation_5 rfl rfl ?_
    refine tv_iload_n C (pc := 6) dL_operation_6 rfl rfl ?_
    obtain ⟨q1, hq1, h⟩ := ts_bd h
    have Mq1 := (m_X6_operation (D := D) (dT := dT) (sz := sz) (ad := ad) hl p1 p2 p3 u q1 hq1)
    rcases q1 with v2 | e3
    · have h := ts_eL h
      refine tv_callV C (pc := 7) dL_operation_7 (ci := 6) (q := (RX6, TX6, 6)) rfl yl_L_67 Mq1 (ts_live (k := 0) (by decide) (by decide) (by decide)) rfl (Nat.le_trans (Nat.le_of_ble_eq_true rfl) hdd) (As := [.inl (.int p1), .inl (.int p2), .inl (.int p3)]) rfl ⟨Nat.le_of_ble_eq_true rfl, Nat.le_of_ble_eq_true rfl⟩ (fun _ => Nat.le_of_ble_eq_true rfl) rfl ?_
      refine tv_i2l C (pc := 10) dL_operation_10 ?_
      refine tv_lastore C (pc := 11) dL_operation_11 (ts_live (k := 50) (by decide) (by decide) (by decide)) rfl (by decide) (j := 0) (by decide) ?_
      refine tv_nu (fun u4 hu4 => ?_)
      have h := ts_lt h hu4
      refine tv_goto C (pc := 12) 23 dL_operation_12 (by decide) ?_
      refine tv_iconst C (pc := 23) dL_operation_23 (v := (0 : Int32)) rfl ?_
      cases h
      exact tv_iret C (pc := 24) rfl dL_operation_24 ⟨Nat.le_of_ble_eq_true rfl, Nat.le_of_ble_eq_true rfl⟩
    · have h := ts_eR h
      by_cases hE0 : e3 = "java/lang/IndexOutOfBoundsException"
      · subst hE0
        have h := ts_ifp h rfl
        refine tv_callV_cat C (pc := 7) (E := "java/lang/IndexOutOfBoundsException") (name := "") [] (ts_xe 0 12 15 24) [ts_xe 0 12 19 13] hT (fun z hz => by simp at hz) (by decide) (by decide) (by decide) cl_L_24 ts_ca_IndexOutOfBoundsException dL_operation_7 (ci := 6) (q := (RX6, TX6, 6)) rfl yl_L_67 Mq1 (ts_live (k := 0) (by decide) (by decide) (by decide)) rfl (Nat.le_trans (Nat.le_of_ble_eq_true rfl) hdd) (As := [.inl (.int p1), .inl (.int p2), .inl (.int p3)]) rfl ⟨Nat.le_of_ble_eq_true rfl, Nat.le_of_ble_eq_true rfl⟩ (fun _ => Nat.le_of_ble_eq_true rfl) rfl (fun a5 => ?_)
        refine tv_astoreX C (pc := 15) dL_operation_15 (L' := [some (.inr (0, 0, 0)), some (.inl (.int p1)), some (.inl (.int p2)), some (.inl (.int p3)), some (.inr (50, 0, 0)), none]) (by decide) rfl rfl ?_
        refine tv_iconst C (pc := 17) dL_operation_17 (v := (1 : Int32)) rfl ?_
        cases h
        exact tv_iret C (pc := 18) rfl dL_operation_18 ⟨Nat.le_of_ble_eq_true rfl, Nat.le_of_ble_eq_true rfl⟩
      have h := ts_ifn h hE0
      by_cases hE1 : e3 = "java/lang/IllegalArgumentException"
      · subst hE1
        have h := ts_ifp h rfl
        refine tv_callV_cat C (pc := 7) (E := "java/lang/IllegalArgumentException") (name := "") [ts_xe 0 12 15 24] (ts_xe 0 12 19 13) [] hT (fun z hz => by simp only [List.mem_cons, List.not_mem_nil, or_false] at hz; subst hz <;> first | exact ⟨by decide, _, by decide, by decide, cl_L_24⟩) (by decide) (by decide) (by decide) cl_L_13 ts_ca_IllegalArgumentException dL_operation_7 (ci := 6) (q := (RX6, TX6, 6)) rfl yl_L_67 Mq1 (ts_live (k := 0) (by decide) (by decide) (by decide)) rfl (Nat.le_trans (Nat.le_of_ble_eq_true rfl) hdd) (As := [.inl (.int p1), .inl (.int p2), .inl (.int p3)]) rfl ⟨Nat.le_of_ble_eq_true rfl, Nat.le_of_ble_eq_true rfl⟩ (fun _ => Nat.le_of_ble_eq_true rfl) rfl (fun a6 => ?_)
        refine tv_astoreX C (pc := 19) dL_operation_19 (L' := [some (.inr (0, 0, 0)), some (.inl (.int p1)), some (.inl (.int p2)), some (.inl (.int p3)), some (.inr (50, 0, 0)), none]) (by decide) rfl rfl ?_
        refine tv_iconst C (pc := 21) dL_operation_21 (v := (2 : Int32)) rfl ?_
        cases h
        exact tv_iret C (pc := 22) rfl dL_operation_22 ⟨Nat.le_of_ble_eq_true rfl, Nat.le_of_ble_eq_true rfl⟩
      have h := ts_ifn h hE1
      cases h
set_option maxRecDepth 100000 in
set_option maxHeartbeats 4000000 in
theorem m_L_versionCount {l : Launch} {D : va_G} {dT : Nat → ClassId} {sz : Nat} {ad : ts_I → Nat} (hl : l.stackTraces = false) (p1 : Int32) (u : ts_Mem) (r : (Int32 × ts_Mem)) (h : f_L_versionCount p1 u = some r) : ts_M l D dT sz yL_versionCount wL_versionCount 2 1 6 ad ts_lv ts_R0 [.inr (0, 0, 0), .inl (.int p1), .inr (50, 0, 0)] u (.inl (some (.int r.1))) r.2 := by
    unfold f_L_versionCount at h
    refine ts_enterX (hh := [(0, 9, 12, 24)]) hl (by decide) rfl rfl (Nat.le_of_ble_eq_true rfl) ?_
    intro p e s m args below meth c C hT
    have C : ts_CX D dT sz p l (ts_rm 2 1 6) s m args meth c RL cL_versionCount 4 (some .int) 2 := C
    have hdd : 2 ≤ 2 := Nat.le_refl _
    refine tv_aload_n C (pc := 0) dL_versionCount_0 rfl rfl ?_
    refine tv_iconst C (pc := 1) dL_versionCount_1 (v := (0 : Int32)) rfl ?_
    refine tv_aload_n C (pc := 2) dL_versionCount_2 rfl rfl ?_
    refine tv_iload_n C (pc := 3) dL_versionCount_3 rfl rfl ?_
    obtain ⟨q1, hq1, h⟩ := ts_bd h
    have Mq1 := (m_X6_versionCount (D := D) (dT := dT) (sz := sz) (ad := ad) hl p1 u q1 hq1)
    rcases q1 with v2 | e3
    · have h := ts_eL h
      refine tv_callV C (pc := 4) dL_versionCount_4 (ci := 6) (q := (RX6, TX6, 6)) rfl yl_L_70 Mq1 (ts_live (k := 0) (by decide) (by decide) (by decide)) rfl (Nat.le_trans (Nat.le_of_ble_eq_true rfl) hdd) (As := [.inl (.int p1)]) rfl ⟨Nat.le_of_ble_eq_true rfl, Nat.le_of_ble_eq_true rfl⟩ (fun _ => Nat.le_of_ble_eq_true rfl) rfl ?_
      refine tv_i2l C (pc := 7) dL_versionCount_7 ?_
      refine tv_lastore C (pc := 8) dL_versionCount_8 (ts_live (k := 50) (by decide) (by decide) (by decide)) rfl (by decide) (j := 0) (by decide) ?_
      refine tv_nu (fun u4 hu4 => ?_)
      have h := ts_lt h hu4
      refine tv_goto C (pc := 9) 15 dL_versionCount_9 (by decide) ?_
      refine tv_iconst C (pc := 15) dL_versionCount_15 (v := (0 : Int32)) rfl ?_
      cases h
      exact tv_iret C (pc := 16) rfl dL_versionCount_16 ⟨Nat.le_of_ble_eq_true rfl, Nat.le_of_ble_eq_true rfl⟩
    · have h := ts_eR h
      by_cases hE0 : e3 = "java/lang/IndexOutOfBoundsException"
      · subst hE0
        have h := ts_ifp h rfl
        refine tv_callV_cat C (pc := 4) (E := "java/lang/IndexOutOfBoundsException") (name := "") [] (ts_xe 0 9 12 24) [] hT (fun z hz => by simp at hz) (by decide) (by decide) (by decide) cl_L_24 ts_ca_IndexOutOfBoundsException dL_versionCount_4 (ci := 6) (q := (RX6, TX6, 6)) rfl yl_L_70 Mq1 (ts_live (k := 0) (by decide) (by decide) (by decide)) rfl (Nat.le_trans (Nat.le_of_ble_eq_true rfl) hdd) (As := [.inl (.int p1)]) rfl ⟨Nat.le_of_ble_eq_true rfl, Nat.le_of_ble_eq_true rfl⟩ (fun _ => Nat.le_of_ble_eq_true rfl) rfl (fun a5 => ?_)
        refine tv_astoreX_n C (pc := 12) dL_versionCount_12 (L' := [some (.inr (0, 0, 0)), some (.inl (.int p1)), some (.inr (50, 0, 0)), none]) rfl (by decide) rfl rfl ?_
        refine tv_iconst C (pc := 13) dL_versionCount_13 (v := (1 : Int32)) rfl ?_
        cases h
        exact tv_iret C (pc := 14) rfl dL_versionCount_14 ⟨Nat.le_of_ble_eq_true rfl, Nat.le_of_ble_eq_true rfl⟩
      have h := ts_ifn h hE0
      cases h
set_option maxRecDepth 100000 in
set_option maxHeartbeats 4000000 in
theorem m_L_version {l : Launch} {D : va_G} {dT : Nat → ClassId} {sz : Nat} {ad : ts_I → Nat} (hl : l.stackTraces = false) (p1 : Int32) (p2 : Int32) (p3 : Int32) (u : ts_Mem) (r : (Int32 × ts_Mem)) (h : f_L_version p1 p2 p3 u = some r) : ts_M l D dT sz yL_version wL_version 3 3 18 ad ts_lv ts_R0 [.inr (0, 0, 0), .inl (.int p1), .inl (.int p2), .inl (.int p3), .inr (50, 0, 0)] u (.inl (some (.int r.1))) r.2 := by
    unfold f_L_version at h
    refine ts_enterX (hh := [(0, 12, 15, 24), (0, 12, 19, 13)]) hl (by decide) rfl rfl (Nat.le_of_ble_eq_true rfl) ?_
    intro p e s m args below meth c C hT
    have C : ts_CX D dT sz p l (ts_rm 3 3 18) s m args meth c RL cL_version 6 (some .int) 3 := C
    have hdd : 3 ≤ 3 := Nat.le_refl _
    refine tv_aload C (pc := 0) dL_version_0 rfl ?_
    refine tv_iconst C (pc := 2) dL_version_2 (v := (0 : Int32)) rfl ?_
    refine tv_aload_n C (pc := 3) dL_version_3 rfl rfl ?_
    refine tv_iload_n C (pc := 4) dL_version_4 rfl rfl ?_
    refine tv_iload_n C (pc := 5) dL_version_5 rfl rfl ?_
    refine tv_iload_n C (pc := 6) dL_version_6 rfl rfl ?_
    obtain ⟨q1, hq1, h⟩ := ts_bd h
    have Mq1 := (m_X6_version (D := D) (dT := dT) (sz := sz) (ad := ad) hl p1 p2 p3 u q1 hq1)
    rcases q1 with v2 | e3
    · have h := ts_eL h
      refine tv_callV C (pc := 7) dL_version_7 (ci := 6) (q := (RX6, TX6, 6)) rfl yl_L_73 Mq1 (ts_live (k := 0) (by decide) (by decide) (by decide)) rfl (Nat.le_trans (Nat.le_of_ble_eq_true rfl) hdd) (As := [.inl (.int p1), .inl (.int p2), .inl (.int p3)]) rfl ⟨Nat.le_of_ble_eq_true rfl, Nat.le_of_ble_eq_true rfl⟩ (fun _ => Nat.le_of_ble_eq_true rfl) rfl ?_
      refine tv_i2l C (pc := 10) dL_version_10 ?_
      refine tv_lastore C (pc := 11) dL_version_11 (ts_live (k := 50) (by decide) (by decide) (by decide)) rfl (by decide) (j := 0) (by decide) ?_
      refine tv_nu (fun u4 hu4 => ?_)
      have h := ts_lt h hu4
      refine tv_goto C (pc := 12) 23 dL_version_12 (by decide) ?_
      refine tv_iconst C (pc := 23) dL_version_23 (v := (0 : Int32)) rfl ?_
      cases h
      exact tv_iret C (pc := 24) rfl dL_version_24 ⟨Nat.le_of_ble_eq_true rfl, Nat.le_of_ble_eq_true rfl⟩
    · have h := ts_eR h
      by_cases hE0 : e3 = "java/lang/IndexOutOfBoundsException"
      · subst hE0
        have h := ts_ifp h rfl
        refine tv_callV_cat C (pc := 7) (E := "java/lang/IndexOutOfBoundsException") (name := "") [] (ts_xe 0 12 15 24) [ts_xe 0 12 19 13] hT (fun z hz => by simp at hz) (by decide) (by decide) (by decide) cl_L_24 ts_ca_IndexOutOfBoundsException dL_version_7 (ci := 6) (q := (RX6, TX6, 6)) rfl yl_L_73 Mq1 (ts_live (k := 0) (by decide) (by decide) (by decide)) rfl (Nat.le_trans (Nat.le_of_ble_eq_true rfl) hdd) (As := [.inl (.int p1), .inl (.int p2), .inl (.int p3)]) rfl ⟨Nat.le_of_ble_eq_true rfl, Nat.le_of_ble_eq_true rfl⟩ (fun _ => Nat.le_of_ble_eq_true rfl) rfl (fun a5 => ?_)
        refine tv_astoreX C (pc := 15) dL_version_15 (L' := [some (.inr (0, 0, 0)), some (.inl (.int p1)), some (.inl (.int p2)), some (.inl (.int p3)), some (.inr (50, 0, 0)), none]) (by decide) rfl rfl ?_
        refine tv_iconst C (pc := 17) dL_version_17 (v := (1 : Int32)) rfl ?_
        cases h
        exact tv_iret C (pc := 18) rfl dL_version_18 ⟨Nat.le_of_ble_eq_true rfl, Nat.le_of_ble_eq_true rfl⟩
      have h := ts_ifn h hE0
      by_cases hE1 : e3 = "java/lang/IllegalArgumentException"
      · subst hE1
        have h := ts_ifp h rfl
        refine tv_callV_cat C (pc := 7) (E := "java/lang/IllegalArgumentException") (name := "") [ts_xe 0 12 15 24] (ts_xe 0 12 19 13) [] hT (fun z hz => by simp only [List.mem_cons, List.not_mem_nil, or_false] at hz; subst hz <;> first | exact ⟨by decide, _, by decide, by decide, cl_L_24⟩) (by decide) (by decide) (by decide) cl_L_13 ts_ca_IllegalArgumentException dL_version_7 (ci := 6) (q := (RX6, TX6, 6)) rfl yl_L_73 Mq1 (ts_live (k := 0) (by decide) (by decide) (by decide)) rfl (Nat.le_trans (Nat.le_of_ble_eq_true rfl) hdd) (As := [.inl (.int p1), .inl (.int p2), .inl (.int p3)]) rfl ⟨Nat.le_of_ble_eq_true rfl, Nat.le_of_ble_eq_true rfl⟩ (fun _ => Nat.le_of_ble_eq_true rfl) rfl (fun a6 => ?_)
        refine tv_astoreX C (pc := 19) dL_version_19 (L' := [some (.inr (0, 0, 0)), some (.inl (.int p1)), some (.inl (.int p2)), some (.inl (.int p3)), some (.inr (50, 0, 0)), none]) (by decide) rfl rfl ?_
        refine tv_iconst C (pc := 21) dL_version_21 (v := (2 : Int32)) rfl ?_
        cases h
        exact tv_iret C (pc := 22) rfl dL_version_22 ⟨Nat.le_of_ble_eq_true rfl, Nat.le_of_ble_eq_true rfl⟩
      have h := ts_ifn h hE1
      cases h
set_option maxRecDepth 100000 in
set_option maxHeartbeats 4000000 in
theorem m_L_valueAt {l : Launch} {D : va_G} {dT : Nat → ClassId} {sz : Nat} {ad : ts_I → Nat} (hl : l.stackTraces = false) (p1 : Int32) (p2 : Int32) (u : ts_Mem) (r : (Int32 × ts_Mem)) (h : f_L_valueAt p1 p2 u = some r) : ts_M l D dT sz yL_valueAt wL_valueAt 4 2 12 ad ts_lv ts_R0 [.inr (0, 0, 0), .inl (.int p1), .inl (.int p2), .inr (50, 0, 0)] u (.inl (some (.int r.1))) r.2 := by
    unfold f_L_valueAt at h
    refine ts_enterX (hh := [(0, 10, 13, 24), (0, 10, 17, 46)]) hl (by decide) rfl rfl (Nat.le_of_ble_eq_true rfl) ?_
    intro p e s m args below meth c C hT
    have C : ts_CX D dT sz p l (ts_rm 4 2 12) s m args meth c RL cL_valueAt 5 (some .int) 4 := C
    have hdd : 4 ≤ 4 := Nat.le_refl _
    refine tv_aload_n C (pc := 0) dL_valueAt_0 rfl rfl ?_
    refine tv_iconst C (pc := 1) dL_valueAt_1 (v := (0 : Int32)) rfl ?_
    refine tv_aload_n C (pc := 2) dL_valueAt_2 rfl rfl ?_
    refine tv_iload_n C (pc := 3) dL_valueAt_3 rfl rfl ?_
    refine tv_iload_n C (pc := 4) dL_valueAt_4 rfl rfl ?_
    obtain ⟨q1, hq1, h⟩ := ts_bd h
    have Mq1 := (m_X6_valueAt (D := D) (dT := dT) (sz := sz) (ad := ad) hl p1 p2 u q1 hq1)
    rcases q1 with v2 | e3
    · have h := ts_eL h
      refine tv_callV C (pc := 5) dL_valueAt_5 (ci := 6) (q := (RX6, TX6, 6)) rfl yl_L_76 Mq1 (ts_live (k := 0) (by decide) (by decide) (by decide)) rfl (Nat.le_trans (Nat.le_of_ble_eq_true rfl) hdd) (As := [.inl (.int p1), .inl (.int p2)]) rfl ⟨Nat.le_of_ble_eq_true rfl, Nat.le_of_ble_eq_true rfl⟩ (fun _ => Nat.le_of_ble_eq_true rfl) rfl ?_
      refine tv_i2l C (pc := 8) dL_valueAt_8 ?_
      refine tv_lastore C (pc := 9) dL_valueAt_9 (ts_live (k := 50) (by decide) (by decide) (by decide)) rfl (by decide) (j := 0) (by decide) ?_
      refine tv_nu (fun u4 hu4 => ?_)
      have h := ts_lt h hu4
      refine tv_goto C (pc := 10) 21 dL_valueAt_10 (by decide) ?_
      refine tv_iconst C (pc := 21) dL_valueAt_21 (v := (0 : Int32)) rfl ?_
      cases h
      exact tv_iret C (pc := 22) rfl dL_valueAt_22 ⟨Nat.le_of_ble_eq_true rfl, Nat.le_of_ble_eq_true rfl⟩
    · have h := ts_eR h
      by_cases hE0 : e3 = "java/lang/IndexOutOfBoundsException"
      · subst hE0
        have h := ts_ifp h rfl
        refine tv_callV_cat C (pc := 5) (E := "java/lang/IndexOutOfBoundsException") (name := "") [] (ts_xe 0 10 13 24) [ts_xe 0 10 17 46] hT (fun z hz => by simp at hz) (by decide) (by decide) (by decide) cl_L_24 ts_ca_IndexOutOfBoundsException dL_valueAt_5 (ci := 6) (q := (RX6, TX6, 6)) rfl yl_L_76 Mq1 (ts_live (k := 0) (by decide) (by decide) (by decide)) rfl (Nat.le_trans (Nat.le_of_ble_eq_true rfl) hdd) (As := [.inl (.int p1), .inl (.int p2)]) rfl ⟨Nat.le_of_ble_eq_true rfl, Nat.le_of_ble_eq_true rfl⟩ (fun _ => Nat.le_of_ble_eq_true rfl) rfl (fun a5 => ?_)
        refine tv_astoreX C (pc := 13) dL_valueAt_13 (L' := [some (.inr (0, 0, 0)), some (.inl (.int p1)), some (.inl (.int p2)), some (.inr (50, 0, 0)), none]) (by decide) rfl rfl ?_
        refine tv_iconst C (pc := 15) dL_valueAt_15 (v := (1 : Int32)) rfl ?_
        cases h
        exact tv_iret C (pc := 16) rfl dL_valueAt_16 ⟨Nat.le_of_ble_eq_true rfl, Nat.le_of_ble_eq_true rfl⟩
      have h := ts_ifn h hE0
      by_cases hE1 : e3 = "java/util/NoSuchElementException"
      · subst hE1
        have h := ts_ifp h rfl
        refine tv_callV_cat C (pc := 5) (E := "java/util/NoSuchElementException") (name := "") [ts_xe 0 10 13 24] (ts_xe 0 10 17 46) [] hT (fun z hz => by simp only [List.mem_cons, List.not_mem_nil, or_false] at hz; subst hz <;> first | exact ⟨by decide, _, by decide, by decide, cl_L_24⟩) (by decide) (by decide) (by decide) cl_L_46 ts_ca_NoSuchElementException dL_valueAt_5 (ci := 6) (q := (RX6, TX6, 6)) rfl yl_L_76 Mq1 (ts_live (k := 0) (by decide) (by decide) (by decide)) rfl (Nat.le_trans (Nat.le_of_ble_eq_true rfl) hdd) (As := [.inl (.int p1), .inl (.int p2)]) rfl ⟨Nat.le_of_ble_eq_true rfl, Nat.le_of_ble_eq_true rfl⟩ (fun _ => Nat.le_of_ble_eq_true rfl) rfl (fun a6 => ?_)
        refine tv_astoreX C (pc := 17) dL_valueAt_17 (L' := [some (.inr (0, 0, 0)), some (.inl (.int p1)), some (.inl (.int p2)), some (.inr (50, 0, 0)), none]) (by decide) rfl rfl ?_
        refine tv_iconst C (pc := 19) dL_valueAt_19 (v := (2 : Int32)) rfl ?_
        cases h
        exact tv_iret C (pc := 20) rfl dL_valueAt_20 ⟨Nat.le_of_ble_eq_true rfl, Nat.le_of_ble_eq_true rfl⟩
      have h := ts_ifn h hE1
      cases h
set_option maxRecDepth 100000 in
set_option maxHeartbeats 4000000 in
theorem m_L_event {l : Launch} {D : va_G} {dT : Nat → ClassId} {sz : Nat} {ad : ts_I → Nat} (hl : l.stackTraces = false) (p1 : Int32) (p2 : Int32) (u : ts_Mem) (r : (Int32 × ts_Mem)) (h : f_L_event p1 p2 u = some r) : ts_M l D dT sz yL_event wL_event 2 1 6 ad ts_lv ts_R0 [.inr (0, 0, 0), .inl (.int p1), .inl (.int p2), .inr (50, 0, 0)] u (.inl (some (.int r.1))) r.2 := by
    unfold f_L_event at h
    refine ts_enterX (hh := [(0, 10, 13, 24)]) hl (by decide) rfl rfl (Nat.le_of_ble_eq_true rfl) ?_
    intro p e s m args below meth c C hT
    have C : ts_CX D dT sz p l (ts_rm 2 1 6) s m args meth c RL cL_event 5 (some .int) 2 := C
    have hdd : 2 ≤ 2 := Nat.le_refl _
    refine tv_aload_n C (pc := 0) dL_event_0 rfl rfl ?_
    refine tv_iconst C (pc := 1) dL_event_1 (v := (0 : Int32)) rfl ?_
    refine tv_aload_n C (pc := 2) dL_event_2 rfl rfl ?_
    refine tv_iload_n C (pc := 3) dL_event_3 rfl rfl ?_
    refine tv_iload_n C (pc := 4) dL_event_4 rfl rfl ?_
    obtain ⟨q1, hq1, h⟩ := ts_bd h
    have Mq1 := (m_X6_event (D := D) (dT := dT) (sz := sz) (ad := ad) hl p1 p2 u q1 hq1)
    rcases q1 with v2 | e3
    · have h := ts_eL h
      refine tv_callV C (pc := 5) dL_event_5 (ci := 6) (q := (RX6, TX6, 6)) rfl yl_L_79 Mq1 (ts_live (k := 0) (by decide) (by decide) (by decide)) rfl (Nat.le_trans (Nat.le_of_ble_eq_true rfl) hdd) (As := [.inl (.int p1), .inl (.int p2)]) rfl ⟨Nat.le_of_ble_eq_true rfl, Nat.le_of_ble_eq_true rfl⟩ (fun _ => Nat.le_of_ble_eq_true rfl) rfl ?_
      refine tv_i2l C (pc := 8) dL_event_8 ?_
      refine tv_lastore C (pc := 9) dL_event_9 (ts_live (k := 50) (by decide) (by decide) (by decide)) rfl (by decide) (j := 0) (by decide) ?_
      refine tv_nu (fun u4 hu4 => ?_)
      have h := ts_lt h hu4
      refine tv_goto C (pc := 10) 17 dL_event_10 (by decide) ?_
      refine tv_iconst C (pc := 17) dL_event_17 (v := (0 : Int32)) rfl ?_
      cases h
      exact tv_iret C (pc := 18) rfl dL_event_18 ⟨Nat.le_of_ble_eq_true rfl, Nat.le_of_ble_eq_true rfl⟩
    · have h := ts_eR h
      by_cases hE0 : e3 = "java/lang/IndexOutOfBoundsException"
      · subst hE0
        have h := ts_ifp h rfl
        refine tv_callV_cat C (pc := 5) (E := "java/lang/IndexOutOfBoundsException") (name := "") [] (ts_xe 0 10 13 24) [] hT (fun z hz => by simp at hz) (by decide) (by decide) (by decide) cl_L_24 ts_ca_IndexOutOfBoundsException dL_event_5 (ci := 6) (q := (RX6, TX6, 6)) rfl yl_L_79 Mq1 (ts_live (k := 0) (by decide) (by decide) (by decide)) rfl (Nat.le_trans (Nat.le_of_ble_eq_true rfl) hdd) (As := [.inl (.int p1), .inl (.int p2)]) rfl ⟨Nat.le_of_ble_eq_true rfl, Nat.le_of_ble_eq_true rfl⟩ (fun _ => Nat.le_of_ble_eq_true rfl) rfl (fun a5 => ?_)
        refine tv_astoreX C (pc := 13) dL_event_13 (L' := [some (.inr (0, 0, 0)), some (.inl (.int p1)), some (.inl (.int p2)), some (.inr (50, 0, 0)), none]) (by decide) rfl rfl ?_
        refine tv_iconst C (pc := 15) dL_event_15 (v := (1 : Int32)) rfl ?_
        cases h
        exact tv_iret C (pc := 16) rfl dL_event_16 ⟨Nat.le_of_ble_eq_true rfl, Nat.le_of_ble_eq_true rfl⟩
      have h := ts_ifn h hE0
      cases h
set_option maxRecDepth 100000 in
set_option maxHeartbeats 4000000 in
theorem m_L_total {l : Launch} {D : va_G} {dT : Nat → ClassId} {sz : Nat} {ad : ts_I → Nat} (hl : l.stackTraces = false) (p1 : Int32) (u : ts_Mem) (r : (Int32 × ts_Mem)) (h : f_L_total p1 u = some r) : ts_M l D dT sz yL_total wL_total 2 1 6 ad ts_lv ts_R0 [.inr (0, 0, 0), .inl (.int p1), .inr (50, 0, 0)] u (.inl (some (.int r.1))) r.2 := by
    unfold f_L_total at h
    refine ts_enterX (hh := [(0, 9, 12, 13)]) hl (by decide) rfl rfl (Nat.le_of_ble_eq_true rfl) ?_
    intro p e s m args below meth c C hT
    have C : ts_CX D dT sz p l (ts_rm 2 1 6) s m args meth c RL cL_total 4 (some .int) 2 := C
    have hdd : 2 ≤ 2 := Nat.le_refl _
    refine tv_aload_n C (pc := 0) dL_total_0 rfl rfl ?_
    refine tv_iconst C (pc := 1) dL_total_1 (v := (0 : Int32)) rfl ?_
    refine tv_aload_n C (pc := 2) dL_total_2 rfl rfl ?_
    refine tv_iload_n C (pc := 3) dL_total_3 rfl rfl ?_
    obtain ⟨q1, hq1, h⟩ := ts_bd h
    have Mq1 := (m_X6_total (D := D) (dT := dT) (sz := sz) (ad := ad) hl p1 u q1 hq1)
    rcases q1 with v2 | e3
    · have h := ts_eL h
      refine tv_callV C (pc := 4) dL_total_4 (ci := 6) (q := (RX6, TX6, 6)) rfl yl_L_82 Mq1 (ts_live (k := 0) (by decide) (by decide) (by decide)) rfl (Nat.le_trans (Nat.le_of_ble_eq_true rfl) hdd) (As := [.inl (.int p1)]) rfl ⟨Nat.le_of_ble_eq_true rfl, Nat.le_of_ble_eq_true rfl⟩ (fun _ => Nat.le_of_ble_eq_true rfl) rfl ?_
      refine tv_i2l C (pc := 7) dL_total_7 ?_
      refine tv_lastore C (pc := 8) dL_total_8 (ts_live (k := 50) (by decide) (by decide) (by decide)) rfl (by decide) (j := 0) (by decide) ?_
      refine tv_nu (fun u4 hu4 => ?_)
      have h := ts_lt h hu4
      refine tv_goto C (pc := 9) 15 dL_total_9 (by decide) ?_
      refine tv_iconst C (pc := 15) dL_total_15 (v := (0 : Int32)) rfl ?_
      cases h
      exact tv_iret C (pc := 16) rfl dL_total_16 ⟨Nat.le_of_ble_eq_true rfl, Nat.le_of_ble_eq_true rfl⟩
    · have h := ts_eR h
      by_cases hE0 : e3 = "java/lang/IllegalArgumentException"
      · subst hE0
        have h := ts_ifp h rfl
        refine tv_callV_cat C (pc := 4) (E := "java/lang/IllegalArgumentException") (name := "") [] (ts_xe 0 9 12 13) [] hT (fun z hz => by simp at hz) (by decide) (by decide) (by decide) cl_L_13 ts_ca_IllegalArgumentException dL_total_4 (ci := 6) (q := (RX6, TX6, 6)) rfl yl_L_82 Mq1 (ts_live (k := 0) (by decide) (by decide) (by decide)) rfl (Nat.le_trans (Nat.le_of_ble_eq_true rfl) hdd) (As := [.inl (.int p1)]) rfl ⟨Nat.le_of_ble_eq_true rfl, Nat.le_of_ble_eq_true rfl⟩ (fun _ => Nat.le_of_ble_eq_true rfl) rfl (fun a5 => ?_)
        refine tv_astoreX_n C (pc := 12) dL_total_12 (L' := [some (.inr (0, 0, 0)), some (.inl (.int p1)), some (.inr (50, 0, 0)), none]) rfl (by decide) rfl rfl ?_
        refine tv_iconst C (pc := 13) dL_total_13 (v := (1 : Int32)) rfl ?_
        cases h
        exact tv_iret C (pc := 14) rfl dL_total_14 ⟨Nat.le_of_ble_eq_true rfl, Nat.le_of_ble_eq_true rfl⟩
      have h := ts_ifn h hE0
      cases h
set_option maxRecDepth 100000 in
set_option maxHeartbeats 4000000 in
theorem m_L_abortShare {l : Launch} {D : va_G} {dT : Nat → ClassId} {sz : Nat} {ad : ts_I → Nat} (hl : l.stackTraces = false)  (u : ts_Mem) (r : (Int32 × ts_Mem)) (h : f_L_abortShare  u = some r) : ts_M l D dT sz yL_abortShare wL_abortShare 1 1 6 ad ts_lv ts_R0 [.inr (0, 0, 0), .inr (51, 0, 0)] u (.inl (some (.int r.1))) r.2 := by
    unfold f_L_abortShare at h
    refine ts_enterX (hh := [(0, 7, 10, 89)]) hl (by decide) rfl rfl (Nat.le_of_ble_eq_true rfl) ?_
    intro p e s m args below meth c C hT
    have C : ts_CX D dT sz p l (ts_rm 1 1 6) s m args meth c RL cL_abortShare 3 (some .int) 1 := C
    have hdd : 1 ≤ 1 := Nat.le_refl _
    refine tv_aload_n C (pc := 0) dL_abortShare_0 rfl rfl ?_
    refine tv_iconst C (pc := 1) dL_abortShare_1 (v := (0 : Int32)) rfl ?_
    refine tv_aload_n C (pc := 2) dL_abortShare_2 rfl rfl ?_
    obtain ⟨q1, hq1, h⟩ := ts_bd h
    have Mq1 := (m_X6_abortShare (D := D) (dT := dT) (sz := sz) (ad := ad) hl  u q1 hq1)
    rcases q1 with v2 | e3
    · have h := ts_eL h
      refine tv_callV C (pc := 3) dL_abortShare_3 (ci := 6) (q := (RX6, TX6, 6)) rfl yl_L_85 Mq1 (ts_live (k := 0) (by decide) (by decide) (by decide)) rfl (Nat.le_trans (Nat.le_of_ble_eq_true rfl) hdd) (As := []) rfl ⟨Nat.le_of_ble_eq_true rfl, Nat.le_of_ble_eq_true rfl⟩ (fun _ => Nat.le_of_ble_eq_true rfl) rfl ?_
      refine tv_dastore C (pc := 6) dL_abortShare_6 (ts_live (k := 51) (by decide) (by decide) (by decide)) rfl (by decide) (j := 0) (by decide) ?_
      refine tv_nu (fun u4 hu4 => ?_)
      have h := ts_lt h hu4
      refine tv_goto C (pc := 7) 13 dL_abortShare_7 (by decide) ?_
      refine tv_iconst C (pc := 13) dL_abortShare_13 (v := (0 : Int32)) rfl ?_
      cases h
      exact tv_iret C (pc := 14) rfl dL_abortShare_14 ⟨Nat.le_of_ble_eq_true rfl, Nat.le_of_ble_eq_true rfl⟩
    · have h := ts_eR h
      by_cases hE0 : e3 = "java/lang/ArithmeticException"
      · subst hE0
        have h := ts_ifp h rfl
        refine tv_callV_cat C (pc := 3) (E := "java/lang/ArithmeticException") (name := "") [] (ts_xe 0 7 10 89) [] hT (fun z hz => by simp at hz) (by decide) (by decide) (by decide) cl_L_89 ts_ca_ArithmeticException dL_abortShare_3 (ci := 6) (q := (RX6, TX6, 6)) rfl yl_L_85 Mq1 (ts_live (k := 0) (by decide) (by decide) (by decide)) rfl (Nat.le_trans (Nat.le_of_ble_eq_true rfl) hdd) (As := []) rfl ⟨Nat.le_of_ble_eq_true rfl, Nat.le_of_ble_eq_true rfl⟩ (fun _ => Nat.le_of_ble_eq_true rfl) rfl (fun a5 => ?_)
        refine tv_astoreX_n C (pc := 10) dL_abortShare_10 (L' := [some (.inr (0, 0, 0)), some (.inr (51, 0, 0)), none]) rfl (by decide) rfl rfl ?_
        refine tv_iconst C (pc := 11) dL_abortShare_11 (v := (1 : Int32)) rfl ?_
        cases h
        exact tv_iret C (pc := 12) rfl dL_abortShare_12 ⟨Nat.le_of_ble_eq_true rfl, Nat.le_of_ble_eq_true rfl⟩
      have h := ts_ifn h hE0
      cases h
set_option maxRecDepth 100000 in
set_option maxHeartbeats 4000000 in
theorem m_L_allocate {l : Launch} {D : va_G} {dT : Nat → ClassId} {sz : Nat} {ad : ts_I → Nat} (hl : l.stackTraces = false) (p1 : Int32) (p2 : Int32) (p3 : Int32) (u : ts_Mem) (r : (Int32 × ts_Mem)) (h : f_L_allocate p1 p2 p3 u = some r) : ts_M l D dT sz yL_allocate wL_allocate 2 3 18 ad ts_lv ts_R0 [.inr (0, 0, 0), .inl (.int p1), .inl (.int p2), .inl (.int p3)] u (.inl (some (.int r.1))) r.2 := by
    unfold f_L_allocate at h
    refine ts_enterX (hh := [(0, 7, 10, 24), (0, 7, 14, 13)]) hl (by decide) rfl rfl (Nat.le_of_ble_eq_true rfl) ?_
    intro p e s m args below meth c C hT
    have C : ts_CX D dT sz p l (ts_rm 2 3 18) s m args meth c RL cL_allocate 5 (some .int) 2 := C
    have hdd : 2 ≤ 2 := Nat.le_refl _
    refine tv_aload_n C (pc := 0) dL_allocate_0 rfl rfl ?_
    refine tv_iload_n C (pc := 1) dL_allocate_1 rfl rfl ?_
    refine tv_iload_n C (pc := 2) dL_allocate_2 rfl rfl ?_
    refine tv_iload_n C (pc := 3) dL_allocate_3 rfl rfl ?_
    obtain ⟨q1, hq1, h⟩ := ts_bd h
    have Mq1 := (m_X6_allocate (D := D) (dT := dT) (sz := sz) (ad := ad) hl p1 p2 p3 u q1 hq1)
    rcases hsq1 : q1.1 with v2 | e3 <;> rw [hsq1] at h Mq1
    · have h := ts_eL h
      refine tv_callV C (pc := 4) dL_allocate_4 (ci := 6) (q := (RX6, TX6, 6)) rfl yl_L_91 Mq1 (ts_live (k := 0) (by decide) (by decide) (by decide)) rfl (Nat.le_trans (Nat.le_of_ble_eq_true rfl) hdd) (As := [.inl (.int p1), .inl (.int p2), .inl (.int p3)]) rfl ⟨Nat.le_of_ble_eq_true rfl, Nat.le_of_ble_eq_true rfl⟩ (fun _ => Nat.le_of_ble_eq_true rfl) rfl ?_
      refine tv_goto C (pc := 7) 18 dL_allocate_7 (by decide) ?_
      refine tv_iconst C (pc := 18) dL_allocate_18 (v := (0 : Int32)) rfl ?_
      cases h
      exact tv_iret C (pc := 19) rfl dL_allocate_19 ⟨Nat.le_of_ble_eq_true rfl, Nat.le_of_ble_eq_true rfl⟩
    · have h := ts_eR h
      by_cases hE0 : e3 = "java/lang/IndexOutOfBoundsException"
      · subst hE0
        have h := ts_ifp h rfl
        refine tv_callV_cat C (pc := 4) (E := "java/lang/IndexOutOfBoundsException") (name := "") [] (ts_xe 0 7 10 24) [ts_xe 0 7 14 13] hT (fun z hz => by simp at hz) (by decide) (by decide) (by decide) cl_L_24 ts_ca_IndexOutOfBoundsException dL_allocate_4 (ci := 6) (q := (RX6, TX6, 6)) rfl yl_L_91 Mq1 (ts_live (k := 0) (by decide) (by decide) (by decide)) rfl (Nat.le_trans (Nat.le_of_ble_eq_true rfl) hdd) (As := [.inl (.int p1), .inl (.int p2), .inl (.int p3)]) rfl ⟨Nat.le_of_ble_eq_true rfl, Nat.le_of_ble_eq_true rfl⟩ (fun _ => Nat.le_of_ble_eq_true rfl) rfl (fun a4 => ?_)
        refine tv_astoreX C (pc := 10) dL_allocate_10 (L' := [some (.inr (0, 0, 0)), some (.inl (.int p1)), some (.inl (.int p2)), some (.inl (.int p3)), none]) (by decide) rfl rfl ?_
        refine tv_iconst C (pc := 12) dL_allocate_12 (v := (1 : Int32)) rfl ?_
        cases h
        exact tv_iret C (pc := 13) rfl dL_allocate_13 ⟨Nat.le_of_ble_eq_true rfl, Nat.le_of_ble_eq_true rfl⟩
      have h := ts_ifn h hE0
      by_cases hE1 : e3 = "java/lang/IllegalArgumentException"
      · subst hE1
        have h := ts_ifp h rfl
        refine tv_callV_cat C (pc := 4) (E := "java/lang/IllegalArgumentException") (name := "") [ts_xe 0 7 10 24] (ts_xe 0 7 14 13) [] hT (fun z hz => by simp only [List.mem_cons, List.not_mem_nil, or_false] at hz; subst hz <;> first | exact ⟨by decide, _, by decide, by decide, cl_L_24⟩) (by decide) (by decide) (by decide) cl_L_13 ts_ca_IllegalArgumentException dL_allocate_4 (ci := 6) (q := (RX6, TX6, 6)) rfl yl_L_91 Mq1 (ts_live (k := 0) (by decide) (by decide) (by decide)) rfl (Nat.le_trans (Nat.le_of_ble_eq_true rfl) hdd) (As := [.inl (.int p1), .inl (.int p2), .inl (.int p3)]) rfl ⟨Nat.le_of_ble_eq_true rfl, Nat.le_of_ble_eq_true rfl⟩ (fun _ => Nat.le_of_ble_eq_true rfl) rfl (fun a5 => ?_)
        refine tv_astoreX C (pc := 14) dL_allocate_14 (L' := [some (.inr (0, 0, 0)), some (.inl (.int p1)), some (.inl (.int p2)), some (.inl (.int p3)), none]) (by decide) rfl rfl ?_
        refine tv_iconst C (pc := 16) dL_allocate_16 (v := (2 : Int32)) rfl ?_
        cases h
        exact tv_iret C (pc := 17) rfl dL_allocate_17 ⟨Nat.le_of_ble_eq_true rfl, Nat.le_of_ble_eq_true rfl⟩
      have h := ts_ifn h hE1
      cases h
set_option maxRecDepth 100000 in
set_option maxHeartbeats 4000000 in
theorem m_L_export {l : Launch} {D : va_G} {dT : Nat → ClassId} {sz : Nat} {ad : ts_I → Nat} (hl : l.stackTraces = false) (p1 : Int32) (p2 : Int32) (u : ts_Mem) (r : (Int32 × ts_Mem)) (h : f_L_export p1 p2 u = some r) : ts_M l D dT sz yL_export wL_export 2 3 18 ad ts_lv ts_R0 [.inr (0, 0, 0), .inl (.int p1), .inl (.int p2), .inr (50, 0, 0)] u (.inl (some (.int r.1))) r.2 := by
    unfold f_L_export at h
    refine ts_enterX (hh := [(0, 10, 13, 24), (0, 10, 17, 18)]) hl (by decide) rfl rfl (Nat.le_of_ble_eq_true rfl) ?_
    intro p e s m args below meth c C hT
    have C : ts_CX D dT sz p l (ts_rm 2 3 18) s m args meth c RL cL_export 5 (some .int) 2 := C
    have hdd : 2 ≤ 2 := Nat.le_refl _
    refine tv_aload_n C (pc := 0) dL_export_0 rfl rfl ?_
    refine tv_iconst C (pc := 1) dL_export_1 (v := (0 : Int32)) rfl ?_
    refine tv_aload_n C (pc := 2) dL_export_2 rfl rfl ?_
    refine tv_iload_n C (pc := 3) dL_export_3 rfl rfl ?_
    refine tv_iload_n C (pc := 4) dL_export_4 rfl rfl ?_
    obtain ⟨q1, hq1, h⟩ := ts_bd h
    have Mq1 := (m_X6_export (D := D) (dT := dT) (sz := sz) (ad := ad) hl p1 p2 u q1 hq1)
    rcases hsq1 : q1.1 with v2 | e3 <;> rw [hsq1] at h Mq1
    · have h := ts_eL h
      refine tv_callV C (pc := 5) dL_export_5 (ci := 6) (q := (RX6, TX6, 6)) rfl yl_L_95 Mq1 (ts_live (k := 0) (by decide) (by decide) (by decide)) rfl (Nat.le_trans (Nat.le_of_ble_eq_true rfl) hdd) (As := [.inl (.int p1), .inl (.int p2)]) rfl ⟨Nat.le_of_ble_eq_true rfl, Nat.le_of_ble_eq_true rfl⟩ (fun _ => Nat.le_of_ble_eq_true rfl) rfl ?_
      refine tv_i2l C (pc := 8) dL_export_8 ?_
      refine tv_lastore C (pc := 9) dL_export_9 (ts_live (k := 50) (by decide) (by decide) (by decide)) rfl (by decide) (j := 0) (by decide) ?_
      refine tv_nu (fun u4 hu4 => ?_)
      have h := ts_lt h hu4
      refine tv_goto C (pc := 10) 21 dL_export_10 (by decide) ?_
      refine tv_iconst C (pc := 21) dL_export_21 (v := (0 : Int32)) rfl ?_
      cases h
      exact tv_iret C (pc := 22) rfl dL_export_22 ⟨Nat.le_of_ble_eq_true rfl, Nat.le_of_ble_eq_true rfl⟩
    · have h := ts_eR h
      by_cases hE0 : e3 = "java/lang/IndexOutOfBoundsException"
      · subst hE0
        have h := ts_ifp h rfl
        refine tv_callV_cat C (pc := 5) (E := "java/lang/IndexOutOfBoundsException") (name := "") [] (ts_xe 0 10 13 24) [ts_xe 0 10 17 18] hT (fun z hz => by simp at hz) (by decide) (by decide) (by decide) cl_L_24 ts_ca_IndexOutOfBoundsException dL_export_5 (ci := 6) (q := (RX6, TX6, 6)) rfl yl_L_95 Mq1 (ts_live (k := 0) (by decide) (by decide) (by decide)) rfl (Nat.le_trans (Nat.le_of_ble_eq_true rfl) hdd) (As := [.inl (.int p1), .inl (.int p2)]) rfl ⟨Nat.le_of_ble_eq_true rfl, Nat.le_of_ble_eq_true rfl⟩ (fun _ => Nat.le_of_ble_eq_true rfl) rfl (fun a5 => ?_)
        refine tv_astoreX C (pc := 13) dL_export_13 (L' := [some (.inr (0, 0, 0)), some (.inl (.int p1)), some (.inl (.int p2)), some (.inr (50, 0, 0)), none]) (by decide) rfl rfl ?_
        refine tv_iconst C (pc := 15) dL_export_15 (v := (1 : Int32)) rfl ?_
        cases h
        exact tv_iret C (pc := 16) rfl dL_export_16 ⟨Nat.le_of_ble_eq_true rfl, Nat.le_of_ble_eq_true rfl⟩
      have h := ts_ifn h hE0
      by_cases hE1 : e3 = "java/lang/IllegalStateException"
      · subst hE1
        have h := ts_ifp h rfl
        refine tv_callV_cat C (pc := 5) (E := "java/lang/IllegalStateException") (name := "") [ts_xe 0 10 13 24] (ts_xe 0 10 17 18) [] hT (fun z hz => by simp only [List.mem_cons, List.not_mem_nil, or_false] at hz; subst hz <;> first | exact ⟨by decide, _, by decide, by decide, cl_L_24⟩) (by decide) (by decide) (by decide) cl_L_18 ts_ca_IllegalStateException dL_export_5 (ci := 6) (q := (RX6, TX6, 6)) rfl yl_L_95 Mq1 (ts_live (k := 0) (by decide) (by decide) (by decide)) rfl (Nat.le_trans (Nat.le_of_ble_eq_true rfl) hdd) (As := [.inl (.int p1), .inl (.int p2)]) rfl ⟨Nat.le_of_ble_eq_true rfl, Nat.le_of_ble_eq_true rfl⟩ (fun _ => Nat.le_of_ble_eq_true rfl) rfl (fun a6 => ?_)
        refine tv_astoreX C (pc := 17) dL_export_17 (L' := [some (.inr (0, 0, 0)), some (.inl (.int p1)), some (.inl (.int p2)), some (.inr (50, 0, 0)), none]) (by decide) rfl rfl ?_
        refine tv_iconst C (pc := 19) dL_export_19 (v := (2 : Int32)) rfl ?_
        cases h
        exact tv_iret C (pc := 20) rfl dL_export_20 ⟨Nat.le_of_ble_eq_true rfl, Nat.le_of_ble_eq_true rfl⟩
      have h := ts_ifn h hE1
      cases h
set_option maxRecDepth 100000 in
set_option maxHeartbeats 4000000 in
theorem m_L_divide {l : Launch} {D : va_G} {dT : Nat → ClassId} {sz : Nat} {ad : ts_I → Nat} (hl : l.stackTraces = false) (p1 : Int32) (p2 : Int32) (p3 : Int32) (u : ts_Mem) (r : (Int32 × ts_Mem)) (h : f_L_divide p1 p2 p3 u = some r) : ts_M l D dT sz yL_divide wL_divide 2 3 18 ad ts_lv ts_R0 [.inr (0, 0, 0), .inl (.int p1), .inl (.int p2), .inl (.int p3), .inr (51, 0, 0)] u (.inl (some (.int r.1))) r.2 := by
    unfold f_L_divide at h
    refine ts_enterX (hh := [(0, 12, 15, 24), (0, 12, 19, 18), (0, 12, 23, 89), (0, 12, 27, 46)]) hl (by decide) rfl rfl (Nat.le_of_ble_eq_true rfl) ?_
    intro p e s m args below meth c C hT
    have C : ts_CX D dT sz p l (ts_rm 2 3 18) s m args meth c RL cL_divide 6 (some .int) 2 := C
    have hdd : 2 ≤ 2 := Nat.le_refl _
    refine tv_aload C (pc := 0) dL_divide_0 rfl ?_
    refine tv_iconst C (pc := 2) dL_divide_2 (v := (0 : Int32)) rfl ?_
    refine tv_aload_n C (pc := 3) dL_divide_3 rfl rfl ?_
    refine tv_iload_n C (pc := 4) dL_divide_4 rfl rfl ?_
    refine tv_iload_n C (pc := 5) dL_divide_5 rfl rfl ?_
    refine tv_iload_n C (pc := 6) dL_divide_6 rfl rfl ?_
    obtain ⟨q1, hq1, h⟩ := ts_bd h
    have Mq1 := (m_X6_divide (D := D) (dT := dT) (sz := sz) (ad := ad) hl p1 p2 p3 u q1 hq1)
    rcases hsq1 : q1.1 with v2 | e3 <;> rw [hsq1] at h Mq1
    · have h := ts_eL h
      refine tv_callV C (pc := 7) dL_divide_7 (ci := 6) (q := (RX6, TX6, 6)) rfl yl_L_98 Mq1 (ts_live (k := 0) (by decide) (by decide) (by decide)) rfl (Nat.le_trans (Nat.le_of_ble_eq_true rfl) hdd) (As := [.inl (.int p1), .inl (.int p2), .inl (.int p3)]) rfl ⟨Nat.le_of_ble_eq_true rfl, Nat.le_of_ble_eq_true rfl⟩ (fun _ => Nat.le_of_ble_eq_true rfl) rfl ?_
      obtain ⟨hg4, h⟩ := ts_gd h
      refine tv_f2d C (pc := 10) dL_divide_10 hg4 ?_
      refine tv_dastore C (pc := 11) dL_divide_11 (ts_live (k := 51) (by decide) (by decide) (by decide)) rfl (by decide) (j := 0) (by decide) ?_
      refine tv_nu (fun u5 hu5 => ?_)
      have h := ts_lt h hu5
      refine tv_goto C (pc := 12) 31 dL_divide_12 (by decide) ?_
      refine tv_iconst C (pc := 31) dL_divide_31 (v := (0 : Int32)) rfl ?_
      cases h
      exact tv_iret C (pc := 32) rfl dL_divide_32 ⟨Nat.le_of_ble_eq_true rfl, Nat.le_of_ble_eq_true rfl⟩
    · have h := ts_eR h
      by_cases hE0 : e3 = "java/lang/IndexOutOfBoundsException"
      · subst hE0
        have h := ts_ifp h rfl
        refine tv_callV_cat C (pc := 7) (E := "java/lang/IndexOutOfBoundsException") (name := "") [] (ts_xe 0 12 15 24) [ts_xe 0 12 19 18, ts_xe 0 12 23 89, ts_xe 0 12 27 46] hT (fun z hz => by simp at hz) (by decide) (by decide) (by decide) cl_L_24 ts_ca_IndexOutOfBoundsException dL_divide_7 (ci := 6) (q := (RX6, TX6, 6)) rfl yl_L_98 Mq1 (ts_live (k := 0) (by decide) (by decide) (by decide)) rfl (Nat.le_trans (Nat.le_of_ble_eq_true rfl) hdd) (As := [.inl (.int p1), .inl (.int p2), .inl (.int p3)]) rfl ⟨Nat.le_of_ble_eq_true rfl, Nat.le_of_ble_eq_true rfl⟩ (fun _ => Nat.le_of_ble_eq_true rfl) rfl (fun a6 => ?_)
        refine tv_astoreX C (pc := 15) dL_divide_15 (L' := [some (.inr (0, 0, 0)), some (.inl (.int p1)), some (.inl (.int p2)), some (.inl (.int p3)), some (.inr (51, 0, 0)), none]) (by decide) rfl rfl ?_
        refine tv_iconst C (pc := 17) dL_divide_17 (v := (1 : Int32)) rfl ?_
        cases h
        exact tv_iret C (pc := 18) rfl dL_divide_18 ⟨Nat.le_of_ble_eq_true rfl, Nat.le_of_ble_eq_true rfl⟩
      have h := ts_ifn h hE0
      by_cases hE1 : e3 = "java/lang/IllegalStateException"
      · subst hE1
        have h := ts_ifp h rfl
        refine tv_callV_cat C (pc := 7) (E := "java/lang/IllegalStateException") (name := "") [ts_xe 0 12 15 24] (ts_xe 0 12 19 18) [ts_xe 0 12 23 89, ts_xe 0 12 27 46] hT (fun z hz => by simp only [List.mem_cons, List.not_mem_nil, or_false] at hz; subst hz <;> first | exact ⟨by decide, _, by decide, by decide, cl_L_24⟩) (by decide) (by decide) (by decide) cl_L_18 ts_ca_IllegalStateException dL_divide_7 (ci := 6) (q := (RX6, TX6, 6)) rfl yl_L_98 Mq1 (ts_live (k := 0) (by decide) (by decide) (by decide)) rfl (Nat.le_trans (Nat.le_of_ble_eq_true rfl) hdd) (As := [.inl (.int p1), .inl (.int p2), .inl (.int p3)]) rfl ⟨Nat.le_of_ble_eq_true rfl, Nat.le_of_ble_eq_true rfl⟩ (fun _ => Nat.le_of_ble_eq_true rfl) rfl (fun a7 => ?_)
        refine tv_astoreX C (pc := 19) dL_divide_19 (L' := [some (.inr (0, 0, 0)), some (.inl (.int p1)), some (.inl (.int p2)), some (.inl (.int p3)), some (.inr (51, 0, 0)), none]) (by decide) rfl rfl ?_
        refine tv_iconst C (pc := 21) dL_divide_21 (v := (2 : Int32)) rfl ?_
        cases h
        exact tv_iret C (pc := 22) rfl dL_divide_22 ⟨Nat.le_of_ble_eq_true rfl, Nat.le_of_ble_eq_true rfl⟩
      have h := ts_ifn h hE1
      by_cases hE2 : e3 = "java/lang/ArithmeticException"
      · subst hE2
        have h := ts_ifp h rfl
        refine tv_callV_cat C (pc := 7) (E := "java/lang/ArithmeticException") (name := "") [ts_xe 0 12 15 24, ts_xe 0 12 19 18] (ts_xe 0 12 23 89) [ts_xe 0 12 27 46] hT (fun z hz => by simp only [List.mem_cons, List.not_mem_nil, or_false] at hz; rcases hz with rfl | rfl <;> first | exact ⟨by decide, _, by decide, by decide, cl_L_24⟩ | exact ⟨by decide, _, by decide, by decide, cl_L_18⟩) (by decide) (by decide) (by decide) cl_L_89 ts_ca_ArithmeticException dL_divide_7 (ci := 6) (q := (RX6, TX6, 6)) rfl yl_L_98 Mq1 (ts_live (k := 0) (by decide) (by decide) (by decide)) rfl (Nat.le_trans (Nat.le_of_ble_eq_true rfl) hdd) (As := [.inl (.int p1), .inl (.int p2), .inl (.int p3)]) rfl ⟨Nat.le_of_ble_eq_true rfl, Nat.le_of_ble_eq_true rfl⟩ (fun _ => Nat.le_of_ble_eq_true rfl) rfl (fun a8 => ?_)
        refine tv_astoreX C (pc := 23) dL_divide_23 (L' := [some (.inr (0, 0, 0)), some (.inl (.int p1)), some (.inl (.int p2)), some (.inl (.int p3)), some (.inr (51, 0, 0)), none]) (by decide) rfl rfl ?_
        refine tv_iconst C (pc := 25) dL_divide_25 (v := (3 : Int32)) rfl ?_
        cases h
        exact tv_iret C (pc := 26) rfl dL_divide_26 ⟨Nat.le_of_ble_eq_true rfl, Nat.le_of_ble_eq_true rfl⟩
      have h := ts_ifn h hE2
      by_cases hE3 : e3 = "java/util/NoSuchElementException"
      · subst hE3
        have h := ts_ifp h rfl
        refine tv_callV_cat C (pc := 7) (E := "java/util/NoSuchElementException") (name := "") [ts_xe 0 12 15 24, ts_xe 0 12 19 18, ts_xe 0 12 23 89] (ts_xe 0 12 27 46) [] hT (fun z hz => by simp only [List.mem_cons, List.not_mem_nil, or_false] at hz; rcases hz with rfl | rfl | rfl <;> first | exact ⟨by decide, _, by decide, by decide, cl_L_24⟩ | exact ⟨by decide, _, by decide, by decide, cl_L_18⟩ | exact ⟨by decide, _, by decide, by decide, cl_L_89⟩) (by decide) (by decide) (by decide) cl_L_46 ts_ca_NoSuchElementException dL_divide_7 (ci := 6) (q := (RX6, TX6, 6)) rfl yl_L_98 Mq1 (ts_live (k := 0) (by decide) (by decide) (by decide)) rfl (Nat.le_trans (Nat.le_of_ble_eq_true rfl) hdd) (As := [.inl (.int p1), .inl (.int p2), .inl (.int p3)]) rfl ⟨Nat.le_of_ble_eq_true rfl, Nat.le_of_ble_eq_true rfl⟩ (fun _ => Nat.le_of_ble_eq_true rfl) rfl (fun a9 => ?_)
        refine tv_astoreX C (pc := 27) dL_divide_27 (L' := [some (.inr (0, 0, 0)), some (.inl (.int p1)), some (.inl (.int p2)), some (.inl (.int p3)), some (.inr (51, 0, 0)), none]) (by decide) rfl rfl ?_
        refine tv_iconst C (pc := 29) dL_divide_29 (v := (4 : Int32)) rfl ?_
        cases h
        exact tv_iret C (pc := 30) rfl dL_divide_30 ⟨Nat.le_of_ble_eq_true rfl, Nat.le_of_ble_eq_true rfl⟩
      have h := ts_ifn h hE3
      cases h
set_option maxRecDepth 100000 in
set_option maxHeartbeats 4000000 in
theorem m_L_cloneRow {l : Launch} {D : va_G} {dT : Nat → ClassId} {sz : Nat} {ad : ts_I → Nat} (hl : l.stackTraces = false) (p1 : Int32) (p2 : Int32) (u : ts_Mem) (r : (Int32 × ts_Mem)) (h : f_L_cloneRow p1 p2 u = some r) : ts_M l D dT sz yL_cloneRow wL_cloneRow 3 2 12 ad ts_lv ts_R0 [.inr (0, 0, 0), .inl (.int p1), .inl (.int p2), .inr (50, 0, 0)] u (.inl (some (.int r.1))) r.2 := by
    unfold f_L_cloneRow at h
    refine ts_enterX (hh := [(0, 10, 13, 24), (0, 10, 17, 18)]) hl (by decide) rfl rfl (Nat.le_of_ble_eq_true rfl) ?_
    intro p e s m args below meth c C hT
    have C : ts_CX D dT sz p l (ts_rm 3 2 12) s m args meth c RL cL_cloneRow 5 (some .int) 3 := C
    have hdd : 3 ≤ 3 := Nat.le_refl _
    refine tv_aload_n C (pc := 0) dL_cloneRow_0 rfl rfl ?_
    refine tv_iconst C (pc := 1) dL_cloneRow_1 (v := (0 : Int32)) rfl ?_
    refine tv_aload_n C (pc := 2) dL_cloneRow_2 rfl rfl ?_
    refine tv_iload_n C (pc := 3) dL_cloneRow_3 rfl rfl ?_
    refine tv_iload_n C (pc := 4) dL_cloneRow_4 rfl rfl ?_
    obtain ⟨q1, hq1, h⟩ := ts_bd h
    have Mq1 := (m_X6_cloneRow (D := D) (dT := dT) (sz := sz) (ad := ad) hl p1 p2 u q1 hq1)
    rcases hsq1 : q1.1 with v2 | e3 <;> rw [hsq1] at h Mq1
    · have h := ts_eL h
      refine tv_callV C (pc := 5) dL_cloneRow_5 (ci := 6) (q := (RX6, TX6, 6)) rfl yl_L_102 Mq1 (ts_live (k := 0) (by decide) (by decide) (by decide)) rfl (Nat.le_trans (Nat.le_of_ble_eq_true rfl) hdd) (As := [.inl (.int p1), .inl (.int p2)]) rfl ⟨Nat.le_of_ble_eq_true rfl, Nat.le_of_ble_eq_true rfl⟩ (fun _ => Nat.le_of_ble_eq_true rfl) rfl ?_
      refine tv_i2l C (pc := 8) dL_cloneRow_8 ?_
      refine tv_lastore C (pc := 9) dL_cloneRow_9 (ts_live (k := 50) (by decide) (by decide) (by decide)) rfl (by decide) (j := 0) (by decide) ?_
      refine tv_nu (fun u4 hu4 => ?_)
      have h := ts_lt h hu4
      refine tv_goto C (pc := 10) 21 dL_cloneRow_10 (by decide) ?_
      refine tv_iconst C (pc := 21) dL_cloneRow_21 (v := (0 : Int32)) rfl ?_
      cases h
      exact tv_iret C (pc := 22) rfl dL_cloneRow_22 ⟨Nat.le_of_ble_eq_true rfl, Nat.le_of_ble_eq_true rfl⟩
    · have h := ts_eR h
      by_cases hE0 : e3 = "java/lang/IndexOutOfBoundsException"
      · subst hE0
        have h := ts_ifp h rfl
        refine tv_callV_cat C (pc := 5) (E := "java/lang/IndexOutOfBoundsException") (name := "") [] (ts_xe 0 10 13 24) [ts_xe 0 10 17 18] hT (fun z hz => by simp at hz) (by decide) (by decide) (by decide) cl_L_24 ts_ca_IndexOutOfBoundsException dL_cloneRow_5 (ci := 6) (q := (RX6, TX6, 6)) rfl yl_L_102 Mq1 (ts_live (k := 0) (by decide) (by decide) (by decide)) rfl (Nat.le_trans (Nat.le_of_ble_eq_true rfl) hdd) (As := [.inl (.int p1), .inl (.int p2)]) rfl ⟨Nat.le_of_ble_eq_true rfl, Nat.le_of_ble_eq_true rfl⟩ (fun _ => Nat.le_of_ble_eq_true rfl) rfl (fun a5 => ?_)
        refine tv_astoreX C (pc := 13) dL_cloneRow_13 (L' := [some (.inr (0, 0, 0)), some (.inl (.int p1)), some (.inl (.int p2)), some (.inr (50, 0, 0)), none]) (by decide) rfl rfl ?_
        refine tv_iconst C (pc := 15) dL_cloneRow_15 (v := (1 : Int32)) rfl ?_
        cases h
        exact tv_iret C (pc := 16) rfl dL_cloneRow_16 ⟨Nat.le_of_ble_eq_true rfl, Nat.le_of_ble_eq_true rfl⟩
      have h := ts_ifn h hE0
      by_cases hE1 : e3 = "java/lang/IllegalStateException"
      · subst hE1
        have h := ts_ifp h rfl
        refine tv_callV_cat C (pc := 5) (E := "java/lang/IllegalStateException") (name := "") [ts_xe 0 10 13 24] (ts_xe 0 10 17 18) [] hT (fun z hz => by simp only [List.mem_cons, List.not_mem_nil, or_false] at hz; subst hz <;> first | exact ⟨by decide, _, by decide, by decide, cl_L_24⟩) (by decide) (by decide) (by decide) cl_L_18 ts_ca_IllegalStateException dL_cloneRow_5 (ci := 6) (q := (RX6, TX6, 6)) rfl yl_L_102 Mq1 (ts_live (k := 0) (by decide) (by decide) (by decide)) rfl (Nat.le_trans (Nat.le_of_ble_eq_true rfl) hdd) (As := [.inl (.int p1), .inl (.int p2)]) rfl ⟨Nat.le_of_ble_eq_true rfl, Nat.le_of_ble_eq_true rfl⟩ (fun _ => Nat.le_of_ble_eq_true rfl) rfl (fun a6 => ?_)
        refine tv_astoreX C (pc := 17) dL_cloneRow_17 (L' := [some (.inr (0, 0, 0)), some (.inl (.int p1)), some (.inl (.int p2)), some (.inr (50, 0, 0)), none]) (by decide) rfl rfl ?_
        refine tv_iconst C (pc := 19) dL_cloneRow_19 (v := (2 : Int32)) rfl ?_
        cases h
        exact tv_iret C (pc := 20) rfl dL_cloneRow_20 ⟨Nat.le_of_ble_eq_true rfl, Nat.le_of_ble_eq_true rfl⟩
      have h := ts_ifn h hE1
      cases h
set_option maxRecDepth 100000 in
set_option maxHeartbeats 4000000 in
theorem m_L_copyRow {l : Launch} {D : va_G} {dT : Nat → ClassId} {sz : Nat} {ad : ts_I → Nat} (hl : l.stackTraces = false) (p1 : Int32) (p2 : Int32) (u : ts_Mem) (r : (Int32 × ts_Mem)) (h : f_L_copyRow p1 p2 u = some r) : ts_M l D dT sz yL_copyRow wL_copyRow 2 4 24 ad ts_lv ts_R0 [.inr (0, 0, 0), .inl (.int p1), .inl (.int p2), .inr (50, 0, 0)] u (.inl (some (.int r.1))) r.2 := by
    unfold f_L_copyRow at h
    refine ts_enterX (hh := [(0, 10, 13, 24), (0, 10, 17, 18), (0, 10, 21, 13), (0, 10, 25, 46)]) hl (by decide) rfl rfl (Nat.le_of_ble_eq_true rfl) ?_
    intro p e s m args below meth c C hT
    have C : ts_CX D dT sz p l (ts_rm 2 4 24) s m args meth c RL cL_copyRow 5 (some .int) 2 := C
    have hdd : 2 ≤ 2 := Nat.le_refl _
    refine tv_aload_n C (pc := 0) dL_copyRow_0 rfl rfl ?_
    refine tv_iconst C (pc := 1) dL_copyRow_1 (v := (0 : Int32)) rfl ?_
    refine tv_aload_n C (pc := 2) dL_copyRow_2 rfl rfl ?_
    refine tv_iload_n C (pc := 3) dL_copyRow_3 rfl rfl ?_
    refine tv_iload_n C (pc := 4) dL_copyRow_4 rfl rfl ?_
    obtain ⟨q1, hq1, h⟩ := ts_bd h
    have Mq1 := (m_X6_copyRow (D := D) (dT := dT) (sz := sz) (ad := ad) hl p1 p2 u q1 hq1)
    rcases hsq1 : q1.1 with v2 | e3 <;> rw [hsq1] at h Mq1
    · have h := ts_eL h
      refine tv_callV C (pc := 5) dL_copyRow_5 (ci := 6) (q := (RX6, TX6, 6)) rfl yl_L_105 Mq1 (ts_live (k := 0) (by decide) (by decide) (by decide)) rfl (Nat.le_trans (Nat.le_of_ble_eq_true rfl) hdd) (As := [.inl (.int p1), .inl (.int p2)]) rfl ⟨Nat.le_of_ble_eq_true rfl, Nat.le_of_ble_eq_true rfl⟩ (fun _ => Nat.le_of_ble_eq_true rfl) rfl ?_
      refine tv_i2l C (pc := 8) dL_copyRow_8 ?_
      refine tv_lastore C (pc := 9) dL_copyRow_9 (ts_live (k := 50) (by decide) (by decide) (by decide)) rfl (by decide) (j := 0) (by decide) ?_
      refine tv_nu (fun u4 hu4 => ?_)
      have h := ts_lt h hu4
      refine tv_goto C (pc := 10) 29 dL_copyRow_10 (by decide) ?_
      refine tv_iconst C (pc := 29) dL_copyRow_29 (v := (0 : Int32)) rfl ?_
      cases h
      exact tv_iret C (pc := 30) rfl dL_copyRow_30 ⟨Nat.le_of_ble_eq_true rfl, Nat.le_of_ble_eq_true rfl⟩
    · have h := ts_eR h
      by_cases hE0 : e3 = "java/lang/IndexOutOfBoundsException"
      · subst hE0
        have h := ts_ifp h rfl
        refine tv_callV_cat C (pc := 5) (E := "java/lang/IndexOutOfBoundsException") (name := "") [] (ts_xe 0 10 13 24) [ts_xe 0 10 17 18, ts_xe 0 10 21 13, ts_xe 0 10 25 46] hT (fun z hz => by simp at hz) (by decide) (by decide) (by decide) cl_L_24 ts_ca_IndexOutOfBoundsException dL_copyRow_5 (ci := 6) (q := (RX6, TX6, 6)) rfl yl_L_105 Mq1 (ts_live (k := 0) (by decide) (by decide) (by decide)) rfl (Nat.le_trans (Nat.le_of_ble_eq_true rfl) hdd) (As := [.inl (.int p1), .inl (.int p2)]) rfl ⟨Nat.le_of_ble_eq_true rfl, Nat.le_of_ble_eq_true rfl⟩ (fun _ => Nat.le_of_ble_eq_true rfl) rfl (fun a5 => ?_)
        refine tv_astoreX C (pc := 13) dL_copyRow_13 (L' := [some (.inr (0, 0, 0)), some (.inl (.int p1)), some (.inl (.int p2)), some (.inr (50, 0, 0)), none]) (by decide) rfl rfl ?_
        refine tv_iconst C (pc := 15) dL_copyRow_15 (v := (1 : Int32)) rfl ?_
        cases h
        exact tv_iret C (pc := 16) rfl dL_copyRow_16 ⟨Nat.le_of_ble_eq_true rfl, Nat.le_of_ble_eq_true rfl⟩
      have h := ts_ifn h hE0
      by_cases hE1 : e3 = "java/lang/IllegalStateException"
      · subst hE1
        have h := ts_ifp h rfl
        refine tv_callV_cat C (pc := 5) (E := "java/lang/IllegalStateException") (name := "") [ts_xe 0 10 13 24] (ts_xe 0 10 17 18) [ts_xe 0 10 21 13, ts_xe 0 10 25 46] hT (fun z hz => by simp only [List.mem_cons, List.not_mem_nil, or_false] at hz; subst hz <;> first | exact ⟨by decide, _, by decide, by decide, cl_L_24⟩) (by decide) (by decide) (by decide) cl_L_18 ts_ca_IllegalStateException dL_copyRow_5 (ci := 6) (q := (RX6, TX6, 6)) rfl yl_L_105 Mq1 (ts_live (k := 0) (by decide) (by decide) (by decide)) rfl (Nat.le_trans (Nat.le_of_ble_eq_true rfl) hdd) (As := [.inl (.int p1), .inl (.int p2)]) rfl ⟨Nat.le_of_ble_eq_true rfl, Nat.le_of_ble_eq_true rfl⟩ (fun _ => Nat.le_of_ble_eq_true rfl) rfl (fun a6 => ?_)
        refine tv_astoreX C (pc := 17) dL_copyRow_17 (L' := [some (.inr (0, 0, 0)), some (.inl (.int p1)), some (.inl (.int p2)), some (.inr (50, 0, 0)), none]) (by decide) rfl rfl ?_
        refine tv_iconst C (pc := 19) dL_copyRow_19 (v := (2 : Int32)) rfl ?_
        cases h
        exact tv_iret C (pc := 20) rfl dL_copyRow_20 ⟨Nat.le_of_ble_eq_true rfl, Nat.le_of_ble_eq_true rfl⟩
      have h := ts_ifn h hE1
      by_cases hE2 : e3 = "java/lang/IllegalArgumentException"
      · subst hE2
        have h := ts_ifp h rfl
        refine tv_callV_cat C (pc := 5) (E := "java/lang/IllegalArgumentException") (name := "") [ts_xe 0 10 13 24, ts_xe 0 10 17 18] (ts_xe 0 10 21 13) [ts_xe 0 10 25 46] hT (fun z hz => by simp only [List.mem_cons, List.not_mem_nil, or_false] at hz; rcases hz with rfl | rfl <;> first | exact ⟨by decide, _, by decide, by decide, cl_L_24⟩ | exact ⟨by decide, _, by decide, by decide, cl_L_18⟩) (by decide) (by decide) (by decide) cl_L_13 ts_ca_IllegalArgumentException dL_copyRow_5 (ci := 6) (q := (RX6, TX6, 6)) rfl yl_L_105 Mq1 (ts_live (k := 0) (by decide) (by decide) (by decide)) rfl (Nat.le_trans (Nat.le_of_ble_eq_true rfl) hdd) (As := [.inl (.int p1), .inl (.int p2)]) rfl ⟨Nat.le_of_ble_eq_true rfl, Nat.le_of_ble_eq_true rfl⟩ (fun _ => Nat.le_of_ble_eq_true rfl) rfl (fun a7 => ?_)
        refine tv_astoreX C (pc := 21) dL_copyRow_21 (L' := [some (.inr (0, 0, 0)), some (.inl (.int p1)), some (.inl (.int p2)), some (.inr (50, 0, 0)), none]) (by decide) rfl rfl ?_
        refine tv_iconst C (pc := 23) dL_copyRow_23 (v := (3 : Int32)) rfl ?_
        cases h
        exact tv_iret C (pc := 24) rfl dL_copyRow_24 ⟨Nat.le_of_ble_eq_true rfl, Nat.le_of_ble_eq_true rfl⟩
      have h := ts_ifn h hE2
      by_cases hE3 : e3 = "java/util/NoSuchElementException"
      · subst hE3
        have h := ts_ifp h rfl
        refine tv_callV_cat C (pc := 5) (E := "java/util/NoSuchElementException") (name := "") [ts_xe 0 10 13 24, ts_xe 0 10 17 18, ts_xe 0 10 21 13] (ts_xe 0 10 25 46) [] hT (fun z hz => by simp only [List.mem_cons, List.not_mem_nil, or_false] at hz; rcases hz with rfl | rfl | rfl <;> first | exact ⟨by decide, _, by decide, by decide, cl_L_24⟩ | exact ⟨by decide, _, by decide, by decide, cl_L_18⟩ | exact ⟨by decide, _, by decide, by decide, cl_L_13⟩) (by decide) (by decide) (by decide) cl_L_46 ts_ca_NoSuchElementException dL_copyRow_5 (ci := 6) (q := (RX6, TX6, 6)) rfl yl_L_105 Mq1 (ts_live (k := 0) (by decide) (by decide) (by decide)) rfl (Nat.le_trans (Nat.le_of_ble_eq_true rfl) hdd) (As := [.inl (.int p1), .inl (.int p2)]) rfl ⟨Nat.le_of_ble_eq_true rfl, Nat.le_of_ble_eq_true rfl⟩ (fun _ => Nat.le_of_ble_eq_true rfl) rfl (fun a8 => ?_)
        refine tv_astoreX C (pc := 25) dL_copyRow_25 (L' := [some (.inr (0, 0, 0)), some (.inl (.int p1)), some (.inl (.int p2)), some (.inr (50, 0, 0)), none]) (by decide) rfl rfl ?_
        refine tv_iconst C (pc := 27) dL_copyRow_27 (v := (4 : Int32)) rfl ?_
        cases h
        exact tv_iret C (pc := 28) rfl dL_copyRow_28 ⟨Nat.le_of_ble_eq_true rfl, Nat.le_of_ble_eq_true rfl⟩
      have h := ts_ifn h hE3
      cases h
set_option maxRecDepth 100000 in
set_option maxHeartbeats 4000000 in
theorem m_L_restore {l : Launch} {D : va_G} {dT : Nat → ClassId} {sz : Nat} {ad : ts_I → Nat} (hl : l.stackTraces = false)  (u : ts_Mem) (r : (Int32 × ts_Mem)) (h : f_L_restore  u = some r) : ts_M l D dT sz yL_restore wL_restore 3 1 6 ad ts_lv ts_R0 [.inr (0, 0, 0), .inr (50, 0, 0)] u (.inl (some (.int r.1))) r.2 := by
    unfold f_L_restore at h
    refine ts_enterX (hh := [(0, 8, 11, 18)]) hl (by decide) rfl rfl (Nat.le_of_ble_eq_true rfl) ?_
    intro p e s m args below meth c C hT
    have C : ts_CX D dT sz p l (ts_rm 3 1 6) s m args meth c RL cL_restore 3 (some .int) 3 := C
    have hdd : 3 ≤ 3 := Nat.le_refl _
    refine tv_aload_n C (pc := 0) dL_restore_0 rfl rfl ?_
    refine tv_iconst C (pc := 1) dL_restore_1 (v := (0 : Int32)) rfl ?_
    refine tv_aload_n C (pc := 2) dL_restore_2 rfl rfl ?_
    obtain ⟨q1, hq1, h⟩ := ts_bd h
    have Mq1 := (m_X6_restore (D := D) (dT := dT) (sz := sz) (ad := ad) hl  u q1 hq1)
    rcases hsq1 : q1.1 with v2 | e3 <;> rw [hsq1] at h Mq1
    · have h := ts_eL h
      refine tv_callV C (pc := 3) dL_restore_3 (ci := 6) (q := (RX6, TX6, 6)) rfl yl_L_108 Mq1 (ts_live (k := 0) (by decide) (by decide) (by decide)) rfl (Nat.le_trans (Nat.le_of_ble_eq_true rfl) hdd) (As := []) rfl ⟨Nat.le_of_ble_eq_true rfl, Nat.le_of_ble_eq_true rfl⟩ (fun _ => Nat.le_of_ble_eq_true rfl) rfl ?_
      refine tv_i2l C (pc := 6) dL_restore_6 ?_
      refine tv_lastore C (pc := 7) dL_restore_7 (ts_live (k := 50) (by decide) (by decide) (by decide)) rfl (by decide) (j := 0) (by decide) ?_
      refine tv_nu (fun u4 hu4 => ?_)
      have h := ts_lt h hu4
      refine tv_goto C (pc := 8) 14 dL_restore_8 (by decide) ?_
      refine tv_iconst C (pc := 14) dL_restore_14 (v := (0 : Int32)) rfl ?_
      cases h
      exact tv_iret C (pc := 15) rfl dL_restore_15 ⟨Nat.le_of_ble_eq_true rfl, Nat.le_of_ble_eq_true rfl⟩
    · have h := ts_eR h
      by_cases hE0 : e3 = "java/lang/IllegalStateException"
      · subst hE0
        have h := ts_ifp h rfl
        refine tv_callV_cat C (pc := 3) (E := "java/lang/IllegalStateException") (name := "") [] (ts_xe 0 8 11 18) [] hT (fun z hz => by simp at hz) (by decide) (by decide) (by decide) cl_L_18 ts_ca_IllegalStateException dL_restore_3 (ci := 6) (q := (RX6, TX6, 6)) rfl yl_L_108 Mq1 (ts_live (k := 0) (by decide) (by decide) (by decide)) rfl (Nat.le_trans (Nat.le_of_ble_eq_true rfl) hdd) (As := []) rfl ⟨Nat.le_of_ble_eq_true rfl, Nat.le_of_ble_eq_true rfl⟩ (fun _ => Nat.le_of_ble_eq_true rfl) rfl (fun a5 => ?_)
        refine tv_astoreX_n C (pc := 11) dL_restore_11 (L' := [some (.inr (0, 0, 0)), some (.inr (50, 0, 0)), none]) rfl (by decide) rfl rfl ?_
        refine tv_iconst C (pc := 12) dL_restore_12 (v := (1 : Int32)) rfl ?_
        cases h
        exact tv_iret C (pc := 13) rfl dL_restore_13 ⟨Nat.le_of_ble_eq_true rfl, Nat.le_of_ble_eq_true rfl⟩
      have h := ts_ifn h hE0
      cases h
