section TLW
variable {D : va_G} {dT : Nat → ClassId} {sz : Nat} {p : Program} {l : Launch} {e : Env} {R : Room} {s : State} {m : MethodId} {args : Array Value} {below : List Frame} {meth : Method} {c : Code} {nL d : Nat} {Q : State → Prop} {own : String} {cc : ByteArray} {ret : Option FieldType}
variable {ad : ts_I → Nat} {lv : List ts_I} {rf : ts_I → Nat → Option ts_I} {pc : Nat} {L L' : List (Option ts_AV)} {S : List ts_AV} {u : ts_Mem} {k n : Nat}
theorem tv_aloadQ_n (C : ts_CX D dT sz p l R s m args meth c own cc nL ret d) {j : Fin 4} {i : Nat} {x : Nat} (hd : decode cc pc = .ok (.aload_n j, 1)) (hi : (j : Nat) = i) (hL : L[i]? = some (some (.inl (.ref x)))) (K : ts_V D dT sz p l e R s m args below meth c nL Q ad lv rf (pc + 1) L (.inl (.ref x) :: S) u k n) : ts_V D dT sz p l e R s m args below meth c nL Q ad lv rf pc L S u k n := fun ls H locs hl hw hS => lv_aload_n C.1 C.2.1 hd hi (hl.2.2 i _ hL) (K ls H locs hl hw hS)
theorem tv_sld (C : ts_CX D dT sz p l R s m args meth c own cc nL ret d) {b N j : Nat} {xs : Nat → Int32} {x : Int32} (hd : decode cc pc = .ok (.iaload, 1)) (hXs : va_X b N xs s s.heap) (hbl : b < s.heap.size) (hbA : ¬ sz ≤ b) (hx : ts_inr x N) (hj : x.toNatClampNeg = j) (K : ts_V D dT sz p l e R s m args below meth c nL Q ad lv rf (pc + 1) L (.inl (.int (xs j)) :: S) u k n) : ts_V D dT sz p l e R s m args below meth c nL Q ad lv rf pc L (.inl (.int x) :: .inl (.ref b) :: S) u k n := by
  subst hj
  exact fun ls H locs hl hw hS => va_sld C.1 C.2.1 hXs hbl hbA hS hx hd (K ls H locs hl hw hS)
theorem tv_slen (C : ts_CX D dT sz p l R s m args meth c own cc nL ret d) {b N : Nat} {xs : Nat → Int32} (hd : decode cc pc = .ok (.arraylength, 1)) (hXs : va_X b N xs s s.heap) (hbl : b < s.heap.size) (hbA : ¬ sz ≤ b) (K : ts_V D dT sz p l e R s m args below meth c nL Q ad lv rf (pc + 1) L (.inl (.int (Int32.ofNat N)) :: S) u k n) : ts_V D dT sz p l e R s m args below meth c nL Q ad lv rf pc L (.inl (.ref b) :: S) u k n := fun ls H locs hl hw hS => va_slen C.1 C.2.1 hXs hbl hbA hS hd (K ls H locs hl hw hS)
end TLW
set_option maxRecDepth 100000 in
set_option maxHeartbeats 4000000 in
theorem lc_192 {D : va_G} {dT : Nat → ClassId} {sz : Nat} {p : Program} {l : Launch} {e : Env} {R : Room} {s : State} {m : MethodId} {args : Array Value} {below : List Frame} {meth : Method} {c : Code} {d : Nat} {ad : ts_I → Nat} {Q : State → Prop} (hl : l.stackTraces = false) (C : ts_CX D dT sz p l R s m args meth c RL cL_law 9 (some .boolean) d) (hdd : 25 ≤ d) {b N : Nat} {xs : Nat → Int32} (hXs : va_X b N xs s s.heap) (hbl : b < s.heap.size) (hbA : ¬ sz ≤ b) {kk nn : Nat} (hkn : kk + 8 ≤ R.cells ∧ nn + 48 ≤ R.slots) (v5 : Int32) (u u2 : ts_Mem) (h : fL_192 xs N v5 u = some u2) (K : ∀ k2 n2 : Nat, k2 ≤ kk + 8 → n2 ≤ nn + 48 → ts_V D dT sz p l e R s m args below meth c 9 Q ad ts_lv ts_R0 1994 [some (.inl (.ref b)), some (.inr (0, 0, 0)), some (.inr (30, 0, 0)), some (.inr (50, 0, 0)), some (.inr (51, 0, 0)), some (.inl (.int v5)), none, none, none] [] u2 k2 n2) : ts_V D dT sz p l e R s m args below meth c 9 Q ad ts_lv ts_R0 192 [some (.inl (.ref b)), some (.inr (0, 0, 0)), some (.inr (30, 0, 0)), some (.inr (50, 0, 0)), some (.inr (51, 0, 0)), some (.inl (.int v5)), none, none, none] [] u kk nn := by
  unfold fL_192 at h
  refine tv_aload_n C (pc := 192) dL_law_192 rfl rfl ?_
  refine tv_aloadQ_n C (pc := 193) dL_law_193 rfl rfl ?_
  refine tv_iload C (pc := 194) dL_law_194 rfl ?_
  refine tv_iconst C (pc := 196) dL_law_196 (v := (1 : Int32)) rfl ?_
  refine tv_iadd C (pc := 197) dL_law_197 ?_
  obtain ⟨hr1, h⟩ := ts_gd h
  refine tv_sld C (pc := 198) dL_law_198 hXs hbl hbA hr1 (j := ((v5 + (1 : Int32))).toNatClampNeg) rfl ?_
  refine tv_aload_n C (pc := 199) dL_law_199 rfl rfl ?_
  obtain ⟨q2, hq2, h⟩ := ts_bd h
  refine tv_callX C (pc := 200) dL_law_200 yl_L_115 (m_L_reset (D := D) (dT := dT) (sz := sz) (ad := ad) hl (xs ((v5 + (1 : Int32))).toNatClampNeg) u q2 hq2) (Nat.le_trans (Nat.le_of_ble_eq_true rfl) hdd) (As := [.inr (0, 0, 0), .inl (.int (xs ((v5 + (1 : Int32))).toNatClampNeg)), .inr (50, 0, 0)]) rfl ⟨by omega, by omega⟩ (fun _ => Nat.le_of_ble_eq_true rfl) rfl ?_
  refine tv_istore C (pc := 203) dL_law_203 (L' := [some (.inl (.ref b)), some (.inr (0, 0, 0)), some (.inr (30, 0, 0)), some (.inr (50, 0, 0)), some (.inr (51, 0, 0)), some (.inl (.int v5)), some (.inl (.int q2.1)), none, none]) (by decide) rfl rfl ?_
  refine tv_aload_n C (pc := 205) dL_law_205 rfl rfl ?_
  refine tv_aloadQ_n C (pc := 206) dL_law_206 rfl rfl ?_
  refine tv_iload C (pc := 207) dL_law_207 rfl ?_
  refine tv_iconst C (pc := 209) dL_law_209 (v := (1 : Int32)) rfl ?_
  refine tv_iadd C (pc := 210) dL_law_210 ?_
  obtain ⟨hr3, h⟩ := ts_gd h
  refine tv_sld C (pc := 211) dL_law_211 hXs hbl hbA hr3 (j := ((v5 + (1 : Int32))).toNatClampNeg) rfl ?_
  obtain ⟨q4, hq4, h⟩ := ts_bd h
  refine tv_callV C (pc := 212) dL_law_212 (ci := 7) (q := (RX7, TX7, 37)) rfl yl_L_120 (m_X7_reset (D := D) (dT := dT) (sz := sz) (ad := ad) hl (xs ((v5 + (1 : Int32))).toNatClampNeg) q2.2 q4 hq4) (ts_live (k := 30) (by decide) (by decide) (by decide)) rfl (Nat.le_trans (Nat.le_of_ble_eq_true rfl) hdd) (As := [.inl (.int (xs ((v5 + (1 : Int32))).toNatClampNeg))]) rfl ⟨by omega, by omega⟩ (fun _ => Nat.le_of_ble_eq_true rfl) rfl ?_
  refine tv_istore C (pc := 215) dL_law_215 (L' := [some (.inl (.ref b)), some (.inr (0, 0, 0)), some (.inr (30, 0, 0)), some (.inr (50, 0, 0)), some (.inr (51, 0, 0)), some (.inl (.int v5)), some (.inl (.int q2.1)), some (.inl (.int q4.1)), none]) (by decide) rfl rfl ?_
  refine tv_aload_n C (pc := 217) dL_law_217 rfl rfl ?_
  obtain ⟨q5, hq5, h⟩ := ts_bd h
  refine tv_callV C (pc := 218) dL_law_218 (ci := 7) (q := (RX7, TX7, 37)) rfl yl_L_121 (m_X7_thrown (D := D) (dT := dT) (sz := sz) (ad := ad) hl  q4.2 q5 hq5) (ts_live (k := 30) (by decide) (by decide) (by decide)) rfl (Nat.le_trans (Nat.le_of_ble_eq_true rfl) hdd) (As := []) rfl ⟨by omega, by omega⟩ (fun _ => Nat.le_of_ble_eq_true rfl) rfl ?_
  refine tv_iload C (pc := 221) dL_law_221 rfl ?_
  refine tv_icmp_eq C (pc := 223) 228 dL_law_223 (by decide) (fun hc => ?_) (fun hc => ?_)
  · have h := ts_ifp h hc
    refine tv_iload C (pc := 228) dL_law_228 rfl ?_
    refine tv_if_ne C (pc := 230) 245 dL_law_230 (by decide) (fun hc => ?_) (fun hc => ?_)
    · have h := ts_ifn h hc
      refine tv_goto C (pc := 245) 1994 dL_law_245 (by decide) ?_
      refine tv_drop 6 (L' := [some (.inl (.ref b)), some (.inr (0, 0, 0)), some (.inr (30, 0, 0)), some (.inr (50, 0, 0)), some (.inr (51, 0, 0)), some (.inl (.int v5)), none, some (.inl (.int q4.1)), none]) rfl ?_
      refine tv_drop 7 (L' := [some (.inl (.ref b)), some (.inr (0, 0, 0)), some (.inr (30, 0, 0)), some (.inr (50, 0, 0)), some (.inr (51, 0, 0)), some (.inl (.int v5)), none, none, none]) rfl ?_
      cases h
      exact K _ _ (by omega) (by omega)
    · have h := ts_ifp h hc
      refine tv_aload_n C (pc := 233) dL_law_233 rfl rfl ?_
      refine tv_iconst C (pc := 234) dL_law_234 (v := (0 : Int32)) rfl ?_
      refine tv_laload C (pc := 235) dL_law_235 (ts_live (k := 50) (by decide) (by decide) (by decide)) rfl (by decide) (j := 0) (by decide) ?_
      refine tv_iload C (pc := 236) dL_law_236 rfl ?_
      refine tv_i2l C (pc := 238) dL_law_238 ?_
      refine tv_lcmp C (pc := 239) dL_law_239 ?_
      refine tv_if_eq C (pc := 240) 245 dL_law_240 (by decide) (fun hc => ?_) (fun hc => ?_)
      · have h := ts_ifp h hc
        refine tv_goto C (pc := 245) 1994 dL_law_245 (by decide) ?_
        refine tv_drop 6 (L' := [some (.inl (.ref b)), some (.inr (0, 0, 0)), some (.inr (30, 0, 0)), some (.inr (50, 0, 0)), some (.inr (51, 0, 0)), some (.inl (.int v5)), none, some (.inl (.int q4.1)), none]) rfl ?_
        refine tv_drop 7 (L' := [some (.inl (.ref b)), some (.inr (0, 0, 0)), some (.inr (30, 0, 0)), some (.inr (50, 0, 0)), some (.inr (51, 0, 0)), some (.inl (.int v5)), none, none, none]) rfl ?_
        cases h
        exact K _ _ (by omega) (by omega)
      · have h := ts_ifn h hc
        refine tv_iconst C (pc := 243) dL_law_243 (v := (0 : Int32)) rfl ?_
        cases h
  · have h := ts_ifn h hc
    refine tv_iconst C (pc := 226) dL_law_226 (v := (0 : Int32)) rfl ?_
    cases h
set_option maxRecDepth 100000 in
set_option maxHeartbeats 4000000 in
theorem lc_248 {D : va_G} {dT : Nat → ClassId} {sz : Nat} {p : Program} {l : Launch} {e : Env} {R : Room} {s : State} {m : MethodId} {args : Array Value} {below : List Frame} {meth : Method} {c : Code} {d : Nat} {ad : ts_I → Nat} {Q : State → Prop} (hl : l.stackTraces = false) (C : ts_CX D dT sz p l R s m args meth c RL cL_law 9 (some .boolean) d) (hdd : 25 ≤ d) {b N : Nat} {xs : Nat → Int32} (hXs : va_X b N xs s s.heap) (hbl : b < s.heap.size) (hbA : ¬ sz ≤ b) {kk nn : Nat} (hkn : kk + 8 ≤ R.cells ∧ nn + 48 ≤ R.slots) (v5 : Int32) (u u2 : ts_Mem) (h : fL_248 xs N v5 u = some u2) (K : ∀ k2 n2 : Nat, k2 ≤ kk + 8 → n2 ≤ nn + 48 → ts_V D dT sz p l e R s m args below meth c 9 Q ad ts_lv ts_R0 1994 [some (.inl (.ref b)), some (.inr (0, 0, 0)), some (.inr (30, 0, 0)), some (.inr (50, 0, 0)), some (.inr (51, 0, 0)), some (.inl (.int v5)), none, none, none] [] u2 k2 n2) : ts_V D dT sz p l e R s m args below meth c 9 Q ad ts_lv ts_R0 248 [some (.inl (.ref b)), some (.inr (0, 0, 0)), some (.inr (30, 0, 0)), some (.inr (50, 0, 0)), some (.inr (51, 0, 0)), some (.inl (.int v5)), none, none, none] [] u kk nn := by
  unfold fL_248 at h
  refine tv_aload_n C (pc := 248) dL_law_248 rfl rfl ?_
  refine tv_aloadQ_n C (pc := 249) dL_law_249 rfl rfl ?_
  refine tv_iload C (pc := 250) dL_law_250 rfl ?_
  refine tv_iconst C (pc := 252) dL_law_252 (v := (1 : Int32)) rfl ?_
  refine tv_iadd C (pc := 253) dL_law_253 ?_
  obtain ⟨hr1, h⟩ := ts_gd h
  refine tv_sld C (pc := 254) dL_law_254 hXs hbl hbA hr1 (j := ((v5 + (1 : Int32))).toNatClampNeg) rfl ?_
  refine tv_aload_n C (pc := 255) dL_law_255 rfl rfl ?_
  obtain ⟨q2, hq2, h⟩ := ts_bd h
  refine tv_callX C (pc := 256) dL_law_256 yl_L_124 (m_L_begin (D := D) (dT := dT) (sz := sz) (ad := ad) hl (xs ((v5 + (1 : Int32))).toNatClampNeg) u q2 hq2) (Nat.le_trans (Nat.le_of_ble_eq_true rfl) hdd) (As := [.inr (0, 0, 0), .inl (.int (xs ((v5 + (1 : Int32))).toNatClampNeg)), .inr (50, 0, 0)]) rfl ⟨by omega, by omega⟩ (fun _ => Nat.le_of_ble_eq_true rfl) rfl ?_
  refine tv_istore C (pc := 259) dL_law_259 (L' := [some (.inl (.ref b)), some (.inr (0, 0, 0)), some (.inr (30, 0, 0)), some (.inr (50, 0, 0)), some (.inr (51, 0, 0)), some (.inl (.int v5)), some (.inl (.int q2.1)), none, none]) (by decide) rfl rfl ?_
  refine tv_aload_n C (pc := 261) dL_law_261 rfl rfl ?_
  refine tv_aloadQ_n C (pc := 262) dL_law_262 rfl rfl ?_
  refine tv_iload C (pc := 263) dL_law_263 rfl ?_
  refine tv_iconst C (pc := 265) dL_law_265 (v := (1 : Int32)) rfl ?_
  refine tv_iadd C (pc := 266) dL_law_266 ?_
  obtain ⟨hr3, h⟩ := ts_gd h
  refine tv_sld C (pc := 267) dL_law_267 hXs hbl hbA hr3 (j := ((v5 + (1 : Int32))).toNatClampNeg) rfl ?_
  obtain ⟨q4, hq4, h⟩ := ts_bd h
  refine tv_callV C (pc := 268) dL_law_268 (ci := 7) (q := (RX7, TX7, 37)) rfl yl_L_126 (m_X7_begin (D := D) (dT := dT) (sz := sz) (ad := ad) hl (xs ((v5 + (1 : Int32))).toNatClampNeg) q2.2 q4 hq4) (ts_live (k := 30) (by decide) (by decide) (by decide)) rfl (Nat.le_trans (Nat.le_of_ble_eq_true rfl) hdd) (As := [.inl (.int (xs ((v5 + (1 : Int32))).toNatClampNeg))]) rfl ⟨by omega, by omega⟩ (fun _ => Nat.le_of_ble_eq_true rfl) rfl ?_
  refine tv_istore C (pc := 271) dL_law_271 (L' := [some (.inl (.ref b)), some (.inr (0, 0, 0)), some (.inr (30, 0, 0)), some (.inr (50, 0, 0)), some (.inr (51, 0, 0)), some (.inl (.int v5)), some (.inl (.int q2.1)), some (.inl (.int q4.1)), none]) (by decide) rfl rfl ?_
  refine tv_aload_n C (pc := 273) dL_law_273 rfl rfl ?_
  obtain ⟨q5, hq5, h⟩ := ts_bd h
  refine tv_callV C (pc := 274) dL_law_274 (ci := 7) (q := (RX7, TX7, 37)) rfl yl_L_121 (m_X7_thrown (D := D) (dT := dT) (sz := sz) (ad := ad) hl  q4.2 q5 hq5) (ts_live (k := 30) (by decide) (by decide) (by decide)) rfl (Nat.le_trans (Nat.le_of_ble_eq_true rfl) hdd) (As := []) rfl ⟨by omega, by omega⟩ (fun _ => Nat.le_of_ble_eq_true rfl) rfl ?_
  refine tv_iload C (pc := 277) dL_law_277 rfl ?_
  refine tv_icmp_eq C (pc := 279) 284 dL_law_279 (by decide) (fun hc => ?_) (fun hc => ?_)
  · have h := ts_ifp h hc
    refine tv_iload C (pc := 284) dL_law_284 rfl ?_
    refine tv_if_ne C (pc := 286) 301 dL_law_286 (by decide) (fun hc => ?_) (fun hc => ?_)
    · have h := ts_ifn h hc
      refine tv_goto C (pc := 301) 1994 dL_law_301 (by decide) ?_
      refine tv_drop 6 (L' := [some (.inl (.ref b)), some (.inr (0, 0, 0)), some (.inr (30, 0, 0)), some (.inr (50, 0, 0)), some (.inr (51, 0, 0)), some (.inl (.int v5)), none, some (.inl (.int q4.1)), none]) rfl ?_
      refine tv_drop 7 (L' := [some (.inl (.ref b)), some (.inr (0, 0, 0)), some (.inr (30, 0, 0)), some (.inr (50, 0, 0)), some (.inr (51, 0, 0)), some (.inl (.int v5)), none, none, none]) rfl ?_
      cases h
      exact K _ _ (by omega) (by omega)
    · have h := ts_ifp h hc
      refine tv_aload_n C (pc := 289) dL_law_289 rfl rfl ?_
      refine tv_iconst C (pc := 290) dL_law_290 (v := (0 : Int32)) rfl ?_
      refine tv_laload C (pc := 291) dL_law_291 (ts_live (k := 50) (by decide) (by decide) (by decide)) rfl (by decide) (j := 0) (by decide) ?_
      refine tv_iload C (pc := 292) dL_law_292 rfl ?_
      refine tv_i2l C (pc := 294) dL_law_294 ?_
      refine tv_lcmp C (pc := 295) dL_law_295 ?_
      refine tv_if_eq C (pc := 296) 301 dL_law_296 (by decide) (fun hc => ?_) (fun hc => ?_)
      · have h := ts_ifp h hc
        refine tv_goto C (pc := 301) 1994 dL_law_301 (by decide) ?_
        refine tv_drop 6 (L' := [some (.inl (.ref b)), some (.inr (0, 0, 0)), some (.inr (30, 0, 0)), some (.inr (50, 0, 0)), some (.inr (51, 0, 0)), some (.inl (.int v5)), none, some (.inl (.int q4.1)), none]) rfl ?_
        refine tv_drop 7 (L' := [some (.inl (.ref b)), some (.inr (0, 0, 0)), some (.inr (30, 0, 0)), some (.inr (50, 0, 0)), some (.inr (51, 0, 0)), some (.inl (.int v5)), none, none, none]) rfl ?_
        cases h
        exact K _ _ (by omega) (by omega)
      · have h := ts_ifn h hc
        refine tv_iconst C (pc := 299) dL_law_299 (v := (0 : Int32)) rfl ?_
        cases h
  · have h := ts_ifn h hc
    refine tv_iconst C (pc := 282) dL_law_282 (v := (0 : Int32)) rfl ?_
    cases h
set_option maxRecDepth 100000 in
set_option maxHeartbeats 4000000 in
theorem lc_304 {D : va_G} {dT : Nat → ClassId} {sz : Nat} {p : Program} {l : Launch} {e : Env} {R : Room} {s : State} {m : MethodId} {args : Array Value} {below : List Frame} {meth : Method} {c : Code} {d : Nat} {ad : ts_I → Nat} {Q : State → Prop} (hl : l.stackTraces = false) (C : ts_CX D dT sz p l R s m args meth c RL cL_law 9 (some .boolean) d) (hdd : 25 ≤ d) {b N : Nat} {xs : Nat → Int32} (hXs : va_X b N xs s s.heap) (hbl : b < s.heap.size) (hbA : ¬ sz ≤ b) {kk nn : Nat} (hkn : kk + 8 ≤ R.cells ∧ nn + 48 ≤ R.slots) (v5 : Int32) (u u2 : ts_Mem) (h : fL_304 xs N v5 u = some u2) (K : ∀ k2 n2 : Nat, k2 ≤ kk + 8 → n2 ≤ nn + 48 → ts_V D dT sz p l e R s m args below meth c 9 Q ad ts_lv ts_R0 1994 [some (.inl (.ref b)), some (.inr (0, 0, 0)), some (.inr (30, 0, 0)), some (.inr (50, 0, 0)), some (.inr (51, 0, 0)), some (.inl (.int v5)), none, none, none] [] u2 k2 n2) : ts_V D dT sz p l e R s m args below meth c 9 Q ad ts_lv ts_R0 304 [some (.inl (.ref b)), some (.inr (0, 0, 0)), some (.inr (30, 0, 0)), some (.inr (50, 0, 0)), some (.inr (51, 0, 0)), some (.inl (.int v5)), none, none, none] [] u kk nn := by
  unfold fL_304 at h
  refine tv_aload_n C (pc := 304) dL_law_304 rfl rfl ?_
  refine tv_aloadQ_n C (pc := 305) dL_law_305 rfl rfl ?_
  refine tv_iload C (pc := 306) dL_law_306 rfl ?_
  refine tv_iconst C (pc := 308) dL_law_308 (v := (1 : Int32)) rfl ?_
  refine tv_iadd C (pc := 309) dL_law_309 ?_
  obtain ⟨hr1, h⟩ := ts_gd h
  refine tv_sld C (pc := 310) dL_law_310 hXs hbl hbA hr1 (j := ((v5 + (1 : Int32))).toNatClampNeg) rfl ?_
  refine tv_aloadQ_n C (pc := 311) dL_law_311 rfl rfl ?_
  refine tv_iload C (pc := 312) dL_law_312 rfl ?_
  refine tv_iconst C (pc := 314) dL_law_314 (v := (2 : Int32)) rfl ?_
  refine tv_iadd C (pc := 315) dL_law_315 ?_
  obtain ⟨hr2, h⟩ := ts_gd h
  refine tv_sld C (pc := 316) dL_law_316 hXs hbl hbA hr2 (j := ((v5 + (2 : Int32))).toNatClampNeg) rfl ?_
  refine tv_aload_n C (pc := 317) dL_law_317 rfl rfl ?_
  obtain ⟨q3, hq3, h⟩ := ts_bd h
  refine tv_callX C (pc := 318) dL_law_318 yl_L_127 (m_L_read (D := D) (dT := dT) (sz := sz) (ad := ad) hl (xs ((v5 + (1 : Int32))).toNatClampNeg) (xs ((v5 + (2 : Int32))).toNatClampNeg) u q3 hq3) (Nat.le_trans (Nat.le_of_ble_eq_true rfl) hdd) (As := [.inr (0, 0, 0), .inl (.int (xs ((v5 + (1 : Int32))).toNatClampNeg)), .inl (.int (xs ((v5 + (2 : Int32))).toNatClampNeg)), .inr (50, 0, 0)]) rfl ⟨by omega, by omega⟩ (fun _ => Nat.le_of_ble_eq_true rfl) rfl ?_
  refine tv_istore C (pc := 321) dL_law_321 (L' := [some (.inl (.ref b)), some (.inr (0, 0, 0)), some (.inr (30, 0, 0)), some (.inr (50, 0, 0)), some (.inr (51, 0, 0)), some (.inl (.int v5)), some (.inl (.int q3.1)), none, none]) (by decide) rfl rfl ?_
  refine tv_aload_n C (pc := 323) dL_law_323 rfl rfl ?_
  refine tv_aloadQ_n C (pc := 324) dL_law_324 rfl rfl ?_
  refine tv_iload C (pc := 325) dL_law_325 rfl ?_
  refine tv_iconst C (pc := 327) dL_law_327 (v := (1 : Int32)) rfl ?_
  refine tv_iadd C (pc := 328) dL_law_328 ?_
  obtain ⟨hr4, h⟩ := ts_gd h
  refine tv_sld C (pc := 329) dL_law_329 hXs hbl hbA hr4 (j := ((v5 + (1 : Int32))).toNatClampNeg) rfl ?_
  refine tv_aloadQ_n C (pc := 330) dL_law_330 rfl rfl ?_
  refine tv_iload C (pc := 331) dL_law_331 rfl ?_
  refine tv_iconst C (pc := 333) dL_law_333 (v := (2 : Int32)) rfl ?_
  refine tv_iadd C (pc := 334) dL_law_334 ?_
  obtain ⟨hr5, h⟩ := ts_gd h
  refine tv_sld C (pc := 335) dL_law_335 hXs hbl hbA hr5 (j := ((v5 + (2 : Int32))).toNatClampNeg) rfl ?_
  obtain ⟨q6, hq6, h⟩ := ts_bd h
  refine tv_callV C (pc := 336) dL_law_336 (ci := 7) (q := (RX7, TX7, 37)) rfl yl_L_130 (m_X7_read (D := D) (dT := dT) (sz := sz) (ad := ad) hl (xs ((v5 + (1 : Int32))).toNatClampNeg) (xs ((v5 + (2 : Int32))).toNatClampNeg) q3.2 q6 hq6) (ts_live (k := 30) (by decide) (by decide) (by decide)) rfl (Nat.le_trans (Nat.le_of_ble_eq_true rfl) hdd) (As := [.inl (.int (xs ((v5 + (1 : Int32))).toNatClampNeg)), .inl (.int (xs ((v5 + (2 : Int32))).toNatClampNeg))]) rfl ⟨by omega, by omega⟩ (fun _ => Nat.le_of_ble_eq_true rfl) rfl ?_
  refine tv_istore C (pc := 339) dL_law_339 (L' := [some (.inl (.ref b)), some (.inr (0, 0, 0)), some (.inr (30, 0, 0)), some (.inr (50, 0, 0)), some (.inr (51, 0, 0)), some (.inl (.int v5)), some (.inl (.int q3.1)), some (.inl (.int q6.1)), none]) (by decide) rfl rfl ?_
  refine tv_aload_n C (pc := 341) dL_law_341 rfl rfl ?_
  obtain ⟨q7, hq7, h⟩ := ts_bd h
  refine tv_callV C (pc := 342) dL_law_342 (ci := 7) (q := (RX7, TX7, 37)) rfl yl_L_121 (m_X7_thrown (D := D) (dT := dT) (sz := sz) (ad := ad) hl  q6.2 q7 hq7) (ts_live (k := 30) (by decide) (by decide) (by decide)) rfl (Nat.le_trans (Nat.le_of_ble_eq_true rfl) hdd) (As := []) rfl ⟨by omega, by omega⟩ (fun _ => Nat.le_of_ble_eq_true rfl) rfl ?_
  refine tv_iload C (pc := 345) dL_law_345 rfl ?_
  refine tv_icmp_eq C (pc := 347) 352 dL_law_347 (by decide) (fun hc => ?_) (fun hc => ?_)
  · have h := ts_ifp h hc
    refine tv_iload C (pc := 352) dL_law_352 rfl ?_
    refine tv_if_ne C (pc := 354) 369 dL_law_354 (by decide) (fun hc => ?_) (fun hc => ?_)
    · have h := ts_ifn h hc
      refine tv_goto C (pc := 369) 1994 dL_law_369 (by decide) ?_
      refine tv_drop 6 (L' := [some (.inl (.ref b)), some (.inr (0, 0, 0)), some (.inr (30, 0, 0)), some (.inr (50, 0, 0)), some (.inr (51, 0, 0)), some (.inl (.int v5)), none, some (.inl (.int q6.1)), none]) rfl ?_
      refine tv_drop 7 (L' := [some (.inl (.ref b)), some (.inr (0, 0, 0)), some (.inr (30, 0, 0)), some (.inr (50, 0, 0)), some (.inr (51, 0, 0)), some (.inl (.int v5)), none, none, none]) rfl ?_
      cases h
      exact K _ _ (by omega) (by omega)
    · have h := ts_ifp h hc
      refine tv_aload_n C (pc := 357) dL_law_357 rfl rfl ?_
      refine tv_iconst C (pc := 358) dL_law_358 (v := (0 : Int32)) rfl ?_
      refine tv_laload C (pc := 359) dL_law_359 (ts_live (k := 50) (by decide) (by decide) (by decide)) rfl (by decide) (j := 0) (by decide) ?_
      refine tv_iload C (pc := 360) dL_law_360 rfl ?_
      refine tv_i2l C (pc := 362) dL_law_362 ?_
      refine tv_lcmp C (pc := 363) dL_law_363 ?_
      refine tv_if_eq C (pc := 364) 369 dL_law_364 (by decide) (fun hc => ?_) (fun hc => ?_)
      · have h := ts_ifp h hc
        refine tv_goto C (pc := 369) 1994 dL_law_369 (by decide) ?_
        refine tv_drop 6 (L' := [some (.inl (.ref b)), some (.inr (0, 0, 0)), some (.inr (30, 0, 0)), some (.inr (50, 0, 0)), some (.inr (51, 0, 0)), some (.inl (.int v5)), none, some (.inl (.int q6.1)), none]) rfl ?_
        refine tv_drop 7 (L' := [some (.inl (.ref b)), some (.inr (0, 0, 0)), some (.inr (30, 0, 0)), some (.inr (50, 0, 0)), some (.inr (51, 0, 0)), some (.inl (.int v5)), none, none, none]) rfl ?_
        cases h
        exact K _ _ (by omega) (by omega)
      · have h := ts_ifn h hc
        refine tv_iconst C (pc := 367) dL_law_367 (v := (0 : Int32)) rfl ?_
        cases h
  · have h := ts_ifn h hc
    refine tv_iconst C (pc := 350) dL_law_350 (v := (0 : Int32)) rfl ?_
    cases h
set_option maxRecDepth 100000 in
set_option maxHeartbeats 4000000 in
theorem lc_372 {D : va_G} {dT : Nat → ClassId} {sz : Nat} {p : Program} {l : Launch} {e : Env} {R : Room} {s : State} {m : MethodId} {args : Array Value} {below : List Frame} {meth : Method} {c : Code} {d : Nat} {ad : ts_I → Nat} {Q : State → Prop} (hl : l.stackTraces = false) (C : ts_CX D dT sz p l R s m args meth c RL cL_law 9 (some .boolean) d) (hdd : 25 ≤ d) {b N : Nat} {xs : Nat → Int32} (hXs : va_X b N xs s s.heap) (hbl : b < s.heap.size) (hbA : ¬ sz ≤ b) {kk nn : Nat} (hkn : kk + 8 ≤ R.cells ∧ nn + 48 ≤ R.slots) (v5 : Int32) (u u2 : ts_Mem) (h : fL_372 xs N v5 u = some u2) (K : ∀ k2 n2 : Nat, k2 ≤ kk + 8 → n2 ≤ nn + 48 → ts_V D dT sz p l e R s m args below meth c 9 Q ad ts_lv ts_R0 1994 [some (.inl (.ref b)), some (.inr (0, 0, 0)), some (.inr (30, 0, 0)), some (.inr (50, 0, 0)), some (.inr (51, 0, 0)), some (.inl (.int v5)), none, none, none] [] u2 k2 n2) : ts_V D dT sz p l e R s m args below meth c 9 Q ad ts_lv ts_R0 372 [some (.inl (.ref b)), some (.inr (0, 0, 0)), some (.inr (30, 0, 0)), some (.inr (50, 0, 0)), some (.inr (51, 0, 0)), some (.inl (.int v5)), none, none, none] [] u kk nn := by
  unfold fL_372 at h
  refine tv_aload_n C (pc := 372) dL_law_372 rfl rfl ?_
  refine tv_aloadQ_n C (pc := 373) dL_law_373 rfl rfl ?_
  refine tv_iload C (pc := 374) dL_law_374 rfl ?_
  refine tv_iconst C (pc := 376) dL_law_376 (v := (1 : Int32)) rfl ?_
  refine tv_iadd C (pc := 377) dL_law_377 ?_
  obtain ⟨hr1, h⟩ := ts_gd h
  refine tv_sld C (pc := 378) dL_law_378 hXs hbl hbA hr1 (j := ((v5 + (1 : Int32))).toNatClampNeg) rfl ?_
  refine tv_aloadQ_n C (pc := 379) dL_law_379 rfl rfl ?_
  refine tv_iload C (pc := 380) dL_law_380 rfl ?_
  refine tv_iconst C (pc := 382) dL_law_382 (v := (2 : Int32)) rfl ?_
  refine tv_iadd C (pc := 383) dL_law_383 ?_
  obtain ⟨hr2, h⟩ := ts_gd h
  refine tv_sld C (pc := 384) dL_law_384 hXs hbl hbA hr2 (j := ((v5 + (2 : Int32))).toNatClampNeg) rfl ?_
  refine tv_aloadQ_n C (pc := 385) dL_law_385 rfl rfl ?_
  refine tv_iload C (pc := 386) dL_law_386 rfl ?_
  refine tv_iconst C (pc := 388) dL_law_388 (v := (3 : Int32)) rfl ?_
  refine tv_iadd C (pc := 389) dL_law_389 ?_
  obtain ⟨hr3, h⟩ := ts_gd h
  refine tv_sld C (pc := 390) dL_law_390 hXs hbl hbA hr3 (j := ((v5 + (3 : Int32))).toNatClampNeg) rfl ?_
  refine tv_aload_n C (pc := 391) dL_law_391 rfl rfl ?_
  obtain ⟨q4, hq4, h⟩ := ts_bd h
  refine tv_callX C (pc := 392) dL_law_392 yl_L_131 (m_L_write (D := D) (dT := dT) (sz := sz) (ad := ad) hl (xs ((v5 + (1 : Int32))).toNatClampNeg) (xs ((v5 + (2 : Int32))).toNatClampNeg) (xs ((v5 + (3 : Int32))).toNatClampNeg) u q4 hq4) (Nat.le_trans (Nat.le_of_ble_eq_true rfl) hdd) (As := [.inr (0, 0, 0), .inl (.int (xs ((v5 + (1 : Int32))).toNatClampNeg)), .inl (.int (xs ((v5 + (2 : Int32))).toNatClampNeg)), .inl (.int (xs ((v5 + (3 : Int32))).toNatClampNeg)), .inr (50, 0, 0)]) rfl ⟨by omega, by omega⟩ (fun _ => Nat.le_of_ble_eq_true rfl) rfl ?_
  refine tv_istore C (pc := 395) dL_law_395 (L' := [some (.inl (.ref b)), some (.inr (0, 0, 0)), some (.inr (30, 0, 0)), some (.inr (50, 0, 0)), some (.inr (51, 0, 0)), some (.inl (.int v5)), some (.inl (.int q4.1)), none, none]) (by decide) rfl rfl ?_
  refine tv_aload_n C (pc := 397) dL_law_397 rfl rfl ?_
  refine tv_aloadQ_n C (pc := 398) dL_law_398 rfl rfl ?_
  refine tv_iload C (pc := 399) dL_law_399 rfl ?_
  refine tv_iconst C (pc := 401) dL_law_401 (v := (1 : Int32)) rfl ?_
  refine tv_iadd C (pc := 402) dL_law_402 ?_
  obtain ⟨hr5, h⟩ := ts_gd h
  refine tv_sld C (pc := 403) dL_law_403 hXs hbl hbA hr5 (j := ((v5 + (1 : Int32))).toNatClampNeg) rfl ?_
  refine tv_aloadQ_n C (pc := 404) dL_law_404 rfl rfl ?_
  refine tv_iload C (pc := 405) dL_law_405 rfl ?_
  refine tv_iconst C (pc := 407) dL_law_407 (v := (2 : Int32)) rfl ?_
  refine tv_iadd C (pc := 408) dL_law_408 ?_
  obtain ⟨hr6, h⟩ := ts_gd h
  refine tv_sld C (pc := 409) dL_law_409 hXs hbl hbA hr6 (j := ((v5 + (2 : Int32))).toNatClampNeg) rfl ?_
  refine tv_aloadQ_n C (pc := 410) dL_law_410 rfl rfl ?_
  refine tv_iload C (pc := 411) dL_law_411 rfl ?_
  refine tv_iconst C (pc := 413) dL_law_413 (v := (3 : Int32)) rfl ?_
  refine tv_iadd C (pc := 414) dL_law_414 ?_
  obtain ⟨hr7, h⟩ := ts_gd h
  refine tv_sld C (pc := 415) dL_law_415 hXs hbl hbA hr7 (j := ((v5 + (3 : Int32))).toNatClampNeg) rfl ?_
  obtain ⟨q8, hq8, h⟩ := ts_bd h
  refine tv_callV C (pc := 416) dL_law_416 (ci := 7) (q := (RX7, TX7, 37)) rfl yl_L_134 (m_X7_write (D := D) (dT := dT) (sz := sz) (ad := ad) hl (xs ((v5 + (1 : Int32))).toNatClampNeg) (xs ((v5 + (2 : Int32))).toNatClampNeg) (xs ((v5 + (3 : Int32))).toNatClampNeg) q4.2 q8 hq8) (ts_live (k := 30) (by decide) (by decide) (by decide)) rfl (Nat.le_trans (Nat.le_of_ble_eq_true rfl) hdd) (As := [.inl (.int (xs ((v5 + (1 : Int32))).toNatClampNeg)), .inl (.int (xs ((v5 + (2 : Int32))).toNatClampNeg)), .inl (.int (xs ((v5 + (3 : Int32))).toNatClampNeg))]) rfl ⟨by omega, by omega⟩ (fun _ => Nat.le_of_ble_eq_true rfl) rfl ?_
  refine tv_istore C (pc := 419) dL_law_419 (L' := [some (.inl (.ref b)), some (.inr (0, 0, 0)), some (.inr (30, 0, 0)), some (.inr (50, 0, 0)), some (.inr (51, 0, 0)), some (.inl (.int v5)), some (.inl (.int q4.1)), some (.inl (.int q8.1)), none]) (by decide) rfl rfl ?_
  refine tv_aload_n C (pc := 421) dL_law_421 rfl rfl ?_
  obtain ⟨q9, hq9, h⟩ := ts_bd h
  refine tv_callV C (pc := 422) dL_law_422 (ci := 7) (q := (RX7, TX7, 37)) rfl yl_L_121 (m_X7_thrown (D := D) (dT := dT) (sz := sz) (ad := ad) hl  q8.2 q9 hq9) (ts_live (k := 30) (by decide) (by decide) (by decide)) rfl (Nat.le_trans (Nat.le_of_ble_eq_true rfl) hdd) (As := []) rfl ⟨by omega, by omega⟩ (fun _ => Nat.le_of_ble_eq_true rfl) rfl ?_
  refine tv_iload C (pc := 425) dL_law_425 rfl ?_
  refine tv_icmp_eq C (pc := 427) 432 dL_law_427 (by decide) (fun hc => ?_) (fun hc => ?_)
  · have h := ts_ifp h hc
    refine tv_iload C (pc := 432) dL_law_432 rfl ?_
    refine tv_if_ne C (pc := 434) 449 dL_law_434 (by decide) (fun hc => ?_) (fun hc => ?_)
    · have h := ts_ifn h hc
      refine tv_goto C (pc := 449) 1994 dL_law_449 (by decide) ?_
      refine tv_drop 6 (L' := [some (.inl (.ref b)), some (.inr (0, 0, 0)), some (.inr (30, 0, 0)), some (.inr (50, 0, 0)), some (.inr (51, 0, 0)), some (.inl (.int v5)), none, some (.inl (.int q8.1)), none]) rfl ?_
      refine tv_drop 7 (L' := [some (.inl (.ref b)), some (.inr (0, 0, 0)), some (.inr (30, 0, 0)), some (.inr (50, 0, 0)), some (.inr (51, 0, 0)), some (.inl (.int v5)), none, none, none]) rfl ?_
      cases h
      exact K _ _ (by omega) (by omega)
    · have h := ts_ifp h hc
      refine tv_aload_n C (pc := 437) dL_law_437 rfl rfl ?_
      refine tv_iconst C (pc := 438) dL_law_438 (v := (0 : Int32)) rfl ?_
      refine tv_laload C (pc := 439) dL_law_439 (ts_live (k := 50) (by decide) (by decide) (by decide)) rfl (by decide) (j := 0) (by decide) ?_
      refine tv_iload C (pc := 440) dL_law_440 rfl ?_
      refine tv_i2l C (pc := 442) dL_law_442 ?_
      refine tv_lcmp C (pc := 443) dL_law_443 ?_
      refine tv_if_eq C (pc := 444) 449 dL_law_444 (by decide) (fun hc => ?_) (fun hc => ?_)
      · have h := ts_ifp h hc
        refine tv_goto C (pc := 449) 1994 dL_law_449 (by decide) ?_
        refine tv_drop 6 (L' := [some (.inl (.ref b)), some (.inr (0, 0, 0)), some (.inr (30, 0, 0)), some (.inr (50, 0, 0)), some (.inr (51, 0, 0)), some (.inl (.int v5)), none, some (.inl (.int q8.1)), none]) rfl ?_
        refine tv_drop 7 (L' := [some (.inl (.ref b)), some (.inr (0, 0, 0)), some (.inr (30, 0, 0)), some (.inr (50, 0, 0)), some (.inr (51, 0, 0)), some (.inl (.int v5)), none, none, none]) rfl ?_
        cases h
        exact K _ _ (by omega) (by omega)
      · have h := ts_ifn h hc
        refine tv_iconst C (pc := 447) dL_law_447 (v := (0 : Int32)) rfl ?_
        cases h
  · have h := ts_ifn h hc
    refine tv_iconst C (pc := 430) dL_law_430 (v := (0 : Int32)) rfl ?_
    cases h
set_option maxRecDepth 100000 in
set_option maxHeartbeats 4000000 in
theorem lc_452 {D : va_G} {dT : Nat → ClassId} {sz : Nat} {p : Program} {l : Launch} {e : Env} {R : Room} {s : State} {m : MethodId} {args : Array Value} {below : List Frame} {meth : Method} {c : Code} {d : Nat} {ad : ts_I → Nat} {Q : State → Prop} (hl : l.stackTraces = false) (C : ts_CX D dT sz p l R s m args meth c RL cL_law 9 (some .boolean) d) (hdd : 25 ≤ d) {b N : Nat} {xs : Nat → Int32} (hXs : va_X b N xs s s.heap) (hbl : b < s.heap.size) (hbA : ¬ sz ≤ b) {kk nn : Nat} (hkn : kk + 8 ≤ R.cells ∧ nn + 48 ≤ R.slots) (v5 : Int32) (u u2 : ts_Mem) (h : fL_452 xs N v5 u = some u2) (K : ∀ k2 n2 : Nat, k2 ≤ kk + 8 → n2 ≤ nn + 48 → ts_V D dT sz p l e R s m args below meth c 9 Q ad ts_lv ts_R0 1994 [some (.inl (.ref b)), some (.inr (0, 0, 0)), some (.inr (30, 0, 0)), some (.inr (50, 0, 0)), some (.inr (51, 0, 0)), some (.inl (.int v5)), none, none, none] [] u2 k2 n2) : ts_V D dT sz p l e R s m args below meth c 9 Q ad ts_lv ts_R0 452 [some (.inl (.ref b)), some (.inr (0, 0, 0)), some (.inr (30, 0, 0)), some (.inr (50, 0, 0)), some (.inr (51, 0, 0)), some (.inl (.int v5)), none, none, none] [] u kk nn := by
  unfold fL_452 at h
  refine tv_aload_n C (pc := 452) dL_law_452 rfl rfl ?_
  refine tv_aloadQ_n C (pc := 453) dL_law_453 rfl rfl ?_
  refine tv_iload C (pc := 454) dL_law_454 rfl ?_
  refine tv_iconst C (pc := 456) dL_law_456 (v := (1 : Int32)) rfl ?_
  refine tv_iadd C (pc := 457) dL_law_457 ?_
  obtain ⟨hr1, h⟩ := ts_gd h
  refine tv_sld C (pc := 458) dL_law_458 hXs hbl hbA hr1 (j := ((v5 + (1 : Int32))).toNatClampNeg) rfl ?_
  refine tv_aloadQ_n C (pc := 459) dL_law_459 rfl rfl ?_
  refine tv_iload C (pc := 460) dL_law_460 rfl ?_
  refine tv_iconst C (pc := 462) dL_law_462 (v := (2 : Int32)) rfl ?_
  refine tv_iadd C (pc := 463) dL_law_463 ?_
  obtain ⟨hr2, h⟩ := ts_gd h
  refine tv_sld C (pc := 464) dL_law_464 hXs hbl hbA hr2 (j := ((v5 + (2 : Int32))).toNatClampNeg) rfl ?_
  refine tv_aloadQ_n C (pc := 465) dL_law_465 rfl rfl ?_
  refine tv_iload C (pc := 466) dL_law_466 rfl ?_
  refine tv_iconst C (pc := 468) dL_law_468 (v := (3 : Int32)) rfl ?_
  refine tv_iadd C (pc := 469) dL_law_469 ?_
  obtain ⟨hr3, h⟩ := ts_gd h
  refine tv_sld C (pc := 470) dL_law_470 hXs hbl hbA hr3 (j := ((v5 + (3 : Int32))).toNatClampNeg) rfl ?_
  refine tv_aload_n C (pc := 471) dL_law_471 rfl rfl ?_
  obtain ⟨q4, hq4, h⟩ := ts_bd h
  refine tv_callX C (pc := 472) dL_law_472 yl_L_135 (m_L_add (D := D) (dT := dT) (sz := sz) (ad := ad) hl (xs ((v5 + (1 : Int32))).toNatClampNeg) (xs ((v5 + (2 : Int32))).toNatClampNeg) (xs ((v5 + (3 : Int32))).toNatClampNeg) u q4 hq4) (Nat.le_trans (Nat.le_of_ble_eq_true rfl) hdd) (As := [.inr (0, 0, 0), .inl (.int (xs ((v5 + (1 : Int32))).toNatClampNeg)), .inl (.int (xs ((v5 + (2 : Int32))).toNatClampNeg)), .inl (.int (xs ((v5 + (3 : Int32))).toNatClampNeg)), .inr (50, 0, 0)]) rfl ⟨by omega, by omega⟩ (fun _ => Nat.le_of_ble_eq_true rfl) rfl ?_
  refine tv_istore C (pc := 475) dL_law_475 (L' := [some (.inl (.ref b)), some (.inr (0, 0, 0)), some (.inr (30, 0, 0)), some (.inr (50, 0, 0)), some (.inr (51, 0, 0)), some (.inl (.int v5)), some (.inl (.int q4.1)), none, none]) (by decide) rfl rfl ?_
  refine tv_aload_n C (pc := 477) dL_law_477 rfl rfl ?_
  refine tv_aloadQ_n C (pc := 478) dL_law_478 rfl rfl ?_
  refine tv_iload C (pc := 479) dL_law_479 rfl ?_
  refine tv_iconst C (pc := 481) dL_law_481 (v := (1 : Int32)) rfl ?_
  refine tv_iadd C (pc := 482) dL_law_482 ?_
  obtain ⟨hr5, h⟩ := ts_gd h
  refine tv_sld C (pc := 483) dL_law_483 hXs hbl hbA hr5 (j := ((v5 + (1 : Int32))).toNatClampNeg) rfl ?_
  refine tv_aloadQ_n C (pc := 484) dL_law_484 rfl rfl ?_
  refine tv_iload C (pc := 485) dL_law_485 rfl ?_
  refine tv_iconst C (pc := 487) dL_law_487 (v := (2 : Int32)) rfl ?_
  refine tv_iadd C (pc := 488) dL_law_488 ?_
  obtain ⟨hr6, h⟩ := ts_gd h
  refine tv_sld C (pc := 489) dL_law_489 hXs hbl hbA hr6 (j := ((v5 + (2 : Int32))).toNatClampNeg) rfl ?_
  refine tv_aloadQ_n C (pc := 490) dL_law_490 rfl rfl ?_
  refine tv_iload C (pc := 491) dL_law_491 rfl ?_
  refine tv_iconst C (pc := 493) dL_law_493 (v := (3 : Int32)) rfl ?_
  refine tv_iadd C (pc := 494) dL_law_494 ?_
  obtain ⟨hr7, h⟩ := ts_gd h
  refine tv_sld C (pc := 495) dL_law_495 hXs hbl hbA hr7 (j := ((v5 + (3 : Int32))).toNatClampNeg) rfl ?_
  obtain ⟨q8, hq8, h⟩ := ts_bd h
  refine tv_callV C (pc := 496) dL_law_496 (ci := 7) (q := (RX7, TX7, 37)) rfl yl_L_137 (m_X7_add (D := D) (dT := dT) (sz := sz) (ad := ad) hl (xs ((v5 + (1 : Int32))).toNatClampNeg) (xs ((v5 + (2 : Int32))).toNatClampNeg) (xs ((v5 + (3 : Int32))).toNatClampNeg) q4.2 q8 hq8) (ts_live (k := 30) (by decide) (by decide) (by decide)) rfl (Nat.le_trans (Nat.le_of_ble_eq_true rfl) hdd) (As := [.inl (.int (xs ((v5 + (1 : Int32))).toNatClampNeg)), .inl (.int (xs ((v5 + (2 : Int32))).toNatClampNeg)), .inl (.int (xs ((v5 + (3 : Int32))).toNatClampNeg))]) rfl ⟨by omega, by omega⟩ (fun _ => Nat.le_of_ble_eq_true rfl) rfl ?_
  refine tv_istore C (pc := 499) dL_law_499 (L' := [some (.inl (.ref b)), some (.inr (0, 0, 0)), some (.inr (30, 0, 0)), some (.inr (50, 0, 0)), some (.inr (51, 0, 0)), some (.inl (.int v5)), some (.inl (.int q4.1)), some (.inl (.int q8.1)), none]) (by decide) rfl rfl ?_
  refine tv_aload_n C (pc := 501) dL_law_501 rfl rfl ?_
  obtain ⟨q9, hq9, h⟩ := ts_bd h
  refine tv_callV C (pc := 502) dL_law_502 (ci := 7) (q := (RX7, TX7, 37)) rfl yl_L_121 (m_X7_thrown (D := D) (dT := dT) (sz := sz) (ad := ad) hl  q8.2 q9 hq9) (ts_live (k := 30) (by decide) (by decide) (by decide)) rfl (Nat.le_trans (Nat.le_of_ble_eq_true rfl) hdd) (As := []) rfl ⟨by omega, by omega⟩ (fun _ => Nat.le_of_ble_eq_true rfl) rfl ?_
  refine tv_iload C (pc := 505) dL_law_505 rfl ?_
  refine tv_icmp_eq C (pc := 507) 512 dL_law_507 (by decide) (fun hc => ?_) (fun hc => ?_)
  · have h := ts_ifp h hc
    refine tv_iload C (pc := 512) dL_law_512 rfl ?_
    refine tv_if_ne C (pc := 514) 529 dL_law_514 (by decide) (fun hc => ?_) (fun hc => ?_)
    · have h := ts_ifn h hc
      refine tv_goto C (pc := 529) 1994 dL_law_529 (by decide) ?_
      refine tv_drop 6 (L' := [some (.inl (.ref b)), some (.inr (0, 0, 0)), some (.inr (30, 0, 0)), some (.inr (50, 0, 0)), some (.inr (51, 0, 0)), some (.inl (.int v5)), none, some (.inl (.int q8.1)), none]) rfl ?_
      refine tv_drop 7 (L' := [some (.inl (.ref b)), some (.inr (0, 0, 0)), some (.inr (30, 0, 0)), some (.inr (50, 0, 0)), some (.inr (51, 0, 0)), some (.inl (.int v5)), none, none, none]) rfl ?_
      cases h
      exact K _ _ (by omega) (by omega)
    · have h := ts_ifp h hc
      refine tv_aload_n C (pc := 517) dL_law_517 rfl rfl ?_
      refine tv_iconst C (pc := 518) dL_law_518 (v := (0 : Int32)) rfl ?_
      refine tv_laload C (pc := 519) dL_law_519 (ts_live (k := 50) (by decide) (by decide) (by decide)) rfl (by decide) (j := 0) (by decide) ?_
      refine tv_iload C (pc := 520) dL_law_520 rfl ?_
      refine tv_i2l C (pc := 522) dL_law_522 ?_
      refine tv_lcmp C (pc := 523) dL_law_523 ?_
      refine tv_if_eq C (pc := 524) 529 dL_law_524 (by decide) (fun hc => ?_) (fun hc => ?_)
      · have h := ts_ifp h hc
        refine tv_goto C (pc := 529) 1994 dL_law_529 (by decide) ?_
        refine tv_drop 6 (L' := [some (.inl (.ref b)), some (.inr (0, 0, 0)), some (.inr (30, 0, 0)), some (.inr (50, 0, 0)), some (.inr (51, 0, 0)), some (.inl (.int v5)), none, some (.inl (.int q8.1)), none]) rfl ?_
        refine tv_drop 7 (L' := [some (.inl (.ref b)), some (.inr (0, 0, 0)), some (.inr (30, 0, 0)), some (.inr (50, 0, 0)), some (.inr (51, 0, 0)), some (.inl (.int v5)), none, none, none]) rfl ?_
        cases h
        exact K _ _ (by omega) (by omega)
      · have h := ts_ifn h hc
        refine tv_iconst C (pc := 527) dL_law_527 (v := (0 : Int32)) rfl ?_
        cases h
  · have h := ts_ifn h hc
    refine tv_iconst C (pc := 510) dL_law_510 (v := (0 : Int32)) rfl ?_
    cases h
set_option maxRecDepth 100000 in
set_option maxHeartbeats 4000000 in
theorem lc_532 {D : va_G} {dT : Nat → ClassId} {sz : Nat} {p : Program} {l : Launch} {e : Env} {R : Room} {s : State} {m : MethodId} {args : Array Value} {below : List Frame} {meth : Method} {c : Code} {d : Nat} {ad : ts_I → Nat} {Q : State → Prop} (hl : l.stackTraces = false) (C : ts_CX D dT sz p l R s m args meth c RL cL_law 9 (some .boolean) d) (hdd : 25 ≤ d) {b N : Nat} {xs : Nat → Int32} (hXs : va_X b N xs s s.heap) (hbl : b < s.heap.size) (hbA : ¬ sz ≤ b) {kk nn : Nat} (hkn : kk + 8 ≤ R.cells ∧ nn + 48 ≤ R.slots) (v5 : Int32) (u u2 : ts_Mem) (h : fL_532 xs N v5 u = some u2) (K : ∀ k2 n2 : Nat, k2 ≤ kk + 8 → n2 ≤ nn + 48 → ts_V D dT sz p l e R s m args below meth c 9 Q ad ts_lv ts_R0 1994 [some (.inl (.ref b)), some (.inr (0, 0, 0)), some (.inr (30, 0, 0)), some (.inr (50, 0, 0)), some (.inr (51, 0, 0)), some (.inl (.int v5)), none, none, none] [] u2 k2 n2) : ts_V D dT sz p l e R s m args below meth c 9 Q ad ts_lv ts_R0 532 [some (.inl (.ref b)), some (.inr (0, 0, 0)), some (.inr (30, 0, 0)), some (.inr (50, 0, 0)), some (.inr (51, 0, 0)), some (.inl (.int v5)), none, none, none] [] u kk nn := by
  unfold fL_532 at h
  refine tv_aload_n C (pc := 532) dL_law_532 rfl rfl ?_
  refine tv_aloadQ_n C (pc := 533) dL_law_533 rfl rfl ?_
  refine tv_iload C (pc := 534) dL_law_534 rfl ?_
  refine tv_iconst C (pc := 536) dL_law_536 (v := (1 : Int32)) rfl ?_
  refine tv_iadd C (pc := 537) dL_law_537 ?_
  obtain ⟨hr1, h⟩ := ts_gd h
  refine tv_sld C (pc := 538) dL_law_538 hXs hbl hbA hr1 (j := ((v5 + (1 : Int32))).toNatClampNeg) rfl ?_
  refine tv_aload_n C (pc := 539) dL_law_539 rfl rfl ?_
  obtain ⟨q2, hq2, h⟩ := ts_bd h
  refine tv_callX C (pc := 540) dL_law_540 yl_L_138 (m_L_commit (D := D) (dT := dT) (sz := sz) (ad := ad) hl (xs ((v5 + (1 : Int32))).toNatClampNeg) u q2 hq2) (Nat.le_trans (Nat.le_of_ble_eq_true rfl) hdd) (As := [.inr (0, 0, 0), .inl (.int (xs ((v5 + (1 : Int32))).toNatClampNeg)), .inr (50, 0, 0)]) rfl ⟨by omega, by omega⟩ (fun _ => Nat.le_of_ble_eq_true rfl) rfl ?_
  refine tv_istore C (pc := 543) dL_law_543 (L' := [some (.inl (.ref b)), some (.inr (0, 0, 0)), some (.inr (30, 0, 0)), some (.inr (50, 0, 0)), some (.inr (51, 0, 0)), some (.inl (.int v5)), some (.inl (.int q2.1)), none, none]) (by decide) rfl rfl ?_
  refine tv_aload_n C (pc := 545) dL_law_545 rfl rfl ?_
  refine tv_aloadQ_n C (pc := 546) dL_law_546 rfl rfl ?_
  refine tv_iload C (pc := 547) dL_law_547 rfl ?_
  refine tv_iconst C (pc := 549) dL_law_549 (v := (1 : Int32)) rfl ?_
  refine tv_iadd C (pc := 550) dL_law_550 ?_
  obtain ⟨hr3, h⟩ := ts_gd h
  refine tv_sld C (pc := 551) dL_law_551 hXs hbl hbA hr3 (j := ((v5 + (1 : Int32))).toNatClampNeg) rfl ?_
  obtain ⟨q4, hq4, h⟩ := ts_bd h
  refine tv_callV C (pc := 552) dL_law_552 (ci := 7) (q := (RX7, TX7, 37)) rfl yl_L_140 (m_X7_commit (D := D) (dT := dT) (sz := sz) (ad := ad) hl (xs ((v5 + (1 : Int32))).toNatClampNeg) q2.2 q4 hq4) (ts_live (k := 30) (by decide) (by decide) (by decide)) rfl (Nat.le_trans (Nat.le_of_ble_eq_true rfl) hdd) (As := [.inl (.int (xs ((v5 + (1 : Int32))).toNatClampNeg))]) rfl ⟨by omega, by omega⟩ (fun _ => Nat.le_of_ble_eq_true rfl) rfl ?_
  refine tv_istore C (pc := 555) dL_law_555 (L' := [some (.inl (.ref b)), some (.inr (0, 0, 0)), some (.inr (30, 0, 0)), some (.inr (50, 0, 0)), some (.inr (51, 0, 0)), some (.inl (.int v5)), some (.inl (.int q2.1)), some (.inl (.int q4.1)), none]) (by decide) rfl rfl ?_
  refine tv_aload_n C (pc := 557) dL_law_557 rfl rfl ?_
  obtain ⟨q5, hq5, h⟩ := ts_bd h
  refine tv_callV C (pc := 558) dL_law_558 (ci := 7) (q := (RX7, TX7, 37)) rfl yl_L_121 (m_X7_thrown (D := D) (dT := dT) (sz := sz) (ad := ad) hl  q4.2 q5 hq5) (ts_live (k := 30) (by decide) (by decide) (by decide)) rfl (Nat.le_trans (Nat.le_of_ble_eq_true rfl) hdd) (As := []) rfl ⟨by omega, by omega⟩ (fun _ => Nat.le_of_ble_eq_true rfl) rfl ?_
  refine tv_iload C (pc := 561) dL_law_561 rfl ?_
  refine tv_icmp_eq C (pc := 563) 568 dL_law_563 (by decide) (fun hc => ?_) (fun hc => ?_)
  · have h := ts_ifp h hc
    refine tv_iload C (pc := 568) dL_law_568 rfl ?_
    refine tv_if_ne C (pc := 570) 592 dL_law_570 (by decide) (fun hc => ?_) (fun hc => ?_)
    · have h := ts_ifn h hc
      refine tv_goto C (pc := 592) 1994 dL_law_592 (by decide) ?_
      refine tv_drop 6 (L' := [some (.inl (.ref b)), some (.inr (0, 0, 0)), some (.inr (30, 0, 0)), some (.inr (50, 0, 0)), some (.inr (51, 0, 0)), some (.inl (.int v5)), none, some (.inl (.int q4.1)), none]) rfl ?_
      refine tv_drop 7 (L' := [some (.inl (.ref b)), some (.inr (0, 0, 0)), some (.inr (30, 0, 0)), some (.inr (50, 0, 0)), some (.inr (51, 0, 0)), some (.inl (.int v5)), none, none, none]) rfl ?_
      cases h
      exact K _ _ (by omega) (by omega)
    · have h := ts_ifp h hc
      refine tv_aload_n C (pc := 573) dL_law_573 rfl rfl ?_
      refine tv_iconst C (pc := 574) dL_law_574 (v := (0 : Int32)) rfl ?_
      refine tv_laload C (pc := 575) dL_law_575 (ts_live (k := 50) (by decide) (by decide) (by decide)) rfl (by decide) (j := 0) (by decide) ?_
      refine tv_iload C (pc := 576) dL_law_576 rfl ?_
      refine tv_if_eq C (pc := 578) 585 dL_law_578 (by decide) (fun hc => ?_) (fun hc => ?_)
      · have h := ts_ifp h hc
        refine tv_lconst C (pc := 585) dL_law_585 (v := 0) rfl ?_
        refine tv_lcmp C (pc := 586) dL_law_586 ?_
        refine tv_if_eq C (pc := 587) 592 dL_law_587 (by decide) (fun hc => ?_) (fun hc => ?_)
        · have h := ts_ifp h hc
          refine tv_goto C (pc := 592) 1994 dL_law_592 (by decide) ?_
          refine tv_drop 6 (L' := [some (.inl (.ref b)), some (.inr (0, 0, 0)), some (.inr (30, 0, 0)), some (.inr (50, 0, 0)), some (.inr (51, 0, 0)), some (.inl (.int v5)), none, some (.inl (.int q4.1)), none]) rfl ?_
          refine tv_drop 7 (L' := [some (.inl (.ref b)), some (.inr (0, 0, 0)), some (.inr (30, 0, 0)), some (.inr (50, 0, 0)), some (.inr (51, 0, 0)), some (.inl (.int v5)), none, none, none]) rfl ?_
          cases h
          exact K _ _ (by omega) (by omega)
        · have h := ts_ifn h hc
          refine tv_iconst C (pc := 590) dL_law_590 (v := (0 : Int32)) rfl ?_
          cases h
      · have h := ts_ifn h hc
        refine tv_lconst C (pc := 581) dL_law_581 (v := 1) rfl ?_
        refine tv_goto C (pc := 582) 586 dL_law_582 (by decide) ?_
        refine tv_lcmp C (pc := 586) dL_law_586 ?_
        refine tv_if_eq C (pc := 587) 592 dL_law_587 (by decide) (fun hc => ?_) (fun hc => ?_)
        · have h := ts_ifp h hc
          refine tv_goto C (pc := 592) 1994 dL_law_592 (by decide) ?_
          refine tv_drop 6 (L' := [some (.inl (.ref b)), some (.inr (0, 0, 0)), some (.inr (30, 0, 0)), some (.inr (50, 0, 0)), some (.inr (51, 0, 0)), some (.inl (.int v5)), none, some (.inl (.int q4.1)), none]) rfl ?_
          refine tv_drop 7 (L' := [some (.inl (.ref b)), some (.inr (0, 0, 0)), some (.inr (30, 0, 0)), some (.inr (50, 0, 0)), some (.inr (51, 0, 0)), some (.inl (.int v5)), none, none, none]) rfl ?_
          cases h
          exact K _ _ (by omega) (by omega)
        · have h := ts_ifn h hc
          refine tv_iconst C (pc := 590) dL_law_590 (v := (0 : Int32)) rfl ?_
          cases h
  · have h := ts_ifn h hc
    refine tv_iconst C (pc := 566) dL_law_566 (v := (0 : Int32)) rfl ?_
    cases h
set_option maxRecDepth 100000 in
set_option maxHeartbeats 4000000 in
theorem lc_595 {D : va_G} {dT : Nat → ClassId} {sz : Nat} {p : Program} {l : Launch} {e : Env} {R : Room} {s : State} {m : MethodId} {args : Array Value} {below : List Frame} {meth : Method} {c : Code} {d : Nat} {ad : ts_I → Nat} {Q : State → Prop} (hl : l.stackTraces = false) (C : ts_CX D dT sz p l R s m args meth c RL cL_law 9 (some .boolean) d) (hdd : 25 ≤ d) {b N : Nat} {xs : Nat → Int32} (hXs : va_X b N xs s s.heap) (hbl : b < s.heap.size) (hbA : ¬ sz ≤ b) {kk nn : Nat} (hkn : kk + 8 ≤ R.cells ∧ nn + 48 ≤ R.slots) (v5 : Int32) (u u2 : ts_Mem) (h : fL_595 xs N v5 u = some u2) (K : ∀ k2 n2 : Nat, k2 ≤ kk + 8 → n2 ≤ nn + 48 → ts_V D dT sz p l e R s m args below meth c 9 Q ad ts_lv ts_R0 1994 [some (.inl (.ref b)), some (.inr (0, 0, 0)), some (.inr (30, 0, 0)), some (.inr (50, 0, 0)), some (.inr (51, 0, 0)), some (.inl (.int v5)), none, none, none] [] u2 k2 n2) : ts_V D dT sz p l e R s m args below meth c 9 Q ad ts_lv ts_R0 595 [some (.inl (.ref b)), some (.inr (0, 0, 0)), some (.inr (30, 0, 0)), some (.inr (50, 0, 0)), some (.inr (51, 0, 0)), some (.inl (.int v5)), none, none, none] [] u kk nn := by
  unfold fL_595 at h
  refine tv_aload_n C (pc := 595) dL_law_595 rfl rfl ?_
  refine tv_aloadQ_n C (pc := 596) dL_law_596 rfl rfl ?_
  refine tv_iload C (pc := 597) dL_law_597 rfl ?_
  refine tv_iconst C (pc := 599) dL_law_599 (v := (1 : Int32)) rfl ?_
  refine tv_iadd C (pc := 600) dL_law_600 ?_
  obtain ⟨hr1, h⟩ := ts_gd h
  refine tv_sld C (pc := 601) dL_law_601 hXs hbl hbA hr1 (j := ((v5 + (1 : Int32))).toNatClampNeg) rfl ?_
  refine tv_aload_n C (pc := 602) dL_law_602 rfl rfl ?_
  obtain ⟨q2, hq2, h⟩ := ts_bd h
  refine tv_callX C (pc := 603) dL_law_603 yl_L_141 (m_L_abort (D := D) (dT := dT) (sz := sz) (ad := ad) hl (xs ((v5 + (1 : Int32))).toNatClampNeg) u q2 hq2) (Nat.le_trans (Nat.le_of_ble_eq_true rfl) hdd) (As := [.inr (0, 0, 0), .inl (.int (xs ((v5 + (1 : Int32))).toNatClampNeg)), .inr (50, 0, 0)]) rfl ⟨by omega, by omega⟩ (fun _ => Nat.le_of_ble_eq_true rfl) rfl ?_
  refine tv_istore C (pc := 606) dL_law_606 (L' := [some (.inl (.ref b)), some (.inr (0, 0, 0)), some (.inr (30, 0, 0)), some (.inr (50, 0, 0)), some (.inr (51, 0, 0)), some (.inl (.int v5)), some (.inl (.int q2.1)), none, none]) (by decide) rfl rfl ?_
  refine tv_aload_n C (pc := 608) dL_law_608 rfl rfl ?_
  refine tv_aloadQ_n C (pc := 609) dL_law_609 rfl rfl ?_
  refine tv_iload C (pc := 610) dL_law_610 rfl ?_
  refine tv_iconst C (pc := 612) dL_law_612 (v := (1 : Int32)) rfl ?_
  refine tv_iadd C (pc := 613) dL_law_613 ?_
  obtain ⟨hr3, h⟩ := ts_gd h
  refine tv_sld C (pc := 614) dL_law_614 hXs hbl hbA hr3 (j := ((v5 + (1 : Int32))).toNatClampNeg) rfl ?_
  obtain ⟨q4, hq4, h⟩ := ts_bd h
  refine tv_callV C (pc := 615) dL_law_615 (ci := 7) (q := (RX7, TX7, 37)) rfl yl_L_143 (m_X7_abort (D := D) (dT := dT) (sz := sz) (ad := ad) hl (xs ((v5 + (1 : Int32))).toNatClampNeg) q2.2 q4 hq4) (ts_live (k := 30) (by decide) (by decide) (by decide)) rfl (Nat.le_trans (Nat.le_of_ble_eq_true rfl) hdd) (As := [.inl (.int (xs ((v5 + (1 : Int32))).toNatClampNeg))]) rfl ⟨by omega, by omega⟩ (fun _ => Nat.le_of_ble_eq_true rfl) rfl ?_
  refine tv_istore C (pc := 618) dL_law_618 (L' := [some (.inl (.ref b)), some (.inr (0, 0, 0)), some (.inr (30, 0, 0)), some (.inr (50, 0, 0)), some (.inr (51, 0, 0)), some (.inl (.int v5)), some (.inl (.int q2.1)), some (.inl (.int q4.1)), none]) (by decide) rfl rfl ?_
  refine tv_aload_n C (pc := 620) dL_law_620 rfl rfl ?_
  obtain ⟨q5, hq5, h⟩ := ts_bd h
  refine tv_callV C (pc := 621) dL_law_621 (ci := 7) (q := (RX7, TX7, 37)) rfl yl_L_121 (m_X7_thrown (D := D) (dT := dT) (sz := sz) (ad := ad) hl  q4.2 q5 hq5) (ts_live (k := 30) (by decide) (by decide) (by decide)) rfl (Nat.le_trans (Nat.le_of_ble_eq_true rfl) hdd) (As := []) rfl ⟨by omega, by omega⟩ (fun _ => Nat.le_of_ble_eq_true rfl) rfl ?_
  refine tv_iload C (pc := 624) dL_law_624 rfl ?_
  refine tv_icmp_eq C (pc := 626) 631 dL_law_626 (by decide) (fun hc => ?_) (fun hc => ?_)
  · have h := ts_ifp h hc
    refine tv_iload C (pc := 631) dL_law_631 rfl ?_
    refine tv_if_ne C (pc := 633) 648 dL_law_633 (by decide) (fun hc => ?_) (fun hc => ?_)
    · have h := ts_ifn h hc
      refine tv_goto C (pc := 648) 1994 dL_law_648 (by decide) ?_
      refine tv_drop 6 (L' := [some (.inl (.ref b)), some (.inr (0, 0, 0)), some (.inr (30, 0, 0)), some (.inr (50, 0, 0)), some (.inr (51, 0, 0)), some (.inl (.int v5)), none, some (.inl (.int q4.1)), none]) rfl ?_
      refine tv_drop 7 (L' := [some (.inl (.ref b)), some (.inr (0, 0, 0)), some (.inr (30, 0, 0)), some (.inr (50, 0, 0)), some (.inr (51, 0, 0)), some (.inl (.int v5)), none, none, none]) rfl ?_
      cases h
      exact K _ _ (by omega) (by omega)
    · have h := ts_ifp h hc
      refine tv_aload_n C (pc := 636) dL_law_636 rfl rfl ?_
      refine tv_iconst C (pc := 637) dL_law_637 (v := (0 : Int32)) rfl ?_
      refine tv_laload C (pc := 638) dL_law_638 (ts_live (k := 50) (by decide) (by decide) (by decide)) rfl (by decide) (j := 0) (by decide) ?_
      refine tv_iload C (pc := 639) dL_law_639 rfl ?_
      refine tv_i2l C (pc := 641) dL_law_641 ?_
      refine tv_lcmp C (pc := 642) dL_law_642 ?_
      refine tv_if_eq C (pc := 643) 648 dL_law_643 (by decide) (fun hc => ?_) (fun hc => ?_)
      · have h := ts_ifp h hc
        refine tv_goto C (pc := 648) 1994 dL_law_648 (by decide) ?_
        refine tv_drop 6 (L' := [some (.inl (.ref b)), some (.inr (0, 0, 0)), some (.inr (30, 0, 0)), some (.inr (50, 0, 0)), some (.inr (51, 0, 0)), some (.inl (.int v5)), none, some (.inl (.int q4.1)), none]) rfl ?_
        refine tv_drop 7 (L' := [some (.inl (.ref b)), some (.inr (0, 0, 0)), some (.inr (30, 0, 0)), some (.inr (50, 0, 0)), some (.inr (51, 0, 0)), some (.inl (.int v5)), none, none, none]) rfl ?_
        cases h
        exact K _ _ (by omega) (by omega)
      · have h := ts_ifn h hc
        refine tv_iconst C (pc := 646) dL_law_646 (v := (0 : Int32)) rfl ?_
        cases h
  · have h := ts_ifn h hc
    refine tv_iconst C (pc := 629) dL_law_629 (v := (0 : Int32)) rfl ?_
    cases h
set_option maxRecDepth 100000 in
set_option maxHeartbeats 4000000 in
theorem lc_651 {D : va_G} {dT : Nat → ClassId} {sz : Nat} {p : Program} {l : Launch} {e : Env} {R : Room} {s : State} {m : MethodId} {args : Array Value} {below : List Frame} {meth : Method} {c : Code} {d : Nat} {ad : ts_I → Nat} {Q : State → Prop} (hl : l.stackTraces = false) (C : ts_CX D dT sz p l R s m args meth c RL cL_law 9 (some .boolean) d) (hdd : 25 ≤ d) {b N : Nat} {xs : Nat → Int32} (hXs : va_X b N xs s s.heap) (hbl : b < s.heap.size) (hbA : ¬ sz ≤ b) {kk nn : Nat} (hkn : kk + 8 ≤ R.cells ∧ nn + 48 ≤ R.slots) (v5 : Int32) (u u2 : ts_Mem) (h : fL_651 xs N v5 u = some u2) (K : ∀ k2 n2 : Nat, k2 ≤ kk + 8 → n2 ≤ nn + 48 → ts_V D dT sz p l e R s m args below meth c 9 Q ad ts_lv ts_R0 1994 [some (.inl (.ref b)), some (.inr (0, 0, 0)), some (.inr (30, 0, 0)), some (.inr (50, 0, 0)), some (.inr (51, 0, 0)), some (.inl (.int v5)), none, none, none] [] u2 k2 n2) : ts_V D dT sz p l e R s m args below meth c 9 Q ad ts_lv ts_R0 651 [some (.inl (.ref b)), some (.inr (0, 0, 0)), some (.inr (30, 0, 0)), some (.inr (50, 0, 0)), some (.inr (51, 0, 0)), some (.inl (.int v5)), none, none, none] [] u kk nn := by
  unfold fL_651 at h
  refine tv_aload_n C (pc := 651) dL_law_651 rfl rfl ?_
  refine tv_aload_n C (pc := 652) dL_law_652 rfl rfl ?_
  obtain ⟨q1, hq1, h⟩ := ts_bd h
  refine tv_callX C (pc := 653) dL_law_653 yl_L_144 (m_L_restartNext (D := D) (dT := dT) (sz := sz) (ad := ad) hl  u q1 hq1) (Nat.le_trans (Nat.le_of_ble_eq_true rfl) hdd) (As := [.inr (0, 0, 0), .inr (50, 0, 0)]) rfl ⟨by omega, by omega⟩ (fun _ => Nat.le_of_ble_eq_true rfl) rfl ?_
  refine tv_istore C (pc := 656) dL_law_656 (L' := [some (.inl (.ref b)), some (.inr (0, 0, 0)), some (.inr (30, 0, 0)), some (.inr (50, 0, 0)), some (.inr (51, 0, 0)), some (.inl (.int v5)), some (.inl (.int q1.1)), none, none]) (by decide) rfl rfl ?_
  refine tv_aload_n C (pc := 658) dL_law_658 rfl rfl ?_
  obtain ⟨q2, hq2, h⟩ := ts_bd h
  refine tv_callV C (pc := 659) dL_law_659 (ci := 7) (q := (RX7, TX7, 37)) rfl yl_L_147 (m_X7_restartNext (D := D) (dT := dT) (sz := sz) (ad := ad) hl  q1.2 q2 hq2) (ts_live (k := 30) (by decide) (by decide) (by decide)) rfl (Nat.le_trans (Nat.le_of_ble_eq_true rfl) hdd) (As := []) rfl ⟨by omega, by omega⟩ (fun _ => Nat.le_of_ble_eq_true rfl) rfl ?_
  refine tv_istore C (pc := 662) dL_law_662 (L' := [some (.inl (.ref b)), some (.inr (0, 0, 0)), some (.inr (30, 0, 0)), some (.inr (50, 0, 0)), some (.inr (51, 0, 0)), some (.inl (.int v5)), some (.inl (.int q1.1)), some (.inl (.int q2.1)), none]) (by decide) rfl rfl ?_
  refine tv_aload_n C (pc := 664) dL_law_664 rfl rfl ?_
  obtain ⟨q3, hq3, h⟩ := ts_bd h
  refine tv_callV C (pc := 665) dL_law_665 (ci := 7) (q := (RX7, TX7, 37)) rfl yl_L_121 (m_X7_thrown (D := D) (dT := dT) (sz := sz) (ad := ad) hl  q2.2 q3 hq3) (ts_live (k := 30) (by decide) (by decide) (by decide)) rfl (Nat.le_trans (Nat.le_of_ble_eq_true rfl) hdd) (As := []) rfl ⟨by omega, by omega⟩ (fun _ => Nat.le_of_ble_eq_true rfl) rfl ?_
  refine tv_iload C (pc := 668) dL_law_668 rfl ?_
  refine tv_icmp_eq C (pc := 670) 675 dL_law_670 (by decide) (fun hc => ?_) (fun hc => ?_)
  · have h := ts_ifp h hc
    refine tv_iload C (pc := 675) dL_law_675 rfl ?_
    refine tv_if_ne C (pc := 677) 692 dL_law_677 (by decide) (fun hc => ?_) (fun hc => ?_)
    · have h := ts_ifn h hc
      refine tv_goto C (pc := 692) 1994 dL_law_692 (by decide) ?_
      refine tv_drop 6 (L' := [some (.inl (.ref b)), some (.inr (0, 0, 0)), some (.inr (30, 0, 0)), some (.inr (50, 0, 0)), some (.inr (51, 0, 0)), some (.inl (.int v5)), none, some (.inl (.int q2.1)), none]) rfl ?_
      refine tv_drop 7 (L' := [some (.inl (.ref b)), some (.inr (0, 0, 0)), some (.inr (30, 0, 0)), some (.inr (50, 0, 0)), some (.inr (51, 0, 0)), some (.inl (.int v5)), none, none, none]) rfl ?_
      cases h
      exact K _ _ (by omega) (by omega)
    · have h := ts_ifp h hc
      refine tv_aload_n C (pc := 680) dL_law_680 rfl rfl ?_
      refine tv_iconst C (pc := 681) dL_law_681 (v := (0 : Int32)) rfl ?_
      refine tv_laload C (pc := 682) dL_law_682 (ts_live (k := 50) (by decide) (by decide) (by decide)) rfl (by decide) (j := 0) (by decide) ?_
      refine tv_iload C (pc := 683) dL_law_683 rfl ?_
      refine tv_i2l C (pc := 685) dL_law_685 ?_
      refine tv_lcmp C (pc := 686) dL_law_686 ?_
      refine tv_if_eq C (pc := 687) 692 dL_law_687 (by decide) (fun hc => ?_) (fun hc => ?_)
      · have h := ts_ifp h hc
        refine tv_goto C (pc := 692) 1994 dL_law_692 (by decide) ?_
        refine tv_drop 6 (L' := [some (.inl (.ref b)), some (.inr (0, 0, 0)), some (.inr (30, 0, 0)), some (.inr (50, 0, 0)), some (.inr (51, 0, 0)), some (.inl (.int v5)), none, some (.inl (.int q2.1)), none]) rfl ?_
        refine tv_drop 7 (L' := [some (.inl (.ref b)), some (.inr (0, 0, 0)), some (.inr (30, 0, 0)), some (.inr (50, 0, 0)), some (.inr (51, 0, 0)), some (.inl (.int v5)), none, none, none]) rfl ?_
        cases h
        exact K _ _ (by omega) (by omega)
      · have h := ts_ifn h hc
        refine tv_iconst C (pc := 690) dL_law_690 (v := (0 : Int32)) rfl ?_
        cases h
  · have h := ts_ifn h hc
    refine tv_iconst C (pc := 673) dL_law_673 (v := (0 : Int32)) rfl ?_
    cases h
set_option maxRecDepth 100000 in
set_option maxHeartbeats 4000000 in
theorem lc_695 {D : va_G} {dT : Nat → ClassId} {sz : Nat} {p : Program} {l : Launch} {e : Env} {R : Room} {s : State} {m : MethodId} {args : Array Value} {below : List Frame} {meth : Method} {c : Code} {d : Nat} {ad : ts_I → Nat} {Q : State → Prop} (hl : l.stackTraces = false) (C : ts_CX D dT sz p l R s m args meth c RL cL_law 9 (some .boolean) d) (hdd : 25 ≤ d) {b N : Nat} {xs : Nat → Int32} (hXs : va_X b N xs s s.heap) (hbl : b < s.heap.size) (hbA : ¬ sz ≤ b) {kk nn : Nat} (hkn : kk + 8 ≤ R.cells ∧ nn + 48 ≤ R.slots) (v5 : Int32) (u u2 : ts_Mem) (h : fL_695 xs N v5 u = some u2) (K : ∀ k2 n2 : Nat, k2 ≤ kk + 8 → n2 ≤ nn + 48 → ts_V D dT sz p l e R s m args below meth c 9 Q ad ts_lv ts_R0 1994 [some (.inl (.ref b)), some (.inr (0, 0, 0)), some (.inr (30, 0, 0)), some (.inr (50, 0, 0)), some (.inr (51, 0, 0)), some (.inl (.int v5)), none, none, none] [] u2 k2 n2) : ts_V D dT sz p l e R s m args below meth c 9 Q ad ts_lv ts_R0 695 [some (.inl (.ref b)), some (.inr (0, 0, 0)), some (.inr (30, 0, 0)), some (.inr (50, 0, 0)), some (.inr (51, 0, 0)), some (.inl (.int v5)), none, none, none] [] u kk nn := by
  unfold fL_695 at h
  refine tv_aload_n C (pc := 695) dL_law_695 rfl rfl ?_
  refine tv_aloadQ_n C (pc := 696) dL_law_696 rfl rfl ?_
  refine tv_iload C (pc := 697) dL_law_697 rfl ?_
  refine tv_iconst C (pc := 699) dL_law_699 (v := (1 : Int32)) rfl ?_
  refine tv_iadd C (pc := 700) dL_law_700 ?_
  obtain ⟨hr1, h⟩ := ts_gd h
  refine tv_sld C (pc := 701) dL_law_701 hXs hbl hbA hr1 (j := ((v5 + (1 : Int32))).toNatClampNeg) rfl ?_
  refine tv_i2c C (pc := 702) dL_law_702 ?_
  refine tv_aload_n C (pc := 703) dL_law_703 rfl rfl ?_
  obtain ⟨q2, hq2, h⟩ := ts_bd h
  refine tv_callX C (pc := 704) dL_law_704 yl_L_148 (m_L_append (D := D) (dT := dT) (sz := sz) (ad := ad) hl (((xs ((v5 + (1 : Int32))).toNatClampNeg)).toUInt32 % 65536).toInt32 u q2 hq2) (Nat.le_trans (Nat.le_of_ble_eq_true rfl) hdd) (As := [.inr (0, 0, 0), .inl (.int (((xs ((v5 + (1 : Int32))).toNatClampNeg)).toUInt32 % 65536).toInt32), .inr (50, 0, 0)]) rfl ⟨by omega, by omega⟩ (fun _ => Nat.le_of_ble_eq_true rfl) rfl ?_
  refine tv_istore C (pc := 707) dL_law_707 (L' := [some (.inl (.ref b)), some (.inr (0, 0, 0)), some (.inr (30, 0, 0)), some (.inr (50, 0, 0)), some (.inr (51, 0, 0)), some (.inl (.int v5)), some (.inl (.int q2.1)), none, none]) (by decide) rfl rfl ?_
  refine tv_aload_n C (pc := 709) dL_law_709 rfl rfl ?_
  refine tv_aloadQ_n C (pc := 710) dL_law_710 rfl rfl ?_
  refine tv_iload C (pc := 711) dL_law_711 rfl ?_
  refine tv_iconst C (pc := 713) dL_law_713 (v := (1 : Int32)) rfl ?_
  refine tv_iadd C (pc := 714) dL_law_714 ?_
  obtain ⟨hr3, h⟩ := ts_gd h
  refine tv_sld C (pc := 715) dL_law_715 hXs hbl hbA hr3 (j := ((v5 + (1 : Int32))).toNatClampNeg) rfl ?_
  refine tv_i2c C (pc := 716) dL_law_716 ?_
  obtain ⟨q4, hq4, h⟩ := ts_bd h
  refine tv_callV C (pc := 717) dL_law_717 (ci := 7) (q := (RX7, TX7, 37)) rfl yl_L_151 (m_X7_append (D := D) (dT := dT) (sz := sz) (ad := ad) hl (((xs ((v5 + (1 : Int32))).toNatClampNeg)).toUInt32 % 65536).toInt32 q2.2 q4 hq4) (ts_live (k := 30) (by decide) (by decide) (by decide)) rfl (Nat.le_trans (Nat.le_of_ble_eq_true rfl) hdd) (As := [.inl (.int (((xs ((v5 + (1 : Int32))).toNatClampNeg)).toUInt32 % 65536).toInt32)]) rfl ⟨by omega, by omega⟩ (fun _ => Nat.le_of_ble_eq_true rfl) rfl ?_
  refine tv_istore C (pc := 720) dL_law_720 (L' := [some (.inl (.ref b)), some (.inr (0, 0, 0)), some (.inr (30, 0, 0)), some (.inr (50, 0, 0)), some (.inr (51, 0, 0)), some (.inl (.int v5)), some (.inl (.int q2.1)), some (.inl (.int q4.1)), none]) (by decide) rfl rfl ?_
  refine tv_aload_n C (pc := 722) dL_law_722 rfl rfl ?_
  obtain ⟨q5, hq5, h⟩ := ts_bd h
  refine tv_callV C (pc := 723) dL_law_723 (ci := 7) (q := (RX7, TX7, 37)) rfl yl_L_121 (m_X7_thrown (D := D) (dT := dT) (sz := sz) (ad := ad) hl  q4.2 q5 hq5) (ts_live (k := 30) (by decide) (by decide) (by decide)) rfl (Nat.le_trans (Nat.le_of_ble_eq_true rfl) hdd) (As := []) rfl ⟨by omega, by omega⟩ (fun _ => Nat.le_of_ble_eq_true rfl) rfl ?_
  refine tv_iload C (pc := 726) dL_law_726 rfl ?_
  refine tv_icmp_eq C (pc := 728) 733 dL_law_728 (by decide) (fun hc => ?_) (fun hc => ?_)
  · have h := ts_ifp h hc
    refine tv_iload C (pc := 733) dL_law_733 rfl ?_
    refine tv_if_ne C (pc := 735) 750 dL_law_735 (by decide) (fun hc => ?_) (fun hc => ?_)
    · have h := ts_ifn h hc
      refine tv_goto C (pc := 750) 1994 dL_law_750 (by decide) ?_
      refine tv_drop 6 (L' := [some (.inl (.ref b)), some (.inr (0, 0, 0)), some (.inr (30, 0, 0)), some (.inr (50, 0, 0)), some (.inr (51, 0, 0)), some (.inl (.int v5)), none, some (.inl (.int q4.1)), none]) rfl ?_
      refine tv_drop 7 (L' := [some (.inl (.ref b)), some (.inr (0, 0, 0)), some (.inr (30, 0, 0)), some (.inr (50, 0, 0)), some (.inr (51, 0, 0)), some (.inl (.int v5)), none, none, none]) rfl ?_
      cases h
      exact K _ _ (by omega) (by omega)
    · have h := ts_ifp h hc
      refine tv_aload_n C (pc := 738) dL_law_738 rfl rfl ?_
      refine tv_iconst C (pc := 739) dL_law_739 (v := (0 : Int32)) rfl ?_
      refine tv_laload C (pc := 740) dL_law_740 (ts_live (k := 50) (by decide) (by decide) (by decide)) rfl (by decide) (j := 0) (by decide) ?_
      refine tv_iload C (pc := 741) dL_law_741 rfl ?_
      refine tv_i2l C (pc := 743) dL_law_743 ?_
      refine tv_lcmp C (pc := 744) dL_law_744 ?_
      refine tv_if_eq C (pc := 745) 750 dL_law_745 (by decide) (fun hc => ?_) (fun hc => ?_)
      · have h := ts_ifp h hc
        refine tv_goto C (pc := 750) 1994 dL_law_750 (by decide) ?_
        refine tv_drop 6 (L' := [some (.inl (.ref b)), some (.inr (0, 0, 0)), some (.inr (30, 0, 0)), some (.inr (50, 0, 0)), some (.inr (51, 0, 0)), some (.inl (.int v5)), none, some (.inl (.int q4.1)), none]) rfl ?_
        refine tv_drop 7 (L' := [some (.inl (.ref b)), some (.inr (0, 0, 0)), some (.inr (30, 0, 0)), some (.inr (50, 0, 0)), some (.inr (51, 0, 0)), some (.inl (.int v5)), none, none, none]) rfl ?_
        cases h
        exact K _ _ (by omega) (by omega)
      · have h := ts_ifn h hc
        refine tv_iconst C (pc := 748) dL_law_748 (v := (0 : Int32)) rfl ?_
        cases h
  · have h := ts_ifn h hc
    refine tv_iconst C (pc := 731) dL_law_731 (v := (0 : Int32)) rfl ?_
    cases h
set_option maxRecDepth 100000 in
set_option maxHeartbeats 4000000 in
theorem lc_753 {D : va_G} {dT : Nat → ClassId} {sz : Nat} {p : Program} {l : Launch} {e : Env} {R : Room} {s : State} {m : MethodId} {args : Array Value} {below : List Frame} {meth : Method} {c : Code} {d : Nat} {ad : ts_I → Nat} {Q : State → Prop} (hl : l.stackTraces = false) (C : ts_CX D dT sz p l R s m args meth c RL cL_law 9 (some .boolean) d) (hdd : 25 ≤ d) {b N : Nat} {xs : Nat → Int32} (hXs : va_X b N xs s s.heap) (hbl : b < s.heap.size) (hbA : ¬ sz ≤ b) {kk nn : Nat} (hkn : kk + 8 ≤ R.cells ∧ nn + 48 ≤ R.slots) (v5 : Int32) (u u2 : ts_Mem) (h : fL_753 xs N v5 u = some u2) (K : ∀ k2 n2 : Nat, k2 ≤ kk + 8 → n2 ≤ nn + 48 → ts_V D dT sz p l e R s m args below meth c 9 Q ad ts_lv ts_R0 1994 [some (.inl (.ref b)), some (.inr (0, 0, 0)), some (.inr (30, 0, 0)), some (.inr (50, 0, 0)), some (.inr (51, 0, 0)), some (.inl (.int v5)), none, none, none] [] u2 k2 n2) : ts_V D dT sz p l e R s m args below meth c 9 Q ad ts_lv ts_R0 753 [some (.inl (.ref b)), some (.inr (0, 0, 0)), some (.inr (30, 0, 0)), some (.inr (50, 0, 0)), some (.inr (51, 0, 0)), some (.inl (.int v5)), none, none, none] [] u kk nn := by
  unfold fL_753 at h
  refine tv_aload_n C (pc := 753) dL_law_753 rfl rfl ?_
  refine tv_aloadQ_n C (pc := 754) dL_law_754 rfl rfl ?_
  refine tv_iload C (pc := 755) dL_law_755 rfl ?_
  refine tv_iconst C (pc := 757) dL_law_757 (v := (1 : Int32)) rfl ?_
  refine tv_iadd C (pc := 758) dL_law_758 ?_
  obtain ⟨hr1, h⟩ := ts_gd h
  refine tv_sld C (pc := 759) dL_law_759 hXs hbl hbA hr1 (j := ((v5 + (1 : Int32))).toNatClampNeg) rfl ?_
  refine tv_aload_n C (pc := 760) dL_law_760 rfl rfl ?_
  obtain ⟨q2, hq2, h⟩ := ts_bd h
  refine tv_callX C (pc := 761) dL_law_761 yl_L_152 (m_L_run (D := D) (dT := dT) (sz := sz) (ad := ad) hl (xs ((v5 + (1 : Int32))).toNatClampNeg) u q2 hq2) (Nat.le_trans (Nat.le_of_ble_eq_true rfl) hdd) (As := [.inr (0, 0, 0), .inl (.int (xs ((v5 + (1 : Int32))).toNatClampNeg)), .inr (50, 0, 0)]) rfl ⟨by omega, by omega⟩ (fun _ => Nat.le_of_ble_eq_true rfl) rfl ?_
  refine tv_istore C (pc := 764) dL_law_764 (L' := [some (.inl (.ref b)), some (.inr (0, 0, 0)), some (.inr (30, 0, 0)), some (.inr (50, 0, 0)), some (.inr (51, 0, 0)), some (.inl (.int v5)), some (.inl (.int q2.1)), none, none]) (by decide) rfl rfl ?_
  refine tv_aload_n C (pc := 766) dL_law_766 rfl rfl ?_
  refine tv_aloadQ_n C (pc := 767) dL_law_767 rfl rfl ?_
  refine tv_iload C (pc := 768) dL_law_768 rfl ?_
  refine tv_iconst C (pc := 770) dL_law_770 (v := (1 : Int32)) rfl ?_
  refine tv_iadd C (pc := 771) dL_law_771 ?_
  obtain ⟨hr3, h⟩ := ts_gd h
  refine tv_sld C (pc := 772) dL_law_772 hXs hbl hbA hr3 (j := ((v5 + (1 : Int32))).toNatClampNeg) rfl ?_
  obtain ⟨q4, hq4, h⟩ := ts_bd h
  refine tv_callV C (pc := 773) dL_law_773 (ci := 7) (q := (RX7, TX7, 37)) rfl yl_L_154 (m_X7_run (D := D) (dT := dT) (sz := sz) (ad := ad) hl (xs ((v5 + (1 : Int32))).toNatClampNeg) q2.2 q4 hq4) (ts_live (k := 30) (by decide) (by decide) (by decide)) rfl (Nat.le_trans (Nat.le_of_ble_eq_true rfl) hdd) (As := [.inl (.int (xs ((v5 + (1 : Int32))).toNatClampNeg))]) rfl ⟨by omega, by omega⟩ (fun _ => Nat.le_of_ble_eq_true rfl) rfl ?_
  refine tv_istore C (pc := 776) dL_law_776 (L' := [some (.inl (.ref b)), some (.inr (0, 0, 0)), some (.inr (30, 0, 0)), some (.inr (50, 0, 0)), some (.inr (51, 0, 0)), some (.inl (.int v5)), some (.inl (.int q2.1)), some (.inl (.int q4.1)), none]) (by decide) rfl rfl ?_
  refine tv_aload_n C (pc := 778) dL_law_778 rfl rfl ?_
  obtain ⟨q5, hq5, h⟩ := ts_bd h
  refine tv_callV C (pc := 779) dL_law_779 (ci := 7) (q := (RX7, TX7, 37)) rfl yl_L_121 (m_X7_thrown (D := D) (dT := dT) (sz := sz) (ad := ad) hl  q4.2 q5 hq5) (ts_live (k := 30) (by decide) (by decide) (by decide)) rfl (Nat.le_trans (Nat.le_of_ble_eq_true rfl) hdd) (As := []) rfl ⟨by omega, by omega⟩ (fun _ => Nat.le_of_ble_eq_true rfl) rfl ?_
  refine tv_iload C (pc := 782) dL_law_782 rfl ?_
  refine tv_icmp_eq C (pc := 784) 789 dL_law_784 (by decide) (fun hc => ?_) (fun hc => ?_)
  · have h := ts_ifp h hc
    refine tv_iload C (pc := 789) dL_law_789 rfl ?_
    refine tv_if_ne C (pc := 791) 806 dL_law_791 (by decide) (fun hc => ?_) (fun hc => ?_)
    · have h := ts_ifn h hc
      refine tv_goto C (pc := 806) 1994 dL_law_806 (by decide) ?_
      refine tv_drop 6 (L' := [some (.inl (.ref b)), some (.inr (0, 0, 0)), some (.inr (30, 0, 0)), some (.inr (50, 0, 0)), some (.inr (51, 0, 0)), some (.inl (.int v5)), none, some (.inl (.int q4.1)), none]) rfl ?_
      refine tv_drop 7 (L' := [some (.inl (.ref b)), some (.inr (0, 0, 0)), some (.inr (30, 0, 0)), some (.inr (50, 0, 0)), some (.inr (51, 0, 0)), some (.inl (.int v5)), none, none, none]) rfl ?_
      cases h
      exact K _ _ (by omega) (by omega)
    · have h := ts_ifp h hc
      refine tv_aload_n C (pc := 794) dL_law_794 rfl rfl ?_
      refine tv_iconst C (pc := 795) dL_law_795 (v := (0 : Int32)) rfl ?_
      refine tv_laload C (pc := 796) dL_law_796 (ts_live (k := 50) (by decide) (by decide) (by decide)) rfl (by decide) (j := 0) (by decide) ?_
      refine tv_iload C (pc := 797) dL_law_797 rfl ?_
      refine tv_i2l C (pc := 799) dL_law_799 ?_
      refine tv_lcmp C (pc := 800) dL_law_800 ?_
      refine tv_if_eq C (pc := 801) 806 dL_law_801 (by decide) (fun hc => ?_) (fun hc => ?_)
      · have h := ts_ifp h hc
        refine tv_goto C (pc := 806) 1994 dL_law_806 (by decide) ?_
        refine tv_drop 6 (L' := [some (.inl (.ref b)), some (.inr (0, 0, 0)), some (.inr (30, 0, 0)), some (.inr (50, 0, 0)), some (.inr (51, 0, 0)), some (.inl (.int v5)), none, some (.inl (.int q4.1)), none]) rfl ?_
        refine tv_drop 7 (L' := [some (.inl (.ref b)), some (.inr (0, 0, 0)), some (.inr (30, 0, 0)), some (.inr (50, 0, 0)), some (.inr (51, 0, 0)), some (.inl (.int v5)), none, none, none]) rfl ?_
        cases h
        exact K _ _ (by omega) (by omega)
      · have h := ts_ifn h hc
        refine tv_iconst C (pc := 804) dL_law_804 (v := (0 : Int32)) rfl ?_
        cases h
  · have h := ts_ifn h hc
    refine tv_iconst C (pc := 787) dL_law_787 (v := (0 : Int32)) rfl ?_
    cases h
set_option maxRecDepth 100000 in
set_option maxHeartbeats 4000000 in
theorem lc_809 {D : va_G} {dT : Nat → ClassId} {sz : Nat} {p : Program} {l : Launch} {e : Env} {R : Room} {s : State} {m : MethodId} {args : Array Value} {below : List Frame} {meth : Method} {c : Code} {d : Nat} {ad : ts_I → Nat} {Q : State → Prop} (hl : l.stackTraces = false) (C : ts_CX D dT sz p l R s m args meth c RL cL_law 9 (some .boolean) d) (hdd : 25 ≤ d) {b N : Nat} {xs : Nat → Int32} (hXs : va_X b N xs s s.heap) (hbl : b < s.heap.size) (hbA : ¬ sz ≤ b) {kk nn : Nat} (hkn : kk + 8 ≤ R.cells ∧ nn + 48 ≤ R.slots) (v5 : Int32) (u u2 : ts_Mem) (h : fL_809 xs N v5 u = some u2) (K : ∀ k2 n2 : Nat, k2 ≤ kk + 8 → n2 ≤ nn + 48 → ts_V D dT sz p l e R s m args below meth c 9 Q ad ts_lv ts_R0 1994 [some (.inl (.ref b)), some (.inr (0, 0, 0)), some (.inr (30, 0, 0)), some (.inr (50, 0, 0)), some (.inr (51, 0, 0)), some (.inl (.int v5)), none, none, none] [] u2 k2 n2) : ts_V D dT sz p l e R s m args below meth c 9 Q ad ts_lv ts_R0 809 [some (.inl (.ref b)), some (.inr (0, 0, 0)), some (.inr (30, 0, 0)), some (.inr (50, 0, 0)), some (.inr (51, 0, 0)), some (.inl (.int v5)), none, none, none] [] u kk nn := by
  unfold fL_809 at h
  refine tv_aload_n C (pc := 809) dL_law_809 rfl rfl ?_
  refine tv_aload_n C (pc := 810) dL_law_810 rfl rfl ?_
  obtain ⟨q1, hq1, h⟩ := ts_bd h
  refine tv_callX C (pc := 811) dL_law_811 yl_L_155 (m_L_errorPosition (D := D) (dT := dT) (sz := sz) (ad := ad) hl  u q1 hq1) (Nat.le_trans (Nat.le_of_ble_eq_true rfl) hdd) (As := [.inr (0, 0, 0), .inr (50, 0, 0)]) rfl ⟨by omega, by omega⟩ (fun _ => Nat.le_of_ble_eq_true rfl) rfl ?_
  refine tv_istore C (pc := 814) dL_law_814 (L' := [some (.inl (.ref b)), some (.inr (0, 0, 0)), some (.inr (30, 0, 0)), some (.inr (50, 0, 0)), some (.inr (51, 0, 0)), some (.inl (.int v5)), some (.inl (.int q1.1)), none, none]) (by decide) rfl rfl ?_
  refine tv_aload_n C (pc := 816) dL_law_816 rfl rfl ?_
  obtain ⟨q2, hq2, h⟩ := ts_bd h
  refine tv_callV C (pc := 817) dL_law_817 (ci := 7) (q := (RX7, TX7, 37)) rfl yl_L_157 (m_X7_errorPosition (D := D) (dT := dT) (sz := sz) (ad := ad) hl  q1.2 q2 hq2) (ts_live (k := 30) (by decide) (by decide) (by decide)) rfl (Nat.le_trans (Nat.le_of_ble_eq_true rfl) hdd) (As := []) rfl ⟨by omega, by omega⟩ (fun _ => Nat.le_of_ble_eq_true rfl) rfl ?_
  refine tv_istore C (pc := 820) dL_law_820 (L' := [some (.inl (.ref b)), some (.inr (0, 0, 0)), some (.inr (30, 0, 0)), some (.inr (50, 0, 0)), some (.inr (51, 0, 0)), some (.inl (.int v5)), some (.inl (.int q1.1)), some (.inl (.int q2.1)), none]) (by decide) rfl rfl ?_
  refine tv_aload_n C (pc := 822) dL_law_822 rfl rfl ?_
  obtain ⟨q3, hq3, h⟩ := ts_bd h
  refine tv_callV C (pc := 823) dL_law_823 (ci := 7) (q := (RX7, TX7, 37)) rfl yl_L_121 (m_X7_thrown (D := D) (dT := dT) (sz := sz) (ad := ad) hl  q2.2 q3 hq3) (ts_live (k := 30) (by decide) (by decide) (by decide)) rfl (Nat.le_trans (Nat.le_of_ble_eq_true rfl) hdd) (As := []) rfl ⟨by omega, by omega⟩ (fun _ => Nat.le_of_ble_eq_true rfl) rfl ?_
  refine tv_iload C (pc := 826) dL_law_826 rfl ?_
  refine tv_icmp_eq C (pc := 828) 833 dL_law_828 (by decide) (fun hc => ?_) (fun hc => ?_)
  · have h := ts_ifp h hc
    refine tv_iload C (pc := 833) dL_law_833 rfl ?_
    refine tv_if_ne C (pc := 835) 850 dL_law_835 (by decide) (fun hc => ?_) (fun hc => ?_)
    · have h := ts_ifn h hc
      refine tv_goto C (pc := 850) 1994 dL_law_850 (by decide) ?_
      refine tv_drop 6 (L' := [some (.inl (.ref b)), some (.inr (0, 0, 0)), some (.inr (30, 0, 0)), some (.inr (50, 0, 0)), some (.inr (51, 0, 0)), some (.inl (.int v5)), none, some (.inl (.int q2.1)), none]) rfl ?_
      refine tv_drop 7 (L' := [some (.inl (.ref b)), some (.inr (0, 0, 0)), some (.inr (30, 0, 0)), some (.inr (50, 0, 0)), some (.inr (51, 0, 0)), some (.inl (.int v5)), none, none, none]) rfl ?_
      cases h
      exact K _ _ (by omega) (by omega)
    · have h := ts_ifp h hc
      refine tv_aload_n C (pc := 838) dL_law_838 rfl rfl ?_
      refine tv_iconst C (pc := 839) dL_law_839 (v := (0 : Int32)) rfl ?_
      refine tv_laload C (pc := 840) dL_law_840 (ts_live (k := 50) (by decide) (by decide) (by decide)) rfl (by decide) (j := 0) (by decide) ?_
      refine tv_iload C (pc := 841) dL_law_841 rfl ?_
      refine tv_i2l C (pc := 843) dL_law_843 ?_
      refine tv_lcmp C (pc := 844) dL_law_844 ?_
      refine tv_if_eq C (pc := 845) 850 dL_law_845 (by decide) (fun hc => ?_) (fun hc => ?_)
      · have h := ts_ifp h hc
        refine tv_goto C (pc := 850) 1994 dL_law_850 (by decide) ?_
        refine tv_drop 6 (L' := [some (.inl (.ref b)), some (.inr (0, 0, 0)), some (.inr (30, 0, 0)), some (.inr (50, 0, 0)), some (.inr (51, 0, 0)), some (.inl (.int v5)), none, some (.inl (.int q2.1)), none]) rfl ?_
        refine tv_drop 7 (L' := [some (.inl (.ref b)), some (.inr (0, 0, 0)), some (.inr (30, 0, 0)), some (.inr (50, 0, 0)), some (.inr (51, 0, 0)), some (.inl (.int v5)), none, none, none]) rfl ?_
        cases h
        exact K _ _ (by omega) (by omega)
      · have h := ts_ifn h hc
        refine tv_iconst C (pc := 848) dL_law_848 (v := (0 : Int32)) rfl ?_
        cases h
  · have h := ts_ifn h hc
    refine tv_iconst C (pc := 831) dL_law_831 (v := (0 : Int32)) rfl ?_
    cases h
set_option maxRecDepth 100000 in
set_option maxHeartbeats 4000000 in
theorem lc_853 {D : va_G} {dT : Nat → ClassId} {sz : Nat} {p : Program} {l : Launch} {e : Env} {R : Room} {s : State} {m : MethodId} {args : Array Value} {below : List Frame} {meth : Method} {c : Code} {d : Nat} {ad : ts_I → Nat} {Q : State → Prop} (hl : l.stackTraces = false) (C : ts_CX D dT sz p l R s m args meth c RL cL_law 9 (some .boolean) d) (hdd : 25 ≤ d) {b N : Nat} {xs : Nat → Int32} (hXs : va_X b N xs s s.heap) (hbl : b < s.heap.size) (hbA : ¬ sz ≤ b) {kk nn : Nat} (hkn : kk + 8 ≤ R.cells ∧ nn + 48 ≤ R.slots) (v5 : Int32) (u u2 : ts_Mem) (h : fL_853 xs N v5 u = some u2) (K : ∀ k2 n2 : Nat, k2 ≤ kk + 8 → n2 ≤ nn + 48 → ts_V D dT sz p l e R s m args below meth c 9 Q ad ts_lv ts_R0 1994 [some (.inl (.ref b)), some (.inr (0, 0, 0)), some (.inr (30, 0, 0)), some (.inr (50, 0, 0)), some (.inr (51, 0, 0)), some (.inl (.int v5)), none, none, none] [] u2 k2 n2) : ts_V D dT sz p l e R s m args below meth c 9 Q ad ts_lv ts_R0 853 [some (.inl (.ref b)), some (.inr (0, 0, 0)), some (.inr (30, 0, 0)), some (.inr (50, 0, 0)), some (.inr (51, 0, 0)), some (.inl (.int v5)), none, none, none] [] u kk nn := by
  unfold fL_853 at h
  refine tv_aload_n C (pc := 853) dL_law_853 rfl rfl ?_
  obtain ⟨q1, hq1, h⟩ := ts_bd h
  refine tv_callV C (pc := 854) dL_law_854 (ci := 6) (q := (RX6, TX6, 6)) rfl yl_L_158 (m_X6_transactionCount (D := D) (dT := dT) (sz := sz) (ad := ad) hl  u q1 hq1) (ts_live (k := 0) (by decide) (by decide) (by decide)) rfl (Nat.le_trans (Nat.le_of_ble_eq_true rfl) hdd) (As := []) rfl ⟨by omega, by omega⟩ (fun _ => Nat.le_of_ble_eq_true rfl) rfl ?_
  refine tv_aload_n C (pc := 857) dL_law_857 rfl rfl ?_
  obtain ⟨q2, hq2, h⟩ := ts_bd h
  refine tv_callV C (pc := 858) dL_law_858 (ci := 7) (q := (RX7, TX7, 37)) rfl yl_L_161 (m_X7_transactionCount (D := D) (dT := dT) (sz := sz) (ad := ad) hl  u q2 hq2) (ts_live (k := 30) (by decide) (by decide) (by decide)) rfl (Nat.le_trans (Nat.le_of_ble_eq_true rfl) hdd) (As := []) rfl ⟨by omega, by omega⟩ (fun _ => Nat.le_of_ble_eq_true rfl) rfl ?_
  refine tv_icmp_eq C (pc := 861) 1994 dL_law_861 (by decide) (fun hc => ?_) (fun hc => ?_)
  · have h := ts_ifp h hc
    cases h
    exact K _ _ (by omega) (by omega)
  · have h := ts_ifn h hc
    refine tv_iconst C (pc := 864) dL_law_864 (v := (0 : Int32)) rfl ?_
    cases h
set_option maxRecDepth 100000 in
set_option maxHeartbeats 4000000 in
theorem lc_866 {D : va_G} {dT : Nat → ClassId} {sz : Nat} {p : Program} {l : Launch} {e : Env} {R : Room} {s : State} {m : MethodId} {args : Array Value} {below : List Frame} {meth : Method} {c : Code} {d : Nat} {ad : ts_I → Nat} {Q : State → Prop} (hl : l.stackTraces = false) (C : ts_CX D dT sz p l R s m args meth c RL cL_law 9 (some .boolean) d) (hdd : 25 ≤ d) {b N : Nat} {xs : Nat → Int32} (hXs : va_X b N xs s s.heap) (hbl : b < s.heap.size) (hbA : ¬ sz ≤ b) {kk nn : Nat} (hkn : kk + 8 ≤ R.cells ∧ nn + 48 ≤ R.slots) (v5 : Int32) (u u2 : ts_Mem) (h : fL_866 xs N v5 u = some u2) (K : ∀ k2 n2 : Nat, k2 ≤ kk + 8 → n2 ≤ nn + 48 → ts_V D dT sz p l e R s m args below meth c 9 Q ad ts_lv ts_R0 1994 [some (.inl (.ref b)), some (.inr (0, 0, 0)), some (.inr (30, 0, 0)), some (.inr (50, 0, 0)), some (.inr (51, 0, 0)), some (.inl (.int v5)), none, none, none] [] u2 k2 n2) : ts_V D dT sz p l e R s m args below meth c 9 Q ad ts_lv ts_R0 866 [some (.inl (.ref b)), some (.inr (0, 0, 0)), some (.inr (30, 0, 0)), some (.inr (50, 0, 0)), some (.inr (51, 0, 0)), some (.inl (.int v5)), none, none, none] [] u kk nn := by
  unfold fL_866 at h
  refine tv_aload_n C (pc := 866) dL_law_866 rfl rfl ?_
  refine tv_aloadQ_n C (pc := 867) dL_law_867 rfl rfl ?_
  refine tv_iload C (pc := 868) dL_law_868 rfl ?_
  refine tv_iconst C (pc := 870) dL_law_870 (v := (1 : Int32)) rfl ?_
  refine tv_iadd C (pc := 871) dL_law_871 ?_
  obtain ⟨hr1, h⟩ := ts_gd h
  refine tv_sld C (pc := 872) dL_law_872 hXs hbl hbA hr1 (j := ((v5 + (1 : Int32))).toNatClampNeg) rfl ?_
  refine tv_aloadQ_n C (pc := 873) dL_law_873 rfl rfl ?_
  refine tv_iload C (pc := 874) dL_law_874 rfl ?_
  refine tv_iconst C (pc := 876) dL_law_876 (v := (2 : Int32)) rfl ?_
  refine tv_iadd C (pc := 877) dL_law_877 ?_
  obtain ⟨hr2, h⟩ := ts_gd h
  refine tv_sld C (pc := 878) dL_law_878 hXs hbl hbA hr2 (j := ((v5 + (2 : Int32))).toNatClampNeg) rfl ?_
  refine tv_aload_n C (pc := 879) dL_law_879 rfl rfl ?_
  obtain ⟨q3, hq3, h⟩ := ts_bd h
  refine tv_callX C (pc := 880) dL_law_880 yl_L_162 (m_L_transaction (D := D) (dT := dT) (sz := sz) (ad := ad) hl (xs ((v5 + (1 : Int32))).toNatClampNeg) (xs ((v5 + (2 : Int32))).toNatClampNeg) u q3 hq3) (Nat.le_trans (Nat.le_of_ble_eq_true rfl) hdd) (As := [.inr (0, 0, 0), .inl (.int (xs ((v5 + (1 : Int32))).toNatClampNeg)), .inl (.int (xs ((v5 + (2 : Int32))).toNatClampNeg)), .inr (50, 0, 0)]) rfl ⟨by omega, by omega⟩ (fun _ => Nat.le_of_ble_eq_true rfl) rfl ?_
  refine tv_istore C (pc := 883) dL_law_883 (L' := [some (.inl (.ref b)), some (.inr (0, 0, 0)), some (.inr (30, 0, 0)), some (.inr (50, 0, 0)), some (.inr (51, 0, 0)), some (.inl (.int v5)), some (.inl (.int q3.1)), none, none]) (by decide) rfl rfl ?_
  refine tv_aload_n C (pc := 885) dL_law_885 rfl rfl ?_
  refine tv_aloadQ_n C (pc := 886) dL_law_886 rfl rfl ?_
  refine tv_iload C (pc := 887) dL_law_887 rfl ?_
  refine tv_iconst C (pc := 889) dL_law_889 (v := (1 : Int32)) rfl ?_
  refine tv_iadd C (pc := 890) dL_law_890 ?_
  obtain ⟨hr4, h⟩ := ts_gd h
  refine tv_sld C (pc := 891) dL_law_891 hXs hbl hbA hr4 (j := ((v5 + (1 : Int32))).toNatClampNeg) rfl ?_
  refine tv_aloadQ_n C (pc := 892) dL_law_892 rfl rfl ?_
  refine tv_iload C (pc := 893) dL_law_893 rfl ?_
  refine tv_iconst C (pc := 895) dL_law_895 (v := (2 : Int32)) rfl ?_
  refine tv_iadd C (pc := 896) dL_law_896 ?_
  obtain ⟨hr5, h⟩ := ts_gd h
  refine tv_sld C (pc := 897) dL_law_897 hXs hbl hbA hr5 (j := ((v5 + (2 : Int32))).toNatClampNeg) rfl ?_
  obtain ⟨q6, hq6, h⟩ := ts_bd h
  refine tv_callV C (pc := 898) dL_law_898 (ci := 7) (q := (RX7, TX7, 37)) rfl yl_L_164 (m_X7_transaction (D := D) (dT := dT) (sz := sz) (ad := ad) hl (xs ((v5 + (1 : Int32))).toNatClampNeg) (xs ((v5 + (2 : Int32))).toNatClampNeg) q3.2 q6 hq6) (ts_live (k := 30) (by decide) (by decide) (by decide)) rfl (Nat.le_trans (Nat.le_of_ble_eq_true rfl) hdd) (As := [.inl (.int (xs ((v5 + (1 : Int32))).toNatClampNeg)), .inl (.int (xs ((v5 + (2 : Int32))).toNatClampNeg))]) rfl ⟨by omega, by omega⟩ (fun _ => Nat.le_of_ble_eq_true rfl) rfl ?_
  refine tv_istore C (pc := 901) dL_law_901 (L' := [some (.inl (.ref b)), some (.inr (0, 0, 0)), some (.inr (30, 0, 0)), some (.inr (50, 0, 0)), some (.inr (51, 0, 0)), some (.inl (.int v5)), some (.inl (.int q3.1)), some (.inl (.int q6.1)), none]) (by decide) rfl rfl ?_
  refine tv_aload_n C (pc := 903) dL_law_903 rfl rfl ?_
  obtain ⟨q7, hq7, h⟩ := ts_bd h
  refine tv_callV C (pc := 904) dL_law_904 (ci := 7) (q := (RX7, TX7, 37)) rfl yl_L_121 (m_X7_thrown (D := D) (dT := dT) (sz := sz) (ad := ad) hl  q6.2 q7 hq7) (ts_live (k := 30) (by decide) (by decide) (by decide)) rfl (Nat.le_trans (Nat.le_of_ble_eq_true rfl) hdd) (As := []) rfl ⟨by omega, by omega⟩ (fun _ => Nat.le_of_ble_eq_true rfl) rfl ?_
  refine tv_iload C (pc := 907) dL_law_907 rfl ?_
  refine tv_icmp_eq C (pc := 909) 914 dL_law_909 (by decide) (fun hc => ?_) (fun hc => ?_)
  · have h := ts_ifp h hc
    refine tv_iload C (pc := 914) dL_law_914 rfl ?_
    refine tv_if_ne C (pc := 916) 931 dL_law_916 (by decide) (fun hc => ?_) (fun hc => ?_)
    · have h := ts_ifn h hc
      refine tv_goto C (pc := 931) 1994 dL_law_931 (by decide) ?_
      refine tv_drop 6 (L' := [some (.inl (.ref b)), some (.inr (0, 0, 0)), some (.inr (30, 0, 0)), some (.inr (50, 0, 0)), some (.inr (51, 0, 0)), some (.inl (.int v5)), none, some (.inl (.int q6.1)), none]) rfl ?_
      refine tv_drop 7 (L' := [some (.inl (.ref b)), some (.inr (0, 0, 0)), some (.inr (30, 0, 0)), some (.inr (50, 0, 0)), some (.inr (51, 0, 0)), some (.inl (.int v5)), none, none, none]) rfl ?_
      cases h
      exact K _ _ (by omega) (by omega)
    · have h := ts_ifp h hc
      refine tv_aload_n C (pc := 919) dL_law_919 rfl rfl ?_
      refine tv_iconst C (pc := 920) dL_law_920 (v := (0 : Int32)) rfl ?_
      refine tv_laload C (pc := 921) dL_law_921 (ts_live (k := 50) (by decide) (by decide) (by decide)) rfl (by decide) (j := 0) (by decide) ?_
      refine tv_iload C (pc := 922) dL_law_922 rfl ?_
      refine tv_i2l C (pc := 924) dL_law_924 ?_
      refine tv_lcmp C (pc := 925) dL_law_925 ?_
      refine tv_if_eq C (pc := 926) 931 dL_law_926 (by decide) (fun hc => ?_) (fun hc => ?_)
      · have h := ts_ifp h hc
        refine tv_goto C (pc := 931) 1994 dL_law_931 (by decide) ?_
        refine tv_drop 6 (L' := [some (.inl (.ref b)), some (.inr (0, 0, 0)), some (.inr (30, 0, 0)), some (.inr (50, 0, 0)), some (.inr (51, 0, 0)), some (.inl (.int v5)), none, some (.inl (.int q6.1)), none]) rfl ?_
        refine tv_drop 7 (L' := [some (.inl (.ref b)), some (.inr (0, 0, 0)), some (.inr (30, 0, 0)), some (.inr (50, 0, 0)), some (.inr (51, 0, 0)), some (.inl (.int v5)), none, none, none]) rfl ?_
        cases h
        exact K _ _ (by omega) (by omega)
      · have h := ts_ifn h hc
        refine tv_iconst C (pc := 929) dL_law_929 (v := (0 : Int32)) rfl ?_
        cases h
  · have h := ts_ifn h hc
    refine tv_iconst C (pc := 912) dL_law_912 (v := (0 : Int32)) rfl ?_
    cases h
set_option maxRecDepth 100000 in
set_option maxHeartbeats 4000000 in
theorem lc_934 {D : va_G} {dT : Nat → ClassId} {sz : Nat} {p : Program} {l : Launch} {e : Env} {R : Room} {s : State} {m : MethodId} {args : Array Value} {below : List Frame} {meth : Method} {c : Code} {d : Nat} {ad : ts_I → Nat} {Q : State → Prop} (hl : l.stackTraces = false) (C : ts_CX D dT sz p l R s m args meth c RL cL_law 9 (some .boolean) d) (hdd : 25 ≤ d) {b N : Nat} {xs : Nat → Int32} (hXs : va_X b N xs s s.heap) (hbl : b < s.heap.size) (hbA : ¬ sz ≤ b) {kk nn : Nat} (hkn : kk + 8 ≤ R.cells ∧ nn + 48 ≤ R.slots) (v5 : Int32) (u u2 : ts_Mem) (h : fL_934 xs N v5 u = some u2) (K : ∀ k2 n2 : Nat, k2 ≤ kk + 8 → n2 ≤ nn + 48 → ts_V D dT sz p l e R s m args below meth c 9 Q ad ts_lv ts_R0 1994 [some (.inl (.ref b)), some (.inr (0, 0, 0)), some (.inr (30, 0, 0)), some (.inr (50, 0, 0)), some (.inr (51, 0, 0)), some (.inl (.int v5)), none, none, none] [] u2 k2 n2) : ts_V D dT sz p l e R s m args below meth c 9 Q ad ts_lv ts_R0 934 [some (.inl (.ref b)), some (.inr (0, 0, 0)), some (.inr (30, 0, 0)), some (.inr (50, 0, 0)), some (.inr (51, 0, 0)), some (.inl (.int v5)), none, none, none] [] u kk nn := by
  unfold fL_934 at h
  refine tv_aload_n C (pc := 934) dL_law_934 rfl rfl ?_
  refine tv_aloadQ_n C (pc := 935) dL_law_935 rfl rfl ?_
  refine tv_iload C (pc := 936) dL_law_936 rfl ?_
  refine tv_iconst C (pc := 938) dL_law_938 (v := (1 : Int32)) rfl ?_
  refine tv_iadd C (pc := 939) dL_law_939 ?_
  obtain ⟨hr1, h⟩ := ts_gd h
  refine tv_sld C (pc := 940) dL_law_940 hXs hbl hbA hr1 (j := ((v5 + (1 : Int32))).toNatClampNeg) rfl ?_
  refine tv_aload_n C (pc := 941) dL_law_941 rfl rfl ?_
  obtain ⟨q2, hq2, h⟩ := ts_bd h
  refine tv_callX C (pc := 942) dL_law_942 yl_L_165 (m_L_dependencies (D := D) (dT := dT) (sz := sz) (ad := ad) hl (xs ((v5 + (1 : Int32))).toNatClampNeg) u q2 hq2) (Nat.le_trans (Nat.le_of_ble_eq_true rfl) hdd) (As := [.inr (0, 0, 0), .inl (.int (xs ((v5 + (1 : Int32))).toNatClampNeg)), .inr (50, 0, 0)]) rfl ⟨by omega, by omega⟩ (fun _ => Nat.le_of_ble_eq_true rfl) rfl ?_
  refine tv_istore C (pc := 945) dL_law_945 (L' := [some (.inl (.ref b)), some (.inr (0, 0, 0)), some (.inr (30, 0, 0)), some (.inr (50, 0, 0)), some (.inr (51, 0, 0)), some (.inl (.int v5)), some (.inl (.int q2.1)), none, none]) (by decide) rfl rfl ?_
  refine tv_aload_n C (pc := 947) dL_law_947 rfl rfl ?_
  refine tv_aloadQ_n C (pc := 948) dL_law_948 rfl rfl ?_
  refine tv_iload C (pc := 949) dL_law_949 rfl ?_
  refine tv_iconst C (pc := 951) dL_law_951 (v := (1 : Int32)) rfl ?_
  refine tv_iadd C (pc := 952) dL_law_952 ?_
  obtain ⟨hr3, h⟩ := ts_gd h
  refine tv_sld C (pc := 953) dL_law_953 hXs hbl hbA hr3 (j := ((v5 + (1 : Int32))).toNatClampNeg) rfl ?_
  obtain ⟨q4, hq4, h⟩ := ts_bd h
  refine tv_callV C (pc := 954) dL_law_954 (ci := 7) (q := (RX7, TX7, 37)) rfl yl_L_167 (m_X7_dependencies (D := D) (dT := dT) (sz := sz) (ad := ad) hl (xs ((v5 + (1 : Int32))).toNatClampNeg) q2.2 q4 hq4) (ts_live (k := 30) (by decide) (by decide) (by decide)) rfl (Nat.le_trans (Nat.le_of_ble_eq_true rfl) hdd) (As := [.inl (.int (xs ((v5 + (1 : Int32))).toNatClampNeg))]) rfl ⟨by omega, by omega⟩ (fun _ => Nat.le_of_ble_eq_true rfl) rfl ?_
  refine tv_istore C (pc := 957) dL_law_957 (L' := [some (.inl (.ref b)), some (.inr (0, 0, 0)), some (.inr (30, 0, 0)), some (.inr (50, 0, 0)), some (.inr (51, 0, 0)), some (.inl (.int v5)), some (.inl (.int q2.1)), some (.inl (.int q4.1)), none]) (by decide) rfl rfl ?_
  refine tv_aload_n C (pc := 959) dL_law_959 rfl rfl ?_
  obtain ⟨q5, hq5, h⟩ := ts_bd h
  refine tv_callV C (pc := 960) dL_law_960 (ci := 7) (q := (RX7, TX7, 37)) rfl yl_L_121 (m_X7_thrown (D := D) (dT := dT) (sz := sz) (ad := ad) hl  q4.2 q5 hq5) (ts_live (k := 30) (by decide) (by decide) (by decide)) rfl (Nat.le_trans (Nat.le_of_ble_eq_true rfl) hdd) (As := []) rfl ⟨by omega, by omega⟩ (fun _ => Nat.le_of_ble_eq_true rfl) rfl ?_
  refine tv_iload C (pc := 963) dL_law_963 rfl ?_
  refine tv_icmp_eq C (pc := 965) 970 dL_law_965 (by decide) (fun hc => ?_) (fun hc => ?_)
  · have h := ts_ifp h hc
    refine tv_iload C (pc := 970) dL_law_970 rfl ?_
    refine tv_if_ne C (pc := 972) 987 dL_law_972 (by decide) (fun hc => ?_) (fun hc => ?_)
    · have h := ts_ifn h hc
      refine tv_goto C (pc := 987) 1994 dL_law_987 (by decide) ?_
      refine tv_drop 6 (L' := [some (.inl (.ref b)), some (.inr (0, 0, 0)), some (.inr (30, 0, 0)), some (.inr (50, 0, 0)), some (.inr (51, 0, 0)), some (.inl (.int v5)), none, some (.inl (.int q4.1)), none]) rfl ?_
      refine tv_drop 7 (L' := [some (.inl (.ref b)), some (.inr (0, 0, 0)), some (.inr (30, 0, 0)), some (.inr (50, 0, 0)), some (.inr (51, 0, 0)), some (.inl (.int v5)), none, none, none]) rfl ?_
      cases h
      exact K _ _ (by omega) (by omega)
    · have h := ts_ifp h hc
      refine tv_aload_n C (pc := 975) dL_law_975 rfl rfl ?_
      refine tv_iconst C (pc := 976) dL_law_976 (v := (0 : Int32)) rfl ?_
      refine tv_laload C (pc := 977) dL_law_977 (ts_live (k := 50) (by decide) (by decide) (by decide)) rfl (by decide) (j := 0) (by decide) ?_
      refine tv_iload C (pc := 978) dL_law_978 rfl ?_
      refine tv_i2l C (pc := 980) dL_law_980 ?_
      refine tv_lcmp C (pc := 981) dL_law_981 ?_
      refine tv_if_eq C (pc := 982) 987 dL_law_982 (by decide) (fun hc => ?_) (fun hc => ?_)
      · have h := ts_ifp h hc
        refine tv_goto C (pc := 987) 1994 dL_law_987 (by decide) ?_
        refine tv_drop 6 (L' := [some (.inl (.ref b)), some (.inr (0, 0, 0)), some (.inr (30, 0, 0)), some (.inr (50, 0, 0)), some (.inr (51, 0, 0)), some (.inl (.int v5)), none, some (.inl (.int q4.1)), none]) rfl ?_
        refine tv_drop 7 (L' := [some (.inl (.ref b)), some (.inr (0, 0, 0)), some (.inr (30, 0, 0)), some (.inr (50, 0, 0)), some (.inr (51, 0, 0)), some (.inl (.int v5)), none, none, none]) rfl ?_
        cases h
        exact K _ _ (by omega) (by omega)
      · have h := ts_ifn h hc
        refine tv_iconst C (pc := 985) dL_law_985 (v := (0 : Int32)) rfl ?_
        cases h
  · have h := ts_ifn h hc
    refine tv_iconst C (pc := 968) dL_law_968 (v := (0 : Int32)) rfl ?_
    cases h
set_option maxRecDepth 100000 in
set_option maxHeartbeats 4000000 in
theorem lc_990 {D : va_G} {dT : Nat → ClassId} {sz : Nat} {p : Program} {l : Launch} {e : Env} {R : Room} {s : State} {m : MethodId} {args : Array Value} {below : List Frame} {meth : Method} {c : Code} {d : Nat} {ad : ts_I → Nat} {Q : State → Prop} (hl : l.stackTraces = false) (C : ts_CX D dT sz p l R s m args meth c RL cL_law 9 (some .boolean) d) (hdd : 25 ≤ d) {b N : Nat} {xs : Nat → Int32} (hXs : va_X b N xs s s.heap) (hbl : b < s.heap.size) (hbA : ¬ sz ≤ b) {kk nn : Nat} (hkn : kk + 8 ≤ R.cells ∧ nn + 48 ≤ R.slots) (v5 : Int32) (u u2 : ts_Mem) (h : fL_990 xs N v5 u = some u2) (K : ∀ k2 n2 : Nat, k2 ≤ kk + 8 → n2 ≤ nn + 48 → ts_V D dT sz p l e R s m args below meth c 9 Q ad ts_lv ts_R0 1994 [some (.inl (.ref b)), some (.inr (0, 0, 0)), some (.inr (30, 0, 0)), some (.inr (50, 0, 0)), some (.inr (51, 0, 0)), some (.inl (.int v5)), none, none, none] [] u2 k2 n2) : ts_V D dT sz p l e R s m args below meth c 9 Q ad ts_lv ts_R0 990 [some (.inl (.ref b)), some (.inr (0, 0, 0)), some (.inr (30, 0, 0)), some (.inr (50, 0, 0)), some (.inr (51, 0, 0)), some (.inl (.int v5)), none, none, none] [] u kk nn := by
  unfold fL_990 at h
  refine tv_aload_n C (pc := 990) dL_law_990 rfl rfl ?_
  refine tv_aloadQ_n C (pc := 991) dL_law_991 rfl rfl ?_
  refine tv_iload C (pc := 992) dL_law_992 rfl ?_
  refine tv_iconst C (pc := 994) dL_law_994 (v := (1 : Int32)) rfl ?_
  refine tv_iadd C (pc := 995) dL_law_995 ?_
  obtain ⟨hr1, h⟩ := ts_gd h
  refine tv_sld C (pc := 996) dL_law_996 hXs hbl hbA hr1 (j := ((v5 + (1 : Int32))).toNatClampNeg) rfl ?_
  refine tv_aload_n C (pc := 997) dL_law_997 rfl rfl ?_
  obtain ⟨q2, hq2, h⟩ := ts_bd h
  refine tv_callX C (pc := 998) dL_law_998 yl_L_168 (m_L_cascade (D := D) (dT := dT) (sz := sz) (ad := ad) hl (xs ((v5 + (1 : Int32))).toNatClampNeg) u q2 hq2) (Nat.le_trans (Nat.le_of_ble_eq_true rfl) hdd) (As := [.inr (0, 0, 0), .inl (.int (xs ((v5 + (1 : Int32))).toNatClampNeg)), .inr (50, 0, 0)]) rfl ⟨by omega, by omega⟩ (fun _ => Nat.le_of_ble_eq_true rfl) rfl ?_
  refine tv_istore C (pc := 1001) dL_law_1001 (L' := [some (.inl (.ref b)), some (.inr (0, 0, 0)), some (.inr (30, 0, 0)), some (.inr (50, 0, 0)), some (.inr (51, 0, 0)), some (.inl (.int v5)), some (.inl (.int q2.1)), none, none]) (by decide) rfl rfl ?_
  refine tv_aload_n C (pc := 1003) dL_law_1003 rfl rfl ?_
  refine tv_aloadQ_n C (pc := 1004) dL_law_1004 rfl rfl ?_
  refine tv_iload C (pc := 1005) dL_law_1005 rfl ?_
  refine tv_iconst C (pc := 1007) dL_law_1007 (v := (1 : Int32)) rfl ?_
  refine tv_iadd C (pc := 1008) dL_law_1008 ?_
  obtain ⟨hr3, h⟩ := ts_gd h
  refine tv_sld C (pc := 1009) dL_law_1009 hXs hbl hbA hr3 (j := ((v5 + (1 : Int32))).toNatClampNeg) rfl ?_
  obtain ⟨q4, hq4, h⟩ := ts_bd h
  refine tv_callV C (pc := 1010) dL_law_1010 (ci := 7) (q := (RX7, TX7, 37)) rfl yl_L_170 (m_X7_cascade (D := D) (dT := dT) (sz := sz) (ad := ad) hl (xs ((v5 + (1 : Int32))).toNatClampNeg) q2.2 q4 hq4) (ts_live (k := 30) (by decide) (by decide) (by decide)) rfl (Nat.le_trans (Nat.le_of_ble_eq_true rfl) hdd) (As := [.inl (.int (xs ((v5 + (1 : Int32))).toNatClampNeg))]) rfl ⟨by omega, by omega⟩ (fun _ => Nat.le_of_ble_eq_true rfl) rfl ?_
  refine tv_istore C (pc := 1013) dL_law_1013 (L' := [some (.inl (.ref b)), some (.inr (0, 0, 0)), some (.inr (30, 0, 0)), some (.inr (50, 0, 0)), some (.inr (51, 0, 0)), some (.inl (.int v5)), some (.inl (.int q2.1)), some (.inl (.int q4.1)), none]) (by decide) rfl rfl ?_
  refine tv_aload_n C (pc := 1015) dL_law_1015 rfl rfl ?_
  obtain ⟨q5, hq5, h⟩ := ts_bd h
  refine tv_callV C (pc := 1016) dL_law_1016 (ci := 7) (q := (RX7, TX7, 37)) rfl yl_L_121 (m_X7_thrown (D := D) (dT := dT) (sz := sz) (ad := ad) hl  q4.2 q5 hq5) (ts_live (k := 30) (by decide) (by decide) (by decide)) rfl (Nat.le_trans (Nat.le_of_ble_eq_true rfl) hdd) (As := []) rfl ⟨by omega, by omega⟩ (fun _ => Nat.le_of_ble_eq_true rfl) rfl ?_
  refine tv_iload C (pc := 1019) dL_law_1019 rfl ?_
  refine tv_icmp_eq C (pc := 1021) 1026 dL_law_1021 (by decide) (fun hc => ?_) (fun hc => ?_)
  · have h := ts_ifp h hc
    refine tv_iload C (pc := 1026) dL_law_1026 rfl ?_
    refine tv_if_ne C (pc := 1028) 1043 dL_law_1028 (by decide) (fun hc => ?_) (fun hc => ?_)
    · have h := ts_ifn h hc
      refine tv_goto C (pc := 1043) 1994 dL_law_1043 (by decide) ?_
      refine tv_drop 6 (L' := [some (.inl (.ref b)), some (.inr (0, 0, 0)), some (.inr (30, 0, 0)), some (.inr (50, 0, 0)), some (.inr (51, 0, 0)), some (.inl (.int v5)), none, some (.inl (.int q4.1)), none]) rfl ?_
      refine tv_drop 7 (L' := [some (.inl (.ref b)), some (.inr (0, 0, 0)), some (.inr (30, 0, 0)), some (.inr (50, 0, 0)), some (.inr (51, 0, 0)), some (.inl (.int v5)), none, none, none]) rfl ?_
      cases h
      exact K _ _ (by omega) (by omega)
    · have h := ts_ifp h hc
      refine tv_aload_n C (pc := 1031) dL_law_1031 rfl rfl ?_
      refine tv_iconst C (pc := 1032) dL_law_1032 (v := (0 : Int32)) rfl ?_
      refine tv_laload C (pc := 1033) dL_law_1033 (ts_live (k := 50) (by decide) (by decide) (by decide)) rfl (by decide) (j := 0) (by decide) ?_
      refine tv_iload C (pc := 1034) dL_law_1034 rfl ?_
      refine tv_i2l C (pc := 1036) dL_law_1036 ?_
      refine tv_lcmp C (pc := 1037) dL_law_1037 ?_
      refine tv_if_eq C (pc := 1038) 1043 dL_law_1038 (by decide) (fun hc => ?_) (fun hc => ?_)
      · have h := ts_ifp h hc
        refine tv_goto C (pc := 1043) 1994 dL_law_1043 (by decide) ?_
        refine tv_drop 6 (L' := [some (.inl (.ref b)), some (.inr (0, 0, 0)), some (.inr (30, 0, 0)), some (.inr (50, 0, 0)), some (.inr (51, 0, 0)), some (.inl (.int v5)), none, some (.inl (.int q4.1)), none]) rfl ?_
        refine tv_drop 7 (L' := [some (.inl (.ref b)), some (.inr (0, 0, 0)), some (.inr (30, 0, 0)), some (.inr (50, 0, 0)), some (.inr (51, 0, 0)), some (.inl (.int v5)), none, none, none]) rfl ?_
        cases h
        exact K _ _ (by omega) (by omega)
      · have h := ts_ifn h hc
        refine tv_iconst C (pc := 1041) dL_law_1041 (v := (0 : Int32)) rfl ?_
        cases h
  · have h := ts_ifn h hc
    refine tv_iconst C (pc := 1024) dL_law_1024 (v := (0 : Int32)) rfl ?_
    cases h
set_option maxRecDepth 100000 in
set_option maxHeartbeats 4000000 in
theorem lc_1046 {D : va_G} {dT : Nat → ClassId} {sz : Nat} {p : Program} {l : Launch} {e : Env} {R : Room} {s : State} {m : MethodId} {args : Array Value} {below : List Frame} {meth : Method} {c : Code} {d : Nat} {ad : ts_I → Nat} {Q : State → Prop} (hl : l.stackTraces = false) (C : ts_CX D dT sz p l R s m args meth c RL cL_law 9 (some .boolean) d) (hdd : 25 ≤ d) {b N : Nat} {xs : Nat → Int32} (hXs : va_X b N xs s s.heap) (hbl : b < s.heap.size) (hbA : ¬ sz ≤ b) {kk nn : Nat} (hkn : kk + 8 ≤ R.cells ∧ nn + 48 ≤ R.slots) (v5 : Int32) (u u2 : ts_Mem) (h : fL_1046 xs N v5 u = some u2) (K : ∀ k2 n2 : Nat, k2 ≤ kk + 8 → n2 ≤ nn + 48 → ts_V D dT sz p l e R s m args below meth c 9 Q ad ts_lv ts_R0 1994 [some (.inl (.ref b)), some (.inr (0, 0, 0)), some (.inr (30, 0, 0)), some (.inr (50, 0, 0)), some (.inr (51, 0, 0)), some (.inl (.int v5)), none, none, none] [] u2 k2 n2) : ts_V D dT sz p l e R s m args below meth c 9 Q ad ts_lv ts_R0 1046 [some (.inl (.ref b)), some (.inr (0, 0, 0)), some (.inr (30, 0, 0)), some (.inr (50, 0, 0)), some (.inr (51, 0, 0)), some (.inl (.int v5)), none, none, none] [] u kk nn := by
  unfold fL_1046 at h
  refine tv_aload_n C (pc := 1046) dL_law_1046 rfl rfl ?_
  refine tv_aloadQ_n C (pc := 1047) dL_law_1047 rfl rfl ?_
  refine tv_iload C (pc := 1048) dL_law_1048 rfl ?_
  refine tv_iconst C (pc := 1050) dL_law_1050 (v := (1 : Int32)) rfl ?_
  refine tv_iadd C (pc := 1051) dL_law_1051 ?_
  obtain ⟨hr1, h⟩ := ts_gd h
  refine tv_sld C (pc := 1052) dL_law_1052 hXs hbl hbA hr1 (j := ((v5 + (1 : Int32))).toNatClampNeg) rfl ?_
  refine tv_aloadQ_n C (pc := 1053) dL_law_1053 rfl rfl ?_
  refine tv_iload C (pc := 1054) dL_law_1054 rfl ?_
  refine tv_iconst C (pc := 1056) dL_law_1056 (v := (2 : Int32)) rfl ?_
  refine tv_iadd C (pc := 1057) dL_law_1057 ?_
  obtain ⟨hr2, h⟩ := ts_gd h
  refine tv_sld C (pc := 1058) dL_law_1058 hXs hbl hbA hr2 (j := ((v5 + (2 : Int32))).toNatClampNeg) rfl ?_
  refine tv_aloadQ_n C (pc := 1059) dL_law_1059 rfl rfl ?_
  refine tv_iload C (pc := 1060) dL_law_1060 rfl ?_
  refine tv_iconst C (pc := 1062) dL_law_1062 (v := (3 : Int32)) rfl ?_
  refine tv_iadd C (pc := 1063) dL_law_1063 ?_
  obtain ⟨hr3, h⟩ := ts_gd h
  refine tv_sld C (pc := 1064) dL_law_1064 hXs hbl hbA hr3 (j := ((v5 + (3 : Int32))).toNatClampNeg) rfl ?_
  refine tv_aload_n C (pc := 1065) dL_law_1065 rfl rfl ?_
  obtain ⟨q4, hq4, h⟩ := ts_bd h
  refine tv_callX C (pc := 1066) dL_law_1066 yl_L_171 (m_L_operation (D := D) (dT := dT) (sz := sz) (ad := ad) hl (xs ((v5 + (1 : Int32))).toNatClampNeg) (xs ((v5 + (2 : Int32))).toNatClampNeg) (xs ((v5 + (3 : Int32))).toNatClampNeg) u q4 hq4) (Nat.le_trans (Nat.le_of_ble_eq_true rfl) hdd) (As := [.inr (0, 0, 0), .inl (.int (xs ((v5 + (1 : Int32))).toNatClampNeg)), .inl (.int (xs ((v5 + (2 : Int32))).toNatClampNeg)), .inl (.int (xs ((v5 + (3 : Int32))).toNatClampNeg)), .inr (50, 0, 0)]) rfl ⟨by omega, by omega⟩ (fun _ => Nat.le_of_ble_eq_true rfl) rfl ?_
  refine tv_istore C (pc := 1069) dL_law_1069 (L' := [some (.inl (.ref b)), some (.inr (0, 0, 0)), some (.inr (30, 0, 0)), some (.inr (50, 0, 0)), some (.inr (51, 0, 0)), some (.inl (.int v5)), some (.inl (.int q4.1)), none, none]) (by decide) rfl rfl ?_
  refine tv_aload_n C (pc := 1071) dL_law_1071 rfl rfl ?_
  refine tv_aloadQ_n C (pc := 1072) dL_law_1072 rfl rfl ?_
  refine tv_iload C (pc := 1073) dL_law_1073 rfl ?_
  refine tv_iconst C (pc := 1075) dL_law_1075 (v := (1 : Int32)) rfl ?_
  refine tv_iadd C (pc := 1076) dL_law_1076 ?_
  obtain ⟨hr5, h⟩ := ts_gd h
  refine tv_sld C (pc := 1077) dL_law_1077 hXs hbl hbA hr5 (j := ((v5 + (1 : Int32))).toNatClampNeg) rfl ?_
  refine tv_aloadQ_n C (pc := 1078) dL_law_1078 rfl rfl ?_
  refine tv_iload C (pc := 1079) dL_law_1079 rfl ?_
  refine tv_iconst C (pc := 1081) dL_law_1081 (v := (2 : Int32)) rfl ?_
  refine tv_iadd C (pc := 1082) dL_law_1082 ?_
  obtain ⟨hr6, h⟩ := ts_gd h
  refine tv_sld C (pc := 1083) dL_law_1083 hXs hbl hbA hr6 (j := ((v5 + (2 : Int32))).toNatClampNeg) rfl ?_
  refine tv_aloadQ_n C (pc := 1084) dL_law_1084 rfl rfl ?_
  refine tv_iload C (pc := 1085) dL_law_1085 rfl ?_
  refine tv_iconst C (pc := 1087) dL_law_1087 (v := (3 : Int32)) rfl ?_
  refine tv_iadd C (pc := 1088) dL_law_1088 ?_
  obtain ⟨hr7, h⟩ := ts_gd h
  refine tv_sld C (pc := 1089) dL_law_1089 hXs hbl hbA hr7 (j := ((v5 + (3 : Int32))).toNatClampNeg) rfl ?_
  obtain ⟨q8, hq8, h⟩ := ts_bd h
  refine tv_callV C (pc := 1090) dL_law_1090 (ci := 7) (q := (RX7, TX7, 37)) rfl yl_L_173 (m_X7_operation (D := D) (dT := dT) (sz := sz) (ad := ad) hl (xs ((v5 + (1 : Int32))).toNatClampNeg) (xs ((v5 + (2 : Int32))).toNatClampNeg) (xs ((v5 + (3 : Int32))).toNatClampNeg) q4.2 q8 hq8) (ts_live (k := 30) (by decide) (by decide) (by decide)) rfl (Nat.le_trans (Nat.le_of_ble_eq_true rfl) hdd) (As := [.inl (.int (xs ((v5 + (1 : Int32))).toNatClampNeg)), .inl (.int (xs ((v5 + (2 : Int32))).toNatClampNeg)), .inl (.int (xs ((v5 + (3 : Int32))).toNatClampNeg))]) rfl ⟨by omega, by omega⟩ (fun _ => Nat.le_of_ble_eq_true rfl) rfl ?_
  refine tv_istore C (pc := 1093) dL_law_1093 (L' := [some (.inl (.ref b)), some (.inr (0, 0, 0)), some (.inr (30, 0, 0)), some (.inr (50, 0, 0)), some (.inr (51, 0, 0)), some (.inl (.int v5)), some (.inl (.int q4.1)), some (.inl (.int q8.1)), none]) (by decide) rfl rfl ?_
  refine tv_aload_n C (pc := 1095) dL_law_1095 rfl rfl ?_
  obtain ⟨q9, hq9, h⟩ := ts_bd h
  refine tv_callV C (pc := 1096) dL_law_1096 (ci := 7) (q := (RX7, TX7, 37)) rfl yl_L_121 (m_X7_thrown (D := D) (dT := dT) (sz := sz) (ad := ad) hl  q8.2 q9 hq9) (ts_live (k := 30) (by decide) (by decide) (by decide)) rfl (Nat.le_trans (Nat.le_of_ble_eq_true rfl) hdd) (As := []) rfl ⟨by omega, by omega⟩ (fun _ => Nat.le_of_ble_eq_true rfl) rfl ?_
  refine tv_iload C (pc := 1099) dL_law_1099 rfl ?_
  refine tv_icmp_eq C (pc := 1101) 1106 dL_law_1101 (by decide) (fun hc => ?_) (fun hc => ?_)
  · have h := ts_ifp h hc
    refine tv_iload C (pc := 1106) dL_law_1106 rfl ?_
    refine tv_if_ne C (pc := 1108) 1123 dL_law_1108 (by decide) (fun hc => ?_) (fun hc => ?_)
    · have h := ts_ifn h hc
      refine tv_goto C (pc := 1123) 1994 dL_law_1123 (by decide) ?_
      refine tv_drop 6 (L' := [some (.inl (.ref b)), some (.inr (0, 0, 0)), some (.inr (30, 0, 0)), some (.inr (50, 0, 0)), some (.inr (51, 0, 0)), some (.inl (.int v5)), none, some (.inl (.int q8.1)), none]) rfl ?_
      refine tv_drop 7 (L' := [some (.inl (.ref b)), some (.inr (0, 0, 0)), some (.inr (30, 0, 0)), some (.inr (50, 0, 0)), some (.inr (51, 0, 0)), some (.inl (.int v5)), none, none, none]) rfl ?_
      cases h
      exact K _ _ (by omega) (by omega)
    · have h := ts_ifp h hc
      refine tv_aload_n C (pc := 1111) dL_law_1111 rfl rfl ?_
      refine tv_iconst C (pc := 1112) dL_law_1112 (v := (0 : Int32)) rfl ?_
      refine tv_laload C (pc := 1113) dL_law_1113 (ts_live (k := 50) (by decide) (by decide) (by decide)) rfl (by decide) (j := 0) (by decide) ?_
      refine tv_iload C (pc := 1114) dL_law_1114 rfl ?_
      refine tv_i2l C (pc := 1116) dL_law_1116 ?_
      refine tv_lcmp C (pc := 1117) dL_law_1117 ?_
      refine tv_if_eq C (pc := 1118) 1123 dL_law_1118 (by decide) (fun hc => ?_) (fun hc => ?_)
      · have h := ts_ifp h hc
        refine tv_goto C (pc := 1123) 1994 dL_law_1123 (by decide) ?_
        refine tv_drop 6 (L' := [some (.inl (.ref b)), some (.inr (0, 0, 0)), some (.inr (30, 0, 0)), some (.inr (50, 0, 0)), some (.inr (51, 0, 0)), some (.inl (.int v5)), none, some (.inl (.int q8.1)), none]) rfl ?_
        refine tv_drop 7 (L' := [some (.inl (.ref b)), some (.inr (0, 0, 0)), some (.inr (30, 0, 0)), some (.inr (50, 0, 0)), some (.inr (51, 0, 0)), some (.inl (.int v5)), none, none, none]) rfl ?_
        cases h
        exact K _ _ (by omega) (by omega)
      · have h := ts_ifn h hc
        refine tv_iconst C (pc := 1121) dL_law_1121 (v := (0 : Int32)) rfl ?_
        cases h
  · have h := ts_ifn h hc
    refine tv_iconst C (pc := 1104) dL_law_1104 (v := (0 : Int32)) rfl ?_
    cases h
set_option maxRecDepth 100000 in
set_option maxHeartbeats 4000000 in
theorem lc_1126 {D : va_G} {dT : Nat → ClassId} {sz : Nat} {p : Program} {l : Launch} {e : Env} {R : Room} {s : State} {m : MethodId} {args : Array Value} {below : List Frame} {meth : Method} {c : Code} {d : Nat} {ad : ts_I → Nat} {Q : State → Prop} (hl : l.stackTraces = false) (C : ts_CX D dT sz p l R s m args meth c RL cL_law 9 (some .boolean) d) (hdd : 25 ≤ d) {b N : Nat} {xs : Nat → Int32} (hXs : va_X b N xs s s.heap) (hbl : b < s.heap.size) (hbA : ¬ sz ≤ b) {kk nn : Nat} (hkn : kk + 8 ≤ R.cells ∧ nn + 48 ≤ R.slots) (v5 : Int32) (u u2 : ts_Mem) (h : fL_1126 xs N v5 u = some u2) (K : ∀ k2 n2 : Nat, k2 ≤ kk + 8 → n2 ≤ nn + 48 → ts_V D dT sz p l e R s m args below meth c 9 Q ad ts_lv ts_R0 1994 [some (.inl (.ref b)), some (.inr (0, 0, 0)), some (.inr (30, 0, 0)), some (.inr (50, 0, 0)), some (.inr (51, 0, 0)), some (.inl (.int v5)), none, none, none] [] u2 k2 n2) : ts_V D dT sz p l e R s m args below meth c 9 Q ad ts_lv ts_R0 1126 [some (.inl (.ref b)), some (.inr (0, 0, 0)), some (.inr (30, 0, 0)), some (.inr (50, 0, 0)), some (.inr (51, 0, 0)), some (.inl (.int v5)), none, none, none] [] u kk nn := by
  unfold fL_1126 at h
  refine tv_aload_n C (pc := 1126) dL_law_1126 rfl rfl ?_
  refine tv_aloadQ_n C (pc := 1127) dL_law_1127 rfl rfl ?_
  refine tv_iload C (pc := 1128) dL_law_1128 rfl ?_
  refine tv_iconst C (pc := 1130) dL_law_1130 (v := (1 : Int32)) rfl ?_
  refine tv_iadd C (pc := 1131) dL_law_1131 ?_
  obtain ⟨hr1, h⟩ := ts_gd h
  refine tv_sld C (pc := 1132) dL_law_1132 hXs hbl hbA hr1 (j := ((v5 + (1 : Int32))).toNatClampNeg) rfl ?_
  refine tv_aload_n C (pc := 1133) dL_law_1133 rfl rfl ?_
  obtain ⟨q2, hq2, h⟩ := ts_bd h
  refine tv_callX C (pc := 1134) dL_law_1134 yl_L_174 (m_L_versionCount (D := D) (dT := dT) (sz := sz) (ad := ad) hl (xs ((v5 + (1 : Int32))).toNatClampNeg) u q2 hq2) (Nat.le_trans (Nat.le_of_ble_eq_true rfl) hdd) (As := [.inr (0, 0, 0), .inl (.int (xs ((v5 + (1 : Int32))).toNatClampNeg)), .inr (50, 0, 0)]) rfl ⟨by omega, by omega⟩ (fun _ => Nat.le_of_ble_eq_true rfl) rfl ?_
  refine tv_istore C (pc := 1137) dL_law_1137 (L' := [some (.inl (.ref b)), some (.inr (0, 0, 0)), some (.inr (30, 0, 0)), some (.inr (50, 0, 0)), some (.inr (51, 0, 0)), some (.inl (.int v5)), some (.inl (.int q2.1)), none, none]) (by decide) rfl rfl ?_
  refine tv_aload_n C (pc := 1139) dL_law_1139 rfl rfl ?_
  refine tv_aloadQ_n C (pc := 1140) dL_law_1140 rfl rfl ?_
  refine tv_iload C (pc := 1141) dL_law_1141 rfl ?_
  refine tv_iconst C (pc := 1143) dL_law_1143 (v := (1 : Int32)) rfl ?_
  refine tv_iadd C (pc := 1144) dL_law_1144 ?_
  obtain ⟨hr3, h⟩ := ts_gd h
  refine tv_sld C (pc := 1145) dL_law_1145 hXs hbl hbA hr3 (j := ((v5 + (1 : Int32))).toNatClampNeg) rfl ?_
  obtain ⟨q4, hq4, h⟩ := ts_bd h
  refine tv_callV C (pc := 1146) dL_law_1146 (ci := 7) (q := (RX7, TX7, 37)) rfl yl_L_176 (m_X7_versionCount (D := D) (dT := dT) (sz := sz) (ad := ad) hl (xs ((v5 + (1 : Int32))).toNatClampNeg) q2.2 q4 hq4) (ts_live (k := 30) (by decide) (by decide) (by decide)) rfl (Nat.le_trans (Nat.le_of_ble_eq_true rfl) hdd) (As := [.inl (.int (xs ((v5 + (1 : Int32))).toNatClampNeg))]) rfl ⟨by omega, by omega⟩ (fun _ => Nat.le_of_ble_eq_true rfl) rfl ?_
  refine tv_istore C (pc := 1149) dL_law_1149 (L' := [some (.inl (.ref b)), some (.inr (0, 0, 0)), some (.inr (30, 0, 0)), some (.inr (50, 0, 0)), some (.inr (51, 0, 0)), some (.inl (.int v5)), some (.inl (.int q2.1)), some (.inl (.int q4.1)), none]) (by decide) rfl rfl ?_
  refine tv_aload_n C (pc := 1151) dL_law_1151 rfl rfl ?_
  obtain ⟨q5, hq5, h⟩ := ts_bd h
  refine tv_callV C (pc := 1152) dL_law_1152 (ci := 7) (q := (RX7, TX7, 37)) rfl yl_L_121 (m_X7_thrown (D := D) (dT := dT) (sz := sz) (ad := ad) hl  q4.2 q5 hq5) (ts_live (k := 30) (by decide) (by decide) (by decide)) rfl (Nat.le_trans (Nat.le_of_ble_eq_true rfl) hdd) (As := []) rfl ⟨by omega, by omega⟩ (fun _ => Nat.le_of_ble_eq_true rfl) rfl ?_
  refine tv_iload C (pc := 1155) dL_law_1155 rfl ?_
  refine tv_icmp_eq C (pc := 1157) 1162 dL_law_1157 (by decide) (fun hc => ?_) (fun hc => ?_)
  · have h := ts_ifp h hc
    refine tv_iload C (pc := 1162) dL_law_1162 rfl ?_
    refine tv_if_ne C (pc := 1164) 1179 dL_law_1164 (by decide) (fun hc => ?_) (fun hc => ?_)
    · have h := ts_ifn h hc
      refine tv_goto C (pc := 1179) 1994 dL_law_1179 (by decide) ?_
      refine tv_drop 6 (L' := [some (.inl (.ref b)), some (.inr (0, 0, 0)), some (.inr (30, 0, 0)), some (.inr (50, 0, 0)), some (.inr (51, 0, 0)), some (.inl (.int v5)), none, some (.inl (.int q4.1)), none]) rfl ?_
      refine tv_drop 7 (L' := [some (.inl (.ref b)), some (.inr (0, 0, 0)), some (.inr (30, 0, 0)), some (.inr (50, 0, 0)), some (.inr (51, 0, 0)), some (.inl (.int v5)), none, none, none]) rfl ?_
      cases h
      exact K _ _ (by omega) (by omega)
    · have h := ts_ifp h hc
      refine tv_aload_n C (pc := 1167) dL_law_1167 rfl rfl ?_
      refine tv_iconst C (pc := 1168) dL_law_1168 (v := (0 : Int32)) rfl ?_
      refine tv_laload C (pc := 1169) dL_law_1169 (ts_live (k := 50) (by decide) (by decide) (by decide)) rfl (by decide) (j := 0) (by decide) ?_
      refine tv_iload C (pc := 1170) dL_law_1170 rfl ?_
      refine tv_i2l C (pc := 1172) dL_law_1172 ?_
      refine tv_lcmp C (pc := 1173) dL_law_1173 ?_
      refine tv_if_eq C (pc := 1174) 1179 dL_law_1174 (by decide) (fun hc => ?_) (fun hc => ?_)
      · have h := ts_ifp h hc
        refine tv_goto C (pc := 1179) 1994 dL_law_1179 (by decide) ?_
        refine tv_drop 6 (L' := [some (.inl (.ref b)), some (.inr (0, 0, 0)), some (.inr (30, 0, 0)), some (.inr (50, 0, 0)), some (.inr (51, 0, 0)), some (.inl (.int v5)), none, some (.inl (.int q4.1)), none]) rfl ?_
        refine tv_drop 7 (L' := [some (.inl (.ref b)), some (.inr (0, 0, 0)), some (.inr (30, 0, 0)), some (.inr (50, 0, 0)), some (.inr (51, 0, 0)), some (.inl (.int v5)), none, none, none]) rfl ?_
        cases h
        exact K _ _ (by omega) (by omega)
      · have h := ts_ifn h hc
        refine tv_iconst C (pc := 1177) dL_law_1177 (v := (0 : Int32)) rfl ?_
        cases h
  · have h := ts_ifn h hc
    refine tv_iconst C (pc := 1160) dL_law_1160 (v := (0 : Int32)) rfl ?_
    cases h
set_option maxRecDepth 100000 in
set_option maxHeartbeats 4000000 in
theorem lc_1182 {D : va_G} {dT : Nat → ClassId} {sz : Nat} {p : Program} {l : Launch} {e : Env} {R : Room} {s : State} {m : MethodId} {args : Array Value} {below : List Frame} {meth : Method} {c : Code} {d : Nat} {ad : ts_I → Nat} {Q : State → Prop} (hl : l.stackTraces = false) (C : ts_CX D dT sz p l R s m args meth c RL cL_law 9 (some .boolean) d) (hdd : 25 ≤ d) {b N : Nat} {xs : Nat → Int32} (hXs : va_X b N xs s s.heap) (hbl : b < s.heap.size) (hbA : ¬ sz ≤ b) {kk nn : Nat} (hkn : kk + 8 ≤ R.cells ∧ nn + 48 ≤ R.slots) (v5 : Int32) (u u2 : ts_Mem) (h : fL_1182 xs N v5 u = some u2) (K : ∀ k2 n2 : Nat, k2 ≤ kk + 8 → n2 ≤ nn + 48 → ts_V D dT sz p l e R s m args below meth c 9 Q ad ts_lv ts_R0 1994 [some (.inl (.ref b)), some (.inr (0, 0, 0)), some (.inr (30, 0, 0)), some (.inr (50, 0, 0)), some (.inr (51, 0, 0)), some (.inl (.int v5)), none, none, none] [] u2 k2 n2) : ts_V D dT sz p l e R s m args below meth c 9 Q ad ts_lv ts_R0 1182 [some (.inl (.ref b)), some (.inr (0, 0, 0)), some (.inr (30, 0, 0)), some (.inr (50, 0, 0)), some (.inr (51, 0, 0)), some (.inl (.int v5)), none, none, none] [] u kk nn := by
  unfold fL_1182 at h
  refine tv_aload_n C (pc := 1182) dL_law_1182 rfl rfl ?_
  refine tv_aloadQ_n C (pc := 1183) dL_law_1183 rfl rfl ?_
  refine tv_iload C (pc := 1184) dL_law_1184 rfl ?_
  refine tv_iconst C (pc := 1186) dL_law_1186 (v := (1 : Int32)) rfl ?_
  refine tv_iadd C (pc := 1187) dL_law_1187 ?_
  obtain ⟨hr1, h⟩ := ts_gd h
  refine tv_sld C (pc := 1188) dL_law_1188 hXs hbl hbA hr1 (j := ((v5 + (1 : Int32))).toNatClampNeg) rfl ?_
  refine tv_aloadQ_n C (pc := 1189) dL_law_1189 rfl rfl ?_
  refine tv_iload C (pc := 1190) dL_law_1190 rfl ?_
  refine tv_iconst C (pc := 1192) dL_law_1192 (v := (2 : Int32)) rfl ?_
  refine tv_iadd C (pc := 1193) dL_law_1193 ?_
  obtain ⟨hr2, h⟩ := ts_gd h
  refine tv_sld C (pc := 1194) dL_law_1194 hXs hbl hbA hr2 (j := ((v5 + (2 : Int32))).toNatClampNeg) rfl ?_
  refine tv_aloadQ_n C (pc := 1195) dL_law_1195 rfl rfl ?_
  refine tv_iload C (pc := 1196) dL_law_1196 rfl ?_
  refine tv_iconst C (pc := 1198) dL_law_1198 (v := (3 : Int32)) rfl ?_
  refine tv_iadd C (pc := 1199) dL_law_1199 ?_
  obtain ⟨hr3, h⟩ := ts_gd h
  refine tv_sld C (pc := 1200) dL_law_1200 hXs hbl hbA hr3 (j := ((v5 + (3 : Int32))).toNatClampNeg) rfl ?_
  refine tv_aload_n C (pc := 1201) dL_law_1201 rfl rfl ?_
  obtain ⟨q4, hq4, h⟩ := ts_bd h
  refine tv_callX C (pc := 1202) dL_law_1202 yl_L_177 (m_L_version (D := D) (dT := dT) (sz := sz) (ad := ad) hl (xs ((v5 + (1 : Int32))).toNatClampNeg) (xs ((v5 + (2 : Int32))).toNatClampNeg) (xs ((v5 + (3 : Int32))).toNatClampNeg) u q4 hq4) (Nat.le_trans (Nat.le_of_ble_eq_true rfl) hdd) (As := [.inr (0, 0, 0), .inl (.int (xs ((v5 + (1 : Int32))).toNatClampNeg)), .inl (.int (xs ((v5 + (2 : Int32))).toNatClampNeg)), .inl (.int (xs ((v5 + (3 : Int32))).toNatClampNeg)), .inr (50, 0, 0)]) rfl ⟨by omega, by omega⟩ (fun _ => Nat.le_of_ble_eq_true rfl) rfl ?_
  refine tv_istore C (pc := 1205) dL_law_1205 (L' := [some (.inl (.ref b)), some (.inr (0, 0, 0)), some (.inr (30, 0, 0)), some (.inr (50, 0, 0)), some (.inr (51, 0, 0)), some (.inl (.int v5)), some (.inl (.int q4.1)), none, none]) (by decide) rfl rfl ?_
  refine tv_aload_n C (pc := 1207) dL_law_1207 rfl rfl ?_
  refine tv_aloadQ_n C (pc := 1208) dL_law_1208 rfl rfl ?_
  refine tv_iload C (pc := 1209) dL_law_1209 rfl ?_
  refine tv_iconst C (pc := 1211) dL_law_1211 (v := (1 : Int32)) rfl ?_
  refine tv_iadd C (pc := 1212) dL_law_1212 ?_
  obtain ⟨hr5, h⟩ := ts_gd h
  refine tv_sld C (pc := 1213) dL_law_1213 hXs hbl hbA hr5 (j := ((v5 + (1 : Int32))).toNatClampNeg) rfl ?_
  refine tv_aloadQ_n C (pc := 1214) dL_law_1214 rfl rfl ?_
  refine tv_iload C (pc := 1215) dL_law_1215 rfl ?_
  refine tv_iconst C (pc := 1217) dL_law_1217 (v := (2 : Int32)) rfl ?_
  refine tv_iadd C (pc := 1218) dL_law_1218 ?_
  obtain ⟨hr6, h⟩ := ts_gd h
  refine tv_sld C (pc := 1219) dL_law_1219 hXs hbl hbA hr6 (j := ((v5 + (2 : Int32))).toNatClampNeg) rfl ?_
  refine tv_aloadQ_n C (pc := 1220) dL_law_1220 rfl rfl ?_
  refine tv_iload C (pc := 1221) dL_law_1221 rfl ?_
  refine tv_iconst C (pc := 1223) dL_law_1223 (v := (3 : Int32)) rfl ?_
  refine tv_iadd C (pc := 1224) dL_law_1224 ?_
  obtain ⟨hr7, h⟩ := ts_gd h
  refine tv_sld C (pc := 1225) dL_law_1225 hXs hbl hbA hr7 (j := ((v5 + (3 : Int32))).toNatClampNeg) rfl ?_
  obtain ⟨q8, hq8, h⟩ := ts_bd h
  refine tv_callV C (pc := 1226) dL_law_1226 (ci := 7) (q := (RX7, TX7, 37)) rfl yl_L_179 (m_X7_version (D := D) (dT := dT) (sz := sz) (ad := ad) hl (xs ((v5 + (1 : Int32))).toNatClampNeg) (xs ((v5 + (2 : Int32))).toNatClampNeg) (xs ((v5 + (3 : Int32))).toNatClampNeg) q4.2 q8 hq8) (ts_live (k := 30) (by decide) (by decide) (by decide)) rfl (Nat.le_trans (Nat.le_of_ble_eq_true rfl) hdd) (As := [.inl (.int (xs ((v5 + (1 : Int32))).toNatClampNeg)), .inl (.int (xs ((v5 + (2 : Int32))).toNatClampNeg)), .inl (.int (xs ((v5 + (3 : Int32))).toNatClampNeg))]) rfl ⟨by omega, by omega⟩ (fun _ => Nat.le_of_ble_eq_true rfl) rfl ?_
  refine tv_istore C (pc := 1229) dL_law_1229 (L' := [some (.inl (.ref b)), some (.inr (0, 0, 0)), some (.inr (30, 0, 0)), some (.inr (50, 0, 0)), some (.inr (51, 0, 0)), some (.inl (.int v5)), some (.inl (.int q4.1)), some (.inl (.int q8.1)), none]) (by decide) rfl rfl ?_
  refine tv_aload_n C (pc := 1231) dL_law_1231 rfl rfl ?_
  obtain ⟨q9, hq9, h⟩ := ts_bd h
  refine tv_callV C (pc := 1232) dL_law_1232 (ci := 7) (q := (RX7, TX7, 37)) rfl yl_L_121 (m_X7_thrown (D := D) (dT := dT) (sz := sz) (ad := ad) hl  q8.2 q9 hq9) (ts_live (k := 30) (by decide) (by decide) (by decide)) rfl (Nat.le_trans (Nat.le_of_ble_eq_true rfl) hdd) (As := []) rfl ⟨by omega, by omega⟩ (fun _ => Nat.le_of_ble_eq_true rfl) rfl ?_
  refine tv_iload C (pc := 1235) dL_law_1235 rfl ?_
  refine tv_icmp_eq C (pc := 1237) 1242 dL_law_1237 (by decide) (fun hc => ?_) (fun hc => ?_)
  · have h := ts_ifp h hc
    refine tv_iload C (pc := 1242) dL_law_1242 rfl ?_
    refine tv_if_ne C (pc := 1244) 1259 dL_law_1244 (by decide) (fun hc => ?_) (fun hc => ?_)
    · have h := ts_ifn h hc
      refine tv_goto C (pc := 1259) 1994 dL_law_1259 (by decide) ?_
      refine tv_drop 6 (L' := [some (.inl (.ref b)), some (.inr (0, 0, 0)), some (.inr (30, 0, 0)), some (.inr (50, 0, 0)), some (.inr (51, 0, 0)), some (.inl (.int v5)), none, some (.inl (.int q8.1)), none]) rfl ?_
      refine tv_drop 7 (L' := [some (.inl (.ref b)), some (.inr (0, 0, 0)), some (.inr (30, 0, 0)), some (.inr (50, 0, 0)), some (.inr (51, 0, 0)), some (.inl (.int v5)), none, none, none]) rfl ?_
      cases h
      exact K _ _ (by omega) (by omega)
    · have h := ts_ifp h hc
      refine tv_aload_n C (pc := 1247) dL_law_1247 rfl rfl ?_
      refine tv_iconst C (pc := 1248) dL_law_1248 (v := (0 : Int32)) rfl ?_
      refine tv_laload C (pc := 1249) dL_law_1249 (ts_live (k := 50) (by decide) (by decide) (by decide)) rfl (by decide) (j := 0) (by decide) ?_
      refine tv_iload C (pc := 1250) dL_law_1250 rfl ?_
      refine tv_i2l C (pc := 1252) dL_law_1252 ?_
      refine tv_lcmp C (pc := 1253) dL_law_1253 ?_
      refine tv_if_eq C (pc := 1254) 1259 dL_law_1254 (by decide) (fun hc => ?_) (fun hc => ?_)
      · have h := ts_ifp h hc
        refine tv_goto C (pc := 1259) 1994 dL_law_1259 (by decide) ?_
        refine tv_drop 6 (L' := [some (.inl (.ref b)), some (.inr (0, 0, 0)), some (.inr (30, 0, 0)), some (.inr (50, 0, 0)), some (.inr (51, 0, 0)), some (.inl (.int v5)), none, some (.inl (.int q8.1)), none]) rfl ?_
        refine tv_drop 7 (L' := [some (.inl (.ref b)), some (.inr (0, 0, 0)), some (.inr (30, 0, 0)), some (.inr (50, 0, 0)), some (.inr (51, 0, 0)), some (.inl (.int v5)), none, none, none]) rfl ?_
        cases h
        exact K _ _ (by omega) (by omega)
      · have h := ts_ifn h hc
        refine tv_iconst C (pc := 1257) dL_law_1257 (v := (0 : Int32)) rfl ?_
        cases h
  · have h := ts_ifn h hc
    refine tv_iconst C (pc := 1240) dL_law_1240 (v := (0 : Int32)) rfl ?_
    cases h
set_option maxRecDepth 100000 in
set_option maxHeartbeats 4000000 in
theorem lc_1262 {D : va_G} {dT : Nat → ClassId} {sz : Nat} {p : Program} {l : Launch} {e : Env} {R : Room} {s : State} {m : MethodId} {args : Array Value} {below : List Frame} {meth : Method} {c : Code} {d : Nat} {ad : ts_I → Nat} {Q : State → Prop} (hl : l.stackTraces = false) (C : ts_CX D dT sz p l R s m args meth c RL cL_law 9 (some .boolean) d) (hdd : 25 ≤ d) {b N : Nat} {xs : Nat → Int32} (hXs : va_X b N xs s s.heap) (hbl : b < s.heap.size) (hbA : ¬ sz ≤ b) {kk nn : Nat} (hkn : kk + 8 ≤ R.cells ∧ nn + 48 ≤ R.slots) (v5 : Int32) (u u2 : ts_Mem) (h : fL_1262 xs N v5 u = some u2) (K : ∀ k2 n2 : Nat, k2 ≤ kk + 8 → n2 ≤ nn + 48 → ts_V D dT sz p l e R s m args below meth c 9 Q ad ts_lv ts_R0 1994 [some (.inl (.ref b)), some (.inr (0, 0, 0)), some (.inr (30, 0, 0)), some (.inr (50, 0, 0)), some (.inr (51, 0, 0)), some (.inl (.int v5)), none, none, none] [] u2 k2 n2) : ts_V D dT sz p l e R s m args below meth c 9 Q ad ts_lv ts_R0 1262 [some (.inl (.ref b)), some (.inr (0, 0, 0)), some (.inr (30, 0, 0)), some (.inr (50, 0, 0)), some (.inr (51, 0, 0)), some (.inl (.int v5)), none, none, none] [] u kk nn := by
  unfold fL_1262 at h
  refine tv_aload_n C (pc := 1262) dL_law_1262 rfl rfl ?_
  refine tv_aloadQ_n C (pc := 1263) dL_law_1263 rfl rfl ?_
  refine tv_iload C (pc := 1264) dL_law_1264 rfl ?_
  refine tv_iconst C (pc := 1266) dL_law_1266 (v := (1 : Int32)) rfl ?_
  refine tv_iadd C (pc := 1267) dL_law_1267 ?_
  obtain ⟨hr1, h⟩ := ts_gd h
  refine tv_sld C (pc := 1268) dL_law_1268 hXs hbl hbA hr1 (j := ((v5 + (1 : Int32))).toNatClampNeg) rfl ?_
  refine tv_aloadQ_n C (pc := 1269) dL_law_1269 rfl rfl ?_
  refine tv_iload C (pc := 1270) dL_law_1270 rfl ?_
  refine tv_iconst C (pc := 1272) dL_law_1272 (v := (2 : Int32)) rfl ?_
  refine tv_iadd C (pc := 1273) dL_law_1273 ?_
  obtain ⟨hr2, h⟩ := ts_gd h
  refine tv_sld C (pc := 1274) dL_law_1274 hXs hbl hbA hr2 (j := ((v5 + (2 : Int32))).toNatClampNeg) rfl ?_
  refine tv_aload_n C (pc := 1275) dL_law_1275 rfl rfl ?_
  obtain ⟨q3, hq3, h⟩ := ts_bd h
  refine tv_callX C (pc := 1276) dL_law_1276 yl_L_180 (m_L_valueAt (D := D) (dT := dT) (sz := sz) (ad := ad) hl (xs ((v5 + (1 : Int32))).toNatClampNeg) (xs ((v5 + (2 : Int32))).toNatClampNeg) u q3 hq3) (Nat.le_trans (Nat.le_of_ble_eq_true rfl) hdd) (As := [.inr (0, 0, 0), .inl (.int (xs ((v5 + (1 : Int32))).toNatClampNeg)), .inl (.int (xs ((v5 + (2 : Int32))).toNatClampNeg)), .inr (50, 0, 0)]) rfl ⟨by omega, by omega⟩ (fun _ => Nat.le_of_ble_eq_true rfl) rfl ?_
  refine tv_istore C (pc := 1279) dL_law_1279 (L' := [some (.inl (.ref b)), some (.inr (0, 0, 0)), some (.inr (30, 0, 0)), some (.inr (50, 0, 0)), some (.inr (51, 0, 0)), some (.inl (.int v5)), some (.inl (.int q3.1)), none, none]) (by decide) rfl rfl ?_
  refine tv_aload_n C (pc := 1281) dL_law_1281 rfl rfl ?_
  refine tv_aloadQ_n C (pc := 1282) dL_law_1282 rfl rfl ?_
  refine tv_iload C (pc := 1283) dL_law_1283 rfl ?_
  refine tv_iconst C (pc := 1285) dL_law_1285 (v := (1 : Int32)) rfl ?_
  refine tv_iadd C (pc := 1286) dL_law_1286 ?_
  obtain ⟨hr4, h⟩ := ts_gd h
  refine tv_sld C (pc := 1287) dL_law_1287 hXs hbl hbA hr4 (j := ((v5 + (1 : Int32))).toNatClampNeg) rfl ?_
  refine tv_aloadQ_n C (pc := 1288) dL_law_1288 rfl rfl ?_
  refine tv_iload C (pc := 1289) dL_law_1289 rfl ?_
  refine tv_iconst C (pc := 1291) dL_law_1291 (v := (2 : Int32)) rfl ?_
  refine tv_iadd C (pc := 1292) dL_law_1292 ?_
  obtain ⟨hr5, h⟩ := ts_gd h
  refine tv_sld C (pc := 1293) dL_law_1293 hXs hbl hbA hr5 (j := ((v5 + (2 : Int32))).toNatClampNeg) rfl ?_
  obtain ⟨q6, hq6, h⟩ := ts_bd h
  refine tv_callV C (pc := 1294) dL_law_1294 (ci := 7) (q := (RX7, TX7, 37)) rfl yl_L_182 (m_X7_valueAt (D := D) (dT := dT) (sz := sz) (ad := ad) hl (xs ((v5 + (1 : Int32))).toNatClampNeg) (xs ((v5 + (2 : Int32))).toNatClampNeg) q3.2 q6 hq6) (ts_live (k := 30) (by decide) (by decide) (by decide)) rfl (Nat.le_trans (Nat.le_of_ble_eq_true rfl) hdd) (As := [.inl (.int (xs ((v5 + (1 : Int32))).toNatClampNeg)), .inl (.int (xs ((v5 + (2 : Int32))).toNatClampNeg))]) rfl ⟨by omega, by omega⟩ (fun _ => Nat.le_of_ble_eq_true rfl) rfl ?_
  refine tv_istore C (pc := 1297) dL_law_1297 (L' := [some (.inl (.ref b)), some (.inr (0, 0, 0)), some (.inr (30, 0, 0)), some (.inr (50, 0, 0)), some (.inr (51, 0, 0)), some (.inl (.int v5)), some (.inl (.int q3.1)), some (.inl (.int q6.1)), none]) (by decide) rfl rfl ?_
  refine tv_aload_n C (pc := 1299) dL_law_1299 rfl rfl ?_
  obtain ⟨q7, hq7, h⟩ := ts_bd h
  refine tv_callV C (pc := 1300) dL_law_1300 (ci := 7) (q := (RX7, TX7, 37)) rfl yl_L_121 (m_X7_thrown (D := D) (dT := dT) (sz := sz) (ad := ad) hl  q6.2 q7 hq7) (ts_live (k := 30) (by decide) (by decide) (by decide)) rfl (Nat.le_trans (Nat.le_of_ble_eq_true rfl) hdd) (As := []) rfl ⟨by omega, by omega⟩ (fun _ => Nat.le_of_ble_eq_true rfl) rfl ?_
  refine tv_iload C (pc := 1303) dL_law_1303 rfl ?_
  refine tv_icmp_eq C (pc := 1305) 1310 dL_law_1305 (by decide) (fun hc => ?_) (fun hc => ?_)
  · have h := ts_ifp h hc
    refine tv_iload C (pc := 1310) dL_law_1310 rfl ?_
    refine tv_if_ne C (pc := 1312) 1327 dL_law_1312 (by decide) (fun hc => ?_) (fun hc => ?_)
    · have h := ts_ifn h hc
      refine tv_goto C (pc := 1327) 1994 dL_law_1327 (by decide) ?_
      refine tv_drop 6 (L' := [some (.inl (.ref b)), some (.inr (0, 0, 0)), some (.inr (30, 0, 0)), some (.inr (50, 0, 0)), some (.inr (51, 0, 0)), some (.inl (.int v5)), none, some (.inl (.int q6.1)), none]) rfl ?_
      refine tv_drop 7 (L' := [some (.inl (.ref b)), some (.inr (0, 0, 0)), some (.inr (30, 0, 0)), some (.inr (50, 0, 0)), some (.inr (51, 0, 0)), some (.inl (.int v5)), none, none, none]) rfl ?_
      cases h
      exact K _ _ (by omega) (by omega)
    · have h := ts_ifp h hc
      refine tv_aload_n C (pc := 1315) dL_law_1315 rfl rfl ?_
      refine tv_iconst C (pc := 1316) dL_law_1316 (v := (0 : Int32)) rfl ?_
      refine tv_laload C (pc := 1317) dL_law_1317 (ts_live (k := 50) (by decide) (by decide) (by decide)) rfl (by decide) (j := 0) (by decide) ?_
      refine tv_iload C (pc := 1318) dL_law_1318 rfl ?_
      refine tv_i2l C (pc := 1320) dL_law_1320 ?_
      refine tv_lcmp C (pc := 1321) dL_law_1321 ?_
      refine tv_if_eq C (pc := 1322) 1327 dL_law_1322 (by decide) (fun hc => ?_) (fun hc => ?_)
      · have h := ts_ifp h hc
        refine tv_goto C (pc := 1327) 1994 dL_law_1327 (by decide) ?_
        refine tv_drop 6 (L' := [some (.inl (.ref b)), some (.inr (0, 0, 0)), some (.inr (30, 0, 0)), some (.inr (50, 0, 0)), some (.inr (51, 0, 0)), some (.inl (.int v5)), none, some (.inl (.int q6.1)), none]) rfl ?_
        refine tv_drop 7 (L' := [some (.inl (.ref b)), some (.inr (0, 0, 0)), some (.inr (30, 0, 0)), some (.inr (50, 0, 0)), some (.inr (51, 0, 0)), some (.inl (.int v5)), none, none, none]) rfl ?_
        cases h
        exact K _ _ (by omega) (by omega)
      · have h := ts_ifn h hc
        refine tv_iconst C (pc := 1325) dL_law_1325 (v := (0 : Int32)) rfl ?_
        cases h
  · have h := ts_ifn h hc
    refine tv_iconst C (pc := 1308) dL_law_1308 (v := (0 : Int32)) rfl ?_
    cases h
set_option maxRecDepth 100000 in
set_option maxHeartbeats 4000000 in
theorem lc_1330 {D : va_G} {dT : Nat → ClassId} {sz : Nat} {p : Program} {l : Launch} {e : Env} {R : Room} {s : State} {m : MethodId} {args : Array Value} {below : List Frame} {meth : Method} {c : Code} {d : Nat} {ad : ts_I → Nat} {Q : State → Prop} (hl : l.stackTraces = false) (C : ts_CX D dT sz p l R s m args meth c RL cL_law 9 (some .boolean) d) (hdd : 25 ≤ d) {b N : Nat} {xs : Nat → Int32} (hXs : va_X b N xs s s.heap) (hbl : b < s.heap.size) (hbA : ¬ sz ≤ b) {kk nn : Nat} (hkn : kk + 8 ≤ R.cells ∧ nn + 48 ≤ R.slots) (v5 : Int32) (u u2 : ts_Mem) (h : fL_1330 xs N v5 u = some u2) (K : ∀ k2 n2 : Nat, k2 ≤ kk + 8 → n2 ≤ nn + 48 → ts_V D dT sz p l e R s m args below meth c 9 Q ad ts_lv ts_R0 1994 [some (.inl (.ref b)), some (.inr (0, 0, 0)), some (.inr (30, 0, 0)), some (.inr (50, 0, 0)), some (.inr (51, 0, 0)), some (.inl (.int v5)), none, none, none] [] u2 k2 n2) : ts_V D dT sz p l e R s m args below meth c 9 Q ad ts_lv ts_R0 1330 [some (.inl (.ref b)), some (.inr (0, 0, 0)), some (.inr (30, 0, 0)), some (.inr (50, 0, 0)), some (.inr (51, 0, 0)), some (.inl (.int v5)), none, none, none] [] u kk nn := by
  unfold fL_1330 at h
  refine tv_aload_n C (pc := 1330) dL_law_1330 rfl rfl ?_
  obtain ⟨q1, hq1, h⟩ := ts_bd h
  refine tv_callV C (pc := 1331) dL_law_1331 (ci := 6) (q := (RX6, TX6, 6)) rfl yl_L_183 (m_X6_collect (D := D) (dT := dT) (sz := sz) (ad := ad) hl  u q1 hq1) (ts_live (k := 0) (by decide) (by decide) (by decide)) rfl (Nat.le_trans (Nat.le_of_ble_eq_true rfl) hdd) (As := []) rfl ⟨by omega, by omega⟩ (fun _ => Nat.le_of_ble_eq_true rfl) rfl ?_
  refine tv_aload_n C (pc := 1334) dL_law_1334 rfl rfl ?_
  obtain ⟨q2, hq2, h⟩ := ts_bd h
  refine tv_callV C (pc := 1335) dL_law_1335 (ci := 7) (q := (RX7, TX7, 37)) rfl yl_L_186 (m_X7_collect (D := D) (dT := dT) (sz := sz) (ad := ad) hl  q1.2 q2 hq2) (ts_live (k := 30) (by decide) (by decide) (by decide)) rfl (Nat.le_trans (Nat.le_of_ble_eq_true rfl) hdd) (As := []) rfl ⟨by omega, by omega⟩ (fun _ => Nat.le_of_ble_eq_true rfl) rfl ?_
  refine tv_icmp_eq C (pc := 1338) 1994 dL_law_1338 (by decide) (fun hc => ?_) (fun hc => ?_)
  · have h := ts_ifp h hc
    cases h
    exact K _ _ (by omega) (by omega)
  · have h := ts_ifn h hc
    refine tv_iconst C (pc := 1341) dL_law_1341 (v := (0 : Int32)) rfl ?_
    cases h
set_option maxRecDepth 100000 in
set_option maxHeartbeats 4000000 in
theorem lc_1343 {D : va_G} {dT : Nat → ClassId} {sz : Nat} {p : Program} {l : Launch} {e : Env} {R : Room} {s : State} {m : MethodId} {args : Array Value} {below : List Frame} {meth : Method} {c : Code} {d : Nat} {ad : ts_I → Nat} {Q : State → Prop} (hl : l.stackTraces = false) (C : ts_CX D dT sz p l R s m args meth c RL cL_law 9 (some .boolean) d) (hdd : 25 ≤ d) {b N : Nat} {xs : Nat → Int32} (hXs : va_X b N xs s s.heap) (hbl : b < s.heap.size) (hbA : ¬ sz ≤ b) {kk nn : Nat} (hkn : kk + 8 ≤ R.cells ∧ nn + 48 ≤ R.slots) (v5 : Int32) (u u2 : ts_Mem) (h : fL_1343 xs N v5 u = some u2) (K : ∀ k2 n2 : Nat, k2 ≤ kk + 8 → n2 ≤ nn + 48 → ts_V D dT sz p l e R s m args below meth c 9 Q ad ts_lv ts_R0 1994 [some (.inl (.ref b)), some (.inr (0, 0, 0)), some (.inr (30, 0, 0)), some (.inr (50, 0, 0)), some (.inr (51, 0, 0)), some (.inl (.int v5)), none, none, none] [] u2 k2 n2) : ts_V D dT sz p l e R s m args below meth c 9 Q ad ts_lv ts_R0 1343 [some (.inl (.ref b)), some (.inr (0, 0, 0)), some (.inr (30, 0, 0)), some (.inr (50, 0, 0)), some (.inr (51, 0, 0)), some (.inl (.int v5)), none, none, none] [] u kk nn := by
  unfold fL_1343 at h
  refine tv_aload_n C (pc := 1343) dL_law_1343 rfl rfl ?_
  obtain ⟨q1, hq1, h⟩ := ts_bd h
  refine tv_callV C (pc := 1344) dL_law_1344 (ci := 6) (q := (RX6, TX6, 6)) rfl yl_L_187 (m_X6_horizon (D := D) (dT := dT) (sz := sz) (ad := ad) hl  u q1 hq1) (ts_live (k := 0) (by decide) (by decide) (by decide)) rfl (Nat.le_trans (Nat.le_of_ble_eq_true rfl) hdd) (As := []) rfl ⟨by omega, by omega⟩ (fun _ => Nat.le_of_ble_eq_true rfl) rfl ?_
  refine tv_aload_n C (pc := 1347) dL_law_1347 rfl rfl ?_
  obtain ⟨q2, hq2, h⟩ := ts_bd h
  refine tv_callV C (pc := 1348) dL_law_1348 (ci := 7) (q := (RX7, TX7, 37)) rfl yl_L_190 (m_X7_horizon (D := D) (dT := dT) (sz := sz) (ad := ad) hl  u q2 hq2) (ts_live (k := 30) (by decide) (by decide) (by decide)) rfl (Nat.le_trans (Nat.le_of_ble_eq_true rfl) hdd) (As := []) rfl ⟨by omega, by omega⟩ (fun _ => Nat.le_of_ble_eq_true rfl) rfl ?_
  refine tv_icmp_eq C (pc := 1351) 1994 dL_law_1351 (by decide) (fun hc => ?_) (fun hc => ?_)
  · have h := ts_ifp h hc
    cases h
    exact K _ _ (by omega) (by omega)
  · have h := ts_ifn h hc
    refine tv_iconst C (pc := 1354) dL_law_1354 (v := (0 : Int32)) rfl ?_
    cases h
set_option maxRecDepth 100000 in
set_option maxHeartbeats 4000000 in
theorem lc_1356 {D : va_G} {dT : Nat → ClassId} {sz : Nat} {p : Program} {l : Launch} {e : Env} {R : Room} {s : State} {m : MethodId} {args : Array Value} {below : List Frame} {meth : Method} {c : Code} {d : Nat} {ad : ts_I → Nat} {Q : State → Prop} (hl : l.stackTraces = false) (C : ts_CX D dT sz p l R s m args meth c RL cL_law 9 (some .boolean) d) (hdd : 25 ≤ d) {b N : Nat} {xs : Nat → Int32} (hXs : va_X b N xs s s.heap) (hbl : b < s.heap.size) (hbA : ¬ sz ≤ b) {kk nn : Nat} (hkn : kk + 8 ≤ R.cells ∧ nn + 48 ≤ R.slots) (v5 : Int32) (u u2 : ts_Mem) (h : fL_1356 xs N v5 u = some u2) (K : ∀ k2 n2 : Nat, k2 ≤ kk + 8 → n2 ≤ nn + 48 → ts_V D dT sz p l e R s m args below meth c 9 Q ad ts_lv ts_R0 1994 [some (.inl (.ref b)), some (.inr (0, 0, 0)), some (.inr (30, 0, 0)), some (.inr (50, 0, 0)), some (.inr (51, 0, 0)), some (.inl (.int v5)), none, none, none] [] u2 k2 n2) : ts_V D dT sz p l e R s m args below meth c 9 Q ad ts_lv ts_R0 1356 [some (.inl (.ref b)), some (.inr (0, 0, 0)), some (.inr (30, 0, 0)), some (.inr (50, 0, 0)), some (.inr (51, 0, 0)), some (.inl (.int v5)), none, none, none] [] u kk nn := by
  unfold fL_1356 at h
  refine tv_aload_n C (pc := 1356) dL_law_1356 rfl rfl ?_
  obtain ⟨q1, hq1, h⟩ := ts_bd h
  refine tv_callV C (pc := 1357) dL_law_1357 (ci := 6) (q := (RX6, TX6, 6)) rfl yl_L_191 (m_X6_check (D := D) (dT := dT) (sz := sz) (ad := ad) hl  u q1 hq1) (ts_live (k := 0) (by decide) (by decide) (by decide)) rfl (Nat.le_trans (Nat.le_of_ble_eq_true rfl) hdd) (As := []) rfl ⟨by omega, by omega⟩ (fun _ => Nat.le_of_ble_eq_true rfl) rfl ?_
  refine tv_aload_n C (pc := 1360) dL_law_1360 rfl rfl ?_
  obtain ⟨q2, hq2, h⟩ := ts_bd h
  refine tv_callV C (pc := 1361) dL_law_1361 (ci := 7) (q := (RX7, TX7, 37)) rfl yl_L_194 (m_X7_check (D := D) (dT := dT) (sz := sz) (ad := ad) hl  q1.2 q2 hq2) (ts_live (k := 30) (by decide) (by decide) (by decide)) rfl (Nat.le_trans (Nat.le_of_ble_eq_true rfl) hdd) (As := []) rfl ⟨by omega, by omega⟩ (fun _ => Nat.le_of_ble_eq_true rfl) rfl ?_
  refine tv_icmp_eq C (pc := 1364) 1994 dL_law_1364 (by decide) (fun hc => ?_) (fun hc => ?_)
  · have h := ts_ifp h hc
    cases h
    exact K _ _ (by omega) (by omega)
  · have h := ts_ifn h hc
    refine tv_iconst C (pc := 1367) dL_law_1367 (v := (0 : Int32)) rfl ?_
    cases h
set_option maxRecDepth 100000 in
set_option maxHeartbeats 4000000 in
theorem lc_1369 {D : va_G} {dT : Nat → ClassId} {sz : Nat} {p : Program} {l : Launch} {e : Env} {R : Room} {s : State} {m : MethodId} {args : Array Value} {below : List Frame} {meth : Method} {c : Code} {d : Nat} {ad : ts_I → Nat} {Q : State → Prop} (hl : l.stackTraces = false) (C : ts_CX D dT sz p l R s m args meth c RL cL_law 9 (some .boolean) d) (hdd : 25 ≤ d) {b N : Nat} {xs : Nat → Int32} (hXs : va_X b N xs s s.heap) (hbl : b < s.heap.size) (hbA : ¬ sz ≤ b) {kk nn : Nat} (hkn : kk + 8 ≤ R.cells ∧ nn + 48 ≤ R.slots) (v5 : Int32) (u u2 : ts_Mem) (h : fL_1369 xs N v5 u = some u2) (K : ∀ k2 n2 : Nat, k2 ≤ kk + 8 → n2 ≤ nn + 48 → ts_V D dT sz p l e R s m args below meth c 9 Q ad ts_lv ts_R0 1994 [some (.inl (.ref b)), some (.inr (0, 0, 0)), some (.inr (30, 0, 0)), some (.inr (50, 0, 0)), some (.inr (51, 0, 0)), some (.inl (.int v5)), none, none, none] [] u2 k2 n2) : ts_V D dT sz p l e R s m args below meth c 9 Q ad ts_lv ts_R0 1369 [some (.inl (.ref b)), some (.inr (0, 0, 0)), some (.inr (30, 0, 0)), some (.inr (50, 0, 0)), some (.inr (51, 0, 0)), some (.inl (.int v5)), none, none, none] [] u kk nn := by
  unfold fL_1369 at h
  refine tv_aload_n C (pc := 1369) dL_law_1369 rfl rfl ?_
  obtain ⟨q1, hq1, h⟩ := ts_bd h
  refine tv_callV C (pc := 1370) dL_law_1370 (ci := 6) (q := (RX6, TX6, 6)) rfl yl_L_195 (m_X6_eventCount (D := D) (dT := dT) (sz := sz) (ad := ad) hl  u q1 hq1) (ts_live (k := 0) (by decide) (by decide) (by decide)) rfl (Nat.le_trans (Nat.le_of_ble_eq_true rfl) hdd) (As := []) rfl ⟨by omega, by omega⟩ (fun _ => Nat.le_of_ble_eq_true rfl) rfl ?_
  refine tv_aload_n C (pc := 1373) dL_law_1373 rfl rfl ?_
  obtain ⟨q2, hq2, h⟩ := ts_bd h
  refine tv_callV C (pc := 1374) dL_law_1374 (ci := 7) (q := (RX7, TX7, 37)) rfl yl_L_198 (m_X7_eventCount (D := D) (dT := dT) (sz := sz) (ad := ad) hl  u q2 hq2) (ts_live (k := 30) (by decide) (by decide) (by decide)) rfl (Nat.le_trans (Nat.le_of_ble_eq_true rfl) hdd) (As := []) rfl ⟨by omega, by omega⟩ (fun _ => Nat.le_of_ble_eq_true rfl) rfl ?_
  refine tv_icmp_eq C (pc := 1377) 1994 dL_law_1377 (by decide) (fun hc => ?_) (fun hc => ?_)
  · have h := ts_ifp h hc
    cases h
    exact K _ _ (by omega) (by omega)
  · have h := ts_ifn h hc
    refine tv_iconst C (pc := 1380) dL_law_1380 (v := (0 : Int32)) rfl ?_
    cases h
set_option maxRecDepth 100000 in
set_option maxHeartbeats 4000000 in
theorem lc_1382 {D : va_G} {dT : Nat → ClassId} {sz : Nat} {p : Program} {l : Launch} {e : Env} {R : Room} {s : State} {m : MethodId} {args : Array Value} {below : List Frame} {meth : Method} {c : Code} {d : Nat} {ad : ts_I → Nat} {Q : State → Prop} (hl : l.stackTraces = false) (C : ts_CX D dT sz p l R s m args meth c RL cL_law 9 (some .boolean) d) (hdd : 25 ≤ d) {b N : Nat} {xs : Nat → Int32} (hXs : va_X b N xs s s.heap) (hbl : b < s.heap.size) (hbA : ¬ sz ≤ b) {kk nn : Nat} (hkn : kk + 8 ≤ R.cells ∧ nn + 48 ≤ R.slots) (v5 : Int32) (u u2 : ts_Mem) (h : fL_1382 xs N v5 u = some u2) (K : ∀ k2 n2 : Nat, k2 ≤ kk + 8 → n2 ≤ nn + 48 → ts_V D dT sz p l e R s m args below meth c 9 Q ad ts_lv ts_R0 1994 [some (.inl (.ref b)), some (.inr (0, 0, 0)), some (.inr (30, 0, 0)), some (.inr (50, 0, 0)), some (.inr (51, 0, 0)), some (.inl (.int v5)), none, none, none] [] u2 k2 n2) : ts_V D dT sz p l e R s m args below meth c 9 Q ad ts_lv ts_R0 1382 [some (.inl (.ref b)), some (.inr (0, 0, 0)), some (.inr (30, 0, 0)), some (.inr (50, 0, 0)), some (.inr (51, 0, 0)), some (.inl (.int v5)), none, none, none] [] u kk nn := by
  unfold fL_1382 at h
  refine tv_aload_n C (pc := 1382) dL_law_1382 rfl rfl ?_
  refine tv_aloadQ_n C (pc := 1383) dL_law_1383 rfl rfl ?_
  refine tv_iload C (pc := 1384) dL_law_1384 rfl ?_
  refine tv_iconst C (pc := 1386) dL_law_1386 (v := (1 : Int32)) rfl ?_
  refine tv_iadd C (pc := 1387) dL_law_1387 ?_
  obtain ⟨hr1, h⟩ := ts_gd h
  refine tv_sld C (pc := 1388) dL_law_1388 hXs hbl hbA hr1 (j := ((v5 + (1 : Int32))).toNatClampNeg) rfl ?_
  refine tv_aloadQ_n C (pc := 1389) dL_law_1389 rfl rfl ?_
  refine tv_iload C (pc := 1390) dL_law_1390 rfl ?_
  refine tv_iconst C (pc := 1392) dL_law_1392 (v := (2 : Int32)) rfl ?_
  refine tv_iadd C (pc := 1393) dL_law_1393 ?_
  obtain ⟨hr2, h⟩ := ts_gd h
  refine tv_sld C (pc := 1394) dL_law_1394 hXs hbl hbA hr2 (j := ((v5 + (2 : Int32))).toNatClampNeg) rfl ?_
  refine tv_aload_n C (pc := 1395) dL_law_1395 rfl rfl ?_
  obtain ⟨q3, hq3, h⟩ := ts_bd h
  refine tv_callX C (pc := 1396) dL_law_1396 yl_L_199 (m_L_event (D := D) (dT := dT) (sz := sz) (ad := ad) hl (xs ((v5 + (1 : Int32))).toNatClampNeg) (xs ((v5 + (2 : Int32))).toNatClampNeg) u q3 hq3) (Nat.le_trans (Nat.le_of_ble_eq_true rfl) hdd) (As := [.inr (0, 0, 0), .inl (.int (xs ((v5 + (1 : Int32))).toNatClampNeg)), .inl (.int (xs ((v5 + (2 : Int32))).toNatClampNeg)), .inr (50, 0, 0)]) rfl ⟨by omega, by omega⟩ (fun _ => Nat.le_of_ble_eq_true rfl) rfl ?_
  refine tv_istore C (pc := 1399) dL_law_1399 (L' := [some (.inl (.ref b)), some (.inr (0, 0, 0)), some (.inr (30, 0, 0)), some (.inr (50, 0, 0)), some (.inr (51, 0, 0)), some (.inl (.int v5)), some (.inl (.int q3.1)), none, none]) (by decide) rfl rfl ?_
  refine tv_aload_n C (pc := 1401) dL_law_1401 rfl rfl ?_
  refine tv_aloadQ_n C (pc := 1402) dL_law_1402 rfl rfl ?_
  refine tv_iload C (pc := 1403) dL_law_1403 rfl ?_
  refine tv_iconst C (pc := 1405) dL_law_1405 (v := (1 : Int32)) rfl ?_
  refine tv_iadd C (pc := 1406) dL_law_1406 ?_
  obtain ⟨hr4, h⟩ := ts_gd h
  refine tv_sld C (pc := 1407) dL_law_1407 hXs hbl hbA hr4 (j := ((v5 + (1 : Int32))).toNatClampNeg) rfl ?_
  refine tv_aloadQ_n C (pc := 1408) dL_law_1408 rfl rfl ?_
  refine tv_iload C (pc := 1409) dL_law_1409 rfl ?_
  refine tv_iconst C (pc := 1411) dL_law_1411 (v := (2 : Int32)) rfl ?_
  refine tv_iadd C (pc := 1412) dL_law_1412 ?_
  obtain ⟨hr5, h⟩ := ts_gd h
  refine tv_sld C (pc := 1413) dL_law_1413 hXs hbl hbA hr5 (j := ((v5 + (2 : Int32))).toNatClampNeg) rfl ?_
  obtain ⟨q6, hq6, h⟩ := ts_bd h
  refine tv_callV C (pc := 1414) dL_law_1414 (ci := 7) (q := (RX7, TX7, 37)) rfl yl_L_201 (m_X7_event (D := D) (dT := dT) (sz := sz) (ad := ad) hl (xs ((v5 + (1 : Int32))).toNatClampNeg) (xs ((v5 + (2 : Int32))).toNatClampNeg) q3.2 q6 hq6) (ts_live (k := 30) (by decide) (by decide) (by decide)) rfl (Nat.le_trans (Nat.le_of_ble_eq_true rfl) hdd) (As := [.inl (.int (xs ((v5 + (1 : Int32))).toNatClampNeg)), .inl (.int (xs ((v5 + (2 : Int32))).toNatClampNeg))]) rfl ⟨by omega, by omega⟩ (fun _ => Nat.le_of_ble_eq_true rfl) rfl ?_
  refine tv_istore C (pc := 1417) dL_law_1417 (L' := [some (.inl (.ref b)), some (.inr (0, 0, 0)), some (.inr (30, 0, 0)), some (.inr (50, 0, 0)), some (.inr (51, 0, 0)), some (.inl (.int v5)), some (.inl (.int q3.1)), some (.inl (.int q6.1)), none]) (by decide) rfl rfl ?_
  refine tv_aload_n C (pc := 1419) dL_law_1419 rfl rfl ?_
  obtain ⟨q7, hq7, h⟩ := ts_bd h
  refine tv_callV C (pc := 1420) dL_law_1420 (ci := 7) (q := (RX7, TX7, 37)) rfl yl_L_121 (m_X7_thrown (D := D) (dT := dT) (sz := sz) (ad := ad) hl  q6.2 q7 hq7) (ts_live (k := 30) (by decide) (by decide) (by decide)) rfl (Nat.le_trans (Nat.le_of_ble_eq_true rfl) hdd) (As := []) rfl ⟨by omega, by omega⟩ (fun _ => Nat.le_of_ble_eq_true rfl) rfl ?_
  refine tv_iload C (pc := 1423) dL_law_1423 rfl ?_
  refine tv_icmp_eq C (pc := 1425) 1430 dL_law_1425 (by decide) (fun hc => ?_) (fun hc => ?_)
  · have h := ts_ifp h hc
    refine tv_iload C (pc := 1430) dL_law_1430 rfl ?_
    refine tv_if_ne C (pc := 1432) 1447 dL_law_1432 (by decide) (fun hc => ?_) (fun hc => ?_)
    · have h := ts_ifn h hc
      refine tv_goto C (pc := 1447) 1994 dL_law_1447 (by decide) ?_
      refine tv_drop 6 (L' := [some (.inl (.ref b)), some (.inr (0, 0, 0)), some (.inr (30, 0, 0)), some (.inr (50, 0, 0)), some (.inr (51, 0, 0)), some (.inl (.int v5)), none, some (.inl (.int q6.1)), none]) rfl ?_
      refine tv_drop 7 (L' := [some (.inl (.ref b)), some (.inr (0, 0, 0)), some (.inr (30, 0, 0)), some (.inr (50, 0, 0)), some (.inr (51, 0, 0)), some (.inl (.int v5)), none, none, none]) rfl ?_
      cases h
      exact K _ _ (by omega) (by omega)
    · have h := ts_ifp h hc
      refine tv_aload_n C (pc := 1435) dL_law_1435 rfl rfl ?_
      refine tv_iconst C (pc := 1436) dL_law_1436 (v := (0 : Int32)) rfl ?_
      refine tv_laload C (pc := 1437) dL_law_1437 (ts_live (k := 50) (by decide) (by decide) (by decide)) rfl (by decide) (j := 0) (by decide) ?_
      refine tv_iload C (pc := 1438) dL_law_1438 rfl ?_
      refine tv_i2l C (pc := 1440) dL_law_1440 ?_
      refine tv_lcmp C (pc := 1441) dL_law_1441 ?_
      refine tv_if_eq C (pc := 1442) 1447 dL_law_1442 (by decide) (fun hc => ?_) (fun hc => ?_)
      · have h := ts_ifp h hc
        refine tv_goto C (pc := 1447) 1994 dL_law_1447 (by decide) ?_
        refine tv_drop 6 (L' := [some (.inl (.ref b)), some (.inr (0, 0, 0)), some (.inr (30, 0, 0)), some (.inr (50, 0, 0)), some (.inr (51, 0, 0)), some (.inl (.int v5)), none, some (.inl (.int q6.1)), none]) rfl ?_
        refine tv_drop 7 (L' := [some (.inl (.ref b)), some (.inr (0, 0, 0)), some (.inr (30, 0, 0)), some (.inr (50, 0, 0)), some (.inr (51, 0, 0)), some (.inl (.int v5)), none, none, none]) rfl ?_
        cases h
        exact K _ _ (by omega) (by omega)
      · have h := ts_ifn h hc
        refine tv_iconst C (pc := 1445) dL_law_1445 (v := (0 : Int32)) rfl ?_
        cases h
  · have h := ts_ifn h hc
    refine tv_iconst C (pc := 1428) dL_law_1428 (v := (0 : Int32)) rfl ?_
    cases h
set_option maxRecDepth 100000 in
set_option maxHeartbeats 4000000 in
theorem lc_1450 {D : va_G} {dT : Nat → ClassId} {sz : Nat} {p : Program} {l : Launch} {e : Env} {R : Room} {s : State} {m : MethodId} {args : Array Value} {below : List Frame} {meth : Method} {c : Code} {d : Nat} {ad : ts_I → Nat} {Q : State → Prop} (hl : l.stackTraces = false) (C : ts_CX D dT sz p l R s m args meth c RL cL_law 9 (some .boolean) d) (hdd : 25 ≤ d) {b N : Nat} {xs : Nat → Int32} (hXs : va_X b N xs s s.heap) (hbl : b < s.heap.size) (hbA : ¬ sz ≤ b) {kk nn : Nat} (hkn : kk + 8 ≤ R.cells ∧ nn + 48 ≤ R.slots) (v5 : Int32) (u u2 : ts_Mem) (h : fL_1450 xs N v5 u = some u2) (K : ∀ k2 n2 : Nat, k2 ≤ kk + 8 → n2 ≤ nn + 48 → ts_V D dT sz p l e R s m args below meth c 9 Q ad ts_lv ts_R0 1994 [some (.inl (.ref b)), some (.inr (0, 0, 0)), some (.inr (30, 0, 0)), some (.inr (50, 0, 0)), some (.inr (51, 0, 0)), some (.inl (.int v5)), none, none, none] [] u2 k2 n2) : ts_V D dT sz p l e R s m args below meth c 9 Q ad ts_lv ts_R0 1450 [some (.inl (.ref b)), some (.inr (0, 0, 0)), some (.inr (30, 0, 0)), some (.inr (50, 0, 0)), some (.inr (51, 0, 0)), some (.inl (.int v5)), none, none, none] [] u kk nn := by
  unfold fL_1450 at h
  refine tv_aload_n C (pc := 1450) dL_law_1450 rfl rfl ?_
  refine tv_aloadQ_n C (pc := 1451) dL_law_1451 rfl rfl ?_
  refine tv_iload C (pc := 1452) dL_law_1452 rfl ?_
  refine tv_iconst C (pc := 1454) dL_law_1454 (v := (1 : Int32)) rfl ?_
  refine tv_iadd C (pc := 1455) dL_law_1455 ?_
  obtain ⟨hr1, h⟩ := ts_gd h
  refine tv_sld C (pc := 1456) dL_law_1456 hXs hbl hbA hr1 (j := ((v5 + (1 : Int32))).toNatClampNeg) rfl ?_
  refine tv_aload_n C (pc := 1457) dL_law_1457 rfl rfl ?_
  obtain ⟨q2, hq2, h⟩ := ts_bd h
  refine tv_callX C (pc := 1458) dL_law_1458 yl_L_202 (m_L_total (D := D) (dT := dT) (sz := sz) (ad := ad) hl (xs ((v5 + (1 : Int32))).toNatClampNeg) u q2 hq2) (Nat.le_trans (Nat.le_of_ble_eq_true rfl) hdd) (As := [.inr (0, 0, 0), .inl (.int (xs ((v5 + (1 : Int32))).toNatClampNeg)), .inr (50, 0, 0)]) rfl ⟨by omega, by omega⟩ (fun _ => Nat.le_of_ble_eq_true rfl) rfl ?_
  refine tv_istore C (pc := 1461) dL_law_1461 (L' := [some (.inl (.ref b)), some (.inr (0, 0, 0)), some (.inr (30, 0, 0)), some (.inr (50, 0, 0)), some (.inr (51, 0, 0)), some (.inl (.int v5)), some (.inl (.int q2.1)), none, none]) (by decide) rfl rfl ?_
  refine tv_aload_n C (pc := 1463) dL_law_1463 rfl rfl ?_
  refine tv_aloadQ_n C (pc := 1464) dL_law_1464 rfl rfl ?_
  refine tv_iload C (pc := 1465) dL_law_1465 rfl ?_
  refine tv_iconst C (pc := 1467) dL_law_1467 (v := (1 : Int32)) rfl ?_
  refine tv_iadd C (pc := 1468) dL_law_1468 ?_
  obtain ⟨hr3, h⟩ := ts_gd h
  refine tv_sld C (pc := 1469) dL_law_1469 hXs hbl hbA hr3 (j := ((v5 + (1 : Int32))).toNatClampNeg) rfl ?_
  obtain ⟨q4, hq4, h⟩ := ts_bd h
  refine tv_callV C (pc := 1470) dL_law_1470 (ci := 7) (q := (RX7, TX7, 37)) rfl yl_L_204 (m_X7_total (D := D) (dT := dT) (sz := sz) (ad := ad) hl (xs ((v5 + (1 : Int32))).toNatClampNeg) q2.2 q4 hq4) (ts_live (k := 30) (by decide) (by decide) (by decide)) rfl (Nat.le_trans (Nat.le_of_ble_eq_true rfl) hdd) (As := [.inl (.int (xs ((v5 + (1 : Int32))).toNatClampNeg))]) rfl ⟨by omega, by omega⟩ (fun _ => Nat.le_of_ble_eq_true rfl) rfl ?_
  refine tv_istore C (pc := 1473) dL_law_1473 (L' := [some (.inl (.ref b)), some (.inr (0, 0, 0)), some (.inr (30, 0, 0)), some (.inr (50, 0, 0)), some (.inr (51, 0, 0)), some (.inl (.int v5)), some (.inl (.int q2.1)), some (.inl (.int q4.1)), none]) (by decide) rfl rfl ?_
  refine tv_aload_n C (pc := 1475) dL_law_1475 rfl rfl ?_
  obtain ⟨q5, hq5, h⟩ := ts_bd h
  refine tv_callV C (pc := 1476) dL_law_1476 (ci := 7) (q := (RX7, TX7, 37)) rfl yl_L_121 (m_X7_thrown (D := D) (dT := dT) (sz := sz) (ad := ad) hl  q4.2 q5 hq5) (ts_live (k := 30) (by decide) (by decide) (by decide)) rfl (Nat.le_trans (Nat.le_of_ble_eq_true rfl) hdd) (As := []) rfl ⟨by omega, by omega⟩ (fun _ => Nat.le_of_ble_eq_true rfl) rfl ?_
  refine tv_iload C (pc := 1479) dL_law_1479 rfl ?_
  refine tv_icmp_eq C (pc := 1481) 1486 dL_law_1481 (by decide) (fun hc => ?_) (fun hc => ?_)
  · have h := ts_ifp h hc
    refine tv_iload C (pc := 1486) dL_law_1486 rfl ?_
    refine tv_if_ne C (pc := 1488) 1503 dL_law_1488 (by decide) (fun hc => ?_) (fun hc => ?_)
    · have h := ts_ifn h hc
      refine tv_goto C (pc := 1503) 1994 dL_law_1503 (by decide) ?_
      refine tv_drop 6 (L' := [some (.inl (.ref b)), some (.inr (0, 0, 0)), some (.inr (30, 0, 0)), some (.inr (50, 0, 0)), some (.inr (51, 0, 0)), some (.inl (.int v5)), none, some (.inl (.int q4.1)), none]) rfl ?_
      refine tv_drop 7 (L' := [some (.inl (.ref b)), some (.inr (0, 0, 0)), some (.inr (30, 0, 0)), some (.inr (50, 0, 0)), some (.inr (51, 0, 0)), some (.inl (.int v5)), none, none, none]) rfl ?_
      cases h
      exact K _ _ (by omega) (by omega)
    · have h := ts_ifp h hc
      refine tv_aload_n C (pc := 1491) dL_law_1491 rfl rfl ?_
      refine tv_iconst C (pc := 1492) dL_law_1492 (v := (0 : Int32)) rfl ?_
      refine tv_laload C (pc := 1493) dL_law_1493 (ts_live (k := 50) (by decide) (by decide) (by decide)) rfl (by decide) (j := 0) (by decide) ?_
      refine tv_iload C (pc := 1494) dL_law_1494 rfl ?_
      refine tv_i2l C (pc := 1496) dL_law_1496 ?_
      refine tv_lcmp C (pc := 1497) dL_law_1497 ?_
      refine tv_if_eq C (pc := 1498) 1503 dL_law_1498 (by decide) (fun hc => ?_) (fun hc => ?_)
      · have h := ts_ifp h hc
        refine tv_goto C (pc := 1503) 1994 dL_law_1503 (by decide) ?_
        refine tv_drop 6 (L' := [some (.inl (.ref b)), some (.inr (0, 0, 0)), some (.inr (30, 0, 0)), some (.inr (50, 0, 0)), some (.inr (51, 0, 0)), some (.inl (.int v5)), none, some (.inl (.int q4.1)), none]) rfl ?_
        refine tv_drop 7 (L' := [some (.inl (.ref b)), some (.inr (0, 0, 0)), some (.inr (30, 0, 0)), some (.inr (50, 0, 0)), some (.inr (51, 0, 0)), some (.inl (.int v5)), none, none, none]) rfl ?_
        cases h
        exact K _ _ (by omega) (by omega)
      · have h := ts_ifn h hc
        refine tv_iconst C (pc := 1501) dL_law_1501 (v := (0 : Int32)) rfl ?_
        cases h
  · have h := ts_ifn h hc
    refine tv_iconst C (pc := 1484) dL_law_1484 (v := (0 : Int32)) rfl ?_
    cases h
set_option maxRecDepth 100000 in
set_option maxHeartbeats 4000000 in
theorem lc_1506 {D : va_G} {dT : Nat → ClassId} {sz : Nat} {p : Program} {l : Launch} {e : Env} {R : Room} {s : State} {m : MethodId} {args : Array Value} {below : List Frame} {meth : Method} {c : Code} {d : Nat} {ad : ts_I → Nat} {Q : State → Prop} (hl : l.stackTraces = false) (C : ts_CX D dT sz p l R s m args meth c RL cL_law 9 (some .boolean) d) (hdd : 25 ≤ d) {b N : Nat} {xs : Nat → Int32} (hXs : va_X b N xs s s.heap) (hbl : b < s.heap.size) (hbA : ¬ sz ≤ b) {kk nn : Nat} (hkn : kk + 8 ≤ R.cells ∧ nn + 48 ≤ R.slots) (v5 : Int32) (u u2 : ts_Mem) (h : fL_1506 xs N v5 u = some u2) (K : ∀ k2 n2 : Nat, k2 ≤ kk + 8 → n2 ≤ nn + 48 → ts_V D dT sz p l e R s m args below meth c 9 Q ad ts_lv ts_R0 1994 [some (.inl (.ref b)), some (.inr (0, 0, 0)), some (.inr (30, 0, 0)), some (.inr (50, 0, 0)), some (.inr (51, 0, 0)), some (.inl (.int v5)), none, none, none] [] u2 k2 n2) : ts_V D dT sz p l e R s m args below meth c 9 Q ad ts_lv ts_R0 1506 [some (.inl (.ref b)), some (.inr (0, 0, 0)), some (.inr (30, 0, 0)), some (.inr (50, 0, 0)), some (.inr (51, 0, 0)), some (.inl (.int v5)), none, none, none] [] u kk nn := by
  unfold fL_1506 at h
  refine tv_aload_n C (pc := 1506) dL_law_1506 rfl rfl ?_
  refine tv_aload C (pc := 1507) dL_law_1507 rfl ?_
  obtain ⟨q1, hq1, h⟩ := ts_bd h
  refine tv_callX C (pc := 1509) dL_law_1509 yl_L_205 (m_L_abortShare (D := D) (dT := dT) (sz := sz) (ad := ad) hl  u q1 hq1) (Nat.le_trans (Nat.le_of_ble_eq_true rfl) hdd) (As := [.inr (0, 0, 0), .inr (51, 0, 0)]) rfl ⟨by omega, by omega⟩ (fun _ => Nat.le_of_ble_eq_true rfl) rfl ?_
  refine tv_istore C (pc := 1512) dL_law_1512 (L' := [some (.inl (.ref b)), some (.inr (0, 0, 0)), some (.inr (30, 0, 0)), some (.inr (50, 0, 0)), some (.inr (51, 0, 0)), some (.inl (.int v5)), some (.inl (.int q1.1)), none, none]) (by decide) rfl rfl ?_
  refine tv_aload_n C (pc := 1514) dL_law_1514 rfl rfl ?_
  obtain ⟨q2, hq2, h⟩ := ts_bd h
  refine tv_callV C (pc := 1515) dL_law_1515 (ci := 7) (q := (RX7, TX7, 37)) rfl yl_L_208 (m_X7_abortShare (D := D) (dT := dT) (sz := sz) (ad := ad) hl  q1.2 q2 hq2) (ts_live (k := 30) (by decide) (by decide) (by decide)) rfl (Nat.le_trans (Nat.le_of_ble_eq_true rfl) hdd) (As := []) rfl ⟨by omega, by omega⟩ (fun _ => Nat.le_of_ble_eq_true rfl) rfl ?_
  refine tv_dstore C (pc := 1518) dL_law_1518 (L' := [some (.inl (.ref b)), some (.inr (0, 0, 0)), some (.inr (30, 0, 0)), some (.inr (50, 0, 0)), some (.inr (51, 0, 0)), some (.inl (.int v5)), some (.inl (.int q1.1)), some (.inl (.double q2.1)), none]) (by decide) rfl rfl ?_
  refine tv_aload_n C (pc := 1520) dL_law_1520 rfl rfl ?_
  obtain ⟨q3, hq3, h⟩ := ts_bd h
  refine tv_callV C (pc := 1521) dL_law_1521 (ci := 7) (q := (RX7, TX7, 37)) rfl yl_L_121 (m_X7_thrown (D := D) (dT := dT) (sz := sz) (ad := ad) hl  q2.2 q3 hq3) (ts_live (k := 30) (by decide) (by decide) (by decide)) rfl (Nat.le_trans (Nat.le_of_ble_eq_true rfl) hdd) (As := []) rfl ⟨by omega, by omega⟩ (fun _ => Nat.le_of_ble_eq_true rfl) rfl ?_
  refine tv_iload C (pc := 1524) dL_law_1524 rfl ?_
  refine tv_icmp_eq C (pc := 1526) 1531 dL_law_1526 (by decide) (fun hc => ?_) (fun hc => ?_)
  · have h := ts_ifp h hc
    refine tv_iload C (pc := 1531) dL_law_1531 rfl ?_
    refine tv_if_ne C (pc := 1533) 1568 dL_law_1533 (by decide) (fun hc => ?_) (fun hc => ?_)
    · have h := ts_ifn h hc
      refine tv_goto C (pc := 1568) 1994 dL_law_1568 (by decide) ?_
      refine tv_drop 6 (L' := [some (.inl (.ref b)), some (.inr (0, 0, 0)), some (.inr (30, 0, 0)), some (.inr (50, 0, 0)), some (.inr (51, 0, 0)), some (.inl (.int v5)), none, some (.inl (.double q2.1)), none]) rfl ?_
      refine tv_drop 7 (L' := [some (.inl (.ref b)), some (.inr (0, 0, 0)), some (.inr (30, 0, 0)), some (.inr (50, 0, 0)), some (.inr (51, 0, 0)), some (.inl (.int v5)), none, none, none]) rfl ?_
      cases h
      exact K _ _ (by omega) (by omega)
    · have h := ts_ifp h hc
      refine tv_aload C (pc := 1536) dL_law_1536 rfl ?_
      refine tv_iconst C (pc := 1538) dL_law_1538 (v := (0 : Int32)) rfl ?_
      refine tv_daload C (pc := 1539) dL_law_1539 (ts_live (k := 51) (by decide) (by decide) (by decide)) rfl (by decide) (j := 0) (by decide) ?_
      refine tv_dload C (pc := 1540) dL_law_1540 rfl ?_
      refine tv_dcmp C (pc := 1542) dL_law_1542 ?_
      refine tv_if_eq C (pc := 1543) 1568 dL_law_1543 (by decide) (fun hc => ?_) (fun hc => ?_)
      · have h := ts_ifp h hc
        refine tv_goto C (pc := 1568) 1994 dL_law_1568 (by decide) ?_
        refine tv_drop 6 (L' := [some (.inl (.ref b)), some (.inr (0, 0, 0)), some (.inr (30, 0, 0)), some (.inr (50, 0, 0)), some (.inr (51, 0, 0)), some (.inl (.int v5)), none, some (.inl (.double q2.1)), none]) rfl ?_
        refine tv_drop 7 (L' := [some (.inl (.ref b)), some (.inr (0, 0, 0)), some (.inr (30, 0, 0)), some (.inr (50, 0, 0)), some (.inr (51, 0, 0)), some (.inl (.int v5)), none, none, none]) rfl ?_
        cases h
        exact K _ _ (by omega) (by omega)
      · have h := ts_ifn h hc
        refine tv_aload C (pc := 1546) dL_law_1546 rfl ?_
        refine tv_iconst C (pc := 1548) dL_law_1548 (v := (0 : Int32)) rfl ?_
        refine tv_daload C (pc := 1549) dL_law_1549 (ts_live (k := 51) (by decide) (by decide) (by decide)) rfl (by decide) (j := 0) (by decide) ?_
        refine tv_aload C (pc := 1550) dL_law_1550 rfl ?_
        refine tv_iconst C (pc := 1552) dL_law_1552 (v := (0 : Int32)) rfl ?_
        refine tv_daload C (pc := 1553) dL_law_1553 (ts_live (k := 51) (by decide) (by decide) (by decide)) rfl (by decide) (j := 0) (by decide) ?_
        refine tv_dcmp C (pc := 1554) dL_law_1554 ?_
        refine tv_if_eq C (pc := 1555) 1566 dL_law_1555 (by decide) (fun hc => ?_) (fun hc => ?_)
        · have h := ts_ifp h hc
          refine tv_iconst C (pc := 1566) dL_law_1566 (v := (0 : Int32)) rfl ?_
          cases h
        · have h := ts_ifn h hc
          refine tv_dload C (pc := 1558) dL_law_1558 rfl ?_
          refine tv_dload C (pc := 1560) dL_law_1560 rfl ?_
          refine tv_dcmp C (pc := 1562) dL_law_1562 ?_
          refine tv_if_ne C (pc := 1563) 1568 dL_law_1563 (by decide) (fun hc => ?_) (fun hc => ?_)
          · have h := ts_ifn h hc
            refine tv_goto C (pc := 1568) 1994 dL_law_1568 (by decide) ?_
            refine tv_drop 6 (L' := [some (.inl (.ref b)), some (.inr (0, 0, 0)), some (.inr (30, 0, 0)), some (.inr (50, 0, 0)), some (.inr (51, 0, 0)), some (.inl (.int v5)), none, some (.inl (.double q2.1)), none]) rfl ?_
            refine tv_drop 7 (L' := [some (.inl (.ref b)), some (.inr (0, 0, 0)), some (.inr (30, 0, 0)), some (.inr (50, 0, 0)), some (.inr (51, 0, 0)), some (.inl (.int v5)), none, none, none]) rfl ?_
            cases h
            exact K _ _ (by omega) (by omega)
          · have h := ts_ifp h hc
            refine tv_iconst C (pc := 1566) dL_law_1566 (v := (0 : Int32)) rfl ?_
            cases h
  · have h := ts_ifn h hc
    refine tv_iconst C (pc := 1529) dL_law_1529 (v := (0 : Int32)) rfl ?_
    cases h
set_option maxRecDepth 100000 in
set_option maxHeartbeats 4000000 in
theorem lc_1571 {D : va_G} {dT : Nat → ClassId} {sz : Nat} {p : Program} {l : Launch} {e : Env} {R : Room} {s : State} {m : MethodId} {args : Array Value} {below : List Frame} {meth : Method} {c : Code} {d : Nat} {ad : ts_I → Nat} {Q : State → Prop} (hl : l.stackTraces = false) (C : ts_CX D dT sz p l R s m args meth c RL cL_law 9 (some .boolean) d) (hdd : 25 ≤ d) {b N : Nat} {xs : Nat → Int32} (hXs : va_X b N xs s s.heap) (hbl : b < s.heap.size) (hbA : ¬ sz ≤ b) {kk nn : Nat} (hkn : kk + 8 ≤ R.cells ∧ nn + 48 ≤ R.slots) (v5 : Int32) (u u2 : ts_Mem) (h : fL_1571 xs N v5 u = some u2) (K : ∀ k2 n2 : Nat, k2 ≤ kk + 8 → n2 ≤ nn + 48 → ts_V D dT sz p l e R s m args below meth c 9 Q ad ts_lv ts_R0 1994 [some (.inl (.ref b)), some (.inr (0, 0, 0)), some (.inr (30, 0, 0)), some (.inr (50, 0, 0)), some (.inr (51, 0, 0)), some (.inl (.int v5)), none, none, none] [] u2 k2 n2) : ts_V D dT sz p l e R s m args below meth c 9 Q ad ts_lv ts_R0 1571 [some (.inl (.ref b)), some (.inr (0, 0, 0)), some (.inr (30, 0, 0)), some (.inr (50, 0, 0)), some (.inr (51, 0, 0)), some (.inl (.int v5)), none, none, none] [] u kk nn := by
  unfold fL_1571 at h
  refine tv_aload_n C (pc := 1571) dL_law_1571 rfl rfl ?_
  refine tv_aloadQ_n C (pc := 1572) dL_law_1572 rfl rfl ?_
  refine tv_iload C (pc := 1573) dL_law_1573 rfl ?_
  refine tv_iconst C (pc := 1575) dL_law_1575 (v := (1 : Int32)) rfl ?_
  refine tv_iadd C (pc := 1576) dL_law_1576 ?_
  obtain ⟨hr1, h⟩ := ts_gd h
  refine tv_sld C (pc := 1577) dL_law_1577 hXs hbl hbA hr1 (j := ((v5 + (1 : Int32))).toNatClampNeg) rfl ?_
  refine tv_aloadQ_n C (pc := 1578) dL_law_1578 rfl rfl ?_
  refine tv_iload C (pc := 1579) dL_law_1579 rfl ?_
  refine tv_iconst C (pc := 1581) dL_law_1581 (v := (2 : Int32)) rfl ?_
  refine tv_iadd C (pc := 1582) dL_law_1582 ?_
  obtain ⟨hr2, h⟩ := ts_gd h
  refine tv_sld C (pc := 1583) dL_law_1583 hXs hbl hbA hr2 (j := ((v5 + (2 : Int32))).toNatClampNeg) rfl ?_
  refine tv_aloadQ_n C (pc := 1584) dL_law_1584 rfl rfl ?_
  refine tv_iload C (pc := 1585) dL_law_1585 rfl ?_
  refine tv_iconst C (pc := 1587) dL_law_1587 (v := (3 : Int32)) rfl ?_
  refine tv_iadd C (pc := 1588) dL_law_1588 ?_
  obtain ⟨hr3, h⟩ := ts_gd h
  refine tv_sld C (pc := 1589) dL_law_1589 hXs hbl hbA hr3 (j := ((v5 + (3 : Int32))).toNatClampNeg) rfl ?_
  obtain ⟨q4, hq4, h⟩ := ts_bd h
  refine tv_callX C (pc := 1590) dL_law_1590 yl_L_209 (m_L_allocate (D := D) (dT := dT) (sz := sz) (ad := ad) hl (xs ((v5 + (1 : Int32))).toNatClampNeg) (xs ((v5 + (2 : Int32))).toNatClampNeg) (xs ((v5 + (3 : Int32))).toNatClampNeg) u q4 hq4) (Nat.le_trans (Nat.le_of_ble_eq_true rfl) hdd) (As := [.inr (0, 0, 0), .inl (.int (xs ((v5 + (1 : Int32))).toNatClampNeg)), .inl (.int (xs ((v5 + (2 : Int32))).toNatClampNeg)), .inl (.int (xs ((v5 + (3 : Int32))).toNatClampNeg))]) rfl ⟨by omega, by omega⟩ (fun _ => Nat.le_of_ble_eq_true rfl) rfl ?_
  refine tv_istore C (pc := 1593) dL_law_1593 (L' := [some (.inl (.ref b)), some (.inr (0, 0, 0)), some (.inr (30, 0, 0)), some (.inr (50, 0, 0)), some (.inr (51, 0, 0)), some (.inl (.int v5)), some (.inl (.int q4.1)), none, none]) (by decide) rfl rfl ?_
  refine tv_aload_n C (pc := 1595) dL_law_1595 rfl rfl ?_
  refine tv_aloadQ_n C (pc := 1596) dL_law_1596 rfl rfl ?_
  refine tv_iload C (pc := 1597) dL_law_1597 rfl ?_
  refine tv_iconst C (pc := 1599) dL_law_1599 (v := (1 : Int32)) rfl ?_
  refine tv_iadd C (pc := 1600) dL_law_1600 ?_
  obtain ⟨hr5, h⟩ := ts_gd h
  refine tv_sld C (pc := 1601) dL_law_1601 hXs hbl hbA hr5 (j := ((v5 + (1 : Int32))).toNatClampNeg) rfl ?_
  refine tv_aloadQ_n C (pc := 1602) dL_law_1602 rfl rfl ?_
  refine tv_iload C (pc := 1603) dL_law_1603 rfl ?_
  refine tv_iconst C (pc := 1605) dL_law_1605 (v := (2 : Int32)) rfl ?_
  refine tv_iadd C (pc := 1606) dL_law_1606 ?_
  obtain ⟨hr6, h⟩ := ts_gd h
  refine tv_sld C (pc := 1607) dL_law_1607 hXs hbl hbA hr6 (j := ((v5 + (2 : Int32))).toNatClampNeg) rfl ?_
  refine tv_aloadQ_n C (pc := 1608) dL_law_1608 rfl rfl ?_
  refine tv_iload C (pc := 1609) dL_law_1609 rfl ?_
  refine tv_iconst C (pc := 1611) dL_law_1611 (v := (3 : Int32)) rfl ?_
  refine tv_iadd C (pc := 1612) dL_law_1612 ?_
  obtain ⟨hr7, h⟩ := ts_gd h
  refine tv_sld C (pc := 1613) dL_law_1613 hXs hbl hbA hr7 (j := ((v5 + (3 : Int32))).toNatClampNeg) rfl ?_
  obtain ⟨q8, hq8, h⟩ := ts_bd h
  refine tv_callV C (pc := 1614) dL_law_1614 (ci := 7) (q := (RX7, TX7, 37)) rfl yl_L_212 (m_X7_allocate (D := D) (dT := dT) (sz := sz) (ad := ad) hl (xs ((v5 + (1 : Int32))).toNatClampNeg) (xs ((v5 + (2 : Int32))).toNatClampNeg) (xs ((v5 + (3 : Int32))).toNatClampNeg) q4.2 q8 hq8) (ts_live (k := 30) (by decide) (by decide) (by decide)) rfl (Nat.le_trans (Nat.le_of_ble_eq_true rfl) hdd) (As := [.inl (.int (xs ((v5 + (1 : Int32))).toNatClampNeg)), .inl (.int (xs ((v5 + (2 : Int32))).toNatClampNeg)), .inl (.int (xs ((v5 + (3 : Int32))).toNatClampNeg))]) rfl ⟨by omega, by omega⟩ (fun _ => Nat.le_of_ble_eq_true rfl) rfl ?_
  refine tv_aload_n C (pc := 1617) dL_law_1617 rfl rfl ?_
  obtain ⟨q9, hq9, h⟩ := ts_bd h
  refine tv_callV C (pc := 1618) dL_law_1618 (ci := 7) (q := (RX7, TX7, 37)) rfl yl_L_121 (m_X7_thrown (D := D) (dT := dT) (sz := sz) (ad := ad) hl  q8 q9 hq9) (ts_live (k := 30) (by decide) (by decide) (by decide)) rfl (Nat.le_trans (Nat.le_of_ble_eq_true rfl) hdd) (As := []) rfl ⟨by omega, by omega⟩ (fun _ => Nat.le_of_ble_eq_true rfl) rfl ?_
  refine tv_iload C (pc := 1621) dL_law_1621 rfl ?_
  refine tv_icmp_eq C (pc := 1623) 1628 dL_law_1623 (by decide) (fun hc => ?_) (fun hc => ?_)
  · have h := ts_ifp h hc
    refine tv_goto C (pc := 1628) 1994 dL_law_1628 (by decide) ?_
    refine tv_drop 6 (L' := [some (.inl (.ref b)), some (.inr (0, 0, 0)), some (.inr (30, 0, 0)), some (.inr (50, 0, 0)), some (.inr (51, 0, 0)), some (.inl (.int v5)), none, none, none]) rfl ?_
    cases h
    exact K _ _ (by omega) (by omega)
  · have h := ts_ifn h hc
    refine tv_iconst C (pc := 1626) dL_law_1626 (v := (0 : Int32)) rfl ?_
    cases h
set_option maxRecDepth 100000 in
set_option maxHeartbeats 4000000 in
theorem lc_1631 {D : va_G} {dT : Nat → ClassId} {sz : Nat} {p : Program} {l : Launch} {e : Env} {R : Room} {s : State} {m : MethodId} {args : Array Value} {below : List Frame} {meth : Method} {c : Code} {d : Nat} {ad : ts_I → Nat} {Q : State → Prop} (hl : l.stackTraces = false) (C : ts_CX D dT sz p l R s m args meth c RL cL_law 9 (some .boolean) d) (hdd : 25 ≤ d) {b N : Nat} {xs : Nat → Int32} (hXs : va_X b N xs s s.heap) (hbl : b < s.heap.size) (hbA : ¬ sz ≤ b) {kk nn : Nat} (hkn : kk + 8 ≤ R.cells ∧ nn + 48 ≤ R.slots) (v5 : Int32) (u u2 : ts_Mem) (h : fL_1631 xs N v5 u = some u2) (K : ∀ k2 n2 : Nat, k2 ≤ kk + 8 → n2 ≤ nn + 48 → ts_V D dT sz p l e R s m args below meth c 9 Q ad ts_lv ts_R0 1994 [some (.inl (.ref b)), some (.inr (0, 0, 0)), some (.inr (30, 0, 0)), some (.inr (50, 0, 0)), some (.inr (51, 0, 0)), some (.inl (.int v5)), none, none, none] [] u2 k2 n2) : ts_V D dT sz p l e R s m args below meth c 9 Q ad ts_lv ts_R0 1631 [some (.inl (.ref b)), some (.inr (0, 0, 0)), some (.inr (30, 0, 0)), some (.inr (50, 0, 0)), some (.inr (51, 0, 0)), some (.inl (.int v5)), none, none, none] [] u kk nn := by
  unfold fL_1631 at h
  refine tv_aload_n C (pc := 1631) dL_law_1631 rfl rfl ?_
  refine tv_aloadQ_n C (pc := 1632) dL_law_1632 rfl rfl ?_
  refine tv_iload C (pc := 1633) dL_law_1633 rfl ?_
  refine tv_iconst C (pc := 1635) dL_law_1635 (v := (1 : Int32)) rfl ?_
  refine tv_iadd C (pc := 1636) dL_law_1636 ?_
  obtain ⟨hr1, h⟩ := ts_gd h
  refine tv_sld C (pc := 1637) dL_law_1637 hXs hbl hbA hr1 (j := ((v5 + (1 : Int32))).toNatClampNeg) rfl ?_
  refine tv_aloadQ_n C (pc := 1638) dL_law_1638 rfl rfl ?_
  refine tv_iload C (pc := 1639) dL_law_1639 rfl ?_
  refine tv_iconst C (pc := 1641) dL_law_1641 (v := (2 : Int32)) rfl ?_
  refine tv_iadd C (pc := 1642) dL_law_1642 ?_
  obtain ⟨hr2, h⟩ := ts_gd h
  refine tv_sld C (pc := 1643) dL_law_1643 hXs hbl hbA hr2 (j := ((v5 + (2 : Int32))).toNatClampNeg) rfl ?_
  refine tv_aload_n C (pc := 1644) dL_law_1644 rfl rfl ?_
  obtain ⟨q3, hq3, h⟩ := ts_bd h
  refine tv_callX C (pc := 1645) dL_law_1645 yl_L_213 (m_L_export (D := D) (dT := dT) (sz := sz) (ad := ad) hl (xs ((v5 + (1 : Int32))).toNatClampNeg) (xs ((v5 + (2 : Int32))).toNatClampNeg) u q3 hq3) (Nat.le_trans (Nat.le_of_ble_eq_true rfl) hdd) (As := [.inr (0, 0, 0), .inl (.int (xs ((v5 + (1 : Int32))).toNatClampNeg)), .inl (.int (xs ((v5 + (2 : Int32))).toNatClampNeg)), .inr (50, 0, 0)]) rfl ⟨by omega, by omega⟩ (fun _ => Nat.le_of_ble_eq_true rfl) rfl ?_
  refine tv_istore C (pc := 1648) dL_law_1648 (L' := [some (.inl (.ref b)), some (.inr (0, 0, 0)), some (.inr (30, 0, 0)), some (.inr (50, 0, 0)), some (.inr (51, 0, 0)), some (.inl (.int v5)), some (.inl (.int q3.1)), none, none]) (by decide) rfl rfl ?_
  refine tv_aload_n C (pc := 1650) dL_law_1650 rfl rfl ?_
  refine tv_aloadQ_n C (pc := 1651) dL_law_1651 rfl rfl ?_
  refine tv_iload C (pc := 1652) dL_law_1652 rfl ?_
  refine tv_iconst C (pc := 1654) dL_law_1654 (v := (1 : Int32)) rfl ?_
  refine tv_iadd C (pc := 1655) dL_law_1655 ?_
  obtain ⟨hr4, h⟩ := ts_gd h
  refine tv_sld C (pc := 1656) dL_law_1656 hXs hbl hbA hr4 (j := ((v5 + (1 : Int32))).toNatClampNeg) rfl ?_
  refine tv_aloadQ_n C (pc := 1657) dL_law_1657 rfl rfl ?_
  refine tv_iload C (pc := 1658) dL_law_1658 rfl ?_
  refine tv_iconst C (pc := 1660) dL_law_1660 (v := (2 : Int32)) rfl ?_
  refine tv_iadd C (pc := 1661) dL_law_1661 ?_
  obtain ⟨hr5, h⟩ := ts_gd h
  refine tv_sld C (pc := 1662) dL_law_1662 hXs hbl hbA hr5 (j := ((v5 + (2 : Int32))).toNatClampNeg) rfl ?_
  obtain ⟨q6, hq6, h⟩ := ts_bd h
  refine tv_callV C (pc := 1663) dL_law_1663 (ci := 7) (q := (RX7, TX7, 37)) rfl yl_L_215 (m_X7_export (D := D) (dT := dT) (sz := sz) (ad := ad) hl (xs ((v5 + (1 : Int32))).toNatClampNeg) (xs ((v5 + (2 : Int32))).toNatClampNeg) q3.2 q6 hq6) (ts_live (k := 30) (by decide) (by decide) (by decide)) rfl (Nat.le_trans (Nat.le_of_ble_eq_true rfl) hdd) (As := [.inl (.int (xs ((v5 + (1 : Int32))).toNatClampNeg)), .inl (.int (xs ((v5 + (2 : Int32))).toNatClampNeg))]) rfl ⟨by omega, by omega⟩ (fun _ => Nat.le_of_ble_eq_true rfl) rfl ?_
  refine tv_istore C (pc := 1666) dL_law_1666 (L' := [some (.inl (.ref b)), some (.inr (0, 0, 0)), some (.inr (30, 0, 0)), some (.inr (50, 0, 0)), some (.inr (51, 0, 0)), some (.inl (.int v5)), some (.inl (.int q3.1)), some (.inl (.int q6.1)), none]) (by decide) rfl rfl ?_
  refine tv_aload_n C (pc := 1668) dL_law_1668 rfl rfl ?_
  obtain ⟨q7, hq7, h⟩ := ts_bd h
  refine tv_callV C (pc := 1669) dL_law_1669 (ci := 7) (q := (RX7, TX7, 37)) rfl yl_L_121 (m_X7_thrown (D := D) (dT := dT) (sz := sz) (ad := ad) hl  q6.2 q7 hq7) (ts_live (k := 30) (by decide) (by decide) (by decide)) rfl (Nat.le_trans (Nat.le_of_ble_eq_true rfl) hdd) (As := []) rfl ⟨by omega, by omega⟩ (fun _ => Nat.le_of_ble_eq_true rfl) rfl ?_
  refine tv_iload C (pc := 1672) dL_law_1672 rfl ?_
  refine tv_icmp_eq C (pc := 1674) 1679 dL_law_1674 (by decide) (fun hc => ?_) (fun hc => ?_)
  · have h := ts_ifp h hc
    refine tv_iload C (pc := 1679) dL_law_1679 rfl ?_
    refine tv_if_ne C (pc := 1681) 1696 dL_law_1681 (by decide) (fun hc => ?_) (fun hc => ?_)
    · have h := ts_ifn h hc
      refine tv_goto C (pc := 1696) 1994 dL_law_1696 (by decide) ?_
      refine tv_drop 6 (L' := [some (.inl (.ref b)), some (.inr (0, 0, 0)), some (.inr (30, 0, 0)), some (.inr (50, 0, 0)), some (.inr (51, 0, 0)), some (.inl (.int v5)), none, some (.inl (.int q6.1)), none]) rfl ?_
      refine tv_drop 7 (L' := [some (.inl (.ref b)), some (.inr (0, 0, 0)), some (.inr (30, 0, 0)), some (.inr (50, 0, 0)), some (.inr (51, 0, 0)), some (.inl (.int v5)), none, none, none]) rfl ?_
      cases h
      exact K _ _ (by omega) (by omega)
    · have h := ts_ifp h hc
      refine tv_aload_n C (pc := 1684) dL_law_1684 rfl rfl ?_
      refine tv_iconst C (pc := 1685) dL_law_1685 (v := (0 : Int32)) rfl ?_
      refine tv_laload C (pc := 1686) dL_law_1686 (ts_live (k := 50) (by decide) (by decide) (by decide)) rfl (by decide) (j := 0) (by decide) ?_
      refine tv_iload C (pc := 1687) dL_law_1687 rfl ?_
      refine tv_i2l C (pc := 1689) dL_law_1689 ?_
      refine tv_lcmp C (pc := 1690) dL_law_1690 ?_
      refine tv_if_eq C (pc := 1691) 1696 dL_law_1691 (by decide) (fun hc => ?_) (fun hc => ?_)
      · have h := ts_ifp h hc
        refine tv_goto C (pc := 1696) 1994 dL_law_1696 (by decide) ?_
        refine tv_drop 6 (L' := [some (.inl (.ref b)), some (.inr (0, 0, 0)), some (.inr (30, 0, 0)), some (.inr (50, 0, 0)), some (.inr (51, 0, 0)), some (.inl (.int v5)), none, some (.inl (.int q6.1)), none]) rfl ?_
        refine tv_drop 7 (L' := [some (.inl (.ref b)), some (.inr (0, 0, 0)), some (.inr (30, 0, 0)), some (.inr (50, 0, 0)), some (.inr (51, 0, 0)), some (.inl (.int v5)), none, none, none]) rfl ?_
        cases h
        exact K _ _ (by omega) (by omega)
      · have h := ts_ifn h hc
        refine tv_iconst C (pc := 1694) dL_law_1694 (v := (0 : Int32)) rfl ?_
        cases h
  · have h := ts_ifn h hc
    refine tv_iconst C (pc := 1677) dL_law_1677 (v := (0 : Int32)) rfl ?_
    cases h
set_option maxRecDepth 100000 in
set_option maxHeartbeats 4000000 in
theorem lc_1699 {D : va_G} {dT : Nat → ClassId} {sz : Nat} {p : Program} {l : Launch} {e : Env} {R : Room} {s : State} {m : MethodId} {args : Array Value} {below : List Frame} {meth : Method} {c : Code} {d : Nat} {ad : ts_I → Nat} {Q : State → Prop} (hl : l.stackTraces = false) (C : ts_CX D dT sz p l R s m args meth c RL cL_law 9 (some .boolean) d) (hdd : 25 ≤ d) {b N : Nat} {xs : Nat → Int32} (hXs : va_X b N xs s s.heap) (hbl : b < s.heap.size) (hbA : ¬ sz ≤ b) {kk nn : Nat} (hkn : kk + 8 ≤ R.cells ∧ nn + 48 ≤ R.slots) (v5 : Int32) (u u2 : ts_Mem) (h : fL_1699 xs N v5 u = some u2) (K : ∀ k2 n2 : Nat, k2 ≤ kk + 8 → n2 ≤ nn + 48 → ts_V D dT sz p l e R s m args below meth c 9 Q ad ts_lv ts_R0 1994 [some (.inl (.ref b)), some (.inr (0, 0, 0)), some (.inr (30, 0, 0)), some (.inr (50, 0, 0)), some (.inr (51, 0, 0)), some (.inl (.int v5)), none, none, none] [] u2 k2 n2) : ts_V D dT sz p l e R s m args below meth c 9 Q ad ts_lv ts_R0 1699 [some (.inl (.ref b)), some (.inr (0, 0, 0)), some (.inr (30, 0, 0)), some (.inr (50, 0, 0)), some (.inr (51, 0, 0)), some (.inl (.int v5)), none, none, none] [] u kk nn := by
  unfold fL_1699 at h
  refine tv_aload_n C (pc := 1699) dL_law_1699 rfl rfl ?_
  refine tv_aloadQ_n C (pc := 1700) dL_law_1700 rfl rfl ?_
  refine tv_iload C (pc := 1701) dL_law_1701 rfl ?_
  refine tv_iconst C (pc := 1703) dL_law_1703 (v := (1 : Int32)) rfl ?_
  refine tv_iadd C (pc := 1704) dL_law_1704 ?_
  obtain ⟨hr1, h⟩ := ts_gd h
  refine tv_sld C (pc := 1705) dL_law_1705 hXs hbl hbA hr1 (j := ((v5 + (1 : Int32))).toNatClampNeg) rfl ?_
  refine tv_aloadQ_n C (pc := 1706) dL_law_1706 rfl rfl ?_
  refine tv_iload C (pc := 1707) dL_law_1707 rfl ?_
  refine tv_iconst C (pc := 1709) dL_law_1709 (v := (2 : Int32)) rfl ?_
  refine tv_iadd C (pc := 1710) dL_law_1710 ?_
  obtain ⟨hr2, h⟩ := ts_gd h
  refine tv_sld C (pc := 1711) dL_law_1711 hXs hbl hbA hr2 (j := ((v5 + (2 : Int32))).toNatClampNeg) rfl ?_
  refine tv_aloadQ_n C (pc := 1712) dL_law_1712 rfl rfl ?_
  refine tv_iload C (pc := 1713) dL_law_1713 rfl ?_
  refine tv_iconst C (pc := 1715) dL_law_1715 (v := (3 : Int32)) rfl ?_
  refine tv_iadd C (pc := 1716) dL_law_1716 ?_
  obtain ⟨hr3, h⟩ := ts_gd h
  refine tv_sld C (pc := 1717) dL_law_1717 hXs hbl hbA hr3 (j := ((v5 + (3 : Int32))).toNatClampNeg) rfl ?_
  refine tv_aload C (pc := 1718) dL_law_1718 rfl ?_
  obtain ⟨q4, hq4, h⟩ := ts_bd h
  refine tv_callX C (pc := 1720) dL_law_1720 yl_L_216 (m_L_divide (D := D) (dT := dT) (sz := sz) (ad := ad) hl (xs ((v5 + (1 : Int32))).toNatClampNeg) (xs ((v5 + (2 : Int32))).toNatClampNeg) (xs ((v5 + (3 : Int32))).toNatClampNeg) u q4 hq4) (Nat.le_trans (Nat.le_of_ble_eq_true rfl) hdd) (As := [.inr (0, 0, 0), .inl (.int (xs ((v5 + (1 : Int32))).toNatClampNeg)), .inl (.int (xs ((v5 + (2 : Int32))).toNatClampNeg)), .inl (.int (xs ((v5 + (3 : Int32))).toNatClampNeg)), .inr (51, 0, 0)]) rfl ⟨by omega, by omega⟩ (fun _ => Nat.le_of_ble_eq_true rfl) rfl ?_
  refine tv_istore C (pc := 1723) dL_law_1723 (L' := [some (.inl (.ref b)), some (.inr (0, 0, 0)), some (.inr (30, 0, 0)), some (.inr (50, 0, 0)), some (.inr (51, 0, 0)), some (.inl (.int v5)), some (.inl (.int q4.1)), none, none]) (by decide) rfl rfl ?_
  refine tv_aload_n C (pc := 1725) dL_law_1725 rfl rfl ?_
  refine tv_aloadQ_n C (pc := 1726) dL_law_1726 rfl rfl ?_
  refine tv_iload C (pc := 1727) dL_law_1727 rfl ?_
  refine tv_iconst C (pc := 1729) dL_law_1729 (v := (1 : Int32)) rfl ?_
  refine tv_iadd C (pc := 1730) dL_law_1730 ?_
  obtain ⟨hr5, h⟩ := ts_gd h
  refine tv_sld C (pc := 1731) dL_law_1731 hXs hbl hbA hr5 (j := ((v5 + (1 : Int32))).toNatClampNeg) rfl ?_
  refine tv_aloadQ_n C (pc := 1732) dL_law_1732 rfl rfl ?_
  refine tv_iload C (pc := 1733) dL_law_1733 rfl ?_
  refine tv_iconst C (pc := 1735) dL_law_1735 (v := (2 : Int32)) rfl ?_
  refine tv_iadd C (pc := 1736) dL_law_1736 ?_
  obtain ⟨hr6, h⟩ := ts_gd h
  refine tv_sld C (pc := 1737) dL_law_1737 hXs hbl hbA hr6 (j := ((v5 + (2 : Int32))).toNatClampNeg) rfl ?_
  refine tv_aloadQ_n C (pc := 1738) dL_law_1738 rfl rfl ?_
  refine tv_iload C (pc := 1739) dL_law_1739 rfl ?_
  refine tv_iconst C (pc := 1741) dL_law_1741 (v := (3 : Int32)) rfl ?_
  refine tv_iadd C (pc := 1742) dL_law_1742 ?_
  obtain ⟨hr7, h⟩ := ts_gd h
  refine tv_sld C (pc := 1743) dL_law_1743 hXs hbl hbA hr7 (j := ((v5 + (3 : Int32))).toNatClampNeg) rfl ?_
  obtain ⟨q8, hq8, h⟩ := ts_bd h
  refine tv_callV C (pc := 1744) dL_law_1744 (ci := 7) (q := (RX7, TX7, 37)) rfl yl_L_219 (m_X7_divide (D := D) (dT := dT) (sz := sz) (ad := ad) hl (xs ((v5 + (1 : Int32))).toNatClampNeg) (xs ((v5 + (2 : Int32))).toNatClampNeg) (xs ((v5 + (3 : Int32))).toNatClampNeg) q4.2 q8 hq8) (ts_live (k := 30) (by decide) (by decide) (by decide)) rfl (Nat.le_trans (Nat.le_of_ble_eq_true rfl) hdd) (As := [.inl (.int (xs ((v5 + (1 : Int32))).toNatClampNeg)), .inl (.int (xs ((v5 + (2 : Int32))).toNatClampNeg)), .inl (.int (xs ((v5 + (3 : Int32))).toNatClampNeg))]) rfl ⟨by omega, by omega⟩ (fun _ => Nat.le_of_ble_eq_true rfl) rfl ?_
  refine tv_fstore C (pc := 1747) dL_law_1747 (L' := [some (.inl (.ref b)), some (.inr (0, 0, 0)), some (.inr (30, 0, 0)), some (.inr (50, 0, 0)), some (.inr (51, 0, 0)), some (.inl (.int v5)), some (.inl (.int q4.1)), some (.inl (.float q8.1)), none]) (by decide) rfl rfl ?_
  refine tv_aload_n C (pc := 1749) dL_law_1749 rfl rfl ?_
  obtain ⟨q9, hq9, h⟩ := ts_bd h
  refine tv_callV C (pc := 1750) dL_law_1750 (ci := 7) (q := (RX7, TX7, 37)) rfl yl_L_121 (m_X7_thrown (D := D) (dT := dT) (sz := sz) (ad := ad) hl  q8.2 q9 hq9) (ts_live (k := 30) (by decide) (by decide) (by decide)) rfl (Nat.le_trans (Nat.le_of_ble_eq_true rfl) hdd) (As := []) rfl ⟨by omega, by omega⟩ (fun _ => Nat.le_of_ble_eq_true rfl) rfl ?_
  refine tv_iload C (pc := 1753) dL_law_1753 rfl ?_
  refine tv_icmp_eq C (pc := 1755) 1760 dL_law_1755 (by decide) (fun hc => ?_) (fun hc => ?_)
  · have h := ts_ifp h hc
    refine tv_iload C (pc := 1760) dL_law_1760 rfl ?_
    refine tv_if_ne C (pc := 1762) 1798 dL_law_1762 (by decide) (fun hc => ?_) (fun hc => ?_)
    · have h := ts_ifn h hc
      refine tv_goto C (pc := 1798) 1994 dL_law_1798 (by decide) ?_
      refine tv_drop 6 (L' := [some (.inl (.ref b)), some (.inr (0, 0, 0)), some (.inr (30, 0, 0)), some (.inr (50, 0, 0)), some (.inr (51, 0, 0)), some (.inl (.int v5)), none, some (.inl (.float q8.1)), none]) rfl ?_
      refine tv_drop 7 (L' := [some (.inl (.ref b)), some (.inr (0, 0, 0)), some (.inr (30, 0, 0)), some (.inr (50, 0, 0)), some (.inr (51, 0, 0)), some (.inl (.int v5)), none, none, none]) rfl ?_
      cases h
      exact K _ _ (by omega) (by omega)
    · have h := ts_ifp h hc
      refine tv_aload C (pc := 1765) dL_law_1765 rfl ?_
      refine tv_iconst C (pc := 1767) dL_law_1767 (v := (0 : Int32)) rfl ?_
      refine tv_daload C (pc := 1768) dL_law_1768 (ts_live (k := 51) (by decide) (by decide) (by decide)) rfl (by decide) (j := 0) (by decide) ?_
      refine tv_fload C (pc := 1769) dL_law_1769 rfl ?_
      obtain ⟨hg10, h⟩ := ts_gd h
      refine tv_f2d C (pc := 1771) dL_law_1771 hg10 ?_
      refine tv_dcmp C (pc := 1772) dL_law_1772 ?_
      refine tv_if_eq C (pc := 1773) 1798 dL_law_1773 (by decide) (fun hc => ?_) (fun hc => ?_)
      · have h := ts_ifp h hc
        refine tv_goto C (pc := 1798) 1994 dL_law_1798 (by decide) ?_
        refine tv_drop 6 (L' := [some (.inl (.ref b)), some (.inr (0, 0, 0)), some (.inr (30, 0, 0)), some (.inr (50, 0, 0)), some (.inr (51, 0, 0)), some (.inl (.int v5)), none, some (.inl (.float q8.1)), none]) rfl ?_
        refine tv_drop 7 (L' := [some (.inl (.ref b)), some (.inr (0, 0, 0)), some (.inr (30, 0, 0)), some (.inr (50, 0, 0)), some (.inr (51, 0, 0)), some (.inl (.int v5)), none, none, none]) rfl ?_
        cases h
        exact K _ _ (by omega) (by omega)
      · have h := ts_ifn h hc
        refine tv_aload C (pc := 1776) dL_law_1776 rfl ?_
        refine tv_iconst C (pc := 1778) dL_law_1778 (v := (0 : Int32)) rfl ?_
        refine tv_daload C (pc := 1779) dL_law_1779 (ts_live (k := 51) (by decide) (by decide) (by decide)) rfl (by decide) (j := 0) (by decide) ?_
        refine tv_aload C (pc := 1780) dL_law_1780 rfl ?_
        refine tv_iconst C (pc := 1782) dL_law_1782 (v := (0 : Int32)) rfl ?_
        refine tv_daload C (pc := 1783) dL_law_1783 (ts_live (k := 51) (by decide) (by decide) (by decide)) rfl (by decide) (j := 0) (by decide) ?_
        refine tv_dcmp C (pc := 1784) dL_law_1784 ?_
        refine tv_if_eq C (pc := 1785) 1796 dL_law_1785 (by decide) (fun hc => ?_) (fun hc => ?_)
        · have h := ts_ifp h hc
          refine tv_iconst C (pc := 1796) dL_law_1796 (v := (0 : Int32)) rfl ?_
          cases h
        · have h := ts_ifn h hc
          refine tv_fload C (pc := 1788) dL_law_1788 rfl ?_
          refine tv_fload C (pc := 1790) dL_law_1790 rfl ?_
          refine tv_fcmp C (pc := 1792) dL_law_1792 ?_
          refine tv_if_ne C (pc := 1793) 1798 dL_law_1793 (by decide) (fun hc => ?_) (fun hc => ?_)
          · have h := ts_ifn h hc
            refine tv_goto C (pc := 1798) 1994 dL_law_1798 (by decide) ?_
            refine tv_drop 6 (L' := [some (.inl (.ref b)), some (.inr (0, 0, 0)), some (.inr (30, 0, 0)), some (.inr (50, 0, 0)), some (.inr (51, 0, 0)), some (.inl (.int v5)), none, some (.inl (.float q8.1)), none]) rfl ?_
            refine tv_drop 7 (L' := [some (.inl (.ref b)), some (.inr (0, 0, 0)), some (.inr (30, 0, 0)), some (.inr (50, 0, 0)), some (.inr (51, 0, 0)), some (.inl (.int v5)), none, none, none]) rfl ?_
            cases h
            exact K _ _ (by omega) (by omega)
          · have h := ts_ifp h hc
            refine tv_iconst C (pc := 1796) dL_law_1796 (v := (0 : Int32)) rfl ?_
            cases h
  · have h := ts_ifn h hc
    refine tv_iconst C (pc := 1758) dL_law_1758 (v := (0 : Int32)) rfl ?_
    cases h
set_option maxRecDepth 100000 in
set_option maxHeartbeats 4000000 in
theorem lc_1801 {D : va_G} {dT : Nat → ClassId} {sz : Nat} {p : Program} {l : Launch} {e : Env} {R : Room} {s : State} {m : MethodId} {args : Array Value} {below : List Frame} {meth : Method} {c : Code} {d : Nat} {ad : ts_I → Nat} {Q : State → Prop} (hl : l.stackTraces = false) (C : ts_CX D dT sz p l R s m args meth c RL cL_law 9 (some .boolean) d) (hdd : 25 ≤ d) {b N : Nat} {xs : Nat → Int32} (hXs : va_X b N xs s s.heap) (hbl : b < s.heap.size) (hbA : ¬ sz ≤ b) {kk nn : Nat} (hkn : kk + 8 ≤ R.cells ∧ nn + 48 ≤ R.slots) (v5 : Int32) (u u2 : ts_Mem) (h : fL_1801 xs N v5 u = some u2) (K : ∀ k2 n2 : Nat, k2 ≤ kk + 8 → n2 ≤ nn + 48 → ts_V D dT sz p l e R s m args below meth c 9 Q ad ts_lv ts_R0 1994 [some (.inl (.ref b)), some (.inr (0, 0, 0)), some (.inr (30, 0, 0)), some (.inr (50, 0, 0)), some (.inr (51, 0, 0)), some (.inl (.int v5)), none, none, none] [] u2 k2 n2) : ts_V D dT sz p l e R s m args below meth c 9 Q ad ts_lv ts_R0 1801 [some (.inl (.ref b)), some (.inr (0, 0, 0)), some (.inr (30, 0, 0)), some (.inr (50, 0, 0)), some (.inr (51, 0, 0)), some (.inl (.int v5)), none, none, none] [] u kk nn := by
  unfold fL_1801 at h
  refine tv_aload_n C (pc := 1801) dL_law_1801 rfl rfl ?_
  refine tv_aloadQ_n C (pc := 1802) dL_law_1802 rfl rfl ?_
  refine tv_iload C (pc := 1803) dL_law_1803 rfl ?_
  refine tv_iconst C (pc := 1805) dL_law_1805 (v := (1 : Int32)) rfl ?_
  refine tv_iadd C (pc := 1806) dL_law_1806 ?_
  obtain ⟨hr1, h⟩ := ts_gd h
  refine tv_sld C (pc := 1807) dL_law_1807 hXs hbl hbA hr1 (j := ((v5 + (1 : Int32))).toNatClampNeg) rfl ?_
  refine tv_aloadQ_n C (pc := 1808) dL_law_1808 rfl rfl ?_
  refine tv_iload C (pc := 1809) dL_law_1809 rfl ?_
  refine tv_iconst C (pc := 1811) dL_law_1811 (v := (2 : Int32)) rfl ?_
  refine tv_iadd C (pc := 1812) dL_law_1812 ?_
  obtain ⟨hr2, h⟩ := ts_gd h
  refine tv_sld C (pc := 1813) dL_law_1813 hXs hbl hbA hr2 (j := ((v5 + (2 : Int32))).toNatClampNeg) rfl ?_
  refine tv_aload_n C (pc := 1814) dL_law_1814 rfl rfl ?_
  obtain ⟨q3, hq3, h⟩ := ts_bd h
  refine tv_callX C (pc := 1815) dL_law_1815 yl_L_220 (m_L_cloneRow (D := D) (dT := dT) (sz := sz) (ad := ad) hl (xs ((v5 + (1 : Int32))).toNatClampNeg) (xs ((v5 + (2 : Int32))).toNatClampNeg) u q3 hq3) (Nat.le_trans (Nat.le_of_ble_eq_true rfl) hdd) (As := [.inr (0, 0, 0), .inl (.int (xs ((v5 + (1 : Int32))).toNatClampNeg)), .inl (.int (xs ((v5 + (2 : Int32))).toNatClampNeg)), .inr (50, 0, 0)]) rfl ⟨by omega, by omega⟩ (fun _ => Nat.le_of_ble_eq_true rfl) rfl ?_
  refine tv_istore C (pc := 1818) dL_law_1818 (L' := [some (.inl (.ref b)), some (.inr (0, 0, 0)), some (.inr (30, 0, 0)), some (.inr (50, 0, 0)), some (.inr (51, 0, 0)), some (.inl (.int v5)), some (.inl (.int q3.1)), none, none]) (by decide) rfl rfl ?_
  refine tv_aload_n C (pc := 1820) dL_law_1820 rfl rfl ?_
  refine tv_aloadQ_n C (pc := 1821) dL_law_1821 rfl rfl ?_
  refine tv_iload C (pc := 1822) dL_law_1822 rfl ?_
  refine tv_iconst C (pc := 1824) dL_law_1824 (v := (1 : Int32)) rfl ?_
  refine tv_iadd C (pc := 1825) dL_law_1825 ?_
  obtain ⟨hr4, h⟩ := ts_gd h
  refine tv_sld C (pc := 1826) dL_law_1826 hXs hbl hbA hr4 (j := ((v5 + (1 : Int32))).toNatClampNeg) rfl ?_
  refine tv_aloadQ_n C (pc := 1827) dL_law_1827 rfl rfl ?_
  refine tv_iload C (pc := 1828) dL_law_1828 rfl ?_
  refine tv_iconst C (pc := 1830) dL_law_1830 (v := (2 : Int32)) rfl ?_
  refine tv_iadd C (pc := 1831) dL_law_1831 ?_
  obtain ⟨hr5, h⟩ := ts_gd h
  refine tv_sld C (pc := 1832) dL_law_1832 hXs hbl hbA hr5 (j := ((v5 + (2 : Int32))).toNatClampNeg) rfl ?_
  obtain ⟨q6, hq6, h⟩ := ts_bd h
  refine tv_callV C (pc := 1833) dL_law_1833 (ci := 7) (q := (RX7, TX7, 37)) rfl yl_L_222 (m_X7_cloneRow (D := D) (dT := dT) (sz := sz) (ad := ad) hl (xs ((v5 + (1 : Int32))).toNatClampNeg) (xs ((v5 + (2 : Int32))).toNatClampNeg) q3.2 q6 hq6) (ts_live (k := 30) (by decide) (by decide) (by decide)) rfl (Nat.le_trans (Nat.le_of_ble_eq_true rfl) hdd) (As := [.inl (.int (xs ((v5 + (1 : Int32))).toNatClampNeg)), .inl (.int (xs ((v5 + (2 : Int32))).toNatClampNeg))]) rfl ⟨by omega, by omega⟩ (fun _ => Nat.le_of_ble_eq_true rfl) rfl ?_
  refine tv_istore C (pc := 1836) dL_law_1836 (L' := [some (.inl (.ref b)), some (.inr (0, 0, 0)), some (.inr (30, 0, 0)), some (.inr (50, 0, 0)), some (.inr (51, 0, 0)), some (.inl (.int v5)), some (.inl (.int q3.1)), some (.inl (.int q6.1)), none]) (by decide) rfl rfl ?_
  refine tv_aload_n C (pc := 1838) dL_law_1838 rfl rfl ?_
  obtain ⟨q7, hq7, h⟩ := ts_bd h
  refine tv_callV C (pc := 1839) dL_law_1839 (ci := 7) (q := (RX7, TX7, 37)) rfl yl_L_121 (m_X7_thrown (D := D) (dT := dT) (sz := sz) (ad := ad) hl  q6.2 q7 hq7) (ts_live (k := 30) (by decide) (by decide) (by decide)) rfl (Nat.le_trans (Nat.le_of_ble_eq_true rfl) hdd) (As := []) rfl ⟨by omega, by omega⟩ (fun _ => Nat.le_of_ble_eq_true rfl) rfl ?_
  refine tv_iload C (pc := 1842) dL_law_1842 rfl ?_
  refine tv_icmp_eq C (pc := 1844) 1849 dL_law_1844 (by decide) (fun hc => ?_) (fun hc => ?_)
  · have h := ts_ifp h hc
    refine tv_iload C (pc := 1849) dL_law_1849 rfl ?_
    refine tv_if_ne C (pc := 1851) 1866 dL_law_1851 (by decide) (fun hc => ?_) (fun hc => ?_)
    · have h := ts_ifn h hc
      refine tv_goto C (pc := 1866) 1994 dL_law_1866 (by decide) ?_
      refine tv_drop 6 (L' := [some (.inl (.ref b)), some (.inr (0, 0, 0)), some (.inr (30, 0, 0)), some (.inr (50, 0, 0)), some (.inr (51, 0, 0)), some (.inl (.int v5)), none, some (.inl (.int q6.1)), none]) rfl ?_
      refine tv_drop 7 (L' := [some (.inl (.ref b)), some (.inr (0, 0, 0)), some (.inr (30, 0, 0)), some (.inr (50, 0, 0)), some (.inr (51, 0, 0)), some (.inl (.int v5)), none, none, none]) rfl ?_
      cases h
      exact K _ _ (by omega) (by omega)
    · have h := ts_ifp h hc
      refine tv_aload_n C (pc := 1854) dL_law_1854 rfl rfl ?_
      refine tv_iconst C (pc := 1855) dL_law_1855 (v := (0 : Int32)) rfl ?_
      refine tv_laload C (pc := 1856) dL_law_1856 (ts_live (k := 50) (by decide) (by decide) (by decide)) rfl (by decide) (j := 0) (by decide) ?_
      refine tv_iload C (pc := 1857) dL_law_1857 rfl ?_
      refine tv_i2l C (pc := 1859) dL_law_1859 ?_
      refine tv_lcmp C (pc := 1860) dL_law_1860 ?_
      refine tv_if_eq C (pc := 1861) 1866 dL_law_1861 (by decide) (fun hc => ?_) (fun hc => ?_)
      · have h := ts_ifp h hc
        refine tv_goto C (pc := 1866) 1994 dL_law_1866 (by decide) ?_
        refine tv_drop 6 (L' := [some (.inl (.ref b)), some (.inr (0, 0, 0)), some (.inr (30, 0, 0)), some (.inr (50, 0, 0)), some (.inr (51, 0, 0)), some (.inl (.int v5)), none, some (.inl (.int q6.1)), none]) rfl ?_
        refine tv_drop 7 (L' := [some (.inl (.ref b)), some (.inr (0, 0, 0)), some (.inr (30, 0, 0)), some (.inr (50, 0, 0)), some (.inr (51, 0, 0)), some (.inl (.int v5)), none, none, none]) rfl ?_
        cases h
        exact K _ _ (by omega) (by omega)
      · have h := ts_ifn h hc
        refine tv_iconst C (pc := 1864) dL_law_1864 (v := (0 : Int32)) rfl ?_
        cases h
  · have h := ts_ifn h hc
    refine tv_iconst C (pc := 1847) dL_law_1847 (v := (0 : Int32)) rfl ?_
    cases h
set_option maxRecDepth 100000 in
set_option maxHeartbeats 4000000 in
theorem lc_1869 {D : va_G} {dT : Nat → ClassId} {sz : Nat} {p : Program} {l : Launch} {e : Env} {R : Room} {s : State} {m : MethodId} {args : Array Value} {below : List Frame} {meth : Method} {c : Code} {d : Nat} {ad : ts_I → Nat} {Q : State → Prop} (hl : l.stackTraces = false) (C : ts_CX D dT sz p l R s m args meth c RL cL_law 9 (some .boolean) d) (hdd : 25 ≤ d) {b N : Nat} {xs : Nat → Int32} (hXs : va_X b N xs s s.heap) (hbl : b < s.heap.size) (hbA : ¬ sz ≤ b) {kk nn : Nat} (hkn : kk + 8 ≤ R.cells ∧ nn + 48 ≤ R.slots) (v5 : Int32) (u u2 : ts_Mem) (h : fL_1869 xs N v5 u = some u2) (K : ∀ k2 n2 : Nat, k2 ≤ kk + 8 → n2 ≤ nn + 48 → ts_V D dT sz p l e R s m args below meth c 9 Q ad ts_lv ts_R0 1994 [some (.inl (.ref b)), some (.inr (0, 0, 0)), some (.inr (30, 0, 0)), some (.inr (50, 0, 0)), some (.inr (51, 0, 0)), some (.inl (.int v5)), none, none, none] [] u2 k2 n2) : ts_V D dT sz p l e R s m args below meth c 9 Q ad ts_lv ts_R0 1869 [some (.inl (.ref b)), some (.inr (0, 0, 0)), some (.inr (30, 0, 0)), some (.inr (50, 0, 0)), some (.inr (51, 0, 0)), some (.inl (.int v5)), none, none, none] [] u kk nn := by
  unfold fL_1869 at h
  refine tv_aload_n C (pc := 1869) dL_law_1869 rfl rfl ?_
  refine tv_aloadQ_n C (pc := 1870) dL_law_1870 rfl rfl ?_
  refine tv_iload C (pc := 1871) dL_law_1871 rfl ?_
  refine tv_iconst C (pc := 1873) dL_law_1873 (v := (1 : Int32)) rfl ?_
  refine tv_iadd C (pc := 1874) dL_law_1874 ?_
  obtain ⟨hr1, h⟩ := ts_gd h
  refine tv_sld C (pc := 1875) dL_law_1875 hXs hbl hbA hr1 (j := ((v5 + (1 : Int32))).toNatClampNeg) rfl ?_
  refine tv_aloadQ_n C (pc := 1876) dL_law_1876 rfl rfl ?_
  refine tv_iload C (pc := 1877) dL_law_1877 rfl ?_
  refine tv_iconst C (pc := 1879) dL_law_1879 (v := (2 : Int32)) rfl ?_
  refine tv_iadd C (pc := 1880) dL_law_1880 ?_
  obtain ⟨hr2, h⟩ := ts_gd h
  refine tv_sld C (pc := 1881) dL_law_1881 hXs hbl hbA hr2 (j := ((v5 + (2 : Int32))).toNatClampNeg) rfl ?_
  refine tv_aload_n C (pc := 1882) dL_law_1882 rfl rfl ?_
  obtain ⟨q3, hq3, h⟩ := ts_bd h
  refine tv_callX C (pc := 1883) dL_law_1883 yl_L_223 (m_L_copyRow (D := D) (dT := dT) (sz := sz) (ad := ad) hl (xs ((v5 + (1 : Int32))).toNatClampNeg) (xs ((v5 + (2 : Int32))).toNatClampNeg) u q3 hq3) (Nat.le_trans (Nat.le_of_ble_eq_true rfl) hdd) (As := [.inr (0, 0, 0), .inl (.int (xs ((v5 + (1 : Int32))).toNatClampNeg)), .inl (.int (xs ((v5 + (2 : Int32))).toNatClampNeg)), .inr (50, 0, 0)]) rfl ⟨by omega, by omega⟩ (fun _ => Nat.le_of_ble_eq_true rfl) rfl ?_
  refine tv_istore C (pc := 1886) dL_law_1886 (L' := [some (.inl (.ref b)), some (.inr (0, 0, 0)), some (.inr (30, 0, 0)), some (.inr (50, 0, 0)), some (.inr (51, 0, 0)), some (.inl (.int v5)), some (.inl (.int q3.1)), none, none]) (by decide) rfl rfl ?_
  refine tv_aload_n C (pc := 1888) dL_law_1888 rfl rfl ?_
  refine tv_aloadQ_n C (pc := 1889) dL_law_1889 rfl rfl ?_
  refine tv_iload C (pc := 1890) dL_law_1890 rfl ?_
  refine tv_iconst C (pc := 1892) dL_law_1892 (v := (1 : Int32)) rfl ?_
  refine tv_iadd C (pc := 1893) dL_law_1893 ?_
  obtain ⟨hr4, h⟩ := ts_gd h
  refine tv_sld C (pc := 1894) dL_law_1894 hXs hbl hbA hr4 (j := ((v5 + (1 : Int32))).toNatClampNeg) rfl ?_
  refine tv_aloadQ_n C (pc := 1895) dL_law_1895 rfl rfl ?_
  refine tv_iload C (pc := 1896) dL_law_1896 rfl ?_
  refine tv_iconst C (pc := 1898) dL_law_1898 (v := (2 : Int32)) rfl ?_
  refine tv_iadd C (pc := 1899) dL_law_1899 ?_
  obtain ⟨hr5, h⟩ := ts_gd h
  refine tv_sld C (pc := 1900) dL_law_1900 hXs hbl hbA hr5 (j := ((v5 + (2 : Int32))).toNatClampNeg) rfl ?_
  obtain ⟨q6, hq6, h⟩ := ts_bd h
  refine tv_callV C (pc := 1901) dL_law_1901 (ci := 7) (q := (RX7, TX7, 37)) rfl yl_L_225 (m_X7_copyRow (D := D) (dT := dT) (sz := sz) (ad := ad) hl (xs ((v5 + (1 : Int32))).toNatClampNeg) (xs ((v5 + (2 : Int32))).toNatClampNeg) q3.2 q6 hq6) (ts_live (k := 30) (by decide) (by decide) (by decide)) rfl (Nat.le_trans (Nat.le_of_ble_eq_true rfl) hdd) (As := [.inl (.int (xs ((v5 + (1 : Int32))).toNatClampNeg)), .inl (.int (xs ((v5 + (2 : Int32))).toNatClampNeg))]) rfl ⟨by omega, by omega⟩ (fun _ => Nat.le_of_ble_eq_true rfl) rfl ?_
  refine tv_istore C (pc := 1904) dL_law_1904 (L' := [some (.inl (.ref b)), some (.inr (0, 0, 0)), some (.inr (30, 0, 0)), some (.inr (50, 0, 0)), some (.inr (51, 0, 0)), some (.inl (.int v5)), some (.inl (.int q3.1)), some (.inl (.int q6.1)), none]) (by decide) rfl rfl ?_
  refine tv_aload_n C (pc := 1906) dL_law_1906 rfl rfl ?_
  obtain ⟨q7, hq7, h⟩ := ts_bd h
  refine tv_callV C (pc := 1907) dL_law_1907 (ci := 7) (q := (RX7, TX7, 37)) rfl yl_L_121 (m_X7_thrown (D := D) (dT := dT) (sz := sz) (ad := ad) hl  q6.2 q7 hq7) (ts_live (k := 30) (by decide) (by decide) (by decide)) rfl (Nat.le_trans (Nat.le_of_ble_eq_true rfl) hdd) (As := []) rfl ⟨by omega, by omega⟩ (fun _ => Nat.le_of_ble_eq_true rfl) rfl ?_
  refine tv_iload C (pc := 1910) dL_law_1910 rfl ?_
  refine tv_icmp_eq C (pc := 1912) 1917 dL_law_1912 (by decide) (fun hc => ?_) (fun hc => ?_)
  · have h := ts_ifp h hc
    refine tv_iload C (pc := 1917) dL_law_1917 rfl ?_
    refine tv_if_ne C (pc := 1919) 1934 dL_law_1919 (by decide) (fun hc => ?_) (fun hc => ?_)
    · have h := ts_ifn h hc
      refine tv_goto C (pc := 1934) 1994 dL_law_1934 (by decide) ?_
      refine tv_drop 6 (L' := [some (.inl (.ref b)), some (.inr (0, 0, 0)), some (.inr (30, 0, 0)), some (.inr (50, 0, 0)), some (.inr (51, 0, 0)), some (.inl (.int v5)), none, some (.inl (.int q6.1)), none]) rfl ?_
      refine tv_drop 7 (L' := [some (.inl (.ref b)), some (.inr (0, 0, 0)), some (.inr (30, 0, 0)), some (.inr (50, 0, 0)), some (.inr (51, 0, 0)), some (.inl (.int v5)), none, none, none]) rfl ?_
      cases h
      exact K _ _ (by omega) (by omega)
    · have h := ts_ifp h hc
      refine tv_aload_n C (pc := 1922) dL_law_1922 rfl rfl ?_
      refine tv_iconst C (pc := 1923) dL_law_1923 (v := (0 : Int32)) rfl ?_
      refine tv_laload C (pc := 1924) dL_law_1924 (ts_live (k := 50) (by decide) (by decide) (by decide)) rfl (by decide) (j := 0) (by decide) ?_
      refine tv_iload C (pc := 1925) dL_law_1925 rfl ?_
      refine tv_i2l C (pc := 1927) dL_law_1927 ?_
      refine tv_lcmp C (pc := 1928) dL_law_1928 ?_
      refine tv_if_eq C (pc := 1929) 1934 dL_law_1929 (by decide) (fun hc => ?_) (fun hc => ?_)
      · have h := ts_ifp h hc
        refine tv_goto C (pc := 1934) 1994 dL_law_1934 (by decide) ?_
        refine tv_drop 6 (L' := [some (.inl (.ref b)), some (.inr (0, 0, 0)), some (.inr (30, 0, 0)), some (.inr (50, 0, 0)), some (.inr (51, 0, 0)), some (.inl (.int v5)), none, some (.inl (.int q6.1)), none]) rfl ?_
        refine tv_drop 7 (L' := [some (.inl (.ref b)), some (.inr (0, 0, 0)), some (.inr (30, 0, 0)), some (.inr (50, 0, 0)), some (.inr (51, 0, 0)), some (.inl (.int v5)), none, none, none]) rfl ?_
        cases h
        exact K _ _ (by omega) (by omega)
      · have h := ts_ifn h hc
        refine tv_iconst C (pc := 1932) dL_law_1932 (v := (0 : Int32)) rfl ?_
        cases h
  · have h := ts_ifn h hc
    refine tv_iconst C (pc := 1915) dL_law_1915 (v := (0 : Int32)) rfl ?_
    cases h
set_option maxRecDepth 100000 in
set_option maxHeartbeats 4000000 in
theorem lc_1937 {D : va_G} {dT : Nat → ClassId} {sz : Nat} {p : Program} {l : Launch} {e : Env} {R : Room} {s : State} {m : MethodId} {args : Array Value} {below : List Frame} {meth : Method} {c : Code} {d : Nat} {ad : ts_I → Nat} {Q : State → Prop} (hl : l.stackTraces = false) (C : ts_CX D dT sz p l R s m args meth c RL cL_law 9 (some .boolean) d) (hdd : 25 ≤ d) {b N : Nat} {xs : Nat → Int32} (hXs : va_X b N xs s s.heap) (hbl : b < s.heap.size) (hbA : ¬ sz ≤ b) {kk nn : Nat} (hkn : kk + 8 ≤ R.cells ∧ nn + 48 ≤ R.slots) (v5 : Int32) (u u2 : ts_Mem) (h : fL_1937 xs N v5 u = some u2) (K : ∀ k2 n2 : Nat, k2 ≤ kk + 8 → n2 ≤ nn + 48 → ts_V D dT sz p l e R s m args below meth c 9 Q ad ts_lv ts_R0 1994 [some (.inl (.ref b)), some (.inr (0, 0, 0)), some (.inr (30, 0, 0)), some (.inr (50, 0, 0)), some (.inr (51, 0, 0)), some (.inl (.int v5)), none, none, none] [] u2 k2 n2) : ts_V D dT sz p l e R s m args below meth c 9 Q ad ts_lv ts_R0 1937 [some (.inl (.ref b)), some (.inr (0, 0, 0)), some (.inr (30, 0, 0)), some (.inr (50, 0, 0)), some (.inr (51, 0, 0)), some (.inl (.int v5)), none, none, none] [] u kk nn := by
  unfold fL_1937 at h
  refine tv_aload_n C (pc := 1937) dL_law_1937 rfl rfl ?_
  obtain ⟨q1, hq1, h⟩ := ts_bd h
  refine tv_callV C (pc := 1938) dL_law_1938 (ci := 6) (q := (RX6, TX6, 6)) rfl yl_L_226 (m_X6_snapshot (D := D) (dT := dT) (sz := sz) (ad := ad) hl  u q1 hq1) (ts_live (k := 0) (by decide) (by decide) (by decide)) rfl (Nat.le_trans (Nat.le_of_ble_eq_true rfl) hdd) (As := []) rfl ⟨by omega, by omega⟩ (fun _ => Nat.le_of_ble_eq_true rfl) rfl ?_
  refine tv_aload_n C (pc := 1941) dL_law_1941 rfl rfl ?_
  obtain ⟨q2, hq2, h⟩ := ts_bd h
  refine tv_callV C (pc := 1942) dL_law_1942 (ci := 7) (q := (RX7, TX7, 37)) rfl yl_L_229 (m_X7_snapshot (D := D) (dT := dT) (sz := sz) (ad := ad) hl  q1.2 q2 hq2) (ts_live (k := 30) (by decide) (by decide) (by decide)) rfl (Nat.le_trans (Nat.le_of_ble_eq_true rfl) hdd) (As := []) rfl ⟨by omega, by omega⟩ (fun _ => Nat.le_of_ble_eq_true rfl) rfl ?_
  refine tv_icmp_eq C (pc := 1945) 1994 dL_law_1945 (by decide) (fun hc => ?_) (fun hc => ?_)
  · have h := ts_ifp h hc
    cases h
    exact K _ _ (by omega) (by omega)
  · have h := ts_ifn h hc
    refine tv_iconst C (pc := 1948) dL_law_1948 (v := (0 : Int32)) rfl ?_
    cases h
set_option maxRecDepth 100000 in
set_option maxHeartbeats 4000000 in
theorem lc_1950 {D : va_G} {dT : Nat → ClassId} {sz : Nat} {p : Program} {l : Launch} {e : Env} {R : Room} {s : State} {m : MethodId} {args : Array Value} {below : List Frame} {meth : Method} {c : Code} {d : Nat} {ad : ts_I → Nat} {Q : State → Prop} (hl : l.stackTraces = false) (C : ts_CX D dT sz p l R s m args meth c RL cL_law 9 (some .boolean) d) (hdd : 25 ≤ d) {b N : Nat} {xs : Nat → Int32} (hXs : va_X b N xs s s.heap) (hbl : b < s.heap.size) (hbA : ¬ sz ≤ b) {kk nn : Nat} (hkn : kk + 8 ≤ R.cells ∧ nn + 48 ≤ R.slots) (v5 : Int32) (u u2 : ts_Mem) (h : fL_1950 xs N v5 u = some u2) (K : ∀ k2 n2 : Nat, k2 ≤ kk + 8 → n2 ≤ nn + 48 → ts_V D dT sz p l e R s m args below meth c 9 Q ad ts_lv ts_R0 1994 [some (.inl (.ref b)), some (.inr (0, 0, 0)), some (.inr (30, 0, 0)), some (.inr (50, 0, 0)), some (.inr (51, 0, 0)), some (.inl (.int v5)), none, none, none] [] u2 k2 n2) : ts_V D dT sz p l e R s m args below meth c 9 Q ad ts_lv ts_R0 1950 [some (.inl (.ref b)), some (.inr (0, 0, 0)), some (.inr (30, 0, 0)), some (.inr (50, 0, 0)), some (.inr (51, 0, 0)), some (.inl (.int v5)), none, none, none] [] u kk nn := by
  unfold fL_1950 at h
  refine tv_aload_n C (pc := 1950) dL_law_1950 rfl rfl ?_
  refine tv_aload_n C (pc := 1951) dL_law_1951 rfl rfl ?_
  obtain ⟨q1, hq1, h⟩ := ts_bd h
  refine tv_callX C (pc := 1952) dL_law_1952 yl_L_230 (m_L_restore (D := D) (dT := dT) (sz := sz) (ad := ad) hl  u q1 hq1) (Nat.le_trans (Nat.le_of_ble_eq_true rfl) hdd) (As := [.inr (0, 0, 0), .inr (50, 0, 0)]) rfl ⟨by omega, by omega⟩ (fun _ => Nat.le_of_ble_eq_true rfl) rfl ?_
  refine tv_istore C (pc := 1955) dL_law_1955 (L' := [some (.inl (.ref b)), some (.inr (0, 0, 0)), some (.inr (30, 0, 0)), some (.inr (50, 0, 0)), some (.inr (51, 0, 0)), some (.inl (.int v5)), some (.inl (.int q1.1)), none, none]) (by decide) rfl rfl ?_
  refine tv_aload_n C (pc := 1957) dL_law_1957 rfl rfl ?_
  obtain ⟨q2, hq2, h⟩ := ts_bd h
  refine tv_callV C (pc := 1958) dL_law_1958 (ci := 7) (q := (RX7, TX7, 37)) rfl yl_L_232 (m_X7_restore (D := D) (dT := dT) (sz := sz) (ad := ad) hl  q1.2 q2 hq2) (ts_live (k := 30) (by decide) (by decide) (by decide)) rfl (Nat.le_trans (Nat.le_of_ble_eq_true rfl) hdd) (As := []) rfl ⟨by omega, by omega⟩ (fun _ => Nat.le_of_ble_eq_true rfl) rfl ?_
  refine tv_istore C (pc := 1961) dL_law_1961 (L' := [some (.inl (.ref b)), some (.inr (0, 0, 0)), some (.inr (30, 0, 0)), some (.inr (50, 0, 0)), some (.inr (51, 0, 0)), some (.inl (.int v5)), some (.inl (.int q1.1)), some (.inl (.int q2.1)), none]) (by decide) rfl rfl ?_
  refine tv_aload_n C (pc := 1963) dL_law_1963 rfl rfl ?_
  obtain ⟨q3, hq3, h⟩ := ts_bd h
  refine tv_callV C (pc := 1964) dL_law_1964 (ci := 7) (q := (RX7, TX7, 37)) rfl yl_L_121 (m_X7_thrown (D := D) (dT := dT) (sz := sz) (ad := ad) hl  q2.2 q3 hq3) (ts_live (k := 30) (by decide) (by decide) (by decide)) rfl (Nat.le_trans (Nat.le_of_ble_eq_true rfl) hdd) (As := []) rfl ⟨by omega, by omega⟩ (fun _ => Nat.le_of_ble_eq_true rfl) rfl ?_
  refine tv_iload C (pc := 1967) dL_law_1967 rfl ?_
  refine tv_icmp_eq C (pc := 1969) 1974 dL_law_1969 (by decide) (fun hc => ?_) (fun hc => ?_)
  · have h := ts_ifp h hc
    refine tv_iload C (pc := 1974) dL_law_1974 rfl ?_
    refine tv_if_ne C (pc := 1976) 1991 dL_law_1976 (by decide) (fun hc => ?_) (fun hc => ?_)
    · have h := ts_ifn h hc
      refine tv_goto C (pc := 1991) 1994 dL_law_1991 (by decide) ?_
      refine tv_drop 6 (L' := [some (.inl (.ref b)), some (.inr (0, 0, 0)), some (.inr (30, 0, 0)), some (.inr (50, 0, 0)), some (.inr (51, 0, 0)), some (.inl (.int v5)), none, some (.inl (.int q2.1)), none]) rfl ?_
      refine tv_drop 7 (L' := [some (.inl (.ref b)), some (.inr (0, 0, 0)), some (.inr (30, 0, 0)), some (.inr (50, 0, 0)), some (.inr (51, 0, 0)), some (.inl (.int v5)), none, none, none]) rfl ?_
      cases h
      exact K _ _ (by omega) (by omega)
    · have h := ts_ifp h hc
      refine tv_aload_n C (pc := 1979) dL_law_1979 rfl rfl ?_
      refine tv_iconst C (pc := 1980) dL_law_1980 (v := (0 : Int32)) rfl ?_
      refine tv_laload C (pc := 1981) dL_law_1981 (ts_live (k := 50) (by decide) (by decide) (by decide)) rfl (by decide) (j := 0) (by decide) ?_
      refine tv_iload C (pc := 1982) dL_law_1982 rfl ?_
      refine tv_i2l C (pc := 1984) dL_law_1984 ?_
      refine tv_lcmp C (pc := 1985) dL_law_1985 ?_
      refine tv_if_eq C (pc := 1986) 1991 dL_law_1986 (by decide) (fun hc => ?_) (fun hc => ?_)
      · have h := ts_ifp h hc
        refine tv_goto C (pc := 1991) 1994 dL_law_1991 (by decide) ?_
        refine tv_drop 6 (L' := [some (.inl (.ref b)), some (.inr (0, 0, 0)), some (.inr (30, 0, 0)), some (.inr (50, 0, 0)), some (.inr (51, 0, 0)), some (.inl (.int v5)), none, some (.inl (.int q2.1)), none]) rfl ?_
        refine tv_drop 7 (L' := [some (.inl (.ref b)), some (.inr (0, 0, 0)), some (.inr (30, 0, 0)), some (.inr (50, 0, 0)), some (.inr (51, 0, 0)), some (.inl (.int v5)), none, none, none]) rfl ?_
        cases h
        exact K _ _ (by omega) (by omega)
      · have h := ts_ifn h hc
        refine tv_iconst C (pc := 1989) dL_law_1989 (v := (0 : Int32)) rfl ?_
        cases h
  · have h := ts_ifn h hc
    refine tv_iconst C (pc := 1972) dL_law_1972 (v := (0 : Int32)) rfl ?_
    cases h
theorem lz_law {D : va_G} {dT : Nat → ClassId} {sz : Nat} {p : Program} {l : Launch} {e : Env} {R : Room} {s : State} {m : MethodId} {args : Array Value} {below : List Frame} {meth : Method} {c : Code} {d : Nat} {ad : ts_I → Nat} {Q : State → Prop} (hl : l.stackTraces = false) (C : ts_CX D dT sz p l R s m args meth c RL cL_law 9 (some .boolean) d) (hdd : 25 ≤ d) {b N : Nat} {xs : Nat → Int32} (hXs : va_X b N xs s s.heap) (hbl : b < s.heap.size) (hbA : ¬ sz ≤ b) {kk nn : Nat} (v5 : Int32) (u : ts_Mem) (K : ts_V D dT sz p l e R s m args below meth c 9 Q ad ts_lv ts_R0 28 [some (.inl (.ref b)), some (.inr (0, 0, 0)), some (.inr (30, 0, 0)), some (.inr (50, 0, 0)), some (.inr (51, 0, 0)), some (.inl (.int (v5 + (4 : Int32)))), none, none, none] [] u kk nn) : ts_V D dT sz p l e R s m args below meth c 9 Q ad ts_lv ts_R0 1994 [some (.inl (.ref b)), some (.inr (0, 0, 0)), some (.inr (30, 0, 0)), some (.inr (50, 0, 0)), some (.inr (51, 0, 0)), some (.inl (.int v5)), none, none, none] [] u kk nn := by
  refine tv_iinc C (pc := 1994) dL_law_1994 (v := (v5 + (4 : Int32))) (L' := [some (.inl (.ref b)), some (.inr (0, 0, 0)), some (.inr (30, 0, 0)), some (.inr (50, 0, 0)), some (.inr (51, 0, 0)), some (.inl (.int (v5 + (4 : Int32)))), none, none, none]) rfl rfl (by decide) rfl rfl ?_
  exact tv_goto C (pc := 1997) 28 dL_law_1997 (by decide) K
set_option maxRecDepth 100000 in
set_option maxHeartbeats 4000000 in
theorem ltL {D : va_G} {dT : Nat → ClassId} {sz : Nat} {p : Program} {l : Launch} {e : Env} {R : Room} {s : State} {m : MethodId} {args : Array Value} {below : List Frame} {meth : Method} {c : Code} {d : Nat} {ad : ts_I → Nat} {Q : State → Prop} (hl : l.stackTraces = false) (C : ts_CX D dT sz p l R s m args meth c RL cL_law 9 (some .boolean) d) (hdd : 25 ≤ d) {b N : Nat} {xs : Nat → Int32} (hXs : va_X b N xs s s.heap) (hbl : b < s.heap.size) (hbA : ¬ sz ≤ b) : ∀ (n : Nat) (v5 : Int32) (u u2 : ts_Mem) (kk nn : Nat) (hkn : kk + 8 * n ≤ R.cells ∧ nn + 48 * n ≤ R.slots) (h : lpL xs N n v5 u = some u2) (K : ∀ (v : Int32) (k2 n2 : Nat), k2 ≤ kk + 8 * n → n2 ≤ nn + 48 * n → ts_V D dT sz p l e R s m args below meth c 9 Q ad ts_lv ts_R0 2000 [some (.inl (.ref b)), some (.inr (0, 0, 0)), some (.inr (30, 0, 0)), some (.inr (50, 0, 0)), some (.inr (51, 0, 0)), some (.inl (.int v)), none, none, none] [] u2 k2 n2), ts_V D dT sz p l e R s m args below meth c 9 Q ad ts_lv ts_R0 28 [some (.inl (.ref b)), some (.inr (0, 0, 0)), some (.inr (30, 0, 0)), some (.inr (50, 0, 0)), some (.inr (51, 0, 0)), some (.inl (.int v5)), none, none, none] [] u kk nn
  | 0, _, _, _, _, _, _, h, _ => by cases h
  | n + 1, v5, u, u2, kk, nn, hkn, h, K => by
      rw [lpL] at h
      refine tv_iload C (pc := 28) dL_law_28 rfl ?_
      refine tv_aloadQ_n C (pc := 30) dL_law_30 rfl rfl ?_
      refine tv_slen C (pc := 31) dL_law_31 hXs hbl hbA ?_
      refine tv_iconst C (pc := 32) dL_law_32 (v := (4 : Int32)) rfl ?_
      refine tv_isub C (pc := 33) dL_law_33 ?_
      refine tv_icmp_gt C (pc := 34) 2000 dL_law_34 (by decide) (fun hc => ?_) (fun hc => ?_)
      · have h := ts_ifp h hc
        cases h
        exact K _ _ _ (by omega) (by omega)
      · have h := ts_ifn h hc
        refine tv_aloadQ_n C (pc := 37) dL_law_37 rfl rfl ?_
        refine tv_iload C (pc := 38) dL_law_38 rfl ?_
        obtain ⟨hr1, h⟩ := ts_gd h
        refine tv_sld C (pc := 40) dL_law_40 hXs hbl hbA hr1 (j := v5.toNatClampNeg) rfl ?_
        refine tv_bipush C (pc := 41) dL_law_41 (v := (63 : Int32)) rfl ?_
        refine tv_iand C (pc := 43) dL_law_43 ?_
        by_cases hs_0 : ((xs v5.toNatClampNeg) &&& (63 : Int32)) = 0
        · have h := ts_ifp h hs_0
          obtain ⟨u1, hu1, h⟩ := ts_bd h
          refine tv_tabIn C (pc := 44) 192 dL_law_44 (by rw [hs_0]; decide) (by rw [hs_0]; decide) (off := 148) (by rw [hs_0]; decide) (by decide) ?_
          refine lc_192 hl C hdd hXs hbl hbA ⟨by omega, by omega⟩ v5 u u1 hu1 (fun k2 n2 hk2 hn2 => ?_)
          refine lz_law hl C hdd hXs hbl hbA v5 u1 ?_
          exact ltL hl C hdd hXs hbl hbA n _ u1 u2 k2 n2 ⟨by omega, by omega⟩ h (fun v k3 n3 h3 h4 => K v k3 n3 (by omega) (by omega))
        have h := ts_ifn h hs_0
        by_cases hs_1 : ((xs v5.toNatClampNeg) &&& (63 : Int32)) = 1
        · have h := ts_ifp h hs_1
          obtain ⟨u1, hu1, h⟩ := ts_bd h
          refine tv_tabIn C (pc := 44) 248 dL_law_44 (by rw [hs_1]; decide) (by rw [hs_1]; decide) (off := 204) (by rw [hs_1]; decide) (by decide) ?_
          refine lc_248 hl C hdd hXs hbl hbA ⟨by omega, by omega⟩ v5 u u1 hu1 (fun k2 n2 hk2 hn2 => ?_)
          refine lz_law hl C hdd hXs hbl hbA v5 u1 ?_
          exact ltL hl C hdd hXs hbl hbA n _ u1 u2 k2 n2 ⟨by omega, by omega⟩ h (fun v k3 n3 h3 h4 => K v k3 n3 (by omega) (by omega))
        have h := ts_ifn h hs_1
        by_cases hs_2 : ((xs v5.toNatClampNeg) &&& (63 : Int32)) = 2
        · have h := ts_ifp h hs_2
          obtain ⟨u1, hu1, h⟩ := ts_bd h
          refine tv_tabIn C (pc := 44) 304 dL_law_44 (by rw [hs_2]; decide) (by rw [hs_2]; decide) (off := 260) (by rw [hs_2]; decide) (by decide) ?_
          refine lc_304 hl C hdd hXs hbl hbA ⟨by omega, by omega⟩ v5 u u1 hu1 (fun k2 n2 hk2 hn2 => ?_)
          refine lz_law hl C hdd hXs hbl hbA v5 u1 ?_
          exact ltL hl C hdd hXs hbl hbA n _ u1 u2 k2 n2 ⟨by omega, by omega⟩ h (fun v k3 n3 h3 h4 => K v k3 n3 (by omega) (by omega))
        have h := ts_ifn h hs_2
        by_cases hs_3 : ((xs v5.toNatClampNeg) &&& (63 : Int32)) = 3
        · have h := ts_ifp h hs_3
          obtain ⟨u1, hu1, h⟩ := ts_bd h
          refine tv_tabIn C (pc := 44) 372 dL_law_44 (by rw [hs_3]; decide) (by rw [hs_3]; decide) (off := 328) (by rw [hs_3]; decide) (by decide) ?_
          refine lc_372 hl C hdd hXs hbl hbA ⟨by omega, by omega⟩ v5 u u1 hu1 (fun k2 n2 hk2 hn2 => ?_)
          refine lz_law hl C hdd hXs hbl hbA v5 u1 ?_
          exact ltL hl C hdd hXs hbl hbA n _ u1 u2 k2 n2 ⟨by omega, by omega⟩ h (fun v k3 n3 h3 h4 => K v k3 n3 (by omega) (by omega))
        have h := ts_ifn h hs_3
        by_cases hs_4 : ((xs v5.toNatClampNeg) &&& (63 : Int32)) = 4
        · have h := ts_ifp h hs_4
          obtain ⟨u1, hu1, h⟩ := ts_bd h
          refine tv_tabIn C (pc := 44) 452 dL_law_44 (by rw [hs_4]; decide) (by rw [hs_4]; decide) (off := 408) (by rw [hs_4]; decide) (by decide) ?_
          refine lc_452 hl C hdd hXs hbl hbA ⟨by omega, by omega⟩ v5 u u1 hu1 (fun k2 n2 hk2 hn2 => ?_)
          refine lz_law hl C hdd hXs hbl hbA v5 u1 ?_
          exact ltL hl C hdd hXs hbl hbA n _ u1 u2 k2 n2 ⟨by omega, by omega⟩ h (fun v k3 n3 h3 h4 => K v k3 n3 (by omega) (by omega))
        have h := ts_ifn h hs_4
        by_cases hs_5 : ((xs v5.toNatClampNeg) &&& (63 : Int32)) = 5
        · have h := ts_ifp h hs_5
          obtain ⟨u1, hu1, h⟩ := ts_bd h
          refine tv_tabIn C (pc := 44) 532 dL_law_44 (by rw [hs_5]; decide) (by rw [hs_5]; decide) (off := 488) (by rw [hs_5]; decide) (by decide) ?_
          refine lc_532 hl C hdd hXs hbl hbA ⟨by omega, by omega⟩ v5 u u1 hu1 (fun k2 n2 hk2 hn2 => ?_)
          refine lz_law hl C hdd hXs hbl hbA v5 u1 ?_
          exact ltL hl C hdd hXs hbl hbA n _ u1 u2 k2 n2 ⟨by omega, by omega⟩ h (fun v k3 n3 h3 h4 => K v k3 n3 (by omega) (by omega))
        have h := ts_ifn h hs_5
        by_cases hs_6 : ((xs v5.toNatClampNeg) &&& (63 : Int32)) = 6
        · have h := ts_ifp h hs_6
          obtain ⟨u1, hu1, h⟩ := ts_bd h
          refine tv_tabIn C (pc := 44) 595 dL_law_44 (by rw [hs_6]; decide) (by rw [hs_6]; decide) (off := 551) (by rw [hs_6]; decide) (by decide) ?_
          refine lc_595 hl C hdd hXs hbl hbA ⟨by omega, by omega⟩ v5 u u1 hu1 (fun k2 n2 hk2 hn2 => ?_)
          refine lz_law hl C hdd hXs hbl hbA v5 u1 ?_
          exact ltL hl C hdd hXs hbl hbA n _ u1 u2 k2 n2 ⟨by omega, by omega⟩ h (fun v k3 n3 h3 h4 => K v k3 n3 (by omega) (by omega))
        have h := ts_ifn h hs_6
        by_cases hs_7 : ((xs v5.toNatClampNeg) &&& (63 : Int32)) = 7
        · have h := ts_ifp h hs_7
          obtain ⟨u1, hu1, h⟩ := ts_bd h
          refine tv_tabIn C (pc := 44) 651 dL_law_44 (by rw [hs_7]; decide) (by rw [hs_7]; decide) (off := 607) (by rw [hs_7]; decide) (by decide) ?_
          refine lc_651 hl C hdd hXs hbl hbA ⟨by omega, by omega⟩ v5 u u1 hu1 (fun k2 n2 hk2 hn2 => ?_)
          refine lz_law hl C hdd hXs hbl hbA v5 u1 ?_
          exact ltL hl C hdd hXs hbl hbA n _ u1 u2 k2 n2 ⟨by omega, by omega⟩ h (fun v k3 n3 h3 h4 => K v k3 n3 (by omega) (by omega))
        have h := ts_ifn h hs_7
        by_cases hs_8 : ((xs v5.toNatClampNeg) &&& (63 : Int32)) = 8
        · have h := ts_ifp h hs_8
          obtain ⟨u1, hu1, h⟩ := ts_bd h
          refine tv_tabIn C (pc := 44) 695 dL_law_44 (by rw [hs_8]; decide) (by rw [hs_8]; decide) (off := 651) (by rw [hs_8]; decide) (by decide) ?_
          refine lc_695 hl C hdd hXs hbl hbA ⟨by omega, by omega⟩ v5 u u1 hu1 (fun k2 n2 hk2 hn2 => ?_)
          refine lz_law hl C hdd hXs hbl hbA v5 u1 ?_
          exact ltL hl C hdd hXs hbl hbA n _ u1 u2 k2 n2 ⟨by omega, by omega⟩ h (fun v k3 n3 h3 h4 => K v k3 n3 (by omega) (by omega))
        have h := ts_ifn h hs_8
        by_cases hs_9 : ((xs v5.toNatClampNeg) &&& (63 : Int32)) = 9
        · have h := ts_ifp h hs_9
          obtain ⟨u1, hu1, h⟩ := ts_bd h
          refine tv_tabIn C (pc := 44) 753 dL_law_44 (by rw [hs_9]; decide) (by rw [hs_9]; decide) (off := 709) (by rw [hs_9]; decide) (by decide) ?_
          refine lc_753 hl C hdd hXs hbl hbA ⟨by omega, by omega⟩ v5 u u1 hu1 (fun k2 n2 hk2 hn2 => ?_)
          refine lz_law hl C hdd hXs hbl hbA v5 u1 ?_
          exact ltL hl C hdd hXs hbl hbA n _ u1 u2 k2 n2 ⟨by omega, by omega⟩ h (fun v k3 n3 h3 h4 => K v k3 n3 (by omega) (by omega))
        have h := ts_ifn h hs_9
        by_cases hs_10 : ((xs v5.toNatClampNeg) &&& (63 : Int32)) = 10
        · have h := ts_ifp h hs_10
          obtain ⟨u1, hu1, h⟩ := ts_bd h
          refine tv_tabIn C (pc := 44) 809 dL_law_44 (by rw [hs_10]; decide) (by rw [hs_10]; decide) (off := 765) (by rw [hs_10]; decide) (by decide) ?_
          refine lc_809 hl C hdd hXs hbl hbA ⟨by omega, by omega⟩ v5 u u1 hu1 (fun k2 n2 hk2 hn2 => ?_)
          refine lz_law hl C hdd hXs hbl hbA v5 u1 ?_
          exact ltL hl C hdd hXs hbl hbA n _ u1 u2 k2 n2 ⟨by omega, by omega⟩ h (fun v k3 n3 h3 h4 => K v k3 n3 (by omega) (by omega))
        have h := ts_ifn h hs_10
        by_cases hs_11 : ((xs v5.toNatClampNeg) &&& (63 : Int32)) = 11
        · have h := ts_ifp h hs_11
          obtain ⟨u1, hu1, h⟩ := ts_bd h
          refine tv_tabIn C (pc := 44) 853 dL_law_44 (by rw [hs_11]; decide) (by rw [hs_11]; decide) (off := 809) (by rw [hs_11]; decide) (by decide) ?_
          refine lc_853 hl C hdd hXs hbl hbA ⟨by omega, by omega⟩ v5 u u1 hu1 (fun k2 n2 hk2 hn2 => ?_)
          refine lz_law hl C hdd hXs hbl hbA v5 u1 ?_
          exact ltL hl C hdd hXs hbl hbA n _ u1 u2 k2 n2 ⟨by omega, by omega⟩ h (fun v k3 n3 h3 h4 => K v k3 n3 (by omega) (by omega))
        have h := ts_ifn h hs_11
        by_cases hs_12 : ((xs v5.toNatClampNeg) &&& (63 : Int32)) = 12
        · have h := ts_ifp h hs_12
          obtain ⟨u1, hu1, h⟩ := ts_bd h
          refine tv_tabIn C (pc := 44) 866 dL_law_44 (by rw [hs_12]; decide) (by rw [hs_12]; decide) (off := 822) (by rw [hs_12]; decide) (by decide) ?_
          refine lc_866 hl C hdd hXs hbl hbA ⟨by omega, by omega⟩ v5 u u1 hu1 (fun k2 n2 hk2 hn2 => ?_)
          refine lz_law hl C hdd hXs hbl hbA v5 u1 ?_
          exact ltL hl C hdd hXs hbl hbA n _ u1 u2 k2 n2 ⟨by omega, by omega⟩ h (fun v k3 n3 h3 h4 => K v k3 n3 (by omega) (by omega))
        have h := ts_ifn h hs_12
        by_cases hs_13 : ((xs v5.toNatClampNeg) &&& (63 : Int32)) = 13
        · have h := ts_ifp h hs_13
          obtain ⟨u1, hu1, h⟩ := ts_bd h
          refine tv_tabIn C (pc := 44) 934 dL_law_44 (by rw [hs_13]; decide) (by rw [hs_13]; decide) (off := 890) (by rw [hs_13]; decide) (by decide) ?_
          refine lc_934 hl C hdd hXs hbl hbA ⟨by omega, by omega⟩ v5 u u1 hu1 (fun k2 n2 hk2 hn2 => ?_)
          refine lz_law hl C hdd hXs hbl hbA v5 u1 ?_
          exact ltL hl C hdd hXs hbl hbA n _ u1 u2 k2 n2 ⟨by omega, by omega⟩ h (fun v k3 n3 h3 h4 => K v k3 n3 (by omega) (by omega))
        have h := ts_ifn h hs_13
        by_cases hs_14 : ((xs v5.toNatClampNeg) &&& (63 : Int32)) = 14
        · have h := ts_ifp h hs_14
          obtain ⟨u1, hu1, h⟩ := ts_bd h
          refine tv_tabIn C (pc := 44) 990 dL_law_44 (by rw [hs_14]; decide) (by rw [hs_14]; decide) (off := 946) (by rw [hs_14]; decide) (by decide) ?_
          refine lc_990 hl C hdd hXs hbl hbA ⟨by omega, by omega⟩ v5 u u1 hu1 (fun k2 n2 hk2 hn2 => ?_)
          refine lz_law hl C hdd hXs hbl hbA v5 u1 ?_
          exact ltL hl C hdd hXs hbl hbA n _ u1 u2 k2 n2 ⟨by omega, by omega⟩ h (fun v k3 n3 h3 h4 => K v k3 n3 (by omega) (by omega))
        have h := ts_ifn h hs_14
        by_cases hs_15 : ((xs v5.toNatClampNeg) &&& (63 : Int32)) = 15
        · have h := ts_ifp h hs_15
          obtain ⟨u1, hu1, h⟩ := ts_bd h
          refine tv_tabIn C (pc := 44) 1046 dL_law_44 (by rw [hs_15]; decide) (by rw [hs_15]; decide) (off := 1002) (by rw [hs_15]; decide) (by decide) ?_
          refine lc_1046 hl C hdd hXs hbl hbA ⟨by omega, by omega⟩ v5 u u1 hu1 (fun k2 n2 hk2 hn2 => ?_)
          refine lz_law hl C hdd hXs hbl hbA v5 u1 ?_
          exact ltL hl C hdd hXs hbl hbA n _ u1 u2 k2 n2 ⟨by omega, by omega⟩ h (fun v k3 n3 h3 h4 => K v k3 n3 (by omega) (by omega))
        have h := ts_ifn h hs_15
        by_cases hs_16 : ((xs v5.toNatClampNeg) &&& (63 : Int32)) = 16
        · have h := ts_ifp h hs_16
          obtain ⟨u1, hu1, h⟩ := ts_bd h
          refine tv_tabIn C (pc := 44) 1126 dL_law_44 (by rw [hs_16]; decide) (by rw [hs_16]; decide) (off := 1082) (by rw [hs_16]; decide) (by decide) ?_
          refine lc_1126 hl C hdd hXs hbl hbA ⟨by omega, by omega⟩ v5 u u1 hu1 (fun k2 n2 hk2 hn2 => ?_)
          refine lz_law hl C hdd hXs hbl hbA v5 u1 ?_
          exact ltL hl C hdd hXs hbl hbA n _ u1 u2 k2 n2 ⟨by omega, by omega⟩ h (fun v k3 n3 h3 h4 => K v k3 n3 (by omega) (by omega))
        have h := ts_ifn h hs_16
        by_cases hs_17 : ((xs v5.toNatClampNeg) &&& (63 : Int32)) = 17
        · have h := ts_ifp h hs_17
          obtain ⟨u1, hu1, h⟩ := ts_bd h
          refine tv_tabIn C (pc := 44) 1182 dL_law_44 (by rw [hs_17]; decide) (by rw [hs_17]; decide) (off := 1138) (by rw [hs_17]; decide) (by decide) ?_
          refine lc_1182 hl C hdd hXs hbl hbA ⟨by omega, by omega⟩ v5 u u1 hu1 (fun k2 n2 hk2 hn2 => ?_)
          refine lz_law hl C hdd hXs hbl hbA v5 u1 ?_
          exact ltL hl C hdd hXs hbl hbA n _ u1 u2 k2 n2 ⟨by omega, by omega⟩ h (fun v k3 n3 h3 h4 => K v k3 n3 (by omega) (by omega))
        have h := ts_ifn h hs_17
        by_cases hs_18 : ((xs v5.toNatClampNeg) &&& (63 : Int32)) = 18
        · have h := ts_ifp h hs_18
          obtain ⟨u1, hu1, h⟩ := ts_bd h
          refine tv_tabIn C (pc := 44) 1262 dL_law_44 (by rw [hs_18]; decide) (by rw [hs_18]; decide) (off := 1218) (by rw [hs_18]; decide) (by decide) ?_
          refine lc_1262 hl C hdd hXs hbl hbA ⟨by omega, by omega⟩ v5 u u1 hu1 (fun k2 n2 hk2 hn2 => ?_)
          refine lz_law hl C hdd hXs hbl hbA v5 u1 ?_
          exact ltL hl C hdd hXs hbl hbA n _ u1 u2 k2 n2 ⟨by omega, by omega⟩ h (fun v k3 n3 h3 h4 => K v k3 n3 (by omega) (by omega))
        have h := ts_ifn h hs_18
        by_cases hs_19 : ((xs v5.toNatClampNeg) &&& (63 : Int32)) = 19
        · have h := ts_ifp h hs_19
          obtain ⟨u1, hu1, h⟩ := ts_bd h
          refine tv_tabIn C (pc := 44) 1330 dL_law_44 (by rw [hs_19]; decide) (by rw [hs_19]; decide) (off := 1286) (by rw [hs_19]; decide) (by decide) ?_
          refine lc_1330 hl C hdd hXs hbl hbA ⟨by omega, by omega⟩ v5 u u1 hu1 (fun k2 n2 hk2 hn2 => ?_)
          refine lz_law hl C hdd hXs hbl hbA v5 u1 ?_
          exact ltL hl C hdd hXs hbl hbA n _ u1 u2 k2 n2 ⟨by omega, by omega⟩ h (fun v k3 n3 h3 h4 => K v k3 n3 (by omega) (by omega))
        have h := ts_ifn h hs_19
        by_cases hs_20 : ((xs v5.toNatClampNeg) &&& (63 : Int32)) = 20
        · have h := ts_ifp h hs_20
          obtain ⟨u1, hu1, h⟩ := ts_bd h
          refine tv_tabIn C (pc := 44) 1343 dL_law_44 (by rw [hs_20]; decide) (by rw [hs_20]; decide) (off := 1299) (by rw [hs_20]; decide) (by decide) ?_
          refine lc_1343 hl C hdd hXs hbl hbA ⟨by omega, by omega⟩ v5 u u1 hu1 (fun k2 n2 hk2 hn2 => ?_)
          refine lz_law hl C hdd hXs hbl hbA v5 u1 ?_
          exact ltL hl C hdd hXs hbl hbA n _ u1 u2 k2 n2 ⟨by omega, by omega⟩ h (fun v k3 n3 h3 h4 => K v k3 n3 (by omega) (by omega))
        have h := ts_ifn h hs_20
        by_cases hs_21 : ((xs v5.toNatClampNeg) &&& (63 : Int32)) = 21
        · have h := ts_ifp h hs_21
          obtain ⟨u1, hu1, h⟩ := ts_bd h
          refine tv_tabIn C (pc := 44) 1356 dL_law_44 (by rw [hs_21]; decide) (by rw [hs_21]; decide) (off := 1312) (by rw [hs_21]; decide) (by decide) ?_
          refine lc_1356 hl C hdd hXs hbl hbA ⟨by omega, by omega⟩ v5 u u1 hu1 (fun k2 n2 hk2 hn2 => ?_)
          refine lz_law hl C hdd hXs hbl hbA v5 u1 ?_
          exact ltL hl C hdd hXs hbl hbA n _ u1 u2 k2 n2 ⟨by omega, by omega⟩ h (fun v k3 n3 h3 h4 => K v k3 n3 (by omega) (by omega))
        have h := ts_ifn h hs_21
        by_cases hs_22 : ((xs v5.toNatClampNeg) &&& (63 : Int32)) = 22
        · have h := ts_ifp h hs_22
          obtain ⟨u1, hu1, h⟩ := ts_bd h
          refine tv_tabIn C (pc := 44) 1369 dL_law_44 (by rw [hs_22]; decide) (by rw [hs_22]; decide) (off := 1325) (by rw [hs_22]; decide) (by decide) ?_
          refine lc_1369 hl C hdd hXs hbl hbA ⟨by omega, by omega⟩ v5 u u1 hu1 (fun k2 n2 hk2 hn2 => ?_)
          refine lz_law hl C hdd hXs hbl hbA v5 u1 ?_
          exact ltL hl C hdd hXs hbl hbA n _ u1 u2 k2 n2 ⟨by omega, by omega⟩ h (fun v k3 n3 h3 h4 => K v k3 n3 (by omega) (by omega))
        have h := ts_ifn h hs_22
        by_cases hs_23 : ((xs v5.toNatClampNeg) &&& (63 : Int32)) = 23
        · have h := ts_ifp h hs_23
          obtain ⟨u1, hu1, h⟩ := ts_bd h
          refine tv_tabIn C (pc := 44) 1382 dL_law_44 (by rw [hs_23]; decide) (by rw [hs_23]; decide) (off := 1338) (by rw [hs_23]; decide) (by decide) ?_
          refine lc_1382 hl C hdd hXs hbl hbA ⟨by omega, by omega⟩ v5 u u1 hu1 (fun k2 n2 hk2 hn2 => ?_)
          refine lz_law hl C hdd hXs hbl hbA v5 u1 ?_
          exact ltL hl C hdd hXs hbl hbA n _ u1 u2 k2 n2 ⟨by omega, by omega⟩ h (fun v k3 n3 h3 h4 => K v k3 n3 (by omega) (by omega))
        have h := ts_ifn h hs_23
        by_cases hs_24 : ((xs v5.toNatClampNeg) &&& (63 : Int32)) = 24
        · have h := ts_ifp h hs_24
          obtain ⟨u1, hu1, h⟩ := ts_bd h
          refine tv_tabIn C (pc := 44) 1450 dL_law_44 (by rw [hs_24]; decide) (by rw [hs_24]; decide) (off := 1406) (by rw [hs_24]; decide) (by decide) ?_
          refine lc_1450 hl C hdd hXs hbl hbA ⟨by omega, by omega⟩ v5 u u1 hu1 (fun k2 n2 hk2 hn2 => ?_)
          refine lz_law hl C hdd hXs hbl hbA v5 u1 ?_
          exact ltL hl C hdd hXs hbl hbA n _ u1 u2 k2 n2 ⟨by omega, by omega⟩ h (fun v k3 n3 h3 h4 => K v k3 n3 (by omega) (by omega))
        have h := ts_ifn h hs_24
        by_cases hs_25 : ((xs v5.toNatClampNeg) &&& (63 : Int32)) = 25
        · have h := ts_ifp h hs_25
          obtain ⟨u1, hu1, h⟩ := ts_bd h
          refine tv_tabIn C (pc := 44) 1506 dL_law_44 (by rw [hs_25]; decide) (by rw [hs_25]; decide) (off := 1462) (by rw [hs_25]; decide) (by decide) ?_
          refine lc_1506 hl C hdd hXs hbl hbA ⟨by omega, by omega⟩ v5 u u1 hu1 (fun k2 n2 hk2 hn2 => ?_)
          refine lz_law hl C hdd hXs hbl hbA v5 u1 ?_
          exact ltL hl C hdd hXs hbl hbA n _ u1 u2 k2 n2 ⟨by omega, by omega⟩ h (fun v k3 n3 h3 h4 => K v k3 n3 (by omega) (by omega))
        have h := ts_ifn h hs_25
        by_cases hs_26 : ((xs v5.toNatClampNeg) &&& (63 : Int32)) = 26
        · have h := ts_ifp h hs_26
          obtain ⟨u1, hu1, h⟩ := ts_bd h
          refine tv_tabIn C (pc := 44) 1571 dL_law_44 (by rw [hs_26]; decide) (by rw [hs_26]; decide) (off := 1527) (by rw [hs_26]; decide) (by decide) ?_
          refine lc_1571 hl C hdd hXs hbl hbA ⟨by omega, by omega⟩ v5 u u1 hu1 (fun k2 n2 hk2 hn2 => ?_)
          refine lz_law hl C hdd hXs hbl hbA v5 u1 ?_
          exact ltL hl C hdd hXs hbl hbA n _ u1 u2 k2 n2 ⟨by omega, by omega⟩ h (fun v k3 n3 h3 h4 => K v k3 n3 (by omega) (by omega))
        have h := ts_ifn h hs_26
        by_cases hs_27 : ((xs v5.toNatClampNeg) &&& (63 : Int32)) = 27
        · have h := ts_ifp h hs_27
          obtain ⟨u1, hu1, h⟩ := ts_bd h
          refine tv_tabIn C (pc := 44) 1631 dL_law_44 (by rw [hs_27]; decide) (by rw [hs_27]; decide) (off := 1587) (by rw [hs_27]; decide) (by decide) ?_
          refine lc_1631 hl C hdd hXs hbl hbA ⟨by omega, by omega⟩ v5 u u1 hu1 (fun k2 n2 hk2 hn2 => ?_)
          refine lz_law hl C hdd hXs hbl hbA v5 u1 ?_
          exact ltL hl C hdd hXs hbl hbA n _ u1 u2 k2 n2 ⟨by omega, by omega⟩ h (fun v k3 n3 h3 h4 => K v k3 n3 (by omega) (by omega))
        have h := ts_ifn h hs_27
        by_cases hs_28 : ((xs v5.toNatClampNeg) &&& (63 : Int32)) = 28
        · have h := ts_ifp h hs_28
          obtain ⟨u1, hu1, h⟩ := ts_bd h
          refine tv_tabIn C (pc := 44) 1699 dL_law_44 (by rw [hs_28]; decide) (by rw [hs_28]; decide) (off := 1655) (by rw [hs_28]; decide) (by decide) ?_
          refine lc_1699 hl C hdd hXs hbl hbA ⟨by omega, by omega⟩ v5 u u1 hu1 (fun k2 n2 hk2 hn2 => ?_)
          refine lz_law hl C hdd hXs hbl hbA v5 u1 ?_
          exact ltL hl C hdd hXs hbl hbA n _ u1 u2 k2 n2 ⟨by omega, by omega⟩ h (fun v k3 n3 h3 h4 => K v k3 n3 (by omega) (by omega))
        have h := ts_ifn h hs_28
        by_cases hs_29 : ((xs v5.toNatClampNeg) &&& (63 : Int32)) = 29
        · have h := ts_ifp h hs_29
          obtain ⟨u1, hu1, h⟩ := ts_bd h
          refine tv_tabIn C (pc := 44) 1801 dL_law_44 (by rw [hs_29]; decide) (by rw [hs_29]; decide) (off := 1757) (by rw [hs_29]; decide) (by decide) ?_
          refine lc_1801 hl C hdd hXs hbl hbA ⟨by omega, by omega⟩ v5 u u1 hu1 (fun k2 n2 hk2 hn2 => ?_)
          refine lz_law hl C hdd hXs hbl hbA v5 u1 ?_
          exact ltL hl C hdd hXs hbl hbA n _ u1 u2 k2 n2 ⟨by omega, by omega⟩ h (fun v k3 n3 h3 h4 => K v k3 n3 (by omega) (by omega))
        have h := ts_ifn h hs_29
        by_cases hs_30 : ((xs v5.toNatClampNeg) &&& (63 : Int32)) = 30
        · have h := ts_ifp h hs_30
          obtain ⟨u1, hu1, h⟩ := ts_bd h
          refine tv_tabIn C (pc := 44) 1869 dL_law_44 (by rw [hs_30]; decide) (by rw [hs_30]; decide) (off := 1825) (by rw [hs_30]; decide) (by decide) ?_
          refine lc_1869 hl C hdd hXs hbl hbA ⟨by omega, by omega⟩ v5 u u1 hu1 (fun k2 n2 hk2 hn2 => ?_)
          refine lz_law hl C hdd hXs hbl hbA v5 u1 ?_
          exact ltL hl C hdd hXs hbl hbA n _ u1 u2 k2 n2 ⟨by omega, by omega⟩ h (fun v k3 n3 h3 h4 => K v k3 n3 (by omega) (by omega))
        have h := ts_ifn h hs_30
        by_cases hs_31 : ((xs v5.toNatClampNeg) &&& (63 : Int32)) = 31
        · have h := ts_ifp h hs_31
          obtain ⟨u1, hu1, h⟩ := ts_bd h
          refine tv_tabIn C (pc := 44) 1937 dL_law_44 (by rw [hs_31]; decide) (by rw [hs_31]; decide) (off := 1893) (by rw [hs_31]; decide) (by decide) ?_
          refine lc_1937 hl C hdd hXs hbl hbA ⟨by omega, by omega⟩ v5 u u1 hu1 (fun k2 n2 hk2 hn2 => ?_)
          refine lz_law hl C hdd hXs hbl hbA v5 u1 ?_
          exact ltL hl C hdd hXs hbl hbA n _ u1 u2 k2 n2 ⟨by omega, by omega⟩ h (fun v k3 n3 h3 h4 => K v k3 n3 (by omega) (by omega))
        have h := ts_ifn h hs_31
        by_cases hs_32 : ((xs v5.toNatClampNeg) &&& (63 : Int32)) = 32
        · have h := ts_ifp h hs_32
          obtain ⟨u1, hu1, h⟩ := ts_bd h
          refine tv_tabIn C (pc := 44) 1950 dL_law_44 (by rw [hs_32]; decide) (by rw [hs_32]; decide) (off := 1906) (by rw [hs_32]; decide) (by decide) ?_
          refine lc_1950 hl C hdd hXs hbl hbA ⟨by omega, by omega⟩ v5 u u1 hu1 (fun k2 n2 hk2 hn2 => ?_)
          refine lz_law hl C hdd hXs hbl hbA v5 u1 ?_
          exact ltL hl C hdd hXs hbl hbA n _ u1 u2 k2 n2 ⟨by omega, by omega⟩ h (fun v k3 n3 h3 h4 => K v k3 n3 (by omega) (by omega))
        have h := ts_ifn h hs_32
        refine tv_tabOut C (pc := 44) 1994 dL_law_44 (ts_tab 33 (by decide) (fun j hj => match j, hj with | 0, _ => hs_0 | 1, _ => hs_1 | 2, _ => hs_2 | 3, _ => hs_3 | 4, _ => hs_4 | 5, _ => hs_5 | 6, _ => hs_6 | 7, _ => hs_7 | 8, _ => hs_8 | 9, _ => hs_9 | 10, _ => hs_10 | 11, _ => hs_11 | 12, _ => hs_12 | 13, _ => hs_13 | 14, _ => hs_14 | 15, _ => hs_15 | 16, _ => hs_16 | 17, _ => hs_17 | 18, _ => hs_18 | 19, _ => hs_19 | 20, _ => hs_20 | 21, _ => hs_21 | 22, _ => hs_22 | 23, _ => hs_23 | 24, _ => hs_24 | 25, _ => hs_25 | 26, _ => hs_26 | 27, _ => hs_27 | 28, _ => hs_28 | 29, _ => hs_29 | 30, _ => hs_30 | 31, _ => hs_31 | 32, _ => hs_32 | j + 33, hj => absurd hj (by omega)) (by decide)) (by decide) ?_
        refine lz_law hl C hdd hXs hbl hbA v5 u ?_
        exact ltL hl C hdd hXs hbl hbA n _ u u2 kk nn ⟨by omega, by omega⟩ h (fun v k3 n3 h3 h4 => K v k3 n3 (by omega) (by omega))
