/-! the built world: which names refer to which, which are there; naming; what a method hands back -/
def ts_R0 : ts_I → Nat → Option ts_I := fun i k => match i.1 with
  | 0 => (match k with | 0 => some (1, 0, 0) | 1 => some (1, 1, 0) | 3 => some (21, 0, 0) | 5 => some (26, 0, 0) | _ => none)
  | 1 => (match k with | 3 => some (2, i.2.1, 0) | 4 => some (3, i.2.1, 0) | 5 => some (4, i.2.1, 0) | 6 => some (5, i.2.1, 0) | 7 => some (6, i.2.1, 0) | _ => none)
  | 2 => some (11, i.2.1, k)
  | 3 => some (16, i.2.1, k)
  | 4 => (match k with | 2 => some (7, i.2.1, 0) | 3 => some (8, i.2.1, 0) | 4 => some (9, i.2.1, 0) | 5 => some (10, i.2.1, 0) | _ => none)
  | 11 => (match k with | 6 => some (12, i.2.1, i.2.2) | 7 => some (13, i.2.1, i.2.2) | 8 => some (14, i.2.1, i.2.2) | 9 => some (15, i.2.1, i.2.2) | _ => none)
  | 16 => (match k with | 1 => some (17, i.2.1, i.2.2) | 2 => some (18, i.2.1, i.2.2) | 3 => some (19, i.2.1, i.2.2) | 4 => some (20, i.2.1, i.2.2) | _ => none)
  | 21 => (match k with | 1 => some (22, 0, 0) | 3 => some (23, 0, 0) | 4 => some (24, 0, 0) | 5 => some (25, 0, 0) | _ => none)
  | 26 => some (27, 0, k)
  | 27 => (match k with | 2 => some (28, 0, i.2.2) | 3 => some (29, 0, i.2.2) | _ => none)
  | 30 => (match k with | 4 => some (31, 0, 0) | 5 => some (32, 0, 0) | 6 => some (33, 0, 0) | 7 => some (34, 0, 0) | 8 => some (35, 0, 0) | 9 => some (36, 0, 0) | 10 => some (37, 0, 0) | 11 => some (38, 0, 0) | 12 => some (39, 0, 0) | 13 => some (40, 0, 0) | 15 => some (41, 0, 0) | 19 => some (42, 0, 0) | 25 => some (43, 0, 0) | 28 => some (44, 0, 0) | 29 => some (45, 0, 0) | 30 => some (46, 0, 0) | 31 => some (47, 0, 0) | 32 => some (48, 0, 0) | 34 => some (49, 0, 0) | _ => none)
  | _ => none
def ts_nb (k : Nat) : Nat := if 1 ≤ k ∧ k ≤ 20 then 2 else 1
def ts_ni (k : Nat) : Nat := if 11 ≤ k ∧ k ≤ 15 then 16 else if 16 ≤ k ∧ k ≤ 20 then 8 else if 27 ≤ k ∧ k ≤ 29 then 3 else 1
def ts_lv : List ts_I := (List.range 52).flatMap (fun k => (List.range (ts_nb k)).flatMap (fun b => (List.range (ts_ni k)).map (fun i => (k, b, i))))
theorem ts_live {k b i : Nat} (hk : k < 52) (hb : b < ts_nb k) (hi : i < ts_ni k) : (k, b, i) ∈ ts_lv := by
  unfold ts_lv
  exact List.mem_flatMap.mpr ⟨k, List.mem_range.mpr hk, List.mem_flatMap.mpr ⟨b, List.mem_range.mpr hb, List.mem_map.mpr ⟨i, List.mem_range.mpr hi, rfl⟩⟩⟩
def ts_let {α β : Type} (a : α) (B : α → β) : β := B a
theorem ts_lt {α β : Type} {a : α} {B : α → β} {r : β} (h : ts_let a B = r) {x : α} (hx : x = a) : B x = r := by subst hx; exact h
theorem ts_eL {α γ β : Type} {A : α → β} {B : γ → β} {v : α} {r : β} (h : Sum.elim A B (.inl v) = r) : A v = r := h
theorem ts_eR {α γ β : Type} {A : α → β} {B : γ → β} {v : γ} {r : β} (h : Sum.elim A B (.inr v) = r) : B v = r := h
abbrev ts_n32 (r : UInt32) : Prop := r &&& 0x7fffffff ≤ 0x7f800000
abbrev ts_n64 (r : UInt64) : Prop := r &&& 0x7fffffffffffffff ≤ 0x7ff0000000000000
theorem ts_nz {x : Int32} (h : x = 0 ∨ x = 1) : narrow .boolean (.int x) = .int x ∧ fits .boolean (.int x) = true := by
  rcases h with rfl | rfl <;> exact ⟨rfl, rfl⟩
theorem ts_tab {x : Int32} (n : Nat) (hn : n < 2 ^ 31) (h : ∀ j : Nat, j < n → ¬ x = Int32.ofNat j) {hi : Int} (hh : hi + 1 = (n : Int)) : x.toInt < 0 ∨ hi < x.toInt := by
  by_cases h1 : x.toInt < 0
  · exact Or.inl h1
  · by_cases h2 : hi < x.toInt
    · exact Or.inr h2
    · exfalso
      obtain ⟨j, hj⟩ : ∃ j : Nat, x.toInt = (j : Int) := ⟨x.toInt.toNat, by omega⟩
      refine h j (by omega) (Int32.toInt_inj.mp ?_)
      rw [hj]
      have := nI_toInt (n := j) (by omega)
      exact this.symm
theorem ts_look2 {x : Int32} {a b c : Int} (h0 : ¬ x = 0) (h1 : ¬ x = 1) : Op.lookupswitch.offset [(0, a), (1, b)] c x.toInt = c := by
  have h2 : x.toInt ≠ 0 := fun e => h0 (Int32.toInt_inj.mp (by rw [e]; rfl))
  have h3 : x.toInt ≠ 1 := fun e => h1 (Int32.toInt_inj.mp (by rw [e]; rfl))
  simp [Op.lookupswitch.offset, h2.symm, h3.symm, h2, h3]
def ts_xe (a b h t : Nat) : ExceptionTableEntry := { startPc := a, endPc := b, handlerPc := h, catchType := t }
def ts_oI : Int32 ⊕ String → Option Value ⊕ String
  | .inl x => .inl (some (.int x))
  | .inr E => .inr E
def ts_oU : Unit ⊕ String → Option Value ⊕ String
  | .inl _ => .inl none
  | .inr E => .inr E
def ts_oF : UInt32 ⊕ String → Option Value ⊕ String
  | .inl x => .inl (some (.float x))
  | .inr E => .inr E
def ts_oD : UInt64 ⊕ String → Option Value ⊕ String
  | .inl x => .inl (some (.double x))
  | .inr E => .inr E
def ts_fu : Nat := 3000
section TN
variable {D : va_G} {dT : Nat → ClassId} {sz : Nat} {p : Program} {l : Launch} {e : Env} {R : Room} {s : State} {m : MethodId} {args : Array Value} {below : List Frame} {meth : Method} {c : Code} {nL d : Nat} {Q : State → Prop} {own : String} {cc : ByteArray} {ret : Option FieldType}
variable {ad : ts_I → Nat} {lv : List ts_I} {rf : ts_I → Nat → Option ts_I} {pc : Nat} {L L' : List (Option ts_AV)} {S S0 : List ts_AV} {u u' : ts_Mem} {k n mc ms : Nat}
theorem tv_nmI {x : Int32} (K : ∀ y : Int32, y = x → ts_V D dT sz p l e R s m args below meth c nL Q ad lv rf pc L (.inl (.int y) :: S) u k n) : ts_V D dT sz p l e R s m args below meth c nL Q ad lv rf pc L (.inl (.int x) :: S) u k n := K x rfl
theorem tv_nmF {x : UInt32} (K : ∀ y : UInt32, y = x → ts_V D dT sz p l e R s m args below meth c nL Q ad lv rf pc L (.inl (.float y) :: S) u k n) : ts_V D dT sz p l e R s m args below meth c nL Q ad lv rf pc L (.inl (.float x) :: S) u k n := K x rfl
theorem tv_nmD {x : UInt64} (K : ∀ y : UInt64, y = x → ts_V D dT sz p l e R s m args below meth c nL Q ad lv rf pc L (.inl (.double y) :: S) u k n) : ts_V D dT sz p l e R s m args below meth c nL Q ad lv rf pc L (.inl (.double x) :: S) u k n := K x rfl
theorem tv_nu (K : ∀ u1 : ts_Mem, u1 = u → ts_V D dT sz p l e R s m args below meth c nL Q ad lv rf pc L S u1 k n) : ts_V D dT sz p l e R s m args below meth c nL Q ad lv rf pc L S u k n := K u rfl
theorem tv_drop (i : Nat) (hL : L.set i none = L') (K : ts_V D dT sz p l e R s m args below meth c nL Q ad lv rf pc L' S u k n) : ts_V D dT sz p l e R s m args below meth c nL Q ad lv rf pc L S u k n := by
  refine tv_forget (L' := L') (fun j v hj => ?_) K
  subst hL
  by_cases hji : j = i
  · subst hji
    rw [List.getElem?_set] at hj
    simp only [if_true] at hj
    split at hj <;> cases hj
  · rwa [List.getElem?_set_ne (fun e => hji e.symm)] at hj
theorem tv_pc {pc' : Nat} (h : pc = pc') (K : ts_V D dT sz p l e R s m args below meth c nL Q ad lv rf pc' L S u k n) : ts_V D dT sz p l e R s m args below meth c nL Q ad lv rf pc L S u k n := h ▸ K
end TN
theorem ts_ac : Cond.native arraycopyName ∈ ts_ws ∧ Cond.static arraycopyName ∈ ts_ws ∧ Cond.initialized "java/lang/System" ∈ ts_ws := by decide +kernel
theorem ts_mx : Cond.static Lib.Math.max.name ∈ ts_ws ∧ Cond.initialized "java/lang/Math" ∈ ts_ws ∧ Cond.code Lib.Math.max.name Lib.Math.max.code 2 (some .int) ∈ ts_ws := by decide +kernel
theorem ts_mn : Cond.static Lib.Math.min.name ∈ ts_ws ∧ Cond.initialized "java/lang/Math" ∈ ts_ws ∧ Cond.code Lib.Math.min.name Lib.Math.min.code 2 (some .int) ∈ ts_ws := by decide +kernel
theorem ts_ca_IndexOutOfBoundsException : Cond.castable "java/lang/IndexOutOfBoundsException" "java/lang/IndexOutOfBoundsException" ∈ lw_tbl := by decide +kernel
theorem ts_ca_IllegalStateException : Cond.castable "java/lang/IllegalStateException" "java/lang/IllegalStateException" ∈ lw_tbl := by decide +kernel
theorem ts_ca_IllegalArgumentException : Cond.castable "java/lang/IllegalArgumentException" "java/lang/IllegalArgumentException" ∈ lw_tbl := by decide +kernel
theorem ts_ca_UnsupportedOperationException : Cond.castable "java/lang/UnsupportedOperationException" "java/lang/UnsupportedOperationException" ∈ lw_tbl := by decide +kernel
theorem ts_ca_NoSuchElementException : Cond.castable "java/util/NoSuchElementException" "java/util/NoSuchElementException" ∈ lw_tbl := by decide +kernel
theorem ts_ca_ArithmeticException : Cond.castable "java/lang/ArithmeticException" "java/lang/ArithmeticException" ∈ lw_tbl := by decide +kernel
theorem ts_nz0 : narrow .boolean (.int (0 : Int32)) = .int (0 : Int32) := rfl
theorem ts_nz1 : narrow .boolean (.int (1 : Int32)) = .int (1 : Int32) := rfl
