/-! the first memory, and the claim's start -/
def uI : ts_Mem := ku_X7_init (ku_X6_init ts_u0)
theorem zl : ∀ k : Fin 20, ((30 + k.val, 0, 0) : ts_I) ∈ ts_lvt 296 := by decide +kernel
theorem uI_Z : ts_ZA 296 uI := by
  have h0 : ts_ZA 1 ts_u0 := fun i _ k => ⟨rfl, rfl, rfl, rfl⟩
  have h1 := ts_ZA_m (j2 := 296) (kz_X6_init ts_u0 h0) (by omega)
  have a := zl 0
  have b := zl 8
  have c := zl 15
  unfold uI ku_X7_init
  exact ts_ZA_w (ts_ZA_w (ts_ZA_w (ts_ZA_w (ts_ZA_w (ts_ZA_w (ts_ZA_w (ts_ZA_w (ts_ZA_w (ts_ZA_w (ts_ZA_w (ts_ZA_w (ts_ZA_w (ts_ZA_w h1 a) a) b) b) b) b) b) b) b) b) a) c) c) c
theorem gU (k b i j : Nat) : ts_gI uI (k, b, i) j = if (k = 30 ∧ b = 0 ∧ i = 0 ∧ j = 1) ∨ (k = 1 ∧ b ≤ 1 ∧ i = 0 ∧ j = 0) then 2 else if (k = 30 ∧ b = 0 ∧ i = 0 ∧ j = 3) ∨ (k = 1 ∧ b ≤ 1 ∧ i = 0 ∧ j = 1) ∨ (k = 38 ∧ b = 0 ∧ i = 0 ∧ j < 8) ∨ (k = 16 ∧ b ≤ 1 ∧ i < 8 ∧ j = 0) then 1 else if (k = 30 ∧ b = 0 ∧ i = 0 ∧ j = 24) ∨ (k = 45 ∧ b = 0 ∧ i = 0 ∧ j < 3) ∨ (k = 27 ∧ b = 0 ∧ i < 3 ∧ j = 0) ∨ (k = 0 ∧ b = 0 ∧ i = 0 ∧ j = 4) ∨ (k = 20 ∧ b ≤ 1 ∧ i < 8 ∧ j = 0) then -1 else 0 := by
  sorry
theorem uI_F (i : ts_I) (j : Nat) : ts_gF uI i j = 0 := rfl
theorem whole_init : ∃ uF, f_X7_clearItems uI = some uF ∧ ts_ZA 296 uF ∧ Z uF 1 := by
  obtain ⟨mu', y1, y2, y3, -, -⟩ := cl_loop 8 0 (fun k j => ts_gI uI (k, 0, 0) j) (by omega)
  have hm : ∀ a b, ¬ a = 38 → ¬ a = 39 → mu' a b = ts_gI uI (a, 0, 0) b := fun a b h1 h2 => y3 a b h1 h2
  have hal : ∀ k i j, k < 30 → ts_gI (ma mu' uI) (k, 0, i) j = ts_gI uI (k, 0, i) j := fun k i j h => ma_go _ _ _ _ _ _ h
  refine ⟨ma mu' uI, ?_, fun i hi k => ?_, fun k i j => ts_gI (ma mu' uI) (k, 0, i) j, fun k i j => ts_gI (ma mu' uI) (k, 0, i) j, mu', uI, 2, 0, 1, ?_, ?_⟩
  · unfold f_X7_clearItems
    have := y1 uI ts_fu (by unfold ts_fu; omega)
    rw [ma_self] at this
    rw [show (0 : Int32) = nI 0 from rfl, this]
    rfl
  · have h := uI_Z i hi k
    obtain ⟨a, b, c⟩ := i
    refine ⟨?_, h.2⟩
    unfold ma
    dsimp only
    rw [if_neg]
    · exact h.1
    · rintro ⟨h1, h2⟩
      simp only [Prod.mk.injEq] at h2
      obtain ⟨rfl, rfl⟩ := h2
      have := zl ⟨a - 30, by omega⟩
      simp only [show 30 + (a - 30) = a by omega] at this
      exact hi this
  · rw [cb_self, ca_self]
  · have z : ∀ k i j, k < 30 → (fun k i j => ts_gI (ma mu' uI) (k, 0, i) j) k i j = ts_gI uI (k, 0, i) j := hal
    obtain ⟨hS, hR⟩ := pS_zero (al := fun k i j => ts_gI (ma mu' uI) (k, 0, i) j) (mu := mu') (p := 2) (by omega) (by rw [z _ _ _ (by omega), gU]; decide) (by rw [hm _ _ (by omega) (by omega), gU]; decide) (by rw [z _ _ _ (by omega), gU]; decide) (by rw [hm _ _ (by omega) (by omega), gU]; decide) (by rw [z _ _ _ (by omega), gU]; decide) (by rw [hm _ _ (by omega) (by omega), gU]; decide) (fun i hi => by
      rw [z _ _ _ (by omega), z _ _ _ (by omega), z _ _ _ (by omega), z _ _ _ (by omega), z _ _ _ (by omega), gU, gU, gU, gU, gU]
      refine ⟨?_, ?_, ?_, ?_, ?_⟩
      · rw [if_neg (by omega), if_pos (by omega)]; rfl
      · rw [if_neg (by omega), if_neg (by omega), if_neg (by omega)]; rfl
      · rw [if_neg (by omega), if_neg (by omega), if_neg (by omega)]; rfl
      · rw [if_neg (by omega), if_neg (by omega), if_neg (by omega)]; rfl
      · rw [if_neg (by omega), if_neg (by omega), if_pos (by omega)]; rfl) (fun i hi => y2 i (by omega) hi) (by rw [z _ _ _ (by omega), gU]; decide) (by rw [z _ _ _ (by omega), gU]; decide) (by rw [hm _ _ (by omega) (by omega), gU]; decide) (fun k hk => by rw [z _ _ _ (by omega), gU, if_neg (by omega), if_neg (by omega), if_neg (by omega)]; rfl) (fun k hk => by rw [hm _ _ (by omega) (by omega), gU, if_neg (by omega), if_neg (by omega), if_neg (by omega)]; rfl)
    refine ⟨hS, hR, by omega, ⟨⟨0, by omega, ?_, ?_⟩, fun j hj => ?_, ?_, ?_⟩, fun s hs => ⟨⟨0, by omega, ?_, ?_⟩, ?_, ?_, fun k hk => ⟨?_, ?_, ?_⟩⟩, ?_, ?_⟩
    · rw [z _ _ _ (by omega), gU]; decide
    · rw [hm _ _ (by omega) (by omega), gU]; decide
    · rw [z _ _ _ (by omega), hm _ _ (by omega) (by omega), gU, gU, if_neg (by omega), if_neg (by omega), if_neg (by omega), if_neg (by omega), if_neg (by omega), if_neg (by omega)]
    · rw [z _ _ _ (by omega), hm _ _ (by omega) (by omega), gU, gU]; decide
    · left; rw [hm _ _ (by omega) (by omega), gU]; decide
    · rw [z _ _ _ (by omega), gU, if_neg (by omega), if_neg (by omega), if_neg (by omega)]; rfl
    · rw [hm _ _ (by omega) (by omega), gU, if_neg (by omega), if_neg (by omega), if_neg (by omega)]; rfl
    · rw [z _ _ _ (by omega), hm _ _ (by omega) (by omega), gU, gU, if_neg (by omega), if_neg (by omega), if_pos (by omega), if_neg (by omega), if_neg (by omega), if_pos (by omega)]
    · left; rw [hm _ _ (by omega) (by omega), gU, if_neg (by omega), if_neg (by omega), if_pos (by omega)]; rfl
    · rw [z _ _ _ (by omega), hm _ _ (by omega) (by omega), gU, gU, if_neg (by omega), if_neg (by omega), if_neg (by omega), if_neg (by omega), if_neg (by omega), if_neg (by omega)]
    · rw [uI_F, uI_F]
    · rw [uI_F]; exact f0_nn
    · rw [z _ _ _ (by omega), hm _ _ (by omega) (by omega), gU, gU]; decide
    · left; rw [hm _ _ (by omega) (by omega), gU]; decide
theorem whole_start {p : Program} {e : Env} {s : State} {m : MethodId} {below : List Frame} {meth : Method} {c : Code} (l : Launch) (hflags : l.flags = flags0) {b L : Nat} {xs : Nat → Int32} (hL : L ≤ 2048) (C0 : lw_At p s m meth c b L xs) : W p l e room_1 s m #[Value.ref b] below meth c s.heap [] 0 0 (lw_Z below #[Value.ref b] s) (entryFrame m ([Value.ref b] : List Value).toArray 9) := by
  obtain ⟨uF, h1, h2, h3⟩ := whole_init
  exact whole_start_open uF h1 h2 (fun xs N hN => main_loop xs hN 513 0 uF h3 (by omega) (by omega)) l hflags hL C0
