/-! the first memory, and the claim's start -/
def uI : ts_Mem := ku_X7_init (ku_X6_init ts_u0)
theorem zl : ∀ k : Fin 20, ((30 + k.val, 0, 0) : ts_I) ∈ ts_lvt 296 := by decide +kernel
theorem uI_Z : ts_ZA 296 uI := by
  have h0 : ts_ZA 1 ts_u0 := fun i _ k => ⟨rfl, rfl, rfl, rfl⟩
  have h1 := ts_ZA_m (j2 := 296) (kz_X6_init ts_u0 h0) (by omega)
  have a := zl 0
  have b := zl 8
  have c := zl 15
  unfold uI ku_X7_init
  exact ts_ZA_w (ts_ZA_w (ts_ZA_w (ts_ZA_w (ts_ZA_w (ts_ZA_w (ts_ZA_w (ts_ZA_w (ts_ZA_w (ts_ZA_w (ts_ZA_w (ts_ZA_w (ts_ZA_w (ts_ZA_w h1 a) a) b) b) b) b) b) b) b) b) a) c) c) c
theorem uI_F (i : ts_I) (j : Nat) : ts_gF uI i j = 0 := rfl
theorem whole_init : ∃ uF, f_X7_clearItems uI = some uF ∧ ts_ZA 296 uF ∧ Z uF 1 := by
  obtain ⟨mu', y1, y2, y3, -, -⟩ := cl_loop 8 0 (fun k j => ts_gI uI (k, 0, 0) j) (by omega)
  have hm : ∀ a b, ¬ a = 38 → ¬ a = 39 → mu' a b = ts_gI uI (a, 0, 0) b := fun a b h1 h2 => y3 a b h1 h2
  have hal : ∀ k i j, k < 30 → ts_gI (ma mu' uI) (k, 0, i) j = ts_gI uI (k, 0, i) j := fun k i j h => ma_go _ _ _ _ _ _ h
  refine ⟨ma mu' uI, ?_, fun i hi k => ?_, fun k i j => ts_gI (ma mu' uI) (k, 0, i) j, fun k i j => ts_gI (ma mu' uI) (k, 0, i) j, mu', uI, 2, 0, 1, ?_, ?_⟩
  · unfold f_X7_clearItems
    have := y1 uI ts_fu (by unfold ts_fu; omega)
    rw [ma_self] at this
    rw [show (0 : Int32) = nI 0 from rfl, this]
    rfl
  · have h := uI_Z i hi k
    obtain ⟨a, b, c⟩ := i
    refine ⟨?_, h.2⟩
    unfold ma
    dsimp only
    rw [if_neg]
    · exact h.1
    · rintro ⟨h1, h2⟩
      simp only [Prod.mk.injEq] at h2
      obtain ⟨rfl, rfl⟩ := h2
      have := zl ⟨a - 30, by omega⟩
      simp only [show 30 + (a - 30) = a by omega] at this
      exact hi this
  · rw [cb_self, ca_self]
  · obtain ⟨hS, hR⟩ := pS_zero (al := fun k i j => ts_gI (ma mu' uI) (k, 0, i) j) (mu := mu') (p := 2) (by omega) ((hal 1 0 0 (by omega)).trans rfl) ((hm 30 1 (by omega) (by omega)).trans rfl) ((hal 1 0 1 (by omega)).trans rfl) ((hm 30 3 (by omega) (by omega)).trans rfl) ((hal 1 0 2 (by omega)).trans rfl) ((hm 30 2 (by omega) (by omega)).trans rfl) (fun i hi => by
      refine ⟨(hal 16 i 0 (by omega)).trans ?_, (hal 17 i 0 (by omega)).trans rfl, (hal 18 i 0 (by omega)).trans rfl, (hal 19 i 0 (by omega)).trans rfl, (hal 20 i 0 (by omega)).trans ?_⟩
      · rcases (show i = 0 ∨ i = 1 ∨ i = 2 ∨ i = 3 ∨ i = 4 ∨ i = 5 ∨ i = 6 ∨ i = 7 by omega) with rfl | rfl | rfl | rfl | rfl | rfl | rfl | rfl <;> rfl
      · rcases (show i = 0 ∨ i = 1 ∨ i = 2 ∨ i = 3 ∨ i = 4 ∨ i = 5 ∨ i = 6 ∨ i = 7 by omega) with rfl | rfl | rfl | rfl | rfl | rfl | rfl | rfl <;> rfl) (fun i hi => y2 i (by omega) hi) ((hal 4 0 0 (by omega)).trans rfl) ((hal 4 0 1 (by omega)).trans rfl) ((hm 30 14 (by omega) (by omega)).trans rfl) (fun k hk => (hal 10 0 k (by omega)).trans rfl) (fun k hk => (hm 41 k (by omega) (by omega)).trans rfl)
    refine ⟨hS, hR, by omega, ⟨⟨0, by omega, (hal 21 0 0 (by omega)).trans rfl, (hm 30 20 (by omega) (by omega)).trans rfl⟩, fun j hj => ?_, ?_, Or.inl ((hm 30 24 (by omega) (by omega)).trans rfl)⟩, fun s hs => ⟨⟨0, by omega, (hal 27 s 1 (by omega)).trans ?_, (hm 46 s (by omega) (by omega)).trans rfl⟩, ?_, Or.inl ((hm 45 s (by omega) (by omega)).trans ?_), fun k hk => ⟨?_, ?_, ?_⟩⟩, ?_, Or.inl ((hm 30 33 (by omega) (by omega)).trans rfl)⟩
    · exact ((hal 22 0 j (by omega)).trans rfl).trans ((hm 42 j (by omega) (by omega)).trans rfl).symm
    · exact ((hal 0 0 4 (by omega)).trans rfl).trans ((hm 30 24 (by omega) (by omega)).trans rfl).symm
    · rcases (show s = 0 ∨ s = 1 ∨ s = 2 by omega) with rfl | rfl | rfl <;> rfl
    · refine (hal 27 s 0 (by omega)).trans (Eq.trans ?_ (hm 45 s (by omega) (by omega)).symm)
      rcases (show s = 0 ∨ s = 1 ∨ s = 2 by omega) with rfl | rfl | rfl <;> rfl
    · rcases (show s = 0 ∨ s = 1 ∨ s = 2 by omega) with rfl | rfl | rfl <;> rfl
    · exact ((hal 29 s k (by omega)).trans rfl).trans ((hm 47 (30 * s + k) (by omega) (by omega)).trans rfl).symm
    · rw [uI_F, uI_F]
    · rw [uI_F]; exact f0_nn
    · exact ((hal 0 0 2 (by omega)).trans rfl).trans ((hm 30 33 (by omega) (by omega)).trans rfl).symm
theorem whole_start {p : Program} {e : Env} {s : State} {m : MethodId} {below : List Frame} {meth : Method} {c : Code} (l : Launch) (hflags : l.flags = flags0) {b L : Nat} {xs : Nat → Int32} (hL : L ≤ 2048) (C0 : lw_At p s m meth c b L xs) : W p l e room_1 s m #[Value.ref b] below meth c s.heap [] 0 0 (lw_Z below #[Value.ref b] s) (entryFrame m ([Value.ref b] : List Value).toArray 9) := by
  obtain ⟨uF, h1, h2, h3⟩ := whole_init
  exact whole_start_open uF h1 h2 (fun xs N hN => main_loop xs hN 513 0 uF h3 (by omega) (by omega)) l hflags hL C0
