/-! floats and doubles: no result is a NaN -/
theorem n32_of {x : UInt32} (h : FP.fIsNaN x = false) : ts_n32 x := by
  have h1 : ¬ (2139095040 < x.toNat % 2 ^ 31) := fun q => by
    have := (FP.Core.isNaN_bits32 x).mpr q
    have h' : FP.Core.fIsNaN x = false := h
    rw [this] at h'
    exact absurd h' (by decide)
  show x &&& 0x7fffffff ≤ 0x7f800000
  rw [UInt32.le_iff_toNat_le, UInt32.toNat_and, show (0x7fffffff : UInt32).toNat = 2 ^ 31 - 1 from rfl, Nat.and_two_pow_sub_one_eq_mod, show (0x7f800000 : UInt32).toNat = 2139095040 from rfl]
  omega
theorem n64_of {x : UInt64} (h : FP.dIsNaN x = false) : ts_n64 x := by
  have h1 : ¬ (9218868437227405312 < x.toNat % 2 ^ 63) := fun q => by
    have := (FP.Core.isNaN_bits x).mpr q
    have h' : FP.Core.dIsNaN x = false := h
    rw [this] at h'
    exact absurd h' (by decide)
  show x &&& 0x7fffffffffffffff ≤ 0x7ff0000000000000
  rw [UInt64.le_iff_toNat_le, UInt64.toNat_and, show (0x7fffffffffffffff : UInt64).toNat = 2 ^ 63 - 1 from rfl, Nat.and_two_pow_sub_one_eq_mod, show (0x7ff0000000000000 : UInt64).toNat = 9218868437227405312 from rfl]
  omega
theorem nn_i2f (d : Int32) : FP.fIsNaN (FP.i2f d) = false := by
  obtain ⟨s, c, q, h⟩ := FP.Core.i2f_fin d
  refine (FP.Core.notNaN_iff32 _).mpr ?_
  show FP.Core.val32 (FP.Core.i2f d) ≠ .nan
  rw [h]
  exact FP.Core.Datum.noConfusion
theorem nn_fdiv {x : UInt32} {d : Int32} (h : FP.fIsNaN x = false) (hd : ¬ d = 0) : FP.fIsNaN (FP.fdiv x (FP.i2f d)) = false := by
  cases e : FP.fIsNaN (FP.fdiv x (FP.i2f d)) with
  | false => rfl
  | true =>
    have h1 : FP.Core.val32 x ≠ .nan := (FP.Core.notNaN_iff32 x).mp h
    obtain ⟨s, c, q, h2⟩ := FP.Core.i2f_fin d
    have h3 := FP.Core.i2f_ne_zero hd
    rcases (FP.Core.fdiv_nan_iff x (FP.Core.i2f d)).mp e with a | a | ⟨_, _, _, a⟩ | ⟨_, a⟩
    · exact absurd a h1
    · rw [h2] at a; cases a
    · rw [h2] at a; cases a
    · exact absurd ((FP.Core.zero_bits232 _).mp a) h3
theorem nn_ddiv {x d : Int32} (hd : ¬ d = 0) : FP.dIsNaN (FP.ddiv (FP.i2d x) (FP.i2d d)) = false := by
  cases e : FP.dIsNaN (FP.ddiv (FP.i2d x) (FP.i2d d)) with
  | false => rfl
  | true =>
    obtain ⟨s1, c1, q1, h1⟩ := FP.Core.i2d_fin x
    obtain ⟨s, c, q, h2⟩ := FP.Core.i2d_fin d
    have h3 := FP.Core.i2d_ne_zero hd
    rcases (FP.Core.ddiv_nan_iff (FP.Core.i2d x) (FP.Core.i2d d)).mp e with a | a | ⟨_, _, _, a⟩ | ⟨_, a⟩
    · rw [h1] at a; cases a
    · rw [h2] at a; cases a
    · rw [h2] at a; cases a
    · exact absurd ((FP.Core.zero_bits2 _).mp a) h3
theorem nn_f2d {x : UInt32} (h : FP.fIsNaN x = false) : FP.dIsNaN (FP.f2d x) = false := (FP.f2d_nan x).trans h
theorem dc_refl {x : UInt64} (h : FP.dIsNaN x = false) : Op.cmpValue (FP.dcmp x x) .l = 0 := by
  have : FP.dcmp x x = some .eq := FP.Core.dcmp_refl h
  rw [this]
  rfl
