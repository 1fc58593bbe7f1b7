theorem z_nz1 {y : Int32} (h : 1 ≤ y) : ¬ y = 0 := fun e => by rw [e] at h; exact absurd h (by decide)
theorem z_nz2 {y : Int32} (h : ¬ y < 1) : ¬ y = 0 := fun e => by rw [e] at h; exact absurd h (by decide)
theorem z_ff {b : Int32} (h : ¬ b = 0) : ¬ FP.Core.FZero (FP.Core.i2f b) := fun hz => FP.Core.i2f_ne_zero h ((FP.Core.zero_bits232 _).mp hz)
theorem z_n32 {r : UInt32} (h : FP.Core.fIsNaN r = false) : vf_n32 r := by
  unfold vf_n32
  rw [UInt32.le_iff_toNat_le, FP.Core.mask_toNat32]
  have h2 : (0x7f800000 : UInt32).toNat = 2139095040 := by decide
  rw [h2]
  rcases Nat.lt_or_ge 2139095040 (r.toNat % 2 ^ 31) with q | q
  · rw [(FP.Core.isNaN_bits32 r).mpr q] at h
    cases h
  · exact q
theorem z_n64 {r : UInt64} (h : FP.Core.dIsNaN r = false) : vf_n64 r := by
  unfold vf_n64
  rw [UInt64.le_iff_toNat_le, FP.Core.mask_toNat]
  have h2 : (0x7ff0000000000000 : UInt64).toNat = 9218868437227405312 := by decide
  rw [h2]
  rcases Nat.lt_or_ge 9218868437227405312 (r.toNat % 2 ^ 63) with q | q
  · rw [(FP.Core.isNaN_bits r).mpr q] at h
    cases h
  · exact q
theorem z_fnan (a : Int64) (b : Int32) (h : ¬ b = 0) : FP.fIsNaN (FP.fdiv (FP.l2f a) (FP.i2f b)) = false := FP.Core.fdiv_out (FP.Core.l2f_fin a).notNaN (FP.Core.i2f_fin b) (z_ff h)
theorem z_fdiv (a : Int64) (b : Int32) (h : ¬ b = 0) : vf_n32 (FP.fdiv (FP.l2f a) (FP.i2f b)) := z_n32 (z_fnan a b h)
theorem z_f2d (a : Int64) (b : Int32) (h : ¬ b = 0) : vf_n64 (FP.f2d (FP.fdiv (FP.l2f a) (FP.i2f b))) := z_n64 ((FP.f2d_nan _).trans (z_fnan a b h))
theorem z_dcmp (a : Int64) (b : Int32) (h : ¬ b = 0) : FP.Core.val64 (FP.f2d (FP.fdiv (FP.l2f a) (FP.i2f b))) ≠ .nan := by
  intro e
  have h1 : FP.dIsNaN (FP.f2d (FP.fdiv (FP.l2f a) (FP.i2f b))) = false := (FP.f2d_nan _).trans (z_fnan a b h)
  have h2 : FP.Core.dIsNaN (FP.f2d (FP.fdiv (FP.l2f a) (FP.i2f b))) = true := (FP.Core.dIsNaN_iff _).mpr e
  exact absurd (h1.symm.trans h2) (by decide)
