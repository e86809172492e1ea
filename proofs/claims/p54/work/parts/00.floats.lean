/-! FLOATS: what is no NaN is like itself (names of the float laws: the claim is read over the whole library from here on) -/
theorem nan64_iff (x : UInt64) : isNaN64 x = true ↔ FP.Core.val64 x = .nan := by
  rw [isNaN64_iff, ← FP.Core.dIsNaN_iff, FP.Core.isNaN_bits, show (0x7fffffffffffffff : Nat) = 2 ^ 63 - 1 by decide, Nat.and_two_pow_sub_one_eq_mod]
theorem nan32_iff (x : UInt32) : isNaN32 x = true ↔ FP.Core.fIsNaN x = true := by
  rw [isNaN32_iff, FP.Core.isNaN_bits32, show (0x7fffffff : Nat) = 2 ^ 31 - 1 by decide, Nat.and_two_pow_sub_one_eq_mod]
theorem deq0 {p q x : UInt64} (hx : FP.Core.dIsNaN x = false) (h1 : alike64 p x = true) (h2 : alike64 q x = true) : Op.cmpValue (FP.dcmp p q) CmpOp.l = 0 := by
  unfold alike64 at h1 h2
  rw [Bool.or_eq_true, decide_eq_true_eq, Bool.and_eq_true] at h1 h2
  have hn : ¬ isNaN64 x = true := fun z => by
    rw [(FP.Core.dIsNaN_iff x).mpr ((nan64_iff x).mp z)] at hx
    cases hx
  have hv : FP.Core.val64 x ≠ .nan := fun z => by
    rw [(FP.Core.dIsNaN_iff x).mpr z] at hx
    cases hx
  rcases h1 with a | a
  · rcases h2 with b | b
    · rw [a, b, show FP.dcmp x x = some .eq from FP.Core.dcmp_self hv]
      rfl
    · exact absurd b.2 hn
  · exact absurd a.2 hn
theorem feq0 {p q x : UInt32} (hx : FP.Core.fIsNaN x = false) (h1 : alike32 p x = true) (h2 : alike32 q x = true) : Op.cmpValue (FP.fcmp p q) CmpOp.l = 0 := by
  unfold alike32 at h1 h2
  rw [Bool.or_eq_true, decide_eq_true_eq, Bool.and_eq_true] at h1 h2
  have hn : ¬ isNaN32 x = true := fun z => by
    rw [(nan32_iff x).mp z] at hx
    cases hx
  have hv : FP.Core.val32 x ≠ .nan := fun z => by
    rw [(FP.Core.fIsNaN_iff x).mpr z] at hx
    cases hx
  rcases h1 with a | a
  · rcases h2 with b | b
    · rw [a, b, show FP.fcmp x x = some .eq from FP.Core.fcmp_self hv]
      rfl
    · exact absurd b.2 hn
  · exact absurd a.2 hn
theorem i2d_num (a : Int32) : FP.Core.dIsNaN (FP.i2d a) = false :=
  Bool.eq_false_iff.mpr (fun z => (FP.Core.i2d_fin a).ne_nan ((FP.Core.dIsNaN_iff _).mp z))
theorem i2f_num (a : Int32) : FP.Core.fIsNaN (FP.i2f a) = false :=
  Bool.eq_false_iff.mpr (fun z => (FP.Core.i2f_fin a).ne_nan ((FP.Core.fIsNaN_iff _).mp z))
theorem ddiv_num {a b : Int32} (h : b ≠ 0) : FP.Core.dIsNaN (FP.ddiv (FP.i2d a) (FP.i2d b)) = false :=
  FP.Core.ddiv_out (i2d_num a) (FP.Core.i2d_fin b) (fun z => FP.Core.i2d_ne_zero h ((FP.Core.zero_bits2 _).mp z))
theorem fdiv_num {a b : Int32} (h : b ≠ 0) : FP.Core.fIsNaN (FP.fdiv (FP.i2f a) (FP.i2f b)) = false :=
  FP.Core.fdiv_out (i2f_num a) (FP.Core.i2f_fin b) (fun z => FP.Core.i2f_ne_zero h ((FP.Core.zero_bits232 _).mp z))
theorem i2d_l2d' (a : Int32) : FP.i2d a = FP.l2d a.toInt64 := FP.Core.i2d_l2d a
theorem dz_num : FP.Core.dIsNaN FP.dconst0 = false := by decide +kernel
theorem fz_num : FP.Core.fIsNaN FP.fconst0 = false := by decide +kernel
