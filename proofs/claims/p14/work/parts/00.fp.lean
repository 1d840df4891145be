/-! no NaN -/
theorem vf32 (a : UInt32) : vf_n32 a ↔ Jvm.FP.Core.val32 a ≠ .nan := by
  rw [Jvm.FP.Core.ne_nan32]
  unfold vf_n32
  rw [UInt32.le_iff_toNat_le, Jvm.FP.Core.mask_toNat32]
  exact Iff.rfl
theorem vf64 (a : UInt64) : vf_n64 a ↔ Jvm.FP.Core.val64 a ≠ .nan := by
  rw [Jvm.FP.Core.ne_nan]
  unfold vf_n64
  rw [UInt64.le_iff_toNat_le, Jvm.FP.Core.mask_toNat]
  exact Iff.rfl
theorem vf32b (a : UInt32) : vf_n32 a ↔ Jvm.FP.Core.fIsNaN a = false := by rw [vf32, Jvm.FP.Core.notNaN_iff32]
theorem vf64b (a : UInt64) : vf_n64 a ↔ Jvm.FP.Core.dIsNaN a = false := by rw [vf64, Jvm.FP.Core.notNaN_iff]
theorem ffin0 : Jvm.FP.Core.FFin FP.fconst0 := ⟨_, _, _, Jvm.FP.Core.val32_zero⟩
theorem nn_f0 : vf_n32 FP.fconst0 := (vf32b _).mpr ffin0.notNaN
theorem nn_d0 : vf_n64 FP.dconst0 := (vf64 _).mpr (by rw [show FP.dconst0 = (0 : UInt64) from rfl, Jvm.FP.Core.val64_zero]; exact Jvm.FP.Core.Datum.noConfusion)
theorem nn_add0 {a : UInt32} (h : vf_n32 a) : vf_n32 (FP.fadd a FP.fconst0) := (vf32b _).mpr (Jvm.FP.Core.fadd_out ((vf32b _).mp h) ffin0)
theorem nn_i2f {x : Int32} : vf_n32 (FP.i2f x) := (vf32b _).mpr (Jvm.FP.Core.i2f_fin x).notNaN
theorem nn_addi {a : UInt32} {x : Int32} (h : vf_n32 a) : vf_n32 (FP.fadd a (FP.i2f x)) := (vf32b _).mpr (Jvm.FP.Core.fadd_out ((vf32b _).mp h) (Jvm.FP.Core.i2f_fin x))
theorem quo_fin {x b : Int32} (h : ¬ (b = 0)) : Jvm.FP.Core.FFin (FP.fdiv (FP.i2f x) (FP.i2f b)) := by
  have h1 := Jvm.FP.Core.i2f_mag x
  have h2 := Jvm.FP.Core.i2f_big (Jvm.FP.Core.int32_ne h)
  have h3 := Jvm.FP.Core.fdiv_mag h1 h2.1 h2.2 (by decide) (by decide)
  show Jvm.FP.Core.FFin (Jvm.FP.Core.fdiv (Jvm.FP.Core.i2f x) (Jvm.FP.Core.i2f b))
  rw [Jvm.FP.Core.fin_bits32]
  omega
theorem nn_fdiv {x b : Int32} (h : ¬ (b = 0)) : vf_n32 (FP.fdiv (FP.i2f x) (FP.i2f b)) := (vf32b _).mpr (quo_fin h).notNaN
theorem nn_addq {a : UInt32} {x b : Int32} (h : vf_n32 a) (hb : ¬ (b = 0)) : vf_n32 (FP.fadd a (FP.fdiv (FP.i2f x) (FP.i2f b))) := (vf32b _).mpr (Jvm.FP.Core.fadd_out ((vf32b _).mp h) (quo_fin hb))
theorem dquo_fin {x b : Int32} (h : ¬ (b = 0)) : Jvm.FP.Core.DFin (FP.ddiv (FP.i2d x) (FP.i2d b)) := by
  have h1 := Jvm.FP.Core.i2d_mag x
  have h2 := Jvm.FP.Core.i2d_big (Jvm.FP.Core.int32_ne h)
  have h3 := Jvm.FP.Core.ddiv_mag h1 h2.1 h2.2 (by decide) (by decide)
  show Jvm.FP.Core.DFin (Jvm.FP.Core.ddiv (Jvm.FP.Core.i2d x) (Jvm.FP.Core.i2d b))
  rw [Jvm.FP.Core.fin_bits]
  omega
theorem nn_ddiv {x b : Int32} (h : ¬ (b = 0)) : vf_n64 (FP.ddiv (FP.i2d x) (FP.i2d b)) := (vf64b _).mpr (dquo_fin h).notNaN
theorem nn_f2d {a : UInt32} (h : vf_n32 a) : vf_n64 (FP.f2d a) := by
  have h1 : Jvm.FP.Core.fIsNaN a = false := (vf32b _).mp h
  unfold FP.f2d
  rw [h1]
  refine (vf64 _).mpr ?_
  show Jvm.FP.Core.val64 (Jvm.FP.Core.f2d a) ≠ .nan
  rw [Jvm.FP.Core.val64_f2d]
  exact fun z => ((vf32 _).mp h) (Jvm.FP.Core.round_nan.mp z)
