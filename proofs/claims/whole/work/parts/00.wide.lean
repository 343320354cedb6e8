/-- asks for the whole library at once (part 24 needs it), so that a new machine's first round doesn't read 24 parts twice -/
theorem z_wide (z : Int32) (hz : z ≠ 0) : ¬ (FP.i2d z = 0 ∧ False) := fun q => (fun _ : True => q.2) (by have := @FP.Core.i2d_ne_zero; trivial)
