/-! a row that names a constant of the FP library, so that the claim is compiled over the wide library from its first round -/
theorem wide_q : Jvm.FP.Core.b64.qmin = -1074 := by decide
