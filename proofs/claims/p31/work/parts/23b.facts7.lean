/-! PURE, the same, music -/
theorem fm_7 : ((prms 7).all fun l => mC 7 l) = true := by decide +kernel
