/-! the float laws stand in the rest of the library: this part, the first, sends the round there at once -/
theorem w0_wide (a b : UInt64) : FP.Core.dcmp b a = (FP.Core.dcmp a b).map Ordering.swap := FP.Core.dcmp_swap a b
