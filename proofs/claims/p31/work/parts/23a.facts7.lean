/-! PURE, the same over the rows of 7 bells -/
theorem fs_7 : ((prms 7).all fun l => (List.range 6).all fun p => decide (fX3_swapped (pk l) (ii (p + 1)) = some (pk (sw (p + 1) l)))) = true := by decide +kernel
theorem fn_7 : ((prms 7).all fun l => decide (fX3_number (pk l) (ii 7) = some (ii (tl l)))) = true := by decide +kernel
theorem fp_7 : ((prms 7).all fun l => decide (fX3_packed (ii (tl l)) (ii 7) = some (pk l))) = true := by decide +kernel
theorem fz_7 : ((prms 7).all fun l => decide (tl l < 10000000) && decide (pkN l < 268435456)) = true := by decide +kernel
theorem fc_7 : (prms 7).length ≤ 5040 := by decide +kernel
theorem fo_7 : fX3_rounds (ii 7) = some (pk (rowL 7)) := by decide +kernel
