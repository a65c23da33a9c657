/-! PURE, the same, ranks and places -/
theorem fr_7 : ((prms 7).zipIdx.all fun q => decide (fX3_rank (pk q.1) (ii 7) = some (ii q.2))) = true := by decide +kernel
theorem fl_7 : ((prms 7).all fun l => (List.range 7).all fun b => decide (fX3_placeOf (pk l) (ii (b + 1)) (ii 7) = some (ii (List.idxOf (b + 1) l + 1)))) = true := by decide +kernel
