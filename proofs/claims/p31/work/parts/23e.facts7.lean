/-! PURE, 7 bells: places -/
theorem fl_7_1 : ((c7 1).all fun t => (List.range 7).all fun b => decide (fX3_placeOf (pk (1 :: t)) (ii (b + 1)) (ii 7) = some (ii (List.idxOf (b + 1) (1 :: t) + 1)))) = true := by decide +kernel
theorem fl_7_2 : ((c7 2).all fun t => (List.range 7).all fun b => decide (fX3_placeOf (pk (2 :: t)) (ii (b + 1)) (ii 7) = some (ii (List.idxOf (b + 1) (2 :: t) + 1)))) = true := by decide +kernel
theorem fl_7_3 : ((c7 3).all fun t => (List.range 7).all fun b => decide (fX3_placeOf (pk (3 :: t)) (ii (b + 1)) (ii 7) = some (ii (List.idxOf (b + 1) (3 :: t) + 1)))) = true := by decide +kernel
theorem fl_7_4 : ((c7 4).all fun t => (List.range 7).all fun b => decide (fX3_placeOf (pk (4 :: t)) (ii (b + 1)) (ii 7) = some (ii (List.idxOf (b + 1) (4 :: t) + 1)))) = true := by decide +kernel
theorem fl_7_5 : ((c7 5).all fun t => (List.range 7).all fun b => decide (fX3_placeOf (pk (5 :: t)) (ii (b + 1)) (ii 7) = some (ii (List.idxOf (b + 1) (5 :: t) + 1)))) = true := by decide +kernel
theorem fl_7_6 : ((c7 6).all fun t => (List.range 7).all fun b => decide (fX3_placeOf (pk (6 :: t)) (ii (b + 1)) (ii 7) = some (ii (List.idxOf (b + 1) (6 :: t) + 1)))) = true := by decide +kernel
theorem fl_7_7 : ((c7 7).all fun t => (List.range 7).all fun b => decide (fX3_placeOf (pk (7 :: t)) (ii (b + 1)) (ii 7) = some (ii (List.idxOf (b + 1) (7 :: t) + 1)))) = true := by decide +kernel
theorem fl_7 : ((prms 7).all fun l => (List.range 7).all fun b => decide (fX3_placeOf (pk (l)) (ii (b + 1)) (ii 7) = some (ii (List.idxOf (b + 1) (l) + 1)))) = true := all7 _ fl_7_1 fl_7_2 fl_7_3 fl_7_4 fl_7_5 fl_7_6 fl_7_7
