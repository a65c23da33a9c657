/-! PURE, 7 bells: reading -/
theorem fp_7_1 : ((c7 1).all fun t => decide (fX3_packed (ii (tl (1 :: t))) (ii 7) = some (pk (1 :: t)))) = true := by decide +kernel
theorem fp_7_2 : ((c7 2).all fun t => decide (fX3_packed (ii (tl (2 :: t))) (ii 7) = some (pk (2 :: t)))) = true := by decide +kernel
theorem fp_7_3 : ((c7 3).all fun t => decide (fX3_packed (ii (tl (3 :: t))) (ii 7) = some (pk (3 :: t)))) = true := by decide +kernel
theorem fp_7_4 : ((c7 4).all fun t => decide (fX3_packed (ii (tl (4 :: t))) (ii 7) = some (pk (4 :: t)))) = true := by decide +kernel
theorem fp_7_5 : ((c7 5).all fun t => decide (fX3_packed (ii (tl (5 :: t))) (ii 7) = some (pk (5 :: t)))) = true := by decide +kernel
theorem fp_7_6 : ((c7 6).all fun t => decide (fX3_packed (ii (tl (6 :: t))) (ii 7) = some (pk (6 :: t)))) = true := by decide +kernel
theorem fp_7_7 : ((c7 7).all fun t => decide (fX3_packed (ii (tl (7 :: t))) (ii 7) = some (pk (7 :: t)))) = true := by decide +kernel
theorem fp_7 : ((prms 7).all fun l => decide (fX3_packed (ii (tl (l))) (ii 7) = some (pk (l)))) = true := all7 _ fp_7_1 fp_7_2 fp_7_3 fp_7_4 fp_7_5 fp_7_6 fp_7_7
theorem fz_7_1 : ((c7 1).all fun t => decide (tl (1 :: t) < 10000000) && decide (pkN (1 :: t) < 268435456)) = true := by decide +kernel
theorem fz_7_2 : ((c7 2).all fun t => decide (tl (2 :: t) < 10000000) && decide (pkN (2 :: t) < 268435456)) = true := by decide +kernel
theorem fz_7_3 : ((c7 3).all fun t => decide (tl (3 :: t) < 10000000) && decide (pkN (3 :: t) < 268435456)) = true := by decide +kernel
theorem fz_7_4 : ((c7 4).all fun t => decide (tl (4 :: t) < 10000000) && decide (pkN (4 :: t) < 268435456)) = true := by decide +kernel
theorem fz_7_5 : ((c7 5).all fun t => decide (tl (5 :: t) < 10000000) && decide (pkN (5 :: t) < 268435456)) = true := by decide +kernel
theorem fz_7_6 : ((c7 6).all fun t => decide (tl (6 :: t) < 10000000) && decide (pkN (6 :: t) < 268435456)) = true := by decide +kernel
theorem fz_7_7 : ((c7 7).all fun t => decide (tl (7 :: t) < 10000000) && decide (pkN (7 :: t) < 268435456)) = true := by decide +kernel
theorem fz_7 : ((prms 7).all fun l => decide (tl (l) < 10000000) && decide (pkN (l) < 268435456)) = true := all7 _ fz_7_1 fz_7_2 fz_7_3 fz_7_4 fz_7_5 fz_7_6 fz_7_7
