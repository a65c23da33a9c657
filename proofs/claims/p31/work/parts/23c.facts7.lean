/-! PURE, 7 bells: music -/
theorem fm_7_1 : ((c7 1).all fun t => mC 7 (1 :: t)) = true := by decide +kernel
theorem fm_7_2 : ((c7 2).all fun t => mC 7 (2 :: t)) = true := by decide +kernel
theorem fm_7_3 : ((c7 3).all fun t => mC 7 (3 :: t)) = true := by decide +kernel
theorem fm_7_4 : ((c7 4).all fun t => mC 7 (4 :: t)) = true := by decide +kernel
theorem fm_7_5 : ((c7 5).all fun t => mC 7 (5 :: t)) = true := by decide +kernel
theorem fm_7_6 : ((c7 6).all fun t => mC 7 (6 :: t)) = true := by decide +kernel
theorem fm_7_7 : ((c7 7).all fun t => mC 7 (7 :: t)) = true := by decide +kernel
theorem fm_7 : ((prms 7).all fun l => mC 7 (l)) = true := all7 _ fm_7_1 fm_7_2 fm_7_3 fm_7_4 fm_7_5 fm_7_6 fm_7_7
