/-! PURE, the same over the rows of 7 bells, by their first bell -/
def c7 (a : Nat) : List (List Nat) := permsF 6 ((rowL 7).erase a)
theorem prms7 : prms 7 = (c7 1).map (fun t => 1 :: t) ++ ((c7 2).map (fun t => 2 :: t) ++ ((c7 3).map (fun t => 3 :: t) ++ ((c7 4).map (fun t => 4 :: t) ++ ((c7 5).map (fun t => 5 :: t) ++ ((c7 6).map (fun t => 6 :: t) ++ ((c7 7).map (fun t => 7 :: t) ++ ([]))))))) := rfl
theorem all7 (P : List Nat → Bool) (h1 : (c7 1).all (fun t => P (1 :: t)) = true) (h2 : (c7 2).all (fun t => P (2 :: t)) = true) (h3 : (c7 3).all (fun t => P (3 :: t)) = true) (h4 : (c7 4).all (fun t => P (4 :: t)) = true) (h5 : (c7 5).all (fun t => P (5 :: t)) = true) (h6 : (c7 6).all (fun t => P (6 :: t)) = true) (h7 : (c7 7).all (fun t => P (7 :: t)) = true) : (prms 7).all P = true := by
  rw [prms7]
  simp only [List.all_append, List.all_map, Function.comp_def, h1, h2, h3, h4, h5, h6, h7, List.all_nil, Bool.and_self]
theorem fo_7 : fX3_rounds (ii 7) = some (pk (rowL 7)) := by decide +kernel
theorem c7_1 : (c7 1).length = 720 := by decide +kernel
theorem c7_2 : (c7 2).length = 720 := by decide +kernel
theorem c7_3 : (c7 3).length = 720 := by decide +kernel
theorem c7_4 : (c7 4).length = 720 := by decide +kernel
theorem c7_5 : (c7 5).length = 720 := by decide +kernel
theorem c7_6 : (c7 6).length = 720 := by decide +kernel
theorem c7_7 : (c7 7).length = 720 := by decide +kernel
theorem fc_7 : (prms 7).length ≤ 5040 := by
  rw [prms7]
  simp only [List.length_append, List.length_map, List.length_nil, c7_1, c7_2, c7_3, c7_4, c7_5, c7_6, c7_7]
  omega
theorem fs_7_1 : ((c7 1).all fun t => (List.range 6).all fun p => decide (fX3_swapped (pk (1 :: t)) (ii (p + 1)) = some (pk (sw (p + 1) (1 :: t))))) = true := by decide +kernel
theorem fs_7_2 : ((c7 2).all fun t => (List.range 6).all fun p => decide (fX3_swapped (pk (2 :: t)) (ii (p + 1)) = some (pk (sw (p + 1) (2 :: t))))) = true := by decide +kernel
theorem fs_7_3 : ((c7 3).all fun t => (List.range 6).all fun p => decide (fX3_swapped (pk (3 :: t)) (ii (p + 1)) = some (pk (sw (p + 1) (3 :: t))))) = true := by decide +kernel
theorem fs_7_4 : ((c7 4).all fun t => (List.range 6).all fun p => decide (fX3_swapped (pk (4 :: t)) (ii (p + 1)) = some (pk (sw (p + 1) (4 :: t))))) = true := by decide +kernel
theorem fs_7_5 : ((c7 5).all fun t => (List.range 6).all fun p => decide (fX3_swapped (pk (5 :: t)) (ii (p + 1)) = some (pk (sw (p + 1) (5 :: t))))) = true := by decide +kernel
theorem fs_7_6 : ((c7 6).all fun t => (List.range 6).all fun p => decide (fX3_swapped (pk (6 :: t)) (ii (p + 1)) = some (pk (sw (p + 1) (6 :: t))))) = true := by decide +kernel
theorem fs_7_7 : ((c7 7).all fun t => (List.range 6).all fun p => decide (fX3_swapped (pk (7 :: t)) (ii (p + 1)) = some (pk (sw (p + 1) (7 :: t))))) = true := by decide +kernel
theorem fs_7 : ((prms 7).all fun l => (List.range 6).all fun p => decide (fX3_swapped (pk (l)) (ii (p + 1)) = some (pk (sw (p + 1) (l))))) = true := all7 _ fs_7_1 fs_7_2 fs_7_3 fs_7_4 fs_7_5 fs_7_6 fs_7_7
theorem fn_7_1 : ((c7 1).all fun t => decide (fX3_number (pk (1 :: t)) (ii 7) = some (ii (tl (1 :: t))))) = true := by decide +kernel
theorem fn_7_2 : ((c7 2).all fun t => decide (fX3_number (pk (2 :: t)) (ii 7) = some (ii (tl (2 :: t))))) = true := by decide +kernel
theorem fn_7_3 : ((c7 3).all fun t => decide (fX3_number (pk (3 :: t)) (ii 7) = some (ii (tl (3 :: t))))) = true := by decide +kernel
theorem fn_7_4 : ((c7 4).all fun t => decide (fX3_number (pk (4 :: t)) (ii 7) = some (ii (tl (4 :: t))))) = true := by decide +kernel
theorem fn_7_5 : ((c7 5).all fun t => decide (fX3_number (pk (5 :: t)) (ii 7) = some (ii (tl (5 :: t))))) = true := by decide +kernel
theorem fn_7_6 : ((c7 6).all fun t => decide (fX3_number (pk (6 :: t)) (ii 7) = some (ii (tl (6 :: t))))) = true := by decide +kernel
theorem fn_7_7 : ((c7 7).all fun t => decide (fX3_number (pk (7 :: t)) (ii 7) = some (ii (tl (7 :: t))))) = true := by decide +kernel
theorem fn_7 : ((prms 7).all fun l => decide (fX3_number (pk (l)) (ii 7) = some (ii (tl (l))))) = true := all7 _ fn_7_1 fn_7_2 fn_7_3 fn_7_4 fn_7_5 fn_7_6 fn_7_7
