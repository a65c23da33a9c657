/-! PURE, what the kernel evaluates over all rows of 4, 5 and 6 bells -/
def mC (n : Nat) (l : List Nat) : Bool := match fX3_musicOf (pk l) (ii n), fX3_crossedPairs (pk l) (ii n) with
  | some m, some c => decide ((m = 0 ∨ ¬ m < (3 : Int32)) ∧ ¬ m < 0 ∧ ¬ ii (2 * n) < m ∧ (m = ii (2 * n) ↔ (tl l = tl (rowL n) ∨ c = ii (n * (n - 1) / 2))))
  | _, _ => false
theorem fs_4 : ((prms 4).all fun l => (List.range 3).all fun p => decide (fX3_swapped (pk l) (ii (p + 1)) = some (pk (sw (p + 1) l)))) = true := by decide +kernel
theorem fn_4 : ((prms 4).all fun l => decide (fX3_number (pk l) (ii 4) = some (ii (tl l)))) = true := by decide +kernel
theorem fp_4 : ((prms 4).all fun l => decide (fX3_packed (ii (tl l)) (ii 4) = some (pk l))) = true := by decide +kernel
theorem fm_4 : ((prms 4).all fun l => mC 4 l) = true := by decide +kernel
theorem fr_4 : ((prms 4).zipIdx.all fun q => decide (fX3_rank (pk q.1) (ii 4) = some (ii q.2))) = true := by decide +kernel
theorem fl_4 : ((prms 4).all fun l => (List.range 4).all fun b => decide (fX3_placeOf (pk l) (ii (b + 1)) (ii 4) = some (ii (List.idxOf (b + 1) l + 1)))) = true := by decide +kernel
theorem fz_4 : ((prms 4).all fun l => decide (tl l < 10000000) && decide (pkN l < 268435456)) = true := by decide +kernel
theorem fc_4 : (prms 4).length ≤ 5040 := by decide +kernel
theorem fo_4 : fX3_rounds (ii 4) = some (pk (rowL 4)) := by decide +kernel
theorem fs_5 : ((prms 5).all fun l => (List.range 4).all fun p => decide (fX3_swapped (pk l) (ii (p + 1)) = some (pk (sw (p + 1) l)))) = true := by decide +kernel
theorem fn_5 : ((prms 5).all fun l => decide (fX3_number (pk l) (ii 5) = some (ii (tl l)))) = true := by decide +kernel
theorem fp_5 : ((prms 5).all fun l => decide (fX3_packed (ii (tl l)) (ii 5) = some (pk l))) = true := by decide +kernel
theorem fm_5 : ((prms 5).all fun l => mC 5 l) = true := by decide +kernel
theorem fr_5 : ((prms 5).zipIdx.all fun q => decide (fX3_rank (pk q.1) (ii 5) = some (ii q.2))) = true := by decide +kernel
theorem fl_5 : ((prms 5).all fun l => (List.range 5).all fun b => decide (fX3_placeOf (pk l) (ii (b + 1)) (ii 5) = some (ii (List.idxOf (b + 1) l + 1)))) = true := by decide +kernel
theorem fz_5 : ((prms 5).all fun l => decide (tl l < 10000000) && decide (pkN l < 268435456)) = true := by decide +kernel
theorem fc_5 : (prms 5).length ≤ 5040 := by decide +kernel
theorem fo_5 : fX3_rounds (ii 5) = some (pk (rowL 5)) := by decide +kernel
theorem fs_6 : ((prms 6).all fun l => (List.range 5).all fun p => decide (fX3_swapped (pk l) (ii (p + 1)) = some (pk (sw (p + 1) l)))) = true := by decide +kernel
theorem fn_6 : ((prms 6).all fun l => decide (fX3_number (pk l) (ii 6) = some (ii (tl l)))) = true := by decide +kernel
theorem fp_6 : ((prms 6).all fun l => decide (fX3_packed (ii (tl l)) (ii 6) = some (pk l))) = true := by decide +kernel
theorem fm_6 : ((prms 6).all fun l => mC 6 l) = true := by decide +kernel
theorem fr_6 : ((prms 6).zipIdx.all fun q => decide (fX3_rank (pk q.1) (ii 6) = some (ii q.2))) = true := by decide +kernel
theorem fl_6 : ((prms 6).all fun l => (List.range 6).all fun b => decide (fX3_placeOf (pk l) (ii (b + 1)) (ii 6) = some (ii (List.idxOf (b + 1) l + 1)))) = true := by decide +kernel
theorem fz_6 : ((prms 6).all fun l => decide (tl l < 10000000) && decide (pkN l < 268435456)) = true := by decide +kernel
theorem fc_6 : (prms 6).length ≤ 5040 := by decide +kernel
theorem fo_6 : fX3_rounds (ii 6) = some (pk (rowL 6)) := by decide +kernel
