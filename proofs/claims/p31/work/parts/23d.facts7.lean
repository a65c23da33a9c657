/-! PURE, 7 bells: ranks -/
theorem fr_7_1 : (((c7 1).zipIdx 0).all fun q => decide (fX3_rank (pk (1 :: q.1)) (ii 7) = some (ii q.2))) = true := by decide +kernel
theorem fr_7_2 : (((c7 2).zipIdx 720).all fun q => decide (fX3_rank (pk (2 :: q.1)) (ii 7) = some (ii q.2))) = true := by decide +kernel
theorem fr_7_3 : (((c7 3).zipIdx 1440).all fun q => decide (fX3_rank (pk (3 :: q.1)) (ii 7) = some (ii q.2))) = true := by decide +kernel
theorem fr_7_4 : (((c7 4).zipIdx 2160).all fun q => decide (fX3_rank (pk (4 :: q.1)) (ii 7) = some (ii q.2))) = true := by decide +kernel
theorem fr_7_5 : (((c7 5).zipIdx 2880).all fun q => decide (fX3_rank (pk (5 :: q.1)) (ii 7) = some (ii q.2))) = true := by decide +kernel
theorem fr_7_6 : (((c7 6).zipIdx 3600).all fun q => decide (fX3_rank (pk (6 :: q.1)) (ii 7) = some (ii q.2))) = true := by decide +kernel
theorem fr_7_7 : (((c7 7).zipIdx 4320).all fun q => decide (fX3_rank (pk (7 :: q.1)) (ii 7) = some (ii q.2))) = true := by decide +kernel
theorem zall (P : List Nat × Nat → Bool) (a k : Nat) (xs : List (List Nat)) : ((xs.map (fun t => a :: t)).zipIdx k).all P = (xs.zipIdx k).all (fun q => P (a :: q.1, q.2)) := by
  induction xs generalizing k with
  | nil => rfl
  | cons x xs ih =>
    rw [List.map_cons, List.zipIdx_cons, List.zipIdx_cons, List.all_cons, List.all_cons, ih]
theorem fr_7 : ((prms 7).zipIdx.all fun q => decide (fX3_rank (pk q.1) (ii 7) = some (ii q.2))) = true := by
  rw [prms7]
  simp only [List.zipIdx_append, List.all_append, zall, List.length_map, c7_1, c7_2, c7_3, c7_4, c7_5, c7_6, c7_7, List.zipIdx_nil, List.all_nil, Bool.and_true, Nat.zero_add, Nat.reduceAdd, fr_7_1, fr_7_2, fr_7_3, fr_7_4, fr_7_5, fr_7_6, fr_7_7, Bool.and_self]
