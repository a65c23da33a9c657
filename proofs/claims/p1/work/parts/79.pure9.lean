/-! PURE: the cases joined -/
theorem pl_rec (xs : Nat → Int32) (z0 : Int32) (z1 : Int32) (z2 : Int32) (z3 : Int32) (z4 : Int32) (z5 : Int32) (z6 : Int32) (z7 : Int32) (z8 : Int32) (z9 : Int32) (z10 : Int32) (z11 : Int32) (z12 : Int32) (z13 : (Nat → Int32)) (z14 : (Nat → Int32)) (z15 : (Nat → Int32)) (z16 : (Nat → Int32)) (z17 : Int32) (z18 : Int32) (z19 : (Nat → Int32)) (z20 : (Nat → Int32)) (z21 : (Nat → Int32)) (z22 : (Nat → Int32)) (z23 : Int32) (z24 : Int32) (z25 : Int32) (z26 : Int32) (z27 : Int32) (z28 : Int32) (z29 : (Nat → Int32)) (z30 : (Nat → Int32)) (z31 : (Nat → Int32)) (z32 : Nat) (z33 : (Nat → Int32)) (z34 : (Nat → Int64)) : fL_law_L23 3 xs pR6 fL_law_X23 2 ((0 : Int32) + (3 : Int32)) z0 z1 z2 z3 z4 z5 z6 z7 z8 z9 z10 z11 z12 z13 z14 z15 z16 z17 z18 z19 z20 z21 z22 z23 z24 z25 z26 z27 z28 z29 z30 z31 z32 z33 z34 = some () := by
  show fL_law_L23 3 xs pR6 fL_law_X23 (1 + 1) ((0 : Int32) + (3 : Int32)) z0 z1 z2 z3 z4 z5 z6 z7 z8 z9 z10 z11 z12 z13 z14 z15 z16 z17 z18 z19 z20 z21 z22 z23 z24 z25 z26 z27 z28 z29 z30 z31 z32 z33 z34 = some ()
  rw [fL_law_L23]
  exact (if_pos (by decide)).trans rfl
theorem pl_C0 (xs : Nat → Int32) : fL_law_C0 (0 : Int32) 3 (0 : Int32) (-1 : Int32) (0 : Int32) (0 : Int32) (fun _ => 0) (5 : Int32) (31 : Int32) (31 : Int32) (0 : Int32) (fun _ => 0) xs (5 : Int32) (0 : Int32) (0 : Int32) pF7 (fL_law_L23 3 xs pR6 fL_law_X23 2) (0 : Int32) (-1 : Int32) (0 : Int32) (-1 : Int32) (0 : Int32) (fun _ => 0) (fun _ => 0) (fun _ => 0) (0 : Int32) (0 : Int32) (fun _ => 0) (fun _ => 0) (fun _ => 0) (fun _ => 0) (0 : Int32) (0 : Int32) (fun _ => 0) (fun _ => 0) 0 (fun _ => 0) = some () := by
  unfold fL_law_C0
  simp only [pl_rec]
  exact q_0 (xs ((0 : Int32) + (1 : Int32)).toNatClampNeg)
theorem pl_C1 (xs : Nat → Int32) : fL_law_C1 (0 : Int32) 3 (0 : Int32) (-1 : Int32) (0 : Int32) pR6 (fun _ => 0) (0 : Int32) (fun _ => 0) (fun _ => 0) (5 : Int32) (31 : Int32) (31 : Int32) (0 : Int32) (fun _ => 0) (fun _ => 0) xs (5 : Int32) (0 : Int32) (fun _ => 0) (fL_law_L23 3 xs pR6 fL_law_X23 2) (0 : Int32) (-1 : Int32) (0 : Int32) (-1 : Int32) (0 : Int32) (0 : Int32) (0 : Int32) (fun _ => 0) (fun _ => 0) (fun _ => 0) (fun _ => 0) (0 : Int32) (0 : Int32) (0 : Int32) pF7 (fun _ => 0) 0 (fun _ => 0) = some () := by
  unfold fL_law_C1
  simp only [pl_rec]
  exact q_1 (xs ((0 : Int32) + (1 : Int32)).toNatClampNeg)
theorem pl_C2 (xs : Nat → Int32) : fL_law_C2 (0 : Int32) (-1 : Int32) (0 : Int32) pR6 (fun _ => 0) (0 : Int32) (fun _ => 0) (fun _ => 0) (5 : Int32) (31 : Int32) (31 : Int32) (0 : Int32) (fun _ => 0) (fun _ => 0) (0 : Int32) (fun _ => 0) (fL_law_L23 3 xs pR6 fL_law_X23 2) (0 : Int32) (0 : Int32) (-1 : Int32) (0 : Int32) (-1 : Int32) (0 : Int32) (0 : Int32) (0 : Int32) (fun _ => 0) (fun _ => 0) (fun _ => 0) (fun _ => 0) (5 : Int32) (0 : Int32) (0 : Int32) (0 : Int32) pF7 (fun _ => 0) 0 (fun _ => 0) = some () := by
  unfold fL_law_C2
  simp only [pl_rec]
  exact q_2
theorem pl_C3 (xs : Nat → Int32) : fL_law_C3 (0 : Int32) (-1 : Int32) (0 : Int32) pR6 (fun _ => 0) (0 : Int32) (fun _ => 0) (fun _ => 0) (5 : Int32) (31 : Int32) (31 : Int32) (0 : Int32) (fun _ => 0) (fun _ => 0) (0 : Int32) (fun _ => 0) (fL_law_L23 3 xs pR6 fL_law_X23 2) (0 : Int32) (0 : Int32) (-1 : Int32) (0 : Int32) (-1 : Int32) (0 : Int32) (0 : Int32) (0 : Int32) (fun _ => 0) (fun _ => 0) (fun _ => 0) (fun _ => 0) (5 : Int32) (0 : Int32) (0 : Int32) (0 : Int32) pF7 (fun _ => 0) 0 (fun _ => 0) = some () := by
  unfold fL_law_C3
  simp only [pl_rec]
  exact q_3
theorem pl_C4 (xs : Nat → Int32) : fL_law_C4 (0 : Int32) 3 (0 : Int32) (-1 : Int32) (0 : Int32) pR6 (fun _ => 0) (0 : Int32) (fun _ => 0) (fun _ => 0) (5 : Int32) (31 : Int32) (31 : Int32) (0 : Int32) (fun _ => 0) (fun _ => 0) xs (5 : Int32) pF7 (fL_law_L23 3 xs pR6 fL_law_X23 2) (0 : Int32) (-1 : Int32) (0 : Int32) (-1 : Int32) (0 : Int32) (0 : Int32) (0 : Int32) (fun _ => 0) (fun _ => 0) (fun _ => 0) (fun _ => 0) (0 : Int32) (0 : Int32) (0 : Int32) (0 : Int32) (fun _ => 0) (fun _ => 0) 0 (fun _ => 0) = some () := by
  unfold fL_law_C4
  simp only [pl_rec]
  exact q_4 (xs ((0 : Int32) + (1 : Int32)).toNatClampNeg) (xs ((0 : Int32) + (2 : Int32)).toNatClampNeg)
theorem pl_C5 (xs : Nat → Int32) : fL_law_C5 (0 : Int32) 3 (5 : Int32) xs (5 : Int32) (fL_law_L23 3 xs pR6 fL_law_X23 2) (31 : Int32) (31 : Int32) (0 : Int32) (-1 : Int32) (0 : Int32) (-1 : Int32) (0 : Int32) (0 : Int32) (0 : Int32) (0 : Int32) (-1 : Int32) (0 : Int32) (fun _ => 0) (fun _ => 0) (fun _ => 0) (fun _ => 0) (0 : Int32) (0 : Int32) (fun _ => 0) (fun _ => 0) (fun _ => 0) (fun _ => 0) (0 : Int32) (0 : Int32) (0 : Int32) (0 : Int32) (fun _ => 0) pF7 (fun _ => 0) 0 (fun _ => 0) (fun _ => 0) = some () := by
  unfold fL_law_C5
  simp only [pl_rec]
  exact q_5 (xs ((0 : Int32) + (1 : Int32)).toNatClampNeg)
theorem pl_C6 (xs : Nat → Int32) : fL_law_C6 (0 : Int32) 3 (0 : Int32) (5 : Int32) (31 : Int32) (31 : Int32) (0 : Int32) pR6 (fun _ => 0) (fun _ => 0) xs (5 : Int32) (0 : Int32) (0 : Int32) (fun _ => 0) pF7 (fL_law_L23 3 xs pR6 fL_law_X23 2) (0 : Int32) (-1 : Int32) (0 : Int32) (-1 : Int32) (0 : Int32) (0 : Int32) (-1 : Int32) (0 : Int32) (fun _ => 0) (fun _ => 0) (fun _ => 0) (0 : Int32) (0 : Int32) (fun _ => 0) (fun _ => 0) (fun _ => 0) (fun _ => 0) (0 : Int32) (0 : Int32) (fun _ => 0) 0 (fun _ => 0) = some () := by
  unfold fL_law_C6
  simp only [pl_rec]
  exact q_6 (xs ((0 : Int32) + (1 : Int32)).toNatClampNeg)
theorem pl_C7 (xs : Nat → Int32) : fL_law_C7 (0 : Int32) 3 (0 : Int32) pR6 (fun _ => 0) (fun _ => 0) xs (0 : Int32) (fun _ => 0) (fL_law_L23 3 xs pR6 fL_law_X23 2) (5 : Int32) (31 : Int32) (31 : Int32) (0 : Int32) (-1 : Int32) (0 : Int32) (-1 : Int32) (0 : Int32) (0 : Int32) (0 : Int32) (-1 : Int32) (0 : Int32) (fun _ => 0) (fun _ => 0) (fun _ => 0) (0 : Int32) (0 : Int32) (fun _ => 0) (fun _ => 0) (fun _ => 0) (fun _ => 0) (5 : Int32) (0 : Int32) (0 : Int32) (0 : Int32) pF7 (fun _ => 0) 0 (fun _ => 0) = some () := by
  unfold fL_law_C7
  simp only [pl_rec]
  exact q_7 (xs ((0 : Int32) + (1 : Int32)).toNatClampNeg)
theorem pl_C8 (xs : Nat → Int32) : fL_law_C8 (0 : Int32) 3 (5 : Int32) (fun _ => 0) xs (5 : Int32) (fL_law_L23 3 xs pR6 fL_law_X23 2) (31 : Int32) (31 : Int32) (0 : Int32) (-1 : Int32) (0 : Int32) (-1 : Int32) (0 : Int32) (0 : Int32) (0 : Int32) (0 : Int32) (-1 : Int32) (0 : Int32) (fun _ => 0) (fun _ => 0) (fun _ => 0) (fun _ => 0) (0 : Int32) (0 : Int32) (fun _ => 0) (fun _ => 0) (fun _ => 0) (fun _ => 0) (0 : Int32) (0 : Int32) (0 : Int32) (0 : Int32) (fun _ => 0) pF7 (fun _ => 0) 0 (fun _ => 0) = some () := by
  unfold fL_law_C8
  simp only [pl_rec]
  exact q_8 (xs ((0 : Int32) + (1 : Int32)).toNatClampNeg) (xs ((0 : Int32) + (2 : Int32)).toNatClampNeg)
theorem pl_C9 (xs : Nat → Int32) : fL_law_C9 (0 : Int32) 3 (5 : Int32) (31 : Int32) (31 : Int32) (0 : Int32) pR6 (fun _ => 0) (fun _ => 0) xs (5 : Int32) (0 : Int32) (fun _ => 0) pF7 (fL_law_L23 3 xs pR6 fL_law_X23 2) (0 : Int32) (-1 : Int32) (0 : Int32) (-1 : Int32) (0 : Int32) (0 : Int32) (0 : Int32) (-1 : Int32) (0 : Int32) (fun _ => 0) (fun _ => 0) (fun _ => 0) (0 : Int32) (0 : Int32) (fun _ => 0) (fun _ => 0) (fun _ => 0) (fun _ => 0) (0 : Int32) (0 : Int32) (0 : Int32) (fun _ => 0) 0 (fun _ => 0) = some () := by
  unfold fL_law_C9
  simp only [pl_rec]
  exact q_9 (xs ((0 : Int32) + (1 : Int32)).toNatClampNeg) (xs ((0 : Int32) + (2 : Int32)).toNatClampNeg)
theorem pl_C10 (xs : Nat → Int32) : fL_law_C10 (0 : Int32) 3 (5 : Int32) (fun _ => 0) xs (5 : Int32) (fL_law_L23 3 xs pR6 fL_law_X23 2) (31 : Int32) (31 : Int32) (0 : Int32) (-1 : Int32) (0 : Int32) (-1 : Int32) (0 : Int32) (0 : Int32) (0 : Int32) (0 : Int32) (-1 : Int32) (0 : Int32) (fun _ => 0) (fun _ => 0) (fun _ => 0) (fun _ => 0) (0 : Int32) (0 : Int32) (fun _ => 0) (fun _ => 0) (fun _ => 0) (fun _ => 0) (0 : Int32) (0 : Int32) (0 : Int32) (0 : Int32) (fun _ => 0) pF7 (fun _ => 0) 0 (fun _ => 0) = some () := by
  unfold fL_law_C10
  simp only [pl_rec]
  exact q_10 (xs ((0 : Int32) + (1 : Int32)).toNatClampNeg)
theorem pl_C11 (xs : Nat → Int32) : fL_law_C11 (0 : Int32) 3 (0 : Int32) (-1 : Int32) (0 : Int32) pR6 (fun _ => 0) (0 : Int32) (fun _ => 0) (fun _ => 0) (5 : Int32) (31 : Int32) (31 : Int32) (0 : Int32) (fun _ => 0) (fun _ => 0) xs (5 : Int32) (0 : Int32) (0 : Int32) (fun _ => 0) pF7 (fun _ => 0) (fL_law_L23 3 xs pR6 fL_law_X23 2) (0 : Int32) (-1 : Int32) (0 : Int32) (-1 : Int32) (0 : Int32) (0 : Int32) (0 : Int32) (fun _ => 0) (fun _ => 0) (fun _ => 0) (fun _ => 0) (0 : Int32) (0 : Int32) 0 (fun _ => 0) = some () := by
  unfold fL_law_C11
  simp only [pl_rec]
  exact q_11 (xs ((0 : Int32) + (1 : Int32)).toNatClampNeg)
theorem pl_C12 (xs : Nat → Int32) : fL_law_C12 (0 : Int32) (-1 : Int32) (0 : Int32) pR6 (fun _ => 0) (0 : Int32) (fun _ => 0) (fun _ => 0) (5 : Int32) (0 : Int32) (fun _ => 0) (0 : Int32) (fun _ => 0) (fL_law_L23 3 xs pR6 fL_law_X23 2) (0 : Int32) (31 : Int32) (31 : Int32) (0 : Int32) (-1 : Int32) (0 : Int32) (-1 : Int32) (0 : Int32) (fun _ => 0) (0 : Int32) (0 : Int32) (fun _ => 0) (fun _ => 0) (fun _ => 0) (fun _ => 0) (5 : Int32) (0 : Int32) (0 : Int32) (0 : Int32) (fun _ => 0) pF7 0 (fun _ => 0) = some () := by
  unfold fL_law_C12
  simp only [pl_rec]
  exact q_12
theorem pl_C13 (xs : Nat → Int32) : fL_law_C13 (0 : Int32) 3 (0 : Int32) pR6 (fun _ => 0) (fun _ => 0) xs (0 : Int32) (fun _ => 0) (fL_law_L23 3 xs pR6 fL_law_X23 2) (5 : Int32) (31 : Int32) (31 : Int32) (0 : Int32) (-1 : Int32) (0 : Int32) (-1 : Int32) (0 : Int32) (0 : Int32) (0 : Int32) (-1 : Int32) (0 : Int32) (fun _ => 0) (fun _ => 0) (fun _ => 0) (0 : Int32) (0 : Int32) (fun _ => 0) (fun _ => 0) (fun _ => 0) (fun _ => 0) (5 : Int32) (0 : Int32) (0 : Int32) (0 : Int32) (fun _ => 0) pF7 0 (fun _ => 0) = some () := by
  unfold fL_law_C13
  simp only [pl_rec]
  exact q_13 (xs ((0 : Int32) + (1 : Int32)).toNatClampNeg)
theorem pl_C14 (xs : Nat → Int32) : fL_law_C14 (0 : Int32) 3 (0 : Int32) (-1 : Int32) (0 : Int32) pR6 (fun _ => 0) (5 : Int32) (fun _ => 0) xs (5 : Int32) (0 : Int32) (0 : Int32) (fun _ => 0) pF7 (fun _ => 0) (fL_law_L23 3 xs pR6 fL_law_X23 2) (31 : Int32) (31 : Int32) (0 : Int32) (-1 : Int32) (0 : Int32) (0 : Int32) (0 : Int32) (-1 : Int32) (0 : Int32) (fun _ => 0) (fun _ => 0) (fun _ => 0) (0 : Int32) (0 : Int32) (fun _ => 0) (fun _ => 0) (fun _ => 0) (fun _ => 0) (0 : Int32) (0 : Int32) 0 (fun _ => 0) = some () := by
  unfold fL_law_C14
  simp only [pl_rec]
  exact q_14 (xs ((0 : Int32) + (1 : Int32)).toNatClampNeg)
theorem pl_C15 (xs : Nat → Int32) : fL_law_C15 (0 : Int32) 3 (0 : Int32) pR6 (fun _ => 0) (5 : Int32) (fun _ => 0) xs (5 : Int32) (0 : Int32) (0 : Int32) (fun _ => 0) pF7 (fun _ => 0) (fL_law_L23 3 xs pR6 fL_law_X23 2) (31 : Int32) (31 : Int32) (0 : Int32) (-1 : Int32) (0 : Int32) (-1 : Int32) (0 : Int32) (0 : Int32) (0 : Int32) (-1 : Int32) (0 : Int32) (fun _ => 0) (fun _ => 0) (fun _ => 0) (0 : Int32) (0 : Int32) (fun _ => 0) (fun _ => 0) (fun _ => 0) (fun _ => 0) (0 : Int32) (0 : Int32) 0 (fun _ => 0) = some () := by
  unfold fL_law_C15
  simp only [pl_rec]
  exact q_15 (xs ((0 : Int32) + (1 : Int32)).toNatClampNeg)
theorem pl_C16 (xs : Nat → Int32) : fL_law_C16 (0 : Int32) 3 (fun _ => 0) (5 : Int32) (fun _ => 0) xs (5 : Int32) (0 : Int32) (0 : Int32) (fun _ => 0) pF7 (fun _ => 0) (fL_law_L23 3 xs pR6 fL_law_X23 2) (31 : Int32) (31 : Int32) (0 : Int32) (-1 : Int32) (0 : Int32) (-1 : Int32) (0 : Int32) (0 : Int32) (0 : Int32) (0 : Int32) (-1 : Int32) (0 : Int32) (fun _ => 0) (fun _ => 0) (fun _ => 0) (0 : Int32) (0 : Int32) (fun _ => 0) (fun _ => 0) (fun _ => 0) (fun _ => 0) (0 : Int32) (0 : Int32) 0 (fun _ => 0) = some () := by
  unfold fL_law_C16
  simp only [pl_rec]
  exact q_16 (xs ((0 : Int32) + (1 : Int32)).toNatClampNeg)
theorem pl_C17 (xs : Nat → Int32) : fL_law_C17 (0 : Int32) 3 (0 : Int32) pR6 (fun _ => 0) (5 : Int32) (fun _ => 0) xs (5 : Int32) (0 : Int32) (0 : Int32) (fun _ => 0) pF7 (fun _ => 0) (fL_law_L23 3 xs pR6 fL_law_X23 2) (31 : Int32) (31 : Int32) (0 : Int32) (-1 : Int32) (0 : Int32) (-1 : Int32) (0 : Int32) (0 : Int32) (0 : Int32) (-1 : Int32) (0 : Int32) (fun _ => 0) (fun _ => 0) (fun _ => 0) (0 : Int32) (0 : Int32) (fun _ => 0) (fun _ => 0) (fun _ => 0) (fun _ => 0) (0 : Int32) (0 : Int32) 0 (fun _ => 0) = some () := by
  unfold fL_law_C17
  simp only [pl_rec]
  exact q_17 (xs ((0 : Int32) + (1 : Int32)).toNatClampNeg) (xs ((0 : Int32) + (2 : Int32)).toNatClampNeg)
theorem pl_C18 (xs : Nat → Int32) : fL_law_C18 (0 : Int32) 3 (0 : Int32) pR6 (fun _ => 0) (5 : Int32) (fun _ => 0) xs (5 : Int32) (0 : Int32) (0 : Int32) (fun _ => 0) pF7 (fun _ => 0) (fL_law_L23 3 xs pR6 fL_law_X23 2) (31 : Int32) (31 : Int32) (0 : Int32) (-1 : Int32) (0 : Int32) (-1 : Int32) (0 : Int32) (0 : Int32) (0 : Int32) (-1 : Int32) (0 : Int32) (fun _ => 0) (fun _ => 0) (fun _ => 0) (0 : Int32) (0 : Int32) (fun _ => 0) (fun _ => 0) (fun _ => 0) (fun _ => 0) (0 : Int32) (0 : Int32) 0 (fun _ => 0) = some () := by
  unfold fL_law_C18
  simp only [pl_rec]
  exact q_18 (xs ((0 : Int32) + (1 : Int32)).toNatClampNeg)
theorem pl_C19 (xs : Nat → Int32) : fL_law_C19 (0 : Int32) 3 (5 : Int32) (fun _ => 0) xs (5 : Int32) (fL_law_L23 3 xs pR6 fL_law_X23 2) (31 : Int32) (31 : Int32) (0 : Int32) (-1 : Int32) (0 : Int32) (-1 : Int32) (0 : Int32) (0 : Int32) (0 : Int32) (0 : Int32) (-1 : Int32) (0 : Int32) (fun _ => 0) (fun _ => 0) (fun _ => 0) (fun _ => 0) (0 : Int32) (0 : Int32) (fun _ => 0) (fun _ => 0) (fun _ => 0) (fun _ => 0) (0 : Int32) (0 : Int32) (0 : Int32) (0 : Int32) (fun _ => 0) pF7 (fun _ => 0) 0 (fun _ => 0) = some () := by
  unfold fL_law_C19
  simp only [pl_rec]
  exact q_19 (xs ((0 : Int32) + (1 : Int32)).toNatClampNeg)
theorem pl_C20 (xs : Nat → Int32) : fL_law_C20 (0 : Int32) 3 (0 : Int32) (0 : Int32) pR6 (fun _ => 0) (0 : Int32) (fun _ => 0) xs (5 : Int32) (0 : Int32) (0 : Int32) (fun _ => 0) pF7 (fun _ => 0) (fL_law_L23 3 xs pR6 fL_law_X23 2) (5 : Int32) (31 : Int32) (31 : Int32) (0 : Int32) (-1 : Int32) (0 : Int32) (-1 : Int32) (0 : Int32) (-1 : Int32) (0 : Int32) (fun _ => 0) (fun _ => 0) (fun _ => 0) (0 : Int32) (0 : Int32) (fun _ => 0) (fun _ => 0) (fun _ => 0) (fun _ => 0) (0 : Int32) (0 : Int32) 0 (fun _ => 0) = some () := by
  unfold fL_law_C20
  simp only [pl_rec]
  exact q_20 (xs ((0 : Int32) + (1 : Int32)).toNatClampNeg) (xs ((0 : Int32) + (2 : Int32)).toNatClampNeg)
theorem pl_C21 (xs : Nat → Int32) : fL_law_C21 (0 : Int32) pR6 (fun _ => 0) (5 : Int32) (5 : Int32) (0 : Int32) (0 : Int32) (fun _ => 0) pF7 (fun _ => 0) (fL_law_L23 3 xs pR6 fL_law_X23 2) (0 : Int32) (31 : Int32) (31 : Int32) (0 : Int32) (-1 : Int32) (0 : Int32) (-1 : Int32) (0 : Int32) (0 : Int32) (0 : Int32) (-1 : Int32) (0 : Int32) (fun _ => 0) (fun _ => 0) (fun _ => 0) (0 : Int32) (0 : Int32) (fun _ => 0) (fun _ => 0) (fun _ => 0) (fun _ => 0) (0 : Int32) (0 : Int32) 0 (fun _ => 0) (fun _ => 0) = some () := by
  unfold fL_law_C21
  simp only [pl_rec]
  exact q_21
theorem pl_C22 (xs : Nat → Int32) : fL_law_C22 (0 : Int32) 3 (5 : Int32) (31 : Int32) (31 : Int32) (0 : Int32) pR6 (fun _ => 0) (0 : Int32) (-1 : Int32) (0 : Int32) (fun _ => 0) (0 : Int32) (-1 : Int32) (0 : Int32) (fun _ => 0) (0 : Int32) (fun _ => 0) (fun _ => 0) (fun _ => 0) xs (5 : Int32) (0 : Int32) (0 : Int32) (0 : Int32) (fun _ => 0) pF7 0 (fun _ => 0) (fL_law_L23 3 xs pR6 fL_law_X23 2) (0 : Int32) (-1 : Int32) (0 : Int32) (0 : Int32) (fun _ => 0) (fun _ => 0) (fun _ => 0) (0 : Int32) (fun _ => 0) = some () := by
  unfold fL_law_C22
  simp only [pl_rec]
  exact q_22 (xs ((0 : Int32) + (1 : Int32)).toNatClampNeg)
theorem pl_C23 (xs : Nat → Int32) : fL_law_C23 (0 : Int32) 3 (5 : Int32) (31 : Int32) (31 : Int32) (0 : Int32) pR6 (fun _ => 0) (0 : Int32) (-1 : Int32) (0 : Int32) (fun _ => 0) (0 : Int32) (-1 : Int32) (0 : Int32) (fun _ => 0) (0 : Int32) (fun _ => 0) (fun _ => 0) (fun _ => 0) xs (5 : Int32) (0 : Int32) (0 : Int32) (0 : Int32) (fun _ => 0) pF7 0 (fun _ => 0) (fL_law_L23 3 xs pR6 fL_law_X23 2) (0 : Int32) (-1 : Int32) (0 : Int32) (0 : Int32) (fun _ => 0) (fun _ => 0) (fun _ => 0) (0 : Int32) (fun _ => 0) = some () := by
  unfold fL_law_C23
  simp only [pl_rec]
  exact q_23 (xs ((0 : Int32) + (1 : Int32)).toNatClampNeg)
theorem pl_C24 (xs : Nat → Int32) : fL_law_C24 (0 : Int32) 3 (5 : Int32) (31 : Int32) (31 : Int32) (0 : Int32) pR6 (fun _ => 0) (0 : Int32) (-1 : Int32) (0 : Int32) (fun _ => 0) (0 : Int32) (-1 : Int32) (0 : Int32) (fun _ => 0) (0 : Int32) (fun _ => 0) (fun _ => 0) (fun _ => 0) xs (5 : Int32) (0 : Int32) (0 : Int32) (0 : Int32) (fun _ => 0) pF7 0 (fun _ => 0) (fL_law_L23 3 xs pR6 fL_law_X23 2) (0 : Int32) (-1 : Int32) (0 : Int32) (0 : Int32) (fun _ => 0) (fun _ => 0) (fun _ => 0) (0 : Int32) (fun _ => 0) = some () := by
  unfold fL_law_C24
  simp only [pl_rec]
  exact q_24 (xs ((0 : Int32) + (1 : Int32)).toNatClampNeg) (xs ((0 : Int32) + (2 : Int32)).toNatClampNeg)
theorem pl_C25 (xs : Nat → Int32) : fL_law_C25 (0 : Int32) 3 (0 : Int32) pR6 (fun _ => 0) (5 : Int32) (31 : Int32) (31 : Int32) (0 : Int32) (fun _ => 0) (fun _ => 0) xs (5 : Int32) (0 : Int32) (0 : Int32) (fun _ => 0) pF7 (fun _ => 0) (fL_law_L23 3 xs pR6 fL_law_X23 2) (0 : Int32) (-1 : Int32) (0 : Int32) (-1 : Int32) (0 : Int32) (0 : Int32) (-1 : Int32) (0 : Int32) (fun _ => 0) (fun _ => 0) (0 : Int32) (0 : Int32) (fun _ => 0) (fun _ => 0) (fun _ => 0) (fun _ => 0) (0 : Int32) (0 : Int32) 0 (fun _ => 0) = some () := by
  unfold fL_law_C25
  simp only [pl_rec]
  exact q_25 (xs ((0 : Int32) + (1 : Int32)).toNatClampNeg) (xs ((0 : Int32) + (2 : Int32)).toNatClampNeg)
theorem pl_C26 (xs : Nat → Int32) : fL_law_C26 (0 : Int32) 3 (0 : Int32) pR6 (fun _ => 0) (fun _ => 0) (5 : Int32) (31 : Int32) (31 : Int32) (0 : Int32) (fun _ => 0) (fun _ => 0) xs (5 : Int32) (0 : Int32) (0 : Int32) (fun _ => 0) pF7 (fun _ => 0) (fL_law_L23 3 xs pR6 fL_law_X23 2) (0 : Int32) (-1 : Int32) (0 : Int32) (-1 : Int32) (0 : Int32) (0 : Int32) (-1 : Int32) (0 : Int32) (fun _ => 0) (0 : Int32) (0 : Int32) (fun _ => 0) (fun _ => 0) (fun _ => 0) (fun _ => 0) (0 : Int32) (0 : Int32) 0 (fun _ => 0) = some () := by
  unfold fL_law_C26
  simp only [pl_rec]
  exact q_26 (xs ((0 : Int32) + (1 : Int32)).toNatClampNeg)
theorem pl_C27 (xs : Nat → Int32) : fL_law_C27 (0 : Int32) (-1 : Int32) (0 : Int32) pR6 (fun _ => 0) (0 : Int32) (fun _ => 0) (fun _ => 0) (5 : Int32) (31 : Int32) (31 : Int32) (0 : Int32) (fun _ => 0) (fun _ => 0) (0 : Int32) (-1 : Int32) (0 : Int32) (fun _ => 0) (0 : Int32) (fun _ => 0) (fun _ => 0) (5 : Int32) (0 : Int32) (0 : Int32) (fun _ => 0) pF7 (fun _ => 0) (fL_law_L23 3 xs pR6 fL_law_X23 2) (0 : Int32) (fun _ => 0) = some () := by
  unfold fL_law_C27
  simp only [pl_rec]
  exact q_27
theorem p_no28 (X : Int32) (h0 : ¬ X < (0 : Int32)) (h27 : ¬ (27 : Int32) < X) (n0 : ¬ X = (0 : Int32)) (n1 : ¬ X = (1 : Int32)) (n2 : ¬ X = (2 : Int32)) (n3 : ¬ X = (3 : Int32)) (n4 : ¬ X = (4 : Int32)) (n5 : ¬ X = (5 : Int32)) (n6 : ¬ X = (6 : Int32)) (n7 : ¬ X = (7 : Int32)) (n8 : ¬ X = (8 : Int32)) (n9 : ¬ X = (9 : Int32)) (n10 : ¬ X = (10 : Int32)) (n11 : ¬ X = (11 : Int32)) (n12 : ¬ X = (12 : Int32)) (n13 : ¬ X = (13 : Int32)) (n14 : ¬ X = (14 : Int32)) (n15 : ¬ X = (15 : Int32)) (n16 : ¬ X = (16 : Int32)) (n17 : ¬ X = (17 : Int32)) (n18 : ¬ X = (18 : Int32)) (n19 : ¬ X = (19 : Int32)) (n20 : ¬ X = (20 : Int32)) (n21 : ¬ X = (21 : Int32)) (n22 : ¬ X = (22 : Int32)) (n23 : ¬ X = (23 : Int32)) (n24 : ¬ X = (24 : Int32)) (n25 : ¬ X = (25 : Int32)) (n26 : ¬ X = (26 : Int32)) (n27 : ¬ X = (27 : Int32)) : False := by
  have a0 : 0 ≤ X.toInt := by rw [Int32.not_lt] at h0; exact Int32.le_iff_toInt_le.mp h0
  have a1 : X.toInt ≤ 27 := by rw [Int32.not_lt] at h27; exact Int32.le_iff_toInt_le.mp h27
  have m0 : X.toInt ≠ 0 := fun h => n0 (Int32.toInt.inj h)
  have m1 : X.toInt ≠ 1 := fun h => n1 (Int32.toInt.inj h)
  have m2 : X.toInt ≠ 2 := fun h => n2 (Int32.toInt.inj h)
  have m3 : X.toInt ≠ 3 := fun h => n3 (Int32.toInt.inj h)
  have m4 : X.toInt ≠ 4 := fun h => n4 (Int32.toInt.inj h)
  have m5 : X.toInt ≠ 5 := fun h => n5 (Int32.toInt.inj h)
  have m6 : X.toInt ≠ 6 := fun h => n6 (Int32.toInt.inj h)
  have m7 : X.toInt ≠ 7 := fun h => n7 (Int32.toInt.inj h)
  have m8 : X.toInt ≠ 8 := fun h => n8 (Int32.toInt.inj h)
  have m9 : X.toInt ≠ 9 := fun h => n9 (Int32.toInt.inj h)
  have m10 : X.toInt ≠ 10 := fun h => n10 (Int32.toInt.inj h)
  have m11 : X.toInt ≠ 11 := fun h => n11 (Int32.toInt.inj h)
  have m12 : X.toInt ≠ 12 := fun h => n12 (Int32.toInt.inj h)
  have m13 : X.toInt ≠ 13 := fun h => n13 (Int32.toInt.inj h)
  have m14 : X.toInt ≠ 14 := fun h => n14 (Int32.toInt.inj h)
  have m15 : X.toInt ≠ 15 := fun h => n15 (Int32.toInt.inj h)
  have m16 : X.toInt ≠ 16 := fun h => n16 (Int32.toInt.inj h)
  have m17 : X.toInt ≠ 17 := fun h => n17 (Int32.toInt.inj h)
  have m18 : X.toInt ≠ 18 := fun h => n18 (Int32.toInt.inj h)
  have m19 : X.toInt ≠ 19 := fun h => n19 (Int32.toInt.inj h)
  have m20 : X.toInt ≠ 20 := fun h => n20 (Int32.toInt.inj h)
  have m21 : X.toInt ≠ 21 := fun h => n21 (Int32.toInt.inj h)
  have m22 : X.toInt ≠ 22 := fun h => n22 (Int32.toInt.inj h)
  have m23 : X.toInt ≠ 23 := fun h => n23 (Int32.toInt.inj h)
  have m24 : X.toInt ≠ 24 := fun h => n24 (Int32.toInt.inj h)
  have m25 : X.toInt ≠ 25 := fun h => n25 (Int32.toInt.inj h)
  have m26 : X.toInt ≠ 26 := fun h => n26 (Int32.toInt.inj h)
  have m27 : X.toInt ≠ 27 := fun h => n27 (Int32.toInt.inj h)
  omega
theorem pl_law3 (xs : Nat → Int32) : fL_law_L23 3 xs pR6 fL_law_X23 (2 + 1) (0 : Int32) (5 : Int32) (31 : Int32) (31 : Int32) (0 : Int32) (-1 : Int32) (0 : Int32) (-1 : Int32) (0 : Int32) (0 : Int32) (0 : Int32) (0 : Int32) (-1 : Int32) (0 : Int32) (fun _ => 0) (fun _ => 0) (fun _ => 0) (fun _ => 0) (0 : Int32) (0 : Int32) (fun _ => 0) (fun _ => 0) (fun _ => 0) (fun _ => 0) (0 : Int32) (5 : Int32) (0 : Int32) (0 : Int32) (0 : Int32) (0 : Int32) (fun _ => 0) pF7 (fun _ => 0) 0 (fun _ => 0) (fun _ => 0) = some () := by
  rw [fL_law_L23]
  refine (if_neg (by decide)).trans ?_
  refine (if_neg (by decide)).trans ?_
  by_cases c0 : ((xs (0 : Int32).toNatClampNeg) &&& (31 : Int32)) < (0 : Int32)
  · exact (if_pos c0).trans (pl_rec xs _ _ _ _ _ _ _ _ _ _ _ _ _ _ _ _ _ _ _ _ _ _ _ _ _ _ _ _ _ _ _ _ _ _ _)
  refine (if_neg c0).trans ?_
  by_cases c27 : (27 : Int32) < ((xs (0 : Int32).toNatClampNeg) &&& (31 : Int32))
  · exact (if_pos c27).trans (pl_rec xs _ _ _ _ _ _ _ _ _ _ _ _ _ _ _ _ _ _ _ _ _ _ _ _ _ _ _ _ _ _ _ _ _ _ _)
  refine (if_neg c27).trans ?_
  by_cases k0 : ((xs (0 : Int32).toNatClampNeg) &&& (31 : Int32)) = (0 : Int32)
  · exact (if_pos k0).trans (pl_C0 xs)
  refine (if_neg k0).trans ?_
  by_cases k1 : ((xs (0 : Int32).toNatClampNeg) &&& (31 : Int32)) = (1 : Int32)
  · exact (if_pos k1).trans (pl_C1 xs)
  refine (if_neg k1).trans ?_
  by_cases k2 : ((xs (0 : Int32).toNatClampNeg) &&& (31 : Int32)) = (2 : Int32)
  · exact (if_pos k2).trans (pl_C2 xs)
  refine (if_neg k2).trans ?_
  by_cases k3 : ((xs (0 : Int32).toNatClampNeg) &&& (31 : Int32)) = (3 : Int32)
  · exact (if_pos k3).trans (pl_C3 xs)
  refine (if_neg k3).trans ?_
  by_cases k4 : ((xs (0 : Int32).toNatClampNeg) &&& (31 : Int32)) = (4 : Int32)
  · exact (if_pos k4).trans (pl_C4 xs)
  refine (if_neg k4).trans ?_
  by_cases k5 : ((xs (0 : Int32).toNatClampNeg) &&& (31 : Int32)) = (5 : Int32)
  · exact (if_pos k5).trans (pl_C5 xs)
  refine (if_neg k5).trans ?_
  by_cases k6 : ((xs (0 : Int32).toNatClampNeg) &&& (31 : Int32)) = (6 : Int32)
  · exact (if_pos k6).trans (pl_C6 xs)
  refine (if_neg k6).trans ?_
  by_cases k7 : ((xs (0 : Int32).toNatClampNeg) &&& (31 : Int32)) = (7 : Int32)
  · exact (if_pos k7).trans (pl_C7 xs)
  refine (if_neg k7).trans ?_
  by_cases k8 : ((xs (0 : Int32).toNatClampNeg) &&& (31 : Int32)) = (8 : Int32)
  · exact (if_pos k8).trans (pl_C8 xs)
  refine (if_neg k8).trans ?_
  by_cases k9 : ((xs (0 : Int32).toNatClampNeg) &&& (31 : Int32)) = (9 : Int32)
  · exact (if_pos k9).trans (pl_C9 xs)
  refine (if_neg k9).trans ?_
  by_cases k10 : ((xs (0 : Int32).toNatClampNeg) &&& (31 : Int32)) = (10 : Int32)
  · exact (if_pos k10).trans (pl_C10 xs)
  refine (if_neg k10).trans ?_
  by_cases k11 : ((xs (0 : Int32).toNatClampNeg) &&& (31 : Int32)) = (11 : Int32)
  · exact (if_pos k11).trans (pl_C11 xs)
  refine (if_neg k11).trans ?_
  by_cases k12 : ((xs (0 : Int32).toNatClampNeg) &&& (31 : Int32)) = (12 : Int32)
  · exact (if_pos k12).trans (pl_C12 xs)
  refine (if_neg k12).trans ?_
  by_cases k13 : ((xs (0 : Int32).toNatClampNeg) &&& (31 : Int32)) = (13 : Int32)
  · exact (if_pos k13).trans (pl_C13 xs)
  refine (if_neg k13).trans ?_
  by_cases k14 : ((xs (0 : Int32).toNatClampNeg) &&& (31 : Int32)) = (14 : Int32)
  · exact (if_pos k14).trans (pl_C14 xs)
  refine (if_neg k14).trans ?_
  by_cases k15 : ((xs (0 : Int32).toNatClampNeg) &&& (31 : Int32)) = (15 : Int32)
  · exact (if_pos k15).trans (pl_C15 xs)
  refine (if_neg k15).trans ?_
  by_cases k16 : ((xs (0 : Int32).toNatClampNeg) &&& (31 : Int32)) = (16 : Int32)
  · exact (if_pos k16).trans (pl_C16 xs)
  refine (if_neg k16).trans ?_
  by_cases k17 : ((xs (0 : Int32).toNatClampNeg) &&& (31 : Int32)) = (17 : Int32)
  · exact (if_pos k17).trans (pl_C17 xs)
  refine (if_neg k17).trans ?_
  by_cases k18 : ((xs (0 : Int32).toNatClampNeg) &&& (31 : Int32)) = (18 : Int32)
  · exact (if_pos k18).trans (pl_C18 xs)
  refine (if_neg k18).trans ?_
  by_cases k19 : ((xs (0 : Int32).toNatClampNeg) &&& (31 : Int32)) = (19 : Int32)
  · exact (if_pos k19).trans (pl_C19 xs)
  refine (if_neg k19).trans ?_
  by_cases k20 : ((xs (0 : Int32).toNatClampNeg) &&& (31 : Int32)) = (20 : Int32)
  · exact (if_pos k20).trans (pl_C20 xs)
  refine (if_neg k20).trans ?_
  by_cases k21 : ((xs (0 : Int32).toNatClampNeg) &&& (31 : Int32)) = (21 : Int32)
  · exact (if_pos k21).trans (pl_C21 xs)
  refine (if_neg k21).trans ?_
  by_cases k22 : ((xs (0 : Int32).toNatClampNeg) &&& (31 : Int32)) = (22 : Int32)
  · exact (if_pos k22).trans (pl_C22 xs)
  refine (if_neg k22).trans ?_
  by_cases k23 : ((xs (0 : Int32).toNatClampNeg) &&& (31 : Int32)) = (23 : Int32)
  · exact (if_pos k23).trans (pl_C23 xs)
  refine (if_neg k23).trans ?_
  by_cases k24 : ((xs (0 : Int32).toNatClampNeg) &&& (31 : Int32)) = (24 : Int32)
  · exact (if_pos k24).trans (pl_C24 xs)
  refine (if_neg k24).trans ?_
  by_cases k25 : ((xs (0 : Int32).toNatClampNeg) &&& (31 : Int32)) = (25 : Int32)
  · exact (if_pos k25).trans (pl_C25 xs)
  refine (if_neg k25).trans ?_
  by_cases k26 : ((xs (0 : Int32).toNatClampNeg) &&& (31 : Int32)) = (26 : Int32)
  · exact (if_pos k26).trans (pl_C26 xs)
  refine (if_neg k26).trans ?_
  by_cases k27 : ((xs (0 : Int32).toNatClampNeg) &&& (31 : Int32)) = (27 : Int32)
  · exact (if_pos k27).trans (pl_C27 xs)
  refine (if_neg k27).trans ?_
  exact (p_no28 _ c0 c27 k0 k1 k2 k3 k4 k5 k6 k7 k8 k9 k10 k11 k12 k13 k14 k15 k16 k17 k18 k19 k20 k21 k22 k23 k24 k25 k26 k27).elim
theorem pl_law0 (L : Nat) (hL : L < 3) (xs : Nat → Int32) : fL_law_L23 L xs pR6 fL_law_X23 (2 + 1) (0 : Int32) (5 : Int32) (31 : Int32) (31 : Int32) (0 : Int32) (-1 : Int32) (0 : Int32) (-1 : Int32) (0 : Int32) (0 : Int32) (0 : Int32) (0 : Int32) (-1 : Int32) (0 : Int32) (fun _ => 0) (fun _ => 0) (fun _ => 0) (fun _ => 0) (0 : Int32) (0 : Int32) (fun _ => 0) (fun _ => 0) (fun _ => 0) (fun _ => 0) (0 : Int32) (5 : Int32) (0 : Int32) (0 : Int32) (0 : Int32) (0 : Int32) (fun _ => 0) pF7 (fun _ => 0) 0 (fun _ => 0) (fun _ => 0) = some () := by
  rw [fL_law_L23]
  have h : ((Int32.ofNat L) - (3 : Int32)) < (0 : Int32) := by
    rcases (show L = 0 ∨ L = 1 ∨ L = 2 by omega) with h | h | h <;> subst h <;> decide
  exact (if_pos h).trans rfl
theorem pl_law (L : Nat) (hL : L ≤ 3) (xs : Nat → Int32) : fL_law L xs = some () := by
  unfold fL_law
  rw [pi_6, pi_7]
  rcases Nat.lt_or_ge L 3 with h | h
  · exact pl_law0 L h xs
  · have h3 : L = 3 := by omega
    subst h3
    exact pl_law3 xs
