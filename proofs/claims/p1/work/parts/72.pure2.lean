/-! PURE: what the kernel evaluates -/
theorem q_2 : pB2 = some () := by decide +kernel
theorem q_3 : pB3 = some () := by decide +kernel
theorem q_12 : pB12 = some () := by decide +kernel
theorem q_21 : pB21 = some () := by decide +kernel
theorem pq_5 (a : Int32) (h1 : (0 : Int32).toInt ≤ a.toInt) (h2 : a.toInt < 0 + (32 : Nat)) : pB5 a = some () := p_fin (Q := fun a => pB5 a = some ()) 0 32 (by decide +kernel) a h1 h2
theorem pq_6 (a : Int32) (h1 : (0 : Int32).toInt ≤ a.toInt) (h2 : a.toInt < 0 + (6 : Nat)) : pB6 a = some () := p_fin (Q := fun a => pB6 a = some ()) 0 6 (by decide +kernel) a h1 h2
theorem pq_11 (a : Int32) (h1 : (0 : Int32).toInt ≤ a.toInt) (h2 : a.toInt < 0 + (3 : Nat)) : pB11 a = some () := p_fin (Q := fun a => pB11 a = some ()) 0 3 (by decide +kernel) a h1 h2
theorem pq_14 (a : Int32) (h1 : (0 : Int32).toInt ≤ a.toInt) (h2 : a.toInt < 0 + (8 : Nat)) : pB14 a = some () := p_fin (Q := fun a => pB14 a = some ()) 0 8 (by decide +kernel) a h1 h2
theorem pq_18 (a : Int32) (h1 : (1 : Int32).toInt ≤ a.toInt) (h2 : a.toInt < 1 + (5 : Nat)) : pB18 a = some () := p_fin (Q := fun a => pB18 a = some ()) 1 5 (by decide +kernel) a h1 h2
theorem pq_26 (a : Int32) (h1 : (0 : Int32).toInt ≤ a.toInt) (h2 : a.toInt < 0 + (3 : Nat)) : pB26 a = some () := p_fin (Q := fun a => pB26 a = some ()) 0 3 (by decide +kernel) a h1 h2
theorem p_rows0 : ∃ f, fX7_rows_ (5 : Int32) (0 : Int32) (0 : Int32) (fun _ => 0) pF7 (fun _ => 0) = some (f, 0) := p_ex (by decide +kernel)
theorem p_rowY : ∀ a ∈ pRows, (fX3_packed a (5 : Int32)).isSome = true ∧ fX3_packed a (5 : Int32) ≠ some (-1 : Int32) ∧ fX7_isRow (5 : Int32) a = some (1 : Int32) := by decide +kernel
theorem pq_10 : ∀ a ∈ pRows, pB10 a = some () := by decide +kernel
theorem pq_16 : ∀ a ∈ pRows, pB16 a = some () := by decide +kernel
theorem pq_19 : ∀ a ∈ pRows, pB19 a = some () := by decide +kernel
theorem pq_9 : ∀ a ∈ pRows, ∀ k, k < 3 → pB9 a (Int32.ofInt (0 + ((k : Nat) : Int))) = some () := by decide +kernel
theorem pq_24a : ∀ k, k < 6 → ((fX4_look pR6.2.2.2.1 (fun _ => 0) (0 : Int32) (-1 : Int32) (0 : Int32) pR6.2.2.2.2.1 (fun _ => 0) (0 : Int32) pR6.2.2.2.2.2 (fun _ => 0) 5040 (fun _ => 0) (5 : Int32) (31 : Int32) (31 : Int32) (0 : Int32) pR6.1 (fun _ => 0) (Int32.ofInt (0 + ((k : Nat) : Int)))).map (fun r => r.2.2.1) = some (0 : Int32) ∧ fX7_search (5 : Int32) (0 : Int32) (fun _ => 0) pF7 (Int32.ofInt (0 + ((k : Nat) : Int))) = some () ∧ fX6_refuseNoLeads (Int32.ofInt (0 + ((k : Nat) : Int))) = some (.inr ()) ∧ fX7_isIn (Int32.ofInt (0 + ((k : Nat) : Int))) (0 : Int32) (5 : Int32) = some (1 : Int32)) := by decide +kernel
