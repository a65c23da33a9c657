/-! PURE: what the kernel evaluates, dearer -/
theorem pq_0 (a : Int32) (h1 : (4 : Int32).toInt ≤ a.toInt) (h2 : a.toInt < 4 + (4 : Nat)) : pB0 a = some () := p_fin (Q := fun a => pB0 a = some ()) 4 4 (by decide +kernel) a h1 h2
theorem pq_1 (a : Int32) (h1 : (0 : Int32).toInt ≤ a.toInt) (h2 : a.toInt < 0 + (32 : Nat)) : pB1 a = some () := p_fin (Q := fun a => pB1 a = some ()) 0 32 (by decide +kernel) a h1 h2
theorem q_27 : pB27 = some () := by decide +kernel
theorem pq_41 (b : Int32) (h1 : (0 : Int32).toInt ≤ b.toInt) (h2 : b.toInt < 0 + (32 : Nat)) : pB4 (1 : Int32) b = some () := p_fin (Q := fun b => pB4 (1 : Int32) b = some ()) 0 32 (by decide +kernel) b h1 h2
theorem pq_42 (b : Int32) (h1 : (0 : Int32).toInt ≤ b.toInt) (h2 : b.toInt < 0 + (32 : Nat)) : pB4 (2 : Int32) b = some () := p_fin (Q := fun b => pB4 (2 : Int32) b = some ()) 0 32 (by decide +kernel) b h1 h2
theorem pq_22 (a : Int32) (h1 : (0 : Int32).toInt ≤ a.toInt) (h2 : a.toInt < 0 + (6 : Nat)) : pB22 a = some () := p_fin (Q := fun a => pB22 a = some ()) 0 6 (by decide +kernel) a h1 h2
theorem pq_23 (a : Int32) (h1 : (0 : Int32).toInt ≤ a.toInt) (h2 : a.toInt < 0 + (6 : Nat)) : pB23 a = some () := p_fin (Q := fun a => pB23 a = some ()) 0 6 (by decide +kernel) a h1 h2
theorem pq_8 : ∀ a ∈ pRows, ∀ k, k < 32 → pB8 a (Int32.ofInt (0 + ((k : Nat) : Int))) = some () := by decide +kernel
