/-! PURE: ranges, digits, changes and rows of five bells -/
theorem pg_1 : (((0 : Int32) + (1 : Int32)) < 0 ∨ 3 ≤ ((0 : Int32) + (1 : Int32)).toNatClampNeg) = False := eq_false (by decide)
theorem pg_2 : (((0 : Int32) + (2 : Int32)) < 0 ∨ 3 ≤ ((0 : Int32) + (2 : Int32)).toNatClampNeg) = False := eq_false (by decide)
theorem pe_10 : ((1 : Int32) = 0) = False := eq_false (by decide)
theorem pe_20 : ((2 : Int32) = 0) = False := eq_false (by decide)
theorem pe_21 : ((2 : Int32) = 1) = False := eq_false (by decide)
theorem pe_12 : ((1 : Int32) = 2) = False := eq_false (by decide)
theorem ps_1 : ("java/lang/IndexOutOfBoundsException" = "java/lang/IllegalArgumentException") = False := eq_false (by decide)
theorem ps_2 : ("java/lang/IllegalArgumentException" = "java/lang/IndexOutOfBoundsException") = False := eq_false (by decide)
theorem ps_3 : ("java/lang/IllegalStateException" = "java/lang/IllegalArgumentException") = False := eq_false (by decide)
theorem p_rng (lo hi a : Int32) : a < lo ∨ hi < a ∨ (lo.toInt ≤ a.toInt ∧ a.toInt ≤ hi.toInt) := by
  rw [Int32.lt_iff_toInt_lt, Int32.lt_iff_toInt_lt]
  omega
theorem p_nlt {lo hi a : Int32} (h : hi < a) (hl : lo.toInt ≤ hi.toInt) : ¬ a < lo := by
  rw [Int32.lt_iff_toInt_lt] at h ⊢
  omega
theorem p_nlt32 {a : Int32} (h : (31 : Int32) < a) : ¬ a < (32 : Int32) := by
  rw [Int32.lt_iff_toInt_lt] at h ⊢
  rw [show (31 : Int32).toInt = 31 from rfl] at h
  rw [show (32 : Int32).toInt = 32 from rfl]
  omega
theorem p_m1 {a : Int32} (h : ¬ a < 0) : ((0 : Int32) - (1 : Int32)) < a := by
  rw [Int32.lt_iff_toInt_lt] at h ⊢
  rw [show ((0 : Int32) - (1 : Int32)).toInt = -1 from rfl]
  rw [show (0 : Int32).toInt = 0 from rfl] at h
  omega
theorem p_fin {Q : Int32 → Prop} (lo : Int) (n : Nat) (h : ∀ k, k < n → Q (Int32.ofInt (lo + (k : Int)))) (a : Int32) (h1 : lo ≤ a.toInt) (h2 : a.toInt < lo + n) : Q a := by
  have h3 := h (a.toInt - lo).toNat (by omega)
  rw [show lo + ((a.toInt - lo).toNat : Int) = a.toInt by omega, Int32.ofInt_toInt] at h3
  exact h3
theorem p_ex {α β : Type} {X : Option (α × β)} {b : β} (h : X.map (fun r => r.2) = some b) : ∃ f, X = some (f, b) := by
  cases X with
  | none => cases h
  | some r =>
    have h : some r.2 = some b := h
    cases h
    exact ⟨r.1, rfl⟩
theorem p_bm {z : Int} (h1 : -2147483648 ≤ z) (h2 : z < 2147483648) : z.bmod (2 ^ 32) = z := Int.bmod_eq_of_le (by omega) (by omega)
theorem p_tdiv (z : Int) : (0 ≤ z ∧ z.tdiv 10 = z / 10) ∨ (z < 0 ∧ z.tdiv 10 = -((-z) / 10)) := by
  by_cases h : z < 0
  · right
    have e : (-(-z)).tdiv 10 = -((-z).tdiv 10) := Int.neg_tdiv _ _
    have e2 : (-z).tdiv 10 = (-z) / 10 := Int.tdiv_eq_ediv_of_nonneg (by omega)
    rw [Int.neg_neg, e2] at e
    exact ⟨h, e⟩
  · left
    exact ⟨by omega, Int.tdiv_eq_ediv_of_nonneg (by omega)⟩
theorem p_div (x : Int32) : (x / (10 : Int32)).toInt = x.toInt.tdiv 10 := by
  have h1 := x.le_toInt
  have h2 := x.toInt_lt
  rw [Int32.toInt_div, show (10 : Int32).toInt = 10 from rfl]
  rcases p_tdiv x.toInt with ⟨h, e⟩ | ⟨h, e⟩
  · rw [e]; exact p_bm (by omega) (by omega)
  · rw [e]; exact p_bm (by omega) (by omega)
theorem p_dig (x : Int32) : (x - x / (10 : Int32) * (10 : Int32)).toInt = x.toInt - x.toInt.tdiv 10 * 10 := by
  have h1 := x.le_toInt
  have h2 := x.toInt_lt
  rw [Int32.toInt_sub, Int32.toInt_mul, p_div, show (10 : Int32).toInt = 10 from rfl]
  rcases p_tdiv x.toInt with ⟨h, e⟩ | ⟨h, e⟩
  · rw [e, p_bm (z := x.toInt / 10 * 10) (by omega) (by omega)]; exact p_bm (by omega) (by omega)
  · rw [e, p_bm (z := -(-x.toInt / 10) * 10) (by omega) (by omega)]; exact p_bm (by omega) (by omega)
/-- the digits of a number, from its end: one to five each, and nothing left -/
def pG0 (r : Int32) : Prop := r = 0
def pG1 (r : Int32) : Prop := ¬ (r - r / (10 : Int32) * (10 : Int32)) < (1 : Int32) ∧ ¬ (5 : Int32) < (r - r / (10 : Int32) * (10 : Int32)) ∧ pG0 (r / (10 : Int32))
def pG2 (r : Int32) : Prop := ¬ (r - r / (10 : Int32) * (10 : Int32)) < (1 : Int32) ∧ ¬ (5 : Int32) < (r - r / (10 : Int32) * (10 : Int32)) ∧ pG1 (r / (10 : Int32))
def pG3 (r : Int32) : Prop := ¬ (r - r / (10 : Int32) * (10 : Int32)) < (1 : Int32) ∧ ¬ (5 : Int32) < (r - r / (10 : Int32) * (10 : Int32)) ∧ pG2 (r / (10 : Int32))
def pG4 (r : Int32) : Prop := ¬ (r - r / (10 : Int32) * (10 : Int32)) < (1 : Int32) ∧ ¬ (5 : Int32) < (r - r / (10 : Int32) * (10 : Int32)) ∧ pG3 (r / (10 : Int32))
def pG5 (r : Int32) : Prop := ¬ (r - r / (10 : Int32) * (10 : Int32)) < (1 : Int32) ∧ ¬ (5 : Int32) < (r - r / (10 : Int32) * (10 : Int32)) ∧ pG4 (r / (10 : Int32))
theorem pc_0 (n : Nat) (r met acc : Int32) (h : ¬ pG0 r) : fX3_packed_L10 (5 : Int32) fX3_packed_X10 (n + 0 + 1) (0 : Int32) r met acc = some (-1 : Int32) := by
  rw [fX3_packed_L10]
  refine (if_pos (by decide)).trans ?_
  rw [fX3_packed_X10]
  exact if_neg h
theorem pc_1 (n : Nat) (r met acc : Int32) (h : ¬ pG1 r) : fX3_packed_L10 (5 : Int32) fX3_packed_X10 (n + 1 + 1) (1 : Int32) r met acc = some (-1 : Int32) := by
  rw [fX3_packed_L10]
  refine (if_neg (by decide)).trans ?_
  by_cases h1 : (r - r / (10 : Int32) * (10 : Int32)) < (1 : Int32)
  · exact if_pos h1
  refine (if_neg h1).trans ?_
  by_cases h2 : (5 : Int32) < (r - r / (10 : Int32) * (10 : Int32))
  · exact if_pos h2
  refine (if_neg h2).trans ?_
  have h3 : ¬ pG0 (r / (10 : Int32)) := fun hg => h ⟨h1, h2, hg⟩
  by_cases h4 : (met &&& ((1 : Int32) <<< ((r - r / (10 : Int32) * (10 : Int32)) &&& 31))) = 0
  · refine (if_pos h4).trans ?_
    rw [fX3_shift, Option.bind_some, show (1 : Int32) + (-1 : Int32) = (0 : Int32) from by decide]
    exact pc_0 n _ _ _ h3
  · exact if_neg h4
theorem pc_2 (n : Nat) (r met acc : Int32) (h : ¬ pG2 r) : fX3_packed_L10 (5 : Int32) fX3_packed_X10 (n + 2 + 1) (2 : Int32) r met acc = some (-1 : Int32) := by
  rw [fX3_packed_L10]
  refine (if_neg (by decide)).trans ?_
  by_cases h1 : (r - r / (10 : Int32) * (10 : Int32)) < (1 : Int32)
  · exact if_pos h1
  refine (if_neg h1).trans ?_
  by_cases h2 : (5 : Int32) < (r - r / (10 : Int32) * (10 : Int32))
  · exact if_pos h2
  refine (if_neg h2).trans ?_
  have h3 : ¬ pG1 (r / (10 : Int32)) := fun hg => h ⟨h1, h2, hg⟩
  by_cases h4 : (met &&& ((1 : Int32) <<< ((r - r / (10 : Int32) * (10 : Int32)) &&& 31))) = 0
  · refine (if_pos h4).trans ?_
    rw [fX3_shift, Option.bind_some, show (2 : Int32) + (-1 : Int32) = (1 : Int32) from by decide]
    exact pc_1 n _ _ _ h3
  · exact if_neg h4
theorem pc_3 (n : Nat) (r met acc : Int32) (h : ¬ pG3 r) : fX3_packed_L10 (5 : Int32) fX3_packed_X10 (n + 3 + 1) (3 : Int32) r met acc = some (-1 : Int32) := by
  rw [fX3_packed_L10]
  refine (if_neg (by decide)).trans ?_
  by_cases h1 : (r - r / (10 : Int32) * (10 : Int32)) < (1 : Int32)
  · exact if_pos h1
  refine (if_neg h1).trans ?_
  by_cases h2 : (5 : Int32) < (r - r / (10 : Int32) * (10 : Int32))
  · exact if_pos h2
  refine (if_neg h2).trans ?_
  have h3 : ¬ pG2 (r / (10 : Int32)) := fun hg => h ⟨h1, h2, hg⟩
  by_cases h4 : (met &&& ((1 : Int32) <<< ((r - r / (10 : Int32) * (10 : Int32)) &&& 31))) = 0
  · refine (if_pos h4).trans ?_
    rw [fX3_shift, Option.bind_some, show (3 : Int32) + (-1 : Int32) = (2 : Int32) from by decide]
    exact pc_2 n _ _ _ h3
  · exact if_neg h4
theorem pc_4 (n : Nat) (r met acc : Int32) (h : ¬ pG4 r) : fX3_packed_L10 (5 : Int32) fX3_packed_X10 (n + 4 + 1) (4 : Int32) r met acc = some (-1 : Int32) := by
  rw [fX3_packed_L10]
  refine (if_neg (by decide)).trans ?_
  by_cases h1 : (r - r / (10 : Int32) * (10 : Int32)) < (1 : Int32)
  · exact if_pos h1
  refine (if_neg h1).trans ?_
  by_cases h2 : (5 : Int32) < (r - r / (10 : Int32) * (10 : Int32))
  · exact if_pos h2
  refine (if_neg h2).trans ?_
  have h3 : ¬ pG3 (r / (10 : Int32)) := fun hg => h ⟨h1, h2, hg⟩
  by_cases h4 : (met &&& ((1 : Int32) <<< ((r - r / (10 : Int32) * (10 : Int32)) &&& 31))) = 0
  · refine (if_pos h4).trans ?_
    rw [fX3_shift, Option.bind_some, show (4 : Int32) + (-1 : Int32) = (3 : Int32) from by decide]
    exact pc_3 n _ _ _ h3
  · exact if_neg h4
theorem pc_5 (n : Nat) (r met acc : Int32) (h : ¬ pG5 r) : fX3_packed_L10 (5 : Int32) fX3_packed_X10 (n + 5 + 1) (5 : Int32) r met acc = some (-1 : Int32) := by
  rw [fX3_packed_L10]
  refine (if_neg (by decide)).trans ?_
  by_cases h1 : (r - r / (10 : Int32) * (10 : Int32)) < (1 : Int32)
  · exact if_pos h1
  refine (if_neg h1).trans ?_
  by_cases h2 : (5 : Int32) < (r - r / (10 : Int32) * (10 : Int32))
  · exact if_pos h2
  refine (if_neg h2).trans ?_
  have h3 : ¬ pG4 (r / (10 : Int32)) := fun hg => h ⟨h1, h2, hg⟩
  by_cases h4 : (met &&& ((1 : Int32) <<< ((r - r / (10 : Int32) * (10 : Int32)) &&& 31))) = 0
  · refine (if_pos h4).trans ?_
    rw [fX3_shift, Option.bind_some, show (5 : Int32) + (-1 : Int32) = (4 : Int32) from by decide]
    exact pc_4 n _ _ _ h3
  · exact if_neg h4
theorem p_noPack (a : Int32) (h : ¬ pG5 a) : fX3_packed a (5 : Int32) = some (-1 : Int32) := by
  unfold fX3_packed
  exact pc_5 994 a 0 0 h
/-! the reference's reading -/
theorem pd_9 (r : Int32) (h : 0 ≤ r.toInt) : 0 ≤ (r - r / (10 : Int32) * (10 : Int32)).toInt ∧ (r - r / (10 : Int32) * (10 : Int32)).toInt < 0 + (10 : Nat) := by
  rw [p_dig]
  rcases p_tdiv r.toInt with ⟨h, e⟩ | ⟨h, e⟩
  · rw [e]; omega
  · omega
theorem pd_q (r : Int32) (h : 0 ≤ r.toInt) : 0 ≤ (r / (10 : Int32)).toInt := by
  rw [p_div]
  rcases p_tdiv r.toInt with ⟨h, e⟩ | ⟨h, e⟩
  · rw [e]; omega
  · omega
theorem pd_in (d : Int32) (h1 : 0 ≤ d.toInt) (h2 : d.toInt < 0 + (10 : Nat)) : ¬ (d < 0 ∨ 10 ≤ d.toNatClampNeg) ∧ ((d - (1 : Int32)) < 0 ∨ ((5 : Int32) - (1 : Int32)) < (d - (1 : Int32)) ∨ (¬ (d - (1 : Int32)) < 0 ∧ ¬ ((5 : Int32) - (1 : Int32)) < (d - (1 : Int32)) ∧ ¬ d < (1 : Int32) ∧ ¬ (5 : Int32) < d)) :=
  p_fin (Q := fun d => ¬ (d < 0 ∨ 10 ≤ d.toNatClampNeg) ∧ ((d - (1 : Int32)) < 0 ∨ ((5 : Int32) - (1 : Int32)) < (d - (1 : Int32)) ∨ (¬ (d - (1 : Int32)) < 0 ∧ ¬ ((5 : Int32) - (1 : Int32)) < (d - (1 : Int32)) ∧ ¬ d < (1 : Int32) ∧ ¬ (5 : Int32) < d))) 0 10 (by decide) d h1 h2
theorem pr_f (n : Nat) (k r : Int32) (f g : Nat → Int32) : fX7_read_L34b (5 : Int32) (fX7_read_X34b (5 : Int32)) (n + 1) k (0 : Int32) r f g = some ((fun _ => 0), 0) := by
  have hx : fX7_read_X34b (5 : Int32) k (0 : Int32) r f g = some ((fun _ => 0), 0) := by
    rw [fX7_read_X34b]
    exact if_pos rfl
  rw [fX7_read_L34b]
  by_cases h : k < 0
  · exact (if_pos h).trans hx
  · exact (if_neg h).trans ((if_pos rfl).trans hx)
theorem pr_0 (n : Nat) (r : Int32) (f g : Nat → Int32) (hr : 0 ≤ r.toInt) (h : ¬ pG0 r) : fX7_read_L34b (5 : Int32) (fX7_read_X34b (5 : Int32)) (n + 0 + 1) (-1 : Int32) (1 : Int32) r f g = some ((fun _ => 0), 0) := by
  rw [fX7_read_L34b]
  refine (if_pos (by decide)).trans ?_
  rw [fX7_read_X34b]
  refine (if_neg (by decide)).trans ?_
  exact if_neg h
theorem pr_1 (n : Nat) (r : Int32) (f g : Nat → Int32) (hr : 0 ≤ r.toInt) (h : ¬ pG1 r) : fX7_read_L34b (5 : Int32) (fX7_read_X34b (5 : Int32)) (n + 1 + 1) (0 : Int32) (1 : Int32) r f g = some ((fun _ => 0), 0) := by
  obtain ⟨d1, d2⟩ := pd_9 r hr
  obtain ⟨d3, d4⟩ := pd_in _ d1 d2
  rw [fX7_read_L34b]
  refine (if_neg (by decide)).trans ?_
  refine (if_neg (by decide)).trans ?_
  refine (if_neg (by decide)).trans ?_
  refine (if_neg (by decide)).trans ?_
  have hu : (upd f (0 : Int32).toNatClampNeg ((r - r / (10 : Int32) * (10 : Int32)) - (1 : Int32))) (0 : Int32).toNatClampNeg = (r - r / (10 : Int32) * (10 : Int32)) - (1 : Int32) := if_pos rfl
  rw [hu, fX7_isIn]
  rcases d4 with d4 | d4 | ⟨d4, d5, d6, d7⟩
  · rw [if_pos d4, Option.bind_some]
    refine (if_pos rfl).trans ?_
    refine (if_neg d3).trans ?_
    exact pr_f _ _ _ _ _
  · by_cases d8 : ((r - r / (10 : Int32) * (10 : Int32)) - (1 : Int32)) < 0
    · rw [if_pos d8, Option.bind_some]
      refine (if_pos rfl).trans ?_
      refine (if_neg d3).trans ?_
      exact pr_f _ _ _ _ _
    · rw [if_neg d8, if_pos d4, Option.bind_some]
      refine (if_pos rfl).trans ?_
      refine (if_neg d3).trans ?_
      exact pr_f _ _ _ _ _
  · rw [if_neg d4, if_neg d5, Option.bind_some]
    refine (if_neg (by decide)).trans ?_
    refine (if_neg d3).trans ?_
    by_cases d8 : (g (r - r / (10 : Int32) * (10 : Int32)).toNatClampNeg) = 0
    · refine (if_pos d8).trans ?_
      refine (if_neg d3).trans ?_
      rw [show (0 : Int32) + (-1 : Int32) = (-1 : Int32) from by decide]
      exact pr_0 n _ _ _ (pd_q r hr) (fun hg => h ⟨d6, d7, hg⟩)
    · refine (if_neg d8).trans ?_
      refine (if_neg d3).trans ?_
      exact pr_f _ _ _ _ _
theorem pr_2 (n : Nat) (r : Int32) (f g : Nat → Int32) (hr : 0 ≤ r.toInt) (h : ¬ pG2 r) : fX7_read_L34b (5 : Int32) (fX7_read_X34b (5 : Int32)) (n + 2 + 1) (1 : Int32) (1 : Int32) r f g = some ((fun _ => 0), 0) := by
  obtain ⟨d1, d2⟩ := pd_9 r hr
  obtain ⟨d3, d4⟩ := pd_in _ d1 d2
  rw [fX7_read_L34b]
  refine (if_neg (by decide)).trans ?_
  refine (if_neg (by decide)).trans ?_
  refine (if_neg (by decide)).trans ?_
  refine (if_neg (by decide)).trans ?_
  have hu : (upd f (1 : Int32).toNatClampNeg ((r - r / (10 : Int32) * (10 : Int32)) - (1 : Int32))) (1 : Int32).toNatClampNeg = (r - r / (10 : Int32) * (10 : Int32)) - (1 : Int32) := if_pos rfl
  rw [hu, fX7_isIn]
  rcases d4 with d4 | d4 | ⟨d4, d5, d6, d7⟩
  · rw [if_pos d4, Option.bind_some]
    refine (if_pos rfl).trans ?_
    refine (if_neg d3).trans ?_
    exact pr_f _ _ _ _ _
  · by_cases d8 : ((r - r / (10 : Int32) * (10 : Int32)) - (1 : Int32)) < 0
    · rw [if_pos d8, Option.bind_some]
      refine (if_pos rfl).trans ?_
      refine (if_neg d3).trans ?_
      exact pr_f _ _ _ _ _
    · rw [if_neg d8, if_pos d4, Option.bind_some]
      refine (if_pos rfl).trans ?_
      refine (if_neg d3).trans ?_
      exact pr_f _ _ _ _ _
  · rw [if_neg d4, if_neg d5, Option.bind_some]
    refine (if_neg (by decide)).trans ?_
    refine (if_neg d3).trans ?_
    by_cases d8 : (g (r - r / (10 : Int32) * (10 : Int32)).toNatClampNeg) = 0
    · refine (if_pos d8).trans ?_
      refine (if_neg d3).trans ?_
      rw [show (1 : Int32) + (-1 : Int32) = (0 : Int32) from by decide]
      exact pr_1 n _ _ _ (pd_q r hr) (fun hg => h ⟨d6, d7, hg⟩)
    · refine (if_neg d8).trans ?_
      refine (if_neg d3).trans ?_
      exact pr_f _ _ _ _ _
theorem pr_3 (n : Nat) (r : Int32) (f g : Nat → Int32) (hr : 0 ≤ r.toInt) (h : ¬ pG3 r) : fX7_read_L34b (5 : Int32) (fX7_read_X34b (5 : Int32)) (n + 3 + 1) (2 : Int32) (1 : Int32) r f g = some ((fun _ => 0), 0) := by
  obtain ⟨d1, d2⟩ := pd_9 r hr
  obtain ⟨d3, d4⟩ := pd_in _ d1 d2
  rw [fX7_read_L34b]
  refine (if_neg (by decide)).trans ?_
  refine (if_neg (by decide)).trans ?_
  refine (if_neg (by decide)).trans ?_
  refine (if_neg (by decide)).trans ?_
  have hu : (upd f (2 : Int32).toNatClampNeg ((r - r / (10 : Int32) * (10 : Int32)) - (1 : Int32))) (2 : Int32).toNatClampNeg = (r - r / (10 : Int32) * (10 : Int32)) - (1 : Int32) := if_pos rfl
  rw [hu, fX7_isIn]
  rcases d4 with d4 | d4 | ⟨d4, d5, d6, d7⟩
  · rw [if_pos d4, Option.bind_some]
    refine (if_pos rfl).trans ?_
    refine (if_neg d3).trans ?_
    exact pr_f _ _ _ _ _
  · by_cases d8 : ((r - r / (10 : Int32) * (10 : Int32)) - (1 : Int32)) < 0
    · rw [if_pos d8, Option.bind_some]
      refine (if_pos rfl).trans ?_
      refine (if_neg d3).trans ?_
      exact pr_f _ _ _ _ _
    · rw [if_neg d8, if_pos d4, Option.bind_some]
      refine (if_pos rfl).trans ?_
      refine (if_neg d3).trans ?_
      exact pr_f _ _ _ _ _
  · rw [if_neg d4, if_neg d5, Option.bind_some]
    refine (if_neg (by decide)).trans ?_
    refine (if_neg d3).trans ?_
    by_cases d8 : (g (r - r / (10 : Int32) * (10 : Int32)).toNatClampNeg) = 0
    · refine (if_pos d8).trans ?_
      refine (if_neg d3).trans ?_
      rw [show (2 : Int32) + (-1 : Int32) = (1 : Int32) from by decide]
      exact pr_2 n _ _ _ (pd_q r hr) (fun hg => h ⟨d6, d7, hg⟩)
    · refine (if_neg d8).trans ?_
      refine (if_neg d3).trans ?_
      exact pr_f _ _ _ _ _
theorem pr_4 (n : Nat) (r : Int32) (f g : Nat → Int32) (hr : 0 ≤ r.toInt) (h : ¬ pG4 r) : fX7_read_L34b (5 : Int32) (fX7_read_X34b (5 : Int32)) (n + 4 + 1) (3 : Int32) (1 : Int32) r f g = some ((fun _ => 0), 0) := by
  obtain ⟨d1, d2⟩ := pd_9 r hr
  obtain ⟨d3, d4⟩ := pd_in _ d1 d2
  rw [fX7_read_L34b]
  refine (if_neg (by decide)).trans ?_
  refine (if_neg (by decide)).trans ?_
  refine (if_neg (by decide)).trans ?_
  refine (if_neg (by decide)).trans ?_
  have hu : (upd f (3 : Int32).toNatClampNeg ((r - r / (10 : Int32) * (10 : Int32)) - (1 : Int32))) (3 : Int32).toNatClampNeg = (r - r / (10 : Int32) * (10 : Int32)) - (1 : Int32) := if_pos rfl
  rw [hu, fX7_isIn]
  rcases d4 with d4 | d4 | ⟨d4, d5, d6, d7⟩
  · rw [if_pos d4, Option.bind_some]
    refine (if_pos rfl).trans ?_
    refine (if_neg d3).trans ?_
    exact pr_f _ _ _ _ _
  · by_cases d8 : ((r - r / (10 : Int32) * (10 : Int32)) - (1 : Int32)) < 0
    · rw [if_pos d8, Option.bind_some]
      refine (if_pos rfl).trans ?_
      refine (if_neg d3).trans ?_
      exact pr_f _ _ _ _ _
    · rw [if_neg d8, if_pos d4, Option.bind_some]
      refine (if_pos rfl).trans ?_
      refine (if_neg d3).trans ?_
      exact pr_f _ _ _ _ _
  · rw [if_neg d4, if_neg d5, Option.bind_some]
    refine (if_neg (by decide)).trans ?_
    refine (if_neg d3).trans ?_
    by_cases d8 : (g (r - r / (10 : Int32) * (10 : Int32)).toNatClampNeg) = 0
    · refine (if_pos d8).trans ?_
      refine (if_neg d3).trans ?_
      rw [show (3 : Int32) + (-1 : Int32) = (2 : Int32) from by decide]
      exact pr_3 n _ _ _ (pd_q r hr) (fun hg => h ⟨d6, d7, hg⟩)
    · refine (if_neg d8).trans ?_
      refine (if_neg d3).trans ?_
      exact pr_f _ _ _ _ _
theorem pr_5 (n : Nat) (r : Int32) (f g : Nat → Int32) (hr : 0 ≤ r.toInt) (h : ¬ pG5 r) : fX7_read_L34b (5 : Int32) (fX7_read_X34b (5 : Int32)) (n + 5 + 1) (4 : Int32) (1 : Int32) r f g = some ((fun _ => 0), 0) := by
  obtain ⟨d1, d2⟩ := pd_9 r hr
  obtain ⟨d3, d4⟩ := pd_in _ d1 d2
  rw [fX7_read_L34b]
  refine (if_neg (by decide)).trans ?_
  refine (if_neg (by decide)).trans ?_
  refine (if_neg (by decide)).trans ?_
  refine (if_neg (by decide)).trans ?_
  have hu : (upd f (4 : Int32).toNatClampNeg ((r - r / (10 : Int32) * (10 : Int32)) - (1 : Int32))) (4 : Int32).toNatClampNeg = (r - r / (10 : Int32) * (10 : Int32)) - (1 : Int32) := if_pos rfl
  rw [hu, fX7_isIn]
  rcases d4 with d4 | d4 | ⟨d4, d5, d6, d7⟩
  · rw [if_pos d4, Option.bind_some]
    refine (if_pos rfl).trans ?_
    refine (if_neg d3).trans ?_
    exact pr_f _ _ _ _ _
  · by_cases d8 : ((r - r / (10 : Int32) * (10 : Int32)) - (1 : Int32)) < 0
    · rw [if_pos d8, Option.bind_some]
      refine (if_pos rfl).trans ?_
      refine (if_neg d3).trans ?_
      exact pr_f _ _ _ _ _
    · rw [if_neg d8, if_pos d4, Option.bind_some]
      refine (if_pos rfl).trans ?_
      refine (if_neg d3).trans ?_
      exact pr_f _ _ _ _ _
  · rw [if_neg d4, if_neg d5, Option.bind_some]
    refine (if_neg (by decide)).trans ?_
    refine (if_neg d3).trans ?_
    by_cases d8 : (g (r - r / (10 : Int32) * (10 : Int32)).toNatClampNeg) = 0
    · refine (if_pos d8).trans ?_
      refine (if_neg d3).trans ?_
      rw [show (4 : Int32) + (-1 : Int32) = (3 : Int32) from by decide]
      exact pr_4 n _ _ _ (pd_q r hr) (fun hg => h ⟨d6, d7, hg⟩)
    · refine (if_neg d8).trans ?_
      refine (if_neg d3).trans ?_
      exact pr_f _ _ _ _ _
theorem p_noRead (a : Int32) (h : ¬ pG5 a) : fX7_isRow (5 : Int32) a = some (0 : Int32) := by
  have h0 : fX7_read (5 : Int32) a = some ((fun _ => 0), 0) := by
    unfold fX7_read
    refine (if_neg (by decide)).trans ?_
    refine (if_neg (by decide)).trans ?_
    by_cases h1 : a ≤ 0
    · refine (if_pos h1).trans ?_
      show fX7_read_L34 (5 : Int32) fX7_read_X34 (999 + 1) = _
      rw [fX7_read_L34]
      split <;> rfl
    · refine (if_neg h1).trans ?_
      have h2 : 0 ≤ a.toInt := by
        rw [Int32.le_iff_toInt_le, show (0 : Int32).toInt = 0 from rfl] at h1
        omega
      exact pr_5 994 a _ _ h2 h
  unfold fX7_isRow
  rw [h0, Option.bind_some]
  exact if_pos (by decide)
theorem pG_num (a : Int32) (h : pG5 a) : ∃ i j k l m : Nat, i < 5 ∧ j < 5 ∧ k < 5 ∧ l < 5 ∧ m < 5 ∧ a = Int32.ofInt (11111 + 10000 * (i : Int) + 1000 * (j : Int) + 100 * (k : Int) + 10 * (l : Int) + (m : Int)) := by
  obtain ⟨a1, a2, b1, b2, c1, c2, d1, d2, e1, e2, z⟩ := h
  rw [Int32.lt_iff_toInt_lt, p_dig, show (1 : Int32).toInt = 1 from rfl] at a1 b1 c1 d1 e1
  rw [Int32.lt_iff_toInt_lt, p_dig, show (5 : Int32).toInt = 5 from rfl] at a2 b2 c2 d2 e2
  have z : (a / (10 : Int32) / (10 : Int32) / (10 : Int32) / (10 : Int32) / (10 : Int32)).toInt = 0 := by rw [show a / (10 : Int32) / (10 : Int32) / (10 : Int32) / (10 : Int32) / (10 : Int32) = 0 from z]; rfl
  simp only [p_div] at b1 b2 c1 c2 d1 d2 e1 e2 z
  have t1 := p_tdiv a.toInt
  have t2 := p_tdiv (a.toInt.tdiv 10)
  have t3 := p_tdiv ((a.toInt.tdiv 10).tdiv 10)
  have t4 := p_tdiv (((a.toInt.tdiv 10).tdiv 10).tdiv 10)
  have t5 := p_tdiv ((((a.toInt.tdiv 10).tdiv 10).tdiv 10).tdiv 10)
  refine ⟨(((((a.toInt.tdiv 10).tdiv 10).tdiv 10).tdiv 10) - 1).toNat, ((((a.toInt.tdiv 10).tdiv 10).tdiv 10) - ((((a.toInt.tdiv 10).tdiv 10).tdiv 10).tdiv 10) * 10 - 1).toNat, (((a.toInt.tdiv 10).tdiv 10) - (((a.toInt.tdiv 10).tdiv 10).tdiv 10) * 10 - 1).toNat, ((a.toInt.tdiv 10) - ((a.toInt.tdiv 10).tdiv 10) * 10 - 1).toNat, (a.toInt - (a.toInt.tdiv 10) * 10 - 1).toNat, by omega, by omega, by omega, by omega, by omega, ?_⟩
  have e : (11111 + 10000 * ((((((a.toInt.tdiv 10).tdiv 10).tdiv 10).tdiv 10) - 1).toNat : Int) + 1000 * (((((a.toInt.tdiv 10).tdiv 10).tdiv 10) - ((((a.toInt.tdiv 10).tdiv 10).tdiv 10).tdiv 10) * 10 - 1).toNat : Int) + 100 * ((((a.toInt.tdiv 10).tdiv 10) - (((a.toInt.tdiv 10).tdiv 10).tdiv 10) * 10 - 1).toNat : Int) + 10 * (((a.toInt.tdiv 10) - ((a.toInt.tdiv 10).tdiv 10) * 10 - 1).toNat : Int) + ((a.toInt - (a.toInt.tdiv 10) * 10 - 1).toNat : Int)) = a.toInt := by omega
  rw [e, Int32.ofInt_toInt]
theorem p_noChange (a : Int32) (h : a < 0 ∨ (31 : Int32) < a) : fX3_canBeRung a (5 : Int32) = some (0 : Int32) ∧ fX7_isChangeNow (5 : Int32) a = some (0 : Int32) := by
  by_cases h0 : a < 0
  · constructor
    · unfold fX3_canBeRung
      exact if_pos h0
    · unfold fX7_isChangeNow
      rw [fX7_isIn, if_pos h0, Option.bind_some]
      exact if_pos rfl
  · have h1 : (31 : Int32) < a := h.resolve_left h0
    constructor
    · unfold fX3_canBeRung
      refine (if_neg h0).trans ?_
      refine if_neg ?_
      rw [show ((1 : Int32) <<< ((5 : Int32) &&& 31)) = 32 from by decide]
      exact p_nlt32 h1
    · unfold fX7_isChangeNow
      rw [fX7_isIn, if_neg h0, show (((1 : Int32) <<< ((5 : Int32) &&& 31)) - (1 : Int32)) = 31 from by decide, if_pos h1, Option.bind_some]
      exact if_pos rfl
