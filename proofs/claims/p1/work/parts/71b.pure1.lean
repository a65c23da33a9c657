/-! PURE: the rows of five bells -/
def pRows : List Int32 := [12345, 12354, 12435, 12453, 12534, 12543, 13245, 13254, 13425, 13452, 13524, 13542, 14235, 14253, 14325, 14352, 14523, 14532, 15234, 15243, 15324, 15342, 15423, 15432, 21345, 21354, 21435, 21453, 21534, 21543, 23145, 23154, 23415, 23451, 23514, 23541, 24135, 24153, 24315, 24351, 24513, 24531, 25134, 25143, 25314, 25341, 25413, 25431, 31245, 31254, 31425, 31452, 31524, 31542, 32145, 32154, 32415, 32451, 32514, 32541, 34125, 34152, 34215, 34251, 34512, 34521, 35124, 35142, 35214, 35241, 35412, 35421, 41235, 41253, 41325, 41352, 41523, 41532, 42135, 42153, 42315, 42351, 42513, 42531, 43125, 43152, 43215, 43251, 43512, 43521, 45123, 45132, 45213, 45231, 45312, 45321, 51234, 51243, 51324, 51342, 51423, 51432, 52134, 52143, 52314, 52341, 52413, 52431, 53124, 53142, 53214, 53241, 53412, 53421, 54123, 54132, 54213, 54231, 54312, 54321]
def pD (i j k l m : Nat) : Bool := (decide (fX3_packed (Int32.ofInt (11111 + 10000 * (i : Int) + 1000 * (j : Int) + 100 * (k : Int) + 10 * (l : Int) + (m : Int))) (5 : Int32) = some (-1 : Int32)) && decide (fX7_isRow (5 : Int32) (Int32.ofInt (11111 + 10000 * (i : Int) + 1000 * (j : Int) + 100 * (k : Int) + 10 * (l : Int) + (m : Int))) = some (0 : Int32))) || decide (Int32.ofInt (11111 + 10000 * (i : Int) + 1000 * (j : Int) + 100 * (k : Int) + 10 * (l : Int) + (m : Int)) ∈ pRows)
theorem p_decB : ((List.range 5).all fun i => (List.range 5).all fun j => (List.range 5).all fun k => (List.range 5).all fun l => (List.range 5).all fun m => pD i j k l m) = true := by decide +kernel
theorem p_dec (i j k l m : Nat) (hi : i < 5) (hj : j < 5) (hk : k < 5) (hl : l < 5) (hm : m < 5) : (fX3_packed (Int32.ofInt (11111 + 10000 * (i : Int) + 1000 * (j : Int) + 100 * (k : Int) + 10 * (l : Int) + (m : Int))) (5 : Int32) = some (-1 : Int32) ∧ fX7_isRow (5 : Int32) (Int32.ofInt (11111 + 10000 * (i : Int) + 1000 * (j : Int) + 100 * (k : Int) + 10 * (l : Int) + (m : Int))) = some (0 : Int32)) ∨ Int32.ofInt (11111 + 10000 * (i : Int) + 1000 * (j : Int) + 100 * (k : Int) + 10 * (l : Int) + (m : Int)) ∈ pRows := by
  have h := p_decB
  have h := List.all_eq_true.mp h i (List.mem_range.mpr hi)
  have h := List.all_eq_true.mp h j (List.mem_range.mpr hj)
  have h := List.all_eq_true.mp h k (List.mem_range.mpr hk)
  have h := List.all_eq_true.mp h l (List.mem_range.mpr hl)
  have h : pD i j k l m = true := List.all_eq_true.mp h m (List.mem_range.mpr hm)
  unfold pD at h
  rcases Bool.or_eq_true_iff.mp h with h | h
  · obtain ⟨h1, h2⟩ := Bool.and_eq_true_iff.mp h
    exact Or.inl ⟨of_decide_eq_true h1, of_decide_eq_true h2⟩
  · exact Or.inr (of_decide_eq_true h)
theorem p_row (a : Int32) : (fX3_packed a (5 : Int32) = some (-1 : Int32) ∧ fX7_isRow (5 : Int32) a = some (0 : Int32)) ∨ a ∈ pRows := by
  by_cases h : pG5 a
  · obtain ⟨i, j, k, l, m, hi, hj, hk, hl, hm, e⟩ := pG_num a h
    rw [e]
    exact p_dec i j k l m hi hj hk hl hm
  · exact Or.inl ⟨p_noPack a h, p_noRead a h⟩
