/-! PURE, changes -/
theorem len4 {l : List Nat} (h : l.length = 4) : ∃ a b c d, l = [a, b, c, d] := by
  match l, h with
  | [], h => exact absurd h (by simp)
  | [_], h => exact absurd h (by simp)
  | [_, _], h => exact absurd h (by simp)
  | [_, _, _], h => exact absurd h (by simp)
  | [a, b, c, d], _ => exact ⟨a, b, c, d, rfl⟩
  | _ :: _ :: _ :: _ ::  _ :: t, h => exact absurd h (by simp)
theorem len5 {l : List Nat} (h : l.length = 5) : ∃ a b c d e, l = [a, b, c, d, e] := by
  match l, h with
  | [], h => exact absurd h (by simp)
  | [_], h => exact absurd h (by simp)
  | [_, _], h => exact absurd h (by simp)
  | [_, _, _], h => exact absurd h (by simp)
  | [_, _, _, _], h => exact absurd h (by simp)
  | [a, b, c, d, e], _ => exact ⟨a, b, c, d, e, rfl⟩
  | _ :: _ :: _ :: _ :: _ ::  _ :: t, h => exact absurd h (by simp)
theorem len6 {l : List Nat} (h : l.length = 6) : ∃ a b c d e f, l = [a, b, c, d, e, f] := by
  match l, h with
  | [], h => exact absurd h (by simp)
  | [_], h => exact absurd h (by simp)
  | [_, _], h => exact absurd h (by simp)
  | [_, _, _], h => exact absurd h (by simp)
  | [_, _, _, _], h => exact absurd h (by simp)
  | [_, _, _, _, _], h => exact absurd h (by simp)
  | [a, b, c, d, e, f], _ => exact ⟨a, b, c, d, e, f, rfl⟩
  | _ :: _ :: _ :: _ :: _ :: _ ::  _ :: t, h => exact absurd h (by simp)
theorem len7 {l : List Nat} (h : l.length = 7) : ∃ a b c d e f g, l = [a, b, c, d, e, f, g] := by
  match l, h with
  | [], h => exact absurd h (by simp)
  | [_], h => exact absurd h (by simp)
  | [_, _], h => exact absurd h (by simp)
  | [_, _, _], h => exact absurd h (by simp)
  | [_, _, _, _], h => exact absurd h (by simp)
  | [_, _, _, _, _], h => exact absurd h (by simp)
  | [_, _, _, _, _, _], h => exact absurd h (by simp)
  | [a, b, c, d, e, f, g], _ => exact ⟨a, b, c, d, e, f, g, rfl⟩
  | _ :: _ :: _ :: _ :: _ :: _ :: _ ::  _ :: t, h => exact absurd h (by simp)
def sx (r p : Int32) : Int32 := (fX3_swapped r p).getD 0
theorem sx_ok (r p : Int32) : fX3_swapped r p = some (sx r p) := rfl
theorem cl_sw {n c p r e : Int32} {f : Nat} (h1 : ¬ n ≤ p) (h2 : fX3_stays c p = some (0 : Int32)) (h3 : fX3_swapped r p = some e) : fX3_changed_L5 n c fX3_changed_X5 (f + 1) p r = fX3_changed_L5 n c fX3_changed_X5 f (p + (2 : Int32)) e := by
  rw [fX3_changed_L5, if_neg h1, h2, Option.bind_some, if_pos rfl, h3, Option.bind_some]
theorem cl_st {n c p r : Int32} {f : Nat} (h1 : ¬ n ≤ p) (h2 : fX3_stays c p = some (1 : Int32)) : fX3_changed_L5 n c fX3_changed_X5 (f + 1) p r = fX3_changed_L5 n c fX3_changed_X5 f (p + (1 : Int32)) r := by
  rw [fX3_changed_L5, if_neg h1, h2, Option.bind_some, if_neg (by decide)]
theorem cl_end {n c p r : Int32} {f : Nat} (h : n ≤ p) : fX3_changed_L5 n c fX3_changed_X5 (f + 1) p r = some r := by
  rw [fX3_changed_L5, if_pos h, fX3_changed_X5]
def CH (n c : Nat) (ps : List Nat) : Prop :=
  (∀ r : Int32, fX3_changed r (ii c) (ii n) = ps.foldl (fun o p => o.bind (fun r => fX3_swapped r (ii p))) (some r)) ∧ psw n c = ps ∧ fX3_canBeRung (ii c) (ii n) = some (1 : Int32) ∧ c < 2 ^ n ∧
  (∀ l : List Nat, l.length = n → sws ps (sws ps l) = l) ∧ (∀ i, i < n → (sws ps (List.range n)).getD i 0 ≤ i + 1 ∧ i ≤ (sws ps (List.range n)).getD i 0 + 1) ∧ (∀ p ∈ ps, 1 ≤ p ∧ p < n)
theorem chk_4_0 : CH 4 0 [1, 3] := by
  refine ⟨fun r => rfl, by decide +kernel, by decide +kernel, by decide, fun l hl => ?_, by decide +kernel, by decide⟩
  · obtain ⟨a, b, c, d, rfl⟩ := len4 hl
    rfl
theorem chk_4_3 : CH 4 3 [3] := by
  refine ⟨fun r => rfl, by decide +kernel, by decide +kernel, by decide, fun l hl => ?_, by decide +kernel, by decide⟩
  · obtain ⟨a, b, c, d, rfl⟩ := len4 hl
    rfl
theorem chk_4_9 : CH 4 9 [2] := by
  refine ⟨fun r => rfl, by decide +kernel, by decide +kernel, by decide, fun l hl => ?_, by decide +kernel, by decide⟩
  · obtain ⟨a, b, c, d, rfl⟩ := len4 hl
    rfl
theorem chk_4_12 : CH 4 12 [1] := by
  refine ⟨fun r => rfl, by decide +kernel, by decide +kernel, by decide, fun l hl => ?_, by decide +kernel, by decide⟩
  · obtain ⟨a, b, c, d, rfl⟩ := len4 hl
    rfl
theorem chk_4_15 : CH 4 15 [] := by
  refine ⟨fun r => rfl, by decide +kernel, by decide +kernel, by decide, fun l hl => ?_, by decide +kernel, by decide⟩
  · obtain ⟨a, b, c, d, rfl⟩ := len4 hl
    rfl
theorem chk_4 : ∀ q ∈ chT4, CH 4 q.1 q.2 := List.forall_mem_cons.mpr ⟨chk_4_0, List.forall_mem_cons.mpr ⟨chk_4_3, List.forall_mem_cons.mpr ⟨chk_4_9, List.forall_mem_cons.mpr ⟨chk_4_12, List.forall_mem_cons.mpr ⟨chk_4_15, fun _ h => absurd h List.not_mem_nil⟩⟩⟩⟩⟩
theorem chk_5_1 : CH 5 1 [2, 4] := by
  refine ⟨fun r => rfl, by decide +kernel, by decide +kernel, by decide, fun l hl => ?_, by decide +kernel, by decide⟩
  · obtain ⟨a, b, c, d, e, rfl⟩ := len5 hl
    rfl
theorem chk_5_4 : CH 5 4 [1, 4] := by
  refine ⟨fun r => rfl, by decide +kernel, by decide +kernel, by decide, fun l hl => ?_, by decide +kernel, by decide⟩
  · obtain ⟨a, b, c, d, e, rfl⟩ := len5 hl
    rfl
theorem chk_5_7 : CH 5 7 [4] := by
  refine ⟨fun r => rfl, by decide +kernel, by decide +kernel, by decide, fun l hl => ?_, by decide +kernel, by decide⟩
  · obtain ⟨a, b, c, d, e, rfl⟩ := len5 hl
    rfl
theorem chk_5_16 : CH 5 16 [1, 3] := by
  refine ⟨fun r => rfl, by decide +kernel, by decide +kernel, by decide, fun l hl => ?_, by decide +kernel, by decide⟩
  · obtain ⟨a, b, c, d, e, rfl⟩ := len5 hl
    rfl
theorem chk_5_19 : CH 5 19 [3] := by
  refine ⟨fun r => rfl, by decide +kernel, by decide +kernel, by decide, fun l hl => ?_, by decide +kernel, by decide⟩
  · obtain ⟨a, b, c, d, e, rfl⟩ := len5 hl
    rfl
theorem chk_5_25 : CH 5 25 [2] := by
  refine ⟨fun r => rfl, by decide +kernel, by decide +kernel, by decide, fun l hl => ?_, by decide +kernel, by decide⟩
  · obtain ⟨a, b, c, d, e, rfl⟩ := len5 hl
    rfl
theorem chk_5_28 : CH 5 28 [1] := by
  refine ⟨fun r => rfl, by decide +kernel, by decide +kernel, by decide, fun l hl => ?_, by decide +kernel, by decide⟩
  · obtain ⟨a, b, c, d, e, rfl⟩ := len5 hl
    rfl
theorem chk_5_31 : CH 5 31 [] := by
  refine ⟨fun r => rfl, by decide +kernel, by decide +kernel, by decide, fun l hl => ?_, by decide +kernel, by decide⟩
  · obtain ⟨a, b, c, d, e, rfl⟩ := len5 hl
    rfl
theorem chk_5 : ∀ q ∈ chT5, CH 5 q.1 q.2 := List.forall_mem_cons.mpr ⟨chk_5_1, List.forall_mem_cons.mpr ⟨chk_5_4, List.forall_mem_cons.mpr ⟨chk_5_7, List.forall_mem_cons.mpr ⟨chk_5_16, List.forall_mem_cons.mpr ⟨chk_5_19, List.forall_mem_cons.mpr ⟨chk_5_25, List.forall_mem_cons.mpr ⟨chk_5_28, List.forall_mem_cons.mpr ⟨chk_5_31, fun _ h => absurd h List.not_mem_nil⟩⟩⟩⟩⟩⟩⟩⟩
theorem chq_6_0 (r : Int32) : fX3_changed_L5 (ii 6) (ii 0) fX3_changed_X5 1000 (1 : Int32) r = some (sx (sx (sx r (ii 1)) (ii 3)) (ii 5)) := (cl_sw (by decide +kernel) (by decide +kernel) (sx_ok _ _)).trans ((cl_sw (by decide +kernel) (by decide +kernel) (sx_ok _ _)).trans ((cl_sw (by decide +kernel) (by decide +kernel) (sx_ok _ _)).trans (cl_end (by decide +kernel))))
theorem chk_6_0 : CH 6 0 [1, 3, 5] := by
  refine ⟨fun r => (chq_6_0 r).trans (by simp only [List.foldl_cons, List.foldl_nil, Option.bind_some, sx_ok]), by decide +kernel, by decide +kernel, by decide, fun l hl => ?_, by decide +kernel, by decide⟩
  · obtain ⟨a, b, c, d, e, f, rfl⟩ := len6 hl
    rfl
theorem chk_6_3 : CH 6 3 [3, 5] := by
  refine ⟨fun r => rfl, by decide +kernel, by decide +kernel, by decide, fun l hl => ?_, by decide +kernel, by decide⟩
  · obtain ⟨a, b, c, d, e, f, rfl⟩ := len6 hl
    rfl
theorem chk_6_9 : CH 6 9 [2, 5] := by
  refine ⟨fun r => rfl, by decide +kernel, by decide +kernel, by decide, fun l hl => ?_, by decide +kernel, by decide⟩
  · obtain ⟨a, b, c, d, e, f, rfl⟩ := len6 hl
    rfl
theorem chk_6_12 : CH 6 12 [1, 5] := by
  refine ⟨fun r => rfl, by decide +kernel, by decide +kernel, by decide, fun l hl => ?_, by decide +kernel, by decide⟩
  · obtain ⟨a, b, c, d, e, f, rfl⟩ := len6 hl
    rfl
theorem chk_6_15 : CH 6 15 [5] := by
  refine ⟨fun r => rfl, by decide +kernel, by decide +kernel, by decide, fun l hl => ?_, by decide +kernel, by decide⟩
  · obtain ⟨a, b, c, d, e, f, rfl⟩ := len6 hl
    rfl
theorem chk_6_33 : CH 6 33 [2, 4] := by
  refine ⟨fun r => rfl, by decide +kernel, by decide +kernel, by decide, fun l hl => ?_, by decide +kernel, by decide⟩
  · obtain ⟨a, b, c, d, e, f, rfl⟩ := len6 hl
    rfl
theorem chk_6_36 : CH 6 36 [1, 4] := by
  refine ⟨fun r => rfl, by decide +kernel, by decide +kernel, by decide, fun l hl => ?_, by decide +kernel, by decide⟩
  · obtain ⟨a, b, c, d, e, f, rfl⟩ := len6 hl
    rfl
theorem chk_6_39 : CH 6 39 [4] := by
  refine ⟨fun r => rfl, by decide +kernel, by decide +kernel, by decide, fun l hl => ?_, by decide +kernel, by decide⟩
  · obtain ⟨a, b, c, d, e, f, rfl⟩ := len6 hl
    rfl
theorem chk_6_48 : CH 6 48 [1, 3] := by
  refine ⟨fun r => rfl, by decide +kernel, by decide +kernel, by decide, fun l hl => ?_, by decide +kernel, by decide⟩
  · obtain ⟨a, b, c, d, e, f, rfl⟩ := len6 hl
    rfl
theorem chk_6_51 : CH 6 51 [3] := by
  refine ⟨fun r => rfl, by decide +kernel, by decide +kernel, by decide, fun l hl => ?_, by decide +kernel, by decide⟩
  · obtain ⟨a, b, c, d, e, f, rfl⟩ := len6 hl
    rfl
theorem chk_6_57 : CH 6 57 [2] := by
  refine ⟨fun r => rfl, by decide +kernel, by decide +kernel, by decide, fun l hl => ?_, by decide +kernel, by decide⟩
  · obtain ⟨a, b, c, d, e, f, rfl⟩ := len6 hl
    rfl
theorem chk_6_60 : CH 6 60 [1] := by
  refine ⟨fun r => rfl, by decide +kernel, by decide +kernel, by decide, fun l hl => ?_, by decide +kernel, by decide⟩
  · obtain ⟨a, b, c, d, e, f, rfl⟩ := len6 hl
    rfl
theorem chk_6_63 : CH 6 63 [] := by
  refine ⟨fun r => rfl, by decide +kernel, by decide +kernel, by decide, fun l hl => ?_, by decide +kernel, by decide⟩
  · obtain ⟨a, b, c, d, e, f, rfl⟩ := len6 hl
    rfl
theorem chk_6 : ∀ q ∈ chT6, CH 6 q.1 q.2 := List.forall_mem_cons.mpr ⟨chk_6_0, List.forall_mem_cons.mpr ⟨chk_6_3, List.forall_mem_cons.mpr ⟨chk_6_9, List.forall_mem_cons.mpr ⟨chk_6_12, List.forall_mem_cons.mpr ⟨chk_6_15, List.forall_mem_cons.mpr ⟨chk_6_33, List.forall_mem_cons.mpr ⟨chk_6_36, List.forall_mem_cons.mpr ⟨chk_6_39, List.forall_mem_cons.mpr ⟨chk_6_48, List.forall_mem_cons.mpr ⟨chk_6_51, List.forall_mem_cons.mpr ⟨chk_6_57, List.forall_mem_cons.mpr ⟨chk_6_60, List.forall_mem_cons.mpr ⟨chk_6_63, fun _ h => absurd h List.not_mem_nil⟩⟩⟩⟩⟩⟩⟩⟩⟩⟩⟩⟩⟩
theorem chq_7_1 (r : Int32) : fX3_changed_L5 (ii 7) (ii 1) fX3_changed_X5 1000 (1 : Int32) r = some (sx (sx (sx r (ii 2)) (ii 4)) (ii 6)) := (cl_st (by decide +kernel) (by decide +kernel)).trans ((cl_sw (by decide +kernel) (by decide +kernel) (sx_ok _ _)).trans ((cl_sw (by decide +kernel) (by decide +kernel) (sx_ok _ _)).trans ((cl_sw (by decide +kernel) (by decide +kernel) (sx_ok _ _)).trans (cl_end (by decide +kernel)))))
theorem chk_7_1 : CH 7 1 [2, 4, 6] := by
  refine ⟨fun r => (chq_7_1 r).trans (by simp only [List.foldl_cons, List.foldl_nil, Option.bind_some, sx_ok]), by decide +kernel, by decide +kernel, by decide, fun l hl => ?_, by decide +kernel, by decide⟩
  · obtain ⟨a, b, c, d, e, f, g, rfl⟩ := len7 hl
    rfl
theorem chq_7_4 (r : Int32) : fX3_changed_L5 (ii 7) (ii 4) fX3_changed_X5 1000 (1 : Int32) r = some (sx (sx (sx r (ii 1)) (ii 4)) (ii 6)) := (cl_sw (by decide +kernel) (by decide +kernel) (sx_ok _ _)).trans ((cl_st (by decide +kernel) (by decide +kernel)).trans ((cl_sw (by decide +kernel) (by decide +kernel) (sx_ok _ _)).trans ((cl_sw (by decide +kernel) (by decide +kernel) (sx_ok _ _)).trans (cl_end (by decide +kernel)))))
theorem chk_7_4 : CH 7 4 [1, 4, 6] := by
  refine ⟨fun r => (chq_7_4 r).trans (by simp only [List.foldl_cons, List.foldl_nil, Option.bind_some, sx_ok]), by decide +kernel, by decide +kernel, by decide, fun l hl => ?_, by decide +kernel, by decide⟩
  · obtain ⟨a, b, c, d, e, f, g, rfl⟩ := len7 hl
    rfl
theorem chk_7_7 : CH 7 7 [4, 6] := by
  refine ⟨fun r => rfl, by decide +kernel, by decide +kernel, by decide, fun l hl => ?_, by decide +kernel, by decide⟩
  · obtain ⟨a, b, c, d, e, f, g, rfl⟩ := len7 hl
    rfl
theorem chq_7_16 (r : Int32) : fX3_changed_L5 (ii 7) (ii 16) fX3_changed_X5 1000 (1 : Int32) r = some (sx (sx (sx r (ii 1)) (ii 3)) (ii 6)) := (cl_sw (by decide +kernel) (by decide +kernel) (sx_ok _ _)).trans ((cl_sw (by decide +kernel) (by decide +kernel) (sx_ok _ _)).trans ((cl_st (by decide +kernel) (by decide +kernel)).trans ((cl_sw (by decide +kernel) (by decide +kernel) (sx_ok _ _)).trans (cl_end (by decide +kernel)))))
theorem chk_7_16 : CH 7 16 [1, 3, 6] := by
  refine ⟨fun r => (chq_7_16 r).trans (by simp only [List.foldl_cons, List.foldl_nil, Option.bind_some, sx_ok]), by decide +kernel, by decide +kernel, by decide, fun l hl => ?_, by decide +kernel, by decide⟩
  · obtain ⟨a, b, c, d, e, f, g, rfl⟩ := len7 hl
    rfl
theorem chk_7_19 : CH 7 19 [3, 6] := by
  refine ⟨fun r => rfl, by decide +kernel, by decide +kernel, by decide, fun l hl => ?_, by decide +kernel, by decide⟩
  · obtain ⟨a, b, c, d, e, f, g, rfl⟩ := len7 hl
    rfl
theorem chk_7_25 : CH 7 25 [2, 6] := by
  refine ⟨fun r => rfl, by decide +kernel, by decide +kernel, by decide, fun l hl => ?_, by decide +kernel, by decide⟩
  · obtain ⟨a, b, c, d, e, f, g, rfl⟩ := len7 hl
    rfl
theorem chk_7_28 : CH 7 28 [1, 6] := by
  refine ⟨fun r => rfl, by decide +kernel, by decide +kernel, by decide, fun l hl => ?_, by decide +kernel, by decide⟩
  · obtain ⟨a, b, c, d, e, f, g, rfl⟩ := len7 hl
    rfl
theorem chk_7_31 : CH 7 31 [6] := by
  refine ⟨fun r => rfl, by decide +kernel, by decide +kernel, by decide, fun l hl => ?_, by decide +kernel, by decide⟩
  · obtain ⟨a, b, c, d, e, f, g, rfl⟩ := len7 hl
    rfl
theorem chq_7_64 (r : Int32) : fX3_changed_L5 (ii 7) (ii 64) fX3_changed_X5 1000 (1 : Int32) r = some (sx (sx (sx r (ii 1)) (ii 3)) (ii 5)) := (cl_sw (by decide +kernel) (by decide +kernel) (sx_ok _ _)).trans ((cl_sw (by decide +kernel) (by decide +kernel) (sx_ok _ _)).trans ((cl_sw (by decide +kernel) (by decide +kernel) (sx_ok _ _)).trans (cl_end (by decide +kernel))))
theorem chk_7_64 : CH 7 64 [1, 3, 5] := by
  refine ⟨fun r => (chq_7_64 r).trans (by simp only [List.foldl_cons, List.foldl_nil, Option.bind_some, sx_ok]), by decide +kernel, by decide +kernel, by decide, fun l hl => ?_, by decide +kernel, by decide⟩
  · obtain ⟨a, b, c, d, e, f, g, rfl⟩ := len7 hl
    rfl
theorem chk_7_67 : CH 7 67 [3, 5] := by
  refine ⟨fun r => rfl, by decide +kernel, by decide +kernel, by decide, fun l hl => ?_, by decide +kernel, by decide⟩
  · obtain ⟨a, b, c, d, e, f, g, rfl⟩ := len7 hl
    rfl
theorem chk_7_73 : CH 7 73 [2, 5] := by
  refine ⟨fun r => rfl, by decide +kernel, by decide +kernel, by decide, fun l hl => ?_, by decide +kernel, by decide⟩
  · obtain ⟨a, b, c, d, e, f, g, rfl⟩ := len7 hl
    rfl
theorem chk_7_76 : CH 7 76 [1, 5] := by
  refine ⟨fun r => rfl, by decide +kernel, by decide +kernel, by decide, fun l hl => ?_, by decide +kernel, by decide⟩
  · obtain ⟨a, b, c, d, e, f, g, rfl⟩ := len7 hl
    rfl
theorem chk_7_79 : CH 7 79 [5] := by
  refine ⟨fun r => rfl, by decide +kernel, by decide +kernel, by decide, fun l hl => ?_, by decide +kernel, by decide⟩
  · obtain ⟨a, b, c, d, e, f, g, rfl⟩ := len7 hl
    rfl
theorem chk_7_97 : CH 7 97 [2, 4] := by
  refine ⟨fun r => rfl, by decide +kernel, by decide +kernel, by decide, fun l hl => ?_, by decide +kernel, by decide⟩
  · obtain ⟨a, b, c, d, e, f, g, rfl⟩ := len7 hl
    rfl
theorem chk_7_100 : CH 7 100 [1, 4] := by
  refine ⟨fun r => rfl, by decide +kernel, by decide +kernel, by decide, fun l hl => ?_, by decide +kernel, by decide⟩
  · obtain ⟨a, b, c, d, e, f, g, rfl⟩ := len7 hl
    rfl
theorem chk_7_103 : CH 7 103 [4] := by
  refine ⟨fun r => rfl, by decide +kernel, by decide +kernel, by decide, fun l hl => ?_, by decide +kernel, by decide⟩
  · obtain ⟨a, b, c, d, e, f, g, rfl⟩ := len7 hl
    rfl
theorem chk_7_112 : CH 7 112 [1, 3] := by
  refine ⟨fun r => rfl, by decide +kernel, by decide +kernel, by decide, fun l hl => ?_, by decide +kernel, by decide⟩
  · obtain ⟨a, b, c, d, e, f, g, rfl⟩ := len7 hl
    rfl
theorem chk_7_115 : CH 7 115 [3] := by
  refine ⟨fun r => rfl, by decide +kernel, by decide +kernel, by decide, fun l hl => ?_, by decide +kernel, by decide⟩
  · obtain ⟨a, b, c, d, e, f, g, rfl⟩ := len7 hl
    rfl
theorem chk_7_121 : CH 7 121 [2] := by
  refine ⟨fun r => rfl, by decide +kernel, by decide +kernel, by decide, fun l hl => ?_, by decide +kernel, by decide⟩
  · obtain ⟨a, b, c, d, e, f, g, rfl⟩ := len7 hl
    rfl
theorem chk_7_124 : CH 7 124 [1] := by
  refine ⟨fun r => rfl, by decide +kernel, by decide +kernel, by decide, fun l hl => ?_, by decide +kernel, by decide⟩
  · obtain ⟨a, b, c, d, e, f, g, rfl⟩ := len7 hl
    rfl
theorem chk_7_127 : CH 7 127 [] := by
  refine ⟨fun r => rfl, by decide +kernel, by decide +kernel, by decide, fun l hl => ?_, by decide +kernel, by decide⟩
  · obtain ⟨a, b, c, d, e, f, g, rfl⟩ := len7 hl
    rfl
theorem chk_7 : ∀ q ∈ chT7, CH 7 q.1 q.2 := List.forall_mem_cons.mpr ⟨chk_7_1, List.forall_mem_cons.mpr ⟨chk_7_4, List.forall_mem_cons.mpr ⟨chk_7_7, List.forall_mem_cons.mpr ⟨chk_7_16, List.forall_mem_cons.mpr ⟨chk_7_19, List.forall_mem_cons.mpr ⟨chk_7_25, List.forall_mem_cons.mpr ⟨chk_7_28, List.forall_mem_cons.mpr ⟨chk_7_31, List.forall_mem_cons.mpr ⟨chk_7_64, List.forall_mem_cons.mpr ⟨chk_7_67, List.forall_mem_cons.mpr ⟨chk_7_73, List.forall_mem_cons.mpr ⟨chk_7_76, List.forall_mem_cons.mpr ⟨chk_7_79, List.forall_mem_cons.mpr ⟨chk_7_97, List.forall_mem_cons.mpr ⟨chk_7_100, List.forall_mem_cons.mpr ⟨chk_7_103, List.forall_mem_cons.mpr ⟨chk_7_112, List.forall_mem_cons.mpr ⟨chk_7_115, List.forall_mem_cons.mpr ⟨chk_7_121, List.forall_mem_cons.mpr ⟨chk_7_124, List.forall_mem_cons.mpr ⟨chk_7_127, fun _ h => absurd h List.not_mem_nil⟩⟩⟩⟩⟩⟩⟩⟩⟩⟩⟩⟩⟩⟩⟩⟩⟩⟩⟩⟩⟩
theorem ch_ok {n c : Nat} (hn : NB n) (hc : IsC n c) : CH n c (psw n c) := by
  obtain ⟨ps, hp⟩ := hc
  have h : CH n c ps := by
    rcases hn with hn | hn | hn | hn <;> subst hn
    · exact chk_4 _ hp
    · exact chk_5 _ hp
    · exact chk_6 _ hp
    · exact chk_7 _ hp
  rw [h.2.1]
  exact h
