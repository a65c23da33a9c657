/-! PURE: the law's own way of changing a row -/
def CHR (n c : Nat) (ps : List Nat) : Prop := ∀ (g : Nat → Int32) (l : List Nat), l.length = n → (∀ k, k < n → g k = ii (l.getD k 0)) → ∃ g', fX7_ring (ii n) n g (ii c) = some g' ∧ ∀ k, k < n → g' k = ii ((sws ps l).getD k 0)
theorem chr_4_0 : CHR 4 0 [1, 3] := by
  intro gg l hl h
  obtain ⟨a, b, c, d, rfl⟩ := len4 hl
  have h0 : gg 0 = ii a := h 0 (by decide)
  have h1 : gg 1 = ii b := h 1 (by decide)
  have h2 : gg 2 = ii c := h 2 (by decide)
  have h3 : gg 3 = ii d := h 3 (by decide)
  refine ⟨_, rfl, fun k hk => ?_⟩
  rcases (show k = 0 ∨ k = 1 ∨ k = 2 ∨ k = 3 by omega) with e | e | e | e
  · subst e
    exact h1
  · subst e
    exact h0
  · subst e
    exact h3
  · subst e
    exact h2
theorem chr_4_3 : CHR 4 3 [3] := by
  intro gg l hl h
  obtain ⟨a, b, c, d, rfl⟩ := len4 hl
  have h0 : gg 0 = ii a := h 0 (by decide)
  have h1 : gg 1 = ii b := h 1 (by decide)
  have h2 : gg 2 = ii c := h 2 (by decide)
  have h3 : gg 3 = ii d := h 3 (by decide)
  refine ⟨_, rfl, fun k hk => ?_⟩
  rcases (show k = 0 ∨ k = 1 ∨ k = 2 ∨ k = 3 by omega) with e | e | e | e
  · subst e
    exact h0
  · subst e
    exact h1
  · subst e
    exact h3
  · subst e
    exact h2
theorem chr_4_9 : CHR 4 9 [2] := by
  intro gg l hl h
  obtain ⟨a, b, c, d, rfl⟩ := len4 hl
  have h0 : gg 0 = ii a := h 0 (by decide)
  have h1 : gg 1 = ii b := h 1 (by decide)
  have h2 : gg 2 = ii c := h 2 (by decide)
  have h3 : gg 3 = ii d := h 3 (by decide)
  refine ⟨_, rfl, fun k hk => ?_⟩
  rcases (show k = 0 ∨ k = 1 ∨ k = 2 ∨ k = 3 by omega) with e | e | e | e
  · subst e
    exact h0
  · subst e
    exact h2
  · subst e
    exact h1
  · subst e
    exact h3
theorem chr_4_12 : CHR 4 12 [1] := by
  intro gg l hl h
  obtain ⟨a, b, c, d, rfl⟩ := len4 hl
  have h0 : gg 0 = ii a := h 0 (by decide)
  have h1 : gg 1 = ii b := h 1 (by decide)
  have h2 : gg 2 = ii c := h 2 (by decide)
  have h3 : gg 3 = ii d := h 3 (by decide)
  refine ⟨_, rfl, fun k hk => ?_⟩
  rcases (show k = 0 ∨ k = 1 ∨ k = 2 ∨ k = 3 by omega) with e | e | e | e
  · subst e
    exact h1
  · subst e
    exact h0
  · subst e
    exact h2
  · subst e
    exact h3
theorem chr_4_15 : CHR 4 15 [] := by
  intro gg l hl h
  obtain ⟨a, b, c, d, rfl⟩ := len4 hl
  have h0 : gg 0 = ii a := h 0 (by decide)
  have h1 : gg 1 = ii b := h 1 (by decide)
  have h2 : gg 2 = ii c := h 2 (by decide)
  have h3 : gg 3 = ii d := h 3 (by decide)
  refine ⟨_, rfl, fun k hk => ?_⟩
  rcases (show k = 0 ∨ k = 1 ∨ k = 2 ∨ k = 3 by omega) with e | e | e | e
  · subst e
    exact h0
  · subst e
    exact h1
  · subst e
    exact h2
  · subst e
    exact h3
theorem chr_4 : ∀ q ∈ chT4, CHR 4 q.1 q.2 := List.forall_mem_cons.mpr ⟨chr_4_0, List.forall_mem_cons.mpr ⟨chr_4_3, List.forall_mem_cons.mpr ⟨chr_4_9, List.forall_mem_cons.mpr ⟨chr_4_12, List.forall_mem_cons.mpr ⟨chr_4_15, fun _ h => absurd h List.not_mem_nil⟩⟩⟩⟩⟩
theorem chr_5_1 : CHR 5 1 [2, 4] := by
  intro gg l hl h
  obtain ⟨a, b, c, d, e, rfl⟩ := len5 hl
  have h0 : gg 0 = ii a := h 0 (by decide)
  have h1 : gg 1 = ii b := h 1 (by decide)
  have h2 : gg 2 = ii c := h 2 (by decide)
  have h3 : gg 3 = ii d := h 3 (by decide)
  have h4 : gg 4 = ii e := h 4 (by decide)
  refine ⟨_, rfl, fun k hk => ?_⟩
  rcases (show k = 0 ∨ k = 1 ∨ k = 2 ∨ k = 3 ∨ k = 4 by omega) with e | e | e | e | e
  · subst e
    exact h0
  · subst e
    exact h2
  · subst e
    exact h1
  · subst e
    exact h4
  · subst e
    exact h3
theorem chr_5_4 : CHR 5 4 [1, 4] := by
  intro gg l hl h
  obtain ⟨a, b, c, d, e, rfl⟩ := len5 hl
  have h0 : gg 0 = ii a := h 0 (by decide)
  have h1 : gg 1 = ii b := h 1 (by decide)
  have h2 : gg 2 = ii c := h 2 (by decide)
  have h3 : gg 3 = ii d := h 3 (by decide)
  have h4 : gg 4 = ii e := h 4 (by decide)
  refine ⟨_, rfl, fun k hk => ?_⟩
  rcases (show k = 0 ∨ k = 1 ∨ k = 2 ∨ k = 3 ∨ k = 4 by omega) with e | e | e | e | e
  · subst e
    exact h1
  · subst e
    exact h0
  · subst e
    exact h2
  · subst e
    exact h4
  · subst e
    exact h3
theorem chr_5_7 : CHR 5 7 [4] := by
  intro gg l hl h
  obtain ⟨a, b, c, d, e, rfl⟩ := len5 hl
  have h0 : gg 0 = ii a := h 0 (by decide)
  have h1 : gg 1 = ii b := h 1 (by decide)
  have h2 : gg 2 = ii c := h 2 (by decide)
  have h3 : gg 3 = ii d := h 3 (by decide)
  have h4 : gg 4 = ii e := h 4 (by decide)
  refine ⟨_, rfl, fun k hk => ?_⟩
  rcases (show k = 0 ∨ k = 1 ∨ k = 2 ∨ k = 3 ∨ k = 4 by omega) with e | e | e | e | e
  · subst e
    exact h0
  · subst e
    exact h1
  · subst e
    exact h2
  · subst e
    exact h4
  · subst e
    exact h3
theorem chr_5_16 : CHR 5 16 [1, 3] := by
  intro gg l hl h
  obtain ⟨a, b, c, d, e, rfl⟩ := len5 hl
  have h0 : gg 0 = ii a := h 0 (by decide)
  have h1 : gg 1 = ii b := h 1 (by decide)
  have h2 : gg 2 = ii c := h 2 (by decide)
  have h3 : gg 3 = ii d := h 3 (by decide)
  have h4 : gg 4 = ii e := h 4 (by decide)
  refine ⟨_, rfl, fun k hk => ?_⟩
  rcases (show k = 0 ∨ k = 1 ∨ k = 2 ∨ k = 3 ∨ k = 4 by omega) with e | e | e | e | e
  · subst e
    exact h1
  · subst e
    exact h0
  · subst e
    exact h3
  · subst e
    exact h2
  · subst e
    exact h4
theorem chr_5_19 : CHR 5 19 [3] := by
  intro gg l hl h
  obtain ⟨a, b, c, d, e, rfl⟩ := len5 hl
  have h0 : gg 0 = ii a := h 0 (by decide)
  have h1 : gg 1 = ii b := h 1 (by decide)
  have h2 : gg 2 = ii c := h 2 (by decide)
  have h3 : gg 3 = ii d := h 3 (by decide)
  have h4 : gg 4 = ii e := h 4 (by decide)
  refine ⟨_, rfl, fun k hk => ?_⟩
  rcases (show k = 0 ∨ k = 1 ∨ k = 2 ∨ k = 3 ∨ k = 4 by omega) with e | e | e | e | e
  · subst e
    exact h0
  · subst e
    exact h1
  · subst e
    exact h3
  · subst e
    exact h2
  · subst e
    exact h4
theorem chr_5_25 : CHR 5 25 [2] := by
  intro gg l hl h
  obtain ⟨a, b, c, d, e, rfl⟩ := len5 hl
  have h0 : gg 0 = ii a := h 0 (by decide)
  have h1 : gg 1 = ii b := h 1 (by decide)
  have h2 : gg 2 = ii c := h 2 (by decide)
  have h3 : gg 3 = ii d := h 3 (by decide)
  have h4 : gg 4 = ii e := h 4 (by decide)
  refine ⟨_, rfl, fun k hk => ?_⟩
  rcases (show k = 0 ∨ k = 1 ∨ k = 2 ∨ k = 3 ∨ k = 4 by omega) with e | e | e | e | e
  · subst e
    exact h0
  · subst e
    exact h2
  · subst e
    exact h1
  · subst e
    exact h3
  · subst e
    exact h4
theorem chr_5_28 : CHR 5 28 [1] := by
  intro gg l hl h
  obtain ⟨a, b, c, d, e, rfl⟩ := len5 hl
  have h0 : gg 0 = ii a := h 0 (by decide)
  have h1 : gg 1 = ii b := h 1 (by decide)
  have h2 : gg 2 = ii c := h 2 (by decide)
  have h3 : gg 3 = ii d := h 3 (by decide)
  have h4 : gg 4 = ii e := h 4 (by decide)
  refine ⟨_, rfl, fun k hk => ?_⟩
  rcases (show k = 0 ∨ k = 1 ∨ k = 2 ∨ k = 3 ∨ k = 4 by omega) with e | e | e | e | e
  · subst e
    exact h1
  · subst e
    exact h0
  · subst e
    exact h2
  · subst e
    exact h3
  · subst e
    exact h4
theorem chr_5_31 : CHR 5 31 [] := by
  intro gg l hl h
  obtain ⟨a, b, c, d, e, rfl⟩ := len5 hl
  have h0 : gg 0 = ii a := h 0 (by decide)
  have h1 : gg 1 = ii b := h 1 (by decide)
  have h2 : gg 2 = ii c := h 2 (by decide)
  have h3 : gg 3 = ii d := h 3 (by decide)
  have h4 : gg 4 = ii e := h 4 (by decide)
  refine ⟨_, rfl, fun k hk => ?_⟩
  rcases (show k = 0 ∨ k = 1 ∨ k = 2 ∨ k = 3 ∨ k = 4 by omega) with e | e | e | e | e
  · subst e
    exact h0
  · subst e
    exact h1
  · subst e
    exact h2
  · subst e
    exact h3
  · subst e
    exact h4
theorem chr_5 : ∀ q ∈ chT5, CHR 5 q.1 q.2 := List.forall_mem_cons.mpr ⟨chr_5_1, List.forall_mem_cons.mpr ⟨chr_5_4, List.forall_mem_cons.mpr ⟨chr_5_7, List.forall_mem_cons.mpr ⟨chr_5_16, List.forall_mem_cons.mpr ⟨chr_5_19, List.forall_mem_cons.mpr ⟨chr_5_25, List.forall_mem_cons.mpr ⟨chr_5_28, List.forall_mem_cons.mpr ⟨chr_5_31, fun _ h => absurd h List.not_mem_nil⟩⟩⟩⟩⟩⟩⟩⟩
theorem chr_6_0 : CHR 6 0 [1, 3, 5] := by
  intro gg l hl h
  obtain ⟨a, b, c, d, e, f, rfl⟩ := len6 hl
  have h0 : gg 0 = ii a := h 0 (by decide)
  have h1 : gg 1 = ii b := h 1 (by decide)
  have h2 : gg 2 = ii c := h 2 (by decide)
  have h3 : gg 3 = ii d := h 3 (by decide)
  have h4 : gg 4 = ii e := h 4 (by decide)
  have h5 : gg 5 = ii f := h 5 (by decide)
  refine ⟨_, rfl, fun k hk => ?_⟩
  rcases (show k = 0 ∨ k = 1 ∨ k = 2 ∨ k = 3 ∨ k = 4 ∨ k = 5 by omega) with e | e | e | e | e | e
  · subst e
    exact h1
  · subst e
    exact h0
  · subst e
    exact h3
  · subst e
    exact h2
  · subst e
    exact h5
  · subst e
    exact h4
theorem chr_6_3 : CHR 6 3 [3, 5] := by
  intro gg l hl h
  obtain ⟨a, b, c, d, e, f, rfl⟩ := len6 hl
  have h0 : gg 0 = ii a := h 0 (by decide)
  have h1 : gg 1 = ii b := h 1 (by decide)
  have h2 : gg 2 = ii c := h 2 (by decide)
  have h3 : gg 3 = ii d := h 3 (by decide)
  have h4 : gg 4 = ii e := h 4 (by decide)
  have h5 : gg 5 = ii f := h 5 (by decide)
  refine ⟨_, rfl, fun k hk => ?_⟩
  rcases (show k = 0 ∨ k = 1 ∨ k = 2 ∨ k = 3 ∨ k = 4 ∨ k = 5 by omega) with e | e | e | e | e | e
  · subst e
    exact h0
  · subst e
    exact h1
  · subst e
    exact h3
  · subst e
    exact h2
  · subst e
    exact h5
  · subst e
    exact h4
theorem chr_6_9 : CHR 6 9 [2, 5] := by
  intro gg l hl h
  obtain ⟨a, b, c, d, e, f, rfl⟩ := len6 hl
  have h0 : gg 0 = ii a := h 0 (by decide)
  have h1 : gg 1 = ii b := h 1 (by decide)
  have h2 : gg 2 = ii c := h 2 (by decide)
  have h3 : gg 3 = ii d := h 3 (by decide)
  have h4 : gg 4 = ii e := h 4 (by decide)
  have h5 : gg 5 = ii f := h 5 (by decide)
  refine ⟨_, rfl, fun k hk => ?_⟩
  rcases (show k = 0 ∨ k = 1 ∨ k = 2 ∨ k = 3 ∨ k = 4 ∨ k = 5 by omega) with e | e | e | e | e | e
  · subst e
    exact h0
  · subst e
    exact h2
  · subst e
    exact h1
  · subst e
    exact h3
  · subst e
    exact h5
  · subst e
    exact h4
theorem chr_6_12 : CHR 6 12 [1, 5] := by
  intro gg l hl h
  obtain ⟨a, b, c, d, e, f, rfl⟩ := len6 hl
  have h0 : gg 0 = ii a := h 0 (by decide)
  have h1 : gg 1 = ii b := h 1 (by decide)
  have h2 : gg 2 = ii c := h 2 (by decide)
  have h3 : gg 3 = ii d := h 3 (by decide)
  have h4 : gg 4 = ii e := h 4 (by decide)
  have h5 : gg 5 = ii f := h 5 (by decide)
  refine ⟨_, rfl, fun k hk => ?_⟩
  rcases (show k = 0 ∨ k = 1 ∨ k = 2 ∨ k = 3 ∨ k = 4 ∨ k = 5 by omega) with e | e | e | e | e | e
  · subst e
    exact h1
  · subst e
    exact h0
  · subst e
    exact h2
  · subst e
    exact h3
  · subst e
    exact h5
  · subst e
    exact h4
theorem chr_6_15 : CHR 6 15 [5] := by
  intro gg l hl h
  obtain ⟨a, b, c, d, e, f, rfl⟩ := len6 hl
  have h0 : gg 0 = ii a := h 0 (by decide)
  have h1 : gg 1 = ii b := h 1 (by decide)
  have h2 : gg 2 = ii c := h 2 (by decide)
  have h3 : gg 3 = ii d := h 3 (by decide)
  have h4 : gg 4 = ii e := h 4 (by decide)
  have h5 : gg 5 = ii f := h 5 (by decide)
  refine ⟨_, rfl, fun k hk => ?_⟩
  rcases (show k = 0 ∨ k = 1 ∨ k = 2 ∨ k = 3 ∨ k = 4 ∨ k = 5 by omega) with e | e | e | e | e | e
  · subst e
    exact h0
  · subst e
    exact h1
  · subst e
    exact h2
  · subst e
    exact h3
  · subst e
    exact h5
  · subst e
    exact h4
theorem chr_6_33 : CHR 6 33 [2, 4] := by
  intro gg l hl h
  obtain ⟨a, b, c, d, e, f, rfl⟩ := len6 hl
  have h0 : gg 0 = ii a := h 0 (by decide)
  have h1 : gg 1 = ii b := h 1 (by decide)
  have h2 : gg 2 = ii c := h 2 (by decide)
  have h3 : gg 3 = ii d := h 3 (by decide)
  have h4 : gg 4 = ii e := h 4 (by decide)
  have h5 : gg 5 = ii f := h 5 (by decide)
  refine ⟨_, rfl, fun k hk => ?_⟩
  rcases (show k = 0 ∨ k = 1 ∨ k = 2 ∨ k = 3 ∨ k = 4 ∨ k = 5 by omega) with e | e | e | e | e | e
  · subst e
    exact h0
  · subst e
    exact h2
  · subst e
    exact h1
  · subst e
    exact h4
  · subst e
    exact h3
  · subst e
    exact h5
theorem chr_6_36 : CHR 6 36 [1, 4] := by
  intro gg l hl h
  obtain ⟨a, b, c, d, e, f, rfl⟩ := len6 hl
  have h0 : gg 0 = ii a := h 0 (by decide)
  have h1 : gg 1 = ii b := h 1 (by decide)
  have h2 : gg 2 = ii c := h 2 (by decide)
  have h3 : gg 3 = ii d := h 3 (by decide)
  have h4 : gg 4 = ii e := h 4 (by decide)
  have h5 : gg 5 = ii f := h 5 (by decide)
  refine ⟨_, rfl, fun k hk => ?_⟩
  rcases (show k = 0 ∨ k = 1 ∨ k = 2 ∨ k = 3 ∨ k = 4 ∨ k = 5 by omega) with e | e | e | e | e | e
  · subst e
    exact h1
  · subst e
    exact h0
  · subst e
    exact h2
  · subst e
    exact h4
  · subst e
    exact h3
  · subst e
    exact h5
theorem chr_6_39 : CHR 6 39 [4] := by
  intro gg l hl h
  obtain ⟨a, b, c, d, e, f, rfl⟩ := len6 hl
  have h0 : gg 0 = ii a := h 0 (by decide)
  have h1 : gg 1 = ii b := h 1 (by decide)
  have h2 : gg 2 = ii c := h 2 (by decide)
  have h3 : gg 3 = ii d := h 3 (by decide)
  have h4 : gg 4 = ii e := h 4 (by decide)
  have h5 : gg 5 = ii f := h 5 (by decide)
  refine ⟨_, rfl, fun k hk => ?_⟩
  rcases (show k = 0 ∨ k = 1 ∨ k = 2 ∨ k = 3 ∨ k = 4 ∨ k = 5 by omega) with e | e | e | e | e | e
  · subst e
    exact h0
  · subst e
    exact h1
  · subst e
    exact h2
  · subst e
    exact h4
  · subst e
    exact h3
  · subst e
    exact h5
theorem chr_6_48 : CHR 6 48 [1, 3] := by
  intro gg l hl h
  obtain ⟨a, b, c, d, e, f, rfl⟩ := len6 hl
  have h0 : gg 0 = ii a := h 0 (by decide)
  have h1 : gg 1 = ii b := h 1 (by decide)
  have h2 : gg 2 = ii c := h 2 (by decide)
  have h3 : gg 3 = ii d := h 3 (by decide)
  have h4 : gg 4 = ii e := h 4 (by decide)
  have h5 : gg 5 = ii f := h 5 (by decide)
  refine ⟨_, rfl, fun k hk => ?_⟩
  rcases (show k = 0 ∨ k = 1 ∨ k = 2 ∨ k = 3 ∨ k = 4 ∨ k = 5 by omega) with e | e | e | e | e | e
  · subst e
    exact h1
  · subst e
    exact h0
  · subst e
    exact h3
  · subst e
    exact h2
  · subst e
    exact h4
  · subst e
    exact h5
theorem chr_6_51 : CHR 6 51 [3] := by
  intro gg l hl h
  obtain ⟨a, b, c, d, e, f, rfl⟩ := len6 hl
  have h0 : gg 0 = ii a := h 0 (by decide)
  have h1 : gg 1 = ii b := h 1 (by decide)
  have h2 : gg 2 = ii c := h 2 (by decide)
  have h3 : gg 3 = ii d := h 3 (by decide)
  have h4 : gg 4 = ii e := h 4 (by decide)
  have h5 : gg 5 = ii f := h 5 (by decide)
  refine ⟨_, rfl, fun k hk => ?_⟩
  rcases (show k = 0 ∨ k = 1 ∨ k = 2 ∨ k = 3 ∨ k = 4 ∨ k = 5 by omega) with e | e | e | e | e | e
  · subst e
    exact h0
  · subst e
    exact h1
  · subst e
    exact h3
  · subst e
    exact h2
  · subst e
    exact h4
  · subst e
    exact h5
theorem chr_6_57 : CHR 6 57 [2] := by
  intro gg l hl h
  obtain ⟨a, b, c, d, e, f, rfl⟩ := len6 hl
  have h0 : gg 0 = ii a := h 0 (by decide)
  have h1 : gg 1 = ii b := h 1 (by decide)
  have h2 : gg 2 = ii c := h 2 (by decide)
  have h3 : gg 3 = ii d := h 3 (by decide)
  have h4 : gg 4 = ii e := h 4 (by decide)
  have h5 : gg 5 = ii f := h 5 (by decide)
  refine ⟨_, rfl, fun k hk => ?_⟩
  rcases (show k = 0 ∨ k = 1 ∨ k = 2 ∨ k = 3 ∨ k = 4 ∨ k = 5 by omega) with e | e | e | e | e | e
  · subst e
    exact h0
  · subst e
    exact h2
  · subst e
    exact h1
  · subst e
    exact h3
  · subst e
    exact h4
  · subst e
    exact h5
theorem chr_6_60 : CHR 6 60 [1] := by
  intro gg l hl h
  obtain ⟨a, b, c, d, e, f, rfl⟩ := len6 hl
  have h0 : gg 0 = ii a := h 0 (by decide)
  have h1 : gg 1 = ii b := h 1 (by decide)
  have h2 : gg 2 = ii c := h 2 (by decide)
  have h3 : gg 3 = ii d := h 3 (by decide)
  have h4 : gg 4 = ii e := h 4 (by decide)
  have h5 : gg 5 = ii f := h 5 (by decide)
  refine ⟨_, rfl, fun k hk => ?_⟩
  rcases (show k = 0 ∨ k = 1 ∨ k = 2 ∨ k = 3 ∨ k = 4 ∨ k = 5 by omega) with e | e | e | e | e | e
  · subst e
    exact h1
  · subst e
    exact h0
  · subst e
    exact h2
  · subst e
    exact h3
  · subst e
    exact h4
  · subst e
    exact h5
theorem chr_6_63 : CHR 6 63 [] := by
  intro gg l hl h
  obtain ⟨a, b, c, d, e, f, rfl⟩ := len6 hl
  have h0 : gg 0 = ii a := h 0 (by decide)
  have h1 : gg 1 = ii b := h 1 (by decide)
  have h2 : gg 2 = ii c := h 2 (by decide)
  have h3 : gg 3 = ii d := h 3 (by decide)
  have h4 : gg 4 = ii e := h 4 (by decide)
  have h5 : gg 5 = ii f := h 5 (by decide)
  refine ⟨_, rfl, fun k hk => ?_⟩
  rcases (show k = 0 ∨ k = 1 ∨ k = 2 ∨ k = 3 ∨ k = 4 ∨ k = 5 by omega) with e | e | e | e | e | e
  · subst e
    exact h0
  · subst e
    exact h1
  · subst e
    exact h2
  · subst e
    exact h3
  · subst e
    exact h4
  · subst e
    exact h5
theorem chr_6 : ∀ q ∈ chT6, CHR 6 q.1 q.2 := List.forall_mem_cons.mpr ⟨chr_6_0, List.forall_mem_cons.mpr ⟨chr_6_3, List.forall_mem_cons.mpr ⟨chr_6_9, List.forall_mem_cons.mpr ⟨chr_6_12, List.forall_mem_cons.mpr ⟨chr_6_15, List.forall_mem_cons.mpr ⟨chr_6_33, List.forall_mem_cons.mpr ⟨chr_6_36, List.forall_mem_cons.mpr ⟨chr_6_39, List.forall_mem_cons.mpr ⟨chr_6_48, List.forall_mem_cons.mpr ⟨chr_6_51, List.forall_mem_cons.mpr ⟨chr_6_57, List.forall_mem_cons.mpr ⟨chr_6_60, List.forall_mem_cons.mpr ⟨chr_6_63, fun _ h => absurd h List.not_mem_nil⟩⟩⟩⟩⟩⟩⟩⟩⟩⟩⟩⟩⟩
theorem chr_7_1 : CHR 7 1 [2, 4, 6] := by
  intro gg l hl h
  obtain ⟨a, b, c, d, e, f, g, rfl⟩ := len7 hl
  have h0 : gg 0 = ii a := h 0 (by decide)
  have h1 : gg 1 = ii b := h 1 (by decide)
  have h2 : gg 2 = ii c := h 2 (by decide)
  have h3 : gg 3 = ii d := h 3 (by decide)
  have h4 : gg 4 = ii e := h 4 (by decide)
  have h5 : gg 5 = ii f := h 5 (by decide)
  have h6 : gg 6 = ii g := h 6 (by decide)
  refine ⟨_, rfl, fun k hk => ?_⟩
  rcases (show k = 0 ∨ k = 1 ∨ k = 2 ∨ k = 3 ∨ k = 4 ∨ k = 5 ∨ k = 6 by omega) with e | e | e | e | e | e | e
  · subst e
    exact h0
  · subst e
    exact h2
  · subst e
    exact h1
  · subst e
    exact h4
  · subst e
    exact h3
  · subst e
    exact h6
  · subst e
    exact h5
theorem chr_7_4 : CHR 7 4 [1, 4, 6] := by
  intro gg l hl h
  obtain ⟨a, b, c, d, e, f, g, rfl⟩ := len7 hl
  have h0 : gg 0 = ii a := h 0 (by decide)
  have h1 : gg 1 = ii b := h 1 (by decide)
  have h2 : gg 2 = ii c := h 2 (by decide)
  have h3 : gg 3 = ii d := h 3 (by decide)
  have h4 : gg 4 = ii e := h 4 (by decide)
  have h5 : gg 5 = ii f := h 5 (by decide)
  have h6 : gg 6 = ii g := h 6 (by decide)
  refine ⟨_, rfl, fun k hk => ?_⟩
  rcases (show k = 0 ∨ k = 1 ∨ k = 2 ∨ k = 3 ∨ k = 4 ∨ k = 5 ∨ k = 6 by omega) with e | e | e | e | e | e | e
  · subst e
    exact h1
  · subst e
    exact h0
  · subst e
    exact h2
  · subst e
    exact h4
  · subst e
    exact h3
  · subst e
    exact h6
  · subst e
    exact h5
theorem chr_7_7 : CHR 7 7 [4, 6] := by
  intro gg l hl h
  obtain ⟨a, b, c, d, e, f, g, rfl⟩ := len7 hl
  have h0 : gg 0 = ii a := h 0 (by decide)
  have h1 : gg 1 = ii b := h 1 (by decide)
  have h2 : gg 2 = ii c := h 2 (by decide)
  have h3 : gg 3 = ii d := h 3 (by decide)
  have h4 : gg 4 = ii e := h 4 (by decide)
  have h5 : gg 5 = ii f := h 5 (by decide)
  have h6 : gg 6 = ii g := h 6 (by decide)
  refine ⟨_, rfl, fun k hk => ?_⟩
  rcases (show k = 0 ∨ k = 1 ∨ k = 2 ∨ k = 3 ∨ k = 4 ∨ k = 5 ∨ k = 6 by omega) with e | e | e | e | e | e | e
  · subst e
    exact h0
  · subst e
    exact h1
  · subst e
    exact h2
  · subst e
    exact h4
  · subst e
    exact h3
  · subst e
    exact h6
  · subst e
    exact h5
theorem chr_7_16 : CHR 7 16 [1, 3, 6] := by
  intro gg l hl h
  obtain ⟨a, b, c, d, e, f, g, rfl⟩ := len7 hl
  have h0 : gg 0 = ii a := h 0 (by decide)
  have h1 : gg 1 = ii b := h 1 (by decide)
  have h2 : gg 2 = ii c := h 2 (by decide)
  have h3 : gg 3 = ii d := h 3 (by decide)
  have h4 : gg 4 = ii e := h 4 (by decide)
  have h5 : gg 5 = ii f := h 5 (by decide)
  have h6 : gg 6 = ii g := h 6 (by decide)
  refine ⟨_, rfl, fun k hk => ?_⟩
  rcases (show k = 0 ∨ k = 1 ∨ k = 2 ∨ k = 3 ∨ k = 4 ∨ k = 5 ∨ k = 6 by omega) with e | e | e | e | e | e | e
  · subst e
    exact h1
  · subst e
    exact h0
  · subst e
    exact h3
  · subst e
    exact h2
  · subst e
    exact h4
  · subst e
    exact h6
  · subst e
    exact h5
theorem chr_7_19 : CHR 7 19 [3, 6] := by
  intro gg l hl h
  obtain ⟨a, b, c, d, e, f, g, rfl⟩ := len7 hl
  have h0 : gg 0 = ii a := h 0 (by decide)
  have h1 : gg 1 = ii b := h 1 (by decide)
  have h2 : gg 2 = ii c := h 2 (by decide)
  have h3 : gg 3 = ii d := h 3 (by decide)
  have h4 : gg 4 = ii e := h 4 (by decide)
  have h5 : gg 5 = ii f := h 5 (by decide)
  have h6 : gg 6 = ii g := h 6 (by decide)
  refine ⟨_, rfl, fun k hk => ?_⟩
  rcases (show k = 0 ∨ k = 1 ∨ k = 2 ∨ k = 3 ∨ k = 4 ∨ k = 5 ∨ k = 6 by omega) with e | e | e | e | e | e | e
  · subst e
    exact h0
  · subst e
    exact h1
  · subst e
    exact h3
  · subst e
    exact h2
  · subst e
    exact h4
  · subst e
    exact h6
  · subst e
    exact h5
theorem chr_7_25 : CHR 7 25 [2, 6] := by
  intro gg l hl h
  obtain ⟨a, b, c, d, e, f, g, rfl⟩ := len7 hl
  have h0 : gg 0 = ii a := h 0 (by decide)
  have h1 : gg 1 = ii b := h 1 (by decide)
  have h2 : gg 2 = ii c := h 2 (by decide)
  have h3 : gg 3 = ii d := h 3 (by decide)
  have h4 : gg 4 = ii e := h 4 (by decide)
  have h5 : gg 5 = ii f := h 5 (by decide)
  have h6 : gg 6 = ii g := h 6 (by decide)
  refine ⟨_, rfl, fun k hk => ?_⟩
  rcases (show k = 0 ∨ k = 1 ∨ k = 2 ∨ k = 3 ∨ k = 4 ∨ k = 5 ∨ k = 6 by omega) with e | e | e | e | e | e | e
  · subst e
    exact h0
  · subst e
    exact h2
  · subst e
    exact h1
  · subst e
    exact h3
  · subst e
    exact h4
  · subst e
    exact h6
  · subst e
    exact h5
theorem chr_7_28 : CHR 7 28 [1, 6] := by
  intro gg l hl h
  obtain ⟨a, b, c, d, e, f, g, rfl⟩ := len7 hl
  have h0 : gg 0 = ii a := h 0 (by decide)
  have h1 : gg 1 = ii b := h 1 (by decide)
  have h2 : gg 2 = ii c := h 2 (by decide)
  have h3 : gg 3 = ii d := h 3 (by decide)
  have h4 : gg 4 = ii e := h 4 (by decide)
  have h5 : gg 5 = ii f := h 5 (by decide)
  have h6 : gg 6 = ii g := h 6 (by decide)
  refine ⟨_, rfl, fun k hk => ?_⟩
  rcases (show k = 0 ∨ k = 1 ∨ k = 2 ∨ k = 3 ∨ k = 4 ∨ k = 5 ∨ k = 6 by omega) with e | e | e | e | e | e | e
  · subst e
    exact h1
  · subst e
    exact h0
  · subst e
    exact h2
  · subst e
    exact h3
  · subst e
    exact h4
  · subst e
    exact h6
  · subst e
    exact h5
theorem chr_7_31 : CHR 7 31 [6] := by
  intro gg l hl h
  obtain ⟨a, b, c, d, e, f, g, rfl⟩ := len7 hl
  have h0 : gg 0 = ii a := h 0 (by decide)
  have h1 : gg 1 = ii b := h 1 (by decide)
  have h2 : gg 2 = ii c := h 2 (by decide)
  have h3 : gg 3 = ii d := h 3 (by decide)
  have h4 : gg 4 = ii e := h 4 (by decide)
  have h5 : gg 5 = ii f := h 5 (by decide)
  have h6 : gg 6 = ii g := h 6 (by decide)
  refine ⟨_, rfl, fun k hk => ?_⟩
  rcases (show k = 0 ∨ k = 1 ∨ k = 2 ∨ k = 3 ∨ k = 4 ∨ k = 5 ∨ k = 6 by omega) with e | e | e | e | e | e | e
  · subst e
    exact h0
  · subst e
    exact h1
  · subst e
    exact h2
  · subst e
    exact h3
  · subst e
    exact h4
  · subst e
    exact h6
  · subst e
    exact h5
theorem chr_7_64 : CHR 7 64 [1, 3, 5] := by
  intro gg l hl h
  obtain ⟨a, b, c, d, e, f, g, rfl⟩ := len7 hl
  have h0 : gg 0 = ii a := h 0 (by decide)
  have h1 : gg 1 = ii b := h 1 (by decide)
  have h2 : gg 2 = ii c := h 2 (by decide)
  have h3 : gg 3 = ii d := h 3 (by decide)
  have h4 : gg 4 = ii e := h 4 (by decide)
  have h5 : gg 5 = ii f := h 5 (by decide)
  have h6 : gg 6 = ii g := h 6 (by decide)
  refine ⟨_, rfl, fun k hk => ?_⟩
  rcases (show k = 0 ∨ k = 1 ∨ k = 2 ∨ k = 3 ∨ k = 4 ∨ k = 5 ∨ k = 6 by omega) with e | e | e | e | e | e | e
  · subst e
    exact h1
  · subst e
    exact h0
  · subst e
    exact h3
  · subst e
    exact h2
  · subst e
    exact h5
  · subst e
    exact h4
  · subst e
    exact h6
theorem chr_7_67 : CHR 7 67 [3, 5] := by
  intro gg l hl h
  obtain ⟨a, b, c, d, e, f, g, rfl⟩ := len7 hl
  have h0 : gg 0 = ii a := h 0 (by decide)
  have h1 : gg 1 = ii b := h 1 (by decide)
  have h2 : gg 2 = ii c := h 2 (by decide)
  have h3 : gg 3 = ii d := h 3 (by decide)
  have h4 : gg 4 = ii e := h 4 (by decide)
  have h5 : gg 5 = ii f := h 5 (by decide)
  have h6 : gg 6 = ii g := h 6 (by decide)
  refine ⟨_, rfl, fun k hk => ?_⟩
  rcases (show k = 0 ∨ k = 1 ∨ k = 2 ∨ k = 3 ∨ k = 4 ∨ k = 5 ∨ k = 6 by omega) with e | e | e | e | e | e | e
  · subst e
    exact h0
  · subst e
    exact h1
  · subst e
    exact h3
  · subst e
    exact h2
  · subst e
    exact h5
  · subst e
    exact h4
  · subst e
    exact h6
theorem chr_7_73 : CHR 7 73 [2, 5] := by
  intro gg l hl h
  obtain ⟨a, b, c, d, e, f, g, rfl⟩ := len7 hl
  have h0 : gg 0 = ii a := h 0 (by decide)
  have h1 : gg 1 = ii b := h 1 (by decide)
  have h2 : gg 2 = ii c := h 2 (by decide)
  have h3 : gg 3 = ii d := h 3 (by decide)
  have h4 : gg 4 = ii e := h 4 (by decide)
  have h5 : gg 5 = ii f := h 5 (by decide)
  have h6 : gg 6 = ii g := h 6 (by decide)
  refine ⟨_, rfl, fun k hk => ?_⟩
  rcases (show k = 0 ∨ k = 1 ∨ k = 2 ∨ k = 3 ∨ k = 4 ∨ k = 5 ∨ k = 6 by omega) with e | e | e | e | e | e | e
  · subst e
    exact h0
  · subst e
    exact h2
  · subst e
    exact h1
  · subst e
    exact h3
  · subst e
    exact h5
  · subst e
    exact h4
  · subst e
    exact h6
theorem chr_7_76 : CHR 7 76 [1, 5] := by
  intro gg l hl h
  obtain ⟨a, b, c, d, e, f, g, rfl⟩ := len7 hl
  have h0 : gg 0 = ii a := h 0 (by decide)
  have h1 : gg 1 = ii b := h 1 (by decide)
  have h2 : gg 2 = ii c := h 2 (by decide)
  have h3 : gg 3 = ii d := h 3 (by decide)
  have h4 : gg 4 = ii e := h 4 (by decide)
  have h5 : gg 5 = ii f := h 5 (by decide)
  have h6 : gg 6 = ii g := h 6 (by decide)
  refine ⟨_, rfl, fun k hk => ?_⟩
  rcases (show k = 0 ∨ k = 1 ∨ k = 2 ∨ k = 3 ∨ k = 4 ∨ k = 5 ∨ k = 6 by omega) with e | e | e | e | e | e | e
  · subst e
    exact h1
  · subst e
    exact h0
  · subst e
    exact h2
  · subst e
    exact h3
  · subst e
    exact h5
  · subst e
    exact h4
  · subst e
    exact h6
theorem chr_7_79 : CHR 7 79 [5] := by
  intro gg l hl h
  obtain ⟨a, b, c, d, e, f, g, rfl⟩ := len7 hl
  have h0 : gg 0 = ii a := h 0 (by decide)
  have h1 : gg 1 = ii b := h 1 (by decide)
  have h2 : gg 2 = ii c := h 2 (by decide)
  have h3 : gg 3 = ii d := h 3 (by decide)
  have h4 : gg 4 = ii e := h 4 (by decide)
  have h5 : gg 5 = ii f := h 5 (by decide)
  have h6 : gg 6 = ii g := h 6 (by decide)
  refine ⟨_, rfl, fun k hk => ?_⟩
  rcases (show k = 0 ∨ k = 1 ∨ k = 2 ∨ k = 3 ∨ k = 4 ∨ k = 5 ∨ k = 6 by omega) with e | e | e | e | e | e | e
  · subst e
    exact h0
  · subst e
    exact h1
  · subst e
    exact h2
  · subst e
    exact h3
  · subst e
    exact h5
  · subst e
    exact h4
  · subst e
    exact h6
theorem chr_7_97 : CHR 7 97 [2, 4] := by
  intro gg l hl h
  obtain ⟨a, b, c, d, e, f, g, rfl⟩ := len7 hl
  have h0 : gg 0 = ii a := h 0 (by decide)
  have h1 : gg 1 = ii b := h 1 (by decide)
  have h2 : gg 2 = ii c := h 2 (by decide)
  have h3 : gg 3 = ii d := h 3 (by decide)
  have h4 : gg 4 = ii e := h 4 (by decide)
  have h5 : gg 5 = ii f := h 5 (by decide)
  have h6 : gg 6 = ii g := h 6 (by decide)
  refine ⟨_, rfl, fun k hk => ?_⟩
  rcases (show k = 0 ∨ k = 1 ∨ k = 2 ∨ k = 3 ∨ k = 4 ∨ k = 5 ∨ k = 6 by omega) with e | e | e | e | e | e | e
  · subst e
    exact h0
  · subst e
    exact h2
  · subst e
    exact h1
  · subst e
    exact h4
  · subst e
    exact h3
  · subst e
    exact h5
  · subst e
    exact h6
theorem chr_7_100 : CHR 7 100 [1, 4] := by
  intro gg l hl h
  obtain ⟨a, b, c, d, e, f, g, rfl⟩ := len7 hl
  have h0 : gg 0 = ii a := h 0 (by decide)
  have h1 : gg 1 = ii b := h 1 (by decide)
  have h2 : gg 2 = ii c := h 2 (by decide)
  have h3 : gg 3 = ii d := h 3 (by decide)
  have h4 : gg 4 = ii e := h 4 (by decide)
  have h5 : gg 5 = ii f := h 5 (by decide)
  have h6 : gg 6 = ii g := h 6 (by decide)
  refine ⟨_, rfl, fun k hk => ?_⟩
  rcases (show k = 0 ∨ k = 1 ∨ k = 2 ∨ k = 3 ∨ k = 4 ∨ k = 5 ∨ k = 6 by omega) with e | e | e | e | e | e | e
  · subst e
    exact h1
  · subst e
    exact h0
  · subst e
    exact h2
  · subst e
    exact h4
  · subst e
    exact h3
  · subst e
    exact h5
  · subst e
    exact h6
theorem chr_7_103 : CHR 7 103 [4] := by
  intro gg l hl h
  obtain ⟨a, b, c, d, e, f, g, rfl⟩ := len7 hl
  have h0 : gg 0 = ii a := h 0 (by decide)
  have h1 : gg 1 = ii b := h 1 (by decide)
  have h2 : gg 2 = ii c := h 2 (by decide)
  have h3 : gg 3 = ii d := h 3 (by decide)
  have h4 : gg 4 = ii e := h 4 (by decide)
  have h5 : gg 5 = ii f := h 5 (by decide)
  have h6 : gg 6 = ii g := h 6 (by decide)
  refine ⟨_, rfl, fun k hk => ?_⟩
  rcases (show k = 0 ∨ k = 1 ∨ k = 2 ∨ k = 3 ∨ k = 4 ∨ k = 5 ∨ k = 6 by omega) with e | e | e | e | e | e | e
  · subst e
    exact h0
  · subst e
    exact h1
  · subst e
    exact h2
  · subst e
    exact h4
  · subst e
    exact h3
  · subst e
    exact h5
  · subst e
    exact h6
theorem chr_7_112 : CHR 7 112 [1, 3] := by
  intro gg l hl h
  obtain ⟨a, b, c, d, e, f, g, rfl⟩ := len7 hl
  have h0 : gg 0 = ii a := h 0 (by decide)
  have h1 : gg 1 = ii b := h 1 (by decide)
  have h2 : gg 2 = ii c := h 2 (by decide)
  have h3 : gg 3 = ii d := h 3 (by decide)
  have h4 : gg 4 = ii e := h 4 (by decide)
  have h5 : gg 5 = ii f := h 5 (by decide)
  have h6 : gg 6 = ii g := h 6 (by decide)
  refine ⟨_, rfl, fun k hk => ?_⟩
  rcases (show k = 0 ∨ k = 1 ∨ k = 2 ∨ k = 3 ∨ k = 4 ∨ k = 5 ∨ k = 6 by omega) with e | e | e | e | e | e | e
  · subst e
    exact h1
  · subst e
    exact h0
  · subst e
    exact h3
  · subst e
    exact h2
  · subst e
    exact h4
  · subst e
    exact h5
  · subst e
    exact h6
theorem chr_7_115 : CHR 7 115 [3] := by
  intro gg l hl h
  obtain ⟨a, b, c, d, e, f, g, rfl⟩ := len7 hl
  have h0 : gg 0 = ii a := h 0 (by decide)
  have h1 : gg 1 = ii b := h 1 (by decide)
  have h2 : gg 2 = ii c := h 2 (by decide)
  have h3 : gg 3 = ii d := h 3 (by decide)
  have h4 : gg 4 = ii e := h 4 (by decide)
  have h5 : gg 5 = ii f := h 5 (by decide)
  have h6 : gg 6 = ii g := h 6 (by decide)
  refine ⟨_, rfl, fun k hk => ?_⟩
  rcases (show k = 0 ∨ k = 1 ∨ k = 2 ∨ k = 3 ∨ k = 4 ∨ k = 5 ∨ k = 6 by omega) with e | e | e | e | e | e | e
  · subst e
    exact h0
  · subst e
    exact h1
  · subst e
    exact h3
  · subst e
    exact h2
  · subst e
    exact h4
  · subst e
    exact h5
  · subst e
    exact h6
theorem chr_7_121 : CHR 7 121 [2] := by
  intro gg l hl h
  obtain ⟨a, b, c, d, e, f, g, rfl⟩ := len7 hl
  have h0 : gg 0 = ii a := h 0 (by decide)
  have h1 : gg 1 = ii b := h 1 (by decide)
  have h2 : gg 2 = ii c := h 2 (by decide)
  have h3 : gg 3 = ii d := h 3 (by decide)
  have h4 : gg 4 = ii e := h 4 (by decide)
  have h5 : gg 5 = ii f := h 5 (by decide)
  have h6 : gg 6 = ii g := h 6 (by decide)
  refine ⟨_, rfl, fun k hk => ?_⟩
  rcases (show k = 0 ∨ k = 1 ∨ k = 2 ∨ k = 3 ∨ k = 4 ∨ k = 5 ∨ k = 6 by omega) with e | e | e | e | e | e | e
  · subst e
    exact h0
  · subst e
    exact h2
  · subst e
    exact h1
  · subst e
    exact h3
  · subst e
    exact h4
  · subst e
    exact h5
  · subst e
    exact h6
theorem chr_7_124 : CHR 7 124 [1] := by
  intro gg l hl h
  obtain ⟨a, b, c, d, e, f, g, rfl⟩ := len7 hl
  have h0 : gg 0 = ii a := h 0 (by decide)
  have h1 : gg 1 = ii b := h 1 (by decide)
  have h2 : gg 2 = ii c := h 2 (by decide)
  have h3 : gg 3 = ii d := h 3 (by decide)
  have h4 : gg 4 = ii e := h 4 (by decide)
  have h5 : gg 5 = ii f := h 5 (by decide)
  have h6 : gg 6 = ii g := h 6 (by decide)
  refine ⟨_, rfl, fun k hk => ?_⟩
  rcases (show k = 0 ∨ k = 1 ∨ k = 2 ∨ k = 3 ∨ k = 4 ∨ k = 5 ∨ k = 6 by omega) with e | e | e | e | e | e | e
  · subst e
    exact h1
  · subst e
    exact h0
  · subst e
    exact h2
  · subst e
    exact h3
  · subst e
    exact h4
  · subst e
    exact h5
  · subst e
    exact h6
theorem chr_7_127 : CHR 7 127 [] := by
  intro gg l hl h
  obtain ⟨a, b, c, d, e, f, g, rfl⟩ := len7 hl
  have h0 : gg 0 = ii a := h 0 (by decide)
  have h1 : gg 1 = ii b := h 1 (by decide)
  have h2 : gg 2 = ii c := h 2 (by decide)
  have h3 : gg 3 = ii d := h 3 (by decide)
  have h4 : gg 4 = ii e := h 4 (by decide)
  have h5 : gg 5 = ii f := h 5 (by decide)
  have h6 : gg 6 = ii g := h 6 (by decide)
  refine ⟨_, rfl, fun k hk => ?_⟩
  rcases (show k = 0 ∨ k = 1 ∨ k = 2 ∨ k = 3 ∨ k = 4 ∨ k = 5 ∨ k = 6 by omega) with e | e | e | e | e | e | e
  · subst e
    exact h0
  · subst e
    exact h1
  · subst e
    exact h2
  · subst e
    exact h3
  · subst e
    exact h4
  · subst e
    exact h5
  · subst e
    exact h6
theorem chr_7 : ∀ q ∈ chT7, CHR 7 q.1 q.2 := List.forall_mem_cons.mpr ⟨chr_7_1, List.forall_mem_cons.mpr ⟨chr_7_4, List.forall_mem_cons.mpr ⟨chr_7_7, List.forall_mem_cons.mpr ⟨chr_7_16, List.forall_mem_cons.mpr ⟨chr_7_19, List.forall_mem_cons.mpr ⟨chr_7_25, List.forall_mem_cons.mpr ⟨chr_7_28, List.forall_mem_cons.mpr ⟨chr_7_31, List.forall_mem_cons.mpr ⟨chr_7_64, List.forall_mem_cons.mpr ⟨chr_7_67, List.forall_mem_cons.mpr ⟨chr_7_73, List.forall_mem_cons.mpr ⟨chr_7_76, List.forall_mem_cons.mpr ⟨chr_7_79, List.forall_mem_cons.mpr ⟨chr_7_97, List.forall_mem_cons.mpr ⟨chr_7_100, List.forall_mem_cons.mpr ⟨chr_7_103, List.forall_mem_cons.mpr ⟨chr_7_112, List.forall_mem_cons.mpr ⟨chr_7_115, List.forall_mem_cons.mpr ⟨chr_7_121, List.forall_mem_cons.mpr ⟨chr_7_124, List.forall_mem_cons.mpr ⟨chr_7_127, fun _ h => absurd h List.not_mem_nil⟩⟩⟩⟩⟩⟩⟩⟩⟩⟩⟩⟩⟩⟩⟩⟩⟩⟩⟩⟩⟩
theorem chr_ok {n c : Nat} (hn : NB n) (hc : IsC n c) : CHR n c (psw n c) := by
  obtain ⟨ps, hp⟩ := hc
  have h : CHR n c ps ∧ psw n c = ps := by
    rcases hn with hn | hn | hn | hn <;> subst hn
    · have hq : (c, ps) ∈ chT4 := hp
      have h1 : CHR 4 c ps := chr_4 (c, ps) hq
      have h2 : psw 4 c = ps := (chk_4 (c, ps) hq).2.1
      exact ⟨h1, h2⟩
    · have hq : (c, ps) ∈ chT5 := hp
      have h1 : CHR 5 c ps := chr_5 (c, ps) hq
      have h2 : psw 5 c = ps := (chk_5 (c, ps) hq).2.1
      exact ⟨h1, h2⟩
    · have hq : (c, ps) ∈ chT6 := hp
      have h1 : CHR 6 c ps := chr_6 (c, ps) hq
      have h2 : psw 6 c = ps := (chk_6 (c, ps) hq).2.1
      exact ⟨h1, h2⟩
    · have hq : (c, ps) ∈ chT7 := hp
      have h1 : CHR 7 c ps := chr_7 (c, ps) hq
      have h2 : psw 7 c = ps := (chk_7 (c, ps) hq).2.1
      exact ⟨h1, h2⟩
  rw [h.2]
  exact h.1
