/-! PURE: the cases -/
theorem q_0 (a : Int32) : pB0 a = some () := by
  rcases p_rng (4 : Int32) (7 : Int32) a with h | h | ⟨h1, h2⟩
  · simp only [pB0, fL_begin, fX6_begin, fX7_begin, pg_1, pg_2, reduceIte, Option.bind_some, Sum.elim_inl, Sum.elim_inr, fX7_no, fX7_thrown, pe_10, pe_20, pe_21, ps_1, ps_2, ps_3, fX2_bells, fX7_isIn, h]
  · have hn : ¬ a < (4 : Int32) := p_nlt h (by decide)
    have hm : ¬ a ≤ (7 : Int32) := Int32.not_le.mpr h
    simp only [pB0, fL_begin, fX6_begin, fX7_begin, pg_1, pg_2, reduceIte, Option.bind_some, Sum.elim_inl, Sum.elim_inr, fX7_no, fX7_thrown, pe_10, pe_20, pe_21, ps_1, ps_2, ps_3, fX2_bells, fX7_isIn, h, hn, hm]
  · exact pq_0 a h1 (by rw [show (7 : Int32).toInt = 7 from rfl] at h2; omega)
theorem q_1 (a : Int32) : pB1 a = some () := by
  rcases p_rng (0 : Int32) (31 : Int32) a with h | h | ⟨h1, h2⟩
  · obtain ⟨e1, e2⟩ := p_noChange a (Or.inl h)
    simp only [pB1, fL_change, fX6_change, fX7_change, pg_1, pg_2, reduceIte, Option.bind_some, Sum.elim_inl, Sum.elim_inr, fX7_no, fX7_thrown, pe_10, pe_20, pe_21, ps_1, ps_2, ps_3, fX2_bells, fX6_refuseNoChange, e1, e2]
  · obtain ⟨e1, e2⟩ := p_noChange a (Or.inr h)
    simp only [pB1, fL_change, fX6_change, fX7_change, pg_1, pg_2, reduceIte, Option.bind_some, Sum.elim_inl, Sum.elim_inr, fX7_no, fX7_thrown, pe_10, pe_20, pe_21, ps_1, ps_2, ps_3, fX2_bells, fX6_refuseNoChange, e1, e2]
  · exact pq_1 a h1 (by rw [show (31 : Int32).toInt = 31 from rfl] at h2; omega)
theorem q_4 (a b : Int32) : pB4 a b = some () := by
  have hi1 : fX7_isIn (1 : Int32) (1 : Int32) (2 : Int32) = some (1 : Int32) := by decide +kernel
  have hi2 : fX7_isIn (2 : Int32) (1 : Int32) (2 : Int32) = some (1 : Int32) := by decide +kernel
  by_cases k1 : a = 1
  · subst k1
    rcases p_rng (0 : Int32) (31 : Int32) b with h | h | ⟨h1, h2⟩
    · obtain ⟨e1, e2⟩ := p_noChange b (Or.inl h)
      simp only [pB4, fL_at, fX6_at, fX7_at, pg_1, pg_2, reduceIte, Option.bind_some, Sum.elim_inl, Sum.elim_inr, fX7_no, fX7_thrown, pe_10, pe_20, pe_21, ps_1, ps_2, ps_3, fX2_bells, fX6_refuseNoChange, e1, e2, hi1]
    · obtain ⟨e1, e2⟩ := p_noChange b (Or.inr h)
      simp only [pB4, fL_at, fX6_at, fX7_at, pg_1, pg_2, reduceIte, Option.bind_some, Sum.elim_inl, Sum.elim_inr, fX7_no, fX7_thrown, pe_10, pe_20, pe_21, ps_1, ps_2, ps_3, fX2_bells, fX6_refuseNoChange, e1, e2, hi1]
    · exact pq_41 b h1 (by rw [show (31 : Int32).toInt = 31 from rfl] at h2; omega)
  by_cases k2 : a = 2
  · subst k2
    rcases p_rng (0 : Int32) (31 : Int32) b with h | h | ⟨h1, h2⟩
    · obtain ⟨e1, e2⟩ := p_noChange b (Or.inl h)
      simp only [pB4, fL_at, fX6_at, fX7_at, pg_1, pg_2, reduceIte, Option.bind_some, Sum.elim_inl, Sum.elim_inr, fX7_no, fX7_thrown, pe_10, pe_20, pe_21, ps_1, ps_2, ps_3, fX2_bells, fX6_refuseNoChange, e1, e2, hi2]
    · obtain ⟨e1, e2⟩ := p_noChange b (Or.inr h)
      simp only [pB4, fL_at, fX6_at, fX7_at, pg_1, pg_2, reduceIte, Option.bind_some, Sum.elim_inl, Sum.elim_inr, fX7_no, fX7_thrown, pe_10, pe_20, pe_21, ps_1, ps_2, ps_3, fX2_bells, fX6_refuseNoChange, e1, e2, hi2]
    · exact pq_42 b h1 (by rw [show (31 : Int32).toInt = 31 from rfl] at h2; omega)
  rcases p_rng (1 : Int32) (2 : Int32) a with h | h | ⟨h1, h2⟩
  · simp only [pB4, fL_at, fX6_at, fX7_at, pg_1, pg_2, reduceIte, Option.bind_some, Sum.elim_inl, Sum.elim_inr, fX7_no, fX7_thrown, pe_10, pe_20, pe_21, ps_1, ps_2, ps_3, fX2_bells, fX7_isIn, k1, k2, h]
  · have hn : ¬ a < (1 : Int32) := p_nlt h (by decide)
    simp only [pB4, fL_at, fX6_at, fX7_at, pg_1, pg_2, reduceIte, Option.bind_some, Sum.elim_inl, Sum.elim_inr, fX7_no, fX7_thrown, pe_10, pe_20, pe_21, ps_1, ps_2, ps_3, fX2_bells, fX7_isIn, k1, k2, h, hn]
  · exfalso
    rw [show (1 : Int32).toInt = 1 from rfl] at h1
    rw [show (2 : Int32).toInt = 2 from rfl] at h2
    rcases (show a.toInt = 1 ∨ a.toInt = 2 by omega) with e | e
    · exact k1 (Int32.toInt.inj e)
    · exact k2 (Int32.toInt.inj e)
theorem q_5 (a : Int32) : pB5 a = some () := by
  rcases p_rng (0 : Int32) (31 : Int32) a with h | h | ⟨h1, h2⟩
  · obtain ⟨e1, e2⟩ := p_noChange a (Or.inl h)
    simp only [pB5, fX6_isChange, fX7_isChange, e1, e2, true_or, pg_1, pg_2, reduceIte, Option.bind_some, Sum.elim_inl, Sum.elim_inr, fX7_no, fX7_thrown, pe_10, pe_20, pe_21, ps_1, ps_2, ps_3, fX2_bells]
  · obtain ⟨e1, e2⟩ := p_noChange a (Or.inr h)
    simp only [pB5, fX6_isChange, fX7_isChange, e1, e2, true_or, pg_1, pg_2, reduceIte, Option.bind_some, Sum.elim_inl, Sum.elim_inr, fX7_no, fX7_thrown, pe_10, pe_20, pe_21, ps_1, ps_2, ps_3, fX2_bells]
  · exact pq_5 a h1 (by rw [show (31 : Int32).toInt = 31 from rfl] at h2; omega)
theorem q_6 (a : Int32) : pB6 a = some () := by
  rcases p_rng (0 : Int32) (5 : Int32) a with h | h | ⟨h1, h2⟩
  · simp only [pB6, fL_told, fX6_told, fX7_told, pg_1, pg_2, reduceIte, Option.bind_some, Sum.elim_inl, Sum.elim_inr, fX7_no, fX7_thrown, pe_10, pe_20, pe_21, ps_1, ps_2, ps_3, fX2_bells, fX7_isIn, h]
  · have hn : ¬ a < (0 : Int32) := p_nlt h (by decide)
    have hm : ¬ a ≤ (5 : Int32) := Int32.not_le.mpr h
    simp only [pB6, fL_told, fX6_told, fX7_told, pg_1, pg_2, reduceIte, Option.bind_some, Sum.elim_inl, Sum.elim_inr, fX7_no, fX7_thrown, pe_10, pe_20, pe_21, ps_1, ps_2, ps_3, fX2_bells, fX7_isIn, h, hn, hm]
  · exact pq_6 a h1 (by rw [show (5 : Int32).toInt = 5 from rfl] at h2; omega)
theorem q_11 (a : Int32) : pB11 a = some () := by
  rcases p_rng (0 : Int32) (2 : Int32) a with h | h | ⟨h1, h2⟩
  · simp only [pB11, fL_call, fX6_call, fX7_call, pg_1, pg_2, reduceIte, Option.bind_some, Sum.elim_inl, Sum.elim_inr, fX7_no, fX7_thrown, pe_10, pe_20, pe_21, ps_1, ps_2, ps_3, fX2_bells, fX7_isIn, fX6_refuseNoCall, h]
  · have hn : ¬ a < (0 : Int32) := p_nlt h (by decide)
    have hm : ¬ a ≤ (2 : Int32) := Int32.not_le.mpr h
    simp only [pB11, fL_call, fX6_call, fX7_call, pg_1, pg_2, reduceIte, Option.bind_some, Sum.elim_inl, Sum.elim_inr, fX7_no, fX7_thrown, pe_10, pe_20, pe_21, ps_1, ps_2, ps_3, fX2_bells, fX7_isIn, fX6_refuseNoCall, h, hn, hm]
  · exact pq_11 a h1 (by rw [show (2 : Int32).toInt = 2 from rfl] at h2; omega)
theorem q_14 (a : Int32) : pB14 a = some () := by
  rcases p_rng (0 : Int32) (7 : Int32) a with h | h | ⟨h1, h2⟩
  · simp only [pB14, fL_touch, fX6_touch, fX7_touch, pg_1, pg_2, reduceIte, Option.bind_some, Sum.elim_inl, Sum.elim_inr, fX7_no, fX7_thrown, pe_10, pe_20, pe_21, ps_1, ps_2, ps_3, fX2_bells, fX7_isIn, h]
  · have hn : ¬ a < (0 : Int32) := p_nlt h (by decide)
    have hm : ¬ a ≤ (7 : Int32) := Int32.not_le.mpr h
    simp only [pB14, fL_touch, fX6_touch, fX7_touch, pg_1, pg_2, reduceIte, Option.bind_some, Sum.elim_inl, Sum.elim_inr, fX7_no, fX7_thrown, pe_10, pe_20, pe_21, ps_1, ps_2, ps_3, fX2_bells, fX7_isIn, h, hn, hm]
  · exact pq_14 a h1 (by rw [show (7 : Int32).toInt = 7 from rfl] at h2; omega)
theorem q_18 (a : Int32) : pB18 a = some () := by
  rcases p_rng (1 : Int32) (5 : Int32) a with h | h | ⟨h1, h2⟩
  · simp only [pB18, fL_longest, fX6_longest, fX7_longest, pg_1, pg_2, reduceIte, Option.bind_some, Sum.elim_inl, Sum.elim_inr, fX7_no, fX7_thrown, pe_10, pe_20, pe_21, ps_1, ps_2, ps_3, fX2_bells, fX7_isIn, fX6_refuseNoBell, h]
  · have hn : ¬ a < (1 : Int32) := p_nlt h (by decide)
    have hm : ¬ a ≤ (5 : Int32) := Int32.not_le.mpr h
    simp only [pB18, fL_longest, fX6_longest, fX7_longest, pg_1, pg_2, reduceIte, Option.bind_some, Sum.elim_inl, Sum.elim_inr, fX7_no, fX7_thrown, pe_10, pe_20, pe_21, ps_1, ps_2, ps_3, fX2_bells, fX7_isIn, fX6_refuseNoBell, h, hn, hm]
  · exact pq_18 a h1 (by rw [show (5 : Int32).toInt = 5 from rfl] at h2; omega)
theorem q_22 (a : Int32) : pB22 a = some () := by
  rcases p_rng (0 : Int32) (5 : Int32) a with h | h | ⟨h1, h2⟩
  · simp only [pB22, fL_good, fX6_good, fX7_good, pg_1, pg_2, reduceIte, Option.bind_some, Sum.elim_inl, Sum.elim_inr, fX7_no, fX7_thrown, pe_10, pe_20, pe_21, ps_1, ps_2, ps_3, fX2_bells, fX7_isIn, fX6_refuseNoLeads, h]
  · have hn : ¬ a < (0 : Int32) := p_nlt h (by decide)
    have hm : ¬ a ≤ (5 : Int32) := Int32.not_le.mpr h
    simp only [pB22, fL_good, fX6_good, fX7_good, pg_1, pg_2, reduceIte, Option.bind_some, Sum.elim_inl, Sum.elim_inr, fX7_no, fX7_thrown, pe_10, pe_20, pe_21, ps_1, ps_2, ps_3, fX2_bells, fX7_isIn, fX6_refuseNoLeads, h, hn, hm]
  · exact pq_22 a h1 (by rw [show (5 : Int32).toInt = 5 from rfl] at h2; omega)
theorem q_23 (a : Int32) : pB23 a = some () := by
  rcases p_rng (0 : Int32) (5 : Int32) a with h | h | ⟨h1, h2⟩
  · simp only [pB23, fL_best, fX6_best, fX7_best, pg_1, pg_2, reduceIte, Option.bind_some, Sum.elim_inl, Sum.elim_inr, fX7_no, fX7_thrown, pe_10, pe_20, pe_21, ps_1, ps_2, ps_3, fX2_bells, fX7_isIn, fX6_refuseNoLeads, h]
  · have hn : ¬ a < (0 : Int32) := p_nlt h (by decide)
    have hm : ¬ a ≤ (5 : Int32) := Int32.not_le.mpr h
    simp only [pB23, fL_best, fX6_best, fX7_best, pg_1, pg_2, reduceIte, Option.bind_some, Sum.elim_inl, Sum.elim_inr, fX7_no, fX7_thrown, pe_10, pe_20, pe_21, ps_1, ps_2, ps_3, fX2_bells, fX7_isIn, fX6_refuseNoLeads, h, hn, hm]
  · exact pq_23 a h1 (by rw [show (5 : Int32).toInt = 5 from rfl] at h2; omega)
theorem q_26 (a : Int32) : pB26 a = some () := by
  rcases p_rng (0 : Int32) (2 : Int32) a with h | h | ⟨h1, h2⟩
  · simp only [pB26, fL_clashes, fX6_clashes, fX7_clashes, pg_1, pg_2, reduceIte, Option.bind_some, Sum.elim_inl, Sum.elim_inr, fX7_no, fX7_thrown, pe_10, pe_20, pe_21, ps_1, ps_2, ps_3, fX2_bells, fX7_isIn, fX6_refuseNoCall, h]
  · have hn : ¬ a < (0 : Int32) := p_nlt h (by decide)
    have hm : ¬ a ≤ (2 : Int32) := Int32.not_le.mpr h
    simp only [pB26, fL_clashes, fX6_clashes, fX7_clashes, pg_1, pg_2, reduceIte, Option.bind_some, Sum.elim_inl, Sum.elim_inr, fX7_no, fX7_thrown, pe_10, pe_20, pe_21, ps_1, ps_2, ps_3, fX2_bells, fX7_isIn, fX6_refuseNoCall, h, hn, hm]
  · exact pq_26 a h1 (by rw [show (2 : Int32).toInt = 2 from rfl] at h2; omega)
theorem q_7 (a : Int32) : pB7 a = some () := by
  by_cases h : a < 0
  · simp only [pB7, fL_changeAt, fX6_changeAt, fX7_changeAt, pg_1, pg_2, reduceIte, Option.bind_some, Sum.elim_inl, Sum.elim_inr, fX7_no, fX7_thrown, pe_10, pe_20, pe_21, ps_1, ps_2, ps_3, fX2_bells, fX7_isIn, fX2_length, fX1_size, h]
  · have h2 := p_m1 h
    simp only [pB7, fL_changeAt, fX6_changeAt, fX7_changeAt, pg_1, pg_2, reduceIte, Option.bind_some, Sum.elim_inl, Sum.elim_inr, fX7_no, fX7_thrown, pe_10, pe_20, pe_21, ps_1, ps_2, ps_3, fX2_bells, fX7_isIn, fX2_length, fX1_size, h, h2]
theorem q_13 (a : Int32) : pB13 a = some () := by
  by_cases h : a < 0
  · simp only [pB13, fL_callAt, fX6_callAt, fX7_callAt, pg_1, pg_2, reduceIte, Option.bind_some, Sum.elim_inl, Sum.elim_inr, fX7_no, fX7_thrown, pe_10, pe_20, pe_21, ps_1, ps_2, ps_3, fX2_bells, fX7_isIn, fX6_refuseNoCallPlace, fX5_callCount, fX1_size, h]
  · have h2 := p_m1 h
    simp only [pB13, fL_callAt, fX6_callAt, fX7_callAt, pg_1, pg_2, reduceIte, Option.bind_some, Sum.elim_inl, Sum.elim_inr, fX7_no, fX7_thrown, pe_10, pe_20, pe_21, ps_1, ps_2, ps_3, fX2_bells, fX7_isIn, fX6_refuseNoCallPlace, fX5_callCount, fX1_size, h, h2]
theorem q_15 (a : Int32) : pB15 a = some () := by
  obtain ⟨f, hf⟩ := p_rows0
  by_cases h : a < 0
  · simp only [pB15, fL_row, fX6_row, fX7_row, pg_1, pg_2, reduceIte, Option.bind_some, Sum.elim_inl, Sum.elim_inr, fX7_no, fX7_thrown, pe_10, pe_20, pe_21, ps_1, ps_2, ps_3, fX2_bells, fX7_isIn, fX6_refuseNoRowNumber, fX5_rowCount, fX1_size, hf, h]
  · have h2 : ((Int32.ofNat 0) - (1 : Int32)) < a := p_m1 h
    simp only [pB15, fL_row, fX6_row, fX7_row, pg_1, pg_2, reduceIte, Option.bind_some, Sum.elim_inl, Sum.elim_inr, fX7_no, fX7_thrown, pe_10, pe_20, pe_21, ps_1, ps_2, ps_3, fX2_bells, fX7_isIn, fX6_refuseNoRowNumber, fX5_rowCount, fX1_size, hf, h, h2]
theorem q_17 (a b : Int32) : pB17 a b = some () := by
  obtain ⟨f, hf⟩ := p_rows0
  rcases p_rng (1 : Int32) (5 : Int32) a with h | h | ⟨h1, h2⟩
  · simp only [pB17, fL_place, fX6_place, fX7_place, pg_1, pg_2, reduceIte, Option.bind_some, Sum.elim_inl, Sum.elim_inr, fX7_no, fX7_thrown, pe_10, pe_20, pe_21, ps_1, ps_2, ps_3, fX2_bells, fX7_isIn, fX6_refuseNoBell, hf, h]
  · have hn : ¬ a < (1 : Int32) := p_nlt h (by decide)
    have hm : ¬ a ≤ (5 : Int32) := Int32.not_le.mpr h
    simp only [pB17, fL_place, fX6_place, fX7_place, pg_1, pg_2, reduceIte, Option.bind_some, Sum.elim_inl, Sum.elim_inr, fX7_no, fX7_thrown, pe_10, pe_20, pe_21, ps_1, ps_2, ps_3, fX2_bells, fX7_isIn, fX6_refuseNoBell, hf, h, hn, hm]
  · have hn : ¬ a < (1 : Int32) := by rw [Int32.lt_iff_toInt_lt]; omega
    have hp : a ≤ (5 : Int32) := Int32.le_iff_toInt_le.mpr h2
    have hm : ¬ (5 : Int32) < a := Int32.not_lt.mpr hp
    by_cases h : b < 0
    · simp only [pB17, fL_place, fX6_place, fX7_place, pg_1, pg_2, reduceIte, Option.bind_some, Sum.elim_inl, Sum.elim_inr, fX7_no, fX7_thrown, pe_10, pe_20, pe_21, ps_1, ps_2, ps_3, fX2_bells, fX7_isIn, fX6_refuseNoBell, fX6_refuseNoRowNumber, fX5_rowCount, fX1_size, hf, h, hn, hp, hm]
    · have h2 : ((Int32.ofNat 0) - (1 : Int32)) < b := p_m1 h
      simp only [pB17, fL_place, fX6_place, fX7_place, pg_1, pg_2, reduceIte, Option.bind_some, Sum.elim_inl, Sum.elim_inr, fX7_no, fX7_thrown, pe_10, pe_20, pe_21, ps_1, ps_2, ps_3, fX2_bells, fX7_isIn, fX6_refuseNoBell, fX6_refuseNoRowNumber, fX5_rowCount, fX1_size, hf, h, h2, hn, hp, hm]
theorem q_20 (a b : Int32) : pB20 a b = some () := by
  by_cases h : a < 0
  · simp only [pB20, fL_common, fX6_common, fX7_common, pg_1, pg_2, reduceIte, Option.bind_some, Sum.elim_inl, Sum.elim_inr, fX7_no, fX7_thrown, pe_10, pe_20, pe_21, ps_1, ps_2, ps_3, fX2_bells, fX7_isIn, fX6_refuseNoCallPlace, fX5_callCount, fX1_size, h]
  · have h2 := p_m1 h
    simp only [pB20, fL_common, fX6_common, fX7_common, pg_1, pg_2, reduceIte, Option.bind_some, Sum.elim_inl, Sum.elim_inr, fX7_no, fX7_thrown, pe_10, pe_20, pe_21, ps_1, ps_2, ps_3, fX2_bells, fX7_isIn, fX6_refuseNoCallPlace, fX5_callCount, fX1_size, h, h2]
theorem q_25 (a b : Int32) : pB25 a b = some () := by
  by_cases h : a < 0
  · simp only [pB25, fL_endWith, fX6_endWith, fX7_endWith, pg_1, pg_2, reduceIte, Option.bind_some, Sum.elim_inl, Sum.elim_inr, fX7_no, fX7_thrown, pe_10, pe_20, pe_21, ps_1, ps_2, ps_3, fX2_bells, fX7_isIn, fX6_refuseNoCallPlace, fX5_callCount, fX1_size, h]
  · have h2 := p_m1 h
    simp only [pB25, fL_endWith, fX6_endWith, fX7_endWith, pg_1, pg_2, reduceIte, Option.bind_some, Sum.elim_inl, Sum.elim_inr, fX7_no, fX7_thrown, pe_10, pe_20, pe_21, ps_1, ps_2, ps_3, fX2_bells, fX7_isIn, fX6_refuseNoCallPlace, fX5_callCount, fX1_size, h, h2]
theorem p_rowZ (a : Int32) (h : a ∈ pRows) : ∃ v, fX3_packed a (5 : Int32) = some v ∧ ¬ v = (-1 : Int32) ∧ fX7_isRow (5 : Int32) a = some (1 : Int32) := by
  obtain ⟨h1, h2, h3⟩ := p_rowY a h
  obtain ⟨v, hv⟩ := Option.isSome_iff_exists.mp h1
  exact ⟨v, hv, fun e => h2 (by rw [hv, e]), h3⟩
theorem q_10 (a : Int32) : pB10 a = some () := by
  rcases p_row a with ⟨e1, e2⟩ | h
  · simp only [pB10, fL_crossed, fX6_crossed, fX7_crossed, pg_1, pg_2, reduceIte, Option.bind_some, Sum.elim_inl, Sum.elim_inr, fX7_no, fX7_thrown, pe_10, pe_20, pe_21, ps_1, ps_2, ps_3, fX2_bells, fX6_packedOrRefused, e1, e2]
  · exact pq_10 a h
theorem q_16 (a : Int32) : pB16 a = some () := by
  rcases p_row a with ⟨e1, e2⟩ | h
  · simp only [pB16, fL_where, fX6_where, fX7_where, pg_1, pg_2, reduceIte, Option.bind_some, Sum.elim_inl, Sum.elim_inr, fX7_no, fX7_thrown, pe_10, pe_20, pe_21, ps_1, ps_2, ps_3, fX2_bells, fX6_packedOrRefused, e1, e2]
  · exact pq_16 a h
theorem q_19 (a : Int32) : pB19 a = some () := by
  rcases p_row a with ⟨e1, e2⟩ | h
  · simp only [pB19, fL_music, fX6_music, fX7_music, pg_1, pg_2, reduceIte, Option.bind_some, Sum.elim_inl, Sum.elim_inr, fX7_no, fX7_thrown, pe_10, pe_20, pe_21, ps_1, ps_2, ps_3, fX2_bells, fX6_packedOrRefused, e1, e2]
  · exact pq_19 a h
theorem q_8 (a b : Int32) : pB8 a b = some () := by
  rcases p_row a with ⟨e1, e2⟩ | h
  · simp only [pB8, fL_next, fX6_next, fX7_next, pg_1, pg_2, reduceIte, Option.bind_some, Sum.elim_inl, Sum.elim_inr, fX7_no, fX7_thrown, pe_10, pe_20, pe_21, ps_1, ps_2, ps_3, fX2_bells, fX6_packedOrRefused, e1, e2]
  · obtain ⟨v, v1, v2, v3⟩ := p_rowZ a h
    rcases p_rng (0 : Int32) (31 : Int32) b with k | k | ⟨h1, h2⟩
    · obtain ⟨e1, e2⟩ := p_noChange b (Or.inl k)
      simp only [pB8, fL_next, fX6_next, fX7_next, pg_1, pg_2, reduceIte, Option.bind_some, Sum.elim_inl, Sum.elim_inr, fX7_no, fX7_thrown, pe_10, pe_20, pe_21, ps_1, ps_2, ps_3, fX2_bells, fX6_packedOrRefused, fX6_refuseNoChange, v1, v2, v3, e1, e2]
    · obtain ⟨e1, e2⟩ := p_noChange b (Or.inr k)
      simp only [pB8, fL_next, fX6_next, fX7_next, pg_1, pg_2, reduceIte, Option.bind_some, Sum.elim_inl, Sum.elim_inr, fX7_no, fX7_thrown, pe_10, pe_20, pe_21, ps_1, ps_2, ps_3, fX2_bells, fX6_packedOrRefused, fX6_refuseNoChange, v1, v2, v3, e1, e2]
    · exact p_fin (Q := fun b => pB8 a b = some ()) 0 32 (pq_8 a h) b h1 (by rw [show (31 : Int32).toInt = 31 from rfl] at h2; omega)
theorem q_9 (a b : Int32) : pB9 a b = some () := by
  rcases p_row a with ⟨e1, e2⟩ | h
  · simp only [pB9, fL_lead, fX6_lead, fX7_lead, pg_1, pg_2, reduceIte, Option.bind_some, Sum.elim_inl, Sum.elim_inr, fX7_no, fX7_thrown, pe_10, pe_20, pe_21, ps_1, ps_2, ps_3, fX2_bells, fX6_packedOrRefused, e1, e2]
  · obtain ⟨v, v1, v2, v3⟩ := p_rowZ a h
    rcases p_rng (0 : Int32) (2 : Int32) b with k | k | ⟨h1, h2⟩
    · simp only [pB9, fL_lead, fX6_lead, fX7_lead, pg_1, pg_2, reduceIte, Option.bind_some, Sum.elim_inl, Sum.elim_inr, fX7_no, fX7_thrown, pe_10, pe_20, pe_21, ps_1, ps_2, ps_3, fX2_bells, fX6_packedOrRefused, fX6_refuseNoCall, fX7_isIn, v1, v2, v3, k]
    · have hn : ¬ b < (0 : Int32) := p_nlt k (by decide)
      have hm : ¬ b ≤ (2 : Int32) := Int32.not_le.mpr k
      simp only [pB9, fL_lead, fX6_lead, fX7_lead, pg_1, pg_2, reduceIte, Option.bind_some, Sum.elim_inl, Sum.elim_inr, fX7_no, fX7_thrown, pe_10, pe_20, pe_21, ps_1, ps_2, ps_3, fX2_bells, fX6_packedOrRefused, fX6_refuseNoCall, fX7_isIn, v1, v2, v3, k, hn, hm]
    · exact p_fin (Q := fun b => pB9 a b = some ()) 0 3 (pq_9 a h) b h1 (by rw [show (2 : Int32).toInt = 2 from rfl] at h2; omega)
theorem p_exm {α β : Type} {X : Option α} {g : α → β} {b : β} (h : X.map g = some b) : ∃ r, X = some r ∧ g r = b := by
  cases X with
  | none => cases h
  | some r =>
    have h : some (g r) = some b := h
    cases h
    exact ⟨r, rfl, rfl⟩
theorem q_24 (a b : Int32) : pB24 a b = some () := by
  rcases p_rng (0 : Int32) (5 : Int32) a with h | h | ⟨h1, h2⟩
  · simp only [pB24, fL_bestCall, fX6_bestCall, fX7_bestCall, pg_1, pg_2, reduceIte, Option.bind_some, Sum.elim_inl, Sum.elim_inr, fX7_no, fX7_thrown, pe_10, pe_20, pe_21, ps_1, ps_2, ps_3, fX2_bells, fX7_isIn, fX6_refuseNoLeads, h]
  · have hn : ¬ a < (0 : Int32) := p_nlt h (by decide)
    have hm : ¬ a ≤ (5 : Int32) := Int32.not_le.mpr h
    simp only [pB24, fL_bestCall, fX6_bestCall, fX7_bestCall, pg_1, pg_2, reduceIte, Option.bind_some, Sum.elim_inl, Sum.elim_inr, fX7_no, fX7_thrown, pe_10, pe_20, pe_21, ps_1, ps_2, ps_3, fX2_bells, fX7_isIn, fX6_refuseNoLeads, h, hn, hm]
  · obtain ⟨s0, s1, s2, s3⟩ := p_fin (Q := fun a => ((fX4_look pR6.2.2.2.1 (fun _ => 0) (0 : Int32) (-1 : Int32) (0 : Int32) pR6.2.2.2.2.1 (fun _ => 0) (0 : Int32) pR6.2.2.2.2.2 (fun _ => 0) 5040 (fun _ => 0) (5 : Int32) (31 : Int32) (31 : Int32) (0 : Int32) pR6.1 (fun _ => 0) a).map (fun r => r.2.2.1) = some (0 : Int32) ∧ fX7_search (5 : Int32) (0 : Int32) (fun _ => 0) pF7 a = some () ∧ fX6_refuseNoLeads a = some (.inr ()) ∧ fX7_isIn a (0 : Int32) (5 : Int32) = some (1 : Int32))) 0 6 pq_24a a h1 (by rw [show (5 : Int32).toInt = 5 from rfl] at h2; omega)
    obtain ⟨r, hr, hr2⟩ := p_exm s0
    by_cases h : b < 0
    · have hi : fX7_isIn b (0 : Int32) ((Int32.ofNat 0) - (1 : Int32)) = some (0 : Int32) := by rw [fX7_isIn, if_pos h]
      simp only [pB24, fL_bestCall, fX6_bestCall, fX7_bestCall, pg_1, pg_2, reduceIte, Option.bind_some, Sum.elim_inl, Sum.elim_inr, fX7_no, fX7_thrown, pe_10, pe_20, pe_21, ps_1, ps_2, ps_3, fX2_bells, fX4_bestLeads, fX1_size, hr, hr2, s1, s2, s3, h, hi]
    · have hi : fX7_isIn b (0 : Int32) ((Int32.ofNat 0) - (1 : Int32)) = some (0 : Int32) := by
        rw [fX7_isIn, if_neg h, if_pos (show ((Int32.ofNat 0) - (1 : Int32)) < b from p_m1 h)]
      simp only [pB24, fL_bestCall, fX6_bestCall, fX7_bestCall, pg_1, pg_2, reduceIte, Option.bind_some, Sum.elim_inl, Sum.elim_inr, fX7_no, fX7_thrown, pe_10, pe_20, pe_21, ps_1, ps_2, ps_3, fX2_bells, fX4_bestLeads, fX1_size, hr, hr2, s1, s2, s3, h, hi]
