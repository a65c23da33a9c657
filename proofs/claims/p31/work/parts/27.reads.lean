/-! PURE: what is read of a touch -/
def mu (n : Nat) (l : List Nat) : Nat := ((fX3_musicOf (pk l) (ii n)).getD 0).toNatClampNeg
def cp (n : Nat) (l : List Nat) : Int32 := (fX3_crossedPairs (pk l) (ii n)).getD 0
theorem mu_ok {n : Nat} {l : List Nat} (hn : NB n) (h : IsR n l) : fX3_musicOf (pk l) (ii n) = some (ii (mu n l)) ∧ mu n l ≤ 2 * n ∧ (mu n l = 0 ∨ 3 ≤ mu n l) ∧ fX3_crossedPairs (pk l) (ii n) = some (cp n l) ∧ (mu n l = 2 * n ↔ (tl l = tl (rowL n) ∨ cp n l = ii (n * (n - 1) / 2))) := by
  obtain ⟨m, c, h1, h2, h3, h4, h5, h6⟩ := f_mus hn h
  have hn7 : n ≤ 7 := by rcases hn with h | h | h | h <;> omega
  obtain ⟨k, hk, rfl⟩ := i_of h4
  have e1 : mu n l = k := by
    unfold mu
    rw [h1]
    exact i_nat hk
  have e2 : cp n l = c := by
    unfold cp
    rw [h2]
    rfl
  rw [i_lt (by omega) hk] at h5
  rw [e1, e2]
  refine ⟨h1, by omega, ?_, h2, ?_⟩
  · rcases h3 with h3 | h3
    · exact Or.inl ((i_eq (b := 0) hk (by omega)).mp h3)
    · exact Or.inr (by
        have h3 : ¬ ii k < ii 3 := h3
        rw [i_lt hk (by omega)] at h3
        omega)
  · rw [← h6, i_eq hk (by omega)]
def SM (n : Nat) (R : Nat → List Nat) : Nat → Nat
  | 0 => 0
  | N + 1 => SM n R N + mu n (R N)
theorem sm_le {n : Nat} {R : Nat → List Nat} (hn : NB n) : ∀ {N : Nat}, (∀ k, k < N → IsR n (R k)) → SM n R N ≤ 2 * n * N
  | 0, h => Nat.zero_le _
  | N + 1, h => by
    have h1 := sm_le hn (N := N) (fun k hk => h k (by omega))
    have h2 := (mu_ok hn (h N (by omega))).2.1
    rw [SM, Nat.mul_succ]
    omega
section RD
variable {n N : Nat} {R : Nat → List Nat} {dif rep wz : Int32} {wf bf : Nat → Int32}
theorem ti_b (h : TI n N R dif rep wz wf bf) : N ≤ 336 := h.1.2.1
theorem mus_L (hn : NB n) (h : TI n N R dif rep wz wf bf) : ∀ (d k : Nat), k + d = N → ∀ f, d < f → fX5_musicInAll_L4 wz 336 wf (ii n) fX5_musicInAll_X4 f (ii k) (ii (SM n R k)) = some (ii (SM n R N))
  | 0, k, hk, f + 1, hf => by
    have hb := ti_b h
    rw [fX5_musicInAll_L4]
    unfold fX1_size
    rw [Option.bind_some, h.1.1, if_pos ((i_le (by omega) (by omega)).mpr (by omega)), fX5_musicInAll_X4, show k = N by omega]
  | d + 1, k, hk, f + 1, hf => by
    have hb := ti_b h
    rw [fX5_musicInAll_L4]
    unfold fX1_size fX2_bells
    rw [Option.bind_some, if_neg (show ¬ wz ≤ ii k by rw [h.1.1, i_le (by omega) (by omega)]; omega), ln_at h.1 (by omega), Option.bind_some, Option.bind_some, (mu_ok hn (h.2.2.2.2 k (by omega))).1, Option.bind_some, i_add1, i_add]
    exact mus_L hn h d (k + 1) (by omega) f (by omega)
theorem mus_ok (hn : NB n) (h : TI n N R dif rep wz wf bf) : fX5_musicInAll wz 336 wf (ii n) = some (ii (SM n R N)) := mus_L hn h N 0 (by omega) 1000 (by have := ti_b h; omega)
/-- the place of a bell in a row, from 1 -/
def pl (b : Nat) (l : List Nat) : Nat := List.idxOf b l + 1
theorem pl_le {n b : Nat} {l : List Nat} (h : IsR n l) (h1 : 1 ≤ b) (h2 : b ≤ n) : pl b l ≤ n := by
  have := List.idxOf_lt_length_of_mem ((isR_bell h).mpr ⟨h1, h2⟩)
  rw [isR_len h] at this
  unfold pl
  omega
def SP (b : Nat) (R : Nat → List Nat) : Nat → Nat
  | 0 => 0
  | N + 1 => SP b R N + pl b (R N)
theorem sp_le {b : Nat} (h1 : 1 ≤ b) (h2 : b ≤ n) : ∀ {N : Nat}, (∀ k, k < N → IsR n (R k)) → SP b R N ≤ n * N
  | 0, h => Nat.zero_le _
  | N + 1, h => by
    have h3 := sp_le h1 h2 (N := N) (fun k hk => h k (by omega))
    have h4 := pl_le (h N (by omega)) h1 h2
    rw [SP, Nat.mul_succ]
    omega
theorem plc_L (hn : NB n) {b : Nat} (h1 : 1 ≤ b) (h2 : b ≤ n) (h : TI n N R dif rep wz wf bf) : ∀ (d k : Nat), k + d = N → ∀ f, d < f → fX5_placesOf_L4 wz 336 wf (ii n) (ii b) fX5_placesOf_X4 f (ii k) (ii (SP b R k)) = some (ii (SP b R N))
  | 0, k, hk, f + 1, hf => by
    have hb := ti_b h
    rw [fX5_placesOf_L4]
    unfold fX1_size
    rw [Option.bind_some, h.1.1, if_pos ((i_le (by omega) (by omega)).mpr (by omega)), fX5_placesOf_X4, show k = N by omega]
  | d + 1, k, hk, f + 1, hf => by
    have hb := ti_b h
    rw [fX5_placesOf_L4]
    unfold fX1_size fX2_bells
    rw [Option.bind_some, if_neg (show ¬ wz ≤ ii k by rw [h.1.1, i_le (by omega) (by omega)]; omega), ln_at h.1 (by omega), Option.bind_some, Option.bind_some, f_plc hn (h.2.2.2.2 k (by omega)) h1 h2, Option.bind_some, i_add1, i_add]
    exact plc_L hn h1 h2 h d (k + 1) (by omega) f (by omega)
theorem plc_ok (hn : NB n) {b : Nat} (h1 : 1 ≤ b) (h2 : b ≤ n) (h : TI n N R dif rep wz wf bf) : fX5_placesOf wz 336 wf (ii n) (ii b) = some (ii (SP b R N)) := plc_L hn h1 h2 h N 0 (by omega) 1000 (by have := ti_b h; omega)
/-! how long a bell stays -/
theorem lng_L (hn : NB n) {b : Nat} (h1 : 1 ≤ b) (h2 : b ≤ n) (h : TI n N R dif rep wz wf bf) : ∀ (d k : Nat), k + d = N → ∀ f, d < f → ∀ (x : Int32) (s g : Nat), s ≤ k → g ≤ k → (0 < k → 1 ≤ g) →
    ∃ q, fX5_longestStay_L10 wz 336 wf (ii n) (ii b) fX5_longestStay_X10 f (ii k) x (ii s) (ii g) = some (ii q) ∧ q ≤ N ∧ (0 < N → 1 ≤ q)
  | 0, k, hk, f + 1, hf, x, s, g, h3, h4, h5 => by
    have hb := ti_b h
    refine ⟨g, ?_, by omega, fun h9 => h5 (by omega)⟩
    rw [fX5_longestStay_L10]
    unfold fX1_size
    rw [Option.bind_some, h.1.1, if_pos ((i_le (by omega) (by omega)).mpr (by omega)), fX5_longestStay_X10]
  | d + 1, k, hk, f + 1, hf, x, s, g, h3, h4, h5 => by
    have hb := ti_b h
    have hmax : ∀ t : Nat, t ≤ k + 1 → (if ii g < ii t then ii t else ii g) = ii (if g < t then t else g) := fun t ht => by
      by_cases c : g < t
      · rw [if_pos c, if_pos ((i_lt (by omega) (by omega)).mpr c)]
      · rw [if_neg c, if_neg (fun h9 => c ((i_lt (by omega) (by omega)).mp h9))]
    rw [fX5_longestStay_L10]
    unfold fX1_size fX2_bells
    rw [Option.bind_some, if_neg (show ¬ wz ≤ ii k by rw [h.1.1, i_le (by omega) (by omega)]; omega), ln_at h.1 (by omega), Option.bind_some, Option.bind_some, f_plc hn (h.2.2.2.2 k (by omega)) h1 h2, Option.bind_some, i_add1, i_add1]
    by_cases c : ii (List.idxOf b (R k) + 1) = x
    · rw [if_pos c, hmax (s + 1) (by omega)]
      exact lng_L hn h1 h2 h d (k + 1) (by omega) f (by omega) _ (s + 1) _ (by omega) (by split <;> omega) (fun _ => by split <;> omega)
    · rw [if_neg c, show (1 : Int32) = ii 1 from rfl, hmax 1 (by omega)]
      exact lng_L hn h1 h2 h d (k + 1) (by omega) f (by omega) _ 1 _ (by omega) (by split <;> omega) (fun _ => by split <;> omega)
theorem lng_ok (hn : NB n) {b : Nat} (h1 : 1 ≤ b) (h2 : b ≤ n) (h : TI n N R dif rep wz wf bf) : ∃ q, fX5_longestStay wz 336 wf (ii n) (ii b) = some (ii q) ∧ q ≤ N ∧ (0 < N → 1 ≤ q) :=
  lng_L hn h1 h2 h N 0 (by omega) 1000 (by have := ti_b h; omega) (-1 : Int32) 0 0 (by omega) (by omega) (fun h9 => absurd h9 (by omega))
/-! parts -/
theorem cmp_tot (hn : NB n) (a b : Int32) : ∃ r, fX3_composed a b (ii n) = some r := by
  rcases hn with hn | hn | hn | hn <;> subst hn <;> exact ⟨_, rfl⟩
theorem prt_L (hn : NB n) (h : TI n N R dif rep wz wf bf) (e : Int32) : ∀ (d p : Nat), p + d = 5040 → ∀ f, d < f → ∀ x : Int32, ∃ q, fX5_parts_L30 e wz 336 wf (ii n) fX5_parts_X30 f (ii p) x = some (ii q) ∧ p ≤ q ∧ q ≤ 5040
  | 0, p, hp, f + 1, hf, x => by
    refine ⟨p, ?_, Nat.le_refl _, by omega⟩
    rw [fX5_parts_L30]
    by_cases c : x = e
    · rw [if_pos c, fX5_parts_X30]
    · rw [if_neg c, if_pos (show (5040 : Int32) ≤ ii p from (i_le (a := 5040) (by omega) (by omega)).mpr (by omega)), fX5_parts_X30]
  | d + 1, p, hp, f + 1, hf, x => by
    rw [fX5_parts_L30]
    by_cases c : x = e
    · rw [if_pos c, fX5_parts_X30]
      exact ⟨p, rfl, Nat.le_refl _, by omega⟩
    · rw [if_neg c, if_neg (show ¬ (5040 : Int32) ≤ ii p from fun h9 => by have := (i_le (a := 5040) (by omega) (by omega)).mp h9; omega), end_ok hn h, Option.bind_some]
      unfold fX2_bells
      obtain ⟨r, hr⟩ := cmp_tot hn x (pk (if N = 0 then rowL n else R (N - 1)))
      rw [Option.bind_some, hr, Option.bind_some, i_add1]
      obtain ⟨q, q1, q2, q3⟩ := prt_L hn h e d (p + 1) (by omega) f (by omega) r
      exact ⟨q, q1, by omega, q3⟩
theorem prt_ok (hn : NB n) (h : TI n N R dif rep wz wf bf) : ∃ q, fX5_parts wz 336 wf (ii n) = some (ii q) ∧ q ≤ 5040 ∧ (N = 0 → q = 0) ∧ (0 < N → 1 ≤ q ∧ (q = 1 ↔ R (N - 1) = rowL n)) := by
  have hb := ti_b h
  unfold fX5_parts fX1_size
  rw [Option.bind_some, h.1.1]
  by_cases c : N = 0
  · rw [if_pos (by rw [c]; rfl)]
    exact ⟨0, rfl, by omega, fun _ => rfl, fun h9 => absurd h9 (by omega)⟩
  · rw [if_neg (show ¬ ii N = 0 from fun h9 => c ((i_eq (b := 0) (by omega) (by omega)).mp h9))]
    unfold fX2_bells
    rw [Option.bind_some, f_rnd hn, Option.bind_some, ← h.1.1, end_ok hn h, Option.bind_some, if_neg c]
    have hR := h.2.2.2.2 (N - 1) (by omega)
    by_cases c2 : R (N - 1) = rowL n
    · refine ⟨1, ?_, by omega, fun h9 => absurd h9 c, fun _ => ⟨by omega, fun _ => c2, fun _ => rfl⟩⟩
      show fX5_parts_L30 (pk (rowL n)) wz 336 wf (ii n) fX5_parts_X30 (5999 + 1) (1 : Int32) (pk (R (N - 1))) = some (ii 1)
      rw [fX5_parts_L30, if_pos (by rw [c2]), fX5_parts_X30]
      rfl
    · have c3 : ¬ pk (R (N - 1)) = pk (rowL n) := fun h9 => c2 (pk_inj hn hR (isR_rounds n) h9)
      show ∃ q, fX5_parts_L30 (pk (rowL n)) wz 336 wf (ii n) fX5_parts_X30 (5999 + 1) (ii 1) (pk (R (N - 1))) = some (ii q) ∧ _
      rw [fX5_parts_L30, if_neg c3, if_neg (show ¬ (5040 : Int32) ≤ ii 1 from fun h9 => by have := (i_le (a := 5040) (by omega) (by omega)).mp h9; omega), end_ok hn h, Option.bind_some]
      unfold fX2_bells
      rw [Option.bind_some]
      obtain ⟨r, hr⟩ := cmp_tot hn (pk (R (N - 1))) (pk (if N = 0 then rowL n else R (N - 1)))
      rw [hr, Option.bind_some, i_add1]
      obtain ⟨q, q1, q2, q3⟩ := prt_L hn h (pk (rowL n)) 5038 2 (by omega) 5999 (by omega) r
      exact ⟨q, q1, q3, fun h9 => absurd h9 c, fun _ => ⟨by omega, fun h9 => by omega, fun h9 => absurd h9 c2⟩⟩
/-! rounds at the end -/
theorem cmr_ok (hn : NB n) (h : TI n N R dif rep wz wf bf) : fX5_comesRound wz 336 wf (ii n) = some (if 0 < N ∧ R (N - 1) = rowL n then (1 : Int32) else 0) := by
  have hb := ti_b h
  unfold fX5_comesRound fX1_size
  rw [Option.bind_some]
  by_cases c : N = 0
  · rw [if_pos (show wz ≤ 0 by rw [h.1.1, c]; decide), if_neg (by omega)]
  · rw [if_neg (show ¬ wz ≤ 0 from fun h9 => by rw [h.1.1] at h9; have := (i_le (b := 0) (by omega) (by omega)).mp h9; omega), end_ok hn h, Option.bind_some, if_neg c]
    unfold fX2_bells
    rw [Option.bind_some, f_rnd hn, Option.bind_some]
    have hR := h.2.2.2.2 (N - 1) (by omega)
    by_cases c2 : R (N - 1) = rowL n
    · rw [if_pos (by rw [c2]), if_pos ⟨by omega, c2⟩]
    · rw [if_neg (fun h9 => c2 (pk_inj hn hR (isR_rounds n) h9)), if_neg (fun h9 => c2 h9.2)]
theorem tru_ok (h : TI n N R dif rep wz wf bf) : fX5_isTrue rep = some (if rpR R N = none then (1 : Int32) else 0) := by
  have hb := ti_b h
  unfold fX5_isTrue
  by_cases c : rpR R N = none
  · rw [if_pos c, if_pos (h.2.2.2.1.trans ((rpI_none (by omega)).mpr c))]
  · rw [if_neg c, if_neg (fun h9 => c ((rpI_none (N := N) (by omega)).mp (h.2.2.2.1.symm.trans h9)))]
/-- the first row of a kind, read in the book -/
theorem fno_ok (hn : NB n) (h : TI n N R dif rep wz wf bf) {l : List Nat} (hl : IsR n l) : fX5_firstNumberOf 5040 bf (ii n) (pk l) = some (match fst R l N with | none => (-1 : Int32) | some i => ii i) := by
  unfold fX5_firstNumberOf fX2_bells
  rw [Option.bind_some, (f_rk hn hl).1, Option.bind_some, bk_get h.2.1, Option.bind_some]
  have hw := bkw_rk (N := N) (R := R) hl
  cases e : fst R l N with
  | none =>
    rw [e] at hw
    rw [nv_none (f_rk hn hl).2 hw]
  | some i =>
    rw [e] at hw
    rw [nv_some (f_rk hn hl).2 hw]
end RD
