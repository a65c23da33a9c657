/-! PURE: lines and the book -/
def LnF (N cap : Nat) (z : Int32) (f v : Nat → Int32) : Prop := z = ii N ∧ N ≤ cap ∧ cap ≤ 336 ∧ ∀ k, k < N → f k = v k
def gv (N : Nat) (v : Nat → Int32) (p : Int32) : Int32 := if p < 0 then (-1 : Int32) else if ii N ≤ p then (-1 : Int32) else v p.toNatClampNeg
theorem gv_lt {N k : Nat} {v : Nat → Int32} (hk : k < N) (hN : N < 2147483648) : gv N v (ii k) = v k := by
  unfold gv
  rw [if_neg (i_pos (by omega)), if_neg (by rw [i_le (by omega) (by omega)]; omega), i_nat (by omega)]
theorem ln_get {N cap : Nat} {z : Int32} {f v : Nat → Int32} (h : LnF N cap z f v) (p : Int32) : fX1_get z cap f p = some (gv N v p) := by
  obtain ⟨rfl, h1, h2, h3⟩ := h
  unfold fX1_get gv
  by_cases c0 : p < 0
  · rw [if_pos c0, if_pos c0]
  · rw [if_neg c0, if_neg c0]
    by_cases c1 : ii N ≤ p
    · rw [if_pos c1, if_pos c1]
    · rw [if_neg c1, if_neg c1]
      obtain ⟨k, hk, rfl⟩ := i_of c0
      have c2 : ¬ N ≤ k := fun h9 => c1 ((i_le (by omega) hk).mpr h9)
      rw [if_neg (show ¬ Int32.ofNat cap ≤ ii k from fun h9 => by have := (i_le (a := cap) (by omega) hk).mp h9; omega), if_neg (i_ix (by omega) (by omega)), i_nat hk, h3 k (by omega)]
theorem ln_at {N cap k : Nat} {z : Int32} {f v : Nat → Int32} (h : LnF N cap z f v) (hk : k < N) : fX1_get z cap f (ii k) = some (v k) := by
  rw [ln_get h, gv_lt hk (by have := h.2.1; have := h.2.2.1; omega)]
theorem ln_add {N cap : Nat} {z x : Int32} {f v : Nat → Int32} (h : LnF N cap z f v) (hN : N < cap) : fX1_add z cap f x = some (ii (N + 1), upd f N x) ∧ LnF (N + 1) cap (ii (N + 1)) (upd f N x) (upd v N x) := by
  obtain ⟨rfl, h1, h2, h3⟩ := h
  constructor
  · unfold fX1_add
    rw [if_neg (i_pos (by omega)), if_neg (show ¬ Int32.ofNat cap ≤ ii N from fun h9 => by have := (i_le (a := cap) (by omega) (by omega)).mp h9; omega), if_neg (i_ix hN (by omega)), i_add1, i_nat (by omega)]
  · refine ⟨rfl, by omega, h2, fun k hk => ?_⟩
    unfold upd
    by_cases e : k = N
    · rw [if_pos e, if_pos e]
    · rw [if_neg e, if_neg e]
      exact h3 k (by omega)
theorem ln_rem {N cap : Nat} {z : Int32} {f v : Nat → Int32} (h : LnF (N + 1) cap z f v) : fX1_removeLast z cap f = some (v N, ii N) ∧ LnF N cap (ii N) f v := by
  have h0 := h
  obtain ⟨rfl, h1, h2, h3⟩ := h
  constructor
  · unfold fX1_removeLast
    rw [i_sub1 (by omega), show N + 1 - 1 = N from rfl, ln_at h0 (by omega), Option.bind_some]
    refine if_neg ?_
    rw [show (0 : Int32) = ii 0 from rfl, i_le (by omega) (by omega)]
    omega
  · exact ⟨rfl, by omega, h2, fun k hk => h3 k (by omega)⟩
theorem ln_congr {N cap : Nat} {z : Int32} {f v w : Nat → Int32} (h : LnF N cap z f v) (e : ∀ k, k < N → v k = w k) : LnF N cap z f w := ⟨h.1, h.2.1, h.2.2.1, fun k hk => (h.2.2.2 k hk).trans (e k hk)⟩
theorem ln_nil (cap : Nat) (hc : cap ≤ 336) (f v : Nat → Int32) : LnF 0 cap (0 : Int32) f v := ⟨rfl, Nat.zero_le _, hc, fun k hk => absurd hk (Nat.not_lt_zero _)⟩
theorem ln_z {N cap : Nat} {z : Int32} {f v : Nat → Int32} (h : LnF N cap z f v) : z = ii N := h.1
theorem ln_b {N cap : Nat} {z : Int32} {f v : Nat → Int32} (h : LnF N cap z f v) : N < 337 := by
  have := h.2.1
  have := h.2.2.1
  omega
/-! the book -/
def BkF (b : Nat → Int32) (w : Nat → Nat) : Prop := ∀ k, k < 5040 → b k = ii (w k) ∧ w k ≤ 336
def nv (w : Nat → Nat) (p : Int32) : Int32 := if p < 0 then (-1 : Int32) else if ii 5040 ≤ p then (-1 : Int32) else ii (w p.toNatClampNeg) - (1 : Int32)
theorem bk_get {b : Nat → Int32} {w : Nat → Nat} (h : BkF b w) (p : Int32) : fX0_firstNumber 5040 b p = some (nv w p) := by
  unfold fX0_firstNumber nv
  by_cases c0 : p < 0
  · rw [if_pos c0, if_pos c0]
  · rw [if_neg c0, if_neg c0]
    by_cases c1 : ii 5040 ≤ p
    · rw [if_pos (show Int32.ofNat 5040 ≤ p from c1), if_pos c1]
    · rw [if_neg (show ¬ Int32.ofNat 5040 ≤ p from c1), if_neg c1]
      obtain ⟨k, hk, rfl⟩ := i_of c0
      have c2 : ¬ 5040 ≤ k := fun h9 => c1 ((i_le (by omega) hk).mpr h9)
      rw [if_neg (i_ix (by omega) (by omega)), i_nat hk, (h k (by omega)).1]
theorem nv_none {w : Nat → Nat} {k : Nat} (hk : k < 5040) (h : w k = 0) : nv w (ii k) = (-1 : Int32) := by
  unfold nv
  rw [if_neg (i_pos (by omega)), if_neg (by rw [i_le (by omega) (by omega)]; omega), i_nat (by omega), h]
  rfl
theorem nv_some {w : Nat → Nat} {k i : Nat} (hk : k < 5040) (h : w k = i + 1) : nv w (ii k) = ii i := by
  unfold nv
  rw [if_neg (i_pos (by omega)), if_neg (by rw [i_le (by omega) (by omega)]; omega), i_nat (by omega), h, i_sub1 (by omega)]
  rfl
theorem bk_note {b : Nat → Int32} {w : Nat → Nat} (h : BkF b w) {k j : Nat} (hk : k < 5040) (hj : j < 336) : fX0_note 5040 b (ii k) (ii j) = some (upd b k (ii (j + 1))) ∧ BkF (upd b k (ii (j + 1))) (fun q => if q = k then j + 1 else w q) := by
  constructor
  · unfold fX0_note
    rw [if_neg (i_pos (by omega)), if_neg (show ¬ Int32.ofNat 5040 ≤ ii k from fun h9 => by have := (i_le (a := 5040) (by omega) (by omega)).mp h9; omega), if_neg (i_ix hk (by omega)), i_add1, i_nat (by omega)]
  · intro q hq
    unfold upd
    by_cases e : q = k
    · rw [if_pos e]
      simp only [if_pos e]
      exact ⟨trivial, by omega⟩
    · rw [if_neg e]
      simp only [if_neg e]
      exact h q hq
theorem bk_strike {b : Nat → Int32} {w : Nat → Nat} (h : BkF b w) {k : Nat} (hk : k < 5040) : ∃ g, fX0_strike 5040 b (ii k) = some g ∧ BkF g (fun q => if q = k then 0 else w q) := by
  refine ⟨upd b k ((-1 : Int32) + (1 : Int32)), ?_, ?_⟩
  · unfold fX0_strike fX0_note
    rw [if_neg (i_pos (by omega)), if_neg (show ¬ Int32.ofNat 5040 ≤ ii k from fun h9 => by have := (i_le (a := 5040) (by omega) (by omega)).mp h9; omega), if_neg (i_ix hk (by omega)), i_nat (by omega)]
    rfl
  · intro q hq
    unfold upd
    by_cases e : q = k
    · rw [if_pos e]
      simp only [if_pos e]
      exact ⟨rfl, by omega⟩
    · rw [if_neg e]
      simp only [if_neg e]
      exact h q hq
theorem fill_L : ∀ (d k : Nat), k + d = 5040 → ∀ (n : Nat), d < n → ∀ f : Nat → Int32, (∀ q, q < k → f q = 0) → ∃ g, fJ7_fill_53178_L5 5040 (0 : Int32) fJ7_fill_53178_X5 n (ii k) f = some g ∧ ∀ q, q < 5040 → g q = 0
  | 0, k, hk, n + 1, hn, f, hf => by
    refine ⟨f, ?_, fun q hq => hf q (by omega)⟩
    rw [fJ7_fill_53178_L5]
    refine (if_pos ?_).trans rfl
    exact (i_le (a := 5040) (by omega) (by omega)).mpr (by omega)
  | d + 1, k, hk, n + 1, hn, f, hf => by
    rw [fJ7_fill_53178_L5]
    rw [if_neg (show ¬ Int32.ofNat 5040 ≤ ii k from fun h9 => by have := (i_le (a := 5040) (by omega) (by omega)).mp h9; omega), if_neg (i_ix (by omega) (by omega)), i_add1, i_nat (by omega)]
    refine fill_L d (k + 1) (by omega) n (by omega) _ (fun q hq => ?_)
    unfold upd
    by_cases e : q = k
    · rw [if_pos e]
    · rw [if_neg e]
      exact hf q (by omega)
theorem bk_clear (b : Nat → Int32) : ∃ g, fX0_clear 5040 b = some g ∧ BkF g (fun _ => 0) := by
  obtain ⟨g, h1, h2⟩ := fill_L 5040 0 rfl 6000 (by omega) b (fun q hq => absurd hq (Nat.not_lt_zero _))
  refine ⟨g, ?_, fun k hk => ⟨h2 k hk, Nat.zero_le _⟩⟩
  unfold fX0_clear fJ7_fill_53178
  rw [show (0 : Int32) = ii 0 from rfl] at h1 ⊢
  rw [h1]
  rfl
theorem bk_congr {b : Nat → Int32} {w w' : Nat → Nat} (h : BkF b w) (e : ∀ k, k < 5040 → w k = w' k) : BkF b w' := fun k hk => by
  rw [← e k hk]
  exact h k hk
