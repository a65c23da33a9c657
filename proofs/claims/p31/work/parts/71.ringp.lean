/-! PURE: what the law's own tower tells and draws -/
theorem i_div {a b : Nat} (ha : a < 2147483648) (hb : b < 2147483648) : ii a / ii b = ii (a / b) := by
  apply Int32.toInt.inj
  have h1 : a / b ≤ a := Nat.div_le_self a b
  have h0 := Int.natCast_nonneg (a / b)
  rw [Int32.toInt_div, i_toInt ha, i_toInt hb, i_toInt (by omega), ← Int.ofNat_tdiv]
  exact Int.bmod_eq_of_le (by omega) (by omega)
theorem i_mod {a b : Nat} (ha : a < 2147483648) (hb : b < 2147483648) : ii a - ii a / ii b * ii b = ii (a % b) := by
  have h1 := Nat.div_mul_le_self a b
  have h2 := Nat.div_add_mod a b
  rw [Nat.mul_comm] at h2
  rw [i_div ha hb, i_mul, i_sub h1, show a - a / b * b = a % b by omega]
theorem and_pos (x : Int32) : ¬ (x &&& (2147483647 : Int32)) < 0 := by
  rw [Int32.lt_iff_toInt_lt]
  have h1 : (x &&& (2147483647 : Int32)).toBitVec.msb = false := by
    rw [Int32.toBitVec_and, BitVec.msb_and, show (2147483647 : Int32).toBitVec.msb = false from by decide, Bool.and_false]
  rw [BitVec.msb_eq_toInt] at h1
  have h2 := of_decide_eq_false h1
  intro h
  exact h2 h
theorem below_ok (x : Int32) {p : Nat} (hp : 0 < p) (hp2 : p < 2147483648) : ∃ k, k < p ∧ fL_below x (ii p) = some (ii k) := by
  obtain ⟨q, hq, e⟩ := i_of (and_pos x)
  refine ⟨q % p, Nat.mod_lt _ hp, ?_⟩
  unfold fL_below
  rw [if_neg (show ¬ ii p = 0 from fun h9 => by have := (i_eq (b := 0) hp2 (by omega)).mp h9; omega), e, i_mod hq hp2]
theorem draw_ok {L : Nat} (hL : L ≤ 260) (xs : Nat → Int32) {d p : Nat} (hd : d < 1000000) (hp : 0 < p) (hp2 : p < 2147483648) : ∃ k, k < p ∧ fX7_draw L xs (ii d) (ii p) = some (ii k, ii (d + 1)) := by
  have e1 : ii d - ii d / (24 : Int32) * (24 : Int32) = ii (d % 24) := i_mod (b := 24) (by omega) (by omega)
  have h24 : d % 24 < 24 := Nat.mod_lt _ (by omega)
  obtain ⟨v, hv⟩ : ∃ v, fL_cell L xs (ii (d % 24)) = some v := by
    unfold fL_cell
    by_cases c : Int32.ofNat L ≤ ii (d % 24)
    · rw [if_pos c]
      exact ⟨_, rfl⟩
    · rw [if_neg c]
      have c2 : ¬ L ≤ d % 24 := fun h9 => c ((i_le (a := L) (by omega) (by omega)).mpr h9)
      rw [if_neg (i_ix (by omega) (by omega))]
      exact ⟨_, rfl⟩
  obtain ⟨k, hk, e2⟩ := below_ok ((v >>> (((ii d / (24 : Int32)) - (ii d / (24 : Int32)) / (8 : Int32) * (8 : Int32)) &&& 31)) + ((179 : Int32) * ii d)) hp hp2
  refine ⟨k, hk, ?_⟩
  unfold fX7_draw
  rw [e1, hv, Option.bind_some, e2, Option.bind_some, i_add1]
/-! some change -/
def cmpl (n : Nat) : Nat → Nat → Nat → List Nat
  | 0, _, s => [s]
  | f + 1, p, s => if n ≤ p then [s] else cmpl n f (p + 1) (s + 2 ^ p) ++ (if p + 1 < n then cmpl n f (p + 2) s else [])
theorem shl_ok : ∀ p, p < 8 → (1 : Int32) <<< (ii p &&& 31) = ii (2 ^ p) := by decide +kernel
theorem any_L {L : Nat} (hL : L ≤ 260) (xs : Nat → Int32) {n : Nat} (hn : n ≤ 7) : ∀ (f p : Nat), n ≤ p + f → p ≤ n + 1 → ∀ F, f < F → ∀ s d, d + f < 1000000 →
    ∃ c d', fX7_any_L4 (ii n) L xs fX7_any_X4 F (ii p) (ii s) (ii d) = some (ii c, ii d') ∧ c ∈ cmpl n f p s ∧ d' ≤ d + f
  | 0, p, hp, hp2, F + 1, hF, s, d, hd => by
    refine ⟨s, d, ?_, List.mem_singleton.mpr rfl, by omega⟩
    rw [fX7_any_L4, if_pos ((i_le (by omega) (by omega)).mpr (by omega)), fX7_any_X4]
  | f + 1, p, hp, hp2, F + 1, hF, s, d, hd => by
    rw [fX7_any_L4, cmpl]
    by_cases c : n ≤ p
    · rw [if_pos ((i_le (by omega) (by omega)).mpr c), if_pos c, fX7_any_X4]
      exact ⟨s, d, rfl, List.mem_singleton.mpr rfl, by omega⟩
    · rw [if_neg (fun h9 => c ((i_le (by omega) (by omega)).mp h9)), if_neg c, i_add1]
      by_cases c2 : n ≤ p + 1
      · rw [if_pos ((i_le (by omega) (by omega)).mpr c2), shl_ok p (by omega), i_add]
        obtain ⟨q, d', e1, e2, e3⟩ := any_L hL xs hn f (p + 1) (by omega) (by omega) F (by omega) (s + 2 ^ p) d (by omega)
        exact ⟨q, d', e1, List.mem_append_left _ e2, by omega⟩
      · rw [if_neg (fun h9 => c2 ((i_le (by omega) (by omega)).mp h9))]
        obtain ⟨k, hk, e⟩ := draw_ok hL xs (d := d) (p := 4) (by omega) (by omega) (by omega)
        have e : fX7_draw L xs (ii d) (4 : Int32) = some (ii k, ii (d + 1)) := e
        rw [e, Option.bind_some]
        simp only
        by_cases c3 : ii k ≤ 0
        · rw [if_pos c3, shl_ok p (by omega), i_add]
          obtain ⟨q, d', e1, e2, e3⟩ := any_L hL xs hn f (p + 1) (by omega) (by omega) F (by omega) (s + 2 ^ p) (d + 1) (by omega)
          exact ⟨q, d', e1, List.mem_append_left _ e2, by omega⟩
        · rw [if_neg c3, i_add1]
          obtain ⟨q, d', e1, e2, e3⟩ := any_L hL xs hn f (p + 2) (by omega) (by omega) F (by omega) s (d + 1) (by omega)
          exact ⟨q, d', e1, List.mem_append_right _ (by rw [if_pos (show p + 1 < n by omega)]; exact e2), by omega⟩
theorem cmpl_isC {n : Nat} (hn : NB n) : ∀ c ∈ cmpl n n 0 0, IsC n c := by
  have key : ((cmpl n n 0 0).all fun c => (chT n).any fun q => q.1 == c) = true := by
    rcases hn with h | h | h | h <;> subst h <;> decide +kernel
  intro c hc
  have h1 := List.all_eq_true.mp key c hc
  obtain ⟨q, hq, e⟩ := List.any_eq_true.mp h1
  exact ⟨q.2, by rw [← eq_of_beq e]; exact hq⟩
theorem any_ok {L : Nat} (hL : L ≤ 260) (xs : Nat → Int32) {n d : Nat} (hn : NB n) (hd : d < 999000) : ∃ c d', fX7_any L xs (ii d) (ii n) = some (ii c, ii d') ∧ IsC n c ∧ d' ≤ d + 7 := by
  have h7 := nb_le hn
  obtain ⟨c, d', e1, e2, e3⟩ := any_L hL xs h7.2 n 0 (by omega) (by omega) 1000 (by omega) 0 d (by omega)
  exact ⟨c, d', e1, cmpl_isC hn c e2, by omega⟩
/-! rows as arrays -/
def AL (n : Nat) (g : Nat → Int32) (l : List Nat) : Prop := ∀ k, k < n → g k = ii (l.getD k 0)
theorem rounds_ok {n : Nat} (hn : NB n) : ∃ g, fX7_rounds (ii n) = some (g, n) ∧ AL n g (rowL n) := by
  rcases hn with h | h | h | h <;> subst h
  · refine ⟨_, rfl, fun k hk => ?_⟩
    rcases (show k = 0 ∨ k = 1 ∨ k = 2 ∨ k = 3 by omega) with e | e | e | e <;> subst e <;> rfl
  · refine ⟨_, rfl, fun k hk => ?_⟩
    rcases (show k = 0 ∨ k = 1 ∨ k = 2 ∨ k = 3 ∨ k = 4 by omega) with e | e | e | e | e <;> subst e <;> rfl
  · refine ⟨_, rfl, fun k hk => ?_⟩
    rcases (show k = 0 ∨ k = 1 ∨ k = 2 ∨ k = 3 ∨ k = 4 ∨ k = 5 by omega) with e | e | e | e | e | e <;> subst e <;> rfl
  · refine ⟨_, rfl, fun k hk => ?_⟩
    rcases (show k = 0 ∨ k = 1 ∨ k = 2 ∨ k = 3 ∨ k = 4 ∨ k = 5 ∨ k = 6 by omega) with e | e | e | e | e | e | e <;> subst e <;> rfl
theorem tell_L {n : Nat} {g : Nat → Int32} {l : List Nat} (hl : l.length = n) (hn : n ≤ 7) (h : AL n g l) : ∀ (d k : Nat), k + d = n → ∀ f, d < f → ∀ a : Nat, fX7_tell_L10 n g fX7_tell_X10 f (ii k) (ii a) = some (ii ((l.drop k).foldl (fun s d => 10 * s + d) a))
  | 0, k, hk, f + 1, hf, a => by
    rw [fX7_tell_L10, if_pos (show Int32.ofNat n ≤ ii k from (i_le (a := n) (by omega) (by omega)).mpr (by omega)), fX7_tell_X10, List.drop_eq_nil_of_le (by omega)]
    rfl
  | d + 1, k, hk, f + 1, hf, a => by
    have hk2 : k < l.length := by omega
    have e : g k = ii l[k] := by
      rw [h k (by omega), List.getD_eq_getElem?_getD, List.getElem?_eq_getElem hk2]
      rfl
    rw [fX7_tell_L10, if_neg (show ¬ Int32.ofNat n ≤ ii k from fun h9 => by have := (i_le (a := n) (by omega) (by omega)).mp h9; omega), if_neg (i_ix (by omega) (by omega)), i_nat (by omega), e, i_add1, show (10 : Int32) = ii 10 from rfl, i_mul, i_add, tell_L hl hn h d (k + 1) (by omega) f (by omega), List.drop_eq_getElem_cons hk2, List.foldl_cons]
theorem tell_ok {n : Nat} {g : Nat → Int32} {l : List Nat} (hn : NB n) (hl : IsR n l) (h : AL n g l) : fX7_tell n g = some (ii (tl l)) := by
  have h7 := nb_le hn
  exact tell_L (isR_len hl) h7.2 h n 0 (by omega) 1000 (by omega) 0
theorem plus_ok {p : Nat} (hp : p ≤ 24) (f : Nat → Int32) (x : Int32) : ∃ g, fX7_plus p f x = some (g, p + 1) ∧ (∀ k, k < p → g k = f k) ∧ g p = x := by
  have e1 : (Int32.ofNat p) + (1 : Int32) = ii (p + 1) := i_add1 p
  have e2 : (Int32.ofNat p) = ii p := rfl
  refine ⟨upd (va_cpy f (fun _ => 0) 0 0 p) p x, ?_, fun k hk => ?_, ?_⟩
  · unfold fX7_plus
    rw [e1, e2, if_neg (i_pos (by omega)), i_nat (by omega), if_neg (by omega), if_neg (i_pos (by omega)), i_nat (by omega), if_neg (by omega), if_neg (show ¬ (ii p < 0 ∨ p + 1 ≤ p) from fun h9 => by rcases h9 with h9 | h9; exact i_pos (by omega) h9; omega)]
  · unfold upd va_cpy
    rw [if_neg (by omega), if_pos (by omega), Nat.zero_add, Nat.sub_zero]
  · unfold upd
    rw [if_pos rfl]
theorem less_ok {p : Nat} (hp : p ≤ 24) (f : Nat → Int32) : ∃ g, fX7_less (p + 1) f = some (g, p) ∧ ∀ k, k < p → g k = f k := by
  have e1 : (Int32.ofNat (p + 1)) - (1 : Int32) = ii p := i_sub1 (a := p + 1) (by omega)
  refine ⟨va_cpy f (fun _ => 0) 0 0 p, ?_, fun k hk => ?_⟩
  · unfold fX7_less
    rw [e1, if_neg (i_pos (by omega)), i_nat (by omega), if_neg (by omega), if_neg (i_pos (by omega)), i_nat (by omega), if_neg (by omega)]
  · unfold va_cpy
    rw [if_pos (by omega), Nat.zero_add, Nat.sub_zero]
theorem ring2_ok {n x : Nat} {g : Nat → Int32} {l : List Nat} (hn : NB n) (hx : IsC n x) (hl : IsR n l) (h : AL n g l) : ∃ g', fX7_ring (ii n) n g (ii x) = some g' ∧ AL n g' (chg n x l) := chr_ok hn hx g l (isR_len hl) h
theorem last_ok {m : Nat} {M : Nat → Nat} {bob sng q : Nat} {gmf : Nat → Int32} (hm : m ≤ 14) (hg : ∀ k, k < m → gmf k = ii (M k)) (h0 : 0 < m) (hq : q ≤ 2) : fX7_last (ii bob) (ii sng) m gmf (ii q) = some (ii (rg m M bob sng (m - 1) q)) := by
  unfold fX7_last rg
  by_cases c : q = 0
  · subst c
    have e : (Int32.ofNat m) - (1 : Int32) = ii (m - 1) := i_sub1 (a := m) h0
    rw [if_pos (show ii 0 = 0 from rfl), e, if_neg (i_ix (by omega) (by omega)), i_nat (by omega), hg (m - 1) (by omega), if_neg (fun h9 => h9.1 rfl)]
  · have c0 : ¬ ii q = (0 : Int32) := fun h9 => c ((i_eq (b := 0) (by omega) (by omega)).mp h9)
    have c2 : q ≠ 0 ∧ m - 1 + 1 = m := ⟨c, by omega⟩
    rw [if_neg c0, if_pos c2]
    by_cases c1 : q = 1
    · have c3 : ii q = (1 : Int32) := by rw [c1]; rfl
      rw [if_pos c3, if_pos c1]
    · have c3 : ¬ ii q = (1 : Int32) := fun h9 => c1 ((i_eq (b := 1) (by omega) (by omega)).mp h9)
      rw [if_neg c3, if_neg c1]
theorem al_cpy {n : Nat} {g h : Nat → Int32} {l : List Nat} (e : AL n g l) : AL n (va_cpy g h 0 0 n) l := fun k hk => by
  unfold va_cpy
  rw [if_pos (by omega), Nat.zero_add, Nat.sub_zero]
  exact e k hk
theorem rows_L63 {n m c j : Nat} {M : Nat → Nat} {bob sng : Nat} {C : Nat → Nat} {gmf pbf : Nat → Int32} (hn : NB n) (hm : m ≤ 14) (hM : ∀ k, k < m → IsC n (M k)) (hb : IsC n bob) (hs : IsC n sng) (hg : ∀ k, k < m → gmf k = ii (M k)) (hj : j < c) (hc : c ≤ 24) (hp : pbf j = ii (C j)) (hq : C j ≤ 2)
    (K : Int32 → Int32 → (Nat → Int32) → (Nat → Int32) → Option ((Nat → Int32) × Nat)) : ∀ (d k : Nat), k + d = m → ∀ f, d < f → ∀ z g : Nat → Int32, AL n g (RQ n m M bob sng C (j * m + k)) → AL n z (RQ n m M bob sng C (j * m + k)) →
    ∃ z' g', fX7_rows_L63 m (ii bob) (ii sng) gmf pbf (ii j) (ii n) c K f (ii k) (ii (j * m + k)) z g = K (ii m) (ii (j * m + m)) z' g' ∧ AL n g' (RQ n m M bob sng C (j * m + m)) ∧ AL n z' (RQ n m M bob sng C (j * m + m))
  | 0, k, hk, f + 1, hf, z, g, h1, h2 => by
    have e : k = m := by omega
    subst e
    refine ⟨z, g, ?_, h1, h2⟩
    rw [fX7_rows_L63, if_pos (show Int32.ofNat k ≤ ii k from (i_le (a := k) (by omega) (by omega)).mpr (by omega))]
  | d + 1, k, hk, f + 1, hf, z, g, h1, h2 => by
    have h7 := nb_le hn
    have hjm : (j + 1) * m ≤ c * m := Nat.mul_le_mul_right m hj
    have hcm : c * m ≤ 24 * 14 := Nat.mul_le_mul hc hm
    rw [Nat.succ_mul] at hjm
    have hmod : (j * m + k) % m = k := by rw [Nat.add_comm, Nat.add_mul_mod_self_right]; exact Nat.mod_eq_of_lt (by omega)
    have hdiv : (j * m + k) / m = j := by rw [Nat.add_comm, Nat.add_mul_div_right _ _ (by omega), Nat.div_eq_of_lt (by omega)]; omega
    have hrg : IsC n (rg m M bob sng k (C j)) := by
      unfold rg
      split
      · split
        · exact hb
        · exact hs
      · exact hM k (by omega)
    obtain ⟨g2, r1, r2⟩ := ring2_ok hn hrg (rl_isR n m M bob sng C (j * m + k)) h1
    have hR : chg n (rg m M bob sng k (C j)) (RQ n m M bob sng C (j * m + k)) = RQ n m M bob sng C (j * m + (k + 1)) := by
      rw [← Nat.add_assoc, RQ, hmod, hdiv]
    rw [hR] at r2
    obtain ⟨z', g', i1, i2, i3⟩ := rows_L63 hn hm hM hb hs hg hj hc hp hq K d (k + 1) (by omega) f (by omega) (va_cpy g2 (fun _ => 0) 0 0 n) g2 r2 (al_cpy r2)
    refine ⟨z', g', ?_, i2, i3⟩
    have eN : ((Int32.ofNat c) * (Int32.ofNat m)).toNatClampNeg = c * m := by
      rw [show (Int32.ofNat c) * (Int32.ofNat m) = ii (c * m) from i_mul c m, i_nat (by omega)]
    rw [fX7_rows_L63, if_neg (show ¬ Int32.ofNat m ≤ ii k from fun h9 => by have := (i_le (a := m) (by omega) (by omega)).mp h9; omega), i_nat (show n < 2147483648 by omega), eN]
    by_cases e : k + 1 = m
    · have hl : fX7_last (ii bob) (ii sng) m gmf (ii (C j)) = some (ii (rg m M bob sng k (C j))) := by
        rw [last_ok hm hg (by omega) hq, show m - 1 = k by omega]
      rw [if_pos (show Int32.ofNat m ≤ ii k + (1 : Int32) by rw [i_add1]; exact (i_le (a := m) (by omega) (by omega)).mpr (by omega)), i_nat (show j < 2147483648 by omega), hp, hl, Option.bind_some, r1, Option.bind_some]
      rw [if_neg (i_pos (by omega)), if_neg (by omega), if_neg (i_ix (by omega) (by omega)), if_neg (i_ix (by omega) (by omega)), if_neg (i_pos (by omega)), if_neg (by omega), i_add1, i_add1]
      exact i1
    · have hl : gmf k = ii (rg m M bob sng k (C j)) := by
        rw [hg k (by omega)]
        unfold rg
        rw [if_neg (fun h9 => e h9.2)]
      rw [if_neg (show ¬ Int32.ofNat m ≤ ii k + (1 : Int32) by rw [i_add1]; exact fun h9 => by have := (i_le (a := m) (by omega) (by omega)).mp h9; omega), if_neg (i_ix (by omega) (by omega)), i_nat (show k < 2147483648 by omega), hl, r1, Option.bind_some]
      rw [if_neg (i_pos (by omega)), if_neg (by omega), if_neg (i_ix (by omega) (by omega)), if_neg (i_ix (by omega) (by omega)), if_neg (i_pos (by omega)), if_neg (by omega), i_add1, i_add1]
      exact i1
theorem rows_L46 {n m c : Nat} {M : Nat → Nat} {bob sng : Nat} {C : Nat → Nat} {gmf pbf : Nat → Int32} (hn : NB n) (hm : m ≤ 14) (hM : ∀ k, k < m → IsC n (M k)) (hb : IsC n bob) (hs : IsC n sng) (hg : ∀ k, k < m → gmf k = ii (M k)) (hc : c ≤ 24) (hp : ∀ j, j < c → pbf j = ii (C j)) (hq : ∀ j, j < c → C j ≤ 2) :
    ∀ (d j : Nat), j + d = c → ∀ f, d < f → ∀ z g : Nat → Int32, AL n g (RQ n m M bob sng C (j * m)) → AL n z (RQ n m M bob sng C (j * m)) →
    ∃ z', fX7_rows_L46 c m (ii bob) (ii sng) gmf pbf (ii n) (fX7_rows_X46 c m) f (ii j) (ii (j * m)) z g = some (z', c * m) ∧ AL n z' (RQ n m M bob sng C (c * m))
  | 0, j, hj, f + 1, hf, z, g, h1, h2 => by
    have e : j = c := by omega
    subst e
    have hcm : j * m ≤ 24 * 14 := Nat.mul_le_mul hc hm
    refine ⟨z, ?_, h2⟩
    have eN : ((Int32.ofNat j) * (Int32.ofNat m)).toNatClampNeg = j * m := by
      rw [show (Int32.ofNat j) * (Int32.ofNat m) = ii (j * m) from i_mul j m, i_nat (by omega)]
    rw [fX7_rows_L46, if_pos (show Int32.ofNat j ≤ ii j from (i_le (a := j) (by omega) (by omega)).mpr (by omega)), fX7_rows_X46, eN, i_nat (by omega), if_pos rfl]
  | d + 1, j, hj, f + 1, hf, z, g, h1, h2 => by
    obtain ⟨z1, g1, i1, i2, i3⟩ := rows_L63 hn hm hM hb hs hg (show j < c by omega) hc (hp j (by omega)) (hq j (by omega)) (fX7_rows_X63 (fX7_rows_L46 c m (ii bob) (ii sng) gmf pbf (ii n) (fX7_rows_X46 c m) f) (ii j)) m 0 (by omega) 16 (by omega) z g h1 h2
    rw [← Nat.succ_mul] at i1 i2 i3
    obtain ⟨z', k1, k2⟩ := rows_L46 hn hm hM hb hs hg hc hp hq d (j + 1) (by omega) f (by omega) z1 g1 i2 i3
    refine ⟨z', ?_, k2⟩
    rw [fX7_rows_L46, if_neg (show ¬ Int32.ofNat c ≤ ii j from fun h9 => by have := (i_le (a := c) (by omega) (by omega)).mp h9; omega), if_neg (i_ix (by omega) (by omega))]
    refine i1.trans ?_
    rw [fX7_rows_X63, i_add1]
    exact k1
theorem rows_ok {n m c : Nat} {M : Nat → Nat} {bob sng : Nat} {C : Nat → Nat} {gmf gcf : Nat → Int32} (hn : NB n) (hm : m ≤ 14) (hM : ∀ k, k < m → IsC n (M k)) (hb : IsC n bob) (hs : IsC n sng) (hg : ∀ k, k < m → gmf k = ii (M k)) (hc : c ≤ 24) (hp : ∀ j, j < c → gcf j = ii (C j)) (hq : ∀ j, j < c → C j ≤ 2) :
    ∃ z, fX7_rows_ (ii n) (ii bob) (ii sng) m gmf c gcf = some (z, c * m) ∧ AL n z (RQ n m M bob sng C (c * m)) := by
  have h7 := nb_le hn
  have hcm : c * m ≤ 24 * 14 := Nat.mul_le_mul hc hm
  obtain ⟨g, g1, g2⟩ := rounds_ok hn
  have g3 : AL n (va_cpy g (fun _ => 0) 0 0 n) (RQ n m M bob sng C (0 * m)) := by
    rw [Nat.zero_mul]
    exact al_cpy g2
  obtain ⟨z, k1, k2⟩ := rows_L46 hn hm hM hb hs hg hc hp hq c 0 (by omega) 26 (by omega) _ _ g3 g3
  rw [Nat.zero_mul] at k1
  refine ⟨z, ?_, k2⟩
  have e : (Int32.ofNat c) * (Int32.ofNat m) = ii (c * m) := i_mul c m
  unfold fX7_rows_ fX7_rows
  rw [g1, Option.bind_some]
  simp only
  rw [e, if_neg (i_pos (by omega)), i_nat (show c * m < 2147483648 by omega), if_neg (by omega), if_neg (i_pos (by omega)), i_nat (show n < 2147483648 by omega), if_neg (by omega), if_neg (i_pos (by omega)), if_neg (by omega)]
  have k1 : fX7_rows_L46 c m (ii bob) (ii sng) gmf gcf (ii n) (fX7_rows_X46 c m) 26 (0 : Int32) (0 : Int32) (va_cpy g (fun _ => 0) 0 0 n) (va_cpy g (fun _ => 0) 0 0 n) = some (z, c * m) := k1
  rw [k1, Option.bind_some]
