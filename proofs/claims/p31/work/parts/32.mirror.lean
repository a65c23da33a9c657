/-! PURE: the mirror -/
def MM (m : Nat) (M : Nat → Nat) (k : Nat) : Nat := if k < m then M k else M (2 * m - 2 - k)
section MR
variable {n m : Nat} {M : Nat → Nat} {bob sng : Nat} {bells ob os chz : Int32} {chf : Nat → Int32} {c : Nat} {C : Nat → Nat} {dif rep wz cz : Int32} {wf bf cf : Nat → Int32}
theorem i_dn {r : Nat} : (ii (r + 1) - (1 : Int32)) + (-1 : Int32) = ii r - (1 : Int32) := by
  rw [i_sub1 (by omega), show r + 1 - 1 = r from rfl, Int32.sub_eq_add_neg]
theorem i_m0 : ii 0 - (1 : Int32) < 0 := by decide
theorem i_start {m : Nat} (hm : 0 < m) : ii m - (2 : Int32) = ii (m - 1) - (1 : Int32) := by
  rcases Nat.lt_or_ge 1 m with h | h
  · rw [show (2 : Int32) = ii 2 from rfl, i_sub (by omega), i_sub1 (by omega)]
    rfl
  · have e : m = 1 := by omega
    subst e
    decide
theorem mir_L (hm7 : 0 < m ∧ m ≤ 7) (K : Int32 → Int32 → (Nat → Int32) → Option (Sum (String × Unit) (Int32 × Int32 × Int32 × Int32 × (Nat → Int32) × (Nat → Int32) × Int32 × (Nat → Int32)))) :
    ∀ (r : Nat), r + 1 ≤ m → ∀ f, r < f → ∀ (chz : Int32) (chf : Nat → Int32), MI n (2 * m - 1 - r) (MM m M) bob sng bells ob os chz chf →
      ∃ chf', fX6_mirror_L36 14 K f (ii r - (1 : Int32)) chz chf = K (ii 0 - (1 : Int32)) (ii (2 * m - 1)) chf' ∧ MI n (2 * m - 1) (MM m M) bob sng bells ob os (ii (2 * m - 1)) chf'
  | 0, hr, f + 1, hf, chz, chf, h => by
    have hz := h.2.2.2.1.1
    have h : MI n (2 * m - 1) (MM m M) bob sng bells ob os chz chf := h
    refine ⟨chf, ?_, by rw [h.2.2.2.1.1] at h; exact h⟩
    rw [fX6_mirror_L36, if_pos i_m0, h.2.2.2.1.1]
  | r + 1, hr, f + 1, hf, chz, chf, h => by
    have hb := mi_b h
    have hx : IsC n (MM m M r) := h.2.2.2.2.1 r (by omega)
    obtain ⟨chf', a1, a2⟩ := mi_add h (by omega) hx
    have a3 : MI n (2 * m - 1 - r) (MM m M) bob sng bells ob os (ii (2 * m - 1 - r)) chf' := by
      have e : 2 * m - 1 - (r + 1) + 1 = 2 * m - 1 - r := by omega
      rw [e] at a2
      obtain ⟨b0, b1, b2, b3, b4, b5, b6⟩ := a2
      have hv : ∀ k, k < 2 * m - 1 - r → (if k = 2 * m - 1 - (r + 1) then MM m M r else MM m M k) = MM m M k := fun k hk => by
        by_cases e2 : k = 2 * m - 1 - (r + 1)
        · rw [if_pos e2, e2]
          unfold MM
          rw [if_pos (by omega), if_neg (by omega), show 2 * m - 2 - (2 * m - 1 - (r + 1)) = r by omega]
        · rw [if_neg e2]
      exact ⟨b0, b1, b2, ln_congr b3 (fun k hk => congrArg ii (hv k hk)), fun k hk => Eq.mp (congrArg (IsC n) (hv k hk)) (b4 k hk), b5, b6⟩
    obtain ⟨c2, i1, i2⟩ := mir_L hm7 K r (by omega) f (by omega) (ii (2 * m - 1 - r)) chf' a3
    refine ⟨c2, ?_, i2⟩
    rw [fX6_mirror_L36, if_neg (show ¬ (ii (r + 1) - (1 : Int32)) < 0 by rw [i_sub1 (by omega)]; exact i_pos (by omega))]
    unfold fX2_plainChange
    rw [i_sub1 (by omega), show r + 1 - 1 = r from rfl, ln_at h.2.2.2.1 (by omega), Option.bind_some, Option.bind_some, a1, Option.bind_some]
    have e9 : ii r + (-1 : Int32) = ii r - (1 : Int32) := by
      rw [Int32.sub_eq_add_neg]
    simp only
    rw [e9, show 2 * m - 1 - (r + 1) + 1 = 2 * m - 1 - r by omega]
    exact i1
theorem mirror_ok (hn : NB n) (hM : MI n m M bob sng bells ob os chz chf) (hT : TT n m M bob sng c C dif rep cz cf wz wf bf) (hm7 : 0 < m ∧ m ≤ 7) :
    ∃ dif' rep' wz' wf' bf' chf', fX6_mirror cz 24 cf 336 wf 5040 bf (ii n) ob os chz 14 chf = some (.inr (ii (2 * m - 1), dif', rep', wz', wf', bf', ii (2 * m - 1), chf')) ∧
      MI n (2 * m - 1) (MM m M) bob sng bells ob os (ii (2 * m - 1)) chf' ∧ TT n (2 * m - 1) (MM m M) bob sng c C dif' rep' cz cf wz' wf' bf' := by
  have h0 : MI n (2 * m - 1 - (m - 1)) (MM m M) bob sng bells ob os chz chf := by
    rw [show 2 * m - 1 - (m - 1) = m by omega]
    obtain ⟨b0, b1, b2, b3, b4, b5, b6⟩ := hM
    have hv : ∀ k, k < m → MM m M k = M k := fun k hk => by
      unfold MM
      rw [if_pos hk]
    exact ⟨b0, b1, b2, ln_congr b3 (fun k hk => by rw [hv k hk]), fun k hk => by rw [hv k hk]; exact b4 k hk, b5, b6⟩
  obtain ⟨chf', a1, a2⟩ := mir_L hm7 (fX6_mirror_X36 cz 24 cf 336 wf 5040 bf (ii n) ob os 14) (m - 1) (by omega) 1000 (by omega) chz chf h0
  obtain ⟨d2, r2, z2, w2, b2, c1, c2⟩ := again_ok hn a2 hT.1 hT.2.1 wf bf
  refine ⟨d2, r2, z2, w2, b2, chf', ?_, a2, c2⟩
  have e1 : ((2 : Int32) * chz) - (1 : Int32) = ii (2 * m - 1) := by
    rw [hM.2.2.2.1.1, show (2 : Int32) = ii 2 from rfl, i_mul, i_sub1 (by omega)]
  have e2 : chz - (2 : Int32) = ii (m - 1) - (1 : Int32) := by
    rw [hM.2.2.2.1.1]
    exact i_start hm7.1
  unfold fX6_mirror fX2_length fX1_size
  rw [Option.bind_some, Option.bind_some, if_neg (show ¬ chz = 0 by rw [hM.2.2.2.1.1]; exact fun h9 => by have := (i_eq (b := 0) (by omega) (by omega)).mp h9; omega), e1, if_pos (show ii (2 * m - 1) ≤ (14 : Int32) from (i_le (b := 14) (by omega) (by omega)).mpr (by omega)), e2]
  refine a1.trans ?_
  unfold fX6_mirror_X36 fX2_length fX1_size
  rw [c1, Option.bind_some, Option.bind_some, Option.bind_some]
theorem mirror_no (hM : MI n m M bob sng bells ob os chz chf) (hm : m = 0 ∨ 8 ≤ m) (cz : Int32) (cf wf bf : Nat → Int32) :
    fX6_mirror cz 24 cf 336 wf 5040 bf (ii n) ob os chz 14 chf = some (.inl ("java/lang/IllegalStateException", ())) := by
  have hb := mi_b hM
  unfold fX6_mirror fX2_length fX1_size
  rw [Option.bind_some, Option.bind_some]
  by_cases c0 : m = 0
  · rw [if_pos (show chz = 0 by rw [hM.2.2.2.1.1, c0]; rfl)]
  · have e1 : ((2 : Int32) * chz) - (1 : Int32) = ii (2 * m - 1) := by
      rw [hM.2.2.2.1.1, show (2 : Int32) = ii 2 from rfl, i_mul, i_sub1 (by omega)]
    rw [if_neg (show ¬ chz = 0 by rw [hM.2.2.2.1.1]; exact fun h9 => by have := (i_eq (b := 0) (by omega) (by omega)).mp h9; omega), e1, if_neg (show ¬ ii (2 * m - 1) ≤ (14 : Int32) from fun h9 => by have := (i_le (b := 14) (by omega) (by omega)).mp h9; omega)]
end MR
