/-! PURE: the law's tower is found, and acts -/
section FO
variable {L : Nat} {xs : Nat → Int32} {n m : Nat} {M : Nat → Nat} {bob sng c : Nat} {C : Nat → Nat} {D : Nat} {drw rb rs : Int32} {dif rep cz : Int32} {cf : Nat → Int32} {wz : Int32} {wf bf : Nat → Int32} {ob os chz : Int32} {chf gmf gcf : Nat → Int32} {gmn gcn : Nat}
theorem rmir_L (hm7 : 0 < m ∧ m ≤ 7) (v : Int32 × Int32 × Int32 × Int32 × (Nat → Int32) × (Nat → Int32) × Int32 × (Nat → Int32)) : ∀ (r : Nat), r + 1 ≤ m → ∀ f, r < f → ∀ (g : Nat → Int32), (∀ k, k < 2 * m - 1 - r → g k = ii (MM m M k)) →
    ∃ g', fX7_mirror_L46 (fX7_mirror_X46 v) f (ii r - (1 : Int32)) (2 * m - 1 - r) g = fX7_mirror_X46 v (ii 0 - (1 : Int32)) (2 * m - 1) g' ∧ ∀ k, k < 2 * m - 1 → g' k = ii (MM m M k)
  | 0, hr, f + 1, hf, g, h => by
    refine ⟨g, ?_, h⟩
    rw [fX7_mirror_L46, if_pos i_m0]
    rfl
  | r + 1, hr, f + 1, hf, g, h => by
    obtain ⟨g2, p1, p2, p3⟩ := plus_ok (p := 2 * m - 1 - (r + 1)) (by omega) g (g r)
    rw [show 2 * m - 1 - (r + 1) + 1 = 2 * m - 1 - r by omega] at p1
    obtain ⟨g', i1, i2⟩ := rmir_L hm7 v r (by omega) f (by omega) g2 (fun k hk => by
      by_cases e : k = 2 * m - 1 - (r + 1)
      · rw [e, p3, h r (by omega)]
        unfold MM
        rw [if_pos (by omega), if_neg (by omega), show 2 * m - 2 - (2 * m - 1 - (r + 1)) = r by omega]
      · rw [p2 k (by omega)]
        exact h k (by omega))
    refine ⟨g', ?_, i2⟩
    have e9 : ii r + (-1 : Int32) = ii r - (1 : Int32) := by
      rw [Int32.sub_eq_add_neg]
    rw [fX7_mirror_L46, if_neg (show ¬ (ii (r + 1) - (1 : Int32)) < 0 by rw [i_sub1 (by omega)]; exact i_pos (by omega)), i_sub1 (by omega), show r + 1 - 1 = r from rfl, if_neg (i_ix (by omega) (by omega)), i_nat (by omega), p1, Option.bind_some]
    simp only
    rw [e9]
    exact i1
theorem rmirror_ok (hn : NB n) (h : RG n m M bob sng c C D drw rb rs dif rep cz cf wz wf bf ob os chz chf gmf gmn gcf gcn) :
    ∃ dif' rep' wz' wf' bf' chz' chf' gmf' gmn', fX7_mirror dif rep cz 24 cf wz 336 wf 5040 bf (ii n) ob os chz 14 chf gmn gmf = some ((1 : Int32), dif', rep', wz', wf', bf', chz', chf', gmf', gmn') ∧
      RS n D gmn' drw rb rs dif' rep' cz cf wz' wf' bf' ob os chz' chf' gmf' gcf gcn := by
  obtain ⟨h0, h1, h2, hM, hT, rfl, hg, h3, h4⟩ := h
  have hm := mi_b hM
  unfold fX7_mirror
  by_cases c0 : gmn = 0
  · rw [if_pos (show Int32.ofNat gmn ≤ 0 by rw [c0]; decide), mirror_no hM (Or.inl c0), Option.bind_some, Sum.elim_inl]
    simp only
    rw [if_pos trivial]
    exact ⟨_, _, _, _, _, _, _, _, _, rfl, ⟨gmn, M, bob, sng, c, C, h0, h1, h2, hM, hT, rfl, hg, h3, h4⟩⟩
  · rw [if_neg (show ¬ Int32.ofNat gmn ≤ 0 from fun h9 => by have := (i_le (a := gmn) (b := 0) (by omega) (by omega)).mp h9; omega)]
    by_cases c8 : 8 ≤ gmn
    · rw [if_pos (show (8 : Int32) ≤ Int32.ofNat gmn from (i_le (a := 8) (b := gmn) (by omega) (by omega)).mpr c8), mirror_no hM (Or.inr c8), Option.bind_some, Sum.elim_inl]
      simp only
      rw [if_pos trivial]
      exact ⟨_, _, _, _, _, _, _, _, _, rfl, ⟨gmn, M, bob, sng, c, C, h0, h1, h2, hM, hT, rfl, hg, h3, h4⟩⟩
    · have hm7 : 0 < gmn ∧ gmn ≤ 7 := by omega
      obtain ⟨d2, r2, z2, w2, b2, c2, q1, q2, q3⟩ := mirror_ok hn hM hT hm7
      rw [if_neg (show ¬ (8 : Int32) ≤ Int32.ofNat gmn from fun h9 => c8 ((i_le (a := 8) (b := gmn) (by omega) (by omega)).mp h9)), q1, Option.bind_some, Sum.elim_inr]
      obtain ⟨g', p1, p2⟩ := rmir_L (M := M) hm7 (ii (2 * gmn - 1), d2, r2, z2, w2, b2, ii (2 * gmn - 1), c2) (gmn - 1) (by omega) 14 (by omega) gmf (fun k hk => by
        rw [hg k (by omega)]
        unfold MM
        rw [if_pos (by omega)])
      rw [show 2 * gmn - 1 - (gmn - 1) = gmn by omega] at p1
      have e2 : (Int32.ofNat gmn) - (2 : Int32) = ii (gmn - 1) - (1 : Int32) := i_start hm7.1
      rw [e2, p1, fX7_mirror_X46]
      simp only
      rw [if_pos trivial]
      exact ⟨_, _, _, _, _, _, _, _, _, rfl, ⟨2 * gmn - 1, MM gmn M, bob, sng, c, C, h0, h1, h2, q2, q3, rfl, p2, h3, h4⟩⟩
theorem i_turn {x : Int32} (h : x = 0 ∨ x = 1) : x = 0 ∨ x = 1 := h
theorem ract_ok (hL : L ≤ 260) (hn : NB n) (hD : D < 800000) (h : RG n m M bob sng c C D drw rb rs dif rep cz cf wz wf bf ob os chz chf gmf gmn gcf gcn) :
    ∃ drw' rb' rs' dif' rep' cz' cf' wz' wf' bf' ob' os' chz' chf' gmf' gmn' gcf' gcn', fX7_act L xs drw (ii n) rb rs dif rep cz 24 cf wz 336 wf 5040 bf (ii n) ob os chz 14 chf gmn gmf gcn gcf = some ((1 : Int32), drw', rb', rs', dif', rep', cz', cf', wz', wf', bf', ob', os', chz', chf', gmf', gmn', gcf', gcn') ∧
      RS n (D + 9) gmn' drw' rb' rs' dif' rep' cz' cf' wz' wf' bf' ob' os' chz' chf' gmf' gcf' gcn' := by
  have h0 := h
  obtain ⟨⟨d, rfl, hd⟩, h1⟩ := h
  obtain ⟨k, k1, k2⟩ := draw_ok hL xs (d := d) (p := 9) (by omega) (by omega) (by omega)
  have k2 : fX7_draw L xs (ii d) (9 : Int32) = some (ii k, ii (d + 1)) := k2
  have hG : RG n m M bob sng c C (D + 1) (ii (d + 1)) rb rs dif rep cz cf wz wf bf ob os chz chf gmf gmn gcf gcn := ⟨⟨d + 1, rfl, by omega⟩, h1⟩
  unfold fX7_act
  rw [k2, Option.bind_some]
  simp only
  rw [if_neg (show ¬ ii k < (0 : Int32) from i_pos (by omega))]
  by_cases c3 : (3 : Int32) < ii k
  · rw [if_pos c3]
    obtain ⟨a1, a2, a3, a4, a5, a6, a7, a8, a9, a10, e, c', C', hR⟩ := rcall_ok hL (xs := xs) hn (by omega) hG
    rw [e, Option.bind_some]
    simp only
    rw [if_pos (Or.inr trivial)]
    exact ⟨_, _, _, _, _, _, _, _, _, _, _, _, _, _, _, _, _, _, rfl, ⟨m, M, bob, sng, c', C', rg_mono hR (by omega)⟩⟩
  · rw [if_neg c3]
    by_cases e0 : ii k = (0 : Int32)
    · rw [if_pos e0]
      obtain ⟨a1, a2, a3, a4, a5, a6, a7, a8, a9, a10, e, ⟨m', M', bob', sng', c', C', hR⟩, -⟩ := rchange_ok hL (xs := xs) hn (by omega) hG
      rw [e, Option.bind_some]
      simp only
      rw [if_pos (Or.inr trivial)]
      exact ⟨_, _, _, _, _, _, _, _, _, _, _, _, _, _, _, _, _, _, rfl, ⟨m', M', bob', sng', c', C', rg_mono hR (by omega)⟩⟩
    · rw [if_neg e0]
      by_cases e1 : ii k = (1 : Int32)
      · rw [if_pos e1]
        obtain ⟨a1, a2, a3, a4, a5, a6, a7, a8, e, m', M', bob', sng', c', C', hR⟩ := runchange_ok hn hG
        rw [e, Option.bind_some]
        simp only
        rw [if_pos (Or.inr trivial)]
        exact ⟨_, _, _, _, _, _, _, _, _, _, _, _, _, _, _, _, _, _, rfl, ⟨m', M', bob', sng', c', C', rg_mono hR (by omega)⟩⟩
      · rw [if_neg e1]
        by_cases e2 : ii k = (2 : Int32)
        · rw [if_pos e2]
          obtain ⟨a1, a2, a3, a4, a5, a6, a7, a8, a9, a10, e, m', M', bob', sng', c', C', hR⟩ := rat_ok hL (xs := xs) hn (by omega) hG
          rw [e, Option.bind_some]
          simp only
          rw [if_pos (Or.inr trivial)]
          exact ⟨_, _, _, _, _, _, _, _, _, _, _, _, _, _, _, _, _, _, rfl, ⟨m', M', bob', sng', c', C', rg_mono hR (by omega)⟩⟩
        · rw [if_neg e2]
          by_cases e3 : ii k = (3 : Int32)
          · rw [if_pos e3]
            obtain ⟨a1, a2, a3, a4, a5, a6, a7, e, m', M', bob', sng', c', C', hR⟩ := runcall_ok hn hG
            rw [e, Option.bind_some]
            simp only
            rw [if_pos (Or.inr trivial)]
            exact ⟨_, _, _, _, _, _, _, _, _, _, _, _, _, _, _, _, _, _, rfl, ⟨m', M', bob', sng', c', C', rg_mono hR (by omega)⟩⟩
          · exfalso
            have f3 : ¬ ii 3 < ii k := c3
            rw [i_lt (by omega) (by omega)] at f3
            rcases (show k = 0 ∨ k = 1 ∨ k = 2 ∨ k = 3 by omega) with e | e | e | e <;> subst e
            · exact e0 rfl
            · exact e1 rfl
            · exact e2 rfl
            · exact e3 rfl
theorem i_dn1 {q : Nat} : ii (q + 1) + (-1 : Int32) = ii q := by
  rw [← Int32.sub_eq_add_neg (b := 1), i_sub1 (by omega)]
  rfl
/-- a tower just begun, and the changes told it -/
theorem found_L (hL : L ≤ 260) (hn : NB n) {g0 : Nat → Int32} {rd r0 : Int32} (K : Int32 → Int32 → Int32 → Int32 → (Nat → Int32) → (Nat → Int32) → Int32 → (Nat → Int32) → Nat → (Nat → Int32) → Int32 → Option (Int32 × Int32 × Int32 × Int32 × Int32 × Int32 × Int32 × Int32 × (Nat → Int32) × (Nat → Int32) × Int32 × Int32 × Int32 × Int32 × (Nat → Int32) × (Nat → Int32) × Nat)) :
    ∀ (q : Nat), q ≤ 5 → ∀ f, q < f → ∀ (D m : Nat) (M : Nat → Nat) (bob sng c : Nat) (C : Nat → Nat) (drw dif rep wz : Int32) (wf bf : Nat → Int32) (chz : Int32) (chf gmf : Nat → Int32) (gmn : Nat), D + 7 * q < 800000 → RG n m M bob sng c C D drw rb rs dif rep (0 : Int32) cf wz wf bf ob os chz chf gmf gmn gcf gcn →
      ∃ D' drw' dif' rep' wz' wf' bf' chz' chf' gmf' gmn', fX7_found_L17 L xs (r0, rd, ii n, rb, rs, g0, ii n, ob, os) 24 cf 336 5040 14 K f (ii q) dif rep wz wf bf chz chf gmn gmf drw = K (ii 0) dif' rep' wz' wf' bf' chz' chf' gmn' gmf' drw' ∧ D' ≤ D + 7 * q ∧
        RS n D' gmn' drw' rb rs dif' rep' (0 : Int32) cf wz' wf' bf' ob os chz' chf' gmf' gcf gcn
  | 0, hq, f + 1, hf, D, m, M, bob, sng, c, C, drw, dif, rep, wz, wf, bf, chz, chf, gmf, gmn, hD, h => by
    refine ⟨D, drw, dif, rep, wz, wf, bf, chz, chf, gmf, gmn, ?_, by omega, ⟨m, M, bob, sng, c, C, h⟩⟩
    rw [fX7_found_L17, if_pos (show ii 0 ≤ 0 by decide)]
  | q + 1, hq, f + 1, hf, D, m, M, bob, sng, c, C, drw, dif, rep, wz, wf, bf, chz, chf, gmf, gmn, hD, h => by
    obtain ⟨a1, a2, a3, a4, a5, a6, a7, a8, a9, a10, e, ⟨m', M', bob', sng', c', C', hR⟩, -⟩ := rchange_ok hL (xs := xs) hn (by omega) h
    obtain ⟨D', b1, b2, b3, b4, b5, b6, b7, b8, b9, b10, i1, i2, i3⟩ := found_L hL hn K q (by omega) f (by omega) (D + 7) m' M' bob' sng' c' C' a1 a2 a3 a4 a5 a6 a7 a8 a9 a10 (by omega) hR
    refine ⟨D', b1, b2, b3, b4, b5, b6, b7, b8, b9, b10, ?_, by omega, i3⟩
    rw [fX7_found_L17, if_neg (show ¬ ii (q + 1) ≤ 0 from fun h9 => by have := (i_le (b := 0) (by omega) (by omega)).mp h9; omega)]
    simp only
    rw [e, Option.bind_some]
    simp only
    rw [if_neg (by decide), i_dn1]
    exact i1
theorem found_ok (hL : L ≤ 260) (xs : Nat → Int32) {d : Nat} (hd : d < 700000) (cf wf bf chf : Nat → Int32) :
    ∃ n drw' rb' rs' dif' rep' wz' wf' bf' ob' os' chz' chf' gmf' gmn', NB n ∧ fX7_found L xs (ii d) 24 cf 336 wf 5040 bf 14 chf = some ((1 : Int32), drw', ii n, rb', rs', dif', rep', wz', wf', bf', ii n, ob', os', chz', chf', gmf', gmn') ∧
      RS n (d + 100) gmn' drw' rb' rs' dif' rep' (0 : Int32) cf wz' wf' bf' ob' os' chz' chf' gmf' (fun _ => 0) 0 := by
  obtain ⟨k, k1, k2⟩ := draw_ok hL xs (d := d) (p := 4) (by omega) (by omega) (by omega)
  have k2 : fX7_draw L xs (ii d) (4 : Int32) = some (ii k, ii (d + 1)) := k2
  have hn : NB (4 + k) := by unfold NB; omega
  have en : (4 : Int32) + ii k = ii (4 + k) := i_add 4 k
  obtain ⟨g, g1, g2⟩ := begin_ok hn bf
  obtain ⟨a, a1, a2⟩ := rounds_ok hn
  have ea : ((1 : Int32) <<< (ii (4 + k) &&& 31)) - (1 : Int32) = ii (allC (4 + k)) := by
    rcases (show k = 0 ∨ k = 1 ∨ k = 2 ∨ k = 3 by omega) with e | e | e | e <;> subst e <;> decide
  obtain ⟨j, j1, j2⟩ := draw_ok hL xs (d := d + 1) (p := 5) (by omega) (by omega) (by omega)
  have j2 : fX7_draw L xs (ii (d + 1)) (5 : Int32) = some (ii j, ii (d + 1 + 1)) := j2
  have eb : fX7_begin L xs (ii d) 5040 bf = some ((1 : Int32), ii (d + 1), ii (4 + k), ii (allC (4 + k)), ii (allC (4 + k)), g, ii (4 + k), ii (allC (4 + k)), ii (allC (4 + k))) := by
    unfold fX7_begin
    rw [k2, Option.bind_some]
    simp only
    rw [en, g1, Option.bind_some, Sum.elim_inr, a1, Option.bind_some]
    simp only
    rw [tell_ok hn (isR_rounds _) a2, Option.bind_some, if_pos rfl, ea]
  have hG : RG (4 + k) 0 (fun _ => 0) (allC (4 + k)) (allC (4 + k)) 0 (fun _ => 0) (d + 2) (ii (d + 1 + 1)) (ii (allC (4 + k))) (ii (allC (4 + k))) (0 : Int32) (-1 : Int32) (0 : Int32) cf (0 : Int32) wf g (ii (allC (4 + k))) (ii (allC (4 + k))) (0 : Int32) chf (fun _ => 0) 0 (fun _ => 0) 0 :=
    ⟨⟨d + 1 + 1, rfl, by omega⟩, rfl, rfl, ⟨rfl, rfl, rfl, ln_nil 14 (by omega) _ _, fun k hk => absurd hk (Nat.not_lt_zero _), allC_ok hn, allC_ok hn⟩,
      ⟨ln_nil 24 (by omega) _ _, fun k hk => absurd hk (Nat.not_lt_zero _), by rw [Nat.zero_mul]; exact ti_nil g2⟩, rfl, fun k hk => absurd hk (Nat.not_lt_zero _), rfl, fun k hk => absurd hk (Nat.not_lt_zero _)⟩
  obtain ⟨D', b1, b2, b3, b4, b5, b6, b7, b8, b9, b10, i1, i2, m', M', bob', sng', c', C', hR⟩ := found_L (r0 := (1 : Int32)) (rd := ii (d + 1)) (g0 := g) hL (xs := xs) hn (fX7_found_X17 L xs ((1 : Int32), ii (d + 1), ii (4 + k), ii (allC (4 + k)), ii (allC (4 + k)), g, ii (4 + k), ii (allC (4 + k)), ii (allC (4 + k))) 24 cf 336 5040 14) (1 + j) (by omega) 6 (by omega) (d + 2) 0 _ _ _ 0 _ _ _ _ _ _ _ _ _ _ _ (by omega) hG
  have h0 := hR
  obtain ⟨⟨e, rfl, he⟩, h1⟩ := hR
  obtain ⟨t, t1, t2⟩ := draw_ok hL xs (d := e) (p := 2) (by omega) (by omega) (by omega)
  have t2 : fX7_draw L xs (ii e) (2 : Int32) = some (ii t, ii (e + 1)) := t2
  have hG2 : RG (4 + k) m' M' bob' sng' c' C' (D' + 1) (ii (e + 1)) _ _ _ _ _ _ _ _ _ _ _ _ _ _ _ _ _ := ⟨⟨e + 1, rfl, by omega⟩, h1⟩
  have ej : (1 : Int32) + ii j = ii (1 + j) := i_add 1 j
  by_cases c0 : ii t = 0
  · obtain ⟨u1, u2, u3, u4, u5, u6, u7, u8, u9, u10, ue, m1, M1, bob1, sng1, c1, C1, hR1⟩ := rat_ok hL (xs := xs) hn (by omega) hG2
    obtain ⟨v1, v2, v3, v4, v5, v6, v7, v8, v9, v10, ve, m2, M2, bob2, sng2, c2, C2, hR2⟩ := rat_ok hL (xs := xs) hn (by omega) hR1
    refine ⟨4 + k, v1, v2, v3, v4, v5, v6, v7, v8, v9, v10, b7, b8, b9, b10, hn, ?_, ⟨m2, M2, bob2, sng2, c2, C2, rg_mono hR2 (by omega)⟩⟩
    unfold fX7_found
    rw [eb, Option.bind_some]
    simp only
    rw [if_neg (by decide), j2, Option.bind_some]
    simp only
    rw [ej]
    refine i1.trans ?_
    rw [fX7_found_X17, t2, Option.bind_some]
    simp only
    rw [if_pos c0, ue, Option.bind_some]
    simp only
    rw [if_neg (by decide), ve, Option.bind_some]
    simp only
    rw [if_neg (by decide)]
  · obtain ⟨w1, w2, w3, w4, w5, w6, w7, w8, w9, we, m0, M0, bob0, sng0, c0', C0, hR0⟩ := rmirror_ok hn hG2
    obtain ⟨u1, u2, u3, u4, u5, u6, u7, u8, u9, u10, ue, m1, M1, bob1, sng1, c1, C1, hR1⟩ := rat_ok hL (xs := xs) hn (by omega) hR0
    obtain ⟨v1, v2, v3, v4, v5, v6, v7, v8, v9, v10, ve, m2, M2, bob2, sng2, c2, C2, hR2⟩ := rat_ok hL (xs := xs) hn (by omega) hR1
    refine ⟨4 + k, v1, v2, v3, v4, v5, v6, v7, v8, v9, v10, w6, w7, w8, w9, hn, ?_, ⟨m2, M2, bob2, sng2, c2, C2, rg_mono hR2 (by omega)⟩⟩
    unfold fX7_found
    rw [eb, Option.bind_some]
    simp only
    rw [if_neg (by decide), j2, Option.bind_some]
    simp only
    rw [ej]
    refine i1.trans ?_
    rw [fX7_found_X17, t2, Option.bind_some]
    simp only
    rw [if_neg c0, we, Option.bind_some]
    simp only
    rw [if_neg (by decide), ue, Option.bind_some]
    simp only
    rw [if_neg (by decide), ve, Option.bind_some]
    simp only
    rw [if_neg (by decide)]
end FO
