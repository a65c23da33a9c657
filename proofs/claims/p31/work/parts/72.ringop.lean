/-! PURE: the calls of the law's own tower -/
def RG (n m : Nat) (M : Nat → Nat) (bob sng c : Nat) (C : Nat → Nat) (D : Nat) (drw rb rs : Int32) (dif rep cz : Int32) (cf : Nat → Int32) (wz : Int32) (wf bf : Nat → Int32) (ob os chz : Int32) (chf : Nat → Int32) (gmf : Nat → Int32) (gmn : Nat) (gcf : Nat → Int32) (gcn : Nat) : Prop :=
  (∃ d, drw = ii d ∧ d ≤ D) ∧ rb = ii bob ∧ rs = ii sng ∧ MI n m M bob sng (ii n) ob os chz chf ∧ TT n m M bob sng c C dif rep cz cf wz wf bf ∧ gmn = m ∧ (∀ k, k < m → gmf k = ii (M k)) ∧ gcn = c ∧ ∀ k, k < c → gcf k = ii (C k)
section RO
variable {L : Nat} {xs : Nat → Int32} {n m : Nat} {M : Nat → Nat} {bob sng c : Nat} {C : Nat → Nat} {D : Nat} {drw rb rs : Int32} {dif rep cz : Int32} {cf : Nat → Int32} {wz : Int32} {wf bf : Nat → Int32} {ob os chz : Int32} {chf gmf gcf : Nat → Int32} {gmn gcn : Nat}
/-- what a call gives: 1, and a tower with some method and calls, told as it is -/
def RS (n D : Nat) (gmfn : Nat) (drw rb rs dif rep cz : Int32) (cf : Nat → Int32) (wz : Int32) (wf bf : Nat → Int32) (ob os chz : Int32) (chf gmf : Nat → Int32) (gcf : Nat → Int32) (gcn : Nat) : Prop :=
  ∃ m M bob sng c C, RG n m M bob sng c C D drw rb rs dif rep cz cf wz wf bf ob os chz chf gmf gmfn gcf gcn
theorem rg_mono {D' : Nat} (h : RG n m M bob sng c C D drw rb rs dif rep cz cf wz wf bf ob os chz chf gmf gmn gcf gcn) (hD : D ≤ D') : RG n m M bob sng c C D' drw rb rs dif rep cz cf wz wf bf ob os chz chf gmf gmn gcf gcn := by
  obtain ⟨⟨d, h1, h2⟩, h3⟩ := h
  exact ⟨⟨d, h1, by omega⟩, h3⟩
theorem rchange_ok (hL : L ≤ 260) (hn : NB n) (hD : D < 900000) (h : RG n m M bob sng c C D drw rb rs dif rep cz cf wz wf bf ob os chz chf gmf gmn gcf gcn) :
    ∃ drw' dif' rep' wz' wf' bf' chz' chf' gmf' gmn', fX7_change L xs drw (ii n) dif rep cz 24 cf wz 336 wf 5040 bf (ii n) ob os chz 14 chf gmn gmf = some ((1 : Int32), drw', dif', rep', wz', wf', bf', chz', chf', gmf', gmn') ∧
      RS n (D + 7) gmn' drw' rb rs dif' rep' cz cf wz' wf' bf' ob os chz' chf' gmf' gcf gcn ∧ 0 < gmn' := by
  obtain ⟨⟨d, rfl, hd⟩, h1, h2, hM, hT, rfl, hg, h3, h4⟩ := h
  have hm := mi_b hM
  obtain ⟨x, d', e1, e2, e3⟩ := any_ok hL xs hn (d := d) (by omega)
  unfold fX7_change
  rw [e1, Option.bind_some]
  simp only
  by_cases c14 : gmn = 14
  · rw [if_pos (show Int32.ofNat gmn = (14 : Int32) by rw [c14]; rfl)]
    exact ⟨_, _, _, _, _, _, _, _, _, _, rfl, ⟨gmn, M, bob, sng, c, C, ⟨d', rfl, by omega⟩, h1, h2, hM, hT, rfl, hg, h3, h4⟩, by omega⟩
  · rw [if_neg (show ¬ Int32.ofNat gmn = (14 : Int32) from fun h9 => c14 ((i_eq (a := gmn) (b := 14) (by omega) (by omega)).mp h9))]
    obtain ⟨g, p1, p2, p3⟩ := plus_ok (p := gmn) (by omega) gmf (ii x)
    obtain ⟨d2, r2, z2, w2, b2, c2, q1, q2, q3⟩ := change_ok hn hM hT (by omega) e2
    rw [p1, Option.bind_some, q1, Option.bind_some, Sum.elim_inr]
    simp only
    rw [if_pos trivial]
    refine ⟨_, _, _, _, _, _, _, _, _, _, rfl, ⟨gmn + 1, _, bob, sng, c, C, ⟨d', rfl, by omega⟩, h1, h2, q2, q3, rfl, fun k hk => ?_, h3, h4⟩, by omega⟩
    by_cases e : k = gmn
    · rw [e, p3]
      simp only [if_pos]
    · rw [p2 k (by omega), hg k (by omega)]
      simp only [if_neg e]
theorem runchange_ok (hn : NB n) (h : RG n m M bob sng c C D drw rb rs dif rep cz cf wz wf bf ob os chz chf gmf gmn gcf gcn) :
    ∃ dif' rep' wz' wf' bf' chz' gmf' gmn', fX7_unchange dif rep cz 24 cf wz 336 wf 5040 bf (ii n) ob os chz 14 chf gmn gmf = some ((1 : Int32), dif', rep', wz', wf', bf', chz', gmf', gmn') ∧
      RS n D gmn' drw rb rs dif' rep' cz cf wz' wf' bf' ob os chz' chf gmf' gcf gcn := by
  obtain ⟨h0, h1, h2, hM, hT, rfl, hg, h3, h4⟩ := h
  have hm := mi_b hM
  unfold fX7_unchange
  by_cases c0 : gmn = 0
  · rw [if_pos (show Int32.ofNat gmn = 0 by rw [c0]; rfl)]
    exact ⟨_, _, _, _, _, _, _, _, rfl, ⟨gmn, M, bob, sng, c, C, h0, h1, h2, hM, hT, rfl, hg, h3, h4⟩⟩
  · obtain ⟨k, rfl⟩ : ∃ k, gmn = k + 1 := ⟨gmn - 1, by omega⟩
    have e1 : (Int32.ofNat (k + 1)) - (1 : Int32) = ii k := i_sub1 (a := k + 1) (by omega)
    obtain ⟨g, p1, p2⟩ := less_ok (p := k) (by omega) gmf
    obtain ⟨d2, r2, z2, w2, b2, q1, q2, q3⟩ := unchange_ok hn hM hT
    rw [if_neg (show ¬ Int32.ofNat (k + 1) = 0 from fun h9 => c0 ((i_eq (a := k + 1) (b := 0) (by omega) (by omega)).mp h9)), e1, if_neg (i_ix (by omega) (by omega)), p1, Option.bind_some, q1, Option.bind_some, Sum.elim_inr]
    simp only
    rw [i_nat (by omega), hg k (by omega), if_pos rfl]
    exact ⟨_, _, _, _, _, _, _, _, rfl, ⟨k, M, bob, sng, c, C, h0, h1, h2, q2, q3, rfl, fun j hj => by rw [p2 j hj, hg j (by omega)], h3, h4⟩⟩
theorem rat_ok (hL : L ≤ 260) (hn : NB n) (hD : D < 900000) (h : RG n m M bob sng c C D drw rb rs dif rep cz cf wz wf bf ob os chz chf gmf gmn gcf gcn) :
    ∃ drw' rb' rs' dif' rep' wz' wf' bf' ob' os', fX7_at L xs drw (ii n) rb rs cz 24 cf 336 wf 5040 bf (ii n) ob os chz 14 chf = some ((1 : Int32), drw', rb', rs', dif', rep', wz', wf', bf', ob', os') ∧
      RS n (D + 8) gmn drw' rb' rs' dif' rep' cz cf wz' wf' bf' ob' os' chz chf gmf gcf gcn := by
  obtain ⟨⟨d, rfl, hd⟩, rfl, rfl, hM, hT, h5, hg, h3, h4⟩ := h
  obtain ⟨x, d', e1, e2, e3⟩ := any_ok hL xs hn (d := d) (by omega)
  obtain ⟨k, k1, k2⟩ := draw_ok hL xs (d := d') (p := 2) (by omega) (by omega) (by omega)
  have k2 : fX7_draw L xs (ii d') (2 : Int32) = some (ii k, ii (d' + 1)) := k2
  obtain ⟨⟨d1, r1, z1, w1, b1, p1, p2, p3⟩, ⟨d2, r2, z2, w2, b2, q1, q2, q3⟩⟩ := at_ok hn hM hT e2
  unfold fX7_at
  rw [e1, Option.bind_some]
  simp only
  rw [k2, Option.bind_some]
  simp only
  by_cases c0 : ii k = 0
  · rw [if_pos c0, p1, Option.bind_some, Sum.elim_inr]
    simp only
    rw [if_pos trivial]
    exact ⟨_, _, _, _, _, _, _, _, _, _, rfl, ⟨m, M, x, sng, c, C, ⟨d' + 1, rfl, by omega⟩, rfl, rfl, p2, p3, h5, hg, h3, h4⟩⟩
  · rw [if_neg c0, q1, Option.bind_some, Sum.elim_inr]
    simp only
    rw [if_pos trivial]
    exact ⟨_, _, _, _, _, _, _, _, _, _, rfl, ⟨m, M, bob, x, c, C, ⟨d' + 1, rfl, by omega⟩, rfl, rfl, q2, q3, h5, hg, h3, h4⟩⟩
theorem runcall_ok (hn : NB n) (h : RG n m M bob sng c C D drw rb rs dif rep cz cf wz wf bf ob os chz chf gmf gmn gcf gcn) :
    ∃ dif' rep' cz' wz' bf' gcf' gcn', fX7_uncall dif rep cz 24 cf wz 336 wf 5040 bf (ii n) chz gcn gcf = some ((1 : Int32), dif', rep', cz', wz', bf', gcf', gcn') ∧
      RS n D gmn drw rb rs dif' rep' cz' cf wz' wf bf' ob os chz chf gmf gcf' gcn' := by
  obtain ⟨h0, h1, h2, hM, hT, h5, hg, rfl, h4⟩ := h
  have hb := tt_b hT
  unfold fX7_uncall
  by_cases c0 : gcn = 0
  · rw [if_pos (show Int32.ofNat gcn = 0 by rw [c0]; rfl)]
    exact ⟨_, _, _, _, _, _, _, rfl, ⟨m, M, bob, sng, gcn, C, h0, h1, h2, hM, hT, h5, hg, rfl, h4⟩⟩
  · obtain ⟨k, rfl⟩ : ∃ k, gcn = k + 1 := ⟨gcn - 1, by omega⟩
    have e1 : (Int32.ofNat (k + 1)) - (1 : Int32) = ii k := i_sub1 (a := k + 1) (by omega)
    obtain ⟨g, p1, p2⟩ := less_ok (p := k) (by omega) gcf
    obtain ⟨d2, r2, z2, b2, q1, q2⟩ := uncall_ok hn hM hT
    rw [if_neg (show ¬ Int32.ofNat (k + 1) = 0 from fun h9 => c0 ((i_eq (a := k + 1) (b := 0) (by omega) (by omega)).mp h9)), e1, if_neg (i_ix (by omega) (by omega)), p1, Option.bind_some, q1, Option.bind_some, Sum.elim_inr]
    simp only
    rw [i_nat (by omega), h4 k (by omega), if_pos rfl]
    exact ⟨_, _, _, _, _, _, _, rfl, ⟨m, M, bob, sng, k, C, h0, h1, h2, hM, q2, h5, hg, rfl, fun j hj => by rw [p2 j hj, h4 j (by omega)]⟩⟩
theorem rcall_ok (hL : L ≤ 260) (hn : NB n) (hD : D < 900000) (h : RG n m M bob sng c C D drw rb rs dif rep cz cf wz wf bf ob os chz chf gmf gmn gcf gcn) :
    ∃ drw' dif' rep' cz' cf' wz' wf' bf' gcf' gcn', fX7_call L xs drw (ii n) rb rs dif rep cz 24 cf wz 336 wf 5040 bf (ii n) ob os chz 14 chf gmn gmf gcn gcf = some ((1 : Int32), drw', dif', rep', cz', cf', wz', wf', bf', gcf', gcn') ∧
      ∃ c' C', RG n m M bob sng c' C' (D + 2) drw' rb rs dif' rep' cz' cf' wz' wf' bf' ob os chz chf gmf gmn gcf' gcn' := by
  obtain ⟨⟨d, rfl, hd⟩, rfl, rfl, hM, hT, rfl, hg, rfl, h4⟩ := h
  have hb := tt_b hT
  have hm := mi_b hM
  unfold fX7_call
  by_cases c24 : gcn = 24
  · rw [if_pos (show Int32.ofNat gcn = (24 : Int32) by rw [c24]; rfl)]
    exact ⟨_, _, _, _, _, _, _, _, _, _, rfl, gcn, C, ⟨d, rfl, by omega⟩, rfl, rfl, hM, hT, rfl, hg, rfl, h4⟩
  · rw [if_neg (show ¬ Int32.ofNat gcn = (24 : Int32) from fun h9 => c24 ((i_eq (a := gcn) (b := 24) (by omega) (by omega)).mp h9))]
    obtain ⟨k, k1, k2⟩ := draw_ok hL xs (d := d) (p := 2) (by omega) (by omega) (by omega)
    obtain ⟨j, j1, j2⟩ := draw_ok hL xs (d := d + 1) (p := 3) (by omega) (by omega) (by omega)
    have k2 : fX7_draw L xs (ii d) (2 : Int32) = some (ii k, ii (d + 1)) := k2
    have j2 : fX7_draw L xs (ii (d + 1)) (3 : Int32) = some (ii j, ii (d + 1 + 1)) := j2
    have hq : k * j ≤ 2 := by
      have : k * j ≤ 1 * 2 := Nat.mul_le_mul (by omega) (by omega)
      omega
    rw [k2, Option.bind_some]
    simp only
    rw [j2, Option.bind_some]
    simp only
    obtain ⟨g, p1, p2, p3⟩ := plus_ok (p := gcn) (by omega) gcf (ii (k * j))
    rw [i_mul, p1, Option.bind_some]
    simp only
    obtain ⟨d2, r2, f2, z2, w2, b2, q1, q2⟩ := call_ok hn hM hT (by omega) hq
    have hp' : ∀ i, i < gcn + 1 → g i = ii ((fun k' => if k' = gcn then k * j else C k') i) := fun i hi => by
      by_cases e : i = gcn
      · rw [e, p3]
        simp only [if_pos]
      · rw [p2 i (by omega), h4 i (by omega)]
        simp only [if_neg e]
    obtain ⟨z, y1, y2⟩ := rows_ok hn hm hM.2.2.2.2.1 hM.2.2.2.2.2.1 hM.2.2.2.2.2.2 hg (show gcn + 1 ≤ 24 by omega) hp' q2.2.1
    have e1 : (Int32.ofNat (gcn + 1)) - (1 : Int32) = ii gcn := i_sub1 (a := gcn + 1) (by omega)
    have hcm : (gcn + 1) * gmn ≤ 24 * 14 := Nat.mul_le_mul (by omega) hm
    rw [y1, Option.bind_some]
    simp only
    rw [e1, if_neg (i_ix (by omega) (by omega)), i_nat (show gcn < 2147483648 by omega), p3, q1, Option.bind_some, Sum.elim_inr]
    simp only
    have hRG : RG n gmn M bob sng (gcn + 1) (fun k' => if k' = gcn then k * j else C k') (D + 2) (ii (d + 1 + 1)) (ii bob) (ii sng) d2 r2 (ii (gcn + 1)) f2 z2 w2 b2 ob os chz chf gmf gmn g (gcn + 1) := ⟨⟨d + 1 + 1, rfl, by omega⟩, rfl, rfl, hM, q2, rfl, hg, rfl, hp'⟩
    by_cases c0 : (gcn + 1) * gmn = 0
    · rw [if_pos (show Int32.ofNat ((gcn + 1) * gmn) = 0 by rw [c0]; rfl)]
      obtain ⟨g0, u1, u2⟩ := rounds_ok hn
      rw [u1, Option.bind_some]
      simp only
      rw [tell_ok hn (isR_rounds n) u2, Option.bind_some, if_pos (by rw [c0]; rfl)]
      exact ⟨_, _, _, _, _, _, _, _, _, _, rfl, _, _, hRG⟩
    · have e2 : (Int32.ofNat ((gcn + 1) * gmn)) - (1 : Int32) = ii ((gcn + 1) * gmn - 1) := i_sub1 (a := (gcn + 1) * gmn) (by omega)
      rw [if_neg (show ¬ Int32.ofNat ((gcn + 1) * gmn) = 0 from fun h9 => c0 ((i_eq (a := (gcn + 1) * gmn) (b := 0) (by omega) (by omega)).mp h9)), e2, if_neg (i_ix (by omega) (by omega)), if_neg (by omega), i_nat (show n < 2147483648 by have := nb_le hn; omega), tell_ok hn (rl_isR n gmn M bob sng _ _) y2, Option.bind_some, if_pos rfl]
      exact ⟨_, _, _, _, _, _, _, _, _, _, rfl, _, _, hRG⟩
end RO
